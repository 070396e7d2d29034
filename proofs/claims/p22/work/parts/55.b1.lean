theorem E257 {X : zX} {l : Launch} {M : zM} {Q : Option Value → zM → Prop} (hs : zSk zMm M) (hI : zIv mLo mHi M) {hh : Int} {gg : Nat → Int} {nn : Int} (pH : zGh M hh) (u0 : (zI M 336 11).toInt ≤ 5 * (zI M 336 13).toInt + 9) (u1 : (zI M 336 6).toInt ≤ (zI M 336 5).toInt) (u2 : (zI M 336 7).toInt = -1) (x0 : 0 ≤ hh ∧ hh ≤ 56) (x1 : zTm M gg nn) (hQ : ∀ (M' : zM) (v : Int32), zSk zMm M' → zIv mLo mHi M' → zFr [(336, 336, some 6), (336, 336, some 7), (336, 336, some 8), (336, 336, some 11), (336, 336, some 13), (340, 340, none)] M M' → zJ M' 351 = zJ M 351 → ((zI M 336 6).toInt ≤ (zI M' 336 6).toInt) → (v.toInt = 0 ∨ ((zI M 336 13).toInt + 2 ≤ (zI M' 336 13).toInt ∧ (zI M' 336 11).toInt ≤ (zI M 336 11).toInt + 2 * ((zI M' 336 13).toInt - (zI M 336 13).toInt) - 1)) → (v.toInt = 0 ∨ zGh M' (hh + 1)) → (∀ (p : Nat) (t : Int), (zI M 336 6).toInt = (p : Int) → (zI M 336 13).toInt = t → zocm M' v.toInt nn (pCm gg (p, t))) → 0 ≤ v.toInt → v.toInt ≤ 1 → Q (some (.int v)) M') : zCall X l 4 0 0 257 [.ref 336] M Q := by
  refine zs_in (by decide) mf257 (Nat.le_of_ble_eq_true rfl) ?_
  show zGo X l 4 0 0 257 0 [(0, .ref 336)] [] M _
  have hn := x1.2
  have w1 := ib336_5 hI
  have w2 : (zI M 336 5).toInt = (zI M 336 5).toInt := (congrArg Int32.toInt rfl).trans rfl
  have w3 := ib336_6 hI
  have w4 : (zI M 336 6).toInt = (zI M 336 6).toInt := (congrArg Int32.toInt rfl).trans rfl
  have w5 := ib336_7 hI
  have w6 : (zI M 336 7).toInt = (zI M 336 7).toInt := (congrArg Int32.toInt rfl).trans rfl
  have w7 := ib336_13 hI
  have w8 : (zI M 336 13).toInt = (zI M 336 13).toInt := (congrArg Int32.toInt rfl).trans rfl
  obtain ⟨w9n, w9⟩ : ∃ n : Nat, (zI M 336 6).toInt = (n : Int) := ⟨((zI M 336 6).toInt).toNat, by omega⟩
  refine zs_aload_n (pc := 0) t257_0 rfl ?_
  have w10 : (zI M 336 6).toInt = (zI M 336 6).toInt := (congrArg Int32.toInt rfl).trans rfl
  have w11 : (zI M 336 5).toInt = (zI M 336 5).toInt := (congrArg Int32.toInt rfl).trans rfl
  have w12 : (zI M 336 13).toInt = (zI M 336 13).toInt := (congrArg Int32.toInt rfl).trans rfl
  have w13 : (zI M 336 7).toInt = (zI M 336 7).toInt := (congrArg Int32.toInt rfl).trans rfl
  have w14 := ib336_11 hI
  have w15 : (zI M 336 11).toInt = (zI M 336 11).toInt := (congrArg Int32.toInt rfl).trans rfl
  have w16 : (zI M 336 11).toInt = (zI M 336 11).toInt := (congrArg Int32.toInt rfl).trans rfl
  have w17 : (zI M 336 6).toInt = (zI M 336 6).toInt := (congrArg Int32.toInt rfl).trans rfl
  have w18 : (zI M 336 13).toInt = (zI M 336 13).toInt := (congrArg Int32.toInt rfl).trans rfl
  refine zs_invV (pc := 1) (k := 336) (as' := []) (st := []) t257_1 mf258 rfl rfl (Or.inl ⟨by decide, (zk1 (hs.k fk_zMm_336))⟩) ⟨by decide, by decide, Nat.le_of_ble_eq_true rfl, Nat.le_of_ble_eq_true rfl⟩ (E258 hs hI pH (by omega) (by omega) (by omega) (by omega) x1 ?_) (fun _ _ q => q)
  intro w19M w19v w19s w19I w19F w19J w19t0 w19t1 w19x0 w19x1 w19a w19b
  have w20 := ib336_11 w19I
  have w21 := ib336_6 w19I
  have w22 := ib336_13 w19I
  have w23 : (zI M 336 6).toInt = (zI M 336 6).toInt := (congrArg Int32.toInt rfl).trans rfl
  have w24 : (zI M 336 13).toInt = (zI M 336 13).toInt := (congrArg Int32.toInt rfl).trans rfl
  have w19z := w19x1 w9n (zI M 336 13).toInt (by omega) (by omega)
  show zGo X l 4 0 0 257 4 [(0, .ref 336)] [.int w19v] w19M _
  by_cases w25 : w19v.toInt = 0
  · skip
    have w25e := (w19z.resolve_right (fun q => q.1 w25)).2
    refine zs_if_neF (pc := 4) t257_4 rfl (by omega) ?_
    refine zs_iconst (pc := 7) t257_7 (v := 0) (by decide) ?_
    have w26 : (zI w19M 336 11).toInt = (zI w19M 336 11).toInt := (congrArg Int32.toInt rfl).trans rfl
    have w27 : (zI w19M 336 6).toInt = (zI w19M 336 6).toInt := (congrArg Int32.toInt rfl).trans rfl
    have w28 : (zI w19M 336 13).toInt = (zI w19M 336 13).toInt := (congrArg Int32.toInt rfl).trans rfl
    have w29 := li0
    have w30 : (zI w19M 336 6).toInt = (zI w19M 336 6).toInt := (congrArg Int32.toInt rfl).trans rfl
    have w31 := ib336_7 w19I
    have w32 : (zI w19M 336 7).toInt = (zI w19M 336 7).toInt := (congrArg Int32.toInt rfl).trans rfl
    have w33 : (zI w19M 336 13).toInt = (zI w19M 336 13).toInt := (congrArg Int32.toInt rfl).trans rfl
    exact zs_iret (pc := 8) t257_8 mr257 (by decide) (hQ _ _ w19s w19I ((zFr.refl).trans (w19F.mono rfl)) w19J (by omega) (by omega) (Or.inl (by decide)) (fun p t hp ht => by obtain rfl : w9n = p := (by omega); subst ht; exact zocm.f (by decide) (by omega) (pCm.f w25e)) (by decide) (by decide))
  · skip
    have w25H := w19x0.resolve_left w25
    obtain ⟨w257, w25p, w25t, w25e, w253, w254, w255⟩ := (w19z.resolve_left (fun q => w25 q.1)).2
    subst w254
    refine zs_if_neT (pc := 4) t257_4 rfl (by omega) ?_
    refine zs_aload_n (pc := 9) t257_9 rfl ?_
    refine zs_invV (pc := 10) (k := 336) (as' := []) (st := []) t257_10 mf238 rfl rfl (Or.inl ⟨by decide, (zk1 (w19s.k fk_zMm_336))⟩) ⟨by decide, by decide, Nat.le_of_ble_eq_true rfl, Nat.le_of_ble_eq_true rfl⟩ (H238 w19s w19I ?_) (fun _ _ q => q)
    have w34 := zhere.rg (M := w19M)
    have w35 : (zI w19M 336 6).toInt = (zI w19M 336 6).toInt := (congrArg Int32.toInt rfl).trans rfl
    have w36 : (zI w19M 336 5).toInt = (zI M 336 5).toInt := (congrArg Int32.toInt ((w19F 336 5 rfl).trans rfl)).trans rfl
    have w37 : (zI w19M 336 6).toInt = (zI w19M 336 6).toInt := (congrArg Int32.toInt rfl).trans rfl
    have w38 : (zI w19M 336 5).toInt = (zI M 336 5).toInt := (congrArg Int32.toInt ((w19F 336 5 rfl).trans rfl)).trans rfl
    have w39 : (zhere w19M).toInt = gg w25p := zhere.tr (zTm.mk x1 (fun j => (w19F 339 j rfl)) (w19F 336 5 rfl)) (by omega)
    have w40 := zTm.rg x1 w25p
    show zGo X l 4 0 0 257 13 [(0, .ref 336)] [.int (zhere w19M)] w19M _
    refine zs_istore_n (pc := 13) t257_13 (ls' := [(1, .int (zhere w19M)), (0, .ref 336)]) (zml mf257 (by decide)) rfl ?_
    refine zs_iload_n (pc := 14) t257_14 rfl ?_
    refine zs_bipush (pc := 15) t257_15 (v := 60) (by decide) ?_
    by_cases w41 : (zhere w19M).toInt = 60
    · refine zs_icmp_eqT (pc := 17) t257_17 rfl li60 (by omega) ?_
      refine zs_aload_n (pc := 41) t257_41 rfl ?_
      refine zs_dup (pc := 42) t257_42 rfl ?_
      refine zs_get (pc := 43) t257_43 (by decide) (zk1 (w19s.k fk_zMm_336)) (zfvi rfl rfl) ?_
      refine zs_iconst (pc := 46) t257_46 (v := 1) (by decide) ?_
      obtain ⟨w42v, w42e, w42⟩ := ziadd (a := (zI w19M 336 6)) (b := (1 : Int32)) rfl li1 (by omega) (by omega)
      refine zs_iadd (pc := 47) t257_47 (c := w42v) w42e ?_
      have w43 : zIv mLo mHi (zsI w19M 336 6 w42v) := zIv.put w19I (show 0 ≤ w42v.toInt ∧ w42v.toInt ≤ 500 from ⟨by omega, by omega⟩)
      refine zs_putI (pc := 48) t257_48 (zk1 (w19s.k fk_zMm_336)) rfl ?_
      refine zs_aload_n (pc := 51) t257_51 rfl ?_
      have w44 : (zI (zsI w19M 336 6 w42v) 336 6).toInt = ((zI w19M 336 6).toInt + 1) := (congrArg Int32.toInt zIs).trans w42
      have w45 : (zI (zsI w19M 336 6 w42v) 336 5).toInt = (zI M 336 5).toInt := (congrArg Int32.toInt ((zIoj (by decide)).trans ((w19F 336 5 rfl).trans rfl))).trans rfl
      have w46 : (zI (zsI w19M 336 6 w42v) 336 13).toInt = (zI w19M 336 13).toInt := (congrArg Int32.toInt ((zIoj (by decide)).trans rfl)).trans rfl
      have w47 := ib336_7 w19I
      have w48 : (zI (zsI w19M 336 6 w42v) 336 7).toInt = (zI w19M 336 7).toInt := (congrArg Int32.toInt ((zIoj (by decide)).trans rfl)).trans rfl
      have w49 : (zI (zsI w19M 336 6 w42v) 336 11).toInt = (zI w19M 336 11).toInt := (congrArg Int32.toInt ((zIoj (by decide)).trans rfl)).trans rfl
      have w50 : (zI (zsI w19M 336 6 w42v) 336 11).toInt = (zI w19M 336 11).toInt := (congrArg Int32.toInt ((zIoj (by decide)).trans rfl)).trans rfl
      have w51 : (zI (zsI w19M 336 6 w42v) 336 6).toInt = ((zI w19M 336 6).toInt + 1) := (congrArg Int32.toInt zIs).trans w42
      have w52 : (zI (zsI w19M 336 6 w42v) 336 13).toInt = (zI w19M 336 13).toInt := (congrArg Int32.toInt ((zIoj (by decide)).trans rfl)).trans rfl
      refine zs_invV (pc := 52) (k := 336) (as' := []) (st := []) t257_52 mf258 rfl rfl (Or.inl ⟨by decide, (zk1 (w19s.k fk_zMm_336))⟩) ⟨by decide, by decide, Nat.le_of_ble_eq_true rfl, Nat.le_of_ble_eq_true rfl⟩ (E258 w19s w43 (zGh.fr (M' := (zsI w19M 336 6 w42v)) w25H (zEq.put rfl)) (by omega) (by omega) (by omega) (by omega) (zTm.mk x1 (fun j => ((zIo (by decide)).trans (w19F 339 j rfl))) ((zIoj (by decide)).trans (w19F 336 5 rfl))) ?_) (fun _ _ q => q)
      intro w53M w53v w53s w53I w53F w53J w53t0 w53t1 w53x0 w53x1 w53a w53b
      have w54 := ib336_11 w53I
      have w55 := ib336_6 w53I
      have w56 := ib336_13 w53I
      have w57 : (zI (zsI w19M 336 6 w42v) 336 6).toInt = ((zI w19M 336 6).toInt + 1) := (congrArg Int32.toInt zIs).trans w42
      have w58 : (zI (zsI w19M 336 6 w42v) 336 13).toInt = (zI w19M 336 13).toInt := (congrArg Int32.toInt ((zIoj (by decide)).trans rfl)).trans rfl
      have w53z := w53x1 (w25p + 1) (zI w19M 336 13).toInt (by omega) (by omega)
      show zGo X l 4 0 0 257 55 [(1, .int (zhere w19M)), (0, .ref 336)] [.int w53v] w53M _
      by_cases w59 : w53v.toInt = 0
      · skip
        have w59e := (w53z.resolve_right (fun q => q.1 w59)).2
        refine zs_if_neF (pc := 55) t257_55 rfl (by omega) ?_
        refine zs_iconst (pc := 58) t257_58 (v := 0) (by decide) ?_
        have w60 : (zI w53M 336 11).toInt = (zI w53M 336 11).toInt := (congrArg Int32.toInt rfl).trans rfl
        have w61 : (zI w53M 336 6).toInt = (zI w53M 336 6).toInt := (congrArg Int32.toInt rfl).trans rfl
        have w62 : (zI w53M 336 13).toInt = (zI w53M 336 13).toInt := (congrArg Int32.toInt rfl).trans rfl
        have w63 := li0
        have w64 : (zI w53M 336 6).toInt = (zI w53M 336 6).toInt := (congrArg Int32.toInt rfl).trans rfl
        have w65 := ib336_7 w53I
        have w66 : (zI w53M 336 7).toInt = (zI w53M 336 7).toInt := (congrArg Int32.toInt rfl).trans rfl
        have w67 : (zI w53M 336 13).toInt = (zI w53M 336 13).toInt := (congrArg Int32.toInt rfl).trans rfl
        exact zs_iret (pc := 59) t257_59 mr257 (by decide) (hQ _ _ w53s w53I ((((zFr.refl).trans (w19F.mono rfl)).put rfl).trans (w53F.mono rfl)) (w53J.trans w19J) (by omega) (by omega) (Or.inl (by decide)) (fun p t hp ht => by obtain rfl : w9n = p := (by omega); subst ht; exact zocm.f (by decide) (by omega) ((pCm.y w25e (by unfold zcq; omega)).trans w59e)) (by decide) (by decide))
      · skip
        have w59H := w53x0.resolve_left w59
        obtain ⟨w597, w59p, w59t, w59e, w593, w594, w595⟩ := (w53z.resolve_left (fun q => w59 q.1)).2
        subst w594
        refine zs_if_neT (pc := 55) t257_55 rfl (by omega) ?_
        refine zs_aload_n (pc := 60) t257_60 rfl ?_
        refine zs_sipush (pc := 61) t257_61 (v := 20000) (by decide) ?_
        refine zs_iload_n (pc := 64) t257_64 rfl ?_
        obtain ⟨w68v, w68e, w68⟩ := ziadd (a := (20000 : Int32)) (b := (zhere w19M)) li20000 rfl (by omega) (by omega)
        refine zs_iadd (pc := 65) t257_65 (c := w68v) w68e ?_
        refine zs_invV (pc := 66) (k := 336) (as' := [.int w68v]) (st := []) t257_66 mf261 rfl rfl (Or.inl ⟨by decide, (zk1 (w53s.k fk_zMm_336))⟩) ⟨by decide, by decide, Nat.le_of_ble_eq_true rfl, Nat.le_of_ble_eq_true rfl⟩ (zs_in (by decide) mf261 (Nat.le_of_ble_eq_true rfl) ?_) (fun _ _ q => q)
        show zGo X l 0 0 0 261 0 [(0, .ref 336), (1, .int w68v)] [] w53M _
        refine zs_aload_n (pc := 0) t261_0 rfl ?_
        refine zs_get (pc := 1) t261_1 (by decide) (zk1 (w53s.k fk_zMm_336)) (w53s.p rfl fv_zMm_336_9) ?_
        refine zs_aload_n (pc := 4) t261_4 rfl ?_
        refine zs_get (pc := 5) t261_5 (by decide) (zk1 (w53s.k fk_zMm_336)) (zfvi rfl rfl) ?_
        refine zs_iload_n (pc := 8) t261_8 rfl ?_
        obtain ⟨w69n, w69⟩ : ∃ n : Nat, (zI w53M 336 11).toInt = (n : Int) := ⟨((zI w53M 336 11).toInt).toNat, by omega⟩
        have w70 : zIv mLo mHi (zsI w53M 340 w69n w68v) := zIv.put w53I (show (-2147483648) ≤ w68v.toInt ∧ w68v.toInt ≤ 2147483647 from zrg w68v)
        refine zs_iast (pc := 9) t261_9 (j := w69n) (by decide) (zk1 (w53s.k fk_zMm_340)) (show (zI w53M 336 11).toInt = ((w69n : Nat) : Int) by omega) (zk2 (w53s.k fk_zMm_340) (by omega)) ?_
        refine zs_aload_n (pc := 10) t261_10 rfl ?_
        refine zs_dup (pc := 11) t261_11 rfl ?_
        refine zs_get (pc := 12) t261_12 (by decide) (zk1 (w53s.k fk_zMm_336)) (zfvi rfl ((zIo (by decide)).trans rfl)) ?_
        refine zs_iconst (pc := 15) t261_15 (v := 1) (by decide) ?_
        obtain ⟨w71v, w71e, w71⟩ := ziadd (a := (zI w53M 336 11)) (b := (1 : Int32)) rfl li1 (by omega) (by omega)
        refine zs_iadd (pc := 16) t261_16 (c := w71v) w71e ?_
        have w72 : zIv mLo mHi (zsI (zsI w53M 340 w69n w68v) 336 11 w71v) := zIv.put w70 (show 0 ≤ w71v.toInt ∧ w71v.toInt ≤ 200 from ⟨by omega, by omega⟩)
        have w73 : (zI w53M 336 11).toInt = (zI w53M 336 11).toInt := (congrArg Int32.toInt rfl).trans rfl
        have w74 : w71v.toInt = ((zI w53M 336 11).toInt + 1) := w71
        have w75 : w68v.toInt = (20000 + (zhere w19M).toInt) := w68
        have w76 : zGh (zsI (zsI w53M 340 w69n w68v) 336 11 w71v) (((hh + 1) + 1) - 1) := zGh.put (n := w69n) w59H (by omega) (by omega) (by omega)
        refine zs_putI (pc := 17) t261_17 (zk1 (w53s.k fk_zMm_336)) rfl ?_
        refine zs_vret (pc := 20) t261_20 mr261 ?_
        show zGo X l 4 0 0 257 69 [(1, .int (zhere w19M)), (0, .ref 336)] [] (zsI (zsI w53M 340 w69n w68v) 336 11 w71v) _
        refine zs_iconst (pc := 69) t257_69 (v := 1) (by decide) ?_
        have w77 : (zI (zsI (zsI w53M 340 w69n w68v) 336 11 w71v) 336 11).toInt = ((zI w53M 336 11).toInt + 1) := (congrArg Int32.toInt zIs).trans w71
        have w78 : (zI (zsI (zsI w53M 340 w69n w68v) 336 11 w71v) 336 6).toInt = (zI w53M 336 6).toInt := (congrArg Int32.toInt ((zIoj (by decide)).trans ((zIo (by decide)).trans rfl))).trans rfl
        have w79 : (zI (zsI (zsI w53M 340 w69n w68v) 336 11 w71v) 336 13).toInt = (zI w53M 336 13).toInt := (congrArg Int32.toInt ((zIoj (by decide)).trans ((zIo (by decide)).trans rfl))).trans rfl
        have w80 := li1
        have w81 := ib336_12 hI
        have w82 : (zI (zsI (zsI w53M 340 w69n w68v) 336 11 w71v) 336 12).toInt = (zI M 336 12).toInt := (congrArg Int32.toInt ((zIoj (by decide)).trans ((zIo (by decide)).trans ((w53F 336 12 rfl).trans ((zIoj (by decide)).trans ((w19F 336 12 rfl).trans rfl)))))).trans rfl
        have w83 := ib336_14 hI
        have w84 : (zI (zsI (zsI w53M 340 w69n w68v) 336 11 w71v) 336 14).toInt = (zI M 336 14).toInt := (congrArg Int32.toInt ((zIoj (by decide)).trans ((zIo (by decide)).trans ((w53F 336 14 rfl).trans ((zIoj (by decide)).trans ((w19F 336 14 rfl).trans rfl)))))).trans rfl
        have w85 : (zI (zsI (zsI w53M 340 w69n w68v) 336 11 w71v) 336 6).toInt = (zI w53M 336 6).toInt := (congrArg Int32.toInt ((zIoj (by decide)).trans ((zIo (by decide)).trans rfl))).trans rfl
        have w86 := ib336_7 w53I
        have w87 : (zI (zsI (zsI w53M 340 w69n w68v) 336 11 w71v) 336 7).toInt = (zI w53M 336 7).toInt := (congrArg Int32.toInt ((zIoj (by decide)).trans ((zIo (by decide)).trans rfl))).trans rfl
        have w88 : (zI (zsI (zsI w53M 340 w69n w68v) 336 11 w71v) 336 13).toInt = (zI w53M 336 13).toInt := (congrArg Int32.toInt ((zIoj (by decide)).trans ((zIo (by decide)).trans rfl))).trans rfl
        exact zs_iret (pc := 70) t257_70 mr257 (by decide) (hQ _ _ w53s w72 ((((((zFr.refl).trans (w19F.mono rfl)).put rfl).trans (w53F.mono rfl)).put rfl).put rfl) (w53J.trans w19J) (by omega) (by omega) (Or.inr (zGh.cast w76 (by omega))) (fun p t hp ht => by obtain rfl : w9n = p := (by omega); subst ht; exact Or.inr ⟨by decide, by omega, w59p, _, (pCm.y w25e (by unfold zcq; omega)).trans w59e, by omega, by omega, by omega⟩) (by decide) (by decide))
    · refine zs_icmp_eqF (pc := 17) t257_17 rfl li60 (by omega) ?_
      refine zs_iload_n (pc := 20) t257_20 rfl ?_
      refine zs_bipush (pc := 21) t257_21 (v := 62) (by decide) ?_
      by_cases w89 : (zhere w19M).toInt = 62
      · refine zs_icmp_eqT (pc := 23) t257_23 rfl li62 (by omega) ?_
        refine zs_aload_n (pc := 41) t257_41 rfl ?_
        refine zs_dup (pc := 42) t257_42 rfl ?_
        refine zs_get (pc := 43) t257_43 (by decide) (zk1 (w19s.k fk_zMm_336)) (zfvi rfl rfl) ?_
        refine zs_iconst (pc := 46) t257_46 (v := 1) (by decide) ?_
        obtain ⟨w90v, w90e, w90⟩ := ziadd (a := (zI w19M 336 6)) (b := (1 : Int32)) rfl li1 (by omega) (by omega)
        refine zs_iadd (pc := 47) t257_47 (c := w90v) w90e ?_
        have w91 : zIv mLo mHi (zsI w19M 336 6 w90v) := zIv.put w19I (show 0 ≤ w90v.toInt ∧ w90v.toInt ≤ 500 from ⟨by omega, by omega⟩)
        refine zs_putI (pc := 48) t257_48 (zk1 (w19s.k fk_zMm_336)) rfl ?_
        refine zs_aload_n (pc := 51) t257_51 rfl ?_
        have w92 : (zI (zsI w19M 336 6 w90v) 336 6).toInt = ((zI w19M 336 6).toInt + 1) := (congrArg Int32.toInt zIs).trans w90
        have w93 : (zI (zsI w19M 336 6 w90v) 336 5).toInt = (zI M 336 5).toInt := (congrArg Int32.toInt ((zIoj (by decide)).trans ((w19F 336 5 rfl).trans rfl))).trans rfl
        have w94 : (zI (zsI w19M 336 6 w90v) 336 13).toInt = (zI w19M 336 13).toInt := (congrArg Int32.toInt ((zIoj (by decide)).trans rfl)).trans rfl
        have w95 := ib336_7 w19I
        have w96 : (zI (zsI w19M 336 6 w90v) 336 7).toInt = (zI w19M 336 7).toInt := (congrArg Int32.toInt ((zIoj (by decide)).trans rfl)).trans rfl
        have w97 : (zI (zsI w19M 336 6 w90v) 336 11).toInt = (zI w19M 336 11).toInt := (congrArg Int32.toInt ((zIoj (by decide)).trans rfl)).trans rfl
        have w98 : (zI (zsI w19M 336 6 w90v) 336 11).toInt = (zI w19M 336 11).toInt := (congrArg Int32.toInt ((zIoj (by decide)).trans rfl)).trans rfl
        have w99 : (zI (zsI w19M 336 6 w90v) 336 6).toInt = ((zI w19M 336 6).toInt + 1) := (congrArg Int32.toInt zIs).trans w90
        have w100 : (zI (zsI w19M 336 6 w90v) 336 13).toInt = (zI w19M 336 13).toInt := (congrArg Int32.toInt ((zIoj (by decide)).trans rfl)).trans rfl
        refine zs_invV (pc := 52) (k := 336) (as' := []) (st := []) t257_52 mf258 rfl rfl (Or.inl ⟨by decide, (zk1 (w19s.k fk_zMm_336))⟩) ⟨by decide, by decide, Nat.le_of_ble_eq_true rfl, Nat.le_of_ble_eq_true rfl⟩ (E258 w19s w91 (zGh.fr (M' := (zsI w19M 336 6 w90v)) w25H (zEq.put rfl)) (by omega) (by omega) (by omega) (by omega) (zTm.mk x1 (fun j => ((zIo (by decide)).trans (w19F 339 j rfl))) ((zIoj (by decide)).trans (w19F 336 5 rfl))) ?_) (fun _ _ q => q)
        intro w101M w101v w101s w101I w101F w101J w101t0 w101t1 w101x0 w101x1 w101a w101b
        have w102 := ib336_11 w101I
        have w103 := ib336_6 w101I
        have w104 := ib336_13 w101I
        have w105 : (zI (zsI w19M 336 6 w90v) 336 6).toInt = ((zI w19M 336 6).toInt + 1) := (congrArg Int32.toInt zIs).trans w90
        have w106 : (zI (zsI w19M 336 6 w90v) 336 13).toInt = (zI w19M 336 13).toInt := (congrArg Int32.toInt ((zIoj (by decide)).trans rfl)).trans rfl
        have w101z := w101x1 (w25p + 1) (zI w19M 336 13).toInt (by omega) (by omega)
        show zGo X l 4 0 0 257 55 [(1, .int (zhere w19M)), (0, .ref 336)] [.int w101v] w101M _
        by_cases w107 : w101v.toInt = 0
        · skip
          have w107e := (w101z.resolve_right (fun q => q.1 w107)).2
          refine zs_if_neF (pc := 55) t257_55 rfl (by omega) ?_
          refine zs_iconst (pc := 58) t257_58 (v := 0) (by decide) ?_
          have w108 : (zI w101M 336 11).toInt = (zI w101M 336 11).toInt := (congrArg Int32.toInt rfl).trans rfl
          have w109 : (zI w101M 336 6).toInt = (zI w101M 336 6).toInt := (congrArg Int32.toInt rfl).trans rfl
          have w110 : (zI w101M 336 13).toInt = (zI w101M 336 13).toInt := (congrArg Int32.toInt rfl).trans rfl
          have w111 := li0
          have w112 : (zI w101M 336 6).toInt = (zI w101M 336 6).toInt := (congrArg Int32.toInt rfl).trans rfl
          have w113 := ib336_7 w101I
          have w114 : (zI w101M 336 7).toInt = (zI w101M 336 7).toInt := (congrArg Int32.toInt rfl).trans rfl
          have w115 : (zI w101M 336 13).toInt = (zI w101M 336 13).toInt := (congrArg Int32.toInt rfl).trans rfl
          exact zs_iret (pc := 59) t257_59 mr257 (by decide) (hQ _ _ w101s w101I ((((zFr.refl).trans (w19F.mono rfl)).put rfl).trans (w101F.mono rfl)) (w101J.trans w19J) (by omega) (by omega) (Or.inl (by decide)) (fun p t hp ht => by obtain rfl : w9n = p := (by omega); subst ht; exact zocm.f (by decide) (by omega) ((pCm.y w25e (by unfold zcq; omega)).trans w107e)) (by decide) (by decide))
        · skip
          have w107H := w101x0.resolve_left w107
          obtain ⟨w1077, w107p, w107t, w107e, w1073, w1074, w1075⟩ := (w101z.resolve_left (fun q => w107 q.1)).2
          subst w1074
          refine zs_if_neT (pc := 55) t257_55 rfl (by omega) ?_
          refine zs_aload_n (pc := 60) t257_60 rfl ?_
          refine zs_sipush (pc := 61) t257_61 (v := 20000) (by decide) ?_
          refine zs_iload_n (pc := 64) t257_64 rfl ?_
          obtain ⟨w116v, w116e, w116⟩ := ziadd (a := (20000 : Int32)) (b := (zhere w19M)) li20000 rfl (by omega) (by omega)
          refine zs_iadd (pc := 65) t257_65 (c := w116v) w116e ?_
          refine zs_invV (pc := 66) (k := 336) (as' := [.int w116v]) (st := []) t257_66 mf261 rfl rfl (Or.inl ⟨by decide, (zk1 (w101s.k fk_zMm_336))⟩) ⟨by decide, by decide, Nat.le_of_ble_eq_true rfl, Nat.le_of_ble_eq_true rfl⟩ (zs_in (by decide) mf261 (Nat.le_of_ble_eq_true rfl) ?_) (fun _ _ q => q)
          show zGo X l 0 0 0 261 0 [(0, .ref 336), (1, .int w116v)] [] w101M _
          refine zs_aload_n (pc := 0) t261_0 rfl ?_
          refine zs_get (pc := 1) t261_1 (by decide) (zk1 (w101s.k fk_zMm_336)) (w101s.p rfl fv_zMm_336_9) ?_
          refine zs_aload_n (pc := 4) t261_4 rfl ?_
          refine zs_get (pc := 5) t261_5 (by decide) (zk1 (w101s.k fk_zMm_336)) (zfvi rfl rfl) ?_
          refine zs_iload_n (pc := 8) t261_8 rfl ?_
          obtain ⟨w117n, w117⟩ : ∃ n : Nat, (zI w101M 336 11).toInt = (n : Int) := ⟨((zI w101M 336 11).toInt).toNat, by omega⟩
          have w118 : zIv mLo mHi (zsI w101M 340 w117n w116v) := zIv.put w101I (show (-2147483648) ≤ w116v.toInt ∧ w116v.toInt ≤ 2147483647 from zrg w116v)
          refine zs_iast (pc := 9) t261_9 (j := w117n) (by decide) (zk1 (w101s.k fk_zMm_340)) (show (zI w101M 336 11).toInt = ((w117n : Nat) : Int) by omega) (zk2 (w101s.k fk_zMm_340) (by omega)) ?_
          refine zs_aload_n (pc := 10) t261_10 rfl ?_
          refine zs_dup (pc := 11) t261_11 rfl ?_
          refine zs_get (pc := 12) t261_12 (by decide) (zk1 (w101s.k fk_zMm_336)) (zfvi rfl ((zIo (by decide)).trans rfl)) ?_
          refine zs_iconst (pc := 15) t261_15 (v := 1) (by decide) ?_
          obtain ⟨w119v, w119e, w119⟩ := ziadd (a := (zI w101M 336 11)) (b := (1 : Int32)) rfl li1 (by omega) (by omega)
          refine zs_iadd (pc := 16) t261_16 (c := w119v) w119e ?_
          have w120 : zIv mLo mHi (zsI (zsI w101M 340 w117n w116v) 336 11 w119v) := zIv.put w118 (show 0 ≤ w119v.toInt ∧ w119v.toInt ≤ 200 from ⟨by omega, by omega⟩)
          have w121 : (zI w101M 336 11).toInt = (zI w101M 336 11).toInt := (congrArg Int32.toInt rfl).trans rfl
          have w122 : w119v.toInt = ((zI w101M 336 11).toInt + 1) := w119
          have w123 : w116v.toInt = (20000 + (zhere w19M).toInt) := w116
          have w124 : zGh (zsI (zsI w101M 340 w117n w116v) 336 11 w119v) (((hh + 1) + 1) - 1) := zGh.put (n := w117n) w107H (by omega) (by omega) (by omega)
          refine zs_putI (pc := 17) t261_17 (zk1 (w101s.k fk_zMm_336)) rfl ?_
          refine zs_vret (pc := 20) t261_20 mr261 ?_
          show zGo X l 4 0 0 257 69 [(1, .int (zhere w19M)), (0, .ref 336)] [] (zsI (zsI w101M 340 w117n w116v) 336 11 w119v) _
          refine zs_iconst (pc := 69) t257_69 (v := 1) (by decide) ?_
          have w125 : (zI (zsI (zsI w101M 340 w117n w116v) 336 11 w119v) 336 11).toInt = ((zI w101M 336 11).toInt + 1) := (congrArg Int32.toInt zIs).trans w119
          have w126 : (zI (zsI (zsI w101M 340 w117n w116v) 336 11 w119v) 336 6).toInt = (zI w101M 336 6).toInt := (congrArg Int32.toInt ((zIoj (by decide)).trans ((zIo (by decide)).trans rfl))).trans rfl
          have w127 : (zI (zsI (zsI w101M 340 w117n w116v) 336 11 w119v) 336 13).toInt = (zI w101M 336 13).toInt := (congrArg Int32.toInt ((zIoj (by decide)).trans ((zIo (by decide)).trans rfl))).trans rfl
          have w128 := li1
          have w129 : (zI (zsI (zsI w101M 340 w117n w116v) 336 11 w119v) 336 12).toInt = (zI M 336 12).toInt := (congrArg Int32.toInt ((zIoj (by decide)).trans ((zIo (by decide)).trans ((w101F 336 12 rfl).trans ((zIoj (by decide)).trans ((w19F 336 12 rfl).trans rfl)))))).trans rfl
          have w130 : (zI (zsI (zsI w101M 340 w117n w116v) 336 11 w119v) 336 14).toInt = (zI M 336 14).toInt := (congrArg Int32.toInt ((zIoj (by decide)).trans ((zIo (by decide)).trans ((w101F 336 14 rfl).trans ((zIoj (by decide)).trans ((w19F 336 14 rfl).trans rfl)))))).trans rfl
          have w131 : (zI (zsI (zsI w101M 340 w117n w116v) 336 11 w119v) 336 6).toInt = (zI w101M 336 6).toInt := (congrArg Int32.toInt ((zIoj (by decide)).trans ((zIo (by decide)).trans rfl))).trans rfl
          have w132 := ib336_7 w101I
          have w133 : (zI (zsI (zsI w101M 340 w117n w116v) 336 11 w119v) 336 7).toInt = (zI w101M 336 7).toInt := (congrArg Int32.toInt ((zIoj (by decide)).trans ((zIo (by decide)).trans rfl))).trans rfl
          have w134 : (zI (zsI (zsI w101M 340 w117n w116v) 336 11 w119v) 336 13).toInt = (zI w101M 336 13).toInt := (congrArg Int32.toInt ((zIoj (by decide)).trans ((zIo (by decide)).trans rfl))).trans rfl
          exact zs_iret (pc := 70) t257_70 mr257 (by decide) (hQ _ _ w101s w120 ((((((zFr.refl).trans (w19F.mono rfl)).put rfl).trans (w101F.mono rfl)).put rfl).put rfl) (w101J.trans w19J) (by omega) (by omega) (Or.inr (zGh.cast w124 (by omega))) (fun p t hp ht => by obtain rfl : w9n = p := (by omega); subst ht; exact Or.inr ⟨by decide, by omega, w107p, _, (pCm.y w25e (by unfold zcq; omega)).trans w107e, by omega, by omega, by omega⟩) (by decide) (by decide))
      · refine zs_icmp_eqF (pc := 23) t257_23 rfl li62 (by omega) ?_
        refine zs_iload_n (pc := 26) t257_26 rfl ?_
        refine zs_bipush (pc := 27) t257_27 (v := 61) (by decide) ?_
        by_cases w135 : (zhere w19M).toInt = 61
        · refine zs_icmp_eqT (pc := 29) t257_29 rfl li61 (by omega) ?_
          refine zs_aload_n (pc := 41) t257_41 rfl ?_
          refine zs_dup (pc := 42) t257_42 rfl ?_
          refine zs_get (pc := 43) t257_43 (by decide) (zk1 (w19s.k fk_zMm_336)) (zfvi rfl rfl) ?_
          refine zs_iconst (pc := 46) t257_46 (v := 1) (by decide) ?_
          obtain ⟨w136v, w136e, w136⟩ := ziadd (a := (zI w19M 336 6)) (b := (1 : Int32)) rfl li1 (by omega) (by omega)
          refine zs_iadd (pc := 47) t257_47 (c := w136v) w136e ?_
          have w137 : zIv mLo mHi (zsI w19M 336 6 w136v) := zIv.put w19I (show 0 ≤ w136v.toInt ∧ w136v.toInt ≤ 500 from ⟨by omega, by omega⟩)
          refine zs_putI (pc := 48) t257_48 (zk1 (w19s.k fk_zMm_336)) rfl ?_
          refine zs_aload_n (pc := 51) t257_51 rfl ?_
          have w138 : (zI (zsI w19M 336 6 w136v) 336 6).toInt = ((zI w19M 336 6).toInt + 1) := (congrArg Int32.toInt zIs).trans w136
          have w139 : (zI (zsI w19M 336 6 w136v) 336 5).toInt = (zI M 336 5).toInt := (congrArg Int32.toInt ((zIoj (by decide)).trans ((w19F 336 5 rfl).trans rfl))).trans rfl
          have w140 : (zI (zsI w19M 336 6 w136v) 336 13).toInt = (zI w19M 336 13).toInt := (congrArg Int32.toInt ((zIoj (by decide)).trans rfl)).trans rfl
          have w141 := ib336_7 w19I
          have w142 : (zI (zsI w19M 336 6 w136v) 336 7).toInt = (zI w19M 336 7).toInt := (congrArg Int32.toInt ((zIoj (by decide)).trans rfl)).trans rfl
          have w143 : (zI (zsI w19M 336 6 w136v) 336 11).toInt = (zI w19M 336 11).toInt := (congrArg Int32.toInt ((zIoj (by decide)).trans rfl)).trans rfl
          have w144 : (zI (zsI w19M 336 6 w136v) 336 11).toInt = (zI w19M 336 11).toInt := (congrArg Int32.toInt ((zIoj (by decide)).trans rfl)).trans rfl
          have w145 : (zI (zsI w19M 336 6 w136v) 336 6).toInt = ((zI w19M 336 6).toInt + 1) := (congrArg Int32.toInt zIs).trans w136
          have w146 : (zI (zsI w19M 336 6 w136v) 336 13).toInt = (zI w19M 336 13).toInt := (congrArg Int32.toInt ((zIoj (by decide)).trans rfl)).trans rfl
          refine zs_invV (pc := 52) (k := 336) (as' := []) (st := []) t257_52 mf258 rfl rfl (Or.inl ⟨by decide, (zk1 (w19s.k fk_zMm_336))⟩) ⟨by decide, by decide, Nat.le_of_ble_eq_true rfl, Nat.le_of_ble_eq_true rfl⟩ (E258 w19s w137 (zGh.fr (M' := (zsI w19M 336 6 w136v)) w25H (zEq.put rfl)) (by omega) (by omega) (by omega) (by omega) (zTm.mk x1 (fun j => ((zIo (by decide)).trans (w19F 339 j rfl))) ((zIoj (by decide)).trans (w19F 336 5 rfl))) ?_) (fun _ _ q => q)
          intro w147M w147v w147s w147I w147F w147J w147t0 w147t1 w147x0 w147x1 w147a w147b
          have w148 := ib336_11 w147I
          have w149 := ib336_6 w147I
          have w150 := ib336_13 w147I
          have w151 : (zI (zsI w19M 336 6 w136v) 336 6).toInt = ((zI w19M 336 6).toInt + 1) := (congrArg Int32.toInt zIs).trans w136
          have w152 : (zI (zsI w19M 336 6 w136v) 336 13).toInt = (zI w19M 336 13).toInt := (congrArg Int32.toInt ((zIoj (by decide)).trans rfl)).trans rfl
          have w147z := w147x1 (w25p + 1) (zI w19M 336 13).toInt (by omega) (by omega)
          show zGo X l 4 0 0 257 55 [(1, .int (zhere w19M)), (0, .ref 336)] [.int w147v] w147M _
          by_cases w153 : w147v.toInt = 0
          · skip
            have w153e := (w147z.resolve_right (fun q => q.1 w153)).2
            refine zs_if_neF (pc := 55) t257_55 rfl (by omega) ?_
            refine zs_iconst (pc := 58) t257_58 (v := 0) (by decide) ?_
            have w154 : (zI w147M 336 11).toInt = (zI w147M 336 11).toInt := (congrArg Int32.toInt rfl).trans rfl
            have w155 : (zI w147M 336 6).toInt = (zI w147M 336 6).toInt := (congrArg Int32.toInt rfl).trans rfl
            have w156 : (zI w147M 336 13).toInt = (zI w147M 336 13).toInt := (congrArg Int32.toInt rfl).trans rfl
            have w157 := li0
            have w158 : (zI w147M 336 6).toInt = (zI w147M 336 6).toInt := (congrArg Int32.toInt rfl).trans rfl
            have w159 := ib336_7 w147I
            have w160 : (zI w147M 336 7).toInt = (zI w147M 336 7).toInt := (congrArg Int32.toInt rfl).trans rfl
            have w161 : (zI w147M 336 13).toInt = (zI w147M 336 13).toInt := (congrArg Int32.toInt rfl).trans rfl
            exact zs_iret (pc := 59) t257_59 mr257 (by decide) (hQ _ _ w147s w147I ((((zFr.refl).trans (w19F.mono rfl)).put rfl).trans (w147F.mono rfl)) (w147J.trans w19J) (by omega) (by omega) (Or.inl (by decide)) (fun p t hp ht => by obtain rfl : w9n = p := (by omega); subst ht; exact zocm.f (by decide) (by omega) ((pCm.y w25e (by unfold zcq; omega)).trans w153e)) (by decide) (by decide))
          · skip
            have w153H := w147x0.resolve_left w153
            obtain ⟨w1537, w153p, w153t, w153e, w1533, w1534, w1535⟩ := (w147z.resolve_left (fun q => w153 q.1)).2
            subst w1534
            refine zs_if_neT (pc := 55) t257_55 rfl (by omega) ?_
            refine zs_aload_n (pc := 60) t257_60 rfl ?_
            refine zs_sipush (pc := 61) t257_61 (v := 20000) (by decide) ?_
            refine zs_iload_n (pc := 64) t257_64 rfl ?_
            obtain ⟨w162v, w162e, w162⟩ := ziadd (a := (20000 : Int32)) (b := (zhere w19M)) li20000 rfl (by omega) (by omega)
            refine zs_iadd (pc := 65) t257_65 (c := w162v) w162e ?_
            refine zs_invV (pc := 66) (k := 336) (as' := [.int w162v]) (st := []) t257_66 mf261 rfl rfl (Or.inl ⟨by decide, (zk1 (w147s.k fk_zMm_336))⟩) ⟨by decide, by decide, Nat.le_of_ble_eq_true rfl, Nat.le_of_ble_eq_true rfl⟩ (zs_in (by decide) mf261 (Nat.le_of_ble_eq_true rfl) ?_) (fun _ _ q => q)
            show zGo X l 0 0 0 261 0 [(0, .ref 336), (1, .int w162v)] [] w147M _
            refine zs_aload_n (pc := 0) t261_0 rfl ?_
            refine zs_get (pc := 1) t261_1 (by decide) (zk1 (w147s.k fk_zMm_336)) (w147s.p rfl fv_zMm_336_9) ?_
            refine zs_aload_n (pc := 4) t261_4 rfl ?_
            refine zs_get (pc := 5) t261_5 (by decide) (zk1 (w147s.k fk_zMm_336)) (zfvi rfl rfl) ?_
            refine zs_iload_n (pc := 8) t261_8 rfl ?_
            obtain ⟨w163n, w163⟩ : ∃ n : Nat, (zI w147M 336 11).toInt = (n : Int) := ⟨((zI w147M 336 11).toInt).toNat, by omega⟩
            have w164 : zIv mLo mHi (zsI w147M 340 w163n w162v) := zIv.put w147I (show (-2147483648) ≤ w162v.toInt ∧ w162v.toInt ≤ 2147483647 from zrg w162v)
            refine zs_iast (pc := 9) t261_9 (j := w163n) (by decide) (zk1 (w147s.k fk_zMm_340)) (show (zI w147M 336 11).toInt = ((w163n : Nat) : Int) by omega) (zk2 (w147s.k fk_zMm_340) (by omega)) ?_
            refine zs_aload_n (pc := 10) t261_10 rfl ?_
            refine zs_dup (pc := 11) t261_11 rfl ?_
            refine zs_get (pc := 12) t261_12 (by decide) (zk1 (w147s.k fk_zMm_336)) (zfvi rfl ((zIo (by decide)).trans rfl)) ?_
            refine zs_iconst (pc := 15) t261_15 (v := 1) (by decide) ?_
            obtain ⟨w165v, w165e, w165⟩ := ziadd (a := (zI w147M 336 11)) (b := (1 : Int32)) rfl li1 (by omega) (by omega)
            refine zs_iadd (pc := 16) t261_16 (c := w165v) w165e ?_
            have w166 : zIv mLo mHi (zsI (zsI w147M 340 w163n w162v) 336 11 w165v) := zIv.put w164 (show 0 ≤ w165v.toInt ∧ w165v.toInt ≤ 200 from ⟨by omega, by omega⟩)
            have w167 : (zI w147M 336 11).toInt = (zI w147M 336 11).toInt := (congrArg Int32.toInt rfl).trans rfl
            have w168 : w165v.toInt = ((zI w147M 336 11).toInt + 1) := w165
            have w169 : w162v.toInt = (20000 + (zhere w19M).toInt) := w162
            have w170 : zGh (zsI (zsI w147M 340 w163n w162v) 336 11 w165v) (((hh + 1) + 1) - 1) := zGh.put (n := w163n) w153H (by omega) (by omega) (by omega)
            refine zs_putI (pc := 17) t261_17 (zk1 (w147s.k fk_zMm_336)) rfl ?_
            refine zs_vret (pc := 20) t261_20 mr261 ?_
            show zGo X l 4 0 0 257 69 [(1, .int (zhere w19M)), (0, .ref 336)] [] (zsI (zsI w147M 340 w163n w162v) 336 11 w165v) _
            refine zs_iconst (pc := 69) t257_69 (v := 1) (by decide) ?_
            have w171 : (zI (zsI (zsI w147M 340 w163n w162v) 336 11 w165v) 336 11).toInt = ((zI w147M 336 11).toInt + 1) := (congrArg Int32.toInt zIs).trans w165
            have w172 : (zI (zsI (zsI w147M 340 w163n w162v) 336 11 w165v) 336 6).toInt = (zI w147M 336 6).toInt := (congrArg Int32.toInt ((zIoj (by decide)).trans ((zIo (by decide)).trans rfl))).trans rfl
            have w173 : (zI (zsI (zsI w147M 340 w163n w162v) 336 11 w165v) 336 13).toInt = (zI w147M 336 13).toInt := (congrArg Int32.toInt ((zIoj (by decide)).trans ((zIo (by decide)).trans rfl))).trans rfl
            have w174 := li1
            have w175 : (zI (zsI (zsI w147M 340 w163n w162v) 336 11 w165v) 336 12).toInt = (zI M 336 12).toInt := (congrArg Int32.toInt ((zIoj (by decide)).trans ((zIo (by decide)).trans ((w147F 336 12 rfl).trans ((zIoj (by decide)).trans ((w19F 336 12 rfl).trans rfl)))))).trans rfl
            have w176 : (zI (zsI (zsI w147M 340 w163n w162v) 336 11 w165v) 336 14).toInt = (zI M 336 14).toInt := (congrArg Int32.toInt ((zIoj (by decide)).trans ((zIo (by decide)).trans ((w147F 336 14 rfl).trans ((zIoj (by decide)).trans ((w19F 336 14 rfl).trans rfl)))))).trans rfl
            have w177 : (zI (zsI (zsI w147M 340 w163n w162v) 336 11 w165v) 336 6).toInt = (zI w147M 336 6).toInt := (congrArg Int32.toInt ((zIoj (by decide)).trans ((zIo (by decide)).trans rfl))).trans rfl
            have w178 := ib336_7 w147I
            have w179 : (zI (zsI (zsI w147M 340 w163n w162v) 336 11 w165v) 336 7).toInt = (zI w147M 336 7).toInt := (congrArg Int32.toInt ((zIoj (by decide)).trans ((zIo (by decide)).trans rfl))).trans rfl
            have w180 : (zI (zsI (zsI w147M 340 w163n w162v) 336 11 w165v) 336 13).toInt = (zI w147M 336 13).toInt := (congrArg Int32.toInt ((zIoj (by decide)).trans ((zIo (by decide)).trans rfl))).trans rfl
            exact zs_iret (pc := 70) t257_70 mr257 (by decide) (hQ _ _ w147s w166 ((((((zFr.refl).trans (w19F.mono rfl)).put rfl).trans (w147F.mono rfl)).put rfl).put rfl) (w147J.trans w19J) (by omega) (by omega) (Or.inr (zGh.cast w170 (by omega))) (fun p t hp ht => by obtain rfl : w9n = p := (by omega); subst ht; exact Or.inr ⟨by decide, by omega, w153p, _, (pCm.y w25e (by unfold zcq; omega)).trans w153e, by omega, by omega, by omega⟩) (by decide) (by decide))
        · refine zs_icmp_eqF (pc := 29) t257_29 rfl li61 (by omega) ?_
          refine zs_aload_n (pc := 32) t257_32 rfl ?_
          refine zs_aload_n (pc := 33) t257_33 rfl ?_
          refine zs_get (pc := 34) t257_34 (by decide) (zk1 (w19s.k fk_zMm_336)) (zfvi rfl rfl) ?_
          refine zs_invV (pc := 37) (k := 336) (as' := [.int (zI w19M 336 6)]) (st := []) t257_37 mf239 rfl rfl (Or.inl ⟨by decide, (zk1 (w19s.k fk_zMm_336))⟩) ⟨by decide, by decide, Nat.le_of_ble_eq_true rfl, Nat.le_of_ble_eq_true rfl⟩ (zs_in (by decide) mf239 (Nat.le_of_ble_eq_true rfl) ?_) (fun _ _ q => q)
          show zGo X l 0 0 0 239 0 [(0, .ref 336), (1, .int (zI w19M 336 6))] [] w19M _
          refine zs_aload_n (pc := 0) t239_0 rfl ?_
          refine zs_iload_n (pc := 1) t239_1 rfl ?_
          have w181 : zIv mLo mHi (zsI w19M 336 7 (zI w19M 336 6)) := zIv.put w19I (show (-1) ≤ (zI w19M 336 6).toInt ∧ (zI w19M 336 6).toInt ≤ 500 from ⟨by omega, by omega⟩)
          refine zs_putI (pc := 2) t239_2 (zk1 (w19s.k fk_zMm_336)) rfl ?_
          refine zs_iconst (pc := 5) t239_5 (v := 0) (by decide) ?_
          refine zs_iret (pc := 6) t239_6 mr239 (by decide) ?_
          show zGo X l 4 0 0 257 40 [(1, .int (zhere w19M)), (0, .ref 336)] [.int (0 : Int32)] (zsI w19M 336 7 (zI w19M 336 6)) _
          have w182 : (zI (zsI w19M 336 7 (zI w19M 336 6)) 336 11).toInt = (zI w19M 336 11).toInt := (congrArg Int32.toInt ((zIoj (by decide)).trans rfl)).trans rfl
          have w183 : (zI (zsI w19M 336 7 (zI w19M 336 6)) 336 6).toInt = (zI w19M 336 6).toInt := (congrArg Int32.toInt ((zIoj (by decide)).trans rfl)).trans rfl
          have w184 : (zI (zsI w19M 336 7 (zI w19M 336 6)) 336 13).toInt = (zI w19M 336 13).toInt := (congrArg Int32.toInt ((zIoj (by decide)).trans rfl)).trans rfl
          have w185 := li0
          have w186 : (zI (zsI w19M 336 7 (zI w19M 336 6)) 336 6).toInt = (zI w19M 336 6).toInt := (congrArg Int32.toInt ((zIoj (by decide)).trans rfl)).trans rfl
          have w187 : (zI (zsI w19M 336 7 (zI w19M 336 6)) 336 7).toInt = (zI w19M 336 6).toInt := (congrArg Int32.toInt zIs).trans rfl
          have w188 : (zI (zsI w19M 336 7 (zI w19M 336 6)) 336 13).toInt = (zI w19M 336 13).toInt := (congrArg Int32.toInt ((zIoj (by decide)).trans rfl)).trans rfl
          exact zs_iret (pc := 40) t257_40 mr257 (by decide) (hQ _ _ w19s w181 (((zFr.refl).trans (w19F.mono rfl)).put rfl) w19J (by omega) (by omega) (Or.inl (by decide)) (fun p t hp ht => by obtain rfl : w9n = p := (by omega); subst ht; exact zocm.f (by decide) (by omega) (pCm.n w25e (by unfold zcq; omega))) (by decide) (by decide))
theorem E263 {X : zX} {l : Launch} {M : zM} {Q : Option Value → zM → Prop} (hs : zSk zMm M) (hI : zIv mLo mHi M) {hh : Int} {gg : Nat → Int} {nn : Int} {c0 : pC} (pN : zGn M) (pH : zGh M hh) (pX : zXm M 2 gg nn c0) (u0 : (zI M 336 11).toInt + (zI M 336 12).toInt ≤ 190) (x0 : 1 ≤ hh) (x1 : zTm M gg nn) (hQ : ∀ M', zSk zMm M' → zIv mLo mHi M' → zFr [(336, 336, some 12), (336, 336, some 11), (340, 340, none), (336, 336, some 14)] M M' → zJ M' 351 = zJ M 351 → zGn M' → zGh M' hh → zXm M' 3 gg nn c0 → ((zI M' 336 12).toInt - (zI M' 336 14).toInt = (zI M 336 12).toInt - (zI M 336 14).toInt) → ((zI M' 336 11).toInt + (zI M' 336 12).toInt = (zI M 336 11).toInt + (zI M 336 12).toInt) → ((zI M' 336 14).toInt ≤ (zI M 336 14).toInt) → Q none M') : zCall X l 2 0 0 263 [.ref 336] M Q := by
  refine zs_in (by decide) mf263 (Nat.le_of_ble_eq_true rfl) ?_
  show zGo X l 2 0 0 263 0 [(0, .ref 336)] [] M _
  have hn := x1.2
  have w1 := ib336_5 hI
  have w2 : (zI M 336 5).toInt = (zI M 336 5).toInt := (congrArg Int32.toInt rfl).trans rfl
  have w3 := ib336_6 hI
  have w4 : (zI M 336 6).toInt = (zI M 336 6).toInt := (congrArg Int32.toInt rfl).trans rfl
  have w5 := ib336_7 hI
  have w6 : (zI M 336 7).toInt = (zI M 336 7).toInt := (congrArg Int32.toInt rfl).trans rfl
  have w7 := ib336_12 hI
  have w8 : (zI M 336 12).toInt = (zI M 336 12).toInt := (congrArg Int32.toInt rfl).trans rfl
  have w9 := ib336_13 hI
  have w10 : (zI M 336 13).toInt = (zI M 336 13).toInt := (congrArg Int32.toInt rfl).trans rfl
  have w11 := ib336_14 hI
  have w12 : (zI M 336 14).toInt = (zI M 336 14).toInt := (congrArg Int32.toInt rfl).trans rfl
  obtain ⟨w13n, w13⟩ : ∃ n : Nat, (zI M 336 6).toInt = (n : Int) := ⟨((zI M 336 6).toInt).toNat, by omega⟩
  have w14L : ∀ (m : Nat) (w14M : zM), zSk zMm w14M → zIv mLo mHi w14M → zFr [(336, 336, some 12), (336, 336, some 11), (340, 340, none), (336, 336, some 14)] M w14M → zJ w14M 351 = zJ M 351 → zGn w14M → zGh w14M hh → zXm w14M 2 gg nn c0 → ((zI w14M 336 12).toInt - (zI w14M 336 14).toInt = (zI M 336 12).toInt - (zI M 336 14).toInt) → ((zI w14M 336 11).toInt + (zI w14M 336 12).toInt = (zI M 336 11).toInt + (zI M 336 12).toInt) → ((zI w14M 336 14).toInt ≤ (zI M 336 14).toInt) → (zI w14M 336 12).toInt ≤ (m : Int) → zGo X l 2 0 0 263 0 [(0, .ref 336)] [] w14M Q := by
    intro m
    induction m using Nat.strongRecOn with
    | ind w14m w14ih =>
      intro w14M w14s w14I w14F w14J w14PN w14PH w14PX w14r0 w14r1 w14r2 w14q
      have w15 := ib336_14 w14I
      have w16 := ib336_12 w14I
      have w17 : (zI M 336 14).toInt = (zI M 336 14).toInt := (congrArg Int32.toInt rfl).trans rfl
      have w18 : (zI M 336 12).toInt = (zI M 336 12).toInt := (congrArg Int32.toInt rfl).trans rfl
      have w19 := ib336_11 w14I
      have w20 := ib336_11 hI
      have w21 : (zI M 336 11).toInt = (zI M 336 11).toInt := (congrArg Int32.toInt rfl).trans rfl
      have w22 : (zI M 336 12).toInt = (zI M 336 12).toInt := (congrArg Int32.toInt rfl).trans rfl
      have w23 : (zI M 336 14).toInt = (zI M 336 14).toInt := (congrArg Int32.toInt rfl).trans rfl
      refine zs_aload_n (pc := 0) t263_0 rfl ?_
      refine zs_bipush (pc := 1) t263_1 (v := 33) (by decide) ?_
      have w24 : (33 : Int32).toInt = 33 := li33
      refine zs_invV (pc := 3) (k := 336) (as' := [.int (33 : Int32)]) (st := []) t263_3 mf264 rfl rfl (Or.inl ⟨by decide, (zk1 (w14s.k fk_zMm_336))⟩) ⟨by decide, by decide, Nat.le_of_ble_eq_true rfl, Nat.le_of_ble_eq_true rfl⟩ (K264 w14s w14I ?_) (fun _ _ q => q)
      intro w25v w25x0 w25a w25b
      show zGo X l 2 0 0 263 6 [(0, .ref 336)] [.int w25v] w14M _
      rcases w25x0 with w26 | w26
      · skip
        have w261 := w26.1
        have w27 : (zI w14M 336 12).toInt = (zI w14M 336 12).toInt := (congrArg Int32.toInt rfl).trans rfl
        have w262 := w26.2.1
        obtain ⟨w26n, w26ne⟩ : ∃ n : Nat, (n : Int) + 1 = (zI w14M 336 12).toInt := ⟨((zI w14M 336 12).toInt - 1).toNat, by omega⟩
        have w263 := w26.2.2 w26n w26ne
        refine zs_if_eqF (pc := 6) t263_6 rfl (by omega) ?_
        refine zs_aload_n (pc := 9) t263_9 rfl ?_
        have w28 : (zI w14M 336 11).toInt = (zI w14M 336 11).toInt := (congrArg Int32.toInt rfl).trans rfl
        have w29 : (zI w14M 336 12).toInt = (zI w14M 336 12).toInt := (congrArg Int32.toInt rfl).trans rfl
        have w30 : (zI w14M 336 11).toInt = (zI w14M 336 11).toInt := (congrArg Int32.toInt rfl).trans rfl
        have w31 : (zI w14M 336 12).toInt = (zI w14M 336 12).toInt := (congrArg Int32.toInt rfl).trans rfl
        have w32 := zGn.le w14PN
        have w33 : (zI w14M 336 12).toInt = (zI w14M 336 12).toInt := (congrArg Int32.toInt rfl).trans rfl
        have w34 : (zI w14M 336 14).toInt = (zI w14M 336 14).toInt := (congrArg Int32.toInt rfl).trans rfl
        refine zs_invV (pc := 10) (k := 336) (as' := []) (st := []) t263_10 mf265 rfl rfl (Or.inl ⟨by decide, (zk1 (w14s.k fk_zMm_336))⟩) ⟨by decide, by decide, Nat.le_of_ble_eq_true rfl, Nat.le_of_ble_eq_true rfl⟩ (K265 (hq := hh) w14s w14I w14PH (by omega) (by omega) (fun n hn => by obtain rfl : n = w26n := (by omega); omega) ?_) (fun _ _ q => q)
        intro w35M w35s w35I w35F w35J w35PH w35t0 w35t1
        have w36 := ib336_11 w35I
        have w37 := ib336_12 w35I
        have w38 : (zI w14M 336 14).toInt = (zI w14M 336 14).toInt := (congrArg Int32.toInt rfl).trans rfl
        have w35z := zGn.top (n := w26n) w14PN (by omega) (by omega)
        have w35y := znest.nn (zI w14M 341) w26n
        have w39 : (zI w14M 336 12).toInt = (zI w14M 336 12).toInt := (congrArg Int32.toInt rfl).trans rfl
        have w40 : (zI w35M 336 12).toInt = (zI w35M 336 12).toInt := (congrArg Int32.toInt rfl).trans rfl
        have w35X : zXm w35M 2 gg nn c0 := zXm.neg (w := w26n) w14PX (by omega) (by omega) (fun j => w35F 341 j rfl) (by omega) (w35F 336 6 rfl) (w35F 336 13 rfl)
        show zGo X l 2 0 0 263 13 [(0, .ref 336)] [] w35M _
        refine zs_aload_n (pc := 13) t263_13 rfl ?_
        refine zs_dup (pc := 14) t263_14 rfl ?_
        refine zs_get (pc := 15) t263_15 (by decide) (zk1 (w35s.k fk_zMm_336)) (zfvi rfl ((w35F 336 14 rfl).trans rfl)) ?_
        refine zs_iconst (pc := 18) t263_18 (v := 1) (by decide) ?_
        obtain ⟨w41v, w41e, w41⟩ := zisub (a := (zI w14M 336 14)) (b := (1 : Int32)) rfl li1 (by omega) (by omega)
        refine zs_isub (pc := 19) t263_19 (c := w41v) w41e ?_
        have w42 : zIv mLo mHi (zsI w35M 336 14 w41v) := zIv.put w35I (show 0 ≤ w41v.toInt ∧ w41v.toInt ≤ 6 from ⟨by omega, by omega⟩)
        have w43 : (zI (zsI w35M 336 14 w41v) 336 14).toInt = ((zI w14M 336 14).toInt - 1) := (congrArg Int32.toInt zIs).trans w41
        have w44 : (zI (zsI w35M 336 14 w41v) 336 12).toInt = (zI w35M 336 12).toInt := (congrArg Int32.toInt ((zIoj (by decide)).trans rfl)).trans rfl
        have w45 : (zI w14M 336 14).toInt = (zI w14M 336 14).toInt := (congrArg Int32.toInt rfl).trans rfl
        have w46 : (zI w14M 336 12).toInt = (zI w14M 336 12).toInt := (congrArg Int32.toInt rfl).trans rfl
        have w47 : w41v.toInt = ((zI w14M 336 14).toInt - 1) := w41
        have w48 : zGn (zsI w35M 336 14 w41v) := zGn.pop (n := w26n) w14PN (by omega) (by omega) (fun j => ((zIo (by decide)).trans (w35F 341 j rfl))) (by omega) (by omega)
        refine zs_putI (pc := 20) t263_20 (zk1 (w35s.k fk_zMm_336)) rfl ?_
        refine zs_goto (pc := 23) t263_23 ?_
        refine zGo.locals (ls' := [(0, .ref 336)]) (by simp) ?_
        have w49 : (zI (zsI w35M 336 14 w41v) 336 12).toInt = (zI w35M 336 12).toInt := (congrArg Int32.toInt ((zIoj (by decide)).trans rfl)).trans rfl
        have w50 : (zI (zsI w35M 336 14 w41v) 336 14).toInt = ((zI w14M 336 14).toInt - 1) := (congrArg Int32.toInt zIs).trans w41
        have w51 : (zI (zsI w35M 336 14 w41v) 336 14).toInt = ((zI w14M 336 14).toInt - 1) := (congrArg Int32.toInt zIs).trans w41
        have w52 : (zI (zsI w35M 336 14 w41v) 336 12).toInt = (zI w35M 336 12).toInt := (congrArg Int32.toInt ((zIoj (by decide)).trans rfl)).trans rfl
        have w53 : (zI (zsI w35M 336 14 w41v) 336 11).toInt = (zI w35M 336 11).toInt := (congrArg Int32.toInt ((zIoj (by decide)).trans rfl)).trans rfl
        have w54 : (zI (zsI w35M 336 14 w41v) 336 12).toInt = (zI w35M 336 12).toInt := (congrArg Int32.toInt ((zIoj (by decide)).trans rfl)).trans rfl
        have w55 : (zI (zsI w35M 336 14 w41v) 336 14).toInt = ((zI w14M 336 14).toInt - 1) := (congrArg Int32.toInt zIs).trans w41
        have w56 : (zI (zsI w35M 336 14 w41v) 336 12).toInt = (zI w35M 336 12).toInt := (congrArg Int32.toInt ((zIoj (by decide)).trans rfl)).trans rfl
        exact w14ih (w14m - 1) (by omega) (zsI w35M 336 14 w41v) w35s w42 ((((zFr.refl).trans (w14F.mono rfl)).trans (w35F.mono rfl)).put rfl) (w35J.trans w14J) w48 (zGh.cast (zGh.fr (M' := (zsI w35M 336 14 w41v)) w35PH (zEq.put rfl)) (by omega)) (zXm.cast (zXm.fr (M' := (zsI w35M 336 14 w41v)) w35X (zEq.put rfl)) (by omega)) (by omega) (by omega) (by omega) (by omega)
      · skip
        have w261 := w26.1
        have w57 : (zI w14M 336 12).toInt = (zI w14M 336 12).toInt := (congrArg Int32.toInt rfl).trans rfl
        have w26X : zXm w14M 3 gg nn c0 := zXm.done w14PX (fun n hn => by have q := w26.2 n hn; rw [show (33 : Int32).toInt = 33 by decide] at q; exact q)
        refine zs_if_eqT (pc := 6) t263_6 rfl (by omega) ?_
        have w58 : (zI w14M 336 11).toInt = (zI w14M 336 11).toInt := (congrArg Int32.toInt rfl).trans rfl
        have w59 : (zI w14M 336 14).toInt = (zI w14M 336 14).toInt := (congrArg Int32.toInt rfl).trans rfl
        have w60 : (zI w14M 336 12).toInt = (zI w14M 336 12).toInt := (congrArg Int32.toInt rfl).trans rfl
        exact zs_vret (pc := 26) t263_26 mr263 (hQ _ w14s w14I ((zFr.refl).trans (w14F.mono rfl)) w14J w14PN w14PH w26X (by omega) (by omega) (by omega))
  refine zGo.locals (ls' := [(0, .ref 336)]) (by simp) ?_
  have w61 : (zI M 336 12).toInt = (zI M 336 12).toInt := (congrArg Int32.toInt rfl).trans rfl
  have w62 : (zI M 336 14).toInt = (zI M 336 14).toInt := (congrArg Int32.toInt rfl).trans rfl
  have w63 : (zI M 336 14).toInt = (zI M 336 14).toInt := (congrArg Int32.toInt rfl).trans rfl
  have w64 : (zI M 336 12).toInt = (zI M 336 12).toInt := (congrArg Int32.toInt rfl).trans rfl
  have w65 : (zI M 336 11).toInt = (zI M 336 11).toInt := (congrArg Int32.toInt rfl).trans rfl
  have w66 : (zI M 336 12).toInt = (zI M 336 12).toInt := (congrArg Int32.toInt rfl).trans rfl
  have w67 : (zI M 336 14).toInt = (zI M 336 14).toInt := (congrArg Int32.toInt rfl).trans rfl
  have w68 : (zI M 336 12).toInt = (zI M 336 12).toInt := (congrArg Int32.toInt rfl).trans rfl
  exact w14L (((zI M 336 12).toInt : Int).toNat) M hs hI zFr.refl rfl pN (zGh.cast pH (by omega)) (zXm.cast pX (by omega)) (by omega) (by omega) (by omega) (by omega)
theorem E256 {X : zX} {l : Launch} {M : zM} {Q : Option Value → zM → Prop} (hs : zSk zMm M) (hI : zIv mLo mHi M) {gg : Nat → Int} {nn : Int} {c0 : pC} (pN : zGn M) (pH : zGh M ((zI M 336 12).toInt - (zI M 336 14).toInt)) (pX : zXm M 1 gg nn c0) (u0 : (zI M 336 11).toInt + (zI M 336 12).toInt ≤ 5 * (zI M 336 13).toInt) (u1 : 2 * ((zI M 336 12).toInt - (zI M 336 14).toInt) ≤ (zI M 336 13).toInt) (u2 : (zI M 336 6).toInt ≤ (zI M 336 5).toInt) (u3 : (zI M 336 7).toInt = -1) (x0 : zTm M gg nn) (hQ : ∀ (M' : zM) (v : Int32), zSk zMm M' → zIv mLo mHi M' → zFr [(336, 336, some 6), (336, 336, some 7), (336, 336, some 8), (336, 336, some 11), (336, 336, some 13), (340, 340, none), (336, 336, some 12), (336, 336, some 14), (341, 341, none)] M M' → zJ M' 351 = zJ M 351 → ((zI M 336 6).toInt ≤ (zI M' 336 6).toInt) → (v.toInt = 0 ∨ ((zI M 336 13).toInt + 2 ≤ (zI M' 336 13).toInt ∧ (zI M' 336 11).toInt + (zI M' 336 12).toInt ≤ (zI M 336 11).toInt + (zI M 336 12).toInt + 5 * ((zI M' 336 13).toInt - (zI M 336 13).toInt) - 1 ∧ (zI M' 336 12).toInt - (zI M' 336 14).toInt ≤ (zI M 336 12).toInt - (zI M 336 14).toInt)) → (v.toInt = 0 ∨ zGh M' (((zI M' 336 12).toInt - (zI M' 336 14).toInt) + 1)) → (v.toInt = 0 ∨ zGn M') → (zo6 M' v.toInt nn gg c0) → 0 ≤ v.toInt → v.toInt ≤ 1 → Q (some (.int v)) M') : zCall X l 5 0 0 256 [.ref 336] M Q := by
  refine zs_in (by decide) mf256 (Nat.le_of_ble_eq_true rfl) ?_
  show zGo X l 5 0 0 256 0 [(0, .ref 336)] [] M _
  have w1 := ib336_5 hI
  have w2 : (zI M 336 5).toInt = (zI M 336 5).toInt := (congrArg Int32.toInt rfl).trans rfl
  have w3 := ib336_6 hI
  have w4 : (zI M 336 6).toInt = (zI M 336 6).toInt := (congrArg Int32.toInt rfl).trans rfl
  have w5 := ib336_11 hI
  have w6 : (zI M 336 11).toInt = (zI M 336 11).toInt := (congrArg Int32.toInt rfl).trans rfl
  have w7 := ib336_12 hI
  have w8 : (zI M 336 12).toInt = (zI M 336 12).toInt := (congrArg Int32.toInt rfl).trans rfl
  have w9 := ib336_13 hI
  have w10 : (zI M 336 13).toInt = (zI M 336 13).toInt := (congrArg Int32.toInt rfl).trans rfl
  have w11 := ib336_14 hI
  have w12 : (zI M 336 14).toInt = (zI M 336 14).toInt := (congrArg Int32.toInt rfl).trans rfl
  have hn := x0.2
  have w13 : (zI M 336 5).toInt = (zI M 336 5).toInt := (congrArg Int32.toInt rfl).trans rfl
  have w14 : (zI M 336 6).toInt = (zI M 336 6).toInt := (congrArg Int32.toInt rfl).trans rfl
  have w15 := ib336_7 hI
  have w16 : (zI M 336 7).toInt = (zI M 336 7).toInt := (congrArg Int32.toInt rfl).trans rfl
  have w17 : (zI M 336 12).toInt = (zI M 336 12).toInt := (congrArg Int32.toInt rfl).trans rfl
  have w18 : (zI M 336 13).toInt = (zI M 336 13).toInt := (congrArg Int32.toInt rfl).trans rfl
  have w19 : (zI M 336 14).toInt = (zI M 336 14).toInt := (congrArg Int32.toInt rfl).trans rfl
  obtain ⟨w20n, w20⟩ : ∃ n : Nat, (zI M 336 6).toInt = (n : Int) := ⟨((zI M 336 6).toInt).toNat, by omega⟩
  have w21L : ∀ (m : Nat) (w21M : zM), zSk zMm w21M → zIv mLo mHi w21M → zFr [(336, 336, some 6), (336, 336, some 14), (336, 336, some 12), (341, 341, none)] M w21M → zJ w21M 351 = zJ M 351 → zGn w21M → zGh w21M ((zI w21M 336 12).toInt - (zI w21M 336 14).toInt) → zXm w21M 1 gg nn c0 → ((zI w21M 336 12).toInt - (zI w21M 336 14).toInt = (zI M 336 12).toInt - (zI M 336 14).toInt) → ((zI M 336 6).toInt ≤ (zI w21M 336 6).toInt) → ((zI w21M 336 6).toInt ≤ nn) → 500 - (zI w21M 336 6).toInt ≤ (m : Int) → zGo X l 5 0 0 256 0 [(0, .ref 336)] [] w21M Q := by
    intro m
    induction m using Nat.strongRecOn with
    | ind w21m w21ih =>
      intro w21M w21s w21I w21F w21J w21PN w21PH w21PX w21r0 w21r1 w21r2 w21q
      have w22 := ib336_14 w21I
      have w23 := ib336_12 w21I
      have w24 : (zI M 336 14).toInt = (zI M 336 14).toInt := (congrArg Int32.toInt rfl).trans rfl
      have w25 : (zI M 336 12).toInt = (zI M 336 12).toInt := (congrArg Int32.toInt rfl).trans rfl
      have w26 := ib336_6 w21I
      have w27 : (zI M 336 6).toInt = (zI M 336 6).toInt := (congrArg Int32.toInt rfl).trans rfl
      refine zs_aload_n (pc := 0) t256_0 rfl ?_
      refine zs_invV (pc := 1) (k := 336) (as' := []) (st := []) t256_1 mf238 rfl rfl (Or.inl ⟨by decide, (zk1 (w21s.k fk_zMm_336))⟩) ⟨by decide, by decide, Nat.le_of_ble_eq_true rfl, Nat.le_of_ble_eq_true rfl⟩ (H238 w21s w21I ?_) (fun _ _ q => q)
      have w28 := zhere.rg (M := w21M)
      have w29 : (zI w21M 336 6).toInt = (zI w21M 336 6).toInt := (congrArg Int32.toInt rfl).trans rfl
      have w30 : (zI w21M 336 5).toInt = (zI M 336 5).toInt := (congrArg Int32.toInt ((w21F 336 5 rfl).trans rfl)).trans rfl
      have w31 : (zI w21M 336 6).toInt = (zI w21M 336 6).toInt := (congrArg Int32.toInt rfl).trans rfl
      obtain ⟨w32n, w32⟩ : ∃ n : Nat, (zI w21M 336 6).toInt = (n : Int) := ⟨((zI w21M 336 6).toInt).toNat, by omega⟩
      have w33 : (zI w21M 336 5).toInt = (zI M 336 5).toInt := (congrArg Int32.toInt ((w21F 336 5 rfl).trans rfl)).trans rfl
      have w34 : (zhere w21M).toInt = gg w32n := zhere.tr (zTm.mk x0 (fun j => (w21F 339 j rfl)) (w21F 336 5 rfl)) (by omega)
      have w35 := zTm.rg x0 w32n
      show zGo X l 5 0 0 256 4 [(0, .ref 336)] [.int (zhere w21M)] w21M _
      refine zs_bipush (pc := 4) t256_4 (v := 33) (by decide) ?_
      by_cases w36 : (zhere w21M).toInt = 33
      · refine zs_icmp_eqT (pc := 6) t256_6 rfl li33 (by omega) ?_
        refine zs_aload_n (pc := 18) t256_18 rfl ?_
        refine zs_get (pc := 19) t256_19 (by decide) (zk1 (w21s.k fk_zMm_336)) (zfvi rfl rfl) ?_
        refine zs_bipush (pc := 22) t256_22 (v := 6) (by decide) ?_
        by_cases w37 : (zI w21M 336 14).toInt ≠ 6
        · refine zs_icmp_neT (pc := 24) t256_24 rfl li6 (by omega) ?_
          refine zs_aload_n (pc := 36) t256_36 rfl ?_
          refine zs_dup (pc := 37) t256_37 rfl ?_
          refine zs_get (pc := 38) t256_38 (by decide) (zk1 (w21s.k fk_zMm_336)) (zfvi rfl rfl) ?_
          refine zs_iconst (pc := 41) t256_41 (v := 1) (by decide) ?_
          obtain ⟨w38v, w38e, w38⟩ := ziadd (a := (zI w21M 336 14)) (b := (1 : Int32)) rfl li1 (by omega) (by omega)
          refine zs_iadd (pc := 42) t256_42 (c := w38v) w38e ?_
          have w39 : zIv mLo mHi (zsI w21M 336 14 w38v) := zIv.put w21I (show 0 ≤ w38v.toInt ∧ w38v.toInt ≤ 6 from ⟨by omega, by omega⟩)
          refine zs_putI (pc := 43) t256_43 (zk1 (w21s.k fk_zMm_336)) rfl ?_
          refine zs_aload_n (pc := 46) t256_46 rfl ?_
          refine zs_get (pc := 47) t256_47 (by decide) (zk1 (w21s.k fk_zMm_336)) (w21s.p rfl fv_zMm_336_10) ?_
          refine zs_aload_n (pc := 50) t256_50 rfl ?_
          refine zs_get (pc := 51) t256_51 (by decide) (zk1 (w21s.k fk_zMm_336)) (zfvi rfl ((zIoj (by decide)).trans rfl)) ?_
          refine zs_aload_n (pc := 54) t256_54 rfl ?_
          refine zs_invV (pc := 55) (k := 336) (as' := []) (st := [.int (zI w21M 336 12), .ref 341]) t256_55 mf238 rfl rfl (Or.inl ⟨by decide, (zk1 (w21s.k fk_zMm_336))⟩) ⟨by decide, by decide, Nat.le_of_ble_eq_true rfl, Nat.le_of_ble_eq_true rfl⟩ (H238 w21s w39 ?_) (fun _ _ q => q)
          have w40 := zhere.rg (M := w21M)
          have w41 : (zI w21M 336 6).toInt = (zI w21M 336 6).toInt := (congrArg Int32.toInt rfl).trans rfl
          have w42 : (zI w21M 336 5).toInt = (zI M 336 5).toInt := (congrArg Int32.toInt ((w21F 336 5 rfl).trans rfl)).trans rfl
          have w43 : (zhere (zsI w21M 336 14 w38v)).toInt = (zhere w21M).toInt := (congrArg Int32.toInt (zhere.fr (M := w21M) (M' := (zsI w21M 336 14 w38v)) (zEq.put rfl)))
          have w44 : (zI w21M 336 6).toInt = (zI w21M 336 6).toInt := (congrArg Int32.toInt rfl).trans rfl
          have w45 : (zI w21M 336 5).toInt = (zI M 336 5).toInt := (congrArg Int32.toInt ((w21F 336 5 rfl).trans rfl)).trans rfl
          have w46 : (zhere w21M).toInt = gg w32n := zhere.tr (zTm.mk x0 (fun j => (w21F 339 j rfl)) (w21F 336 5 rfl)) (by omega)
          have w47 := zTm.rg x0 w32n
          show zGo X l 5 0 0 256 58 [(0, .ref 336)] [.int (zhere (zsI w21M 336 14 w38v)), .int (zI w21M 336 12), .ref 341] (zsI w21M 336 14 w38v) _
          obtain ⟨w48n, w48⟩ : ∃ n : Nat, (zI w21M 336 12).toInt = (n : Int) := ⟨((zI w21M 336 12).toInt).toNat, by omega⟩
          have w49 : zIv mLo mHi (zsI (zsI w21M 336 14 w38v) 341 w48n (zhere (zsI w21M 336 14 w38v))) := zIv.put w39 (show (-2147483648) ≤ (zhere (zsI w21M 336 14 w38v)).toInt ∧ (zhere (zsI w21M 336 14 w38v)).toInt ≤ 2147483647 from zrg (zhere (zsI w21M 336 14 w38v)))
          refine zs_iast (pc := 58) t256_58 (j := w48n) (by decide) (zk1 (w21s.k fk_zMm_341)) (show (zI w21M 336 12).toInt = ((w48n : Nat) : Int) by omega) (zk2 (w21s.k fk_zMm_341) (by omega)) ?_
          refine zs_aload_n (pc := 59) t256_59 rfl ?_
          refine zs_dup (pc := 60) t256_60 rfl ?_
          refine zs_get (pc := 61) t256_61 (by decide) (zk1 (w21s.k fk_zMm_336)) (zfvi rfl ((zIo (by decide)).trans ((zIoj (by decide)).trans rfl))) ?_
          refine zs_iconst (pc := 64) t256_64 (v := 1) (by decide) ?_
          obtain ⟨w50v, w50e, w50⟩ := ziadd (a := (zI w21M 336 12)) (b := (1 : Int32)) rfl li1 (by omega) (by omega)
          refine zs_iadd (pc := 65) t256_65 (c := w50v) w50e ?_
          have w51 : zIv mLo mHi (zsI (zsI (zsI w21M 336 14 w38v) 341 w48n (zhere (zsI w21M 336 14 w38v))) 336 12 w50v) := zIv.put w49 (show 0 ≤ w50v.toInt ∧ w50v.toInt ≤ 40 from ⟨by omega, by omega⟩)
          have w52 : (zI (zsI (zsI (zsI w21M 336 14 w38v) 341 w48n (zhere (zsI w21M 336 14 w38v))) 336 12 w50v) 336 12).toInt = ((zI w21M 336 12).toInt + 1) := (congrArg Int32.toInt zIs).trans w50
          have w53 : (zI (zsI (zsI (zsI w21M 336 14 w38v) 341 w48n (zhere (zsI w21M 336 14 w38v))) 336 12 w50v) 336 14).toInt = ((zI w21M 336 14).toInt + 1) := (congrArg Int32.toInt ((zIoj (by decide)).trans ((zIo (by decide)).trans zIs))).trans w38
          have w54 : (zI w21M 336 12).toInt = (zI w21M 336 12).toInt := (congrArg Int32.toInt rfl).trans rfl
          have w55 : (zI w21M 336 14).toInt = (zI w21M 336 14).toInt := (congrArg Int32.toInt rfl).trans rfl
          have w56 : w38v.toInt = ((zI w21M 336 14).toInt + 1) := w38
          have w57 : (zhere (zsI w21M 336 14 w38v)).toInt = (zhere w21M).toInt := (congrArg Int32.toInt (zhere.fr (M := w21M) (M' := (zsI w21M 336 14 w38v)) (zEq.put rfl)))
          have w58 : w50v.toInt = ((zI w21M 336 12).toInt + 1) := w50
          have w59 : (zI (zsI (zsI (zsI w21M 336 14 w38v) 341 w48n (zhere (zsI w21M 336 14 w38v))) 336 12 w50v) 341 w48n).toInt = (zhere w21M).toInt := (congrArg Int32.toInt ((zIo (by decide)).trans zIs)).trans (congrArg Int32.toInt (zhere.fr (M := w21M) (M' := (zsI w21M 336 14 w38v)) (zEq.put rfl)))
          have w60 : zGn (zsI (zsI (zsI w21M 336 14 w38v) 341 w48n (zhere (zsI w21M 336 14 w38v))) 336 12 w50v) := zGn.push (n := w48n) w21PN (by omega) (fun j hj => ((zIo (by decide)).trans ((zIoj hj).trans (zIo (by decide))))) (by omega) (by omega) (by omega)
          refine zs_putI (pc := 66) t256_66 (zk1 (w21s.k fk_zMm_336)) rfl ?_
          refine zs_aload_n (pc := 69) t256_69 rfl ?_
          refine zs_dup (pc := 70) t256_70 rfl ?_
          refine zs_get (pc := 71) t256_71 (by decide) (zk1 (w21s.k fk_zMm_336)) (zfvi rfl ((zIoj (by decide)).trans ((zIo (by decide)).trans ((zIoj (by decide)).trans rfl)))) ?_
          refine zs_iconst (pc := 74) t256_74 (v := 1) (by decide) ?_
          obtain ⟨w61v, w61e, w61⟩ := ziadd (a := (zI w21M 336 6)) (b := (1 : Int32)) rfl li1 (by omega) (by omega)
          refine zs_iadd (pc := 75) t256_75 (c := w61v) w61e ?_
          have w62 : zIv mLo mHi (zsI (zsI (zsI (zsI w21M 336 14 w38v) 341 w48n (zhere (zsI w21M 336 14 w38v))) 336 12 w50v) 336 6 w61v) := zIv.put w51 (show 0 ≤ w61v.toInt ∧ w61v.toInt ≤ 500 from ⟨by omega, by omega⟩)
          have w63 : (zI w21M 336 6).toInt = (zI w21M 336 6).toInt := (congrArg Int32.toInt rfl).trans rfl
          have w65 : (zI (zsI (zsI (zsI (zsI w21M 336 14 w38v) 341 w48n (zhere (zsI w21M 336 14 w38v))) 336 12 w50v) 336 6 w61v) 336 6).toInt = ((zI w21M 336 6).toInt + 1) := (congrArg Int32.toInt zIs).trans w61
          have w66 : (zI (zsI (zsI (zsI (zsI w21M 336 14 w38v) 341 w48n (zhere (zsI w21M 336 14 w38v))) 336 12 w50v) 336 6 w61v) 336 12).toInt = ((zI w21M 336 12).toInt + 1) := (congrArg Int32.toInt ((zIoj (by decide)).trans zIs)).trans w50
          have w67 : (zI (zsI (zsI (zsI (zsI w21M 336 14 w38v) 341 w48n (zhere (zsI w21M 336 14 w38v))) 336 12 w50v) 336 6 w61v) 336 13).toInt = (zI M 336 13).toInt := (congrArg Int32.toInt ((zIoj (by decide)).trans ((zIoj (by decide)).trans ((zIo (by decide)).trans ((zIoj (by decide)).trans ((w21F 336 13 rfl).trans rfl)))))).trans rfl
          have w68 : (zI (zsI (zsI (zsI (zsI w21M 336 14 w38v) 341 w48n (zhere (zsI w21M 336 14 w38v))) 336 12 w50v) 336 6 w61v) 336 14).toInt = ((zI w21M 336 14).toInt + 1) := (congrArg Int32.toInt ((zIoj (by decide)).trans ((zIoj (by decide)).trans ((zIo (by decide)).trans zIs)))).trans w38
          have w69 : (zI w21M 336 6).toInt = (zI w21M 336 6).toInt := (congrArg Int32.toInt rfl).trans rfl
          have w70 : (zI w21M 336 12).toInt = (zI w21M 336 12).toInt := (congrArg Int32.toInt rfl).trans rfl
          have w71 : (zI w21M 336 13).toInt = (zI M 336 13).toInt := (congrArg Int32.toInt ((w21F 336 13 rfl).trans rfl)).trans rfl
          have w72 : (zI w21M 336 14).toInt = (zI w21M 336 14).toInt := (congrArg Int32.toInt rfl).trans rfl
          have w73 : w38v.toInt = ((zI w21M 336 14).toInt + 1) := w38
          have w74 : (zhere (zsI w21M 336 14 w38v)).toInt = (zhere w21M).toInt := (congrArg Int32.toInt (zhere.fr (M := w21M) (M' := (zsI w21M 336 14 w38v)) (zEq.put rfl)))
          have w75 : w50v.toInt = ((zI w21M 336 12).toInt + 1) := w50
          have w76 : w61v.toInt = ((zI w21M 336 6).toInt + 1) := w61
          have w77 : (zI (zsI (zsI (zsI (zsI w21M 336 14 w38v) 341 w48n (zhere (zsI w21M 336 14 w38v))) 336 12 w50v) 336 6 w61v) 341 w48n).toInt = (zhere w21M).toInt := (congrArg Int32.toInt ((zIo (by decide)).trans ((zIo (by decide)).trans zIs))).trans (congrArg Int32.toInt (zhere.fr (M := w21M) (M' := (zsI w21M 336 14 w38v)) (zEq.put rfl)))
          have w64 : zXm (zsI (zsI (zsI (zsI w21M 336 14 w38v) 341 w48n (zhere (zsI w21M 336 14 w38v))) 336 12 w50v) 336 6 w61v) 1 gg nn c0 := zXm.push (w := w48n) (p := w32n) w21PX w21PN (by omega) (by omega) (by omega) (by omega) (fun j hj => ((zIo (by decide)).trans ((zIo (by decide)).trans ((zIoj hj).trans (zIo (by decide)))))) (by omega) (by omega) (by omega) (by omega) (by omega)
          refine zs_putI (pc := 76) t256_76 (zk1 (w21s.k fk_zMm_336)) rfl ?_
          refine zs_goto (pc := 79) t256_79 ?_
          refine zGo.locals (ls' := [(0, .ref 336)]) (by simp) ?_
          have w78 : (zI (zsI (zsI (zsI (zsI w21M 336 14 w38v) 341 w48n (zhere (zsI w21M 336 14 w38v))) 336 12 w50v) 336 6 w61v) 336 12).toInt = ((zI w21M 336 12).toInt + 1) := (congrArg Int32.toInt ((zIoj (by decide)).trans zIs)).trans w50
          have w79 : (zI (zsI (zsI (zsI (zsI w21M 336 14 w38v) 341 w48n (zhere (zsI w21M 336 14 w38v))) 336 12 w50v) 336 6 w61v) 336 14).toInt = ((zI w21M 336 14).toInt + 1) := (congrArg Int32.toInt ((zIoj (by decide)).trans ((zIoj (by decide)).trans ((zIo (by decide)).trans zIs)))).trans w38
          have w80 : (zI (zsI (zsI (zsI (zsI w21M 336 14 w38v) 341 w48n (zhere (zsI w21M 336 14 w38v))) 336 12 w50v) 336 6 w61v) 336 14).toInt = ((zI w21M 336 14).toInt + 1) := (congrArg Int32.toInt ((zIoj (by decide)).trans ((zIoj (by decide)).trans ((zIo (by decide)).trans zIs)))).trans w38
          have w81 : (zI (zsI (zsI (zsI (zsI w21M 336 14 w38v) 341 w48n (zhere (zsI w21M 336 14 w38v))) 336 12 w50v) 336 6 w61v) 336 12).toInt = ((zI w21M 336 12).toInt + 1) := (congrArg Int32.toInt ((zIoj (by decide)).trans zIs)).trans w50
          have w82 : (zI (zsI (zsI (zsI (zsI w21M 336 14 w38v) 341 w48n (zhere (zsI w21M 336 14 w38v))) 336 12 w50v) 336 6 w61v) 336 6).toInt = ((zI w21M 336 6).toInt + 1) := (congrArg Int32.toInt zIs).trans w61
          have w83 : (zI (zsI (zsI (zsI (zsI w21M 336 14 w38v) 341 w48n (zhere (zsI w21M 336 14 w38v))) 336 12 w50v) 336 6 w61v) 336 6).toInt = ((zI w21M 336 6).toInt + 1) := (congrArg Int32.toInt zIs).trans w61
          have w84 : (zI (zsI (zsI (zsI (zsI w21M 336 14 w38v) 341 w48n (zhere (zsI w21M 336 14 w38v))) 336 12 w50v) 336 6 w61v) 336 6).toInt = ((zI w21M 336 6).toInt + 1) := (congrArg Int32.toInt zIs).trans w61
          exact w21ih (w21m - 1) (by omega) (zsI (zsI (zsI (zsI w21M 336 14 w38v) 341 w48n (zhere (zsI w21M 336 14 w38v))) 336 12 w50v) 336 6 w61v) w21s w62 ((((((zFr.refl).trans (w21F.mono rfl)).put rfl).put rfl).put rfl).put rfl) w21J (zGn.fr (M' := (zsI (zsI (zsI (zsI w21M 336 14 w38v) 341 w48n (zhere (zsI w21M 336 14 w38v))) 336 12 w50v) 336 6 w61v)) w60 (zEq.put rfl)) (zGh.cast (zGh.fr (M' := (zsI (zsI (zsI (zsI w21M 336 14 w38v) 341 w48n (zhere (zsI w21M 336 14 w38v))) 336 12 w50v) 336 6 w61v)) (zGh.fr (M' := (zsI (zsI (zsI w21M 336 14 w38v) 341 w48n (zhere (zsI w21M 336 14 w38v))) 336 12 w50v)) (zGh.fr (M' := (zsI (zsI w21M 336 14 w38v) 341 w48n (zhere (zsI w21M 336 14 w38v)))) (zGh.fr (M' := (zsI w21M 336 14 w38v)) w21PH (zEq.put rfl)) (zEq.put rfl)) (zEq.put rfl)) (zEq.put rfl)) (by omega)) (zXm.cast w64 (by omega)) (by omega) (by omega) (by omega) (by omega)
        · refine zs_icmp_neF (pc := 24) t256_24 rfl li6 (by omega) ?_
          refine zs_aload_n (pc := 27) t256_27 rfl ?_
          refine zs_aload_n (pc := 28) t256_28 rfl ?_
          refine zs_get (pc := 29) t256_29 (by decide) (zk1 (w21s.k fk_zMm_336)) (zfvi rfl rfl) ?_
          refine zs_invV (pc := 32) (k := 336) (as' := [.int (zI w21M 336 6)]) (st := []) t256_32 mf239 rfl rfl (Or.inl ⟨by decide, (zk1 (w21s.k fk_zMm_336))⟩) ⟨by decide, by decide, Nat.le_of_ble_eq_true rfl, Nat.le_of_ble_eq_true rfl⟩ (zs_in (by decide) mf239 (Nat.le_of_ble_eq_true rfl) ?_) (fun _ _ q => q)
          show zGo X l 0 0 0 239 0 [(0, .ref 336), (1, .int (zI w21M 336 6))] [] w21M _
          refine zs_aload_n (pc := 0) t239_0 rfl ?_
          refine zs_iload_n (pc := 1) t239_1 rfl ?_
          have w85 : zIv mLo mHi (zsI w21M 336 7 (zI w21M 336 6)) := zIv.put w21I (show (-1) ≤ (zI w21M 336 6).toInt ∧ (zI w21M 336 6).toInt ≤ 500 from ⟨by omega, by omega⟩)
          refine zs_putI (pc := 2) t239_2 (zk1 (w21s.k fk_zMm_336)) rfl ?_
          refine zs_iconst (pc := 5) t239_5 (v := 0) (by decide) ?_
          refine zs_iret (pc := 6) t239_6 mr239 (by decide) ?_
          show zGo X l 5 0 0 256 35 [(0, .ref 336)] [.int (0 : Int32)] (zsI w21M 336 7 (zI w21M 336 6)) _
          have w86 : (zI (zsI w21M 336 7 (zI w21M 336 6)) 336 14).toInt = (zI w21M 336 14).toInt := (congrArg Int32.toInt ((zIoj (by decide)).trans rfl)).trans rfl
          have w87 : (zI (zsI w21M 336 7 (zI w21M 336 6)) 336 12).toInt = (zI w21M 336 12).toInt := (congrArg Int32.toInt ((zIoj (by decide)).trans rfl)).trans rfl
          have w88 : (zI (zsI w21M 336 7 (zI w21M 336 6)) 336 6).toInt = (zI w21M 336 6).toInt := (congrArg Int32.toInt ((zIoj (by decide)).trans rfl)).trans rfl
          have w89 : (zI (zsI w21M 336 7 (zI w21M 336 6)) 336 13).toInt = (zI M 336 13).toInt := (congrArg Int32.toInt ((zIoj (by decide)).trans ((w21F 336 13 rfl).trans rfl))).trans rfl
          have w90 : (zI (zsI w21M 336 7 (zI w21M 336 6)) 336 11).toInt = (zI M 336 11).toInt := (congrArg Int32.toInt ((zIoj (by decide)).trans ((w21F 336 11 rfl).trans rfl))).trans rfl
          have w91 := li0
          have w92 : (zI (zsI w21M 336 7 (zI w21M 336 6)) 336 14).toInt = (zI w21M 336 14).toInt := (congrArg Int32.toInt ((zIoj (by decide)).trans rfl)).trans rfl
          have w93 : (zI (zsI w21M 336 7 (zI w21M 336 6)) 336 7).toInt = (zI w21M 336 6).toInt := (congrArg Int32.toInt zIs).trans rfl
          have w94 : (zI (zsI w21M 336 7 (zI w21M 336 6)) 336 6).toInt = (zI w21M 336 6).toInt := (congrArg Int32.toInt ((zIoj (by decide)).trans rfl)).trans rfl
          exact zs_iret (pc := 35) t256_35 mr256 (by decide) (hQ _ _ w21s w85 (((zFr.refl).trans (w21F.mono rfl)).put rfl) w21J (by omega) (by omega) (Or.inl (by decide)) (Or.inl (by decide)) (zo6.f (by decide) (by omega) (zXm.deep (p := w32n) (zXm.fr (M' := (zsI w21M 336 7 (zI w21M 336 6))) w21PX (zEq.put rfl)) (zGn.fr (M' := (zsI w21M 336 7 (zI w21M 336 6))) w21PN (zEq.put rfl)) (by omega) (by omega) (by omega))) (by decide) (by decide))
      · refine zs_icmp_eqF (pc := 6) t256_6 rfl li33 (by omega) ?_
        refine zs_aload_n (pc := 9) t256_9 rfl ?_
        refine zs_invV (pc := 10) (k := 336) (as' := []) (st := []) t256_10 mf238 rfl rfl (Or.inl ⟨by decide, (zk1 (w21s.k fk_zMm_336))⟩) ⟨by decide, by decide, Nat.le_of_ble_eq_true rfl, Nat.le_of_ble_eq_true rfl⟩ (H238 w21s w21I ?_) (fun _ _ q => q)
        have w95 := zhere.rg (M := w21M)
        have w96 : (zI w21M 336 6).toInt = (zI w21M 336 6).toInt := (congrArg Int32.toInt rfl).trans rfl
        have w97 : (zI w21M 336 5).toInt = (zI M 336 5).toInt := (congrArg Int32.toInt ((w21F 336 5 rfl).trans rfl)).trans rfl
        have w98 : (zI w21M 336 6).toInt = (zI w21M 336 6).toInt := (congrArg Int32.toInt rfl).trans rfl
        have w99 : (zI w21M 336 5).toInt = (zI M 336 5).toInt := (congrArg Int32.toInt ((w21F 336 5 rfl).trans rfl)).trans rfl
        have w100 : (zhere w21M).toInt = gg w32n := zhere.tr (zTm.mk x0 (fun j => (w21F 339 j rfl)) (w21F 336 5 rfl)) (by omega)
        have w101 := zTm.rg x0 w32n
        show zGo X l 5 0 0 256 13 [(0, .ref 336)] [.int (zhere w21M)] w21M _
        refine zs_bipush (pc := 13) t256_13 (v := 40) (by decide) ?_
        by_cases w102 : (zhere w21M).toInt ≠ 40
        · refine zs_icmp_neT (pc := 15) t256_15 rfl li40 (by omega) ?_
          refine zs_aload_n (pc := 82) t256_82 rfl ?_
          have w103 : (zI w21M 336 6).toInt = (zI w21M 336 6).toInt := (congrArg Int32.toInt rfl).trans rfl
          have w104 : (zI w21M 336 5).toInt = (zI M 336 5).toInt := (congrArg Int32.toInt ((w21F 336 5 rfl).trans rfl)).trans rfl
          have w105 : (zI w21M 336 13).toInt = (zI M 336 13).toInt := (congrArg Int32.toInt ((w21F 336 13 rfl).trans rfl)).trans rfl
          have w106 : (zI w21M 336 7).toInt = (zI M 336 7).toInt := (congrArg Int32.toInt ((w21F 336 7 rfl).trans rfl)).trans rfl
          have w107 : (zI w21M 336 11).toInt = (zI M 336 11).toInt := (congrArg Int32.toInt ((w21F 336 11 rfl).trans rfl)).trans rfl
          have w108 : (zI w21M 336 11).toInt = (zI M 336 11).toInt := (congrArg Int32.toInt ((w21F 336 11 rfl).trans rfl)).trans rfl
          have w109 : (zI w21M 336 6).toInt = (zI w21M 336 6).toInt := (congrArg Int32.toInt rfl).trans rfl
          have w110 : (zI w21M 336 13).toInt = (zI M 336 13).toInt := (congrArg Int32.toInt ((w21F 336 13 rfl).trans rfl)).trans rfl
          have w111 := zGn.le w21PN
          have w112 : (zI w21M 336 12).toInt = (zI w21M 336 12).toInt := (congrArg Int32.toInt rfl).trans rfl
          have w113 : (zI w21M 336 14).toInt = (zI w21M 336 14).toInt := (congrArg Int32.toInt rfl).trans rfl
          refine zs_invV (pc := 83) (k := 336) (as' := []) (st := []) t256_83 mf257 rfl rfl (Or.inl ⟨by decide, (zk1 (w21s.k fk_zMm_336))⟩) ⟨by decide, by decide, Nat.le_of_ble_eq_true rfl, Nat.le_of_ble_eq_true rfl⟩ (E257 w21s w21I w21PH (by omega) (by omega) (by omega) (by omega) (zTm.mk x0 (fun j => (w21F 339 j rfl)) (w21F 336 5 rfl)) ?_) (fun _ _ q => q)
          intro w114M w114v w114s w114I w114F w114J w114t0 w114t1 w114x0 w114x1 w114a w114b
          have w115 := ib336_11 w114I
          have w116 := ib336_6 w114I
          have w117 := ib336_13 w114I
          have w118 : (zI w21M 336 6).toInt = (zI w21M 336 6).toInt := (congrArg Int32.toInt rfl).trans rfl
          have w119 : (zI w21M 336 13).toInt = (zI M 336 13).toInt := (congrArg Int32.toInt ((w21F 336 13 rfl).trans rfl)).trans rfl
          have w114z := w114x1 w32n (zI M 336 13).toInt (by omega) (by omega)
          show zGo X l 5 0 0 256 86 [(0, .ref 336)] [.int w114v] w114M _
          by_cases w120 : w114v.toInt = 0
          · skip
            have w120e := (w114z.resolve_right (fun q => q.1 w120)).2
            have w121 : (zI w21M 336 6).toInt = (zI w21M 336 6).toInt := (congrArg Int32.toInt rfl).trans rfl
            have w122 : (zI w21M 336 13).toInt = (zI M 336 13).toInt := (congrArg Int32.toInt ((w21F 336 13 rfl).trans rfl)).trans rfl
            have w120q := w120e
            rw [show ((zI M 336 13).toInt : Int) = (zI w21M 336 13).toInt by omega] at w120q
            refine zs_if_neF (pc := 86) t256_86 rfl (by omega) ?_
            refine zs_iconst (pc := 89) t256_89 (v := 0) (by decide) ?_
            have w123 : (zI w114M 336 14).toInt = (zI w21M 336 14).toInt := (congrArg Int32.toInt ((w114F 336 14 rfl).trans rfl)).trans rfl
            have w124 : (zI w114M 336 12).toInt = (zI w21M 336 12).toInt := (congrArg Int32.toInt ((w114F 336 12 rfl).trans rfl)).trans rfl
            have w125 : (zI w114M 336 6).toInt = (zI w114M 336 6).toInt := (congrArg Int32.toInt rfl).trans rfl
            have w126 : (zI w114M 336 13).toInt = (zI w114M 336 13).toInt := (congrArg Int32.toInt rfl).trans rfl
            have w127 : (zI w114M 336 11).toInt = (zI w114M 336 11).toInt := (congrArg Int32.toInt rfl).trans rfl
            have w128 := li0
            have w129 : (zI w114M 336 14).toInt = (zI w21M 336 14).toInt := (congrArg Int32.toInt ((w114F 336 14 rfl).trans rfl)).trans rfl
            have w130 := ib336_7 w114I
            have w131 : (zI w114M 336 7).toInt = (zI w114M 336 7).toInt := (congrArg Int32.toInt rfl).trans rfl
            have w132 : (zI w114M 336 6).toInt = (zI w114M 336 6).toInt := (congrArg Int32.toInt rfl).trans rfl
            obtain ⟨w133n, w133⟩ : ∃ n : Nat, (zI w114M 336 6).toInt = (n : Int) := ⟨((zI w114M 336 6).toInt).toNat, by omega⟩
            exact zs_iret (pc := 90) t256_90 mr256 (by decide) (hQ _ _ w114s w114I (((zFr.refl).trans (w21F.mono rfl)).trans (w114F.mono rfl)) (w114J.trans w21J) (by omega) (by omega) (Or.inl (by decide)) (Or.inl (by decide)) (zo6.f (by decide) (by omega) (zXm.cmf (p := w32n) w21PX (by omega) (by omega) w120q)) (by decide) (by decide))
          · skip
            have w120H := w114x0.resolve_left w120
            obtain ⟨w1207, w120p, w120t, w120e, w1203, w1204, w1205⟩ := (w114z.resolve_left (fun q => w120 q.1)).2
            subst w1204
            have w134 : (zI w21M 336 6).toInt = (zI w21M 336 6).toInt := (congrArg Int32.toInt rfl).trans rfl
            have w135 : (zI w21M 336 13).toInt = (zI M 336 13).toInt := (congrArg Int32.toInt ((w21F 336 13 rfl).trans rfl)).trans rfl
            have w120q := w120e
            rw [show ((zI M 336 13).toInt : Int) = (zI w21M 336 13).toInt by omega] at w120q
            have w120X : zXm w114M 2 gg nn c0 := zXm.cm (p := w32n) w21PX (by omega) (by omega) w120q (fun j => (w114F 341 j rfl)) (w114F 336 12 rfl) w1203 rfl w1205
            refine zs_if_neT (pc := 86) t256_86 rfl (by omega) ?_
            refine zs_aload_n (pc := 91) t256_91 rfl ?_
            have w136 : (zI w114M 336 11).toInt = (zI w114M 336 11).toInt := (congrArg Int32.toInt rfl).trans rfl
            have w137 : (zI w114M 336 12).toInt = (zI w21M 336 12).toInt := (congrArg Int32.toInt ((w114F 336 12 rfl).trans rfl)).trans rfl
            have w138 : (zI w114M 336 11).toInt = (zI w114M 336 11).toInt := (congrArg Int32.toInt rfl).trans rfl
            have w139 : (zI w114M 336 14).toInt = (zI w21M 336 14).toInt := (congrArg Int32.toInt ((w114F 336 14 rfl).trans rfl)).trans rfl
            have w140 : (zI w114M 336 12).toInt = (zI w21M 336 12).toInt := (congrArg Int32.toInt ((w114F 336 12 rfl).trans rfl)).trans rfl
            have w141 := zGn.le (zGn.fr w21PN (w114F.eq rfl))
            have w142 : (zI w114M 336 12).toInt = (zI w21M 336 12).toInt := (congrArg Int32.toInt ((w114F 336 12 rfl).trans rfl)).trans rfl
            have w143 : (zI w114M 336 14).toInt = (zI w21M 336 14).toInt := (congrArg Int32.toInt ((w114F 336 14 rfl).trans rfl)).trans rfl
            refine zs_invV (pc := 92) (k := 336) (as' := []) (st := []) t256_92 mf263 rfl rfl (Or.inl ⟨by decide, (zk1 (w114s.k fk_zMm_336))⟩) ⟨by decide, by decide, Nat.le_of_ble_eq_true rfl, Nat.le_of_ble_eq_true rfl⟩ (E263 w114s w114I (zGn.fr w21PN (w114F.eq rfl)) w120H (zXm.cast w120X (by omega)) (by omega) (by omega) (zTm.mk x0 (fun j => ((w114F 339 j rfl).trans (w21F 339 j rfl))) ((w114F 336 5 rfl).trans (w21F 336 5 rfl))) ?_) (fun _ _ q => q)
            intro w144M w144s w144I w144F w144J w144PN w144PH w144PX w144t0 w144t1 w144t2
            have w145 := ib336_11 w144I
            have w146 := ib336_14 w144I
            have w147 := ib336_12 w144I
            show zGo X l 5 0 0 256 95 [(0, .ref 336)] [] w144M _
            have w148L : ∀ (m : Nat) (w148M : zM), zSk zMm w148M → zIv mLo mHi w148M → zFr [(336, 336, some 6), (336, 336, some 12), (336, 336, some 11), (340, 340, none), (336, 336, some 14)] w144M w148M → zJ w148M 351 = zJ w144M 351 → zGn w148M → zGh w148M (((zI w148M 336 12).toInt - (zI w148M 336 14).toInt) + 1) → zXm w148M 3 gg nn c0 → ((zI w148M 336 12).toInt - (zI w148M 336 14).toInt ≤ (zI w144M 336 12).toInt - (zI w144M 336 14).toInt) → ((zI w148M 336 11).toInt + (zI w148M 336 12).toInt ≤ (zI w144M 336 11).toInt + (zI w144M 336 12).toInt) → ((zI w144M 336 6).toInt ≤ (zI w148M 336 6).toInt) → ((zI w148M 336 6).toInt ≤ nn) → 500 - (zI w148M 336 6).toInt ≤ (m : Int) → zGo X l 5 0 0 256 95 [(0, .ref 336)] [] w148M Q := by
              intro m
              induction m using Nat.strongRecOn with
              | ind w148m w148ih =>
                intro w148M w148s w148I w148F w148J w148PN w148PH w148PX w148r0 w148r1 w148r2 w148r3 w148q
                have w149 := ib336_14 w148I
                have w150 := ib336_12 w148I
                have w151 : (zI w144M 336 14).toInt = (zI w144M 336 14).toInt := (congrArg Int32.toInt rfl).trans rfl
                have w152 : (zI w144M 336 12).toInt = (zI w144M 336 12).toInt := (congrArg Int32.toInt rfl).trans rfl
                have w153 := ib336_11 w148I
                have w154 : (zI w144M 336 11).toInt = (zI w144M 336 11).toInt := (congrArg Int32.toInt rfl).trans rfl
                have w155 : (zI w144M 336 12).toInt = (zI w144M 336 12).toInt := (congrArg Int32.toInt rfl).trans rfl
                have w156 := ib336_6 w148I
                have w157 : (zI w144M 336 6).toInt = (zI w114M 336 6).toInt := (congrArg Int32.toInt ((w144F 336 6 rfl).trans rfl)).trans rfl
                refine zs_aload_n (pc := 95) t256_95 rfl ?_
                refine zs_invV (pc := 96) (k := 336) (as' := []) (st := []) t256_96 mf238 rfl rfl (Or.inl ⟨by decide, (zk1 (w148s.k fk_zMm_336))⟩) ⟨by decide, by decide, Nat.le_of_ble_eq_true rfl, Nat.le_of_ble_eq_true rfl⟩ (H238 w148s w148I ?_) (fun _ _ q => q)
                have w158 := zhere.rg (M := w148M)
                have w159 : (zI w148M 336 6).toInt = (zI w148M 336 6).toInt := (congrArg Int32.toInt rfl).trans rfl
                have w160 : (zI w148M 336 5).toInt = (zI M 336 5).toInt := (congrArg Int32.toInt ((w148F 336 5 rfl).trans ((w144F 336 5 rfl).trans ((w114F 336 5 rfl).trans ((w21F 336 5 rfl).trans rfl))))).trans rfl
                have w161 : (zI w148M 336 6).toInt = (zI w148M 336 6).toInt := (congrArg Int32.toInt rfl).trans rfl
                obtain ⟨w162n, w162⟩ : ∃ n : Nat, (zI w148M 336 6).toInt = (n : Int) := ⟨((zI w148M 336 6).toInt).toNat, by omega⟩
                have w163 : (zI w148M 336 5).toInt = (zI M 336 5).toInt := (congrArg Int32.toInt ((w148F 336 5 rfl).trans ((w144F 336 5 rfl).trans ((w114F 336 5 rfl).trans ((w21F 336 5 rfl).trans rfl))))).trans rfl
                have w164 : (zhere w148M).toInt = gg w162n := zhere.tr (zTm.mk x0 (fun j => ((w148F 339 j rfl).trans ((w144F 339 j rfl).trans ((w114F 339 j rfl).trans (w21F 339 j rfl))))) ((w148F 336 5 rfl).trans ((w144F 336 5 rfl).trans ((w114F 336 5 rfl).trans (w21F 336 5 rfl))))) (by omega)
                have w165 := zTm.rg x0 w162n
                show zGo X l 5 0 0 256 99 [(0, .ref 336)] [.int (zhere w148M)] w148M _
                refine zs_bipush (pc := 99) t256_99 (v := 41) (by decide) ?_
                by_cases w166 : (zhere w148M).toInt ≠ 41
                · refine zs_icmp_neT (pc := 101) t256_101 rfl li41 (by omega) ?_
                  refine zs_iconst (pc := 173) t256_173 (v := 1) (by decide) ?_
                  have w167 : (zI w148M 336 14).toInt = (zI w148M 336 14).toInt := (congrArg Int32.toInt rfl).trans rfl
                  have w168 : (zI w148M 336 12).toInt = (zI w148M 336 12).toInt := (congrArg Int32.toInt rfl).trans rfl
                  have w169 : (zI w148M 336 6).toInt = (zI w148M 336 6).toInt := (congrArg Int32.toInt rfl).trans rfl
                  have w170 : (zI w148M 336 13).toInt = (zI w114M 336 13).toInt := (congrArg Int32.toInt ((w148F 336 13 rfl).trans ((w144F 336 13 rfl).trans rfl))).trans rfl
                  have w171 : (zI w148M 336 11).toInt = (zI w148M 336 11).toInt := (congrArg Int32.toInt rfl).trans rfl
                  have w172 := li1
                  have w173 : (zI w148M 336 12).toInt = (zI w148M 336 12).toInt := (congrArg Int32.toInt rfl).trans rfl
                  have w174 : (zI w148M 336 14).toInt = (zI w148M 336 14).toInt := (congrArg Int32.toInt rfl).trans rfl
                  have w175 : (zI w148M 336 14).toInt = (zI w148M 336 14).toInt := (congrArg Int32.toInt rfl).trans rfl
                  have w176 := ib336_7 w114I
                  have w177 : (zI w148M 336 7).toInt = (zI w114M 336 7).toInt := (congrArg Int32.toInt ((w148F 336 7 rfl).trans ((w144F 336 7 rfl).trans rfl))).trans rfl
                  have w178 : (zI w148M 336 6).toInt = (zI w148M 336 6).toInt := (congrArg Int32.toInt rfl).trans rfl
                  exact zs_iret (pc := 174) t256_174 mr256 (by decide) (hQ _ _ w148s w148I (((((zFr.refl).trans (w21F.mono rfl)).trans (w114F.mono rfl)).trans (w144F.mono rfl)).trans (w148F.mono rfl)) (w148J.trans (w144J.trans (w114J.trans w21J))) (by omega) (by omega) (Or.inr (zGh.cast w148PH (by omega))) (Or.inr w148PN) (Or.inr ⟨by decide, by omega, zXm.cast w148PX (by omega), fun p hp => by obtain rfl : w162n = p := (by omega); omega⟩) (by decide) (by decide))
                · refine zs_icmp_neF (pc := 101) t256_101 rfl li41 (by omega) ?_
                  refine zs_aload_n (pc := 104) t256_104 rfl ?_
                  refine zs_get (pc := 105) t256_105 (by decide) (zk1 (w148s.k fk_zMm_336)) (zfvi rfl rfl) ?_
                  by_cases w179 : (zI w148M 336 14).toInt ≤ 0
                  · refine zs_if_leT (pc := 108) t256_108 rfl (by omega) ?_
                    refine zs_iconst (pc := 173) t256_173 (v := 1) (by decide) ?_
                    have w180 : (zI w148M 336 14).toInt = (zI w148M 336 14).toInt := (congrArg Int32.toInt rfl).trans rfl
                    have w181 : (zI w148M 336 12).toInt = (zI w148M 336 12).toInt := (congrArg Int32.toInt rfl).trans rfl
                    have w182 : (zI w148M 336 6).toInt = (zI w148M 336 6).toInt := (congrArg Int32.toInt rfl).trans rfl
                    have w183 : (zI w148M 336 13).toInt = (zI w114M 336 13).toInt := (congrArg Int32.toInt ((w148F 336 13 rfl).trans ((w144F 336 13 rfl).trans rfl))).trans rfl
                    have w184 : (zI w148M 336 11).toInt = (zI w148M 336 11).toInt := (congrArg Int32.toInt rfl).trans rfl
                    have w185 := li1
                    have w186 : (zI w148M 336 12).toInt = (zI w148M 336 12).toInt := (congrArg Int32.toInt rfl).trans rfl
                    have w187 : (zI w148M 336 14).toInt = (zI w148M 336 14).toInt := (congrArg Int32.toInt rfl).trans rfl
                    have w188 : (zI w148M 336 14).toInt = (zI w148M 336 14).toInt := (congrArg Int32.toInt rfl).trans rfl
                    have w189 : (zI w148M 336 7).toInt = (zI w114M 336 7).toInt := (congrArg Int32.toInt ((w148F 336 7 rfl).trans ((w144F 336 7 rfl).trans rfl))).trans rfl
                    have w190 : (zI w148M 336 6).toInt = (zI w148M 336 6).toInt := (congrArg Int32.toInt rfl).trans rfl
                    exact zs_iret (pc := 174) t256_174 mr256 (by decide) (hQ _ _ w148s w148I (((((zFr.refl).trans (w21F.mono rfl)).trans (w114F.mono rfl)).trans (w144F.mono rfl)).trans (w148F.mono rfl)) (w148J.trans (w144J.trans (w114J.trans w21J))) (by omega) (by omega) (Or.inr (zGh.cast w148PH (by omega))) (Or.inr w148PN) (Or.inr ⟨by decide, by omega, zXm.cast w148PX (by omega), fun p hp => by obtain rfl : w162n = p := (by omega); omega⟩) (by decide) (by decide))
                  · refine zs_if_leF (pc := 108) t256_108 rfl (by omega) ?_
                    have w191L : ∀ (m : Nat) (w191M : zM), zSk zMm w191M → zIv mLo mHi w191M → zFr [(336, 336, some 12), (336, 336, some 11), (340, 340, none)] w148M w191M → zJ w191M 351 = zJ w148M 351 → zGn w191M → zGh w191M (((zI w191M 336 12).toInt - (zI w191M 336 14).toInt) + 1) → zXm w191M 3 gg nn c0 → ((zI w191M 336 12).toInt ≤ (zI w148M 336 12).toInt) → ((zI w191M 336 11).toInt + (zI w191M 336 12).toInt = (zI w148M 336 11).toInt + (zI w148M 336 12).toInt) → ((zI w191M 336 6).toInt ≤ nn) → (zI w191M 336 12).toInt ≤ (m : Int) → zGo X l 5 0 0 256 111 [(0, .ref 336)] [] w191M Q := by
                      intro m
                      induction m using Nat.strongRecOn with
                      | ind w191m w191ih =>
                        intro w191M w191s w191I w191F w191J w191PN w191PH w191PX w191r0 w191r1 w191r2 w191q
                        have w192 := ib336_12 w191I
                        have w193 : (zI w148M 336 12).toInt = (zI w148M 336 12).toInt := (congrArg Int32.toInt rfl).trans rfl
                        have w194 := ib336_11 w191I
                        have w195 : (zI w148M 336 11).toInt = (zI w148M 336 11).toInt := (congrArg Int32.toInt rfl).trans rfl
                        have w196 : (zI w148M 336 12).toInt = (zI w148M 336 12).toInt := (congrArg Int32.toInt rfl).trans rfl
                        refine zs_aload_n (pc := 111) t256_111 rfl ?_
                        refine zs_bipush (pc := 112) t256_112 (v := 38) (by decide) ?_
                        have w197 : (38 : Int32).toInt = 38 := li38
                        refine zs_invV (pc := 114) (k := 336) (as' := [.int (38 : Int32)]) (st := []) t256_114 mf264 rfl rfl (Or.inl ⟨by decide, (zk1 (w191s.k fk_zMm_336))⟩) ⟨by decide, by decide, Nat.le_of_ble_eq_true rfl, Nat.le_of_ble_eq_true rfl⟩ (K264 w191s w191I ?_) (fun _ _ q => q)
                        intro w198v w198x0 w198a w198b
                        show zGo X l 5 0 0 256 117 [(0, .ref 336)] [.int w198v] w191M _
                        rcases w198x0 with w199 | w199
                        · skip
                          have w1991 := w199.1
                          have w200 : (zI w191M 336 12).toInt = (zI w191M 336 12).toInt := (congrArg Int32.toInt rfl).trans rfl
                          have w1992 := w199.2.1
                          obtain ⟨w199n, w199ne⟩ : ∃ n : Nat, (n : Int) + 1 = (zI w191M 336 12).toInt := ⟨((zI w191M 336 12).toInt - 1).toNat, by omega⟩
                          have w1993 := w199.2.2 w199n w199ne
                          refine zs_if_neT (pc := 117) t256_117 rfl (by omega) ?_
                          refine zs_aload_n (pc := 129) t256_129 rfl ?_
                          have w201 : (zI w191M 336 11).toInt = (zI w191M 336 11).toInt := (congrArg Int32.toInt rfl).trans rfl
                          have w202 : (zI w191M 336 12).toInt = (zI w191M 336 12).toInt := (congrArg Int32.toInt rfl).trans rfl
                          have w203 : (zI w191M 336 11).toInt = (zI w191M 336 11).toInt := (congrArg Int32.toInt rfl).trans rfl
                          have w204 : (zI w191M 336 12).toInt = (zI w191M 336 12).toInt := (congrArg Int32.toInt rfl).trans rfl
                          have w205 := zGn.le w191PN
                          have w206 : (zI w191M 336 12).toInt = (zI w191M 336 12).toInt := (congrArg Int32.toInt rfl).trans rfl
                          have w207 : (zI w191M 336 14).toInt = (zI w148M 336 14).toInt := (congrArg Int32.toInt ((w191F 336 14 rfl).trans rfl)).trans rfl
                          have w209 : (zI w191M 336 14).toInt = (zI w148M 336 14).toInt := (congrArg Int32.toInt ((w191F 336 14 rfl).trans rfl)).trans rfl
                          have w210 : (zI w191M 336 12).toInt = (zI w191M 336 12).toInt := (congrArg Int32.toInt rfl).trans rfl
                          have w208z := zGn.bin (n := w199n) w191PN (by omega) (by omega)
                          have w208y := znest.nn (zI w191M 341) w199n
                          refine zs_invV (pc := 130) (k := 336) (as' := []) (st := []) t256_130 mf265 rfl rfl (Or.inl ⟨by decide, (zk1 (w191s.k fk_zMm_336))⟩) ⟨by decide, by decide, Nat.le_of_ble_eq_true rfl, Nat.le_of_ble_eq_true rfl⟩ (K265 (hq := (((zI w191M 336 12).toInt - (zI w191M 336 14).toInt) + 1) - 1) w191s w191I w191PH (by omega) (by omega) (fun n hn => by obtain rfl : n = w199n := (by omega); omega) ?_) (fun _ _ q => q)
                          intro w211M w211s w211I w211F w211J w211PH w211t0 w211t1
                          have w212 := ib336_11 w211I
                          have w213 := ib336_12 w211I
                          have w214 : (zI w191M 336 14).toInt = (zI w148M 336 14).toInt := (congrArg Int32.toInt ((w191F 336 14 rfl).trans rfl)).trans rfl
                          have w211z := zGn.bin (n := w199n) w191PN (by omega) (by omega)
                          have w211y := znest.nn (zI w191M 341) w199n
                          have w215 : (zI w211M 336 14).toInt = (zI w148M 336 14).toInt := (congrArg Int32.toInt ((w211F 336 14 rfl).trans ((w191F 336 14 rfl).trans rfl))).trans rfl
                          have w216 : (zI w211M 336 12).toInt = (zI w211M 336 12).toInt := (congrArg Int32.toInt rfl).trans rfl
                          have w211N : zGn w211M := zGn.popb (n := w199n) w191PN (by omega) (by omega) (fun j => w211F 341 j rfl) (by omega) (by omega)
                          have w217 : (zI w191M 336 12).toInt = (zI w191M 336 12).toInt := (congrArg Int32.toInt rfl).trans rfl
                          have w218 : (zI w211M 336 12).toInt = (zI w211M 336 12).toInt := (congrArg Int32.toInt rfl).trans rfl
                          have w211X : zXm w211M 3 gg nn c0 := zXm.popb (w := w199n) w191PX (by omega) (by omega) (fun j => w211F 341 j rfl) (by omega) (w211F 336 6 rfl) (w211F 336 13 rfl)
                          show zGo X l 5 0 0 256 133 [(0, .ref 336)] [] w211M _
                          refine zs_goto (pc := 133) t256_133 ?_
                          refine zGo.locals (ls' := [(0, .ref 336)]) (by simp) ?_
                          have w219 : (zI w211M 336 12).toInt = (zI w211M 336 12).toInt := (congrArg Int32.toInt rfl).trans rfl
                          have w220 : (zI w211M 336 14).toInt = (zI w148M 336 14).toInt := (congrArg Int32.toInt ((w211F 336 14 rfl).trans ((w191F 336 14 rfl).trans rfl))).trans rfl
                          have w221 : (zI w211M 336 12).toInt = (zI w211M 336 12).toInt := (congrArg Int32.toInt rfl).trans rfl
                          have w222 : (zI w211M 336 11).toInt = (zI w211M 336 11).toInt := (congrArg Int32.toInt rfl).trans rfl
                          have w223 : (zI w211M 336 12).toInt = (zI w211M 336 12).toInt := (congrArg Int32.toInt rfl).trans rfl
                          have w224 : (zI w211M 336 6).toInt = (zI w148M 336 6).toInt := (congrArg Int32.toInt ((w211F 336 6 rfl).trans ((w191F 336 6 rfl).trans rfl))).trans rfl
                          have w225 : (zI w211M 336 12).toInt = (zI w211M 336 12).toInt := (congrArg Int32.toInt rfl).trans rfl
                          exact w191ih (w191m - 1) (by omega) w211M w211s w211I (((zFr.refl).trans (w191F.mono rfl)).trans (w211F.mono rfl)) (w211J.trans w191J) w211N (zGh.cast w211PH (by omega)) (zXm.cast w211X (by omega)) (by omega) (by omega) (by omega) (by omega)
                        · skip
                          have w1991 := w199.1
                          have w226 : (zI w191M 336 12).toInt = (zI w191M 336 12).toInt := (congrArg Int32.toInt rfl).trans rfl
                          refine zs_if_neF (pc := 117) t256_117 rfl (by omega) ?_
                          refine zs_aload_n (pc := 120) t256_120 rfl ?_
                          refine zs_bipush (pc := 121) t256_121 (v := 124) (by decide) ?_
                          have w227 : (124 : Int32).toInt = 124 := li124
                          refine zs_invV (pc := 123) (k := 336) (as' := [.int (124 : Int32)]) (st := []) t256_123 mf264 rfl rfl (Or.inl ⟨by decide, (zk1 (w191s.k fk_zMm_336))⟩) ⟨by decide, by decide, Nat.le_of_ble_eq_true rfl, Nat.le_of_ble_eq_true rfl⟩ (K264 w191s w191I ?_) (fun _ _ q => q)
                          intro w228v w228x0 w228a w228b
                          show zGo X l 5 0 0 256 126 [(0, .ref 336)] [.int w228v] w191M _
                          rcases w228x0 with w229 | w229
                          · skip
                            have w2291 := w229.1
                            have w230 : (zI w191M 336 12).toInt = (zI w191M 336 12).toInt := (congrArg Int32.toInt rfl).trans rfl
                            have w2292 := w229.2.1
                            obtain ⟨w229n, w229ne⟩ : ∃ n : Nat, (n : Int) + 1 = (zI w191M 336 12).toInt := ⟨((zI w191M 336 12).toInt - 1).toNat, by omega⟩
                            have w2293 := w229.2.2 w229n w229ne
                            refine zs_if_eqF (pc := 126) t256_126 rfl (by omega) ?_
                            refine zs_aload_n (pc := 129) t256_129 rfl ?_
                            have w231 : (zI w191M 336 11).toInt = (zI w191M 336 11).toInt := (congrArg Int32.toInt rfl).trans rfl
                            have w232 : (zI w191M 336 12).toInt = (zI w191M 336 12).toInt := (congrArg Int32.toInt rfl).trans rfl
                            have w233 : (zI w191M 336 11).toInt = (zI w191M 336 11).toInt := (congrArg Int32.toInt rfl).trans rfl
                            have w234 : (zI w191M 336 12).toInt = (zI w191M 336 12).toInt := (congrArg Int32.toInt rfl).trans rfl
                            have w235 := zGn.le w191PN
                            have w236 : (zI w191M 336 12).toInt = (zI w191M 336 12).toInt := (congrArg Int32.toInt rfl).trans rfl
                            have w237 : (zI w191M 336 14).toInt = (zI w148M 336 14).toInt := (congrArg Int32.toInt ((w191F 336 14 rfl).trans rfl)).trans rfl
                            have w239 : (zI w191M 336 14).toInt = (zI w148M 336 14).toInt := (congrArg Int32.toInt ((w191F 336 14 rfl).trans rfl)).trans rfl
                            have w240 : (zI w191M 336 12).toInt = (zI w191M 336 12).toInt := (congrArg Int32.toInt rfl).trans rfl
                            have w238z := zGn.bin (n := w229n) w191PN (by omega) (by omega)
                            have w238y := znest.nn (zI w191M 341) w229n
                            refine zs_invV (pc := 130) (k := 336) (as' := []) (st := []) t256_130 mf265 rfl rfl (Or.inl ⟨by decide, (zk1 (w191s.k fk_zMm_336))⟩) ⟨by decide, by decide, Nat.le_of_ble_eq_true rfl, Nat.le_of_ble_eq_true rfl⟩ (K265 (hq := (((zI w191M 336 12).toInt - (zI w191M 336 14).toInt) + 1) - 1) w191s w191I w191PH (by omega) (by omega) (fun n hn => by obtain rfl : n = w229n := (by omega); omega) ?_) (fun _ _ q => q)
                            intro w241M w241s w241I w241F w241J w241PH w241t0 w241t1
                            have w242 := ib336_11 w241I
                            have w243 := ib336_12 w241I
                            have w244 : (zI w191M 336 14).toInt = (zI w148M 336 14).toInt := (congrArg Int32.toInt ((w191F 336 14 rfl).trans rfl)).trans rfl
                            have w241z := zGn.bin (n := w229n) w191PN (by omega) (by omega)
                            have w241y := znest.nn (zI w191M 341) w229n
                            have w245 : (zI w241M 336 14).toInt = (zI w148M 336 14).toInt := (congrArg Int32.toInt ((w241F 336 14 rfl).trans ((w191F 336 14 rfl).trans rfl))).trans rfl
                            have w246 : (zI w241M 336 12).toInt = (zI w241M 336 12).toInt := (congrArg Int32.toInt rfl).trans rfl
                            have w241N : zGn w241M := zGn.popb (n := w229n) w191PN (by omega) (by omega) (fun j => w241F 341 j rfl) (by omega) (by omega)
                            have w247 : (zI w191M 336 12).toInt = (zI w191M 336 12).toInt := (congrArg Int32.toInt rfl).trans rfl
                            have w248 : (zI w241M 336 12).toInt = (zI w241M 336 12).toInt := (congrArg Int32.toInt rfl).trans rfl
                            have w241X : zXm w241M 3 gg nn c0 := zXm.popb (w := w229n) w191PX (by omega) (by omega) (fun j => w241F 341 j rfl) (by omega) (w241F 336 6 rfl) (w241F 336 13 rfl)
                            show zGo X l 5 0 0 256 133 [(0, .ref 336)] [] w241M _
                            refine zs_goto (pc := 133) t256_133 ?_
                            refine zGo.locals (ls' := [(0, .ref 336)]) (by simp) ?_
                            have w249 : (zI w241M 336 12).toInt = (zI w241M 336 12).toInt := (congrArg Int32.toInt rfl).trans rfl
                            have w250 : (zI w241M 336 14).toInt = (zI w148M 336 14).toInt := (congrArg Int32.toInt ((w241F 336 14 rfl).trans ((w191F 336 14 rfl).trans rfl))).trans rfl
                            have w251 : (zI w241M 336 12).toInt = (zI w241M 336 12).toInt := (congrArg Int32.toInt rfl).trans rfl
                            have w252 : (zI w241M 336 11).toInt = (zI w241M 336 11).toInt := (congrArg Int32.toInt rfl).trans rfl
                            have w253 : (zI w241M 336 12).toInt = (zI w241M 336 12).toInt := (congrArg Int32.toInt rfl).trans rfl
                            have w254 : (zI w241M 336 6).toInt = (zI w148M 336 6).toInt := (congrArg Int32.toInt ((w241F 336 6 rfl).trans ((w191F 336 6 rfl).trans rfl))).trans rfl
                            have w255 : (zI w241M 336 12).toInt = (zI w241M 336 12).toInt := (congrArg Int32.toInt rfl).trans rfl
                            exact w191ih (w191m - 1) (by omega) w241M w241s w241I (((zFr.refl).trans (w191F.mono rfl)).trans (w241F.mono rfl)) (w241J.trans w191J) w241N (zGh.cast w241PH (by omega)) (zXm.cast w241X (by omega)) (by omega) (by omega) (by omega) (by omega)
                          · skip
                            have w2291 := w229.1
                            have w256 : (zI w191M 336 12).toInt = (zI w191M 336 12).toInt := (congrArg Int32.toInt rfl).trans rfl
                            refine zs_if_eqT (pc := 126) t256_126 rfl (by omega) ?_
                            refine zs_aload_n (pc := 136) t256_136 rfl ?_
                            refine zs_dup (pc := 137) t256_137 rfl ?_
                            refine zs_get (pc := 138) t256_138 (by decide) (zk1 (w191s.k fk_zMm_336)) (zfvi rfl rfl) ?_
                            refine zs_iconst (pc := 141) t256_141 (v := 1) (by decide) ?_
                            obtain ⟨w257v, w257e, w257⟩ := zisub (a := (zI w191M 336 12)) (b := (1 : Int32)) rfl li1 (by omega) (by omega)
                            refine zs_isub (pc := 142) t256_142 (c := w257v) w257e ?_
                            have w258 := zGn.le w191PN
                            have w259 : (zI w191M 336 12).toInt = (zI w191M 336 12).toInt := (congrArg Int32.toInt rfl).trans rfl
                            have w260 : (zI w191M 336 14).toInt = (zI w148M 336 14).toInt := (congrArg Int32.toInt ((w191F 336 14 rfl).trans rfl)).trans rfl
                            obtain ⟨w261n, w261⟩ : ∃ n : Nat, (n : Int) + 1 = (zI w191M 336 12).toInt := ⟨((zI w191M 336 12).toInt - 1).toNat, by omega⟩
                            have w261t0 := w199.2 w261n w261
                            have w261t1 := w229.2 w261n w261
                            have w261z := zGn.top (n := w261n) w191PN (by omega) (by omega)
                            have w261y := znest.nn (zI w191M 341) w261n
                            have w262 : zIv mLo mHi (zsI w191M 336 12 w257v) := zIv.put w191I (show 0 ≤ w257v.toInt ∧ w257v.toInt ≤ 40 from ⟨by omega, by omega⟩)
                            refine zs_putI (pc := 143) t256_143 (zk1 (w191s.k fk_zMm_336)) rfl ?_
                            refine zs_aload_n (pc := 146) t256_146 rfl ?_
                            refine zs_dup (pc := 147) t256_147 rfl ?_
                            refine zs_get (pc := 148) t256_148 (by decide) (zk1 (w191s.k fk_zMm_336)) (zfvi rfl ((zIoj (by decide)).trans ((w191F 336 14 rfl).trans rfl))) ?_
                            refine zs_iconst (pc := 151) t256_151 (v := 1) (by decide) ?_
                            obtain ⟨w263v, w263e, w263⟩ := zisub (a := (zI w148M 336 14)) (b := (1 : Int32)) rfl li1 (by omega) (by omega)
                            refine zs_isub (pc := 152) t256_152 (c := w263v) w263e ?_
                            have w264 : zIv mLo mHi (zsI (zsI w191M 336 12 w257v) 336 14 w263v) := zIv.put w262 (show 0 ≤ w263v.toInt ∧ w263v.toInt ≤ 6 from ⟨by omega, by omega⟩)
                            have w265 : (zI (zsI (zsI w191M 336 12 w257v) 336 14 w263v) 336 12).toInt = ((zI w191M 336 12).toInt - 1) := (congrArg Int32.toInt ((zIoj (by decide)).trans zIs)).trans w257
                            have w266 : (zI (zsI (zsI w191M 336 12 w257v) 336 14 w263v) 336 14).toInt = ((zI w148M 336 14).toInt - 1) := (congrArg Int32.toInt zIs).trans w263
                            have w267 : (zI w191M 336 12).toInt = (zI w191M 336 12).toInt := (congrArg Int32.toInt rfl).trans rfl
                            have w268 : (zI w191M 336 14).toInt = (zI w148M 336 14).toInt := (congrArg Int32.toInt ((w191F 336 14 rfl).trans rfl)).trans rfl
                            have w269 : w257v.toInt = ((zI w191M 336 12).toInt - 1) := w257
                            have w270 : w263v.toInt = ((zI w148M 336 14).toInt - 1) := w263
                            have w271 : zGn (zsI (zsI w191M 336 12 w257v) 336 14 w263v) := zGn.pop (n := w261n) w191PN (by omega) (by omega) (fun j => ((zIo (by decide)).trans (zIo (by decide)))) (by omega) (by omega)
                            refine zs_putI (pc := 153) t256_153 (zk1 (w191s.k fk_zMm_336)) rfl ?_
                            refine zs_aload_n (pc := 156) t256_156 rfl ?_
                            refine zs_dup (pc := 157) t256_157 rfl ?_
                            refine zs_get (pc := 158) t256_158 (by decide) (zk1 (w191s.k fk_zMm_336)) (zfvi rfl ((zIoj (by decide)).trans ((zIoj (by decide)).trans ((w191F 336 6 rfl).trans rfl)))) ?_
                            refine zs_iconst (pc := 161) t256_161 (v := 1) (by decide) ?_
                            obtain ⟨w272v, w272e, w272⟩ := ziadd (a := (zI w148M 336 6)) (b := (1 : Int32)) rfl li1 (by omega) (by omega)
                            refine zs_iadd (pc := 162) t256_162 (c := w272v) w272e ?_
                            have w273 : zIv mLo mHi (zsI (zsI (zsI w191M 336 12 w257v) 336 14 w263v) 336 6 w272v) := zIv.put w264 (show 0 ≤ w272v.toInt ∧ w272v.toInt ≤ 500 from ⟨by omega, by omega⟩)
                            have w274 : (zI w191M 336 6).toInt = (zI w148M 336 6).toInt := (congrArg Int32.toInt ((w191F 336 6 rfl).trans rfl)).trans rfl
                            have w276 : (zI (zsI (zsI (zsI w191M 336 12 w257v) 336 14 w263v) 336 6 w272v) 336 6).toInt = ((zI w148M 336 6).toInt + 1) := (congrArg Int32.toInt zIs).trans w272
                            have w277 : (zI (zsI (zsI (zsI w191M 336 12 w257v) 336 14 w263v) 336 6 w272v) 336 12).toInt = ((zI w191M 336 12).toInt - 1) := (congrArg Int32.toInt ((zIoj (by decide)).trans ((zIoj (by decide)).trans zIs))).trans w257
                            have w278 : (zI (zsI (zsI (zsI w191M 336 12 w257v) 336 14 w263v) 336 6 w272v) 336 13).toInt = (zI w114M 336 13).toInt := (congrArg Int32.toInt ((zIoj (by decide)).trans ((zIoj (by decide)).trans ((zIoj (by decide)).trans ((w191F 336 13 rfl).trans ((w148F 336 13 rfl).trans ((w144F 336 13 rfl).trans rfl))))))).trans rfl
                            have w279 : (zI (zsI (zsI (zsI w191M 336 12 w257v) 336 14 w263v) 336 6 w272v) 336 14).toInt = ((zI w148M 336 14).toInt - 1) := (congrArg Int32.toInt ((zIoj (by decide)).trans zIs)).trans w263
                            have w280 : (zI w191M 336 6).toInt = (zI w148M 336 6).toInt := (congrArg Int32.toInt ((w191F 336 6 rfl).trans rfl)).trans rfl
                            have w281 : (zI w191M 336 12).toInt = (zI w191M 336 12).toInt := (congrArg Int32.toInt rfl).trans rfl
                            have w282 : (zI w191M 336 13).toInt = (zI w114M 336 13).toInt := (congrArg Int32.toInt ((w191F 336 13 rfl).trans ((w148F 336 13 rfl).trans ((w144F 336 13 rfl).trans rfl)))).trans rfl
                            have w283 : (zI w191M 336 14).toInt = (zI w148M 336 14).toInt := (congrArg Int32.toInt ((w191F 336 14 rfl).trans rfl)).trans rfl
                            have w284 : w257v.toInt = ((zI w191M 336 12).toInt - 1) := w257
                            have w285 : w263v.toInt = ((zI w148M 336 14).toInt - 1) := w263
                            have w286 : w272v.toInt = ((zI w148M 336 6).toInt + 1) := w272
                            have w275 : zXm (zsI (zsI (zsI w191M 336 12 w257v) 336 14 w263v) 336 6 w272v) 2 gg nn c0 := zXm.close (w := w261n) (p := w162n) w191PX (by omega) (by omega) (fun j => ((zIo (by decide)).trans ((zIo (by decide)).trans (zIo (by decide))))) (by omega) (by omega) (by omega) (by omega) (by omega) (by omega)
                            refine zs_putI (pc := 163) t256_163 (zk1 (w191s.k fk_zMm_336)) rfl ?_
                            refine zs_aload_n (pc := 166) t256_166 rfl ?_
                            have w287 : (zI (zsI (zsI (zsI w191M 336 12 w257v) 336 14 w263v) 336 6 w272v) 336 11).toInt = (zI w191M 336 11).toInt := (congrArg Int32.toInt ((zIoj (by decide)).trans ((zIoj (by decide)).trans ((zIoj (by decide)).trans rfl)))).trans rfl
                            have w288 : (zI (zsI (zsI (zsI w191M 336 12 w257v) 336 14 w263v) 336 6 w272v) 336 12).toInt = ((zI w191M 336 12).toInt - 1) := (congrArg Int32.toInt ((zIoj (by decide)).trans ((zIoj (by decide)).trans zIs))).trans w257
                            have w289 : (zI (zsI (zsI (zsI w191M 336 12 w257v) 336 14 w263v) 336 6 w272v) 336 11).toInt = (zI w191M 336 11).toInt := (congrArg Int32.toInt ((zIoj (by decide)).trans ((zIoj (by decide)).trans ((zIoj (by decide)).trans rfl)))).trans rfl
                            have w290 : (zI (zsI (zsI (zsI w191M 336 12 w257v) 336 14 w263v) 336 6 w272v) 336 14).toInt = ((zI w148M 336 14).toInt - 1) := (congrArg Int32.toInt ((zIoj (by decide)).trans zIs)).trans w263
                            have w291 : (zI (zsI (zsI (zsI w191M 336 12 w257v) 336 14 w263v) 336 6 w272v) 336 12).toInt = ((zI w191M 336 12).toInt - 1) := (congrArg Int32.toInt ((zIoj (by decide)).trans ((zIoj (by decide)).trans zIs))).trans w257
                            have w292 := zGn.le (zGn.fr (M' := (zsI (zsI (zsI w191M 336 12 w257v) 336 14 w263v) 336 6 w272v)) w271 (zEq.put rfl))
                            have w293 : (zI (zsI (zsI (zsI w191M 336 12 w257v) 336 14 w263v) 336 6 w272v) 336 12).toInt = ((zI w191M 336 12).toInt - 1) := (congrArg Int32.toInt ((zIoj (by decide)).trans ((zIoj (by decide)).trans zIs))).trans w257
                            have w294 : (zI (zsI (zsI (zsI w191M 336 12 w257v) 336 14 w263v) 336 6 w272v) 336 14).toInt = ((zI w148M 336 14).toInt - 1) := (congrArg Int32.toInt ((zIoj (by decide)).trans zIs)).trans w263
                            refine zs_invV (pc := 167) (k := 336) (as' := []) (st := []) t256_167 mf263 rfl rfl (Or.inl ⟨by decide, (zk1 (w191s.k fk_zMm_336))⟩) ⟨by decide, by decide, Nat.le_of_ble_eq_true rfl, Nat.le_of_ble_eq_true rfl⟩ (E263 w191s w273 (zGn.fr (M' := (zsI (zsI (zsI w191M 336 12 w257v) 336 14 w263v) 336 6 w272v)) w271 (zEq.put rfl)) (zGh.fr (M' := (zsI (zsI (zsI w191M 336 12 w257v) 336 14 w263v) 336 6 w272v)) (zGh.fr (M' := (zsI (zsI w191M 336 12 w257v) 336 14 w263v)) (zGh.fr (M' := (zsI w191M 336 12 w257v)) w191PH (zEq.put rfl)) (zEq.put rfl)) (zEq.put rfl)) (zXm.cast w275 (by omega)) (by omega) (by omega) (zTm.mk x0 (fun j => ((zIo (by decide)).trans ((zIo (by decide)).trans ((zIo (by decide)).trans ((w191F 339 j rfl).trans ((w148F 339 j rfl).trans ((w144F 339 j rfl).trans ((w114F 339 j rfl).trans (w21F 339 j rfl))))))))) ((zIoj (by decide)).trans ((zIoj (by decide)).trans ((zIoj (by decide)).trans ((w191F 336 5 rfl).trans ((w148F 336 5 rfl).trans ((w144F 336 5 rfl).trans ((w114F 336 5 rfl).trans (w21F 336 5 rfl))))))))) ?_) (fun _ _ q => q)
                            intro w295M w295s w295I w295F w295J w295PN w295PH w295PX w295t0 w295t1 w295t2
                            have w296 := ib336_11 w295I
                            have w297 := ib336_14 w295I
                            have w298 := ib336_12 w295I
                            show zGo X l 5 0 0 256 170 [(0, .ref 336)] [] w295M _
                            refine zs_goto (pc := 170) t256_170 ?_
                            refine zGo.locals (ls' := [(0, .ref 336)]) (by simp) ?_
                            have w299 : (zI w295M 336 12).toInt = (zI w295M 336 12).toInt := (congrArg Int32.toInt rfl).trans rfl
                            have w300 : (zI w295M 336 14).toInt = (zI w295M 336 14).toInt := (congrArg Int32.toInt rfl).trans rfl
                            have w301 : (zI w295M 336 14).toInt = (zI w295M 336 14).toInt := (congrArg Int32.toInt rfl).trans rfl
                            have w302 : (zI w295M 336 12).toInt = (zI w295M 336 12).toInt := (congrArg Int32.toInt rfl).trans rfl
                            have w303 : (zI w295M 336 11).toInt = (zI w295M 336 11).toInt := (congrArg Int32.toInt rfl).trans rfl
                            have w304 : (zI w295M 336 12).toInt = (zI w295M 336 12).toInt := (congrArg Int32.toInt rfl).trans rfl
                            have w305 : (zI w295M 336 6).toInt = ((zI w148M 336 6).toInt + 1) := (congrArg Int32.toInt ((w295F 336 6 rfl).trans zIs)).trans w272
                            have w306 : (zI w295M 336 6).toInt = ((zI w148M 336 6).toInt + 1) := (congrArg Int32.toInt ((w295F 336 6 rfl).trans zIs)).trans w272
                            have w307 : (zI w295M 336 6).toInt = ((zI w148M 336 6).toInt + 1) := (congrArg Int32.toInt ((w295F 336 6 rfl).trans zIs)).trans w272
                            exact w148ih (w148m - 1) (by omega) w295M w295s w295I (((((((zFr.refl).trans (w148F.mono rfl)).trans (w191F.mono rfl)).put rfl).put rfl).put rfl).trans (w295F.mono rfl)) (w295J.trans (w191J.trans w148J)) w295PN (zGh.cast w295PH (by omega)) (zXm.cast w295PX (by omega)) (by omega) (by omega) (by omega) (by omega) (by omega)
                    refine zGo.locals (ls' := [(0, .ref 336)]) (by simp) ?_
                    have w308 : (zI w148M 336 12).toInt = (zI w148M 336 12).toInt := (congrArg Int32.toInt rfl).trans rfl
                    have w309 : (zI w148M 336 14).toInt = (zI w148M 336 14).toInt := (congrArg Int32.toInt rfl).trans rfl
                    have w310 : (zI w148M 336 12).toInt = (zI w148M 336 12).toInt := (congrArg Int32.toInt rfl).trans rfl
                    have w311 : (zI w148M 336 11).toInt = (zI w148M 336 11).toInt := (congrArg Int32.toInt rfl).trans rfl
                    have w312 : (zI w148M 336 12).toInt = (zI w148M 336 12).toInt := (congrArg Int32.toInt rfl).trans rfl
                    have w313 : (zI w148M 336 6).toInt = (zI w148M 336 6).toInt := (congrArg Int32.toInt rfl).trans rfl
                    have w314 : (zI w148M 336 12).toInt = (zI w148M 336 12).toInt := (congrArg Int32.toInt rfl).trans rfl
                    exact w191L (((zI w148M 336 12).toInt : Int).toNat) w148M w148s w148I zFr.refl rfl w148PN (zGh.cast w148PH (by omega)) (zXm.cast w148PX (by omega)) (by omega) (by omega) (by omega) (by omega)
            refine zGo.locals (ls' := [(0, .ref 336)]) (by simp) ?_
            have w315 : (zI w144M 336 12).toInt = (zI w144M 336 12).toInt := (congrArg Int32.toInt rfl).trans rfl
            have w316 : (zI w144M 336 14).toInt = (zI w144M 336 14).toInt := (congrArg Int32.toInt rfl).trans rfl
            have w317 : (zI w144M 336 14).toInt = (zI w144M 336 14).toInt := (congrArg Int32.toInt rfl).trans rfl
            have w318 : (zI w144M 336 12).toInt = (zI w144M 336 12).toInt := (congrArg Int32.toInt rfl).trans rfl
            have w319 : (zI w144M 336 11).toInt = (zI w144M 336 11).toInt := (congrArg Int32.toInt rfl).trans rfl
            have w320 : (zI w144M 336 12).toInt = (zI w144M 336 12).toInt := (congrArg Int32.toInt rfl).trans rfl
            have w321 : (zI w144M 336 6).toInt = (zI w114M 336 6).toInt := (congrArg Int32.toInt ((w144F 336 6 rfl).trans rfl)).trans rfl
            have w322 : (zI w144M 336 6).toInt = (zI w114M 336 6).toInt := (congrArg Int32.toInt ((w144F 336 6 rfl).trans rfl)).trans rfl
            have w323 : (zI w144M 336 6).toInt = (zI w114M 336 6).toInt := (congrArg Int32.toInt ((w144F 336 6 rfl).trans rfl)).trans rfl
            exact w148L ((500 - (zI w144M 336 6).toInt : Int).toNat) w144M w144s w144I zFr.refl rfl w144PN (zGh.cast w144PH (by omega)) (zXm.cast w144PX (by omega)) (by omega) (by omega) (by omega) (by omega) (by omega)
        · refine zs_icmp_neF (pc := 15) t256_15 rfl li40 (by omega) ?_
          refine zs_aload_n (pc := 18) t256_18 rfl ?_
          refine zs_get (pc := 19) t256_19 (by decide) (zk1 (w21s.k fk_zMm_336)) (zfvi rfl rfl) ?_
          refine zs_bipush (pc := 22) t256_22 (v := 6) (by decide) ?_
          by_cases w324 : (zI w21M 336 14).toInt ≠ 6
          · refine zs_icmp_neT (pc := 24) t256_24 rfl li6 (by omega) ?_
            refine zs_aload_n (pc := 36) t256_36 rfl ?_
            refine zs_dup (pc := 37) t256_37 rfl ?_
            refine zs_get (pc := 38) t256_38 (by decide) (zk1 (w21s.k fk_zMm_336)) (zfvi rfl rfl) ?_
            refine zs_iconst (pc := 41) t256_41 (v := 1) (by decide) ?_
            obtain ⟨w325v, w325e, w325⟩ := ziadd (a := (zI w21M 336 14)) (b := (1 : Int32)) rfl li1 (by omega) (by omega)
            refine zs_iadd (pc := 42) t256_42 (c := w325v) w325e ?_
            have w326 : zIv mLo mHi (zsI w21M 336 14 w325v) := zIv.put w21I (show 0 ≤ w325v.toInt ∧ w325v.toInt ≤ 6 from ⟨by omega, by omega⟩)
            refine zs_putI (pc := 43) t256_43 (zk1 (w21s.k fk_zMm_336)) rfl ?_
            refine zs_aload_n (pc := 46) t256_46 rfl ?_
            refine zs_get (pc := 47) t256_47 (by decide) (zk1 (w21s.k fk_zMm_336)) (w21s.p rfl fv_zMm_336_10) ?_
            refine zs_aload_n (pc := 50) t256_50 rfl ?_
            refine zs_get (pc := 51) t256_51 (by decide) (zk1 (w21s.k fk_zMm_336)) (zfvi rfl ((zIoj (by decide)).trans rfl)) ?_
            refine zs_aload_n (pc := 54) t256_54 rfl ?_
            refine zs_invV (pc := 55) (k := 336) (as' := []) (st := [.int (zI w21M 336 12), .ref 341]) t256_55 mf238 rfl rfl (Or.inl ⟨by decide, (zk1 (w21s.k fk_zMm_336))⟩) ⟨by decide, by decide, Nat.le_of_ble_eq_true rfl, Nat.le_of_ble_eq_true rfl⟩ (H238 w21s w326 ?_) (fun _ _ q => q)
            have w327 := zhere.rg (M := w21M)
            have w328 : (zI w21M 336 6).toInt = (zI w21M 336 6).toInt := (congrArg Int32.toInt rfl).trans rfl
            have w329 : (zI w21M 336 5).toInt = (zI M 336 5).toInt := (congrArg Int32.toInt ((w21F 336 5 rfl).trans rfl)).trans rfl
            have w330 : (zhere (zsI w21M 336 14 w325v)).toInt = (zhere w21M).toInt := (congrArg Int32.toInt (zhere.fr (M := w21M) (M' := (zsI w21M 336 14 w325v)) (zEq.put rfl)))
            have w331 : (zI w21M 336 6).toInt = (zI w21M 336 6).toInt := (congrArg Int32.toInt rfl).trans rfl
            have w332 : (zI w21M 336 5).toInt = (zI M 336 5).toInt := (congrArg Int32.toInt ((w21F 336 5 rfl).trans rfl)).trans rfl
            have w333 : (zhere w21M).toInt = gg w32n := zhere.tr (zTm.mk x0 (fun j => (w21F 339 j rfl)) (w21F 336 5 rfl)) (by omega)
            have w334 := zTm.rg x0 w32n
            show zGo X l 5 0 0 256 58 [(0, .ref 336)] [.int (zhere (zsI w21M 336 14 w325v)), .int (zI w21M 336 12), .ref 341] (zsI w21M 336 14 w325v) _
            obtain ⟨w335n, w335⟩ : ∃ n : Nat, (zI w21M 336 12).toInt = (n : Int) := ⟨((zI w21M 336 12).toInt).toNat, by omega⟩
            have w336 : zIv mLo mHi (zsI (zsI w21M 336 14 w325v) 341 w335n (zhere (zsI w21M 336 14 w325v))) := zIv.put w326 (show (-2147483648) ≤ (zhere (zsI w21M 336 14 w325v)).toInt ∧ (zhere (zsI w21M 336 14 w325v)).toInt ≤ 2147483647 from zrg (zhere (zsI w21M 336 14 w325v)))
            refine zs_iast (pc := 58) t256_58 (j := w335n) (by decide) (zk1 (w21s.k fk_zMm_341)) (show (zI w21M 336 12).toInt = ((w335n : Nat) : Int) by omega) (zk2 (w21s.k fk_zMm_341) (by omega)) ?_
            refine zs_aload_n (pc := 59) t256_59 rfl ?_
            refine zs_dup (pc := 60) t256_60 rfl ?_
            refine zs_get (pc := 61) t256_61 (by decide) (zk1 (w21s.k fk_zMm_336)) (zfvi rfl ((zIo (by decide)).trans ((zIoj (by decide)).trans rfl))) ?_
            refine zs_iconst (pc := 64) t256_64 (v := 1) (by decide) ?_
            obtain ⟨w337v, w337e, w337⟩ := ziadd (a := (zI w21M 336 12)) (b := (1 : Int32)) rfl li1 (by omega) (by omega)
            refine zs_iadd (pc := 65) t256_65 (c := w337v) w337e ?_
            have w338 : zIv mLo mHi (zsI (zsI (zsI w21M 336 14 w325v) 341 w335n (zhere (zsI w21M 336 14 w325v))) 336 12 w337v) := zIv.put w336 (show 0 ≤ w337v.toInt ∧ w337v.toInt ≤ 40 from ⟨by omega, by omega⟩)
            have w339 : (zI (zsI (zsI (zsI w21M 336 14 w325v) 341 w335n (zhere (zsI w21M 336 14 w325v))) 336 12 w337v) 336 12).toInt = ((zI w21M 336 12).toInt + 1) := (congrArg Int32.toInt zIs).trans w337
            have w340 : (zI (zsI (zsI (zsI w21M 336 14 w325v) 341 w335n (zhere (zsI w21M 336 14 w325v))) 336 12 w337v) 336 14).toInt = ((zI w21M 336 14).toInt + 1) := (congrArg Int32.toInt ((zIoj (by decide)).trans ((zIo (by decide)).trans zIs))).trans w325
            have w341 : (zI w21M 336 12).toInt = (zI w21M 336 12).toInt := (congrArg Int32.toInt rfl).trans rfl
            have w342 : (zI w21M 336 14).toInt = (zI w21M 336 14).toInt := (congrArg Int32.toInt rfl).trans rfl
            have w343 : w325v.toInt = ((zI w21M 336 14).toInt + 1) := w325
            have w344 : (zhere (zsI w21M 336 14 w325v)).toInt = (zhere w21M).toInt := (congrArg Int32.toInt (zhere.fr (M := w21M) (M' := (zsI w21M 336 14 w325v)) (zEq.put rfl)))
            have w345 : w337v.toInt = ((zI w21M 336 12).toInt + 1) := w337
            have w346 : (zI (zsI (zsI (zsI w21M 336 14 w325v) 341 w335n (zhere (zsI w21M 336 14 w325v))) 336 12 w337v) 341 w335n).toInt = (zhere w21M).toInt := (congrArg Int32.toInt ((zIo (by decide)).trans zIs)).trans (congrArg Int32.toInt (zhere.fr (M := w21M) (M' := (zsI w21M 336 14 w325v)) (zEq.put rfl)))
            have w347 : zGn (zsI (zsI (zsI w21M 336 14 w325v) 341 w335n (zhere (zsI w21M 336 14 w325v))) 336 12 w337v) := zGn.push (n := w335n) w21PN (by omega) (fun j hj => ((zIo (by decide)).trans ((zIoj hj).trans (zIo (by decide))))) (by omega) (by omega) (by omega)
            refine zs_putI (pc := 66) t256_66 (zk1 (w21s.k fk_zMm_336)) rfl ?_
            refine zs_aload_n (pc := 69) t256_69 rfl ?_
            refine zs_dup (pc := 70) t256_70 rfl ?_
            refine zs_get (pc := 71) t256_71 (by decide) (zk1 (w21s.k fk_zMm_336)) (zfvi rfl ((zIoj (by decide)).trans ((zIo (by decide)).trans ((zIoj (by decide)).trans rfl)))) ?_
            refine zs_iconst (pc := 74) t256_74 (v := 1) (by decide) ?_
            obtain ⟨w348v, w348e, w348⟩ := ziadd (a := (zI w21M 336 6)) (b := (1 : Int32)) rfl li1 (by omega) (by omega)
            refine zs_iadd (pc := 75) t256_75 (c := w348v) w348e ?_
            have w349 : zIv mLo mHi (zsI (zsI (zsI (zsI w21M 336 14 w325v) 341 w335n (zhere (zsI w21M 336 14 w325v))) 336 12 w337v) 336 6 w348v) := zIv.put w338 (show 0 ≤ w348v.toInt ∧ w348v.toInt ≤ 500 from ⟨by omega, by omega⟩)
            have w350 : (zI w21M 336 6).toInt = (zI w21M 336 6).toInt := (congrArg Int32.toInt rfl).trans rfl
            have w352 : (zI (zsI (zsI (zsI (zsI w21M 336 14 w325v) 341 w335n (zhere (zsI w21M 336 14 w325v))) 336 12 w337v) 336 6 w348v) 336 6).toInt = ((zI w21M 336 6).toInt + 1) := (congrArg Int32.toInt zIs).trans w348
            have w353 : (zI (zsI (zsI (zsI (zsI w21M 336 14 w325v) 341 w335n (zhere (zsI w21M 336 14 w325v))) 336 12 w337v) 336 6 w348v) 336 12).toInt = ((zI w21M 336 12).toInt + 1) := (congrArg Int32.toInt ((zIoj (by decide)).trans zIs)).trans w337
            have w354 : (zI (zsI (zsI (zsI (zsI w21M 336 14 w325v) 341 w335n (zhere (zsI w21M 336 14 w325v))) 336 12 w337v) 336 6 w348v) 336 13).toInt = (zI M 336 13).toInt := (congrArg Int32.toInt ((zIoj (by decide)).trans ((zIoj (by decide)).trans ((zIo (by decide)).trans ((zIoj (by decide)).trans ((w21F 336 13 rfl).trans rfl)))))).trans rfl
            have w355 : (zI (zsI (zsI (zsI (zsI w21M 336 14 w325v) 341 w335n (zhere (zsI w21M 336 14 w325v))) 336 12 w337v) 336 6 w348v) 336 14).toInt = ((zI w21M 336 14).toInt + 1) := (congrArg Int32.toInt ((zIoj (by decide)).trans ((zIoj (by decide)).trans ((zIo (by decide)).trans zIs)))).trans w325
            have w356 : (zI w21M 336 6).toInt = (zI w21M 336 6).toInt := (congrArg Int32.toInt rfl).trans rfl
            have w357 : (zI w21M 336 12).toInt = (zI w21M 336 12).toInt := (congrArg Int32.toInt rfl).trans rfl
            have w358 : (zI w21M 336 13).toInt = (zI M 336 13).toInt := (congrArg Int32.toInt ((w21F 336 13 rfl).trans rfl)).trans rfl
            have w359 : (zI w21M 336 14).toInt = (zI w21M 336 14).toInt := (congrArg Int32.toInt rfl).trans rfl
            have w360 : w325v.toInt = ((zI w21M 336 14).toInt + 1) := w325
            have w361 : (zhere (zsI w21M 336 14 w325v)).toInt = (zhere w21M).toInt := (congrArg Int32.toInt (zhere.fr (M := w21M) (M' := (zsI w21M 336 14 w325v)) (zEq.put rfl)))
            have w362 : w337v.toInt = ((zI w21M 336 12).toInt + 1) := w337
            have w363 : w348v.toInt = ((zI w21M 336 6).toInt + 1) := w348
            have w364 : (zI (zsI (zsI (zsI (zsI w21M 336 14 w325v) 341 w335n (zhere (zsI w21M 336 14 w325v))) 336 12 w337v) 336 6 w348v) 341 w335n).toInt = (zhere w21M).toInt := (congrArg Int32.toInt ((zIo (by decide)).trans ((zIo (by decide)).trans zIs))).trans (congrArg Int32.toInt (zhere.fr (M := w21M) (M' := (zsI w21M 336 14 w325v)) (zEq.put rfl)))
            have w351 : zXm (zsI (zsI (zsI (zsI w21M 336 14 w325v) 341 w335n (zhere (zsI w21M 336 14 w325v))) 336 12 w337v) 336 6 w348v) 1 gg nn c0 := zXm.push (w := w335n) (p := w32n) w21PX w21PN (by omega) (by omega) (by omega) (by omega) (fun j hj => ((zIo (by decide)).trans ((zIo (by decide)).trans ((zIoj hj).trans (zIo (by decide)))))) (by omega) (by omega) (by omega) (by omega) (by omega)
            refine zs_putI (pc := 76) t256_76 (zk1 (w21s.k fk_zMm_336)) rfl ?_
            refine zs_goto (pc := 79) t256_79 ?_
            refine zGo.locals (ls' := [(0, .ref 336)]) (by simp) ?_
            have w365 : (zI (zsI (zsI (zsI (zsI w21M 336 14 w325v) 341 w335n (zhere (zsI w21M 336 14 w325v))) 336 12 w337v) 336 6 w348v) 336 12).toInt = ((zI w21M 336 12).toInt + 1) := (congrArg Int32.toInt ((zIoj (by decide)).trans zIs)).trans w337
            have w366 : (zI (zsI (zsI (zsI (zsI w21M 336 14 w325v) 341 w335n (zhere (zsI w21M 336 14 w325v))) 336 12 w337v) 336 6 w348v) 336 14).toInt = ((zI w21M 336 14).toInt + 1) := (congrArg Int32.toInt ((zIoj (by decide)).trans ((zIoj (by decide)).trans ((zIo (by decide)).trans zIs)))).trans w325
            have w367 : (zI (zsI (zsI (zsI (zsI w21M 336 14 w325v) 341 w335n (zhere (zsI w21M 336 14 w325v))) 336 12 w337v) 336 6 w348v) 336 14).toInt = ((zI w21M 336 14).toInt + 1) := (congrArg Int32.toInt ((zIoj (by decide)).trans ((zIoj (by decide)).trans ((zIo (by decide)).trans zIs)))).trans w325
            have w368 : (zI (zsI (zsI (zsI (zsI w21M 336 14 w325v) 341 w335n (zhere (zsI w21M 336 14 w325v))) 336 12 w337v) 336 6 w348v) 336 12).toInt = ((zI w21M 336 12).toInt + 1) := (congrArg Int32.toInt ((zIoj (by decide)).trans zIs)).trans w337
            have w369 : (zI (zsI (zsI (zsI (zsI w21M 336 14 w325v) 341 w335n (zhere (zsI w21M 336 14 w325v))) 336 12 w337v) 336 6 w348v) 336 6).toInt = ((zI w21M 336 6).toInt + 1) := (congrArg Int32.toInt zIs).trans w348
            have w370 : (zI (zsI (zsI (zsI (zsI w21M 336 14 w325v) 341 w335n (zhere (zsI w21M 336 14 w325v))) 336 12 w337v) 336 6 w348v) 336 6).toInt = ((zI w21M 336 6).toInt + 1) := (congrArg Int32.toInt zIs).trans w348
            have w371 : (zI (zsI (zsI (zsI (zsI w21M 336 14 w325v) 341 w335n (zhere (zsI w21M 336 14 w325v))) 336 12 w337v) 336 6 w348v) 336 6).toInt = ((zI w21M 336 6).toInt + 1) := (congrArg Int32.toInt zIs).trans w348
            exact w21ih (w21m - 1) (by omega) (zsI (zsI (zsI (zsI w21M 336 14 w325v) 341 w335n (zhere (zsI w21M 336 14 w325v))) 336 12 w337v) 336 6 w348v) w21s w349 ((((((zFr.refl).trans (w21F.mono rfl)).put rfl).put rfl).put rfl).put rfl) w21J (zGn.fr (M' := (zsI (zsI (zsI (zsI w21M 336 14 w325v) 341 w335n (zhere (zsI w21M 336 14 w325v))) 336 12 w337v) 336 6 w348v)) w347 (zEq.put rfl)) (zGh.cast (zGh.fr (M' := (zsI (zsI (zsI (zsI w21M 336 14 w325v) 341 w335n (zhere (zsI w21M 336 14 w325v))) 336 12 w337v) 336 6 w348v)) (zGh.fr (M' := (zsI (zsI (zsI w21M 336 14 w325v) 341 w335n (zhere (zsI w21M 336 14 w325v))) 336 12 w337v)) (zGh.fr (M' := (zsI (zsI w21M 336 14 w325v) 341 w335n (zhere (zsI w21M 336 14 w325v)))) (zGh.fr (M' := (zsI w21M 336 14 w325v)) w21PH (zEq.put rfl)) (zEq.put rfl)) (zEq.put rfl)) (zEq.put rfl)) (by omega)) (zXm.cast w351 (by omega)) (by omega) (by omega) (by omega) (by omega)
          · refine zs_icmp_neF (pc := 24) t256_24 rfl li6 (by omega) ?_
            refine zs_aload_n (pc := 27) t256_27 rfl ?_
            refine zs_aload_n (pc := 28) t256_28 rfl ?_
            refine zs_get (pc := 29) t256_29 (by decide) (zk1 (w21s.k fk_zMm_336)) (zfvi rfl rfl) ?_
            refine zs_invV (pc := 32) (k := 336) (as' := [.int (zI w21M 336 6)]) (st := []) t256_32 mf239 rfl rfl (Or.inl ⟨by decide, (zk1 (w21s.k fk_zMm_336))⟩) ⟨by decide, by decide, Nat.le_of_ble_eq_true rfl, Nat.le_of_ble_eq_true rfl⟩ (zs_in (by decide) mf239 (Nat.le_of_ble_eq_true rfl) ?_) (fun _ _ q => q)
            show zGo X l 0 0 0 239 0 [(0, .ref 336), (1, .int (zI w21M 336 6))] [] w21M _
            refine zs_aload_n (pc := 0) t239_0 rfl ?_
            refine zs_iload_n (pc := 1) t239_1 rfl ?_
            have w372 : zIv mLo mHi (zsI w21M 336 7 (zI w21M 336 6)) := zIv.put w21I (show (-1) ≤ (zI w21M 336 6).toInt ∧ (zI w21M 336 6).toInt ≤ 500 from ⟨by omega, by omega⟩)
            refine zs_putI (pc := 2) t239_2 (zk1 (w21s.k fk_zMm_336)) rfl ?_
            refine zs_iconst (pc := 5) t239_5 (v := 0) (by decide) ?_
            refine zs_iret (pc := 6) t239_6 mr239 (by decide) ?_
            show zGo X l 5 0 0 256 35 [(0, .ref 336)] [.int (0 : Int32)] (zsI w21M 336 7 (zI w21M 336 6)) _
            have w373 : (zI (zsI w21M 336 7 (zI w21M 336 6)) 336 14).toInt = (zI w21M 336 14).toInt := (congrArg Int32.toInt ((zIoj (by decide)).trans rfl)).trans rfl
            have w374 : (zI (zsI w21M 336 7 (zI w21M 336 6)) 336 12).toInt = (zI w21M 336 12).toInt := (congrArg Int32.toInt ((zIoj (by decide)).trans rfl)).trans rfl
            have w375 : (zI (zsI w21M 336 7 (zI w21M 336 6)) 336 6).toInt = (zI w21M 336 6).toInt := (congrArg Int32.toInt ((zIoj (by decide)).trans rfl)).trans rfl
            have w376 : (zI (zsI w21M 336 7 (zI w21M 336 6)) 336 13).toInt = (zI M 336 13).toInt := (congrArg Int32.toInt ((zIoj (by decide)).trans ((w21F 336 13 rfl).trans rfl))).trans rfl
            have w377 : (zI (zsI w21M 336 7 (zI w21M 336 6)) 336 11).toInt = (zI M 336 11).toInt := (congrArg Int32.toInt ((zIoj (by decide)).trans ((w21F 336 11 rfl).trans rfl))).trans rfl
            have w378 := li0
            have w379 : (zI (zsI w21M 336 7 (zI w21M 336 6)) 336 14).toInt = (zI w21M 336 14).toInt := (congrArg Int32.toInt ((zIoj (by decide)).trans rfl)).trans rfl
            have w380 : (zI (zsI w21M 336 7 (zI w21M 336 6)) 336 7).toInt = (zI w21M 336 6).toInt := (congrArg Int32.toInt zIs).trans rfl
            have w381 : (zI (zsI w21M 336 7 (zI w21M 336 6)) 336 6).toInt = (zI w21M 336 6).toInt := (congrArg Int32.toInt ((zIoj (by decide)).trans rfl)).trans rfl
            exact zs_iret (pc := 35) t256_35 mr256 (by decide) (hQ _ _ w21s w372 (((zFr.refl).trans (w21F.mono rfl)).put rfl) w21J (by omega) (by omega) (Or.inl (by decide)) (Or.inl (by decide)) (zo6.f (by decide) (by omega) (zXm.deep (p := w32n) (zXm.fr (M' := (zsI w21M 336 7 (zI w21M 336 6))) w21PX (zEq.put rfl)) (zGn.fr (M' := (zsI w21M 336 7 (zI w21M 336 6))) w21PN (zEq.put rfl)) (by omega) (by omega) (by omega))) (by decide) (by decide))
  refine zGo.locals (ls' := [(0, .ref 336)]) (by simp) ?_
  have w382 : (zI M 336 12).toInt = (zI M 336 12).toInt := (congrArg Int32.toInt rfl).trans rfl
  have w383 : (zI M 336 14).toInt = (zI M 336 14).toInt := (congrArg Int32.toInt rfl).trans rfl
  have w384 : (zI M 336 14).toInt = (zI M 336 14).toInt := (congrArg Int32.toInt rfl).trans rfl
  have w385 : (zI M 336 12).toInt = (zI M 336 12).toInt := (congrArg Int32.toInt rfl).trans rfl
  have w386 : (zI M 336 6).toInt = (zI M 336 6).toInt := (congrArg Int32.toInt rfl).trans rfl
  have w387 : (zI M 336 6).toInt = (zI M 336 6).toInt := (congrArg Int32.toInt rfl).trans rfl
  have w388 : (zI M 336 6).toInt = (zI M 336 6).toInt := (congrArg Int32.toInt rfl).trans rfl
  exact w21L ((500 - (zI M 336 6).toInt : Int).toNat) M hs hI zFr.refl rfl pN (zGh.cast pH (by omega)) (zXm.cast pX (by omega)) (by omega) (by omega) (by omega) (by omega)
