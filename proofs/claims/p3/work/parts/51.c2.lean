theorem L316 {X : zX} {l : Launch} {M : zM} {Q : Option Value → zM → Prop} {a : Int32} (hs : zSk zMm M) (hI : zIv mLo mHi M) (pR : zPR M) (pC : zPC M) (pF : zPF M) (hQ : ∀ (M' : zM) (v : Int32), zSk zMm M' → zIv mLo mHi M' → zFr [(336, 363, none)] M M' → zPR M' → zPC M' → zPF M' → ((zI M' 336 5).toInt = (zI M 336 5).toInt) → Q (some (.int v)) M') : zCall X l 8 0 0 316 [.ref 336, .int a] M Q := by
  have ga := zrg a
  refine zs_in (by decide) mf316 (Nat.le_of_ble_eq_true rfl) ?_
  show zGo X l 8 0 0 316 0 [(0, .ref 336), (1, .int a)] [] M _
  refine zs_iload_n (pc := 0) t316_0 rfl ?_
  by_cases w1 : a.toInt = 0
  · refine zs_tswI (pc := 1) t316_1 ((rfl : a.toInt = a.toInt).trans w1) (by decide) rfl (pc2 := 40) rfl ?_
    refine zs_aload_n (pc := 40) t316_40 rfl ?_
    refine zs_iconst (pc := 41) t316_41 (v := 0) (by decide) ?_
    refine zs_invV (pc := 42) (k := 336) (as' := [.int (0 : Int32)]) (st := []) t316_42 mf267 rfl rfl (Or.inl ⟨by decide, (zk1 (hs.k fk_zMm_336))⟩) ⟨by decide, by decide, Nat.le_of_ble_eq_true rfl, Nat.le_of_ble_eq_true rfl⟩ (K267 hs hI pR pF ?_) (fun _ _ q => q)
    intro w2M w2v w2s w2I w2F w2PF w2PD w2PV
    have w2g := zrg w2v
    show zGo X l 8 0 0 316 45 [(0, .ref 336), (1, .int a)] [.int w2v] w2M _
    have w3 := ib336_5 hI
    have w4 : (zI w2M 336 5).toInt = (zI M 336 5).toInt := (congrArg Int32.toInt ((w2F 336 5 rfl).trans rfl)).trans rfl
    exact zs_iret (pc := 45) t316_45 mr316 rfl (hQ _ _ w2s w2I ((zFr.refl).trans (w2F.mono rfl)) (zPR.fr pR (w2F.eq rfl)) (zPC.fr pC (w2F.eq rfl)) w2PF (by omega))
  by_cases w5 : a.toInt = 1
  · refine zs_tswI (pc := 1) t316_1 ((rfl : a.toInt = a.toInt).trans w5) (by decide) rfl (pc2 := 46) rfl ?_
    refine zs_aload_n (pc := 46) t316_46 rfl ?_
    refine zs_iconst (pc := 47) t316_47 (v := 3) (by decide) ?_
    refine zs_invV (pc := 48) (k := 336) (as' := [.int (3 : Int32)]) (st := []) t316_48 mf267 rfl rfl (Or.inl ⟨by decide, (zk1 (hs.k fk_zMm_336))⟩) ⟨by decide, by decide, Nat.le_of_ble_eq_true rfl, Nat.le_of_ble_eq_true rfl⟩ (K267 hs hI pR pF ?_) (fun _ _ q => q)
    intro w6M w6v w6s w6I w6F w6PF w6PD w6PV
    have w6g := zrg w6v
    show zGo X l 8 0 0 316 51 [(0, .ref 336), (1, .int a)] [.int w6v] w6M _
    have w7 := ib336_5 hI
    have w8 : (zI w6M 336 5).toInt = (zI M 336 5).toInt := (congrArg Int32.toInt ((w6F 336 5 rfl).trans rfl)).trans rfl
    exact zs_iret (pc := 51) t316_51 mr316 rfl (hQ _ _ w6s w6I ((zFr.refl).trans (w6F.mono rfl)) (zPR.fr pR (w6F.eq rfl)) (zPC.fr pC (w6F.eq rfl)) w6PF (by omega))
  by_cases w9 : a.toInt = 2
  · refine zs_tswI (pc := 1) t316_1 ((rfl : a.toInt = a.toInt).trans w9) (by decide) rfl (pc2 := 52) rfl ?_
    refine zs_aload_n (pc := 52) t316_52 rfl ?_
    refine zs_iconst (pc := 53) t316_53 (v := 2) (by decide) ?_
    refine zs_invV (pc := 54) (k := 336) (as' := [.int (2 : Int32)]) (st := []) t316_54 mf267 rfl rfl (Or.inl ⟨by decide, (zk1 (hs.k fk_zMm_336))⟩) ⟨by decide, by decide, Nat.le_of_ble_eq_true rfl, Nat.le_of_ble_eq_true rfl⟩ (K267 hs hI pR pF ?_) (fun _ _ q => q)
    intro w10M w10v w10s w10I w10F w10PF w10PD w10PV
    have w10g := zrg w10v
    show zGo X l 8 0 0 316 57 [(0, .ref 336), (1, .int a)] [.int w10v] w10M _
    have w11 := ib336_5 hI
    have w12 : (zI w10M 336 5).toInt = (zI M 336 5).toInt := (congrArg Int32.toInt ((w10F 336 5 rfl).trans rfl)).trans rfl
    exact zs_iret (pc := 57) t316_57 mr316 rfl (hQ _ _ w10s w10I ((zFr.refl).trans (w10F.mono rfl)) (zPR.fr pR (w10F.eq rfl)) (zPC.fr pC (w10F.eq rfl)) w10PF (by omega))
  by_cases w13 : a.toInt = 3
  · refine zs_tswI (pc := 1) t316_1 ((rfl : a.toInt = a.toInt).trans w13) (by decide) rfl (pc2 := 58) rfl ?_
    refine zs_aload_n (pc := 58) t316_58 rfl ?_
    refine zs_bipush (pc := 59) t316_59 (v := 6) (by decide) ?_
    refine zs_invV (pc := 61) (k := 336) (as' := [.int (6 : Int32)]) (st := []) t316_61 mf267 rfl rfl (Or.inl ⟨by decide, (zk1 (hs.k fk_zMm_336))⟩) ⟨by decide, by decide, Nat.le_of_ble_eq_true rfl, Nat.le_of_ble_eq_true rfl⟩ (K267 hs hI pR pF ?_) (fun _ _ q => q)
    intro w14M w14v w14s w14I w14F w14PF w14PD w14PV
    have w14g := zrg w14v
    show zGo X l 8 0 0 316 64 [(0, .ref 336), (1, .int a)] [.int w14v] w14M _
    have w15 := ib336_5 hI
    have w16 : (zI w14M 336 5).toInt = (zI M 336 5).toInt := (congrArg Int32.toInt ((w14F 336 5 rfl).trans rfl)).trans rfl
    exact zs_iret (pc := 64) t316_64 mr316 rfl (hQ _ _ w14s w14I ((zFr.refl).trans (w14F.mono rfl)) (zPR.fr pR (w14F.eq rfl)) (zPC.fr pC (w14F.eq rfl)) w14PF (by omega))
  by_cases w17 : a.toInt = 4
  · refine zs_tswI (pc := 1) t316_1 ((rfl : a.toInt = a.toInt).trans w17) (by decide) rfl (pc2 := 65) rfl ?_
    refine zs_aload_n (pc := 65) t316_65 rfl ?_
    refine zs_iconst (pc := 66) t316_66 (v := 4) (by decide) ?_
    refine zs_invV (pc := 67) (k := 336) (as' := [.int (4 : Int32)]) (st := []) t316_67 mf267 rfl rfl (Or.inl ⟨by decide, (zk1 (hs.k fk_zMm_336))⟩) ⟨by decide, by decide, Nat.le_of_ble_eq_true rfl, Nat.le_of_ble_eq_true rfl⟩ (K267 hs hI pR pF ?_) (fun _ _ q => q)
    intro w18M w18v w18s w18I w18F w18PF w18PD w18PV
    have w18g := zrg w18v
    show zGo X l 8 0 0 316 70 [(0, .ref 336), (1, .int a)] [.int w18v] w18M _
    have w19 := ib336_5 hI
    have w20 : (zI w18M 336 5).toInt = (zI M 336 5).toInt := (congrArg Int32.toInt ((w18F 336 5 rfl).trans rfl)).trans rfl
    exact zs_iret (pc := 70) t316_70 mr316 rfl (hQ _ _ w18s w18I ((zFr.refl).trans (w18F.mono rfl)) (zPR.fr pR (w18F.eq rfl)) (zPC.fr pC (w18F.eq rfl)) w18PF (by omega))
  by_cases w21 : a.toInt = 5
  · refine zs_tswI (pc := 1) t316_1 ((rfl : a.toInt = a.toInt).trans w21) (by decide) rfl (pc2 := 71) rfl ?_
    refine zs_aload_n (pc := 71) t316_71 rfl ?_
    refine zs_bipush (pc := 72) t316_72 (v := 7) (by decide) ?_
    refine zs_invV (pc := 74) (k := 336) (as' := [.int (7 : Int32)]) (st := []) t316_74 mf267 rfl rfl (Or.inl ⟨by decide, (zk1 (hs.k fk_zMm_336))⟩) ⟨by decide, by decide, Nat.le_of_ble_eq_true rfl, Nat.le_of_ble_eq_true rfl⟩ (K267 hs hI pR pF ?_) (fun _ _ q => q)
    intro w22M w22v w22s w22I w22F w22PF w22PD w22PV
    have w22g := zrg w22v
    show zGo X l 8 0 0 316 77 [(0, .ref 336), (1, .int a)] [.int w22v] w22M _
    have w23 := ib336_5 hI
    have w24 : (zI w22M 336 5).toInt = (zI M 336 5).toInt := (congrArg Int32.toInt ((w22F 336 5 rfl).trans rfl)).trans rfl
    exact zs_iret (pc := 77) t316_77 mr316 rfl (hQ _ _ w22s w22I ((zFr.refl).trans (w22F.mono rfl)) (zPR.fr pR (w22F.eq rfl)) (zPC.fr pC (w22F.eq rfl)) w22PF (by omega))
  refine zs_tswD (pc := 1) t316_1 rfl (by omega) (pc2 := 78) rfl ?_
  refine zs_iconst (pc := 78) t316_78 (v := -1) (by decide) ?_
  have w25 := ib336_5 hI
  have w26 : (zI M 336 5).toInt = (zI M 336 5).toInt := (congrArg Int32.toInt rfl).trans rfl
  have w27 := lin1
  exact zs_iret (pc := 79) t316_79 mr316 (by decide) (hQ _ _ hs hI (zFr.refl) pR pC pF (by omega))
theorem L317 {X : zX} {l : Launch} {M : zM} {Q : Option Value → zM → Prop} {a b : Int32} (hs : zSk zMm M) (hI : zIv mLo mHi M) (pR : zPR M) (pC : zPC M) (pF : zPF M) (hQ : ∀ (M' : zM) (v : Int32), zSk zMm M' → zIv mLo mHi M' → zFr [(336, 363, none)] M M' → zPR M' → zPC M' → zPF M' → ((zI M' 336 5).toInt = (zI M 336 5).toInt) → Q (some (.int v)) M') : zCall X l 7 0 0 317 [.ref 336, .int a, .int b] M Q := by
  have ga := zrg a
  have gb := zrg b
  refine zs_in (by decide) mf317 (Nat.le_of_ble_eq_true rfl) ?_
  show zGo X l 7 0 0 317 0 [(0, .ref 336), (1, .int a), (2, .int b)] [] M _
  refine zs_aload_n (pc := 0) t317_0 rfl ?_
  refine zs_invV (pc := 1) (k := 336) (as' := []) (st := []) t317_1 mf268 rfl rfl (Or.inl ⟨by decide, (zk1 (hs.k fk_zMm_336))⟩) ⟨by decide, by decide, Nat.le_of_ble_eq_true rfl, Nat.le_of_ble_eq_true rfl⟩ (K268 hs hI pR pF ?_) (fun _ _ q => q)
  intro w1M w1s w1I w1F w1PF w1PD w1PV
  show zGo X l 7 0 0 317 4 [(0, .ref 336), (1, .int a), (2, .int b)] [] w1M _
  refine zs_aload_n (pc := 4) t317_4 rfl ?_
  refine zs_iload_n (pc := 5) t317_5 rfl ?_
  refine zs_invV (pc := 6) (k := 336) (as' := [.int a]) (st := []) t317_6 mf297 rfl rfl (Or.inl ⟨by decide, (zk1 (w1s.k fk_zMm_336))⟩) ⟨by decide, by decide, Nat.le_of_ble_eq_true rfl, Nat.le_of_ble_eq_true rfl⟩ (zs_in (by decide) mf297 (Nat.le_of_ble_eq_true rfl) ?_) (fun _ _ q => q)
  show zGo X l 1 0 0 297 0 [(0, .ref 336), (1, .int a)] [] w1M _
  refine zs_iload_n (pc := 0) t297_0 rfl ?_
  refine zs_i2l (pc := 1) t297_1 rfl ?_
  refine zs_lconst (pc := 2) t297_2 (v := 0) (by decide) ?_
  refine zs_aload_n (pc := 3) t297_3 rfl ?_
  have w2 := ib336_22 w1I
  refine zs_get (pc := 4) t297_4 (by decide) (zk1 (w1s.k fk_zMm_336)) (zfvi rfl rfl) ?_
  refine zs_iconst (pc := 7) t297_7 (v := 1) (by decide) ?_
  obtain ⟨w3v, w3e, w3⟩ := zisub (a := (zI w1M 336 22)) (b := (1 : Int32)) rfl li1 (by omega) (by omega)
  refine zs_isub (pc := 8) t297_8 (c := w3v) w3e ?_
  refine zs_i2l (pc := 9) t297_9 rfl ?_
  by_cases w4 : 0 ≤ a.toInt ∧ a.toInt ≤ ((zI w1M 336 22).toInt - 1)
  · refine zs_invS (pc := 10) (as := [.long a.toInt64, .long (0 : Int64), .long w3v.toInt64]) (st := []) t297_10 (by decide) mf228 rfl rfl ⟨by decide, by decide, Nat.le_of_ble_eq_true rfl, Nat.le_of_ble_eq_true rfl⟩ (K228T (zi2l rfl) ll0 (zi2l w3) (by omega) ?_) (fun _ _ q => q)
    show zGo X l 1 0 0 297 13 [(0, .ref 336), (1, .int a)] [.int (1 : Int32)] w1M _
    refine zs_iret (pc := 13) t297_13 mr297 (by decide) ?_
    show zGo X l 7 0 0 317 9 [(0, .ref 336), (1, .int a), (2, .int b)] [.int (1 : Int32)] w1M _
    refine zs_if_neT (pc := 9) t317_9 li1 (by decide) ?_
    refine zs_iload_n (pc := 16) t317_16 rfl ?_
    by_cases w5 : b.toInt = 0
    · refine zs_tswI (pc := 17) t317_17 ((rfl : b.toInt = b.toInt).trans w5) (by decide) rfl (pc2 := 68) rfl ?_
      refine zs_aload_n (pc := 68) t317_68 rfl ?_
      refine zs_get (pc := 69) t317_69 (by decide) (zk1 (w1s.k fk_zMm_336)) (w1s.p rfl fv_zMm_336_23) ?_
      refine zs_iload_n (pc := 72) t317_72 rfl ?_
      obtain ⟨w6n, w6⟩ : ∃ n : Nat, a.toInt = (n : Int) := ⟨(a.toInt).toNat, by omega⟩
      have w7 := zrg (zI w1M 345 w6n)
      refine zs_iald (pc := 73) t317_73 (j := w6n) (by decide) (zk1 (w1s.k fk_zMm_345)) (show a.toInt = ((w6n : Nat) : Int) by omega) (zk2 (w1s.k fk_zMm_345) (by omega)) rfl ?_
      have w8 := ib336_5 hI
      have w9 : (zI w1M 336 5).toInt = (zI M 336 5).toInt := (congrArg Int32.toInt ((w1F 336 5 rfl).trans rfl)).trans rfl
      exact zs_iret (pc := 74) t317_74 mr317 rfl (hQ _ _ w1s w1I ((zFr.refl).trans (w1F.mono rfl)) (zPR.fr pR (w1F.eq rfl)) (zPC.fr pC (w1F.eq rfl)) w1PF (by omega))
    by_cases w10 : b.toInt = 1
    · refine zs_tswI (pc := 17) t317_17 ((rfl : b.toInt = b.toInt).trans w10) (by decide) rfl (pc2 := 75) rfl ?_
      refine zs_aload_n (pc := 75) t317_75 rfl ?_
      refine zs_get (pc := 76) t317_76 (by decide) (zk1 (w1s.k fk_zMm_336)) (w1s.p rfl fv_zMm_336_24) ?_
      refine zs_iload_n (pc := 79) t317_79 rfl ?_
      obtain ⟨w11n, w11⟩ : ∃ n : Nat, a.toInt = (n : Int) := ⟨(a.toInt).toNat, by omega⟩
      have w12 := zrg (zI w1M 346 w11n)
      refine zs_iald (pc := 80) t317_80 (j := w11n) (by decide) (zk1 (w1s.k fk_zMm_346)) (show a.toInt = ((w11n : Nat) : Int) by omega) (zk2 (w1s.k fk_zMm_346) (by omega)) rfl ?_
      have w13 : (zI w1M 336 5).toInt = (zI M 336 5).toInt := (congrArg Int32.toInt ((w1F 336 5 rfl).trans rfl)).trans rfl
      exact zs_iret (pc := 81) t317_81 mr317 rfl (hQ _ _ w1s w1I ((zFr.refl).trans (w1F.mono rfl)) (zPR.fr pR (w1F.eq rfl)) (zPC.fr pC (w1F.eq rfl)) w1PF (by omega))
    by_cases w14 : b.toInt = 2
    · refine zs_tswI (pc := 17) t317_17 ((rfl : b.toInt = b.toInt).trans w14) (by decide) rfl (pc2 := 82) rfl ?_
      refine zs_aload_n (pc := 82) t317_82 rfl ?_
      refine zs_get (pc := 83) t317_83 (by decide) (zk1 (w1s.k fk_zMm_336)) (w1s.p rfl fv_zMm_336_25) ?_
      refine zs_iload_n (pc := 86) t317_86 rfl ?_
      obtain ⟨w15n, w15⟩ : ∃ n : Nat, a.toInt = (n : Int) := ⟨(a.toInt).toNat, by omega⟩
      have w16 := zrg (zI w1M 347 w15n)
      refine zs_iald (pc := 87) t317_87 (j := w15n) (by decide) (zk1 (w1s.k fk_zMm_347)) (show a.toInt = ((w15n : Nat) : Int) by omega) (zk2 (w1s.k fk_zMm_347) (by omega)) rfl ?_
      have w17 : (zI w1M 336 5).toInt = (zI M 336 5).toInt := (congrArg Int32.toInt ((w1F 336 5 rfl).trans rfl)).trans rfl
      exact zs_iret (pc := 88) t317_88 mr317 rfl (hQ _ _ w1s w1I ((zFr.refl).trans (w1F.mono rfl)) (zPR.fr pR (w1F.eq rfl)) (zPC.fr pC (w1F.eq rfl)) w1PF (by omega))
    by_cases w18 : b.toInt = 3
    · refine zs_tswI (pc := 17) t317_17 ((rfl : b.toInt = b.toInt).trans w18) (by decide) rfl (pc2 := 89) rfl ?_
      refine zs_aload_n (pc := 89) t317_89 rfl ?_
      refine zs_iload_n (pc := 90) t317_90 rfl ?_
      refine zs_invV (pc := 91) (k := 336) (as' := [.int a]) (st := []) t317_91 mf318 rfl rfl (Or.inl ⟨by decide, (zk1 (w1s.k fk_zMm_336))⟩) ⟨by decide, by decide, Nat.le_of_ble_eq_true rfl, Nat.le_of_ble_eq_true rfl⟩ (K318 w1s w1I ⟨by omega, by omega⟩ ?_) (fun _ _ q => q)
      intro w19v
      have w19g := zrg w19v
      show zGo X l 7 0 0 317 94 [(0, .ref 336), (1, .int a), (2, .int b)] [.int w19v] w1M _
      have w20 : (zI w1M 336 5).toInt = (zI M 336 5).toInt := (congrArg Int32.toInt ((w1F 336 5 rfl).trans rfl)).trans rfl
      exact zs_iret (pc := 94) t317_94 mr317 rfl (hQ _ _ w1s w1I ((zFr.refl).trans (w1F.mono rfl)) (zPR.fr pR (w1F.eq rfl)) (zPC.fr pC (w1F.eq rfl)) w1PF (by omega))
    by_cases w21 : b.toInt = 4
    · refine zs_tswI (pc := 17) t317_17 ((rfl : b.toInt = b.toInt).trans w21) (by decide) rfl (pc2 := 95) rfl ?_
      refine zs_aload_n (pc := 95) t317_95 rfl ?_
      refine zs_get (pc := 96) t317_96 (by decide) (zk1 (w1s.k fk_zMm_336)) (w1s.p rfl fv_zMm_336_33) ?_
      refine zs_iload_n (pc := 99) t317_99 rfl ?_
      obtain ⟨w22n, w22⟩ : ∃ n : Nat, a.toInt = (n : Int) := ⟨(a.toInt).toNat, by omega⟩
      have w23 := zrg (zI w1M 355 w22n)
      refine zs_iald (pc := 100) t317_100 (j := w22n) (by decide) (zk1 (w1s.k fk_zMm_355)) (show a.toInt = ((w22n : Nat) : Int) by omega) (zk2 (w1s.k fk_zMm_355) (by omega)) rfl ?_
      have w24 : (zI w1M 336 5).toInt = (zI M 336 5).toInt := (congrArg Int32.toInt ((w1F 336 5 rfl).trans rfl)).trans rfl
      exact zs_iret (pc := 101) t317_101 mr317 rfl (hQ _ _ w1s w1I ((zFr.refl).trans (w1F.mono rfl)) (zPR.fr pR (w1F.eq rfl)) (zPC.fr pC (w1F.eq rfl)) w1PF (by omega))
    by_cases w25 : b.toInt = 5
    · refine zs_tswI (pc := 17) t317_17 ((rfl : b.toInt = b.toInt).trans w25) (by decide) rfl (pc2 := 102) rfl ?_
      refine zs_aload_n (pc := 102) t317_102 rfl ?_
      refine zs_iload_n (pc := 103) t317_103 rfl ?_
      have w26 : (zI w1M 336 22).toInt = (zI w1M 336 22).toInt := (congrArg Int32.toInt rfl).trans rfl
      refine zs_invV (pc := 104) (k := 336) (as' := [.int a]) (st := []) t317_104 mf285 rfl rfl (Or.inl ⟨by decide, (zk1 (w1s.k fk_zMm_336))⟩) ⟨by decide, by decide, Nat.le_of_ble_eq_true rfl, Nat.le_of_ble_eq_true rfl⟩ (K285 w1s w1I w1PD ⟨by omega, by omega⟩ (by omega) ?_) (fun _ _ q => q)
      intro w27v
      have w27g := zrg w27v
      show zGo X l 7 0 0 317 107 [(0, .ref 336), (1, .int a), (2, .int b)] [.int w27v] w1M _
      have w28 : (zI w1M 336 5).toInt = (zI M 336 5).toInt := (congrArg Int32.toInt ((w1F 336 5 rfl).trans rfl)).trans rfl
      exact zs_iret (pc := 107) t317_107 mr317 rfl (hQ _ _ w1s w1I ((zFr.refl).trans (w1F.mono rfl)) (zPR.fr pR (w1F.eq rfl)) (zPC.fr pC (w1F.eq rfl)) w1PF (by omega))
    by_cases w29 : b.toInt = 6
    · refine zs_tswI (pc := 17) t317_17 ((rfl : b.toInt = b.toInt).trans w29) (by decide) rfl (pc2 := 108) rfl ?_
      refine zs_aload_n (pc := 108) t317_108 rfl ?_
      refine zs_iload_n (pc := 109) t317_109 rfl ?_
      have w30 : (zI w1M 336 22).toInt = (zI w1M 336 22).toInt := (congrArg Int32.toInt rfl).trans rfl
      refine zs_invV (pc := 110) (k := 336) (as' := [.int a]) (st := []) t317_110 mf319 rfl rfl (Or.inl ⟨by decide, (zk1 (w1s.k fk_zMm_336))⟩) ⟨by decide, by decide, Nat.le_of_ble_eq_true rfl, Nat.le_of_ble_eq_true rfl⟩ (K319 w1s w1I w1PD ⟨by omega, by omega⟩ (by omega) ?_) (fun _ _ q => q)
      intro w31v
      have w31g := zrg w31v
      show zGo X l 7 0 0 317 113 [(0, .ref 336), (1, .int a), (2, .int b)] [.int w31v] w1M _
      have w32 : (zI w1M 336 5).toInt = (zI M 336 5).toInt := (congrArg Int32.toInt ((w1F 336 5 rfl).trans rfl)).trans rfl
      exact zs_iret (pc := 113) t317_113 mr317 rfl (hQ _ _ w1s w1I ((zFr.refl).trans (w1F.mono rfl)) (zPR.fr pR (w1F.eq rfl)) (zPC.fr pC (w1F.eq rfl)) w1PF (by omega))
    by_cases w33 : b.toInt = 7
    · refine zs_tswI (pc := 17) t317_17 ((rfl : b.toInt = b.toInt).trans w33) (by decide) rfl (pc2 := 114) rfl ?_
      refine zs_aload_n (pc := 114) t317_114 rfl ?_
      refine zs_iload_n (pc := 115) t317_115 rfl ?_
      refine zs_iconst (pc := 116) t317_116 (v := 0) (by decide) ?_
      refine zs_invV (pc := 117) (k := 336) (as' := [.int a, .int (0 : Int32)]) (st := []) t317_117 mf320 rfl rfl (Or.inl ⟨by decide, (zk1 (w1s.k fk_zMm_336))⟩) ⟨by decide, by decide, Nat.le_of_ble_eq_true rfl, Nat.le_of_ble_eq_true rfl⟩ (K320 w1s w1I ⟨by omega, by omega⟩ ⟨by decide, by decide⟩ ?_) (fun _ _ q => q)
      intro w34v
      have w34g := zrg w34v
      show zGo X l 7 0 0 317 120 [(0, .ref 336), (1, .int a), (2, .int b)] [.int w34v] w1M _
      have w35 : (zI w1M 336 5).toInt = (zI M 336 5).toInt := (congrArg Int32.toInt ((w1F 336 5 rfl).trans rfl)).trans rfl
      exact zs_iret (pc := 120) t317_120 mr317 rfl (hQ _ _ w1s w1I ((zFr.refl).trans (w1F.mono rfl)) (zPR.fr pR (w1F.eq rfl)) (zPC.fr pC (w1F.eq rfl)) w1PF (by omega))
    by_cases w36 : b.toInt = 8
    · refine zs_tswI (pc := 17) t317_17 ((rfl : b.toInt = b.toInt).trans w36) (by decide) rfl (pc2 := 121) rfl ?_
      refine zs_aload_n (pc := 121) t317_121 rfl ?_
      refine zs_iload_n (pc := 122) t317_122 rfl ?_
      refine zs_iconst (pc := 123) t317_123 (v := 1) (by decide) ?_
      refine zs_invV (pc := 124) (k := 336) (as' := [.int a, .int (1 : Int32)]) (st := []) t317_124 mf320 rfl rfl (Or.inl ⟨by decide, (zk1 (w1s.k fk_zMm_336))⟩) ⟨by decide, by decide, Nat.le_of_ble_eq_true rfl, Nat.le_of_ble_eq_true rfl⟩ (K320 w1s w1I ⟨by omega, by omega⟩ ⟨by decide, by decide⟩ ?_) (fun _ _ q => q)
      intro w37v
      have w37g := zrg w37v
      show zGo X l 7 0 0 317 127 [(0, .ref 336), (1, .int a), (2, .int b)] [.int w37v] w1M _
      have w38 : (zI w1M 336 5).toInt = (zI M 336 5).toInt := (congrArg Int32.toInt ((w1F 336 5 rfl).trans rfl)).trans rfl
      exact zs_iret (pc := 127) t317_127 mr317 rfl (hQ _ _ w1s w1I ((zFr.refl).trans (w1F.mono rfl)) (zPR.fr pR (w1F.eq rfl)) (zPC.fr pC (w1F.eq rfl)) w1PF (by omega))
    refine zs_tswD (pc := 17) t317_17 rfl (by omega) (pc2 := 128) rfl ?_
    refine zs_ldc_w (pc := 128) t317_128 (v := -100000) rfl (by decide) ?_
    have w39 : (zI w1M 336 5).toInt = (zI M 336 5).toInt := (congrArg Int32.toInt ((w1F 336 5 rfl).trans rfl)).trans rfl
    have w40 := lin100000
    exact zs_iret (pc := 131) t317_131 mr317 (by decide) (hQ _ _ w1s w1I ((zFr.refl).trans (w1F.mono rfl)) (zPR.fr pR (w1F.eq rfl)) (zPC.fr pC (w1F.eq rfl)) w1PF (by omega))
  · refine zs_invS (pc := 10) (as := [.long a.toInt64, .long (0 : Int64), .long w3v.toInt64]) (st := []) t297_10 (by decide) mf228 rfl rfl ⟨by decide, by decide, Nat.le_of_ble_eq_true rfl, Nat.le_of_ble_eq_true rfl⟩ (K228F (zi2l rfl) ll0 (zi2l w3) (by omega) ?_) (fun _ _ q => q)
    show zGo X l 1 0 0 297 13 [(0, .ref 336), (1, .int a)] [.int (0 : Int32)] w1M _
    refine zs_iret (pc := 13) t297_13 mr297 (by decide) ?_
    show zGo X l 7 0 0 317 9 [(0, .ref 336), (1, .int a), (2, .int b)] [.int (0 : Int32)] w1M _
    refine zs_if_neF (pc := 9) t317_9 li0 (by decide) ?_
    refine zs_ldc_w (pc := 12) t317_12 (v := -100000) rfl (by decide) ?_
    have w41 : (zI w1M 336 5).toInt = (zI M 336 5).toInt := (congrArg Int32.toInt ((w1F 336 5 rfl).trans rfl)).trans rfl
    have w42 := lin100000
    exact zs_iret (pc := 15) t317_15 mr317 (by decide) (hQ _ _ w1s w1I ((zFr.refl).trans (w1F.mono rfl)) (zPR.fr pR (w1F.eq rfl)) (zPC.fr pC (w1F.eq rfl)) w1PF (by omega))
theorem L321 {X : zX} {l : Launch} {M : zM} {Q : Option Value → zM → Prop} {a b : Int32} (hs : zSk zMm M) (hI : zIv mLo mHi M) (pR : zPR M) (pC : zPC M) (pF : zPF M) (hQ : ∀ (M' : zM) (v : Int32), zSk zMm M' → zIv mLo mHi M' → zFr [(336, 363, none)] M M' → zPR M' → zPC M' → zPF M' → ((zI M' 336 5).toInt = (zI M 336 5).toInt) → Q (some (.int v)) M') : zCall X l 7 0 0 321 [.ref 336, .int a, .int b] M Q := by
  have ga := zrg a
  have gb := zrg b
  refine zs_in (by decide) mf321 (Nat.le_of_ble_eq_true rfl) ?_
  show zGo X l 7 0 0 321 0 [(0, .ref 336), (1, .int a), (2, .int b)] [] M _
  refine zs_aload_n (pc := 0) t321_0 rfl ?_
  refine zs_invV (pc := 1) (k := 336) (as' := []) (st := []) t321_1 mf268 rfl rfl (Or.inl ⟨by decide, (zk1 (hs.k fk_zMm_336))⟩) ⟨by decide, by decide, Nat.le_of_ble_eq_true rfl, Nat.le_of_ble_eq_true rfl⟩ (K268 hs hI pR pF ?_) (fun _ _ q => q)
  intro w1M w1s w1I w1F w1PF w1PD w1PV
  show zGo X l 7 0 0 321 4 [(0, .ref 336), (1, .int a), (2, .int b)] [] w1M _
  refine zs_aload_n (pc := 4) t321_4 rfl ?_
  refine zs_iload_n (pc := 5) t321_5 rfl ?_
  refine zs_invV (pc := 6) (k := 336) (as' := [.int a]) (st := []) t321_6 mf297 rfl rfl (Or.inl ⟨by decide, (zk1 (w1s.k fk_zMm_336))⟩) ⟨by decide, by decide, Nat.le_of_ble_eq_true rfl, Nat.le_of_ble_eq_true rfl⟩ (zs_in (by decide) mf297 (Nat.le_of_ble_eq_true rfl) ?_) (fun _ _ q => q)
  show zGo X l 1 0 0 297 0 [(0, .ref 336), (1, .int a)] [] w1M _
  refine zs_iload_n (pc := 0) t297_0 rfl ?_
  refine zs_i2l (pc := 1) t297_1 rfl ?_
  refine zs_lconst (pc := 2) t297_2 (v := 0) (by decide) ?_
  refine zs_aload_n (pc := 3) t297_3 rfl ?_
  have w2 := ib336_22 w1I
  refine zs_get (pc := 4) t297_4 (by decide) (zk1 (w1s.k fk_zMm_336)) (zfvi rfl rfl) ?_
  refine zs_iconst (pc := 7) t297_7 (v := 1) (by decide) ?_
  obtain ⟨w3v, w3e, w3⟩ := zisub (a := (zI w1M 336 22)) (b := (1 : Int32)) rfl li1 (by omega) (by omega)
  refine zs_isub (pc := 8) t297_8 (c := w3v) w3e ?_
  refine zs_i2l (pc := 9) t297_9 rfl ?_
  by_cases w4 : 0 ≤ a.toInt ∧ a.toInt ≤ ((zI w1M 336 22).toInt - 1)
  · refine zs_invS (pc := 10) (as := [.long a.toInt64, .long (0 : Int64), .long w3v.toInt64]) (st := []) t297_10 (by decide) mf228 rfl rfl ⟨by decide, by decide, Nat.le_of_ble_eq_true rfl, Nat.le_of_ble_eq_true rfl⟩ (K228T (zi2l rfl) ll0 (zi2l w3) (by omega) ?_) (fun _ _ q => q)
    show zGo X l 1 0 0 297 13 [(0, .ref 336), (1, .int a)] [.int (1 : Int32)] w1M _
    refine zs_iret (pc := 13) t297_13 mr297 (by decide) ?_
    show zGo X l 7 0 0 321 9 [(0, .ref 336), (1, .int a), (2, .int b)] [.int (1 : Int32)] w1M _
    refine zs_if_eqF (pc := 9) t321_9 li1 (by decide) ?_
    refine zs_aload_n (pc := 12) t321_12 rfl ?_
    refine zs_iload_n (pc := 13) t321_13 rfl ?_
    refine zs_invV (pc := 14) (k := 336) (as' := [.int b]) (st := []) t321_14 mf306 rfl rfl (Or.inl ⟨by decide, (zk1 (w1s.k fk_zMm_336))⟩) ⟨by decide, by decide, Nat.le_of_ble_eq_true rfl, Nat.le_of_ble_eq_true rfl⟩ (zs_in (by decide) mf306 (Nat.le_of_ble_eq_true rfl) ?_) (fun _ _ q => q)
    show zGo X l 1 0 0 306 0 [(0, .ref 336), (1, .int b)] [] w1M _
    refine zs_iload_n (pc := 0) t306_0 rfl ?_
    refine zs_i2l (pc := 1) t306_1 rfl ?_
    refine zs_lconst (pc := 2) t306_2 (v := 0) (by decide) ?_
    refine zs_aload_n (pc := 3) t306_3 rfl ?_
    refine zs_get (pc := 4) t306_4 (by decide) (zk1 (w1s.k fk_zMm_336)) (w1s.p rfl fv_zMm_336_0) ?_
    refine zs_iconst (pc := 7) t306_7 (v := 0) (by decide) ?_
    have w5 := ibA0 hI
    refine zs_iald (pc := 8) t306_8 (j := 0) (by decide) (zk1 (w1s.k fk_zMm_337)) li0 (zk2 (w1s.k fk_zMm_337) (by decide)) ((w1F 337 0 rfl).trans rfl) ?_
    refine zs_iconst (pc := 9) t306_9 (v := 1) (by decide) ?_
    obtain ⟨w6v, w6e, w6⟩ := zisub (a := (zI M 337 0)) (b := (1 : Int32)) rfl li1 (by omega) (by omega)
    refine zs_isub (pc := 10) t306_10 (c := w6v) w6e ?_
    refine zs_i2l (pc := 11) t306_11 rfl ?_
    by_cases w7 : 0 ≤ b.toInt ∧ b.toInt ≤ ((zI M 337 0).toInt - 1)
    · refine zs_invS (pc := 12) (as := [.long b.toInt64, .long (0 : Int64), .long w6v.toInt64]) (st := []) t306_12 (by decide) mf228 rfl rfl ⟨by decide, by decide, Nat.le_of_ble_eq_true rfl, Nat.le_of_ble_eq_true rfl⟩ (K228T (zi2l rfl) ll0 (zi2l w6) (by omega) ?_) (fun _ _ q => q)
      show zGo X l 1 0 0 306 15 [(0, .ref 336), (1, .int b)] [.int (1 : Int32)] w1M _
      refine zs_iret (pc := 15) t306_15 mr306 (by decide) ?_
      show zGo X l 7 0 0 321 17 [(0, .ref 336), (1, .int a), (2, .int b)] [.int (1 : Int32)] w1M _
      refine zs_if_eqF (pc := 17) t321_17 li1 (by decide) ?_
      refine zs_aload_n (pc := 20) t321_20 rfl ?_
      refine zs_get (pc := 21) t321_21 (by decide) (zk1 (w1s.k fk_zMm_336)) (w1s.p rfl fv_zMm_336_27) ?_
      refine zs_bipush (pc := 24) t321_24 (v := 8) (by decide) ?_
      refine zs_iload_n (pc := 26) t321_26 rfl ?_
      obtain ⟨w8v, w8⟩ : ∃ v, (8 : Int32) * a = v := ⟨_, rfl⟩
      have w8g : w8v.toInt = 8 * a.toInt := by rw [← w8]; exact zmulc li8 rfl (by omega) (by omega)
      refine zs_imul (pc := 27) t321_27 (c := w8v) w8 ?_
      refine zs_iload_n (pc := 28) t321_28 rfl ?_
      obtain ⟨w9v, w9e, w9⟩ := ziadd (a := w8v) (b := b) w8g rfl (by omega) (by omega)
      refine zs_iadd (pc := 29) t321_29 (c := w9v) w9e ?_
      obtain ⟨w10n, w10⟩ : ∃ n : Nat, a.toInt = (n : Int) := ⟨(a.toInt).toNat, by omega⟩
      obtain ⟨w11n, w11⟩ : ∃ n : Nat, b.toInt = (n : Int) := ⟨(b.toInt).toNat, by omega⟩
      have w12 := ib349 w1I (8 * w10n + w11n)
      refine zs_iald (pc := 30) t321_30 (j := (8 * w10n + w11n)) (by decide) (zk1 (w1s.k fk_zMm_349)) (show w9v.toInt = (((8 * w10n + w11n) : Nat) : Int) by omega) (zk2 (w1s.k fk_zMm_349) (by omega)) rfl ?_
      refine zs_goto (pc := 31) t321_31 ?_
      have w13 := ib336_5 hI
      have w14 : (zI w1M 336 5).toInt = (zI M 336 5).toInt := (congrArg Int32.toInt ((w1F 336 5 rfl).trans rfl)).trans rfl
      exact zs_iret (pc := 35) t321_35 mr321 rfl (hQ _ _ w1s w1I ((zFr.refl).trans (w1F.mono rfl)) (zPR.fr pR (w1F.eq rfl)) (zPC.fr pC (w1F.eq rfl)) w1PF (by omega))
    · refine zs_invS (pc := 12) (as := [.long b.toInt64, .long (0 : Int64), .long w6v.toInt64]) (st := []) t306_12 (by decide) mf228 rfl rfl ⟨by decide, by decide, Nat.le_of_ble_eq_true rfl, Nat.le_of_ble_eq_true rfl⟩ (K228F (zi2l rfl) ll0 (zi2l w6) (by omega) ?_) (fun _ _ q => q)
      show zGo X l 1 0 0 306 15 [(0, .ref 336), (1, .int b)] [.int (0 : Int32)] w1M _
      refine zs_iret (pc := 15) t306_15 mr306 (by decide) ?_
      show zGo X l 7 0 0 321 17 [(0, .ref 336), (1, .int a), (2, .int b)] [.int (0 : Int32)] w1M _
      refine zs_if_eqT (pc := 17) t321_17 li0 (by decide) ?_
      refine zs_iconst (pc := 34) t321_34 (v := -1) (by decide) ?_
      have w15 : (zI w1M 336 5).toInt = (zI M 336 5).toInt := (congrArg Int32.toInt ((w1F 336 5 rfl).trans rfl)).trans rfl
      have w16 := lin1
      exact zs_iret (pc := 35) t321_35 mr321 (by decide) (hQ _ _ w1s w1I ((zFr.refl).trans (w1F.mono rfl)) (zPR.fr pR (w1F.eq rfl)) (zPC.fr pC (w1F.eq rfl)) w1PF (by omega))
  · refine zs_invS (pc := 10) (as := [.long a.toInt64, .long (0 : Int64), .long w3v.toInt64]) (st := []) t297_10 (by decide) mf228 rfl rfl ⟨by decide, by decide, Nat.le_of_ble_eq_true rfl, Nat.le_of_ble_eq_true rfl⟩ (K228F (zi2l rfl) ll0 (zi2l w3) (by omega) ?_) (fun _ _ q => q)
    show zGo X l 1 0 0 297 13 [(0, .ref 336), (1, .int a)] [.int (0 : Int32)] w1M _
    refine zs_iret (pc := 13) t297_13 mr297 (by decide) ?_
    show zGo X l 7 0 0 321 9 [(0, .ref 336), (1, .int a), (2, .int b)] [.int (0 : Int32)] w1M _
    refine zs_if_eqT (pc := 9) t321_9 li0 (by decide) ?_
    refine zs_iconst (pc := 34) t321_34 (v := -1) (by decide) ?_
    have w17 : (zI w1M 336 5).toInt = (zI M 336 5).toInt := (congrArg Int32.toInt ((w1F 336 5 rfl).trans rfl)).trans rfl
    have w18 := lin1
    exact zs_iret (pc := 35) t321_35 mr321 (by decide) (hQ _ _ w1s w1I ((zFr.refl).trans (w1F.mono rfl)) (zPR.fr pR (w1F.eq rfl)) (zPC.fr pC (w1F.eq rfl)) w1PF (by omega))
theorem L296 {X : zX} {l : Launch} {M : zM} {Q : Option Value → zM → Prop} {a b : Int32} (hs : zSk zMm M) (hI : zIv mLo mHi M) (pR : zPR M) (pC : zPC M) (pF : zPF M) (hQ : ∀ (M' : zM) (v : Int64), zSk zMm M' → zIv mLo mHi M' → zFr [(336, 363, none)] M M' → zPR M' → zPC M' → zPF M' → ((zI M' 336 5).toInt = (zI M 336 5).toInt) → Q (some (.long v)) M') : zCall X l 7 0 0 296 [.ref 336, .int a, .int b] M Q := by
  have ga := zrg a
  have gb := zrg b
  refine zs_in (by decide) mf296 (Nat.le_of_ble_eq_true rfl) ?_
  show zGo X l 7 0 0 296 0 [(0, .ref 336), (1, .int a), (2, .int b)] [] M _
  refine zs_aload_n (pc := 0) t296_0 rfl ?_
  refine zs_invV (pc := 1) (k := 336) (as' := []) (st := []) t296_1 mf268 rfl rfl (Or.inl ⟨by decide, (zk1 (hs.k fk_zMm_336))⟩) ⟨by decide, by decide, Nat.le_of_ble_eq_true rfl, Nat.le_of_ble_eq_true rfl⟩ (K268 hs hI pR pF ?_) (fun _ _ q => q)
  intro w1M w1s w1I w1F w1PF w1PD w1PV
  show zGo X l 7 0 0 296 4 [(0, .ref 336), (1, .int a), (2, .int b)] [] w1M _
  refine zs_aload_n (pc := 4) t296_4 rfl ?_
  refine zs_iload_n (pc := 5) t296_5 rfl ?_
  refine zs_invV (pc := 6) (k := 336) (as' := [.int a]) (st := []) t296_6 mf297 rfl rfl (Or.inl ⟨by decide, (zk1 (w1s.k fk_zMm_336))⟩) ⟨by decide, by decide, Nat.le_of_ble_eq_true rfl, Nat.le_of_ble_eq_true rfl⟩ (zs_in (by decide) mf297 (Nat.le_of_ble_eq_true rfl) ?_) (fun _ _ q => q)
  show zGo X l 1 0 0 297 0 [(0, .ref 336), (1, .int a)] [] w1M _
  refine zs_iload_n (pc := 0) t297_0 rfl ?_
  refine zs_i2l (pc := 1) t297_1 rfl ?_
  refine zs_lconst (pc := 2) t297_2 (v := 0) (by decide) ?_
  refine zs_aload_n (pc := 3) t297_3 rfl ?_
  have w2 := ib336_22 w1I
  refine zs_get (pc := 4) t297_4 (by decide) (zk1 (w1s.k fk_zMm_336)) (zfvi rfl rfl) ?_
  refine zs_iconst (pc := 7) t297_7 (v := 1) (by decide) ?_
  obtain ⟨w3v, w3e, w3⟩ := zisub (a := (zI w1M 336 22)) (b := (1 : Int32)) rfl li1 (by omega) (by omega)
  refine zs_isub (pc := 8) t297_8 (c := w3v) w3e ?_
  refine zs_i2l (pc := 9) t297_9 rfl ?_
  by_cases w4 : 0 ≤ a.toInt ∧ a.toInt ≤ ((zI w1M 336 22).toInt - 1)
  · refine zs_invS (pc := 10) (as := [.long a.toInt64, .long (0 : Int64), .long w3v.toInt64]) (st := []) t297_10 (by decide) mf228 rfl rfl ⟨by decide, by decide, Nat.le_of_ble_eq_true rfl, Nat.le_of_ble_eq_true rfl⟩ (K228T (zi2l rfl) ll0 (zi2l w3) (by omega) ?_) (fun _ _ q => q)
    show zGo X l 1 0 0 297 13 [(0, .ref 336), (1, .int a)] [.int (1 : Int32)] w1M _
    refine zs_iret (pc := 13) t297_13 mr297 (by decide) ?_
    show zGo X l 7 0 0 296 9 [(0, .ref 336), (1, .int a), (2, .int b)] [.int (1 : Int32)] w1M _
    refine zs_if_eqF (pc := 9) t296_9 li1 (by decide) ?_
    refine zs_iload_n (pc := 12) t296_12 rfl ?_
    refine zs_i2l (pc := 13) t296_13 rfl ?_
    refine zs_lconst (pc := 14) t296_14 (v := 0) (by decide) ?_
    refine zs_ldc2_w (pc := 15) t296_15 (v := 5) (by decide) ?_
    by_cases w5 : 0 ≤ b.toInt ∧ b.toInt ≤ 5
    · refine zs_invS (pc := 18) (as := [.long b.toInt64, .long (0 : Int64), .long (5 : Int64)]) (st := []) t296_18 (by decide) mf228 rfl rfl ⟨by decide, by decide, Nat.le_of_ble_eq_true rfl, Nat.le_of_ble_eq_true rfl⟩ (K228T (zi2l rfl) ll0 ll5 (by omega) ?_) (fun _ _ q => q)
      show zGo X l 7 0 0 296 21 [(0, .ref 336), (1, .int a), (2, .int b)] [.int (1 : Int32)] w1M _
      refine zs_if_neT (pc := 21) t296_21 li1 (by decide) ?_
      refine zs_iload_n (pc := 28) t296_28 rfl ?_
      refine zs_iconst (pc := 29) t296_29 (v := 2) (by decide) ?_
      by_cases w6 : 2 ≤ b.toInt
      · refine zs_icmp_geT (pc := 30) t296_30 rfl li2 (by omega) ?_
        refine zs_iload_n (pc := 42) t296_42 rfl ?_
        refine zs_iconst (pc := 43) t296_43 (v := 4) (by decide) ?_
        by_cases w7 : 4 ≤ b.toInt
        · refine zs_icmp_geT (pc := 44) t296_44 rfl li4 (by omega) ?_
          refine zs_aload_n (pc := 56) t296_56 rfl ?_
          refine zs_get (pc := 57) t296_57 (by decide) (zk1 (w1s.k fk_zMm_336)) (w1s.p rfl fv_zMm_336_32) ?_
          refine zs_iload_n (pc := 60) t296_60 rfl ?_
          obtain ⟨w8n, w8⟩ : ∃ n : Nat, a.toInt = (n : Int) := ⟨(a.toInt).toNat, by omega⟩
          have w9 := zrg64 (zJ w1M 354 w8n)
          refine zs_lald (pc := 61) t296_61 (j := w8n) (zk1 (w1s.k fk_zMm_354)) (show a.toInt = ((w8n : Nat) : Int) by omega) (zk2 (w1s.k fk_zMm_354) (by omega)) rfl ?_
          refine zs_aload_n (pc := 62) t296_62 rfl ?_
          refine zs_get (pc := 63) t296_63 (by decide) (zk1 (w1s.k fk_zMm_336)) (w1s.p rfl fv_zMm_336_29) ?_
          refine zs_iload_n (pc := 66) t296_66 rfl ?_
          have w10 := zrg64 (zJ w1M 351 w8n)
          have w11 : (zI w1M 336 22).toInt = (zI w1M 336 22).toInt := (congrArg Int32.toInt rfl).trans rfl
          have w12 : 0 < (zJ w1M 351 w8n).toInt := w1PD w8n (by omega)
          refine zs_lald (pc := 67) t296_67 (j := w8n) (zk1 (w1s.k fk_zMm_351)) (show a.toInt = ((w8n : Nat) : Int) by omega) (zk2 (w1s.k fk_zMm_351) (by omega)) rfl ?_
          refine zs_iload_n (pc := 68) t296_68 rfl ?_
          refine zs_iconst (pc := 69) t296_69 (v := 2) (by decide) ?_
          obtain ⟨w13v, w13⟩ : ∃ v, b - b / (2 : Int32) * (2 : Int32) = v := ⟨_, rfl⟩
          have w13g : 0 ≤ w13v.toInt ∧ w13v.toInt ≤ 1 := by rw [← w13]; exact zrem rfl li2 (by omega) (by decide)
          refine zs_irem (pc := 70) t296_70 (by decide) (c := w13v) w13 ?_
          refine zs_invS (pc := 71) (as := [.long (zJ w1M 354 w8n), .long (zJ w1M 351 w8n), .int w13v]) (st := []) t296_71 (by decide) mf298 rfl rfl ⟨by decide, by decide, Nat.le_of_ble_eq_true rfl, Nat.le_of_ble_eq_true rfl⟩ (K298 w1s w1I (by omega) ?_) (fun _ _ q => q)
          intro w14v
          have w14g := zrg64 w14v
          show zGo X l 7 0 0 296 74 [(0, .ref 336), (1, .int a), (2, .int b)] [.long w14v] w1M _
          have w15 := ib336_5 hI
          have w16 : (zI w1M 336 5).toInt = (zI M 336 5).toInt := (congrArg Int32.toInt ((w1F 336 5 rfl).trans rfl)).trans rfl
          exact zs_lret (pc := 74) t296_74 mr296 (hQ _ _ w1s w1I ((zFr.refl).trans (w1F.mono rfl)) (zPR.fr pR (w1F.eq rfl)) (zPC.fr pC (w1F.eq rfl)) w1PF (by omega))
        · refine zs_icmp_geF (pc := 44) t296_44 rfl li4 (by omega) ?_
          refine zs_aload_n (pc := 47) t296_47 rfl ?_
          refine zs_get (pc := 48) t296_48 (by decide) (zk1 (w1s.k fk_zMm_336)) (w1s.p rfl fv_zMm_336_31) ?_
          refine zs_iload_n (pc := 51) t296_51 rfl ?_
          obtain ⟨w17n, w17⟩ : ∃ n : Nat, a.toInt = (n : Int) := ⟨(a.toInt).toNat, by omega⟩
          have w18 := zrg64 (zJ w1M 353 w17n)
          refine zs_lald (pc := 52) t296_52 (j := w17n) (zk1 (w1s.k fk_zMm_353)) (show a.toInt = ((w17n : Nat) : Int) by omega) (zk2 (w1s.k fk_zMm_353) (by omega)) rfl ?_
          refine zs_goto (pc := 53) t296_53 ?_
          refine zs_aload_n (pc := 62) t296_62 rfl ?_
          refine zs_get (pc := 63) t296_63 (by decide) (zk1 (w1s.k fk_zMm_336)) (w1s.p rfl fv_zMm_336_29) ?_
          refine zs_iload_n (pc := 66) t296_66 rfl ?_
          have w19 := zrg64 (zJ w1M 351 w17n)
          have w20 : (zI w1M 336 22).toInt = (zI w1M 336 22).toInt := (congrArg Int32.toInt rfl).trans rfl
          have w21 : 0 < (zJ w1M 351 w17n).toInt := w1PD w17n (by omega)
          refine zs_lald (pc := 67) t296_67 (j := w17n) (zk1 (w1s.k fk_zMm_351)) (show a.toInt = ((w17n : Nat) : Int) by omega) (zk2 (w1s.k fk_zMm_351) (by omega)) rfl ?_
          refine zs_iload_n (pc := 68) t296_68 rfl ?_
          refine zs_iconst (pc := 69) t296_69 (v := 2) (by decide) ?_
          obtain ⟨w22v, w22⟩ : ∃ v, b - b / (2 : Int32) * (2 : Int32) = v := ⟨_, rfl⟩
          have w22g : 0 ≤ w22v.toInt ∧ w22v.toInt ≤ 1 := by rw [← w22]; exact zrem rfl li2 (by omega) (by decide)
          refine zs_irem (pc := 70) t296_70 (by decide) (c := w22v) w22 ?_
          refine zs_invS (pc := 71) (as := [.long (zJ w1M 353 w17n), .long (zJ w1M 351 w17n), .int w22v]) (st := []) t296_71 (by decide) mf298 rfl rfl ⟨by decide, by decide, Nat.le_of_ble_eq_true rfl, Nat.le_of_ble_eq_true rfl⟩ (K298 w1s w1I (by omega) ?_) (fun _ _ q => q)
          intro w23v
          have w23g := zrg64 w23v
          show zGo X l 7 0 0 296 74 [(0, .ref 336), (1, .int a), (2, .int b)] [.long w23v] w1M _
          have w24 : (zI w1M 336 5).toInt = (zI M 336 5).toInt := (congrArg Int32.toInt ((w1F 336 5 rfl).trans rfl)).trans rfl
          exact zs_lret (pc := 74) t296_74 mr296 (hQ _ _ w1s w1I ((zFr.refl).trans (w1F.mono rfl)) (zPR.fr pR (w1F.eq rfl)) (zPC.fr pC (w1F.eq rfl)) w1PF (by omega))
      · refine zs_icmp_geF (pc := 30) t296_30 rfl li2 (by omega) ?_
        refine zs_aload_n (pc := 33) t296_33 rfl ?_
        refine zs_get (pc := 34) t296_34 (by decide) (zk1 (w1s.k fk_zMm_336)) (w1s.p rfl fv_zMm_336_30) ?_
        refine zs_iload_n (pc := 37) t296_37 rfl ?_
        obtain ⟨w25n, w25⟩ : ∃ n : Nat, a.toInt = (n : Int) := ⟨(a.toInt).toNat, by omega⟩
        have w26 := zrg64 (zJ w1M 352 w25n)
        refine zs_lald (pc := 38) t296_38 (j := w25n) (zk1 (w1s.k fk_zMm_352)) (show a.toInt = ((w25n : Nat) : Int) by omega) (zk2 (w1s.k fk_zMm_352) (by omega)) rfl ?_
        refine zs_goto (pc := 39) t296_39 ?_
        refine zs_aload_n (pc := 62) t296_62 rfl ?_
        refine zs_get (pc := 63) t296_63 (by decide) (zk1 (w1s.k fk_zMm_336)) (w1s.p rfl fv_zMm_336_29) ?_
        refine zs_iload_n (pc := 66) t296_66 rfl ?_
        have w27 := zrg64 (zJ w1M 351 w25n)
        have w28 : (zI w1M 336 22).toInt = (zI w1M 336 22).toInt := (congrArg Int32.toInt rfl).trans rfl
        have w29 : 0 < (zJ w1M 351 w25n).toInt := w1PD w25n (by omega)
        refine zs_lald (pc := 67) t296_67 (j := w25n) (zk1 (w1s.k fk_zMm_351)) (show a.toInt = ((w25n : Nat) : Int) by omega) (zk2 (w1s.k fk_zMm_351) (by omega)) rfl ?_
        refine zs_iload_n (pc := 68) t296_68 rfl ?_
        refine zs_iconst (pc := 69) t296_69 (v := 2) (by decide) ?_
        obtain ⟨w30v, w30⟩ : ∃ v, b - b / (2 : Int32) * (2 : Int32) = v := ⟨_, rfl⟩
        have w30g : 0 ≤ w30v.toInt ∧ w30v.toInt ≤ 1 := by rw [← w30]; exact zrem rfl li2 (by omega) (by decide)
        refine zs_irem (pc := 70) t296_70 (by decide) (c := w30v) w30 ?_
        refine zs_invS (pc := 71) (as := [.long (zJ w1M 352 w25n), .long (zJ w1M 351 w25n), .int w30v]) (st := []) t296_71 (by decide) mf298 rfl rfl ⟨by decide, by decide, Nat.le_of_ble_eq_true rfl, Nat.le_of_ble_eq_true rfl⟩ (K298 w1s w1I (by omega) ?_) (fun _ _ q => q)
        intro w31v
        have w31g := zrg64 w31v
        show zGo X l 7 0 0 296 74 [(0, .ref 336), (1, .int a), (2, .int b)] [.long w31v] w1M _
        have w32 : (zI w1M 336 5).toInt = (zI M 336 5).toInt := (congrArg Int32.toInt ((w1F 336 5 rfl).trans rfl)).trans rfl
        exact zs_lret (pc := 74) t296_74 mr296 (hQ _ _ w1s w1I ((zFr.refl).trans (w1F.mono rfl)) (zPR.fr pR (w1F.eq rfl)) (zPC.fr pC (w1F.eq rfl)) w1PF (by omega))
    · refine zs_invS (pc := 18) (as := [.long b.toInt64, .long (0 : Int64), .long (5 : Int64)]) (st := []) t296_18 (by decide) mf228 rfl rfl ⟨by decide, by decide, Nat.le_of_ble_eq_true rfl, Nat.le_of_ble_eq_true rfl⟩ (K228F (zi2l rfl) ll0 ll5 (by omega) ?_) (fun _ _ q => q)
      show zGo X l 7 0 0 296 21 [(0, .ref 336), (1, .int a), (2, .int b)] [.int (0 : Int32)] w1M _
      refine zs_if_neF (pc := 21) t296_21 li0 (by decide) ?_
      refine zs_ldc2_w (pc := 24) t296_24 (v := -1000000000000) (by decide) ?_
      have w33 : (zI w1M 336 5).toInt = (zI M 336 5).toInt := (congrArg Int32.toInt ((w1F 336 5 rfl).trans rfl)).trans rfl
      have w34 := lln1000000000000
      exact zs_lret (pc := 27) t296_27 mr296 (hQ _ _ w1s w1I ((zFr.refl).trans (w1F.mono rfl)) (zPR.fr pR (w1F.eq rfl)) (zPC.fr pC (w1F.eq rfl)) w1PF (by omega))
  · refine zs_invS (pc := 10) (as := [.long a.toInt64, .long (0 : Int64), .long w3v.toInt64]) (st := []) t297_10 (by decide) mf228 rfl rfl ⟨by decide, by decide, Nat.le_of_ble_eq_true rfl, Nat.le_of_ble_eq_true rfl⟩ (K228F (zi2l rfl) ll0 (zi2l w3) (by omega) ?_) (fun _ _ q => q)
    show zGo X l 1 0 0 297 13 [(0, .ref 336), (1, .int a)] [.int (0 : Int32)] w1M _
    refine zs_iret (pc := 13) t297_13 mr297 (by decide) ?_
    show zGo X l 7 0 0 296 9 [(0, .ref 336), (1, .int a), (2, .int b)] [.int (0 : Int32)] w1M _
    refine zs_if_eqT (pc := 9) t296_9 li0 (by decide) ?_
    refine zs_ldc2_w (pc := 24) t296_24 (v := -1000000000000) (by decide) ?_
    have w35 : (zI w1M 336 5).toInt = (zI M 336 5).toInt := (congrArg Int32.toInt ((w1F 336 5 rfl).trans rfl)).trans rfl
    have w36 := lln1000000000000
    exact zs_lret (pc := 27) t296_27 mr296 (hQ _ _ w1s w1I ((zFr.refl).trans (w1F.mono rfl)) (zPR.fr pR (w1F.eq rfl)) (zPC.fr pC (w1F.eq rfl)) w1PF (by omega))
theorem L301 {X : zX} {l : Launch} {M : zM} {Q : Option Value → zM → Prop} {a b : Int32} (hs : zSk zMm M) (hI : zIv mLo mHi M) (pR : zPR M) (pC : zPC M) (pF : zPF M) (hQ : ∀ (M' : zM) (v : Int32), zSk zMm M' → zIv mLo mHi M' → zFr [(336, 363, none)] M M' → zPR M' → zPC M' → zPF M' → ((zI M' 336 5).toInt = (zI M 336 5).toInt) → Q (some (.int v)) M') : zCall X l 7 0 0 301 [.ref 336, .int a, .int b] M Q := by
  have ga := zrg a
  have gb := zrg b
  refine zs_in (by decide) mf301 (Nat.le_of_ble_eq_true rfl) ?_
  show zGo X l 7 0 0 301 0 [(0, .ref 336), (1, .int a), (2, .int b)] [] M _
  refine zs_aload_n (pc := 0) t301_0 rfl ?_
  refine zs_invV (pc := 1) (k := 336) (as' := []) (st := []) t301_1 mf268 rfl rfl (Or.inl ⟨by decide, (zk1 (hs.k fk_zMm_336))⟩) ⟨by decide, by decide, Nat.le_of_ble_eq_true rfl, Nat.le_of_ble_eq_true rfl⟩ (K268 hs hI pR pF ?_) (fun _ _ q => q)
  intro w1M w1s w1I w1F w1PF w1PD w1PV
  show zGo X l 7 0 0 301 4 [(0, .ref 336), (1, .int a), (2, .int b)] [] w1M _
  refine zs_iload_n (pc := 4) t301_4 rfl ?_
  refine zs_i2l (pc := 5) t301_5 rfl ?_
  refine zs_lconst (pc := 6) t301_6 (v := 0) (by decide) ?_
  refine zs_aload_n (pc := 7) t301_7 rfl ?_
  have w2 := ib336_37 w1I
  refine zs_get (pc := 8) t301_8 (by decide) (zk1 (w1s.k fk_zMm_336)) (zfvi rfl rfl) ?_
  refine zs_iconst (pc := 11) t301_11 (v := 1) (by decide) ?_
  obtain ⟨w3v, w3e, w3⟩ := zisub (a := (zI w1M 336 37)) (b := (1 : Int32)) rfl li1 (by omega) (by omega)
  refine zs_isub (pc := 12) t301_12 (c := w3v) w3e ?_
  refine zs_i2l (pc := 13) t301_13 rfl ?_
  by_cases w4 : 0 ≤ a.toInt ∧ a.toInt ≤ ((zI w1M 336 37).toInt - 1)
  · refine zs_invS (pc := 14) (as := [.long a.toInt64, .long (0 : Int64), .long w3v.toInt64]) (st := []) t301_14 (by decide) mf228 rfl rfl ⟨by decide, by decide, Nat.le_of_ble_eq_true rfl, Nat.le_of_ble_eq_true rfl⟩ (K228T (zi2l rfl) ll0 (zi2l w3) (by omega) ?_) (fun _ _ q => q)
    show zGo X l 7 0 0 301 17 [(0, .ref 336), (1, .int a), (2, .int b)] [.int (1 : Int32)] w1M _
    refine zs_if_eqF (pc := 17) t301_17 li1 (by decide) ?_
    refine zs_iload_n (pc := 20) t301_20 rfl ?_
    refine zs_i2l (pc := 21) t301_21 rfl ?_
    refine zs_lconst (pc := 22) t301_22 (v := 0) (by decide) ?_
    refine zs_lconst (pc := 23) t301_23 (v := 1) (by decide) ?_
    by_cases w5 : 0 ≤ b.toInt ∧ b.toInt ≤ 1
    · refine zs_invS (pc := 24) (as := [.long b.toInt64, .long (0 : Int64), .long (1 : Int64)]) (st := []) t301_24 (by decide) mf228 rfl rfl ⟨by decide, by decide, Nat.le_of_ble_eq_true rfl, Nat.le_of_ble_eq_true rfl⟩ (K228T (zi2l rfl) ll0 ll1 (by omega) ?_) (fun _ _ q => q)
      show zGo X l 7 0 0 301 27 [(0, .ref 336), (1, .int a), (2, .int b)] [.int (1 : Int32)] w1M _
      refine zs_if_neT (pc := 27) t301_27 li1 (by decide) ?_
      refine zs_iload_n (pc := 34) t301_34 rfl ?_
      by_cases w6 : b.toInt ≠ 0
      · refine zs_if_neT (pc := 35) t301_35 rfl (by omega) ?_
        refine zs_aload_n (pc := 47) t301_47 rfl ?_
        refine zs_get (pc := 48) t301_48 (by decide) (zk1 (w1s.k fk_zMm_336)) (w1s.p rfl fv_zMm_336_35) ?_
        refine zs_iload_n (pc := 51) t301_51 rfl ?_
        obtain ⟨w7n, w7⟩ : ∃ n : Nat, a.toInt = (n : Int) := ⟨(a.toInt).toNat, by omega⟩
        have w8 := zrg64 (zJ w1M 357 w7n)
        refine zs_lald (pc := 52) t301_52 (j := w7n) (zk1 (w1s.k fk_zMm_357)) (show a.toInt = ((w7n : Nat) : Int) by omega) (zk2 (w1s.k fk_zMm_357) (by omega)) rfl ?_
        refine zs_aload_n (pc := 53) t301_53 rfl ?_
        refine zs_get (pc := 54) t301_54 (by decide) (zk1 (w1s.k fk_zMm_336)) (w1s.p rfl fv_zMm_336_34) ?_
        refine zs_iload_n (pc := 57) t301_57 rfl ?_
        have w9 := zrg (zI w1M 356 w7n)
        have w10 : (zI w1M 336 37).toInt = (zI w1M 336 37).toInt := (congrArg Int32.toInt rfl).trans rfl
        have w11 := w1PV w7n (by omega)
        refine zs_iald (pc := 58) t301_58 (j := w7n) (by decide) (zk1 (w1s.k fk_zMm_356)) (show a.toInt = ((w7n : Nat) : Int) by omega) (zk2 (w1s.k fk_zMm_356) (by omega)) rfl ?_
        refine zs_i2l (pc := 59) t301_59 rfl ?_
        have w12 : (zI w1M 356 w7n).toInt64.toInt = (zI w1M 356 w7n).toInt := (zi2l rfl)
        refine zs_invS (pc := 60) (as := [.long (zJ w1M 357 w7n), .long (zI w1M 356 w7n).toInt64]) (st := []) t301_60 (by decide) mf286 rfl rfl ⟨by decide, by decide, Nat.le_of_ble_eq_true rfl, Nat.le_of_ble_eq_true rfl⟩ (K286 w1s w1I ⟨by omega, by omega⟩ ?_) (fun _ _ q => q)
        intro w13v
        have w13g := zrg64 w13v
        show zGo X l 7 0 0 301 63 [(0, .ref 336), (1, .int a), (2, .int b)] [.long w13v] w1M _
        obtain ⟨w14v, w14⟩ : ∃ v, w13v.toInt32 = v := ⟨_, rfl⟩
        have w14g := zrg w14v
        refine zs_l2i (pc := 63) t301_63 (c := w14v) w14 ?_
        have w15 := ib336_5 hI
        have w16 : (zI w1M 336 5).toInt = (zI M 336 5).toInt := (congrArg Int32.toInt ((w1F 336 5 rfl).trans rfl)).trans rfl
        exact zs_iret (pc := 64) t301_64 mr301 rfl (hQ _ _ w1s w1I ((zFr.refl).trans (w1F.mono rfl)) (zPR.fr pR (w1F.eq rfl)) (zPC.fr pC (w1F.eq rfl)) w1PF (by omega))
      · refine zs_if_neF (pc := 35) t301_35 rfl (by omega) ?_
        refine zs_aload_n (pc := 38) t301_38 rfl ?_
        refine zs_get (pc := 39) t301_39 (by decide) (zk1 (w1s.k fk_zMm_336)) (w1s.p rfl fv_zMm_336_34) ?_
        refine zs_iload_n (pc := 42) t301_42 rfl ?_
        obtain ⟨w17n, w17⟩ : ∃ n : Nat, a.toInt = (n : Int) := ⟨(a.toInt).toNat, by omega⟩
        have w18 := zrg (zI w1M 356 w17n)
        have w19 : (zI w1M 336 37).toInt = (zI w1M 336 37).toInt := (congrArg Int32.toInt rfl).trans rfl
        have w20 := w1PV w17n (by omega)
        refine zs_iald (pc := 43) t301_43 (j := w17n) (by decide) (zk1 (w1s.k fk_zMm_356)) (show a.toInt = ((w17n : Nat) : Int) by omega) (zk2 (w1s.k fk_zMm_356) (by omega)) rfl ?_
        refine zs_goto (pc := 44) t301_44 ?_
        have w21 : (zI w1M 336 5).toInt = (zI M 336 5).toInt := (congrArg Int32.toInt ((w1F 336 5 rfl).trans rfl)).trans rfl
        exact zs_iret (pc := 64) t301_64 mr301 rfl (hQ _ _ w1s w1I ((zFr.refl).trans (w1F.mono rfl)) (zPR.fr pR (w1F.eq rfl)) (zPC.fr pC (w1F.eq rfl)) w1PF (by omega))
    · refine zs_invS (pc := 24) (as := [.long b.toInt64, .long (0 : Int64), .long (1 : Int64)]) (st := []) t301_24 (by decide) mf228 rfl rfl ⟨by decide, by decide, Nat.le_of_ble_eq_true rfl, Nat.le_of_ble_eq_true rfl⟩ (K228F (zi2l rfl) ll0 ll1 (by omega) ?_) (fun _ _ q => q)
      show zGo X l 7 0 0 301 27 [(0, .ref 336), (1, .int a), (2, .int b)] [.int (0 : Int32)] w1M _
      refine zs_if_neF (pc := 27) t301_27 li0 (by decide) ?_
      refine zs_ldc_w (pc := 30) t301_30 (v := -100000) rfl (by decide) ?_
      have w22 : (zI w1M 336 5).toInt = (zI M 336 5).toInt := (congrArg Int32.toInt ((w1F 336 5 rfl).trans rfl)).trans rfl
      have w23 := lin100000
      exact zs_iret (pc := 33) t301_33 mr301 (by decide) (hQ _ _ w1s w1I ((zFr.refl).trans (w1F.mono rfl)) (zPR.fr pR (w1F.eq rfl)) (zPC.fr pC (w1F.eq rfl)) w1PF (by omega))
  · refine zs_invS (pc := 14) (as := [.long a.toInt64, .long (0 : Int64), .long w3v.toInt64]) (st := []) t301_14 (by decide) mf228 rfl rfl ⟨by decide, by decide, Nat.le_of_ble_eq_true rfl, Nat.le_of_ble_eq_true rfl⟩ (K228F (zi2l rfl) ll0 (zi2l w3) (by omega) ?_) (fun _ _ q => q)
    show zGo X l 7 0 0 301 17 [(0, .ref 336), (1, .int a), (2, .int b)] [.int (0 : Int32)] w1M _
    refine zs_if_eqT (pc := 17) t301_17 li0 (by decide) ?_
    refine zs_ldc_w (pc := 30) t301_30 (v := -100000) rfl (by decide) ?_
    have w24 : (zI w1M 336 5).toInt = (zI M 336 5).toInt := (congrArg Int32.toInt ((w1F 336 5 rfl).trans rfl)).trans rfl
    have w25 := lin100000
    exact zs_iret (pc := 33) t301_33 mr301 (by decide) (hQ _ _ w1s w1I ((zFr.refl).trans (w1F.mono rfl)) (zPR.fr pR (w1F.eq rfl)) (zPC.fr pC (w1F.eq rfl)) w1PF (by omega))
theorem L266 {X : zX} {l : Launch} {M : zM} {Q : Option Value → zM → Prop} (hs : zSk zMm M) (hI : zIv mLo mHi M) (pR : zPR M) (pC : zPC M) (pF : zPF M) (hQ : ∀ (M' : zM) (v : Int32), zSk zMm M' → zIv mLo mHi M' → zFr [(336, 363, none)] M M' → zPR M' → zPC M' → zPF M' → ((zI M' 336 5).toInt = (zI M 336 5).toInt) → Q (some (.int v)) M') : zCall X l 8 0 0 266 [.ref 336] M Q := by
  refine zs_in (by decide) mf266 (Nat.le_of_ble_eq_true rfl) ?_
  show zGo X l 8 0 0 266 0 [(0, .ref 336)] [] M _
  refine zs_aload_n (pc := 0) t266_0 rfl ?_
  refine zs_get (pc := 1) t266_1 (by decide) (zk1 (hs.k fk_zMm_336)) (hs.p rfl fv_zMm_336_0) ?_
  refine zs_iconst (pc := 4) t266_4 (v := 3) (by decide) ?_
  have w1 := zrg (zI M 337 3)
  refine zs_iald (pc := 5) t266_5 (j := 3) (by decide) (zk1 (hs.k fk_zMm_337)) li3 (zk2 (hs.k fk_zMm_337) (by decide)) rfl ?_
  by_cases w2 : (zI M 337 3).toInt ≠ 0
  · refine zs_if_neT (pc := 6) t266_6 rfl (by omega) ?_
    refine zs_iconst (pc := 11) t266_11 (v := 0) (by decide) ?_
    refine zs_istore_n (pc := 12) t266_12 (ls' := [(1, .int (0 : Int32)), (0, .ref 336)]) (zml mf266 (by decide)) rfl ?_
    refine zs_iconst (pc := 13) t266_13 (v := 0) (by decide) ?_
    refine zs_istore_n (pc := 14) t266_14 (ls' := [(2, .int (0 : Int32)), (1, .int (0 : Int32)), (0, .ref 336)]) (zml mf266 (by decide)) rfl ?_
    have w3L : ∀ (m : Nat) (w3x1 : Int32) (w3x2 : Int32) (w3M : zM), (0 ≤ w3x1.toInt ∧ w3x1.toInt ≤ 59) → (0 ≤ w3x2.toInt ∧ w3x2.toInt ≤ 200) → zSk zMm w3M → zIv mLo mHi w3M → zFr [(344, 344, none), (349, 349, none), (350, 350, none), (343, 343, none), (345, 345, none), (346, 346, none), (347, 347, none), (348, 348, none), (336, 336, some 22), (336, 336, some 18), (336, 336, some 19), (336, 336, some 20), (336, 336, some 21), (351, 354, none), (358, 358, none), (336, 336, some 37), (356, 356, none), (355, 355, none), (343, 343, none), (344, 344, none), (336, 336, some 39), (359, 359, none), (336, 336, some 3), (342, 342, none)] M w3M → zPF w3M → (w3x1.toInt = zhp (fun i => zrow M 0 (306 + i)) (w3x2.toInt).toNat) → 200 - w3x2.toInt ≤ (m : Int) → zGo X l 8 0 0 266 15 [(0, .ref 336), (1, .int w3x1), (2, .int w3x2)] [] w3M Q := by
      intro m
      induction m using Nat.strongRecOn with
      | ind w3m w3ih =>
        intro w3x1 w3x2 w3M w3b1 w3b2 w3s w3I w3F w3PF w3t0 w3q
        refine zs_iload_n (pc := 15) t266_15 rfl ?_
        refine zs_aload_n (pc := 16) t266_16 rfl ?_
        refine zs_get (pc := 17) t266_17 (by decide) (zk1 (w3s.k fk_zMm_336)) (w3s.p rfl fv_zMm_336_0) ?_
        refine zs_iconst (pc := 20) t266_20 (v := 4) (by decide) ?_
        have w4 := ibA4 hI
        refine zs_iald (pc := 21) t266_21 (j := 4) (by decide) (zk1 (w3s.k fk_zMm_337)) li4 (zk2 (w3s.k fk_zMm_337) (by decide)) ((w3F 337 4 rfl).trans rfl) ?_
        by_cases w5 : (zI M 337 4).toInt ≤ w3x2.toInt
        · refine zs_icmp_geT (pc := 22) t266_22 rfl rfl (by omega) ?_
          refine zs_aload_n (pc := 142) t266_142 rfl ?_
          refine zs_get (pc := 143) t266_143 (by decide) (zk1 (w3s.k fk_zMm_336)) (w3s.p rfl fv_zMm_336_15) ?_
          refine zs_iconst (pc := 146) t266_146 (v := 0) (by decide) ?_
          have w6 := zrg (zI w3M 342 0)
          refine zs_iald (pc := 147) t266_147 (j := 0) (by decide) (zk1 (w3s.k fk_zMm_342)) li0 (zk2 (w3s.k fk_zMm_342) (by decide)) rfl ?_
          have w7 := ib336_5 hI
          have w8 : (zI w3M 336 5).toInt = (zI M 336 5).toInt := (congrArg Int32.toInt ((w3F 336 5 rfl).trans rfl)).trans rfl
          exact zs_iret (pc := 148) t266_148 mr266 rfl (hQ _ _ w3s w3I ((zFr.refl).trans (w3F.mono rfl)) (zPR.fr pR (w3F.eq rfl)) (zPC.fr pC (w3F.eq rfl)) w3PF (by omega))
        · refine zs_icmp_geF (pc := 22) t266_22 rfl rfl (by omega) ?_
          refine zs_aload_n (pc := 25) t266_25 rfl ?_
          refine zs_get (pc := 26) t266_26 (by decide) (zk1 (w3s.k fk_zMm_336)) (w3s.p rfl fv_zMm_336_0) ?_
          refine zs_sipush (pc := 29) t266_29 (v := 306) (by decide) ?_
          refine zs_iload_n (pc := 32) t266_32 rfl ?_
          obtain ⟨w9v, w9e, w9⟩ := ziadd (a := (306 : Int32)) (b := w3x2) li306 rfl (by omega) (by omega)
          refine zs_iadd (pc := 33) t266_33 (c := w9v) w9e ?_
          obtain ⟨w10n, w10⟩ : ∃ n : Nat, w3x2.toInt = (n : Int) := ⟨(w3x2.toInt).toNat, by omega⟩
          have w11 := zrg (zI M 337 (306 + w10n))
          have w12 : (zI w3M 337 4).toInt = (zI M 337 4).toInt := (congrArg Int32.toInt ((w3F 337 4 rfl).trans rfl)).trans rfl
          have w13 := zPC.at (n := w10n) pC (by omega)
          have w14 : zhp (fun i => zrow M 0 (306 + i)) w3x2.toInt.toNat = zhp (fun i => zrow M 0 (306 + i)) w10n := congrArg _ (by omega)
          refine zs_iald (pc := 34) t266_34 (j := (306 + w10n)) (by decide) (zk1 (w3s.k fk_zMm_337)) (show w9v.toInt = (((306 + w10n) : Nat) : Int) by omega) (zk2 (w3s.k fk_zMm_337) (by omega)) ((w3F 337 (306 + w10n) rfl).trans rfl) ?_
          refine zs_istore_n (pc := 35) t266_35 (ls' := [(3, .int (zI M 337 (306 + w10n))), (0, .ref 336), (1, .int w3x1), (2, .int w3x2)]) (zml mf266 (by decide)) rfl ?_
          refine zs_iload_n (pc := 36) t266_36 rfl ?_
          refine zs_sipush (pc := 37) t266_37 (v := 20000) (by decide) ?_
          by_cases w15 : 20000 ≤ (zI M 337 (306 + w10n)).toInt
          · refine zs_icmp_geT (pc := 40) t266_40 rfl li20000 (by omega) ?_
            refine zs_iload_n (pc := 75) t266_75 rfl ?_
            refine zs_sipush (pc := 76) t266_76 (v := 20033) (by decide) ?_
            by_cases w16 : (zI M 337 (306 + w10n)).toInt ≠ 20033
            · refine zs_icmp_neT (pc := 79) t266_79 rfl li20033 (by omega) ?_
              obtain ⟨w17v, w17e, w17⟩ := ziadd (a := w3x1) (b := Int32.ofInt (-1)) rfl (show (Int32.ofInt (-1)).toInt = (-1) by decide) (by omega) (by omega)
              refine zs_iinc (pc := 103) t266_103 (ls' := [(1, .int w17v), (3, .int (zI M 337 (306 + w10n))), (0, .ref 336), (2, .int w3x2)]) (zml mf266 (by decide)) rfl (c := w17v) w17e rfl ?_
              refine zs_aload_n (pc := 106) t266_106 rfl ?_
              refine zs_get (pc := 107) t266_107 (by decide) (zk1 (w3s.k fk_zMm_336)) (w3s.p rfl fv_zMm_336_15) ?_
              refine zs_iload_n (pc := 110) t266_110 rfl ?_
              refine zs_iconst (pc := 111) t266_111 (v := 1) (by decide) ?_
              obtain ⟨w18v, w18e, w18⟩ := zisub (a := w17v) (b := (1 : Int32)) w17 li1 (by omega) (by omega)
              refine zs_isub (pc := 112) t266_112 (c := w18v) w18e ?_
              refine zs_iload_n (pc := 113) t266_113 rfl ?_
              refine zs_sipush (pc := 114) t266_114 (v := 20000) (by decide) ?_
              obtain ⟨w19v, w19e, w19⟩ := zisub (a := (zI M 337 (306 + w10n))) (b := (20000 : Int32)) rfl li20000 (by omega) (by omega)
              refine zs_isub (pc := 117) t266_117 (c := w19v) w19e ?_
              refine zs_aload_n (pc := 118) t266_118 rfl ?_
              refine zs_get (pc := 119) t266_119 (by decide) (zk1 (w3s.k fk_zMm_336)) (w3s.p rfl fv_zMm_336_15) ?_
              refine zs_iload_n (pc := 122) t266_122 rfl ?_
              refine zs_iconst (pc := 123) t266_123 (v := 1) (by decide) ?_
              obtain ⟨w20v, w20e, w20⟩ := zisub (a := w17v) (b := (1 : Int32)) w17 li1 (by omega) (by omega)
              refine zs_isub (pc := 124) t266_124 (c := w20v) w20e ?_
              obtain ⟨w21n, w21⟩ : ∃ n : Nat, w20v.toInt = (n : Int) := ⟨w20v.toInt.toNat, by omega⟩
              have w22 := zrg (zI w3M 342 w21n)
              refine zs_iald (pc := 125) t266_125 (j := w21n) (by decide) (zk1 (w3s.k fk_zMm_342)) w21 (zk2 (w3s.k fk_zMm_342) (by omega)) rfl ?_
              refine zs_aload_n (pc := 126) t266_126 rfl ?_
              refine zs_get (pc := 127) t266_127 (by decide) (zk1 (w3s.k fk_zMm_336)) (w3s.p rfl fv_zMm_336_15) ?_
              refine zs_iload_n (pc := 130) t266_130 rfl ?_
              obtain ⟨w23n, w23⟩ : ∃ n : Nat, w17v.toInt = (n : Int) := ⟨w17v.toInt.toNat, by omega⟩
              have w24 := zrg (zI w3M 342 w23n)
              refine zs_iald (pc := 131) t266_131 (j := w23n) (by decide) (zk1 (w3s.k fk_zMm_342)) w23 (zk2 (w3s.k fk_zMm_342) (by omega)) rfl ?_
              refine zs_invS (pc := 132) (as := [.int w19v, .int (zI w3M 342 w21n), .int (zI w3M 342 w23n)]) (st := [.int w18v, .ref 342]) t266_132 (by decide) mf294 rfl rfl ⟨by decide, by decide, Nat.le_of_ble_eq_true rfl, Nat.le_of_ble_eq_true rfl⟩ (K294 w3s w3I ?_) (fun _ _ q => q)
              intro w25v
              have w25g := zrg w25v
              show zGo X l 8 0 0 266 135 [(1, .int w17v), (3, .int (zI M 337 (306 + w10n))), (0, .ref 336), (2, .int w3x2)] [.int w25v, .int w18v, .ref 342] w3M _
              obtain ⟨w26n, w26⟩ : ∃ n : Nat, w18v.toInt = (n : Int) := ⟨w18v.toInt.toNat, by omega⟩
              have w27 : zIv mLo mHi (zsI w3M 342 w26n w25v) := zIv.put w3I (show (-2147483648) ≤ w25v.toInt ∧ w25v.toInt ≤ 2147483647 from zrg w25v)
              refine zs_iast (pc := 135) t266_135 (j := w26n) (by decide) (zk1 (w3s.k fk_zMm_342)) w26 (zk2 (w3s.k fk_zMm_342) (by omega)) ?_
              obtain ⟨w28v, w28e, w28⟩ := ziadd (a := w3x2) (b := Int32.ofInt 1) rfl (show (Int32.ofInt 1).toInt = 1 by decide) (by omega) (by omega)
              refine zs_iinc (pc := 136) t266_136 (ls' := [(2, .int w28v), (1, .int w17v), (3, .int (zI M 337 (306 + w10n))), (0, .ref 336)]) (zml mf266 (by decide)) rfl (c := w28v) w28e rfl ?_
              refine zs_goto (pc := 139) t266_139 ?_
              refine zGo.locals (ls' := [(0, .ref 336), (1, .int w17v), (2, .int w28v)]) (by simp) ?_
              have w29 := w17
              have w30 := w28
              exact w3ih (w3m - 1) (by omega) w17v w28v (zsI w3M 342 w26n w25v) ⟨by omega, by omega⟩ ⟨by omega, by omega⟩ w3s w27 (((zFr.refl).trans (w3F.mono rfl)).put rfl) (zPF.fr (M' := (zsI w3M 342 w26n w25v)) w3PF (zEq.put rfl) rfl) (by rw [show w28v.toInt.toNat = w10n + 1 by omega]; omega) (by omega)
            · refine zs_icmp_neF (pc := 79) t266_79 rfl li20033 (by omega) ?_
              refine zs_aload_n (pc := 82) t266_82 rfl ?_
              refine zs_get (pc := 83) t266_83 (by decide) (zk1 (w3s.k fk_zMm_336)) (w3s.p rfl fv_zMm_336_15) ?_
              refine zs_iload_n (pc := 86) t266_86 rfl ?_
              refine zs_iconst (pc := 87) t266_87 (v := 1) (by decide) ?_
              obtain ⟨w31v, w31e, w31⟩ := zisub (a := w3x1) (b := (1 : Int32)) rfl li1 (by omega) (by omega)
              refine zs_isub (pc := 88) t266_88 (c := w31v) w31e ?_
              refine zs_iconst (pc := 89) t266_89 (v := 1) (by decide) ?_
              refine zs_aload_n (pc := 90) t266_90 rfl ?_
              refine zs_get (pc := 91) t266_91 (by decide) (zk1 (w3s.k fk_zMm_336)) (w3s.p rfl fv_zMm_336_15) ?_
              refine zs_iload_n (pc := 94) t266_94 rfl ?_
              refine zs_iconst (pc := 95) t266_95 (v := 1) (by decide) ?_
              obtain ⟨w32v, w32e, w32⟩ := zisub (a := w3x1) (b := (1 : Int32)) rfl li1 (by omega) (by omega)
              refine zs_isub (pc := 96) t266_96 (c := w32v) w32e ?_
              obtain ⟨w33n, w33⟩ : ∃ n : Nat, w32v.toInt = (n : Int) := ⟨w32v.toInt.toNat, by omega⟩
              have w34 := zrg (zI w3M 342 w33n)
              refine zs_iald (pc := 97) t266_97 (j := w33n) (by decide) (zk1 (w3s.k fk_zMm_342)) w33 (zk2 (w3s.k fk_zMm_342) (by omega)) rfl ?_
              obtain ⟨w35v, w35⟩ : ∃ v, v = (1 : Int32) - (zI w3M 342 w33n) := ⟨_, rfl⟩
              have w35g := zrg w35v
              refine zs_isub (pc := 98) t266_98 (c := w35v) w35.symm ?_
              obtain ⟨w36n, w36⟩ : ∃ n : Nat, w31v.toInt = (n : Int) := ⟨w31v.toInt.toNat, by omega⟩
              have w37 : zIv mLo mHi (zsI w3M 342 w36n w35v) := zIv.put w3I (show (-2147483648) ≤ w35v.toInt ∧ w35v.toInt ≤ 2147483647 from zrg w35v)
              refine zs_iast (pc := 99) t266_99 (j := w36n) (by decide) (zk1 (w3s.k fk_zMm_342)) w36 (zk2 (w3s.k fk_zMm_342) (by omega)) ?_
              refine zs_goto (pc := 100) t266_100 ?_
              obtain ⟨w38v, w38e, w38⟩ := ziadd (a := w3x2) (b := Int32.ofInt 1) rfl (show (Int32.ofInt 1).toInt = 1 by decide) (by omega) (by omega)
              refine zs_iinc (pc := 136) t266_136 (ls' := [(2, .int w38v), (3, .int (zI M 337 (306 + w10n))), (0, .ref 336), (1, .int w3x1)]) (zml mf266 (by decide)) rfl (c := w38v) w38e rfl ?_
              refine zs_goto (pc := 139) t266_139 ?_
              refine zGo.locals (ls' := [(0, .ref 336), (1, .int w3x1), (2, .int w38v)]) (by simp) ?_
              have w39 := w38
              exact w3ih (w3m - 1) (by omega) w3x1 w38v (zsI w3M 342 w36n w35v) ⟨by omega, by omega⟩ ⟨by omega, by omega⟩ w3s w37 (((zFr.refl).trans (w3F.mono rfl)).put rfl) (zPF.fr (M' := (zsI w3M 342 w36n w35v)) w3PF (zEq.put rfl) rfl) (by rw [show w38v.toInt.toNat = w10n + 1 by omega]; omega) (by omega)
          · refine zs_icmp_geF (pc := 40) t266_40 rfl li20000 (by omega) ?_
            refine zs_aload_n (pc := 43) t266_43 rfl ?_
            refine zs_get (pc := 44) t266_44 (by decide) (zk1 (w3s.k fk_zMm_336)) (w3s.p rfl fv_zMm_336_15) ?_
            refine zs_iload_n (pc := 47) t266_47 rfl ?_
            refine zs_iload_n (pc := 48) t266_48 rfl ?_
            refine zs_sipush (pc := 49) t266_49 (v := 10000) (by decide) ?_
            by_cases w40 : 10000 ≤ (zI M 337 (306 + w10n)).toInt
            · refine zs_icmp_geT (pc := 52) t266_52 rfl li10000 (by omega) ?_
              refine zs_aload_n (pc := 59) t266_59 rfl ?_
              refine zs_iload_n (pc := 60) t266_60 rfl ?_
              refine zs_sipush (pc := 61) t266_61 (v := 10000) (by decide) ?_
              obtain ⟨w41v, w41e, w41⟩ := zisub (a := (zI M 337 (306 + w10n))) (b := (10000 : Int32)) rfl li10000 (by omega) (by omega)
              refine zs_isub (pc := 64) t266_64 (c := w41v) w41e ?_
              refine zs_invV (pc := 65) (k := 336) (as' := [.int w41v]) (st := [.int w3x1, .ref 342]) t266_65 mf267 rfl rfl (Or.inl ⟨by decide, (zk1 (w3s.k fk_zMm_336))⟩) ⟨by decide, by decide, Nat.le_of_ble_eq_true rfl, Nat.le_of_ble_eq_true rfl⟩ (K267 w3s w3I (zPR.fr pR (w3F.eq rfl)) w3PF ?_) (fun _ _ q => q)
              intro w42M w42v w42s w42I w42F w42PF w42PD w42PV
              have w42g := zrg w42v
              show zGo X l 8 0 0 266 68 [(3, .int (zI M 337 (306 + w10n))), (0, .ref 336), (1, .int w3x1), (2, .int w3x2)] [.int w42v, .int w3x1, .ref 342] w42M _
              obtain ⟨w43n, w43⟩ : ∃ n : Nat, w3x1.toInt = (n : Int) := ⟨(w3x1.toInt).toNat, by omega⟩
              have w44 : zIv mLo mHi (zsI w42M 342 w43n w42v) := zIv.put w42I (show (-2147483648) ≤ w42v.toInt ∧ w42v.toInt ≤ 2147483647 from zrg w42v)
              refine zs_iast (pc := 68) t266_68 (j := w43n) (by decide) (zk1 (w42s.k fk_zMm_342)) (show w3x1.toInt = ((w43n : Nat) : Int) by omega) (zk2 (w42s.k fk_zMm_342) (by omega)) ?_
              obtain ⟨w45v, w45e, w45⟩ := ziadd (a := w3x1) (b := Int32.ofInt 1) rfl (show (Int32.ofInt 1).toInt = 1 by decide) (by omega) (by omega)
              refine zs_iinc (pc := 69) t266_69 (ls' := [(1, .int w45v), (3, .int (zI M 337 (306 + w10n))), (0, .ref 336), (2, .int w3x2)]) (zml mf266 (by decide)) rfl (c := w45v) w45e rfl ?_
              refine zs_goto (pc := 72) t266_72 ?_
              obtain ⟨w46v, w46e, w46⟩ := ziadd (a := w3x2) (b := Int32.ofInt 1) rfl (show (Int32.ofInt 1).toInt = 1 by decide) (by omega) (by omega)
              refine zs_iinc (pc := 136) t266_136 (ls' := [(2, .int w46v), (1, .int w45v), (3, .int (zI M 337 (306 + w10n))), (0, .ref 336)]) (zml mf266 (by decide)) rfl (c := w46v) w46e rfl ?_
              refine zs_goto (pc := 139) t266_139 ?_
              refine zGo.locals (ls' := [(0, .ref 336), (1, .int w45v), (2, .int w46v)]) (by simp) ?_
              have w47 := w45
              have w48 := w46
              exact w3ih (w3m - 1) (by omega) w45v w46v (zsI w42M 342 w43n w42v) ⟨by omega, by omega⟩ ⟨by omega, by omega⟩ w42s w44 ((((zFr.refl).trans (w3F.mono rfl)).trans (w42F.mono rfl)).put rfl) (zPF.fr (M' := (zsI w42M 342 w43n w42v)) w42PF (zEq.put rfl) rfl) (by rw [show w46v.toInt.toNat = w10n + 1 by omega]; omega) (by omega)
            · refine zs_icmp_geF (pc := 52) t266_52 rfl li10000 (by omega) ?_
              refine zs_iload_n (pc := 55) t266_55 rfl ?_
              refine zs_goto (pc := 56) t266_56 ?_
              obtain ⟨w49n, w49⟩ : ∃ n : Nat, w3x1.toInt = (n : Int) := ⟨(w3x1.toInt).toNat, by omega⟩
              have w50 : zIv mLo mHi (zsI w3M 342 w49n (zI M 337 (306 + w10n))) := zIv.put w3I (show (-2147483648) ≤ (zI M 337 (306 + w10n)).toInt ∧ (zI M 337 (306 + w10n)).toInt ≤ 2147483647 from zrg (zI M 337 (306 + w10n)))
              refine zs_iast (pc := 68) t266_68 (j := w49n) (by decide) (zk1 (w3s.k fk_zMm_342)) (show w3x1.toInt = ((w49n : Nat) : Int) by omega) (zk2 (w3s.k fk_zMm_342) (by omega)) ?_
              obtain ⟨w51v, w51e, w51⟩ := ziadd (a := w3x1) (b := Int32.ofInt 1) rfl (show (Int32.ofInt 1).toInt = 1 by decide) (by omega) (by omega)
              refine zs_iinc (pc := 69) t266_69 (ls' := [(1, .int w51v), (3, .int (zI M 337 (306 + w10n))), (0, .ref 336), (2, .int w3x2)]) (zml mf266 (by decide)) rfl (c := w51v) w51e rfl ?_
              refine zs_goto (pc := 72) t266_72 ?_
              obtain ⟨w52v, w52e, w52⟩ := ziadd (a := w3x2) (b := Int32.ofInt 1) rfl (show (Int32.ofInt 1).toInt = 1 by decide) (by omega) (by omega)
              refine zs_iinc (pc := 136) t266_136 (ls' := [(2, .int w52v), (1, .int w51v), (3, .int (zI M 337 (306 + w10n))), (0, .ref 336)]) (zml mf266 (by decide)) rfl (c := w52v) w52e rfl ?_
              refine zs_goto (pc := 139) t266_139 ?_
              refine zGo.locals (ls' := [(0, .ref 336), (1, .int w51v), (2, .int w52v)]) (by simp) ?_
              have w53 := w51
              have w54 := w52
              exact w3ih (w3m - 1) (by omega) w51v w52v (zsI w3M 342 w49n (zI M 337 (306 + w10n))) ⟨by omega, by omega⟩ ⟨by omega, by omega⟩ w3s w50 (((zFr.refl).trans (w3F.mono rfl)).put rfl) (zPF.fr (M' := (zsI w3M 342 w49n (zI M 337 (306 + w10n)))) w3PF (zEq.put rfl) rfl) (by rw [show w52v.toInt.toNat = w10n + 1 by omega]; omega) (by omega)
    refine zGo.locals (ls' := [(0, .ref 336), (1, .int (0 : Int32)), (2, .int (0 : Int32))]) (by simp) ?_
    have w55 := li0
    have w56 := li0
    exact w3L ((200 - 0 : Int).toNat) (0 : Int32) (0 : Int32) M ⟨by decide, by decide⟩ ⟨by decide, by decide⟩ hs hI zFr.refl pF rfl (by omega)
  · refine zs_if_neF (pc := 6) t266_6 rfl (by omega) ?_
    refine zs_iconst (pc := 9) t266_9 (v := 0) (by decide) ?_
    have w57 := ib336_5 hI
    have w58 : (zI M 336 5).toInt = (zI M 336 5).toInt := (congrArg Int32.toInt rfl).trans rfl
    have w59 := li0
    exact zs_iret (pc := 10) t266_10 mr266 (by decide) (hQ _ _ hs hI (zFr.refl) pR pC pF (by omega))
theorem L295 {X : zX} {l : Launch} {M : zM} {Q : Option Value → zM → Prop} {a : Int32} (hs : zSk zMm M) (hI : zIv mLo mHi M) (pR : zPR M) (pC : zPC M) (pF : zPF M) (hQ : ∀ (M' : zM) (v : Int32), zSk zMm M' → zIv mLo mHi M' → zFr [(336, 363, none)] M M' → zPR M' → zPC M' → zPF M' → ((zI M' 336 5).toInt = (zI M 336 5).toInt) → Q (some (.int v)) M') : zCall X l 8 0 0 295 [.ref 336, .int a] M Q := by
  have ga := zrg a
  refine zs_in (by decide) mf295 (Nat.le_of_ble_eq_true rfl) ?_
  show zGo X l 8 0 0 295 0 [(0, .ref 336), (1, .int a)] [] M _
  refine zs_iload_n (pc := 0) t295_0 rfl ?_
  refine zs_invS (pc := 1) (as := [.int a]) (st := []) t295_1 (by decide) mf260 rfl rfl ⟨by decide, by decide, Nat.le_of_ble_eq_true rfl, Nat.le_of_ble_eq_true rfl⟩ (K260 hs hI ?_) (fun _ _ q => q)
  intro w1v  w1a w1b
  show zGo X l 8 0 0 295 4 [(0, .ref 336), (1, .int a)] [.int w1v] M _
  refine zs_iconst (pc := 4) t295_4 (v := -1) (by decide) ?_
  by_cases w2 : w1v.toInt ≠ (-1)
  · refine zs_icmp_neT (pc := 5) t295_5 rfl lin1 (by omega) ?_
    refine zs_aload_n (pc := 12) t295_12 rfl ?_
    refine zs_iload_n (pc := 13) t295_13 rfl ?_
    refine zs_invS (pc := 14) (as := [.int a]) (st := [.ref 336]) t295_14 (by decide) mf260 rfl rfl ⟨by decide, by decide, Nat.le_of_ble_eq_true rfl, Nat.le_of_ble_eq_true rfl⟩ (K260 hs hI ?_) (fun _ _ q => q)
    intro w3v  w3a w3b
    show zGo X l 8 0 0 295 17 [(0, .ref 336), (1, .int a)] [.int w3v, .ref 336] M _
    refine zs_invV (pc := 17) (k := 336) (as' := [.int w3v]) (st := []) t295_17 mf267 rfl rfl (Or.inl ⟨by decide, (zk1 (hs.k fk_zMm_336))⟩) ⟨by decide, by decide, Nat.le_of_ble_eq_true rfl, Nat.le_of_ble_eq_true rfl⟩ (K267 hs hI pR pF ?_) (fun _ _ q => q)
    intro w4M w4v w4s w4I w4F w4PF w4PD w4PV
    have w4g := zrg w4v
    show zGo X l 8 0 0 295 20 [(0, .ref 336), (1, .int a)] [.int w4v] w4M _
    have w5 := ib336_5 hI
    have w6 : (zI w4M 336 5).toInt = (zI M 336 5).toInt := (congrArg Int32.toInt ((w4F 336 5 rfl).trans rfl)).trans rfl
    exact zs_iret (pc := 20) t295_20 mr295 rfl (hQ _ _ w4s w4I ((zFr.refl).trans (w4F.mono rfl)) (zPR.fr pR (w4F.eq rfl)) (zPC.fr pC (w4F.eq rfl)) w4PF (by omega))
  · refine zs_icmp_neF (pc := 5) t295_5 rfl lin1 (by omega) ?_
    refine zs_iconst (pc := 8) t295_8 (v := -1) (by decide) ?_
    refine zs_goto (pc := 9) t295_9 ?_
    have w7 := ib336_5 hI
    have w8 : (zI M 336 5).toInt = (zI M 336 5).toInt := (congrArg Int32.toInt rfl).trans rfl
    have w9 := lin1
    exact zs_iret (pc := 20) t295_20 mr295 (by decide) (hQ _ _ hs hI (zFr.refl) pR pC pF (by omega))
theorem L323 {X : zX} {l : Launch} {M : zM} {Q : Option Value → zM → Prop} {a b c d e : Int32} (hs : zSk zMm M) (hI : zIv mLo mHi M) (pR : zPR M) (pC : zPC M) (pF : zPF M) (hQ : ∀ (M' : zM) (v : Int32), zSk zMm M' → zIv mLo mHi M' → zFr [(336, 363, none)] M M' → zPR M' → zPC M' → zPF M' → ((zI M' 336 5).toInt = (zI M 336 5).toInt) → Q (some (.int v)) M') : zCall X l 9 0 0 323 [.ref 336, .int a, .int b, .int c, .int d, .int e] M Q := by
  have ga := zrg a
  have gb := zrg b
  have gc := zrg c
  have gd := zrg d
  have ge := zrg e
  refine zs_in (by decide) mf323 (Nat.le_of_ble_eq_true rfl) ?_
  show zGo X l 9 0 0 323 0 [(0, .ref 336), (1, .int a), (2, .int b), (3, .int c), (4, .int d), (5, .int e)] [] M _
  refine zs_iload_n (pc := 0) t323_0 rfl ?_
  refine zs_iload_n (pc := 1) t323_1 rfl ?_
  refine zs_iload_n (pc := 2) t323_2 rfl ?_
  refine zs_iload (pc := 3) t323_3 rfl ?_
  refine zs_invS (pc := 5) (as := [.int a, .int b, .int c, .int d]) (st := []) t323_5 (by decide) mf324 rfl rfl ⟨by decide, by decide, Nat.le_of_ble_eq_true rfl, Nat.le_of_ble_eq_true rfl⟩ (zs_in (by decide) mf324 (Nat.le_of_ble_eq_true rfl) ?_) (fun _ _ q => q)
  show zGo X l 1 0 0 324 0 [(0, .int a), (1, .int b), (2, .int c), (3, .int d)] [] M _
  refine zs_iload_n (pc := 0) t324_0 rfl ?_
  refine zs_i2l (pc := 1) t324_1 rfl ?_
  refine zs_lconst (pc := 2) t324_2 (v := 1) (by decide) ?_
  refine zs_ldc2_w (pc := 3) t324_3 (v := 200) (by decide) ?_
  by_cases w1 : 1 ≤ a.toInt ∧ a.toInt ≤ 200
  · refine zs_invS (pc := 6) (as := [.long a.toInt64, .long (1 : Int64), .long (200 : Int64)]) (st := []) t324_6 (by decide) mf228 rfl rfl ⟨by decide, by decide, Nat.le_of_ble_eq_true rfl, Nat.le_of_ble_eq_true rfl⟩ (K228T (zi2l rfl) ll1 ll200 (by omega) ?_) (fun _ _ q => q)
    show zGo X l 1 0 0 324 9 [(0, .int a), (1, .int b), (2, .int c), (3, .int d)] [.int (1 : Int32)] M _
    refine zs_if_eqF (pc := 9) t324_9 li1 (by decide) ?_
    refine zs_iload_n (pc := 12) t324_12 rfl ?_
    refine zs_i2l (pc := 13) t324_13 rfl ?_
    refine zs_lconst (pc := 14) t324_14 (v := 1) (by decide) ?_
    refine zs_ldc2_w (pc := 15) t324_15 (v := 999) (by decide) ?_
    by_cases w2 : 1 ≤ b.toInt ∧ b.toInt ≤ 999
    · refine zs_invS (pc := 18) (as := [.long b.toInt64, .long (1 : Int64), .long (999 : Int64)]) (st := []) t324_18 (by decide) mf228 rfl rfl ⟨by decide, by decide, Nat.le_of_ble_eq_true rfl, Nat.le_of_ble_eq_true rfl⟩ (K228T (zi2l rfl) ll1 ll999 (by omega) ?_) (fun _ _ q => q)
      show zGo X l 1 0 0 324 21 [(0, .int a), (1, .int b), (2, .int c), (3, .int d)] [.int (1 : Int32)] M _
      refine zs_if_eqF (pc := 21) t324_21 li1 (by decide) ?_
      refine zs_iload_n (pc := 24) t324_24 rfl ?_
      refine zs_i2l (pc := 25) t324_25 rfl ?_
      refine zs_lconst (pc := 26) t324_26 (v := 1) (by decide) ?_
      refine zs_ldc2_w (pc := 27) t324_27 (v := 8) (by decide) ?_
      by_cases w3 : 1 ≤ c.toInt ∧ c.toInt ≤ 8
      · refine zs_invS (pc := 30) (as := [.long c.toInt64, .long (1 : Int64), .long (8 : Int64)]) (st := []) t324_30 (by decide) mf228 rfl rfl ⟨by decide, by decide, Nat.le_of_ble_eq_true rfl, Nat.le_of_ble_eq_true rfl⟩ (K228T (zi2l rfl) ll1 ll8 (by omega) ?_) (fun _ _ q => q)
        show zGo X l 1 0 0 324 33 [(0, .int a), (1, .int b), (2, .int c), (3, .int d)] [.int (1 : Int32)] M _
        refine zs_if_eqF (pc := 33) t324_33 li1 (by decide) ?_
        refine zs_iload_n (pc := 36) t324_36 rfl ?_
        refine zs_i2l (pc := 37) t324_37 rfl ?_
        refine zs_lconst (pc := 38) t324_38 (v := 0) (by decide) ?_
        refine zs_ldc2_w (pc := 39) t324_39 (v := 50) (by decide) ?_
        by_cases w4 : 0 ≤ d.toInt ∧ d.toInt ≤ 50
        · refine zs_invS (pc := 42) (as := [.long d.toInt64, .long (0 : Int64), .long (50 : Int64)]) (st := []) t324_42 (by decide) mf228 rfl rfl ⟨by decide, by decide, Nat.le_of_ble_eq_true rfl, Nat.le_of_ble_eq_true rfl⟩ (K228T (zi2l rfl) ll0 ll50 (by omega) ?_) (fun _ _ q => q)
          show zGo X l 1 0 0 324 45 [(0, .int a), (1, .int b), (2, .int c), (3, .int d)] [.int (1 : Int32)] M _
          refine zs_if_eqF (pc := 45) t324_45 li1 (by decide) ?_
          refine zs_iconst (pc := 48) t324_48 (v := 1) (by decide) ?_
          refine zs_goto (pc := 49) t324_49 ?_
          refine zs_iret (pc := 53) t324_53 mr324 (by decide) ?_
          show zGo X l 9 0 0 323 8 [(0, .ref 336), (1, .int a), (2, .int b), (3, .int c), (4, .int d), (5, .int e)] [.int (1 : Int32)] M _
          refine zs_if_eqF (pc := 8) t323_8 li1 (by decide) ?_
          refine zs_iload (pc := 11) t323_11 rfl ?_
          refine zs_i2l (pc := 13) t323_13 rfl ?_
          refine zs_lconst (pc := 14) t323_14 (v := 0) (by decide) ?_
          refine zs_ldc2_w (pc := 15) t323_15 (v := 3) (by decide) ?_
          by_cases w5 : 0 ≤ e.toInt ∧ e.toInt ≤ 3
          · refine zs_invS (pc := 18) (as := [.long e.toInt64, .long (0 : Int64), .long (3 : Int64)]) (st := []) t323_18 (by decide) mf228 rfl rfl ⟨by decide, by decide, Nat.le_of_ble_eq_true rfl, Nat.le_of_ble_eq_true rfl⟩ (K228T (zi2l rfl) ll0 ll3 (by omega) ?_) (fun _ _ q => q)
            show zGo X l 9 0 0 323 21 [(0, .ref 336), (1, .int a), (2, .int b), (3, .int c), (4, .int d), (5, .int e)] [.int (1 : Int32)] M _
            refine zs_if_neT (pc := 21) t323_21 li1 (by decide) ?_
            refine zs_aload_n (pc := 26) t323_26 rfl ?_
            refine zs_iload_n (pc := 27) t323_27 rfl ?_
            refine zs_iload_n (pc := 28) t323_28 rfl ?_
            refine zs_iload_n (pc := 29) t323_29 rfl ?_
            refine zs_iload (pc := 30) t323_30 rfl ?_
            refine zs_invV (pc := 32) (k := 336) (as' := [.int a, .int b, .int c, .int d]) (st := []) t323_32 mf325 rfl rfl (Or.inl ⟨by decide, (zk1 (hs.k fk_zMm_336))⟩) ⟨by decide, by decide, Nat.le_of_ble_eq_true rfl, Nat.le_of_ble_eq_true rfl⟩ (K325 hs hI pR pF ⟨by omega, by omega⟩ ⟨by omega, by omega⟩ ⟨by omega, by omega⟩ ⟨by omega, by omega⟩ ?_) (fun _ _ q => q)
            intro w6M w6s w6I w6F w6PF
            show zGo X l 9 0 0 323 35 [(0, .ref 336), (1, .int a), (2, .int b), (3, .int c), (4, .int d), (5, .int e)] [] w6M _
            refine zs_iload (pc := 35) t323_35 rfl ?_
            by_cases w7 : e.toInt ≠ 0
            · refine zs_if_neT (pc := 37) t323_37 rfl (by omega) ?_
              refine zs_iload (pc := 47) t323_47 rfl ?_
              refine zs_iconst (pc := 49) t323_49 (v := 1) (by decide) ?_
              by_cases w8 : e.toInt ≠ 1
              · refine zs_icmp_neT (pc := 50) t323_50 rfl li1 (by omega) ?_
                refine zs_iload (pc := 60) t323_60 rfl ?_
                refine zs_iconst (pc := 62) t323_62 (v := 2) (by decide) ?_
                by_cases w9 : e.toInt ≠ 2
                · refine zs_icmp_neT (pc := 63) t323_63 rfl li2 (by omega) ?_
                  refine zs_aload_n (pc := 73) t323_73 rfl ?_
                  have w10 := zrg (zI w6M 336 45)
                  refine zs_get (pc := 74) t323_74 (by decide) (zk1 (w6s.k fk_zMm_336)) (zfvi rfl rfl) ?_
                  have w11 := ib336_5 hI
                  have w12 : (zI w6M 336 5).toInt = (zI M 336 5).toInt := (congrArg Int32.toInt ((w6F 336 5 rfl).trans rfl)).trans rfl
                  exact zs_iret (pc := 77) t323_77 mr323 rfl (hQ _ _ w6s w6I ((zFr.refl).trans (w6F.mono rfl)) (zPR.fr pR (w6F.eq rfl)) (zPC.fr pC (w6F.eq rfl)) w6PF (by omega))
                · refine zs_icmp_neF (pc := 63) t323_63 rfl li2 (by omega) ?_
                  refine zs_aload_n (pc := 66) t323_66 rfl ?_
                  have w13 := zrg (zI w6M 336 44)
                  refine zs_get (pc := 67) t323_67 (by decide) (zk1 (w6s.k fk_zMm_336)) (zfvi rfl rfl) ?_
                  refine zs_goto (pc := 70) t323_70 ?_
                  have w14 : (zI w6M 336 5).toInt = (zI M 336 5).toInt := (congrArg Int32.toInt ((w6F 336 5 rfl).trans rfl)).trans rfl
                  exact zs_iret (pc := 77) t323_77 mr323 rfl (hQ _ _ w6s w6I ((zFr.refl).trans (w6F.mono rfl)) (zPR.fr pR (w6F.eq rfl)) (zPC.fr pC (w6F.eq rfl)) w6PF (by omega))
              · refine zs_icmp_neF (pc := 50) t323_50 rfl li1 (by omega) ?_
                refine zs_aload_n (pc := 53) t323_53 rfl ?_
                have w15 := zrg (zI w6M 336 43)
                refine zs_get (pc := 54) t323_54 (by decide) (zk1 (w6s.k fk_zMm_336)) (zfvi rfl rfl) ?_
                refine zs_goto (pc := 57) t323_57 ?_
                have w16 : (zI w6M 336 5).toInt = (zI M 336 5).toInt := (congrArg Int32.toInt ((w6F 336 5 rfl).trans rfl)).trans rfl
                exact zs_iret (pc := 77) t323_77 mr323 rfl (hQ _ _ w6s w6I ((zFr.refl).trans (w6F.mono rfl)) (zPR.fr pR (w6F.eq rfl)) (zPC.fr pC (w6F.eq rfl)) w6PF (by omega))
            · refine zs_if_neF (pc := 37) t323_37 rfl (by omega) ?_
              refine zs_aload_n (pc := 40) t323_40 rfl ?_
              have w17 := zrg (zI w6M 336 42)
              refine zs_get (pc := 41) t323_41 (by decide) (zk1 (w6s.k fk_zMm_336)) (zfvi rfl rfl) ?_
              refine zs_goto (pc := 44) t323_44 ?_
              have w18 : (zI w6M 336 5).toInt = (zI M 336 5).toInt := (congrArg Int32.toInt ((w6F 336 5 rfl).trans rfl)).trans rfl
              exact zs_iret (pc := 77) t323_77 mr323 rfl (hQ _ _ w6s w6I ((zFr.refl).trans (w6F.mono rfl)) (zPR.fr pR (w6F.eq rfl)) (zPC.fr pC (w6F.eq rfl)) w6PF (by omega))
          · refine zs_invS (pc := 18) (as := [.long e.toInt64, .long (0 : Int64), .long (3 : Int64)]) (st := []) t323_18 (by decide) mf228 rfl rfl ⟨by decide, by decide, Nat.le_of_ble_eq_true rfl, Nat.le_of_ble_eq_true rfl⟩ (K228F (zi2l rfl) ll0 ll3 (by omega) ?_) (fun _ _ q => q)
            show zGo X l 9 0 0 323 21 [(0, .ref 336), (1, .int a), (2, .int b), (3, .int c), (4, .int d), (5, .int e)] [.int (0 : Int32)] M _
            refine zs_if_neF (pc := 21) t323_21 li0 (by decide) ?_
            refine zs_iconst (pc := 24) t323_24 (v := -1) (by decide) ?_
            have w19 := ib336_5 hI
            have w20 : (zI M 336 5).toInt = (zI M 336 5).toInt := (congrArg Int32.toInt rfl).trans rfl
            have w21 := lin1
            exact zs_iret (pc := 25) t323_25 mr323 (by decide) (hQ _ _ hs hI (zFr.refl) pR pC pF (by omega))
        · refine zs_invS (pc := 42) (as := [.long d.toInt64, .long (0 : Int64), .long (50 : Int64)]) (st := []) t324_42 (by decide) mf228 rfl rfl ⟨by decide, by decide, Nat.le_of_ble_eq_true rfl, Nat.le_of_ble_eq_true rfl⟩ (K228F (zi2l rfl) ll0 ll50 (by omega) ?_) (fun _ _ q => q)
          show zGo X l 1 0 0 324 45 [(0, .int a), (1, .int b), (2, .int c), (3, .int d)] [.int (0 : Int32)] M _
          refine zs_if_eqT (pc := 45) t324_45 li0 (by decide) ?_
          refine zs_iconst (pc := 52) t324_52 (v := 0) (by decide) ?_
          refine zs_iret (pc := 53) t324_53 mr324 (by decide) ?_
          show zGo X l 9 0 0 323 8 [(0, .ref 336), (1, .int a), (2, .int b), (3, .int c), (4, .int d), (5, .int e)] [.int (0 : Int32)] M _
          refine zs_if_eqT (pc := 8) t323_8 li0 (by decide) ?_
          refine zs_iconst (pc := 24) t323_24 (v := -1) (by decide) ?_
          have w22 := ib336_5 hI
          have w23 : (zI M 336 5).toInt = (zI M 336 5).toInt := (congrArg Int32.toInt rfl).trans rfl
          have w24 := lin1
          exact zs_iret (pc := 25) t323_25 mr323 (by decide) (hQ _ _ hs hI (zFr.refl) pR pC pF (by omega))
      · refine zs_invS (pc := 30) (as := [.long c.toInt64, .long (1 : Int64), .long (8 : Int64)]) (st := []) t324_30 (by decide) mf228 rfl rfl ⟨by decide, by decide, Nat.le_of_ble_eq_true rfl, Nat.le_of_ble_eq_true rfl⟩ (K228F (zi2l rfl) ll1 ll8 (by omega) ?_) (fun _ _ q => q)
        show zGo X l 1 0 0 324 33 [(0, .int a), (1, .int b), (2, .int c), (3, .int d)] [.int (0 : Int32)] M _
        refine zs_if_eqT (pc := 33) t324_33 li0 (by decide) ?_
        refine zs_iconst (pc := 52) t324_52 (v := 0) (by decide) ?_
        refine zs_iret (pc := 53) t324_53 mr324 (by decide) ?_
        show zGo X l 9 0 0 323 8 [(0, .ref 336), (1, .int a), (2, .int b), (3, .int c), (4, .int d), (5, .int e)] [.int (0 : Int32)] M _
        refine zs_if_eqT (pc := 8) t323_8 li0 (by decide) ?_
        refine zs_iconst (pc := 24) t323_24 (v := -1) (by decide) ?_
        have w25 := ib336_5 hI
        have w26 : (zI M 336 5).toInt = (zI M 336 5).toInt := (congrArg Int32.toInt rfl).trans rfl
        have w27 := lin1
        exact zs_iret (pc := 25) t323_25 mr323 (by decide) (hQ _ _ hs hI (zFr.refl) pR pC pF (by omega))
    · refine zs_invS (pc := 18) (as := [.long b.toInt64, .long (1 : Int64), .long (999 : Int64)]) (st := []) t324_18 (by decide) mf228 rfl rfl ⟨by decide, by decide, Nat.le_of_ble_eq_true rfl, Nat.le_of_ble_eq_true rfl⟩ (K228F (zi2l rfl) ll1 ll999 (by omega) ?_) (fun _ _ q => q)
      show zGo X l 1 0 0 324 21 [(0, .int a), (1, .int b), (2, .int c), (3, .int d)] [.int (0 : Int32)] M _
      refine zs_if_eqT (pc := 21) t324_21 li0 (by decide) ?_
      refine zs_iconst (pc := 52) t324_52 (v := 0) (by decide) ?_
      refine zs_iret (pc := 53) t324_53 mr324 (by decide) ?_
      show zGo X l 9 0 0 323 8 [(0, .ref 336), (1, .int a), (2, .int b), (3, .int c), (4, .int d), (5, .int e)] [.int (0 : Int32)] M _
      refine zs_if_eqT (pc := 8) t323_8 li0 (by decide) ?_
      refine zs_iconst (pc := 24) t323_24 (v := -1) (by decide) ?_
      have w28 := ib336_5 hI
      have w29 : (zI M 336 5).toInt = (zI M 336 5).toInt := (congrArg Int32.toInt rfl).trans rfl
      have w30 := lin1
      exact zs_iret (pc := 25) t323_25 mr323 (by decide) (hQ _ _ hs hI (zFr.refl) pR pC pF (by omega))
  · refine zs_invS (pc := 6) (as := [.long a.toInt64, .long (1 : Int64), .long (200 : Int64)]) (st := []) t324_6 (by decide) mf228 rfl rfl ⟨by decide, by decide, Nat.le_of_ble_eq_true rfl, Nat.le_of_ble_eq_true rfl⟩ (K228F (zi2l rfl) ll1 ll200 (by omega) ?_) (fun _ _ q => q)
    show zGo X l 1 0 0 324 9 [(0, .int a), (1, .int b), (2, .int c), (3, .int d)] [.int (0 : Int32)] M _
    refine zs_if_eqT (pc := 9) t324_9 li0 (by decide) ?_
    refine zs_iconst (pc := 52) t324_52 (v := 0) (by decide) ?_
    refine zs_iret (pc := 53) t324_53 mr324 (by decide) ?_
    show zGo X l 9 0 0 323 8 [(0, .ref 336), (1, .int a), (2, .int b), (3, .int c), (4, .int d), (5, .int e)] [.int (0 : Int32)] M _
    refine zs_if_eqT (pc := 8) t323_8 li0 (by decide) ?_
    refine zs_iconst (pc := 24) t323_24 (v := -1) (by decide) ?_
    have w31 := ib336_5 hI
    have w32 : (zI M 336 5).toInt = (zI M 336 5).toInt := (congrArg Int32.toInt rfl).trans rfl
    have w33 := lin1
    exact zs_iret (pc := 25) t323_25 mr323 (by decide) (hQ _ _ hs hI (zFr.refl) pR pC pF (by omega))
theorem L326 {X : zX} {l : Launch} {M : zM} {Q : Option Value → zM → Prop} {a b c : Int32} (hs : zSk zMm M) (hI : zIv mLo mHi M) (pR : zPR M) (pC : zPC M) (pF : zPF M) (hQ : ∀ (M' : zM) (v : Int32), zSk zMm M' → zIv mLo mHi M' → zFr [(336, 363, none)] M M' → zPR M' → zPC M' → zPF M' → ((zI M' 336 5).toInt = (zI M 336 5).toInt) → Q (some (.int v)) M') : zCall X l 9 0 0 326 [.ref 336, .int a, .int b, .int c] M Q := by
  have ga := zrg a
  have gb := zrg b
  have gc := zrg c
  refine zs_in (by decide) mf326 (Nat.le_of_ble_eq_true rfl) ?_
  show zGo X l 9 0 0 326 0 [(0, .ref 336), (1, .int a), (2, .int b), (3, .int c)] [] M _
  refine zs_iload_n (pc := 0) t326_0 rfl ?_
  refine zs_iload_n (pc := 1) t326_1 rfl ?_
  refine zs_iconst (pc := 2) t326_2 (v := 1) (by decide) ?_
  refine zs_iload_n (pc := 3) t326_3 rfl ?_
  refine zs_invS (pc := 4) (as := [.int a, .int b, .int (1 : Int32), .int c]) (st := []) t326_4 (by decide) mf324 rfl rfl ⟨by decide, by decide, Nat.le_of_ble_eq_true rfl, Nat.le_of_ble_eq_true rfl⟩ (zs_in (by decide) mf324 (Nat.le_of_ble_eq_true rfl) ?_) (fun _ _ q => q)
  show zGo X l 1 0 0 324 0 [(0, .int a), (1, .int b), (2, .int (1 : Int32)), (3, .int c)] [] M _
  refine zs_iload_n (pc := 0) t324_0 rfl ?_
  refine zs_i2l (pc := 1) t324_1 rfl ?_
  refine zs_lconst (pc := 2) t324_2 (v := 1) (by decide) ?_
  refine zs_ldc2_w (pc := 3) t324_3 (v := 200) (by decide) ?_
  by_cases w1 : 1 ≤ a.toInt ∧ a.toInt ≤ 200
  · refine zs_invS (pc := 6) (as := [.long a.toInt64, .long (1 : Int64), .long (200 : Int64)]) (st := []) t324_6 (by decide) mf228 rfl rfl ⟨by decide, by decide, Nat.le_of_ble_eq_true rfl, Nat.le_of_ble_eq_true rfl⟩ (K228T (zi2l rfl) ll1 ll200 (by omega) ?_) (fun _ _ q => q)
    show zGo X l 1 0 0 324 9 [(0, .int a), (1, .int b), (2, .int (1 : Int32)), (3, .int c)] [.int (1 : Int32)] M _
    refine zs_if_eqF (pc := 9) t324_9 li1 (by decide) ?_
    refine zs_iload_n (pc := 12) t324_12 rfl ?_
    refine zs_i2l (pc := 13) t324_13 rfl ?_
    refine zs_lconst (pc := 14) t324_14 (v := 1) (by decide) ?_
    refine zs_ldc2_w (pc := 15) t324_15 (v := 999) (by decide) ?_
    by_cases w2 : 1 ≤ b.toInt ∧ b.toInt ≤ 999
    · refine zs_invS (pc := 18) (as := [.long b.toInt64, .long (1 : Int64), .long (999 : Int64)]) (st := []) t324_18 (by decide) mf228 rfl rfl ⟨by decide, by decide, Nat.le_of_ble_eq_true rfl, Nat.le_of_ble_eq_true rfl⟩ (K228T (zi2l rfl) ll1 ll999 (by omega) ?_) (fun _ _ q => q)
      show zGo X l 1 0 0 324 21 [(0, .int a), (1, .int b), (2, .int (1 : Int32)), (3, .int c)] [.int (1 : Int32)] M _
      refine zs_if_eqF (pc := 21) t324_21 li1 (by decide) ?_
      refine zs_iload_n (pc := 24) t324_24 rfl ?_
      refine zs_i2l (pc := 25) t324_25 (c := 1) (by decide) ?_
      refine zs_lconst (pc := 26) t324_26 (v := 1) (by decide) ?_
      refine zs_ldc2_w (pc := 27) t324_27 (v := 8) (by decide) ?_
      refine zs_invS (pc := 30) (as := [.long (1 : Int64), .long (1 : Int64), .long (8 : Int64)]) (st := []) t324_30 (by decide) mf228 rfl rfl ⟨by decide, by decide, Nat.le_of_ble_eq_true rfl, Nat.le_of_ble_eq_true rfl⟩ (K228T ll1 ll1 ll8 (by omega) ?_) (fun _ _ q => q)
      show zGo X l 1 0 0 324 33 [(0, .int a), (1, .int b), (2, .int (1 : Int32)), (3, .int c)] [.int (1 : Int32)] M _
      refine zs_if_eqF (pc := 33) t324_33 li1 (by decide) ?_
      refine zs_iload_n (pc := 36) t324_36 rfl ?_
      refine zs_i2l (pc := 37) t324_37 rfl ?_
      refine zs_lconst (pc := 38) t324_38 (v := 0) (by decide) ?_
      refine zs_ldc2_w (pc := 39) t324_39 (v := 50) (by decide) ?_
      by_cases w4 : 0 ≤ c.toInt ∧ c.toInt ≤ 50
      · refine zs_invS (pc := 42) (as := [.long c.toInt64, .long (0 : Int64), .long (50 : Int64)]) (st := []) t324_42 (by decide) mf228 rfl rfl ⟨by decide, by decide, Nat.le_of_ble_eq_true rfl, Nat.le_of_ble_eq_true rfl⟩ (K228T (zi2l rfl) ll0 ll50 (by omega) ?_) (fun _ _ q => q)
        show zGo X l 1 0 0 324 45 [(0, .int a), (1, .int b), (2, .int (1 : Int32)), (3, .int c)] [.int (1 : Int32)] M _
        refine zs_if_eqF (pc := 45) t324_45 li1 (by decide) ?_
        refine zs_iconst (pc := 48) t324_48 (v := 1) (by decide) ?_
        refine zs_goto (pc := 49) t324_49 ?_
        refine zs_iret (pc := 53) t324_53 mr324 (by decide) ?_
        show zGo X l 9 0 0 326 7 [(0, .ref 336), (1, .int a), (2, .int b), (3, .int c)] [.int (1 : Int32)] M _
        refine zs_if_neT (pc := 7) t326_7 li1 (by decide) ?_
        refine zs_iconst (pc := 12) t326_12 (v := 1) (by decide) ?_
        refine zs_istore (pc := 13) t326_13 (ls' := [(4, .int (1 : Int32)), (0, .ref 336), (1, .int a), (2, .int b), (3, .int c)]) (zml mf326 (by decide)) rfl ?_
        have w5L : ∀ (m : Nat) (w5x4 : Int32) (w5M : zM), (1 ≤ w5x4.toInt ∧ w5x4.toInt ≤ 9) → zSk zMm w5M → zIv mLo mHi w5M → zFr [(344, 344, none), (349, 349, none), (350, 350, none), (343, 343, none), (345, 345, none), (346, 346, none), (347, 347, none), (348, 348, none), (336, 336, some 22), (336, 336, some 18), (336, 336, some 19), (336, 336, some 20), (336, 336, some 21), (351, 354, none), (358, 358, none), (336, 336, some 37), (356, 356, none), (355, 355, none), (343, 343, none), (344, 344, none), (336, 336, some 39), (359, 359, none), (336, 336, some 3), (360, 360, none), (361, 361, none), (336, 336, some 42), (336, 336, some 43), (336, 336, some 44), (336, 336, some 45)] M w5M → zPF w5M → 9 - w5x4.toInt ≤ (m : Int) → zGo X l 9 0 0 326 15 [(0, .ref 336), (1, .int a), (2, .int b), (3, .int c), (4, .int w5x4)] [] w5M Q := by
          intro m
          induction m using Nat.strongRecOn with
          | ind w5m w5ih =>
            intro w5x4 w5M w5b4 w5s w5I w5F w5PF w5q
            refine zs_iload (pc := 15) t326_15 rfl ?_
            refine zs_bipush (pc := 17) t326_17 (v := 8) (by decide) ?_
            by_cases w6 : 8 < w5x4.toInt
            · refine zs_icmp_gtT (pc := 19) t326_19 rfl li8 (by omega) ?_
              refine zs_bipush (pc := 52) t326_52 (v := -2) (by decide) ?_
              have w7 := ib336_5 hI
              have w8 : (zI w5M 336 5).toInt = (zI M 336 5).toInt := (congrArg Int32.toInt ((w5F 336 5 rfl).trans rfl)).trans rfl
              have w9 := lin2
              exact zs_iret (pc := 54) t326_54 mr326 (by decide) (hQ _ _ w5s w5I ((zFr.refl).trans (w5F.mono rfl)) (zPR.fr pR (w5F.eq rfl)) (zPC.fr pC (w5F.eq rfl)) w5PF (by omega))
            · refine zs_icmp_gtF (pc := 19) t326_19 rfl li8 (by omega) ?_
              refine zs_aload_n (pc := 22) t326_22 rfl ?_
              refine zs_iload_n (pc := 23) t326_23 rfl ?_
              refine zs_iload_n (pc := 24) t326_24 rfl ?_
              refine zs_iload (pc := 25) t326_25 rfl ?_
              refine zs_iload_n (pc := 27) t326_27 rfl ?_
              refine zs_invV (pc := 28) (k := 336) (as' := [.int a, .int b, .int w5x4, .int c]) (st := []) t326_28 mf325 rfl rfl (Or.inl ⟨by decide, (zk1 (w5s.k fk_zMm_336))⟩) ⟨by decide, by decide, Nat.le_of_ble_eq_true rfl, Nat.le_of_ble_eq_true rfl⟩ (K325 w5s w5I (zPR.fr pR (w5F.eq rfl)) w5PF ⟨by omega, by omega⟩ ⟨by omega, by omega⟩ ⟨by omega, by omega⟩ ⟨by omega, by omega⟩ ?_) (fun _ _ q => q)
              intro w10M w10s w10I w10F w10PF
              show zGo X l 9 0 0 326 31 [(0, .ref 336), (1, .int a), (2, .int b), (3, .int c), (4, .int w5x4)] [] w10M _
              refine zs_aload_n (pc := 31) t326_31 rfl ?_
              have w11 := zrg (zI w10M 336 42)
              refine zs_get (pc := 32) t326_32 (by decide) (zk1 (w10s.k fk_zMm_336)) (zfvi rfl rfl) ?_
              refine zs_aload_n (pc := 35) t326_35 rfl ?_
              have w12 := zrg (zI w10M 336 43)
              refine zs_get (pc := 36) t326_36 (by decide) (zk1 (w10s.k fk_zMm_336)) (zfvi rfl rfl) ?_
              obtain ⟨w13v, w13⟩ : ∃ v, v = (zI w10M 336 42) + (zI w10M 336 43) := ⟨_, rfl⟩
              have w13g := zrg w13v
              refine zs_iadd (pc := 39) t326_39 (c := w13v) w13.symm ?_
              by_cases w14 : w13v.toInt ≠ 0
              · refine zs_if_neT (pc := 40) t326_40 rfl (by omega) ?_
                obtain ⟨w15v, w15e, w15⟩ := ziadd (a := w5x4) (b := Int32.ofInt 1) rfl (show (Int32.ofInt 1).toInt = 1 by decide) (by omega) (by omega)
                refine zs_iinc (pc := 46) t326_46 (ls' := [(4, .int w15v), (0, .ref 336), (1, .int a), (2, .int b), (3, .int c)]) (zml mf326 (by decide)) rfl (c := w15v) w15e rfl ?_
                refine zs_goto (pc := 49) t326_49 ?_
                refine zGo.locals (ls' := [(0, .ref 336), (1, .int a), (2, .int b), (3, .int c), (4, .int w15v)]) (by simp) ?_
                have w16 := w15
                exact w5ih (w5m - 1) (by omega) w15v w10M ⟨by omega, by omega⟩ w10s w10I (((zFr.refl).trans (w5F.mono rfl)).trans (w10F.mono rfl)) w10PF (by omega)
              · refine zs_if_neF (pc := 40) t326_40 rfl (by omega) ?_
                refine zs_iload (pc := 43) t326_43 rfl ?_
                have w17 : (zI w10M 336 5).toInt = (zI M 336 5).toInt := (congrArg Int32.toInt ((w10F 336 5 rfl).trans ((w5F 336 5 rfl).trans rfl))).trans rfl
                exact zs_iret (pc := 45) t326_45 mr326 rfl (hQ _ _ w10s w10I (((zFr.refl).trans (w5F.mono rfl)).trans (w10F.mono rfl)) (zPR.fr (zPR.fr pR (w5F.eq rfl)) (w10F.eq rfl)) (zPC.fr (zPC.fr pC (w5F.eq rfl)) (w10F.eq rfl)) w10PF (by omega))
        refine zGo.locals (ls' := [(0, .ref 336), (1, .int a), (2, .int b), (3, .int c), (4, .int (1 : Int32))]) (by simp) ?_
        have w18 := li1
        exact w5L ((9 - 1 : Int).toNat) (1 : Int32) M ⟨by decide, by decide⟩ hs hI zFr.refl pF (by omega)
      · refine zs_invS (pc := 42) (as := [.long c.toInt64, .long (0 : Int64), .long (50 : Int64)]) (st := []) t324_42 (by decide) mf228 rfl rfl ⟨by decide, by decide, Nat.le_of_ble_eq_true rfl, Nat.le_of_ble_eq_true rfl⟩ (K228F (zi2l rfl) ll0 ll50 (by omega) ?_) (fun _ _ q => q)
        show zGo X l 1 0 0 324 45 [(0, .int a), (1, .int b), (2, .int (1 : Int32)), (3, .int c)] [.int (0 : Int32)] M _
        refine zs_if_eqT (pc := 45) t324_45 li0 (by decide) ?_
        refine zs_iconst (pc := 52) t324_52 (v := 0) (by decide) ?_
        refine zs_iret (pc := 53) t324_53 mr324 (by decide) ?_
        show zGo X l 9 0 0 326 7 [(0, .ref 336), (1, .int a), (2, .int b), (3, .int c)] [.int (0 : Int32)] M _
        refine zs_if_neF (pc := 7) t326_7 li0 (by decide) ?_
        refine zs_iconst (pc := 10) t326_10 (v := -1) (by decide) ?_
        have w19 := ib336_5 hI
        have w20 : (zI M 336 5).toInt = (zI M 336 5).toInt := (congrArg Int32.toInt rfl).trans rfl
        have w21 := lin1
        exact zs_iret (pc := 11) t326_11 mr326 (by decide) (hQ _ _ hs hI (zFr.refl) pR pC pF (by omega))
    · refine zs_invS (pc := 18) (as := [.long b.toInt64, .long (1 : Int64), .long (999 : Int64)]) (st := []) t324_18 (by decide) mf228 rfl rfl ⟨by decide, by decide, Nat.le_of_ble_eq_true rfl, Nat.le_of_ble_eq_true rfl⟩ (K228F (zi2l rfl) ll1 ll999 (by omega) ?_) (fun _ _ q => q)
      show zGo X l 1 0 0 324 21 [(0, .int a), (1, .int b), (2, .int (1 : Int32)), (3, .int c)] [.int (0 : Int32)] M _
      refine zs_if_eqT (pc := 21) t324_21 li0 (by decide) ?_
      refine zs_iconst (pc := 52) t324_52 (v := 0) (by decide) ?_
      refine zs_iret (pc := 53) t324_53 mr324 (by decide) ?_
      show zGo X l 9 0 0 326 7 [(0, .ref 336), (1, .int a), (2, .int b), (3, .int c)] [.int (0 : Int32)] M _
      refine zs_if_neF (pc := 7) t326_7 li0 (by decide) ?_
      refine zs_iconst (pc := 10) t326_10 (v := -1) (by decide) ?_
      have w22 := ib336_5 hI
      have w23 : (zI M 336 5).toInt = (zI M 336 5).toInt := (congrArg Int32.toInt rfl).trans rfl
      have w24 := lin1
      exact zs_iret (pc := 11) t326_11 mr326 (by decide) (hQ _ _ hs hI (zFr.refl) pR pC pF (by omega))
  · refine zs_invS (pc := 6) (as := [.long a.toInt64, .long (1 : Int64), .long (200 : Int64)]) (st := []) t324_6 (by decide) mf228 rfl rfl ⟨by decide, by decide, Nat.le_of_ble_eq_true rfl, Nat.le_of_ble_eq_true rfl⟩ (K228F (zi2l rfl) ll1 ll200 (by omega) ?_) (fun _ _ q => q)
    show zGo X l 1 0 0 324 9 [(0, .int a), (1, .int b), (2, .int (1 : Int32)), (3, .int c)] [.int (0 : Int32)] M _
    refine zs_if_eqT (pc := 9) t324_9 li0 (by decide) ?_
    refine zs_iconst (pc := 52) t324_52 (v := 0) (by decide) ?_
    refine zs_iret (pc := 53) t324_53 mr324 (by decide) ?_
    show zGo X l 9 0 0 326 7 [(0, .ref 336), (1, .int a), (2, .int b), (3, .int c)] [.int (0 : Int32)] M _
    refine zs_if_neF (pc := 7) t326_7 li0 (by decide) ?_
    refine zs_iconst (pc := 10) t326_10 (v := -1) (by decide) ?_
    have w25 := ib336_5 hI
    have w26 : (zI M 336 5).toInt = (zI M 336 5).toInt := (congrArg Int32.toInt rfl).trans rfl
    have w27 := lin1
    exact zs_iret (pc := 11) t326_11 mr326 (by decide) (hQ _ _ hs hI (zFr.refl) pR pC pF (by omega))
theorem L327 {X : zX} {l : Launch} {M : zM} {Q : Option Value → zM → Prop} {a : Int32} (hs : zSk zMm M) (hI : zIv mLo mHi M) (pR : zPR M) (pC : zPC M) (pF : zPF M) (hQ : ∀ (M' : zM) (v : Int32), zSk zMm M' → zIv mLo mHi M' → zFr [(336, 363, none)] M M' → zPR M' → zPC M' → zPF M' → ((zI M' 336 5).toInt = (zI M 336 5).toInt) → Q (some (.int v)) M') : zCall X l 7 0 0 327 [.ref 336, .int a] M Q := by
  have ga := zrg a
  refine zs_in (by decide) mf327 (Nat.le_of_ble_eq_true rfl) ?_
  show zGo X l 7 0 0 327 0 [(0, .ref 336), (1, .int a)] [] M _
  refine zs_aload_n (pc := 0) t327_0 rfl ?_
  refine zs_iload_n (pc := 1) t327_1 rfl ?_
  refine zs_invV (pc := 2) (k := 336) (as' := [.int a]) (st := []) t327_2 mf306 rfl rfl (Or.inl ⟨by decide, (zk1 (hs.k fk_zMm_336))⟩) ⟨by decide, by decide, Nat.le_of_ble_eq_true rfl, Nat.le_of_ble_eq_true rfl⟩ (zs_in (by decide) mf306 (Nat.le_of_ble_eq_true rfl) ?_) (fun _ _ q => q)
  show zGo X l 1 0 0 306 0 [(0, .ref 336), (1, .int a)] [] M _
  refine zs_iload_n (pc := 0) t306_0 rfl ?_
  refine zs_i2l (pc := 1) t306_1 rfl ?_
  refine zs_lconst (pc := 2) t306_2 (v := 0) (by decide) ?_
  refine zs_aload_n (pc := 3) t306_3 rfl ?_
  refine zs_get (pc := 4) t306_4 (by decide) (zk1 (hs.k fk_zMm_336)) (hs.p rfl fv_zMm_336_0) ?_
  refine zs_iconst (pc := 7) t306_7 (v := 0) (by decide) ?_
  have w1 := ibA0 hI
  refine zs_iald (pc := 8) t306_8 (j := 0) (by decide) (zk1 (hs.k fk_zMm_337)) li0 (zk2 (hs.k fk_zMm_337) (by decide)) rfl ?_
  refine zs_iconst (pc := 9) t306_9 (v := 1) (by decide) ?_
  obtain ⟨w2v, w2e, w2⟩ := zisub (a := (zI M 337 0)) (b := (1 : Int32)) rfl li1 (by omega) (by omega)
  refine zs_isub (pc := 10) t306_10 (c := w2v) w2e ?_
  refine zs_i2l (pc := 11) t306_11 rfl ?_
  by_cases w3 : 0 ≤ a.toInt ∧ a.toInt ≤ ((zI M 337 0).toInt - 1)
  · refine zs_invS (pc := 12) (as := [.long a.toInt64, .long (0 : Int64), .long w2v.toInt64]) (st := []) t306_12 (by decide) mf228 rfl rfl ⟨by decide, by decide, Nat.le_of_ble_eq_true rfl, Nat.le_of_ble_eq_true rfl⟩ (K228T (zi2l rfl) ll0 (zi2l w2) (by omega) ?_) (fun _ _ q => q)
    show zGo X l 1 0 0 306 15 [(0, .ref 336), (1, .int a)] [.int (1 : Int32)] M _
    refine zs_iret (pc := 15) t306_15 mr306 (by decide) ?_
    show zGo X l 7 0 0 327 5 [(0, .ref 336), (1, .int a)] [.int (1 : Int32)] M _
    refine zs_if_neT (pc := 5) t327_5 li1 (by decide) ?_
    refine zs_aload_n (pc := 12) t327_12 rfl ?_
    refine zs_invV (pc := 13) (k := 336) (as' := []) (st := []) t327_13 mf268 rfl rfl (Or.inl ⟨by decide, (zk1 (hs.k fk_zMm_336))⟩) ⟨by decide, by decide, Nat.le_of_ble_eq_true rfl, Nat.le_of_ble_eq_true rfl⟩ (K268 hs hI pR pF ?_) (fun _ _ q => q)
    intro w4M w4s w4I w4F w4PF w4PD w4PV
    show zGo X l 7 0 0 327 16 [(0, .ref 336), (1, .int a)] [] w4M _
    refine zs_aload_n (pc := 16) t327_16 rfl ?_
    have w5 := ib336_22 w4I
    refine zs_get (pc := 17) t327_17 (by decide) (zk1 (w4s.k fk_zMm_336)) (zfvi rfl rfl) ?_
    refine zs_istore_n (pc := 20) t327_20 (ls' := [(2, .int (zI w4M 336 22)), (0, .ref 336), (1, .int a)]) (zml mf327 (by decide)) rfl ?_
    refine zs_aload_n (pc := 21) t327_21 rfl ?_
    refine zs_aload_n (pc := 22) t327_22 rfl ?_
    refine zs_get (pc := 23) t327_23 (by decide) (zk1 (w4s.k fk_zMm_336)) (w4s.p rfl fv_zMm_336_0) ?_
    refine zs_bipush (pc := 26) t327_26 (v := 8) (by decide) ?_
    have w6 := ibA8 hI
    refine zs_iald (pc := 28) t327_28 (j := 8) (by decide) (zk1 (w4s.k fk_zMm_337)) li8 (zk2 (w4s.k fk_zMm_337) (by decide)) ((w4F 337 8 rfl).trans rfl) ?_
    refine zs_iload_n (pc := 29) t327_29 rfl ?_
    refine zs_invV (pc := 30) (k := 336) (as' := [.int (zI M 337 8), .int a]) (st := []) t327_30 mf269 rfl rfl (Or.inl ⟨by decide, (zk1 (w4s.k fk_zMm_336))⟩) ⟨by decide, by decide, Nat.le_of_ble_eq_true rfl, Nat.le_of_ble_eq_true rfl⟩ (K269 w4s w4I (zPR.fr pR (w4F.eq rfl)) ⟨by omega, by omega⟩ ?_) (fun _ _ q => q)
    intro w7M w7s w7I w7F w7J w7PT
    show zGo X l 7 0 0 327 33 [(2, .int (zI w4M 336 22)), (0, .ref 336), (1, .int a)] [] w7M _
    refine zs_aload_n (pc := 33) t327_33 rfl ?_
    refine zs_iconst (pc := 34) t327_34 (v := 0) (by decide) ?_
    have w8 : zIv mLo mHi (zsI w7M 336 3 (0 : Int32)) := zIv.put w7I (show 0 ≤ (0 : Int32).toInt ∧ (0 : Int32).toInt ≤ 1 from ⟨by decide, by decide⟩)
    have w9 : zPF (zsI w7M 336 3 (0 : Int32)) := zPF.off
    refine zs_putI (pc := 35) t327_35 (zk1 (w7s.k fk_zMm_336)) (by decide) ?_
    refine zs_iload_n (pc := 38) t327_38 rfl ?_
    refine zs_aload_n (pc := 39) t327_39 rfl ?_
    have w10 := ib336_22 w7I
    refine zs_get (pc := 40) t327_40 (by decide) (zk1 (w7s.k fk_zMm_336)) (zfvi rfl ((zIoj (by decide)).trans rfl)) ?_
    obtain ⟨w11v, w11e, w11⟩ := zisub (a := (zI w4M 336 22)) (b := (zI w7M 336 22)) rfl rfl (by omega) (by omega)
    refine zs_isub (pc := 43) t327_43 (c := w11v) w11e ?_
    have w12 := ib336_5 hI
    have w13 : (zI (zsI w7M 336 3 (0 : Int32)) 336 5).toInt = (zI M 336 5).toInt := (congrArg Int32.toInt ((zIoj (by decide)).trans ((w7F 336 5 rfl).trans ((w4F 336 5 rfl).trans rfl)))).trans rfl
    have w14 := w11
    exact zs_iret (pc := 44) t327_44 mr327 rfl (hQ _ _ w7s w8 ((((zFr.refl).trans (w4F.mono rfl)).trans (w7F.mono rfl)).put rfl) (zPR.fr (M' := (zsI w7M 336 3 (0 : Int32))) (zPR.fr (zPR.fr pR (w4F.eq rfl)) (w7F.eq rfl)) (zEq.put rfl)) (zPC.fr (M' := (zsI w7M 336 3 (0 : Int32))) (zPC.fr (zPC.fr pC (w4F.eq rfl)) (w7F.eq rfl)) (zEq.put rfl)) w9 (by omega))
  · refine zs_invS (pc := 12) (as := [.long a.toInt64, .long (0 : Int64), .long w2v.toInt64]) (st := []) t306_12 (by decide) mf228 rfl rfl ⟨by decide, by decide, Nat.le_of_ble_eq_true rfl, Nat.le_of_ble_eq_true rfl⟩ (K228F (zi2l rfl) ll0 (zi2l w2) (by omega) ?_) (fun _ _ q => q)
    show zGo X l 1 0 0 306 15 [(0, .ref 336), (1, .int a)] [.int (0 : Int32)] M _
    refine zs_iret (pc := 15) t306_15 mr306 (by decide) ?_
    show zGo X l 7 0 0 327 5 [(0, .ref 336), (1, .int a)] [.int (0 : Int32)] M _
    refine zs_if_neF (pc := 5) t327_5 li0 (by decide) ?_
    refine zs_ldc_w (pc := 8) t327_8 (v := -100000) rfl (by decide) ?_
    have w15 := ib336_5 hI
    have w16 : (zI M 336 5).toInt = (zI M 336 5).toInt := (congrArg Int32.toInt rfl).trans rfl
    have w17 := lin100000
    exact zs_iret (pc := 11) t327_11 mr327 (by decide) (hQ _ _ hs hI (zFr.refl) pR pC pF (by omega))
