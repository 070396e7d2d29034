theorem K344 {X : zX} {l : Launch} {M : zM} {Q : Option Value → zM → Prop} {a : Int32} (hs : zSk zMm M) (hI : zIv mLo mHi M) (pR : zPR M) (pC : zPC M) (pF : zPF M) (ha : 0 ≤ a.toInt ∧ a.toInt ≤ 76) (hQ : ∀ (M' : zM) (v : Int32), zSk zMm M' → zIv mLo mHi M' → zFr [(336, 363, none)] M M' → zPR M' → zPC M' → zPF M' → Q (some (.int v)) M') : zCall X l 4 0 0 344 [.ref 336, .int a] M Q := by
  have ga := zrg a
  refine zs_in (by decide) mf344 (Nat.le_of_ble_eq_true rfl) ?_
  show zGo X l 4 0 0 344 0 [(0, .ref 336), (1, .int a)] [] M _
  refine zs_aload_n (pc := 0) t344_0 rfl ?_
  refine zs_get (pc := 1) t344_1 (by decide) (zk1 (hs.k fk_zMm_336)) (hs.p rfl fv_zMm_336_46) ?_
  refine zs_iload_n (pc := 4) t344_4 rfl ?_
  obtain ⟨w1n, w1⟩ : ∃ n : Nat, a.toInt = (n : Int) := ⟨(a.toInt).toNat, by omega⟩
  have w2 := zrg (zI M 362 w1n)
  refine zs_iald (pc := 5) t344_5 (j := w1n) (by decide) (zk1 (hs.k fk_zMm_362)) (show a.toInt = ((w1n : Nat) : Int) by omega) (zk2 (hs.k fk_zMm_362) (by omega)) rfl ?_
  by_cases w3 : (zI M 362 w1n).toInt = 100
  · refine zs_lsw (pc := 6) t344_6 (off := 76) ((rfl : (zI M 362 w1n).toInt = (zI M 362 w1n).toInt).trans w3) rfl (pc2 := 82) rfl ?_
    refine zs_aload_n (pc := 82) t344_82 rfl ?_
    refine zs_aload_n (pc := 83) t344_83 rfl ?_
    refine zs_get (pc := 84) t344_84 (by decide) (zk1 (hs.k fk_zMm_336)) (hs.p rfl fv_zMm_336_46) ?_
    refine zs_iload_n (pc := 87) t344_87 rfl ?_
    refine zs_iconst (pc := 88) t344_88 (v := 1) (by decide) ?_
    obtain ⟨w4v, w4e, w4⟩ := ziadd (a := a) (b := (1 : Int32)) rfl li1 (by omega) (by omega)
    refine zs_iadd (pc := 89) t344_89 (c := w4v) w4e ?_
    have w5 := zrg (zI M 362 (1 + w1n))
    refine zs_iald (pc := 90) t344_90 (j := (1 + w1n)) (by decide) (zk1 (hs.k fk_zMm_362)) (show w4v.toInt = (((1 + w1n) : Nat) : Int) by omega) (zk2 (hs.k fk_zMm_362) (by omega)) rfl ?_
    refine zs_invV (pc := 91) (k := 336) (as' := [.int (zI M 362 (1 + w1n))]) (st := []) t344_91 mf333 rfl rfl (Or.inl ⟨by decide, (zk1 (hs.k fk_zMm_336))⟩) ⟨by decide, by decide, Nat.le_of_ble_eq_true rfl, Nat.le_of_ble_eq_true rfl⟩ (K333 hs hI pR pC pF ?_) (fun _ _ q => q)
    intro w6M w6v w6s w6I w6F w6PR w6PC w6PF
    have w6g := zrg w6v
    show zGo X l 4 0 0 344 94 [(0, .ref 336), (1, .int a)] [.int w6v] w6M _
    exact zs_iret (pc := 94) t344_94 mr344 rfl (hQ _ _ w6s w6I ((zFr.refl).trans (w6F.mono rfl)) w6PR w6PC w6PF)
  by_cases w7 : (zI M 362 w1n).toInt = 104
  · refine zs_lsw (pc := 6) t344_6 (off := 34) ((rfl : (zI M 362 w1n).toInt = (zI M 362 w1n).toInt).trans w7) rfl (pc2 := 40) rfl ?_
    refine zs_aload_n (pc := 40) t344_40 rfl ?_
    refine zs_aload_n (pc := 41) t344_41 rfl ?_
    refine zs_get (pc := 42) t344_42 (by decide) (zk1 (hs.k fk_zMm_336)) (hs.p rfl fv_zMm_336_46) ?_
    refine zs_iload_n (pc := 45) t344_45 rfl ?_
    refine zs_iconst (pc := 46) t344_46 (v := 1) (by decide) ?_
    obtain ⟨w8v, w8e, w8⟩ := ziadd (a := a) (b := (1 : Int32)) rfl li1 (by omega) (by omega)
    refine zs_iadd (pc := 47) t344_47 (c := w8v) w8e ?_
    have w9 := zrg (zI M 362 (1 + w1n))
    refine zs_iald (pc := 48) t344_48 (j := (1 + w1n)) (by decide) (zk1 (hs.k fk_zMm_362)) (show w8v.toInt = (((1 + w1n) : Nat) : Int) by omega) (zk2 (hs.k fk_zMm_362) (by omega)) rfl ?_
    refine zs_aload_n (pc := 49) t344_49 rfl ?_
    refine zs_get (pc := 50) t344_50 (by decide) (zk1 (hs.k fk_zMm_336)) (hs.p rfl fv_zMm_336_46) ?_
    refine zs_iload_n (pc := 53) t344_53 rfl ?_
    refine zs_iconst (pc := 54) t344_54 (v := 2) (by decide) ?_
    obtain ⟨w10v, w10e, w10⟩ := ziadd (a := a) (b := (2 : Int32)) rfl li2 (by omega) (by omega)
    refine zs_iadd (pc := 55) t344_55 (c := w10v) w10e ?_
    have w11 := zrg (zI M 362 (2 + w1n))
    refine zs_iald (pc := 56) t344_56 (j := (2 + w1n)) (by decide) (zk1 (hs.k fk_zMm_362)) (show w10v.toInt = (((2 + w1n) : Nat) : Int) by omega) (zk2 (hs.k fk_zMm_362) (by omega)) rfl ?_
    refine zs_aload_n (pc := 57) t344_57 rfl ?_
    refine zs_get (pc := 58) t344_58 (by decide) (zk1 (hs.k fk_zMm_336)) (hs.p rfl fv_zMm_336_46) ?_
    refine zs_iload_n (pc := 61) t344_61 rfl ?_
    refine zs_iconst (pc := 62) t344_62 (v := 3) (by decide) ?_
    obtain ⟨w12v, w12e, w12⟩ := ziadd (a := a) (b := (3 : Int32)) rfl li3 (by omega) (by omega)
    refine zs_iadd (pc := 63) t344_63 (c := w12v) w12e ?_
    have w13 := zrg (zI M 362 (3 + w1n))
    refine zs_iald (pc := 64) t344_64 (j := (3 + w1n)) (by decide) (zk1 (hs.k fk_zMm_362)) (show w12v.toInt = (((3 + w1n) : Nat) : Int) by omega) (zk2 (hs.k fk_zMm_362) (by omega)) rfl ?_
    refine zs_invV (pc := 65) (k := 336) (as' := [.int (zI M 362 (1 + w1n)), .int (zI M 362 (2 + w1n)), .int (zI M 362 (3 + w1n))]) (st := []) t344_65 mf331 rfl rfl (Or.inl ⟨by decide, (zk1 (hs.k fk_zMm_336))⟩) ⟨by decide, by decide, Nat.le_of_ble_eq_true rfl, Nat.le_of_ble_eq_true rfl⟩ (K331 hs hI pR pC pF ?_) (fun _ _ q => q)
    intro w14M w14v w14s w14I w14F w14PR w14PC w14PF
    have w14g := zrg w14v
    show zGo X l 4 0 0 344 68 [(0, .ref 336), (1, .int a)] [.int w14v] w14M _
    exact zs_iret (pc := 68) t344_68 mr344 rfl (hQ _ _ w14s w14I ((zFr.refl).trans (w14F.mono rfl)) w14PR w14PC w14PF)
  by_cases w15 : (zI M 362 w1n).toInt = 120
  · refine zs_lsw (pc := 6) t344_6 (off := 63) ((rfl : (zI M 362 w1n).toInt = (zI M 362 w1n).toInt).trans w15) rfl (pc2 := 69) rfl ?_
    refine zs_aload_n (pc := 69) t344_69 rfl ?_
    refine zs_aload_n (pc := 70) t344_70 rfl ?_
    refine zs_get (pc := 71) t344_71 (by decide) (zk1 (hs.k fk_zMm_336)) (hs.p rfl fv_zMm_336_46) ?_
    refine zs_iload_n (pc := 74) t344_74 rfl ?_
    refine zs_iconst (pc := 75) t344_75 (v := 1) (by decide) ?_
    obtain ⟨w16v, w16e, w16⟩ := ziadd (a := a) (b := (1 : Int32)) rfl li1 (by omega) (by omega)
    refine zs_iadd (pc := 76) t344_76 (c := w16v) w16e ?_
    have w17 := zrg (zI M 362 (1 + w1n))
    refine zs_iald (pc := 77) t344_77 (j := (1 + w1n)) (by decide) (zk1 (hs.k fk_zMm_362)) (show w16v.toInt = (((1 + w1n) : Nat) : Int) by omega) (zk2 (hs.k fk_zMm_362) (by omega)) rfl ?_
    refine zs_invV (pc := 78) (k := 336) (as' := [.int (zI M 362 (1 + w1n))]) (st := []) t344_78 mf332 rfl rfl (Or.inl ⟨by decide, (zk1 (hs.k fk_zMm_336))⟩) ⟨by decide, by decide, Nat.le_of_ble_eq_true rfl, Nat.le_of_ble_eq_true rfl⟩ (K332 hs hI pR pC pF ?_) (fun _ _ q => q)
    intro w18M w18v w18s w18I w18F w18PR w18PC w18PF
    have w18g := zrg w18v
    show zGo X l 4 0 0 344 81 [(0, .ref 336), (1, .int a)] [.int w18v] w18M _
    exact zs_iret (pc := 81) t344_81 mr344 rfl (hQ _ _ w18s w18I ((zFr.refl).trans (w18F.mono rfl)) w18PR w18PC w18PF)
  refine zs_lsw (pc := 6) t344_6 (off := 89) rfl (by unfold zlsel; repeat (first | rfl | (rw [if_neg (by omega)]; unfold zlsel))) (pc2 := 95) rfl ?_
  refine zs_aload_n (pc := 95) t344_95 rfl ?_
  refine zs_aload_n (pc := 96) t344_96 rfl ?_
  refine zs_get (pc := 97) t344_97 (by decide) (zk1 (hs.k fk_zMm_336)) (hs.p rfl fv_zMm_336_46) ?_
  refine zs_iload_n (pc := 100) t344_100 rfl ?_
  refine zs_iconst (pc := 101) t344_101 (v := 1) (by decide) ?_
  obtain ⟨w19v, w19e, w19⟩ := ziadd (a := a) (b := (1 : Int32)) rfl li1 (by omega) (by omega)
  refine zs_iadd (pc := 102) t344_102 (c := w19v) w19e ?_
  have w20 := zrg (zI M 362 (1 + w1n))
  refine zs_iald (pc := 103) t344_103 (j := (1 + w1n)) (by decide) (zk1 (hs.k fk_zMm_362)) (show w19v.toInt = (((1 + w1n) : Nat) : Int) by omega) (zk2 (hs.k fk_zMm_362) (by omega)) rfl ?_
  refine zs_invV (pc := 104) (k := 336) (as' := [.int (zI M 362 (1 + w1n))]) (st := []) t344_104 mf334 rfl rfl (Or.inl ⟨by decide, (zk1 (hs.k fk_zMm_336))⟩) ⟨by decide, by decide, Nat.le_of_ble_eq_true rfl, Nat.le_of_ble_eq_true rfl⟩ (K334 hs hI pR pC pF ?_) (fun _ _ q => q)
  intro w21M w21v w21s w21I w21F w21PR w21PC w21PF
  have w21g := zrg w21v
  show zGo X l 4 0 0 344 107 [(0, .ref 336), (1, .int a)] [.int w21v] w21M _
  exact zs_iret (pc := 107) t344_107 mr344 rfl (hQ _ _ w21s w21I ((zFr.refl).trans (w21F.mono rfl)) w21PR w21PC w21PF)
theorem K342 {X : zX} {l : Launch} {M : zM} {Q : Option Value → zM → Prop} (hs : zSk zMm M) (hI : zIv mLo mHi M) (pR : zPR M) (pC : zPC M) (pF : zPF M) (hQ : ∀ (M' : zM) (v : Int32), zSk zMm M' → zIv mLo mHi M' → zFr [(336, 363, none)] M M' → zPR M' → zPC M' → zPF M' → Q (some (.int v)) M') : zCall X l 5 0 0 342 [.ref 336] M Q := by
  refine zs_in (by decide) mf342 (Nat.le_of_ble_eq_true rfl) ?_
  show zGo X l 5 0 0 342 0 [(0, .ref 336)] [] M _
  refine zs_aload_n (pc := 0) t342_0 rfl ?_
  refine zs_invV (pc := 1) (k := 336) (as' := []) (st := []) t342_1 mf236 rfl rfl (Or.inl ⟨by decide, (zk1 (hs.k fk_zMm_336))⟩) ⟨by decide, by decide, Nat.le_of_ble_eq_true rfl, Nat.le_of_ble_eq_true rfl⟩ (zs_in (by decide) mf236 (Nat.le_of_ble_eq_true rfl) ?_) (fun _ _ q => q)
  show zGo X l 0 0 0 236 0 [(0, .ref 336)] [] M _
  refine zs_aload_n (pc := 0) t236_0 rfl ?_
  refine zs_iconst (pc := 1) t236_1 (v := 0) (by decide) ?_
  have w1 : zIv mLo mHi (zsI M 336 6 (0 : Int32)) := zIv.put hI (show 0 ≤ (0 : Int32).toInt ∧ (0 : Int32).toInt ≤ 500 from ⟨by decide, by decide⟩)
  refine zs_putI (pc := 2) t236_2 (zk1 (hs.k fk_zMm_336)) rfl ?_
  refine zs_aload_n (pc := 5) t236_5 rfl ?_
  refine zs_iconst (pc := 6) t236_6 (v := -1) (by decide) ?_
  have w2 : zIv mLo mHi (zsI (zsI M 336 6 (0 : Int32)) 336 7 (-1 : Int32)) := zIv.put w1 (show (-1) ≤ (-1 : Int32).toInt ∧ (-1 : Int32).toInt ≤ 500 from ⟨by decide, by decide⟩)
  refine zs_putI (pc := 7) t236_7 (zk1 (hs.k fk_zMm_336)) rfl ?_
  refine zs_vret (pc := 10) t236_10 mr236 ?_
  show zGo X l 5 0 0 342 4 [(0, .ref 336)] [] (zsI (zsI M 336 6 (0 : Int32)) 336 7 (-1 : Int32)) _
  refine zs_aload_n (pc := 4) t342_4 rfl ?_
  refine zs_iconst (pc := 5) t342_5 (v := 0) (by decide) ?_
  have w3 : zIv mLo mHi (zsI (zsI (zsI M 336 6 (0 : Int32)) 336 7 (-1 : Int32)) 336 47 (0 : Int32)) := zIv.put w2 (show 0 ≤ (0 : Int32).toInt ∧ (0 : Int32).toInt ≤ 20 from ⟨by decide, by decide⟩)
  refine zs_putI (pc := 6) t342_6 (zk1 (hs.k fk_zMm_336)) rfl ?_
  have w4L : ∀ (m : Nat) (w4M : zM), zSk zMm w4M → zIv mLo mHi w4M → zFr [(336, 336, some 6), (336, 336, some 7), (336, 336, some 8), (362, 362, none), (336, 336, some 47)] (zsI (zsI (zsI M 336 6 (0 : Int32)) 336 7 (-1 : Int32)) 336 47 (0 : Int32)) w4M → zJ w4M 351 = zJ (zsI (zsI (zsI M 336 6 (0 : Int32)) 336 7 (-1 : Int32)) 336 47 (0 : Int32)) 351 → 501 - (zI w4M 336 6).toInt - 501 * (min (zI w4M 336 7).toInt 0) ≤ (m : Int) → zGo X l 5 0 0 342 9 [(0, .ref 336)] [] w4M Q := by
    intro m
    induction m using Nat.strongRecOn with
    | ind w4m w4ih =>
      intro w4M w4s w4I w4F w4J w4q
      have w5 := ib336_6 w4I
      have w6 := ib336_7 w4I
      refine zs_aload_n (pc := 9) t342_9 rfl ?_
      refine zs_get (pc := 10) t342_10 (by decide) (zk1 (w4s.k fk_zMm_336)) (zfvi rfl rfl) ?_
      refine zs_iconst (pc := 13) t342_13 (v := -1) (by decide) ?_
      by_cases w7 : (zI w4M 336 7).toInt ≠ (-1)
      · refine zs_icmp_neT (pc := 14) t342_14 rfl lin1 (by omega) ?_
        refine zs_aload_n (pc := 46) t342_46 rfl ?_
        refine zs_invV (pc := 47) (k := 336) (as' := []) (st := []) t342_47 mf253 rfl rfl (Or.inl ⟨by decide, (zk1 (w4s.k fk_zMm_336))⟩) ⟨by decide, by decide, Nat.le_of_ble_eq_true rfl, Nat.le_of_ble_eq_true rfl⟩ (zs_in (by decide) mf253 (Nat.le_of_ble_eq_true rfl) ?_) (fun _ _ q => q)
        show zGo X l 0 0 0 253 0 [(0, .ref 336)] [] w4M _
        refine zs_aload_n (pc := 0) t253_0 rfl ?_
        refine zs_iconst (pc := 1) t253_1 (v := 0) (by decide) ?_
        have w8 : zIv mLo mHi (zsI w4M 336 5 (0 : Int32)) := zIv.put w4I (show 0 ≤ (0 : Int32).toInt ∧ (0 : Int32).toInt ≤ 500 from ⟨by decide, by decide⟩)
        refine zs_putI (pc := 2) t253_2 (zk1 (w4s.k fk_zMm_336)) rfl ?_
        refine zs_aload_n (pc := 5) t253_5 rfl ?_
        refine zs_get (pc := 6) t253_6 (by decide) (zk1 (w4s.k fk_zMm_336)) (zfvi rfl ((zIoj (by decide)).trans rfl)) ?_
        refine zs_iconst (pc := 9) t253_9 (v := -1) (by decide) ?_
        refine zs_icmp_neT (pc := 10) t253_10 rfl lin1 (by omega) ?_
        refine zs_iconst (pc := 17) t253_17 (v := 0) (by decide) ?_
        refine zs_iret (pc := 18) t253_18 mr253 (by decide) ?_
        show zGo X l 5 0 0 342 50 [(0, .ref 336)] [.int (0 : Int32)] (zsI w4M 336 5 (0 : Int32)) _
        refine zs_if_neF (pc := 50) t342_50 li0 (by decide) ?_
        refine zs_iconst (pc := 53) t342_53 (v := -1) (by decide) ?_
        exact zs_iret (pc := 54) t342_54 mr342 (by decide) (hQ _ _ w4s w8 ((((((zFr.refl).put rfl).put rfl).put rfl).trans (w4F.mono rfl)).put rfl) (zPR.fr (M' := (zsI w4M 336 5 (0 : Int32))) (zPR.fr (zPR.fr (M' := (zsI (zsI (zsI M 336 6 (0 : Int32)) 336 7 (-1 : Int32)) 336 47 (0 : Int32))) (zPR.fr (M' := (zsI (zsI M 336 6 (0 : Int32)) 336 7 (-1 : Int32))) (zPR.fr (M' := (zsI M 336 6 (0 : Int32))) pR (zEq.put rfl)) (zEq.put rfl)) (zEq.put rfl)) (w4F.eq rfl)) (zEq.put rfl)) (zPC.fr (M' := (zsI w4M 336 5 (0 : Int32))) (zPC.fr (zPC.fr (M' := (zsI (zsI (zsI M 336 6 (0 : Int32)) 336 7 (-1 : Int32)) 336 47 (0 : Int32))) (zPC.fr (M' := (zsI (zsI M 336 6 (0 : Int32)) 336 7 (-1 : Int32))) (zPC.fr (M' := (zsI M 336 6 (0 : Int32))) pC (zEq.put rfl)) (zEq.put rfl)) (zEq.put rfl)) (w4F.eq rfl)) (zEq.put rfl)) (zPF.fr (M' := (zsI w4M 336 5 (0 : Int32))) (zPF.fr (zPF.fr (M' := (zsI (zsI (zsI M 336 6 (0 : Int32)) 336 7 (-1 : Int32)) 336 47 (0 : Int32))) (zPF.fr (M' := (zsI (zsI M 336 6 (0 : Int32)) 336 7 (-1 : Int32))) (zPF.fr (M' := (zsI M 336 6 (0 : Int32))) pF (zEq.put rfl) rfl) (zEq.put rfl) rfl) (zEq.put rfl) rfl) (w4F.eq rfl) w4J) (zEq.put rfl) rfl))
      · refine zs_icmp_neF (pc := 14) t342_14 rfl lin1 (by omega) ?_
        refine zs_aload_n (pc := 17) t342_17 rfl ?_
        refine zs_get (pc := 18) t342_18 (by decide) (zk1 (w4s.k fk_zMm_336)) (zfvi rfl rfl) ?_
        refine zs_aload_n (pc := 21) t342_21 rfl ?_
        have w9 := ib336_5 hI
        refine zs_get (pc := 22) t342_22 (by decide) (zk1 (w4s.k fk_zMm_336)) (zfvi rfl ((w4F 336 5 rfl).trans ((zIoj (by decide)).trans ((zIoj (by decide)).trans ((zIoj (by decide)).trans rfl))))) ?_
        by_cases w10 : (zI M 336 5).toInt ≤ (zI w4M 336 6).toInt
        · refine zs_icmp_geT (pc := 25) t342_25 rfl rfl (by omega) ?_
          refine zs_aload_n (pc := 46) t342_46 rfl ?_
          refine zs_invV (pc := 47) (k := 336) (as' := []) (st := []) t342_47 mf253 rfl rfl (Or.inl ⟨by decide, (zk1 (w4s.k fk_zMm_336))⟩) ⟨by decide, by decide, Nat.le_of_ble_eq_true rfl, Nat.le_of_ble_eq_true rfl⟩ (zs_in (by decide) mf253 (Nat.le_of_ble_eq_true rfl) ?_) (fun _ _ q => q)
          show zGo X l 0 0 0 253 0 [(0, .ref 336)] [] w4M _
          refine zs_aload_n (pc := 0) t253_0 rfl ?_
          refine zs_iconst (pc := 1) t253_1 (v := 0) (by decide) ?_
          have w11 : zIv mLo mHi (zsI w4M 336 5 (0 : Int32)) := zIv.put w4I (show 0 ≤ (0 : Int32).toInt ∧ (0 : Int32).toInt ≤ 500 from ⟨by decide, by decide⟩)
          refine zs_putI (pc := 2) t253_2 (zk1 (w4s.k fk_zMm_336)) rfl ?_
          refine zs_aload_n (pc := 5) t253_5 rfl ?_
          refine zs_get (pc := 6) t253_6 (by decide) (zk1 (w4s.k fk_zMm_336)) (zfvi rfl ((zIoj (by decide)).trans rfl)) ?_
          refine zs_iconst (pc := 9) t253_9 (v := -1) (by decide) ?_
          refine zs_icmp_neF (pc := 10) t253_10 rfl lin1 (by omega) ?_
          refine zs_iconst (pc := 13) t253_13 (v := 1) (by decide) ?_
          refine zs_goto (pc := 14) t253_14 ?_
          refine zs_iret (pc := 18) t253_18 mr253 (by decide) ?_
          show zGo X l 5 0 0 342 50 [(0, .ref 336)] [.int (1 : Int32)] (zsI w4M 336 5 (0 : Int32)) _
          refine zs_if_neT (pc := 50) t342_50 li1 (by decide) ?_
          refine zs_iconst (pc := 55) t342_55 (v := 0) (by decide) ?_
          refine zs_istore_n (pc := 56) t342_56 (ls' := [(1, .int (0 : Int32)), (0, .ref 336)]) (zml mf342 (by decide)) rfl ?_
          have w12L : ∀ (m : Nat) (w12x1 : Int32) (w12M : zM), (0 ≤ w12x1.toInt ∧ w12x1.toInt ≤ 20) → zSk zMm w12M → zIv mLo mHi w12M → zFr [(336, 363, none)] (zsI w4M 336 5 (0 : Int32)) w12M → zPR w12M → zPC w12M → zPF w12M → 20 - w12x1.toInt ≤ (m : Int) → zGo X l 5 0 0 342 57 [(0, .ref 336), (1, .int w12x1)] [] w12M Q := by
            intro m
            induction m using Nat.strongRecOn with
            | ind w12m w12ih =>
              intro w12x1 w12M w12b1 w12s w12I w12F w12PR w12PC w12PF w12q
              refine zs_iload_n (pc := 57) t342_57 rfl ?_
              refine zs_aload_n (pc := 58) t342_58 rfl ?_
              have w13 := ib336_47 w12I
              refine zs_get (pc := 59) t342_59 (by decide) (zk1 (w12s.k fk_zMm_336)) (zfvi rfl rfl) ?_
              by_cases w14 : (zI w12M 336 47).toInt ≤ w12x1.toInt
              · refine zs_icmp_geT (pc := 62) t342_62 rfl rfl (by omega) ?_
                refine zs_aload_n (pc := 82) t342_82 rfl ?_
                refine zs_iload_n (pc := 83) t342_83 rfl ?_
                refine zs_aload_n (pc := 84) t342_84 rfl ?_
                refine zs_get (pc := 85) t342_85 (by decide) (zk1 (w12s.k fk_zMm_336)) (zfvi rfl rfl) ?_
                by_cases w15 : (zI w12M 336 47).toInt ≤ w12x1.toInt
                · refine zs_icmp_geT (pc := 88) t342_88 rfl rfl (by omega) ?_
                  refine zs_iconst (pc := 95) t342_95 (v := -1) (by decide) ?_
                  have w16 : zIv mLo mHi (zsI w12M 336 48 (-1 : Int32)) := zIv.put w12I (show (-2147483648) ≤ (-1 : Int32).toInt ∧ (-1 : Int32).toInt ≤ 2147483647 from zrg (-1 : Int32))
                  refine zs_putI (pc := 96) t342_96 (zk1 (w12s.k fk_zMm_336)) rfl ?_
                  refine zs_iload_n (pc := 99) t342_99 rfl ?_
                  exact zs_iret (pc := 100) t342_100 mr342 rfl (hQ _ _ w12s w16 ((((((((zFr.refl).put rfl).put rfl).put rfl).trans (w4F.mono rfl)).put rfl).trans (w12F.mono rfl)).put rfl) (zPR.fr (M' := (zsI w12M 336 48 (-1 : Int32))) w12PR (zEq.put rfl)) (zPC.fr (M' := (zsI w12M 336 48 (-1 : Int32))) w12PC (zEq.put rfl)) (zPF.fr (M' := (zsI w12M 336 48 (-1 : Int32))) w12PF (zEq.put rfl) rfl))
                · refine zs_icmp_geF (pc := 88) t342_88 rfl rfl (by omega) ?_
                  refine zs_iload_n (pc := 91) t342_91 rfl ?_
                  refine zs_goto (pc := 92) t342_92 ?_
                  have w17 : zIv mLo mHi (zsI w12M 336 48 w12x1) := zIv.put w12I (show (-2147483648) ≤ w12x1.toInt ∧ w12x1.toInt ≤ 2147483647 from zrg w12x1)
                  refine zs_putI (pc := 96) t342_96 (zk1 (w12s.k fk_zMm_336)) rfl ?_
                  refine zs_iload_n (pc := 99) t342_99 rfl ?_
                  exact zs_iret (pc := 100) t342_100 mr342 rfl (hQ _ _ w12s w17 ((((((((zFr.refl).put rfl).put rfl).put rfl).trans (w4F.mono rfl)).put rfl).trans (w12F.mono rfl)).put rfl) (zPR.fr (M' := (zsI w12M 336 48 w12x1)) w12PR (zEq.put rfl)) (zPC.fr (M' := (zsI w12M 336 48 w12x1)) w12PC (zEq.put rfl)) (zPF.fr (M' := (zsI w12M 336 48 w12x1)) w12PF (zEq.put rfl) rfl))
              · refine zs_icmp_geF (pc := 62) t342_62 rfl rfl (by omega) ?_
                refine zs_aload_n (pc := 65) t342_65 rfl ?_
                refine zs_iconst (pc := 66) t342_66 (v := 4) (by decide) ?_
                refine zs_iload_n (pc := 67) t342_67 rfl ?_
                obtain ⟨w18v, w18⟩ : ∃ v, (4 : Int32) * w12x1 = v := ⟨_, rfl⟩
                have w18g : w18v.toInt = 4 * w12x1.toInt := by rw [← w18]; exact zmulc li4 rfl (by omega) (by omega)
                refine zs_imul (pc := 68) t342_68 (c := w18v) w18 ?_
                refine zs_invV (pc := 69) (k := 336) (as' := [.int w18v]) (st := []) t342_69 mf344 rfl rfl (Or.inl ⟨by decide, (zk1 (w12s.k fk_zMm_336))⟩) ⟨by decide, by decide, Nat.le_of_ble_eq_true rfl, Nat.le_of_ble_eq_true rfl⟩ (K344 w12s w12I w12PR w12PC w12PF ⟨by omega, by omega⟩ ?_) (fun _ _ q => q)
                intro w19M w19v w19s w19I w19F w19PR w19PC w19PF
                have w19g := zrg w19v
                show zGo X l 5 0 0 342 72 [(0, .ref 336), (1, .int w12x1)] [.int w19v] w19M _
                refine zs_iconst (pc := 72) t342_72 (v := -1) (by decide) ?_
                by_cases w20 : w19v.toInt = (-1)
                · refine zs_icmp_eqT (pc := 73) t342_73 rfl lin1 (by omega) ?_
                  refine zs_aload_n (pc := 82) t342_82 rfl ?_
                  refine zs_iload_n (pc := 83) t342_83 rfl ?_
                  refine zs_aload_n (pc := 84) t342_84 rfl ?_
                  have w21 := ib336_47 w19I
                  refine zs_get (pc := 85) t342_85 (by decide) (zk1 (w19s.k fk_zMm_336)) (zfvi rfl rfl) ?_
                  by_cases w22 : (zI w19M 336 47).toInt ≤ w12x1.toInt
                  · refine zs_icmp_geT (pc := 88) t342_88 rfl rfl (by omega) ?_
                    refine zs_iconst (pc := 95) t342_95 (v := -1) (by decide) ?_
                    have w23 : zIv mLo mHi (zsI w19M 336 48 (-1 : Int32)) := zIv.put w19I (show (-2147483648) ≤ (-1 : Int32).toInt ∧ (-1 : Int32).toInt ≤ 2147483647 from zrg (-1 : Int32))
                    refine zs_putI (pc := 96) t342_96 (zk1 (w19s.k fk_zMm_336)) rfl ?_
                    refine zs_iload_n (pc := 99) t342_99 rfl ?_
                    exact zs_iret (pc := 100) t342_100 mr342 rfl (hQ _ _ w19s w23 (((((((((zFr.refl).put rfl).put rfl).put rfl).trans (w4F.mono rfl)).put rfl).trans (w12F.mono rfl)).trans (w19F.mono rfl)).put rfl) (zPR.fr (M' := (zsI w19M 336 48 (-1 : Int32))) w19PR (zEq.put rfl)) (zPC.fr (M' := (zsI w19M 336 48 (-1 : Int32))) w19PC (zEq.put rfl)) (zPF.fr (M' := (zsI w19M 336 48 (-1 : Int32))) w19PF (zEq.put rfl) rfl))
                  · refine zs_icmp_geF (pc := 88) t342_88 rfl rfl (by omega) ?_
                    refine zs_iload_n (pc := 91) t342_91 rfl ?_
                    refine zs_goto (pc := 92) t342_92 ?_
                    have w24 : zIv mLo mHi (zsI w19M 336 48 w12x1) := zIv.put w19I (show (-2147483648) ≤ w12x1.toInt ∧ w12x1.toInt ≤ 2147483647 from zrg w12x1)
                    refine zs_putI (pc := 96) t342_96 (zk1 (w19s.k fk_zMm_336)) rfl ?_
                    refine zs_iload_n (pc := 99) t342_99 rfl ?_
                    exact zs_iret (pc := 100) t342_100 mr342 rfl (hQ _ _ w19s w24 (((((((((zFr.refl).put rfl).put rfl).put rfl).trans (w4F.mono rfl)).put rfl).trans (w12F.mono rfl)).trans (w19F.mono rfl)).put rfl) (zPR.fr (M' := (zsI w19M 336 48 w12x1)) w19PR (zEq.put rfl)) (zPC.fr (M' := (zsI w19M 336 48 w12x1)) w19PC (zEq.put rfl)) (zPF.fr (M' := (zsI w19M 336 48 w12x1)) w19PF (zEq.put rfl) rfl))
                · refine zs_icmp_eqF (pc := 73) t342_73 rfl lin1 (by omega) ?_
                  obtain ⟨w25v, w25e, w25⟩ := ziadd (a := w12x1) (b := Int32.ofInt 1) rfl (show (Int32.ofInt 1).toInt = 1 by decide) (by omega) (by omega)
                  refine zs_iinc (pc := 76) t342_76 (ls' := [(1, .int w25v), (0, .ref 336)]) (zml mf342 (by decide)) rfl (c := w25v) w25e rfl ?_
                  refine zs_goto (pc := 79) t342_79 ?_
                  refine zGo.locals (ls' := [(0, .ref 336), (1, .int w25v)]) (by simp) ?_
                  have w26 := w25
                  exact w12ih (w12m - 1) (by omega) w25v w19M ⟨by omega, by omega⟩ w19s w19I (((zFr.refl).trans (w12F.mono rfl)).trans (w19F.mono rfl)) w19PR w19PC w19PF (by omega)
          refine zGo.locals (ls' := [(0, .ref 336), (1, .int (0 : Int32))]) (by simp) ?_
          have w27 := li0
          exact w12L ((20 - 0 : Int).toNat) (0 : Int32) (zsI w4M 336 5 (0 : Int32)) ⟨by decide, by decide⟩ w4s w11 zFr.refl (zPR.fr (M' := (zsI w4M 336 5 (0 : Int32))) (zPR.fr (zPR.fr (M' := (zsI (zsI (zsI M 336 6 (0 : Int32)) 336 7 (-1 : Int32)) 336 47 (0 : Int32))) (zPR.fr (M' := (zsI (zsI M 336 6 (0 : Int32)) 336 7 (-1 : Int32))) (zPR.fr (M' := (zsI M 336 6 (0 : Int32))) pR (zEq.put rfl)) (zEq.put rfl)) (zEq.put rfl)) (w4F.eq rfl)) (zEq.put rfl)) (zPC.fr (M' := (zsI w4M 336 5 (0 : Int32))) (zPC.fr (zPC.fr (M' := (zsI (zsI (zsI M 336 6 (0 : Int32)) 336 7 (-1 : Int32)) 336 47 (0 : Int32))) (zPC.fr (M' := (zsI (zsI M 336 6 (0 : Int32)) 336 7 (-1 : Int32))) (zPC.fr (M' := (zsI M 336 6 (0 : Int32))) pC (zEq.put rfl)) (zEq.put rfl)) (zEq.put rfl)) (w4F.eq rfl)) (zEq.put rfl)) (zPF.fr (M' := (zsI w4M 336 5 (0 : Int32))) (zPF.fr (zPF.fr (M' := (zsI (zsI (zsI M 336 6 (0 : Int32)) 336 7 (-1 : Int32)) 336 47 (0 : Int32))) (zPF.fr (M' := (zsI (zsI M 336 6 (0 : Int32)) 336 7 (-1 : Int32))) (zPF.fr (M' := (zsI M 336 6 (0 : Int32))) pF (zEq.put rfl) rfl) (zEq.put rfl) rfl) (zEq.put rfl) rfl) (w4F.eq rfl) w4J) (zEq.put rfl) rfl) (by omega)
        · refine zs_icmp_geF (pc := 25) t342_25 rfl rfl (by omega) ?_
          refine zs_aload_n (pc := 28) t342_28 rfl ?_
          have w28 : (zI w4M 336 7).toInt = (zI w4M 336 7).toInt := (congrArg Int32.toInt rfl).trans rfl
          have w29 : (zI w4M 336 6).toInt = (zI w4M 336 6).toInt := (congrArg Int32.toInt rfl).trans rfl
          have w30 : (zI w4M 336 5).toInt = (zI M 336 5).toInt := (congrArg Int32.toInt ((w4F 336 5 rfl).trans ((zIoj (by decide)).trans ((zIoj (by decide)).trans ((zIoj (by decide)).trans rfl))))).trans rfl
          have w31 : (zI w4M 336 6).toInt = (zI w4M 336 6).toInt := (congrArg Int32.toInt rfl).trans rfl
          refine zs_invV (pc := 29) (k := 336) (as' := []) (st := []) t342_29 mf343 rfl rfl (Or.inl ⟨by decide, (zk1 (w4s.k fk_zMm_336))⟩) ⟨by decide, by decide, Nat.le_of_ble_eq_true rfl, Nat.le_of_ble_eq_true rfl⟩ (K343 w4s w4I (by omega) (by omega) ?_) (fun _ _ q => q)
          intro w32M w32v w32s w32I w32F w32J w32t0 w32a w32b
          have w33 := ib336_7 w32I
          have w34 := ib336_6 w32I
          show zGo X l 5 0 0 342 32 [(0, .ref 336)] [.int w32v] w32M _
          by_cases w35 : w32v.toInt ≠ 0
          · refine zs_if_neT (pc := 32) t342_32 rfl (by omega) ?_
            refine zGo.locals (ls' := [(0, .ref 336)]) (by simp) ?_
            have w36 : (zI w32M 336 6).toInt = (zI w32M 336 6).toInt := (congrArg Int32.toInt rfl).trans rfl
            have w37 : (zI w32M 336 7).toInt = (zI w32M 336 7).toInt := (congrArg Int32.toInt rfl).trans rfl
            exact w4ih (w4m - 1) (by omega) w32M w32s w32I (((zFr.refl).trans (w4F.mono rfl)).trans (w32F.mono rfl)) (w32J.trans w4J) (by omega)
          · refine zs_if_neF (pc := 32) t342_32 rfl (by omega) ?_
            refine zs_aload_n (pc := 35) t342_35 rfl ?_
            refine zs_aload_n (pc := 36) t342_36 rfl ?_
            refine zs_get (pc := 37) t342_37 (by decide) (zk1 (w32s.k fk_zMm_336)) (zfvi rfl ((w32F 336 5 rfl).trans ((w4F 336 5 rfl).trans ((zIoj (by decide)).trans ((zIoj (by decide)).trans ((zIoj (by decide)).trans rfl)))))) ?_
            have w38 : zIv mLo mHi (zsI w32M 336 6 (zI M 336 5)) := zIv.put w32I (show 0 ≤ (zI M 336 5).toInt ∧ (zI M 336 5).toInt ≤ 500 from ⟨by omega, by omega⟩)
            refine zs_putI (pc := 40) t342_40 (zk1 (w32s.k fk_zMm_336)) rfl ?_
            refine zs_goto (pc := 43) t342_43 ?_
            refine zGo.locals (ls' := [(0, .ref 336)]) (by simp) ?_
            have w39 : (zI (zsI w32M 336 6 (zI M 336 5)) 336 6).toInt = (zI M 336 5).toInt := (congrArg Int32.toInt zIs).trans rfl
            have w40 : (zI (zsI w32M 336 6 (zI M 336 5)) 336 7).toInt = (zI w32M 336 7).toInt := (congrArg Int32.toInt ((zIoj (by decide)).trans rfl)).trans rfl
            exact w4ih (w4m - 1) (by omega) (zsI w32M 336 6 (zI M 336 5)) w32s w38 ((((zFr.refl).trans (w4F.mono rfl)).trans (w32F.mono rfl)).put rfl) (w32J.trans w4J) (by omega)
  refine zGo.locals (ls' := [(0, .ref 336)]) (by simp) ?_
  have w41 : (zI (zsI (zsI (zsI M 336 6 (0 : Int32)) 336 7 (-1 : Int32)) 336 47 (0 : Int32)) 336 6).toInt = 0 := (congrArg Int32.toInt ((zIoj (by decide)).trans ((zIoj (by decide)).trans zIs))).trans li0
  have w42 : (zI (zsI (zsI (zsI M 336 6 (0 : Int32)) 336 7 (-1 : Int32)) 336 47 (0 : Int32)) 336 7).toInt = (-1) := (congrArg Int32.toInt ((zIoj (by decide)).trans zIs)).trans lin1
  exact w4L ((501 - (zI (zsI (zsI (zsI M 336 6 (0 : Int32)) 336 7 (-1 : Int32)) 336 47 (0 : Int32)) 336 6).toInt - 501 * (min (zI (zsI (zsI (zsI M 336 6 (0 : Int32)) 336 7 (-1 : Int32)) 336 47 (0 : Int32)) 336 7).toInt 0) : Int).toNat) (zsI (zsI (zsI M 336 6 (0 : Int32)) 336 7 (-1 : Int32)) 336 47 (0 : Int32)) hs w3 zFr.refl rfl (by omega)
theorem K346 {X : zX} {l : Launch} {M : zM} {Q : Option Value → zM → Prop} (hs : zSk zMm M) (hI : zIv mLo mHi M) (pR : zPR M) (pC : zPC M) (pF : zPF M) (hQ : ∀ (M' : zM) (v : Int32), zSk zMm M' → zIv mLo mHi M' → zFr [(336, 363, none)] M M' → zPR M' → zPC M' → zPF M' → Q (some (.int v)) M') : zCall X l 2 0 0 346 [.ref 336] M Q := by
  refine zs_in (by decide) mf346 (Nat.le_of_ble_eq_true rfl) ?_
  show zGo X l 2 0 0 346 0 [(0, .ref 336)] [] M _
  refine zs_aload_n (pc := 0) t346_0 rfl ?_
  refine zs_iconst (pc := 1) t346_1 (v := 0) (by decide) ?_
  have w1 : zIv mLo mHi (zsI M 336 50 (0 : Int32)) := zIv.put hI (show 0 ≤ (0 : Int32).toInt ∧ (0 : Int32).toInt ≤ 150 from ⟨by decide, by decide⟩)
  refine zs_putI (pc := 2) t346_2 (zk1 (hs.k fk_zMm_336)) rfl ?_
  refine zs_iconst (pc := 5) t346_5 (v := 0) (by decide) ?_
  refine zs_istore_n (pc := 6) t346_6 (ls' := [(1, .int (0 : Int32)), (0, .ref 336)]) (zml mf346 (by decide)) rfl ?_
  have w2L : ∀ (m : Nat) (w2x1 : Int32) (w2M : zM), (0 ≤ w2x1.toInt ∧ w2x1.toInt ≤ 8) → zSk zMm w2M → zIv mLo mHi w2M → zFr [(363, 363, none), (336, 336, some 50)] (zsI M 336 50 (0 : Int32)) w2M → zJ w2M 351 = zJ (zsI M 336 50 (0 : Int32)) 351 → ((zI w2M 336 50).toInt ≤ 6 * w2x1.toInt) → 8 - w2x1.toInt ≤ (m : Int) → zGo X l 2 0 0 346 7 [(0, .ref 336), (1, .int w2x1)] [] w2M Q := by
    intro m
    induction m using Nat.strongRecOn with
    | ind w2m w2ih =>
      intro w2x1 w2M w2b1 w2s w2I w2F w2J w2r0 w2q
      have w3 := ib336_50 w2I
      refine zs_iload_n (pc := 7) t346_7 rfl ?_
      refine zs_aload_n (pc := 8) t346_8 rfl ?_
      refine zs_get (pc := 9) t346_9 (by decide) (zk1 (w2s.k fk_zMm_336)) (w2s.p rfl fv_zMm_336_0) ?_
      refine zs_iconst (pc := 12) t346_12 (v := 0) (by decide) ?_
      have w4 := ibA0 hI
      refine zs_iald (pc := 13) t346_13 (j := 0) (by decide) (zk1 (w2s.k fk_zMm_337)) li0 (zk2 (w2s.k fk_zMm_337) (by decide)) ((w2F 337 0 rfl).trans ((zIo (by decide)).trans rfl)) ?_
      by_cases w5 : (zI M 337 0).toInt ≤ w2x1.toInt
      · refine zs_icmp_geT (pc := 14) t346_14 rfl rfl (by omega) ?_
        refine zs_aload_n (pc := 40) t346_40 rfl ?_
        refine zs_bipush (pc := 41) t346_41 (v := 115) (by decide) ?_
        have w6 : (115 : Int32).toInt = 115 := li115
        have w7 : (zI w2M 336 50).toInt = (zI w2M 336 50).toInt := (congrArg Int32.toInt rfl).trans rfl
        have w8 : (zI w2M 336 50).toInt = (zI w2M 336 50).toInt := (congrArg Int32.toInt rfl).trans rfl
        refine zs_invV (pc := 43) (k := 336) (as' := [.int (115 : Int32)]) (st := []) t346_43 mf347 rfl rfl (Or.inl ⟨by decide, (zk1 (w2s.k fk_zMm_336))⟩) ⟨by decide, by decide, Nat.le_of_ble_eq_true rfl, Nat.le_of_ble_eq_true rfl⟩ (K347 w2s w2I (by omega) ?_) (fun _ _ q => q)
        intro w9M w9s w9I w9F w9J w9t0
        have w10 := ib336_50 w9I
        show zGo X l 2 0 0 346 46 [(0, .ref 336), (1, .int w2x1)] [] w9M _
        refine zs_iconst (pc := 46) t346_46 (v := 5) (by decide) ?_
        refine zs_istore_n (pc := 47) t346_47 (ls' := [(1, .int (5 : Int32)), (0, .ref 336)]) (zml mf346 (by decide)) rfl ?_
        have w11L : ∀ (m : Nat) (w11x1 : Int32) (w11M : zM), (5 ≤ w11x1.toInt ∧ w11x1.toInt ≤ 9) → zSk zMm w11M → zIv mLo mHi w11M → zFr [(363, 363, none), (336, 336, some 50)] w9M w11M → zJ w11M 351 = zJ w9M 351 → ((zI w11M 336 50).toInt ≤ 49 + 5 * (w11x1.toInt - 5)) → 9 - w11x1.toInt ≤ (m : Int) → zGo X l 2 0 0 346 48 [(0, .ref 336), (1, .int w11x1)] [] w11M Q := by
          intro m
          induction m using Nat.strongRecOn with
          | ind w11m w11ih =>
            intro w11x1 w11M w11b1 w11s w11I w11F w11J w11r0 w11q
            have w12 := ib336_50 w11I
            refine zs_iload_n (pc := 48) t346_48 rfl ?_
            refine zs_bipush (pc := 49) t346_49 (v := 8) (by decide) ?_
            by_cases w13 : 8 < w11x1.toInt
            · refine zs_icmp_gtT (pc := 51) t346_51 rfl li8 (by omega) ?_
              refine zs_aload_n (pc := 83) t346_83 rfl ?_
              refine zs_bipush (pc := 84) t346_84 (v := 103) (by decide) ?_
              have w14 : (103 : Int32).toInt = 103 := li103
              have w15 : (zI w11M 336 50).toInt = (zI w11M 336 50).toInt := (congrArg Int32.toInt rfl).trans rfl
              have w16 : (zI w11M 336 50).toInt = (zI w11M 336 50).toInt := (congrArg Int32.toInt rfl).trans rfl
              refine zs_invV (pc := 86) (k := 336) (as' := [.int (103 : Int32)]) (st := []) t346_86 mf347 rfl rfl (Or.inl ⟨by decide, (zk1 (w11s.k fk_zMm_336))⟩) ⟨by decide, by decide, Nat.le_of_ble_eq_true rfl, Nat.le_of_ble_eq_true rfl⟩ (K347 w11s w11I (by omega) ?_) (fun _ _ q => q)
              intro w17M w17s w17I w17F w17J w17t0
              have w18 := ib336_50 w17I
              show zGo X l 2 0 0 346 89 [(0, .ref 336), (1, .int w11x1)] [] w17M _
              refine zs_aload_n (pc := 89) t346_89 rfl ?_
              refine zs_aload_n (pc := 90) t346_90 rfl ?_
              refine zs_get (pc := 91) t346_91 (by decide) (zk1 (w17s.k fk_zMm_336)) (w17s.p rfl fv_zMm_336_0) ?_
              refine zs_bipush (pc := 94) t346_94 (v := 9) (by decide) ?_
              have w19 := ibA9 hI
              refine zs_iald (pc := 96) t346_96 (j := 9) (by decide) (zk1 (w17s.k fk_zMm_337)) li9 (zk2 (w17s.k fk_zMm_337) (by decide)) ((w17F 337 9 rfl).trans ((w11F 337 9 rfl).trans ((w9F 337 9 rfl).trans ((w2F 337 9 rfl).trans ((zIo (by decide)).trans rfl))))) ?_
              refine zs_bipush (pc := 97) t346_97 (v := 59) (by decide) ?_
              have w20 : (59 : Int32).toInt = 59 := li59
              have w21 : (zI w17M 336 50).toInt = (zI w17M 336 50).toInt := (congrArg Int32.toInt rfl).trans rfl
              have w22 : (zI w17M 336 50).toInt = (zI w17M 336 50).toInt := (congrArg Int32.toInt rfl).trans rfl
              refine zs_invV (pc := 99) (k := 336) (as' := [.int (zI M 337 9), .int (59 : Int32)]) (st := []) t346_99 mf348 rfl rfl (Or.inl ⟨by decide, (zk1 (w17s.k fk_zMm_336))⟩) ⟨by decide, by decide, Nat.le_of_ble_eq_true rfl, Nat.le_of_ble_eq_true rfl⟩ (K348 w17s w17I ⟨by omega, by omega⟩ (by omega) ?_) (fun _ _ q => q)
              intro w23M w23s w23I w23F w23J w23t0
              have w24 := ib336_50 w23I
              show zGo X l 2 0 0 346 102 [(0, .ref 336), (1, .int w11x1)] [] w23M _
              refine zs_aload_n (pc := 102) t346_102 rfl ?_
              refine zs_bipush (pc := 103) t346_103 (v := 119) (by decide) ?_
              have w25 : (119 : Int32).toInt = 119 := li119
              have w26 : (zI w23M 336 50).toInt = (zI w23M 336 50).toInt := (congrArg Int32.toInt rfl).trans rfl
              have w27 : (zI w23M 336 50).toInt = (zI w23M 336 50).toInt := (congrArg Int32.toInt rfl).trans rfl
              refine zs_invV (pc := 105) (k := 336) (as' := [.int (119 : Int32)]) (st := []) t346_105 mf347 rfl rfl (Or.inl ⟨by decide, (zk1 (w23s.k fk_zMm_336))⟩) ⟨by decide, by decide, Nat.le_of_ble_eq_true rfl, Nat.le_of_ble_eq_true rfl⟩ (K347 w23s w23I (by omega) ?_) (fun _ _ q => q)
              intro w28M w28s w28I w28F w28J w28t0
              have w29 := ib336_50 w28I
              show zGo X l 2 0 0 346 108 [(0, .ref 336), (1, .int w11x1)] [] w28M _
              refine zs_aload_n (pc := 108) t346_108 rfl ?_
              refine zs_aload_n (pc := 109) t346_109 rfl ?_
              refine zs_get (pc := 110) t346_110 (by decide) (zk1 (w28s.k fk_zMm_336)) (w28s.p rfl fv_zMm_336_0) ?_
              refine zs_bipush (pc := 113) t346_113 (v := 10) (by decide) ?_
              have w30 := ibA10 hI
              refine zs_iald (pc := 115) t346_115 (j := 10) (by decide) (zk1 (w28s.k fk_zMm_337)) li10 (zk2 (w28s.k fk_zMm_337) (by decide)) ((w28F 337 10 rfl).trans ((w23F 337 10 rfl).trans ((w17F 337 10 rfl).trans ((w11F 337 10 rfl).trans ((w9F 337 10 rfl).trans ((w2F 337 10 rfl).trans ((zIo (by decide)).trans rfl))))))) ?_
              refine zs_bipush (pc := 116) t346_116 (v := 44) (by decide) ?_
              have w31 : (44 : Int32).toInt = 44 := li44
              have w32 : (zI w28M 336 50).toInt = (zI w28M 336 50).toInt := (congrArg Int32.toInt rfl).trans rfl
              have w33 : (zI w28M 336 50).toInt = (zI w28M 336 50).toInt := (congrArg Int32.toInt rfl).trans rfl
              refine zs_invV (pc := 118) (k := 336) (as' := [.int (zI M 337 10), .int (44 : Int32)]) (st := []) t346_118 mf348 rfl rfl (Or.inl ⟨by decide, (zk1 (w28s.k fk_zMm_336))⟩) ⟨by decide, by decide, Nat.le_of_ble_eq_true rfl, Nat.le_of_ble_eq_true rfl⟩ (K348 w28s w28I ⟨by omega, by omega⟩ (by omega) ?_) (fun _ _ q => q)
              intro w34M w34s w34I w34F w34J w34t0
              have w35 := ib336_50 w34I
              show zGo X l 2 0 0 346 121 [(0, .ref 336), (1, .int w11x1)] [] w34M _
              refine zs_aload_n (pc := 121) t346_121 rfl ?_
              refine zs_aload_n (pc := 122) t346_122 rfl ?_
              refine zs_get (pc := 123) t346_123 (by decide) (zk1 (w34s.k fk_zMm_336)) (w34s.p rfl fv_zMm_336_0) ?_
              refine zs_bipush (pc := 126) t346_126 (v := 11) (by decide) ?_
              have w36 := ibA11 hI
              refine zs_iald (pc := 128) t346_128 (j := 11) (by decide) (zk1 (w34s.k fk_zMm_337)) li11 (zk2 (w34s.k fk_zMm_337) (by decide)) ((w34F 337 11 rfl).trans ((w28F 337 11 rfl).trans ((w23F 337 11 rfl).trans ((w17F 337 11 rfl).trans ((w11F 337 11 rfl).trans ((w9F 337 11 rfl).trans ((w2F 337 11 rfl).trans ((zIo (by decide)).trans rfl)))))))) ?_
              refine zs_bipush (pc := 129) t346_129 (v := 59) (by decide) ?_
              have w37 : (59 : Int32).toInt = 59 := li59
              have w38 : (zI w34M 336 50).toInt = (zI w34M 336 50).toInt := (congrArg Int32.toInt rfl).trans rfl
              have w39 : (zI w34M 336 50).toInt = (zI w34M 336 50).toInt := (congrArg Int32.toInt rfl).trans rfl
              refine zs_invV (pc := 131) (k := 336) (as' := [.int (zI M 337 11), .int (59 : Int32)]) (st := []) t346_131 mf348 rfl rfl (Or.inl ⟨by decide, (zk1 (w34s.k fk_zMm_336))⟩) ⟨by decide, by decide, Nat.le_of_ble_eq_true rfl, Nat.le_of_ble_eq_true rfl⟩ (K348 w34s w34I ⟨by omega, by omega⟩ (by omega) ?_) (fun _ _ q => q)
              intro w40M w40s w40I w40F w40J w40t0
              have w41 := ib336_50 w40I
              show zGo X l 2 0 0 346 134 [(0, .ref 336), (1, .int w11x1)] [] w40M _
              refine zs_aload_n (pc := 134) t346_134 rfl ?_
              refine zs_bipush (pc := 135) t346_135 (v := 113) (by decide) ?_
              have w42 : (113 : Int32).toInt = 113 := li113
              have w43 : (zI w40M 336 50).toInt = (zI w40M 336 50).toInt := (congrArg Int32.toInt rfl).trans rfl
              have w44 : (zI w40M 336 50).toInt = (zI w40M 336 50).toInt := (congrArg Int32.toInt rfl).trans rfl
              refine zs_invV (pc := 137) (k := 336) (as' := [.int (113 : Int32)]) (st := []) t346_137 mf347 rfl rfl (Or.inl ⟨by decide, (zk1 (w40s.k fk_zMm_336))⟩) ⟨by decide, by decide, Nat.le_of_ble_eq_true rfl, Nat.le_of_ble_eq_true rfl⟩ (K347 w40s w40I (by omega) ?_) (fun _ _ q => q)
              intro w45M w45s w45I w45F w45J w45t0
              have w46 := ib336_50 w45I
              show zGo X l 2 0 0 346 140 [(0, .ref 336), (1, .int w11x1)] [] w45M _
              refine zs_aload_n (pc := 140) t346_140 rfl ?_
              refine zs_aload_n (pc := 141) t346_141 rfl ?_
              refine zs_get (pc := 142) t346_142 (by decide) (zk1 (w45s.k fk_zMm_336)) (w45s.p rfl fv_zMm_336_0) ?_
              refine zs_bipush (pc := 145) t346_145 (v := 12) (by decide) ?_
              have w47 := ibA12 hI
              refine zs_iald (pc := 147) t346_147 (j := 12) (by decide) (zk1 (w45s.k fk_zMm_337)) li12 (zk2 (w45s.k fk_zMm_337) (by decide)) ((w45F 337 12 rfl).trans ((w40F 337 12 rfl).trans ((w34F 337 12 rfl).trans ((w28F 337 12 rfl).trans ((w23F 337 12 rfl).trans ((w17F 337 12 rfl).trans ((w11F 337 12 rfl).trans ((w9F 337 12 rfl).trans ((w2F 337 12 rfl).trans ((zIo (by decide)).trans rfl)))))))))) ?_
              refine zs_bipush (pc := 148) t346_148 (v := 44) (by decide) ?_
              have w48 : (44 : Int32).toInt = 44 := li44
              have w49 : (zI w45M 336 50).toInt = (zI w45M 336 50).toInt := (congrArg Int32.toInt rfl).trans rfl
              have w50 : (zI w45M 336 50).toInt = (zI w45M 336 50).toInt := (congrArg Int32.toInt rfl).trans rfl
              refine zs_invV (pc := 150) (k := 336) (as' := [.int (zI M 337 12), .int (44 : Int32)]) (st := []) t346_150 mf348 rfl rfl (Or.inl ⟨by decide, (zk1 (w45s.k fk_zMm_336))⟩) ⟨by decide, by decide, Nat.le_of_ble_eq_true rfl, Nat.le_of_ble_eq_true rfl⟩ (K348 w45s w45I ⟨by omega, by omega⟩ (by omega) ?_) (fun _ _ q => q)
              intro w51M w51s w51I w51F w51J w51t0
              have w52 := ib336_50 w51I
              show zGo X l 2 0 0 346 153 [(0, .ref 336), (1, .int w11x1)] [] w51M _
              refine zs_aload_n (pc := 153) t346_153 rfl ?_
              refine zs_aload_n (pc := 154) t346_154 rfl ?_
              refine zs_get (pc := 155) t346_155 (by decide) (zk1 (w51s.k fk_zMm_336)) (w51s.p rfl fv_zMm_336_0) ?_
              refine zs_bipush (pc := 158) t346_158 (v := 13) (by decide) ?_
              have w53 := ibA13 hI
              refine zs_iald (pc := 160) t346_160 (j := 13) (by decide) (zk1 (w51s.k fk_zMm_337)) li13 (zk2 (w51s.k fk_zMm_337) (by decide)) ((w51F 337 13 rfl).trans ((w45F 337 13 rfl).trans ((w40F 337 13 rfl).trans ((w34F 337 13 rfl).trans ((w28F 337 13 rfl).trans ((w23F 337 13 rfl).trans ((w17F 337 13 rfl).trans ((w11F 337 13 rfl).trans ((w9F 337 13 rfl).trans ((w2F 337 13 rfl).trans ((zIo (by decide)).trans rfl))))))))))) ?_
              refine zs_bipush (pc := 161) t346_161 (v := 59) (by decide) ?_
              have w54 : (59 : Int32).toInt = 59 := li59
              have w55 : (zI w51M 336 50).toInt = (zI w51M 336 50).toInt := (congrArg Int32.toInt rfl).trans rfl
              have w56 : (zI w51M 336 50).toInt = (zI w51M 336 50).toInt := (congrArg Int32.toInt rfl).trans rfl
              refine zs_invV (pc := 163) (k := 336) (as' := [.int (zI M 337 13), .int (59 : Int32)]) (st := []) t346_163 mf348 rfl rfl (Or.inl ⟨by decide, (zk1 (w51s.k fk_zMm_336))⟩) ⟨by decide, by decide, Nat.le_of_ble_eq_true rfl, Nat.le_of_ble_eq_true rfl⟩ (K348 w51s w51I ⟨by omega, by omega⟩ (by omega) ?_) (fun _ _ q => q)
              intro w57M w57s w57I w57F w57J w57t0
              have w58 := ib336_50 w57I
              show zGo X l 2 0 0 346 166 [(0, .ref 336), (1, .int w11x1)] [] w57M _
              refine zs_aload_n (pc := 166) t346_166 rfl ?_
              refine zs_get (pc := 167) t346_167 (by decide) (zk1 (w57s.k fk_zMm_336)) (zfvi rfl rfl) ?_
              exact zs_iret (pc := 170) t346_170 mr346 rfl (hQ _ _ w57s w57I (((((((((((((zFr.refl).put rfl).trans (w2F.mono rfl)).trans (w9F.mono rfl)).trans (w11F.mono rfl)).trans (w17F.mono rfl)).trans (w23F.mono rfl)).trans (w28F.mono rfl)).trans (w34F.mono rfl)).trans (w40F.mono rfl)).trans (w45F.mono rfl)).trans (w51F.mono rfl)).trans (w57F.mono rfl)) (zPR.fr (zPR.fr (zPR.fr (zPR.fr (zPR.fr (zPR.fr (zPR.fr (zPR.fr (zPR.fr (zPR.fr (zPR.fr (zPR.fr (M' := (zsI M 336 50 (0 : Int32))) pR (zEq.put rfl)) (w2F.eq rfl)) (w9F.eq rfl)) (w11F.eq rfl)) (w17F.eq rfl)) (w23F.eq rfl)) (w28F.eq rfl)) (w34F.eq rfl)) (w40F.eq rfl)) (w45F.eq rfl)) (w51F.eq rfl)) (w57F.eq rfl)) (zPC.fr (zPC.fr (zPC.fr (zPC.fr (zPC.fr (zPC.fr (zPC.fr (zPC.fr (zPC.fr (zPC.fr (zPC.fr (zPC.fr (M' := (zsI M 336 50 (0 : Int32))) pC (zEq.put rfl)) (w2F.eq rfl)) (w9F.eq rfl)) (w11F.eq rfl)) (w17F.eq rfl)) (w23F.eq rfl)) (w28F.eq rfl)) (w34F.eq rfl)) (w40F.eq rfl)) (w45F.eq rfl)) (w51F.eq rfl)) (w57F.eq rfl)) (zPF.fr (zPF.fr (zPF.fr (zPF.fr (zPF.fr (zPF.fr (zPF.fr (zPF.fr (zPF.fr (zPF.fr (zPF.fr (zPF.fr (M' := (zsI M 336 50 (0 : Int32))) pF (zEq.put rfl) rfl) (w2F.eq rfl) w2J) (w9F.eq rfl) w9J) (w11F.eq rfl) w11J) (w17F.eq rfl) w17J) (w23F.eq rfl) w23J) (w28F.eq rfl) w28J) (w34F.eq rfl) w34J) (w40F.eq rfl) w40J) (w45F.eq rfl) w45J) (w51F.eq rfl) w51J) (w57F.eq rfl) w57J))
            · refine zs_icmp_gtF (pc := 51) t346_51 rfl li8 (by omega) ?_
              refine zs_aload_n (pc := 54) t346_54 rfl ?_
              refine zs_aload_n (pc := 55) t346_55 rfl ?_
              refine zs_get (pc := 56) t346_56 (by decide) (zk1 (w11s.k fk_zMm_336)) (w11s.p rfl fv_zMm_336_0) ?_
              refine zs_iload_n (pc := 59) t346_59 rfl ?_
              obtain ⟨w59n, w59⟩ : ∃ n : Nat, w11x1.toInt = (n : Int) := ⟨(w11x1.toInt).toNat, by omega⟩
              have w60 := zrg (zI M 337 w59n)
              refine zs_iald (pc := 60) t346_60 (j := w59n) (by decide) (zk1 (w11s.k fk_zMm_337)) (show w11x1.toInt = ((w59n : Nat) : Int) by omega) (zk2 (w11s.k fk_zMm_337) (by omega)) ((w11F 337 w59n rfl).trans ((w9F 337 w59n rfl).trans ((w2F 337 w59n rfl).trans ((zIo (by decide)).trans rfl)))) ?_
              refine zs_iload_n (pc := 61) t346_61 rfl ?_
              refine zs_bipush (pc := 62) t346_62 (v := 8) (by decide) ?_
              by_cases w61 : w11x1.toInt ≠ 8
              · refine zs_icmp_neT (pc := 64) t346_64 rfl li8 (by omega) ?_
                refine zs_bipush (pc := 72) t346_72 (v := 44) (by decide) ?_
                have w62 : (44 : Int32).toInt = 44 := li44
                have w63 : (zI w11M 336 50).toInt = (zI w11M 336 50).toInt := (congrArg Int32.toInt rfl).trans rfl
                have w64 : (zI w11M 336 50).toInt = (zI w11M 336 50).toInt := (congrArg Int32.toInt rfl).trans rfl
                refine zs_invV (pc := 74) (k := 336) (as' := [.int (zI M 337 w59n), .int (44 : Int32)]) (st := []) t346_74 mf348 rfl rfl (Or.inl ⟨by decide, (zk1 (w11s.k fk_zMm_336))⟩) ⟨by decide, by decide, Nat.le_of_ble_eq_true rfl, Nat.le_of_ble_eq_true rfl⟩ (K348 w11s w11I ⟨by omega, by omega⟩ (by omega) ?_) (fun _ _ q => q)
                intro w65M w65s w65I w65F w65J w65t0
                have w66 := ib336_50 w65I
                show zGo X l 2 0 0 346 77 [(0, .ref 336), (1, .int w11x1)] [] w65M _
                obtain ⟨w67v, w67e, w67⟩ := ziadd (a := w11x1) (b := Int32.ofInt 1) rfl (show (Int32.ofInt 1).toInt = 1 by decide) (by omega) (by omega)
                refine zs_iinc (pc := 77) t346_77 (ls' := [(1, .int w67v), (0, .ref 336)]) (zml mf346 (by decide)) rfl (c := w67v) w67e rfl ?_
                refine zs_goto (pc := 80) t346_80 ?_
                refine zGo.locals (ls' := [(0, .ref 336), (1, .int w67v)]) (by simp) ?_
                have w68 := w67
                have w69 : (zI w65M 336 50).toInt = (zI w65M 336 50).toInt := (congrArg Int32.toInt rfl).trans rfl
                exact w11ih (w11m - 1) (by omega) w67v w65M ⟨by omega, by omega⟩ w65s w65I (((zFr.refl).trans (w11F.mono rfl)).trans (w65F.mono rfl)) (w65J.trans w11J) (by omega) (by omega)
              · refine zs_icmp_neF (pc := 64) t346_64 rfl li8 (by omega) ?_
                refine zs_bipush (pc := 67) t346_67 (v := 59) (by decide) ?_
                refine zs_goto (pc := 69) t346_69 ?_
                have w70 : (59 : Int32).toInt = 59 := li59
                have w71 : (zI w11M 336 50).toInt = (zI w11M 336 50).toInt := (congrArg Int32.toInt rfl).trans rfl
                have w72 : (zI w11M 336 50).toInt = (zI w11M 336 50).toInt := (congrArg Int32.toInt rfl).trans rfl
                refine zs_invV (pc := 74) (k := 336) (as' := [.int (zI M 337 w59n), .int (59 : Int32)]) (st := []) t346_74 mf348 rfl rfl (Or.inl ⟨by decide, (zk1 (w11s.k fk_zMm_336))⟩) ⟨by decide, by decide, Nat.le_of_ble_eq_true rfl, Nat.le_of_ble_eq_true rfl⟩ (K348 w11s w11I ⟨by omega, by omega⟩ (by omega) ?_) (fun _ _ q => q)
                intro w73M w73s w73I w73F w73J w73t0
                have w74 := ib336_50 w73I
                show zGo X l 2 0 0 346 77 [(0, .ref 336), (1, .int w11x1)] [] w73M _
                obtain ⟨w75v, w75e, w75⟩ := ziadd (a := w11x1) (b := Int32.ofInt 1) rfl (show (Int32.ofInt 1).toInt = 1 by decide) (by omega) (by omega)
                refine zs_iinc (pc := 77) t346_77 (ls' := [(1, .int w75v), (0, .ref 336)]) (zml mf346 (by decide)) rfl (c := w75v) w75e rfl ?_
                refine zs_goto (pc := 80) t346_80 ?_
                refine zGo.locals (ls' := [(0, .ref 336), (1, .int w75v)]) (by simp) ?_
                have w76 := w75
                have w77 : (zI w73M 336 50).toInt = (zI w73M 336 50).toInt := (congrArg Int32.toInt rfl).trans rfl
                exact w11ih (w11m - 1) (by omega) w75v w73M ⟨by omega, by omega⟩ w73s w73I (((zFr.refl).trans (w11F.mono rfl)).trans (w73F.mono rfl)) (w73J.trans w11J) (by omega) (by omega)
        refine zGo.locals (ls' := [(0, .ref 336), (1, .int (5 : Int32))]) (by simp) ?_
        have w78 := li5
        have w79 : (zI w9M 336 50).toInt = (zI w9M 336 50).toInt := (congrArg Int32.toInt rfl).trans rfl
        exact w11L ((9 - 5 : Int).toNat) (5 : Int32) w9M ⟨by decide, by decide⟩ w9s w9I zFr.refl rfl (by omega) (by omega)
      · refine zs_icmp_geF (pc := 14) t346_14 rfl rfl (by omega) ?_
        refine zs_aload_n (pc := 17) t346_17 rfl ?_
        refine zs_bipush (pc := 18) t346_18 (v := 114) (by decide) ?_
        have w80 : (114 : Int32).toInt = 114 := li114
        have w81 : (zI w2M 336 50).toInt = (zI w2M 336 50).toInt := (congrArg Int32.toInt rfl).trans rfl
        have w82 : (zI w2M 336 50).toInt = (zI w2M 336 50).toInt := (congrArg Int32.toInt rfl).trans rfl
        refine zs_invV (pc := 20) (k := 336) (as' := [.int (114 : Int32)]) (st := []) t346_20 mf347 rfl rfl (Or.inl ⟨by decide, (zk1 (w2s.k fk_zMm_336))⟩) ⟨by decide, by decide, Nat.le_of_ble_eq_true rfl, Nat.le_of_ble_eq_true rfl⟩ (K347 w2s w2I (by omega) ?_) (fun _ _ q => q)
        intro w83M w83s w83I w83F w83J w83t0
        have w84 := ib336_50 w83I
        show zGo X l 2 0 0 346 23 [(0, .ref 336), (1, .int w2x1)] [] w83M _
        refine zs_aload_n (pc := 23) t346_23 rfl ?_
        refine zs_aload_n (pc := 24) t346_24 rfl ?_
        refine zs_iload_n (pc := 25) t346_25 rfl ?_
        refine zs_invV (pc := 26) (k := 336) (as' := [.int w2x1]) (st := [.ref 336]) t346_26 mf241 rfl rfl (Or.inl ⟨by decide, (zk1 (w83s.k fk_zMm_336))⟩) ⟨by decide, by decide, Nat.le_of_ble_eq_true rfl, Nat.le_of_ble_eq_true rfl⟩ (zs_in (by decide) mf241 (Nat.le_of_ble_eq_true rfl) ?_) (fun _ _ q => q)
        show zGo X l 0 0 0 241 0 [(0, .ref 336), (1, .int w2x1)] [] w83M _
        refine zs_aload_n (pc := 0) t241_0 rfl ?_
        refine zs_get (pc := 1) t241_1 (by decide) (zk1 (w83s.k fk_zMm_336)) (w83s.p rfl fv_zMm_336_0) ?_
        refine zs_bipush (pc := 4) t241_4 (v := 14) (by decide) ?_
        refine zs_iconst (pc := 6) t241_6 (v := 2) (by decide) ?_
        refine zs_iload_n (pc := 7) t241_7 rfl ?_
        obtain ⟨w85v, w85⟩ : ∃ v, (2 : Int32) * w2x1 = v := ⟨_, rfl⟩
        have w85g : w85v.toInt = 2 * w2x1.toInt := by rw [← w85]; exact zmulc li2 rfl (by omega) (by omega)
        refine zs_imul (pc := 8) t241_8 (c := w85v) w85 ?_
        obtain ⟨w86v, w86e, w86⟩ := ziadd (a := (14 : Int32)) (b := w85v) li14 w85g (by omega) (by omega)
        refine zs_iadd (pc := 9) t241_9 (c := w86v) w86e ?_
        obtain ⟨w87n, w87⟩ : ∃ n : Nat, w2x1.toInt = (n : Int) := ⟨(w2x1.toInt).toNat, by omega⟩
        have w88 := ibX (j := (14 + 2 * w87n)) hI (by omega) (by omega) (by omega)
        refine zs_iald (pc := 10) t241_10 (j := (14 + 2 * w87n)) (by decide) (zk1 (w83s.k fk_zMm_337)) (show w86v.toInt = (((14 + 2 * w87n) : Nat) : Int) by omega) (zk2 (w83s.k fk_zMm_337) (by omega)) ((w83F 337 (14 + 2 * w87n) rfl).trans ((w2F 337 (14 + 2 * w87n) rfl).trans ((zIo (by decide)).trans rfl))) ?_
        refine zs_iret (pc := 11) t241_11 mr241 rfl ?_
        show zGo X l 2 0 0 346 29 [(0, .ref 336), (1, .int w2x1)] [.int (zI M 337 (14 + 2 * w87n)), .ref 336] w83M _
        refine zs_bipush (pc := 29) t346_29 (v := 59) (by decide) ?_
        have w89 : (59 : Int32).toInt = 59 := li59
        have w90 : (zI w83M 336 50).toInt = (zI w83M 336 50).toInt := (congrArg Int32.toInt rfl).trans rfl
        have w91 : (zI w83M 336 50).toInt = (zI w83M 336 50).toInt := (congrArg Int32.toInt rfl).trans rfl
        refine zs_invV (pc := 31) (k := 336) (as' := [.int (zI M 337 (14 + 2 * w87n)), .int (59 : Int32)]) (st := []) t346_31 mf348 rfl rfl (Or.inl ⟨by decide, (zk1 (w83s.k fk_zMm_336))⟩) ⟨by decide, by decide, Nat.le_of_ble_eq_true rfl, Nat.le_of_ble_eq_true rfl⟩ (K348 w83s w83I ⟨by omega, by omega⟩ (by omega) ?_) (fun _ _ q => q)
        intro w92M w92s w92I w92F w92J w92t0
        have w93 := ib336_50 w92I
        show zGo X l 2 0 0 346 34 [(0, .ref 336), (1, .int w2x1)] [] w92M _
        obtain ⟨w94v, w94e, w94⟩ := ziadd (a := w2x1) (b := Int32.ofInt 1) rfl (show (Int32.ofInt 1).toInt = 1 by decide) (by omega) (by omega)
        refine zs_iinc (pc := 34) t346_34 (ls' := [(1, .int w94v), (0, .ref 336)]) (zml mf346 (by decide)) rfl (c := w94v) w94e rfl ?_
        refine zs_goto (pc := 37) t346_37 ?_
        refine zGo.locals (ls' := [(0, .ref 336), (1, .int w94v)]) (by simp) ?_
        have w95 := w94
        have w96 : (zI w92M 336 50).toInt = (zI w92M 336 50).toInt := (congrArg Int32.toInt rfl).trans rfl
        exact w2ih (w2m - 1) (by omega) w94v w92M ⟨by omega, by omega⟩ w92s w92I ((((zFr.refl).trans (w2F.mono rfl)).trans (w83F.mono rfl)).trans (w92F.mono rfl)) (w92J.trans (w83J.trans w2J)) (by omega) (by omega)
  refine zGo.locals (ls' := [(0, .ref 336), (1, .int (0 : Int32))]) (by simp) ?_
  have w97 := li0
  have w98 : (zI (zsI M 336 50 (0 : Int32)) 336 50).toInt = 0 := (congrArg Int32.toInt zIs).trans li0
  exact w2L ((8 - 0 : Int).toNat) (0 : Int32) (zsI M 336 50 (0 : Int32)) ⟨by decide, by decide⟩ hs w1 zFr.refl rfl (by omega) (by omega)
theorem K349 {X : zX} {l : Launch} {M : zM} {Q : Option Value → zM → Prop} {a : Int32} (hs : zSk zMm M) (hI : zIv mLo mHi M) (pR : zPR M) (pC : zPC M) (pF : zPF M) (hQ : ∀ (M' : zM) (v : Int32), zSk zMm M' → zIv mLo mHi M' → zFr [(336, 363, none)] M M' → zPR M' → zPC M' → zPF M' → Q (some (.int v)) M') : zCall X l 1 0 0 349 [.ref 336, .int a] M Q := by
  have ga := zrg a
  refine zs_in (by decide) mf349 (Nat.le_of_ble_eq_true rfl) ?_
  show zGo X l 1 0 0 349 0 [(0, .ref 336), (1, .int a)] [] M _
  refine zs_iload_n (pc := 0) t349_0 rfl ?_
  refine zs_i2l (pc := 1) t349_1 rfl ?_
  refine zs_lconst (pc := 2) t349_2 (v := 0) (by decide) ?_
  refine zs_aload_n (pc := 3) t349_3 rfl ?_
  have w1 := ib336_50 hI
  refine zs_get (pc := 4) t349_4 (by decide) (zk1 (hs.k fk_zMm_336)) (zfvi rfl rfl) ?_
  refine zs_iconst (pc := 7) t349_7 (v := 1) (by decide) ?_
  obtain ⟨w2v, w2e, w2⟩ := zisub (a := (zI M 336 50)) (b := (1 : Int32)) rfl li1 (by omega) (by omega)
  refine zs_isub (pc := 8) t349_8 (c := w2v) w2e ?_
  refine zs_i2l (pc := 9) t349_9 rfl ?_
  by_cases w3 : 0 ≤ a.toInt ∧ a.toInt ≤ ((zI M 336 50).toInt - 1)
  · refine zs_invS (pc := 10) (as := [.long a.toInt64, .long (0 : Int64), .long w2v.toInt64]) (st := []) t349_10 (by decide) mf228 rfl rfl ⟨by decide, by decide, Nat.le_of_ble_eq_true rfl, Nat.le_of_ble_eq_true rfl⟩ (K228T (zi2l rfl) ll0 (zi2l w2) (by omega) ?_) (fun _ _ q => q)
    show zGo X l 1 0 0 349 13 [(0, .ref 336), (1, .int a)] [.int (1 : Int32)] M _
    refine zs_if_eqF (pc := 13) t349_13 li1 (by decide) ?_
    refine zs_aload_n (pc := 16) t349_16 rfl ?_
    refine zs_get (pc := 17) t349_17 (by decide) (zk1 (hs.k fk_zMm_336)) (hs.p rfl fv_zMm_336_49) ?_
    refine zs_iload_n (pc := 20) t349_20 rfl ?_
    obtain ⟨w4n, w4⟩ : ∃ n : Nat, a.toInt = (n : Int) := ⟨(a.toInt).toNat, by omega⟩
    have w5 := ib363 hI w4n
    refine zs_bald (pc := 21) t349_21 (j := w4n) (Or.inl (zk1 (hs.k fk_zMm_363))) (show a.toInt = ((w4n : Nat) : Int) by omega) (zk2 (hs.k fk_zMm_363) (by omega)) rfl ?_
    refine zs_goto (pc := 22) t349_22 ?_
    exact zs_iret (pc := 26) t349_26 mr349 rfl (hQ _ _ hs hI (zFr.refl) pR pC pF)
  · refine zs_invS (pc := 10) (as := [.long a.toInt64, .long (0 : Int64), .long w2v.toInt64]) (st := []) t349_10 (by decide) mf228 rfl rfl ⟨by decide, by decide, Nat.le_of_ble_eq_true rfl, Nat.le_of_ble_eq_true rfl⟩ (K228F (zi2l rfl) ll0 (zi2l w2) (by omega) ?_) (fun _ _ q => q)
    show zGo X l 1 0 0 349 13 [(0, .ref 336), (1, .int a)] [.int (0 : Int32)] M _
    refine zs_if_eqT (pc := 13) t349_13 li0 (by decide) ?_
    refine zs_iconst (pc := 25) t349_25 (v := -1) (by decide) ?_
    exact zs_iret (pc := 26) t349_26 mr349 (by decide) (hQ _ _ hs hI (zFr.refl) pR pC pF)
theorem K345 {X : zX} {l : Launch} {M : zM} {Q : Option Value → zM → Prop} (hs : zSk zMm M) (hI : zIv mLo mHi M) (pR : zPR M) (pC : zPC M) (pF : zPF M) (hQ : ∀ (M' : zM) (v : Int32), zSk zMm M' → zIv mLo mHi M' → zFr [(336, 363, none)] M M' → zPR M' → zPC M' → zPF M' → Q (some (.int v)) M') : zCall X l 0 0 0 345 [.ref 336] M Q := by
  refine zs_in (by decide) mf345 (Nat.le_of_ble_eq_true rfl) ?_
  show zGo X l 0 0 0 345 0 [(0, .ref 336)] [] M _
  refine zs_aload_n (pc := 0) t345_0 rfl ?_
  have w1 := zrg (zI M 336 48)
  refine zs_get (pc := 1) t345_1 (by decide) (zk1 (hs.k fk_zMm_336)) (zfvi rfl rfl) ?_
  exact zs_iret (pc := 4) t345_4 mr345 rfl (hQ _ _ hs hI (zFr.refl) pR pC pF)
theorem K234 {X : zX} {l : Launch} {M : zM} {Q : Option Value → zM → Prop} (hs : zSk zMm M) (hI : zIv mLo mHi M) (pR : zPR M) (pC : zPC M) (pF : zPF M) (hQ : ∀ (M' : zM) (v : Int32), zSk zMm M' → zIv mLo mHi M' → zFr [(336, 363, none)] M M' → zPR M' → zPC M' → zPF M' → Q (some (.int v)) M') : zCall X l 0 0 0 234 [.ref 336] M Q := by
  refine zs_in (by decide) mf234 (Nat.le_of_ble_eq_true rfl) ?_
  show zGo X l 0 0 0 234 0 [(0, .ref 336)] [] M _
  refine zs_aload_n (pc := 0) t234_0 rfl ?_
  have w1 := ib336_7 hI
  refine zs_get (pc := 1) t234_1 (by decide) (zk1 (hs.k fk_zMm_336)) (zfvi rfl rfl) ?_
  exact zs_iret (pc := 4) t234_4 mr234 rfl (hQ _ _ hs hI (zFr.refl) pR pC pF)
theorem K304 {X : zX} {l : Launch} {M : zM} {Q : Option Value → zM → Prop} {a : Int32} (hs : zSk zMm M) (hI : zIv mLo mHi M) (pR : zPR M) (pC : zPC M) (pF : zPF M) (hQ : ∀ (M' : zM) (v : Int32), zSk zMm M' → zIv mLo mHi M' → zFr [(336, 363, none)] M M' → zPR M' → zPC M' → zPF M' → Q (some (.int v)) M') : zCall X l 3 0 0 304 [.ref 336, .int a] M Q := by
  have ga := zrg a
  refine zs_in (by decide) mf304 (Nat.le_of_ble_eq_true rfl) ?_
  show zGo X l 3 0 0 304 0 [(0, .ref 336), (1, .int a)] [] M _
  refine zs_iload_n (pc := 0) t304_0 rfl ?_
  by_cases w1 : a.toInt = 0
  · refine zs_tswI (pc := 1) t304_1 ((rfl : a.toInt = a.toInt).trans w1) (by decide) rfl (pc2 := 80) rfl ?_
    refine zs_aload_n (pc := 80) t304_80 rfl ?_
    refine zs_get (pc := 81) t304_81 (by decide) (zk1 (hs.k fk_zMm_336)) (hs.p rfl fv_zMm_336_0) ?_
    refine zs_iconst (pc := 84) t304_84 (v := 0) (by decide) ?_
    have w2 := ibA0 hI
    refine zs_iald (pc := 85) t304_85 (j := 0) (by decide) (zk1 (hs.k fk_zMm_337)) li0 (zk2 (hs.k fk_zMm_337) (by decide)) rfl ?_
    exact zs_iret (pc := 86) t304_86 mr304 rfl (hQ _ _ hs hI (zFr.refl) pR pC pF)
  by_cases w3 : a.toInt = 1
  · refine zs_tswI (pc := 1) t304_1 ((rfl : a.toInt = a.toInt).trans w3) (by decide) rfl (pc2 := 87) rfl ?_
    refine zs_aload_n (pc := 87) t304_87 rfl ?_
    refine zs_invV (pc := 88) (k := 336) (as' := []) (st := []) t304_88 mf292 rfl rfl (Or.inl ⟨by decide, (zk1 (hs.k fk_zMm_336))⟩) ⟨by decide, by decide, Nat.le_of_ble_eq_true rfl, Nat.le_of_ble_eq_true rfl⟩ (K292 hs hI ?_) (fun _ _ q => q)
    intro w4v
    have w4g := zrg w4v
    show zGo X l 3 0 0 304 91 [(0, .ref 336), (1, .int a)] [.int w4v] M _
    exact zs_iret (pc := 91) t304_91 mr304 rfl (hQ _ _ hs hI (zFr.refl) pR pC pF)
  by_cases w5 : a.toInt = 2
  · refine zs_tswI (pc := 1) t304_1 ((rfl : a.toInt = a.toInt).trans w5) (by decide) rfl (pc2 := 92) rfl ?_
    refine zs_aload_n (pc := 92) t304_92 rfl ?_
    refine zs_get (pc := 93) t304_93 (by decide) (zk1 (hs.k fk_zMm_336)) (hs.p rfl fv_zMm_336_0) ?_
    refine zs_iconst (pc := 96) t304_96 (v := 1) (by decide) ?_
    have w6 := ibA1 hI
    refine zs_iald (pc := 97) t304_97 (j := 1) (by decide) (zk1 (hs.k fk_zMm_337)) li1 (zk2 (hs.k fk_zMm_337) (by decide)) rfl ?_
    exact zs_iret (pc := 98) t304_98 mr304 rfl (hQ _ _ hs hI (zFr.refl) pR pC pF)
  by_cases w7 : a.toInt = 3
  · refine zs_tswI (pc := 1) t304_1 ((rfl : a.toInt = a.toInt).trans w7) (by decide) rfl (pc2 := 99) rfl ?_
    refine zs_aload_n (pc := 99) t304_99 rfl ?_
    refine zs_iconst (pc := 100) t304_100 (v := -1) (by decide) ?_
    refine zs_invV (pc := 101) (k := 336) (as' := [.int (-1 : Int32)]) (st := []) t304_101 mf290 rfl rfl (Or.inl ⟨by decide, (zk1 (hs.k fk_zMm_336))⟩) ⟨by decide, by decide, Nat.le_of_ble_eq_true rfl, Nat.le_of_ble_eq_true rfl⟩ (K290 hs hI ?_) (fun _ _ q => q)
    intro w8v
    have w8g := zrg w8v
    show zGo X l 3 0 0 304 104 [(0, .ref 336), (1, .int a)] [.int w8v] M _
    exact zs_iret (pc := 104) t304_104 mr304 rfl (hQ _ _ hs hI (zFr.refl) pR pC pF)
  by_cases w9 : a.toInt = 4
  · refine zs_tswI (pc := 1) t304_1 ((rfl : a.toInt = a.toInt).trans w9) (by decide) rfl (pc2 := 105) rfl ?_
    refine zs_aload_n (pc := 105) t304_105 rfl ?_
    refine zs_get (pc := 106) t304_106 (by decide) (zk1 (hs.k fk_zMm_336)) (hs.p rfl fv_zMm_336_0) ?_
    refine zs_iconst (pc := 109) t304_109 (v := 2) (by decide) ?_
    have w10 := ibA2 hI
    refine zs_iald (pc := 110) t304_110 (j := 2) (by decide) (zk1 (hs.k fk_zMm_337)) li2 (zk2 (hs.k fk_zMm_337) (by decide)) rfl ?_
    exact zs_iret (pc := 111) t304_111 mr304 rfl (hQ _ _ hs hI (zFr.refl) pR pC pF)
  by_cases w11 : a.toInt = 5
  · refine zs_tswI (pc := 1) t304_1 ((rfl : a.toInt = a.toInt).trans w11) (by decide) rfl (pc2 := 122) rfl ?_
    refine zs_iload_n (pc := 122) t304_122 rfl ?_
    refine zs_i2l (pc := 123) t304_123 rfl ?_
    refine zs_ldc2_w (pc := 124) t304_124 (v := 5) (by decide) ?_
    refine zs_ldc2_w (pc := 127) t304_127 (v := 13) (by decide) ?_
    refine zs_invS (pc := 130) (as := [.long a.toInt64, .long (5 : Int64), .long (13 : Int64)]) (st := []) t304_130 (by decide) mf228 rfl rfl ⟨by decide, by decide, Nat.le_of_ble_eq_true rfl, Nat.le_of_ble_eq_true rfl⟩ (K228T (zi2l rfl) ll5 ll13 (by omega) ?_) (fun _ _ q => q)
    show zGo X l 3 0 0 304 133 [(0, .ref 336), (1, .int a)] [.int (1 : Int32)] M _
    refine zs_if_eqF (pc := 133) t304_133 li1 (by decide) ?_
    refine zs_aload_n (pc := 136) t304_136 rfl ?_
    refine zs_get (pc := 137) t304_137 (by decide) (zk1 (hs.k fk_zMm_336)) (hs.p rfl fv_zMm_336_0) ?_
    refine zs_iconst (pc := 140) t304_140 (v := 5) (by decide) ?_
    refine zs_iload_n (pc := 141) t304_141 rfl ?_
    obtain ⟨w13v, w13e, w13⟩ := ziadd (a := (5 : Int32)) (b := a) li5 rfl (by omega) (by omega)
    refine zs_iadd (pc := 142) t304_142 (c := w13v) w13e ?_
    refine zs_iconst (pc := 143) t304_143 (v := 5) (by decide) ?_
    obtain ⟨w14v, w14e, w14⟩ := zisub (a := w13v) (b := (5 : Int32)) w13 li5 (by omega) (by omega)
    refine zs_isub (pc := 144) t304_144 (c := w14v) w14e ?_
    obtain ⟨w15n, w15⟩ : ∃ n : Nat, a.toInt = (n : Int) := ⟨(a.toInt).toNat, by omega⟩
    have w16 := zrg (zI M 337 w15n)
    refine zs_iald (pc := 145) t304_145 (j := w15n) (by decide) (zk1 (hs.k fk_zMm_337)) (show w14v.toInt = ((w15n : Nat) : Int) by omega) (zk2 (hs.k fk_zMm_337) (by omega)) rfl ?_
    refine zs_goto (pc := 146) t304_146 ?_
    exact zs_iret (pc := 150) t304_150 mr304 rfl (hQ _ _ hs hI (zFr.refl) pR pC pF)
  by_cases w17 : a.toInt = 6
  · refine zs_tswI (pc := 1) t304_1 ((rfl : a.toInt = a.toInt).trans w17) (by decide) rfl (pc2 := 122) rfl ?_
    refine zs_iload_n (pc := 122) t304_122 rfl ?_
    refine zs_i2l (pc := 123) t304_123 rfl ?_
    refine zs_ldc2_w (pc := 124) t304_124 (v := 5) (by decide) ?_
    refine zs_ldc2_w (pc := 127) t304_127 (v := 13) (by decide) ?_
    refine zs_invS (pc := 130) (as := [.long a.toInt64, .long (5 : Int64), .long (13 : Int64)]) (st := []) t304_130 (by decide) mf228 rfl rfl ⟨by decide, by decide, Nat.le_of_ble_eq_true rfl, Nat.le_of_ble_eq_true rfl⟩ (K228T (zi2l rfl) ll5 ll13 (by omega) ?_) (fun _ _ q => q)
    show zGo X l 3 0 0 304 133 [(0, .ref 336), (1, .int a)] [.int (1 : Int32)] M _
    refine zs_if_eqF (pc := 133) t304_133 li1 (by decide) ?_
    refine zs_aload_n (pc := 136) t304_136 rfl ?_
    refine zs_get (pc := 137) t304_137 (by decide) (zk1 (hs.k fk_zMm_336)) (hs.p rfl fv_zMm_336_0) ?_
    refine zs_iconst (pc := 140) t304_140 (v := 5) (by decide) ?_
    refine zs_iload_n (pc := 141) t304_141 rfl ?_
    obtain ⟨w19v, w19e, w19⟩ := ziadd (a := (5 : Int32)) (b := a) li5 rfl (by omega) (by omega)
    refine zs_iadd (pc := 142) t304_142 (c := w19v) w19e ?_
    refine zs_iconst (pc := 143) t304_143 (v := 5) (by decide) ?_
    obtain ⟨w20v, w20e, w20⟩ := zisub (a := w19v) (b := (5 : Int32)) w19 li5 (by omega) (by omega)
    refine zs_isub (pc := 144) t304_144 (c := w20v) w20e ?_
    obtain ⟨w21n, w21⟩ : ∃ n : Nat, a.toInt = (n : Int) := ⟨(a.toInt).toNat, by omega⟩
    have w22 := zrg (zI M 337 w21n)
    refine zs_iald (pc := 145) t304_145 (j := w21n) (by decide) (zk1 (hs.k fk_zMm_337)) (show w20v.toInt = ((w21n : Nat) : Int) by omega) (zk2 (hs.k fk_zMm_337) (by omega)) rfl ?_
    refine zs_goto (pc := 146) t304_146 ?_
    exact zs_iret (pc := 150) t304_150 mr304 rfl (hQ _ _ hs hI (zFr.refl) pR pC pF)
  by_cases w23 : a.toInt = 7
  · refine zs_tswI (pc := 1) t304_1 ((rfl : a.toInt = a.toInt).trans w23) (by decide) rfl (pc2 := 122) rfl ?_
    refine zs_iload_n (pc := 122) t304_122 rfl ?_
    refine zs_i2l (pc := 123) t304_123 rfl ?_
    refine zs_ldc2_w (pc := 124) t304_124 (v := 5) (by decide) ?_
    refine zs_ldc2_w (pc := 127) t304_127 (v := 13) (by decide) ?_
    refine zs_invS (pc := 130) (as := [.long a.toInt64, .long (5 : Int64), .long (13 : Int64)]) (st := []) t304_130 (by decide) mf228 rfl rfl ⟨by decide, by decide, Nat.le_of_ble_eq_true rfl, Nat.le_of_ble_eq_true rfl⟩ (K228T (zi2l rfl) ll5 ll13 (by omega) ?_) (fun _ _ q => q)
    show zGo X l 3 0 0 304 133 [(0, .ref 336), (1, .int a)] [.int (1 : Int32)] M _
    refine zs_if_eqF (pc := 133) t304_133 li1 (by decide) ?_
    refine zs_aload_n (pc := 136) t304_136 rfl ?_
    refine zs_get (pc := 137) t304_137 (by decide) (zk1 (hs.k fk_zMm_336)) (hs.p rfl fv_zMm_336_0) ?_
    refine zs_iconst (pc := 140) t304_140 (v := 5) (by decide) ?_
    refine zs_iload_n (pc := 141) t304_141 rfl ?_
    obtain ⟨w25v, w25e, w25⟩ := ziadd (a := (5 : Int32)) (b := a) li5 rfl (by omega) (by omega)
    refine zs_iadd (pc := 142) t304_142 (c := w25v) w25e ?_
    refine zs_iconst (pc := 143) t304_143 (v := 5) (by decide) ?_
    obtain ⟨w26v, w26e, w26⟩ := zisub (a := w25v) (b := (5 : Int32)) w25 li5 (by omega) (by omega)
    refine zs_isub (pc := 144) t304_144 (c := w26v) w26e ?_
    obtain ⟨w27n, w27⟩ : ∃ n : Nat, a.toInt = (n : Int) := ⟨(a.toInt).toNat, by omega⟩
    have w28 := zrg (zI M 337 w27n)
    refine zs_iald (pc := 145) t304_145 (j := w27n) (by decide) (zk1 (hs.k fk_zMm_337)) (show w26v.toInt = ((w27n : Nat) : Int) by omega) (zk2 (hs.k fk_zMm_337) (by omega)) rfl ?_
    refine zs_goto (pc := 146) t304_146 ?_
    exact zs_iret (pc := 150) t304_150 mr304 rfl (hQ _ _ hs hI (zFr.refl) pR pC pF)
  by_cases w29 : a.toInt = 8
  · refine zs_tswI (pc := 1) t304_1 ((rfl : a.toInt = a.toInt).trans w29) (by decide) rfl (pc2 := 122) rfl ?_
    refine zs_iload_n (pc := 122) t304_122 rfl ?_
    refine zs_i2l (pc := 123) t304_123 rfl ?_
    refine zs_ldc2_w (pc := 124) t304_124 (v := 5) (by decide) ?_
    refine zs_ldc2_w (pc := 127) t304_127 (v := 13) (by decide) ?_
    refine zs_invS (pc := 130) (as := [.long a.toInt64, .long (5 : Int64), .long (13 : Int64)]) (st := []) t304_130 (by decide) mf228 rfl rfl ⟨by decide, by decide, Nat.le_of_ble_eq_true rfl, Nat.le_of_ble_eq_true rfl⟩ (K228T (zi2l rfl) ll5 ll13 (by omega) ?_) (fun _ _ q => q)
    show zGo X l 3 0 0 304 133 [(0, .ref 336), (1, .int a)] [.int (1 : Int32)] M _
    refine zs_if_eqF (pc := 133) t304_133 li1 (by decide) ?_
    refine zs_aload_n (pc := 136) t304_136 rfl ?_
    refine zs_get (pc := 137) t304_137 (by decide) (zk1 (hs.k fk_zMm_336)) (hs.p rfl fv_zMm_336_0) ?_
    refine zs_iconst (pc := 140) t304_140 (v := 5) (by decide) ?_
    refine zs_iload_n (pc := 141) t304_141 rfl ?_
    obtain ⟨w31v, w31e, w31⟩ := ziadd (a := (5 : Int32)) (b := a) li5 rfl (by omega) (by omega)
    refine zs_iadd (pc := 142) t304_142 (c := w31v) w31e ?_
    refine zs_iconst (pc := 143) t304_143 (v := 5) (by decide) ?_
    obtain ⟨w32v, w32e, w32⟩ := zisub (a := w31v) (b := (5 : Int32)) w31 li5 (by omega) (by omega)
    refine zs_isub (pc := 144) t304_144 (c := w32v) w32e ?_
    obtain ⟨w33n, w33⟩ : ∃ n : Nat, a.toInt = (n : Int) := ⟨(a.toInt).toNat, by omega⟩
    have w34 := zrg (zI M 337 w33n)
    refine zs_iald (pc := 145) t304_145 (j := w33n) (by decide) (zk1 (hs.k fk_zMm_337)) (show w32v.toInt = ((w33n : Nat) : Int) by omega) (zk2 (hs.k fk_zMm_337) (by omega)) rfl ?_
    refine zs_goto (pc := 146) t304_146 ?_
    exact zs_iret (pc := 150) t304_150 mr304 rfl (hQ _ _ hs hI (zFr.refl) pR pC pF)
  by_cases w35 : a.toInt = 9
  · refine zs_tswI (pc := 1) t304_1 ((rfl : a.toInt = a.toInt).trans w35) (by decide) rfl (pc2 := 122) rfl ?_
    refine zs_iload_n (pc := 122) t304_122 rfl ?_
    refine zs_i2l (pc := 123) t304_123 rfl ?_
    refine zs_ldc2_w (pc := 124) t304_124 (v := 5) (by decide) ?_
    refine zs_ldc2_w (pc := 127) t304_127 (v := 13) (by decide) ?_
    refine zs_invS (pc := 130) (as := [.long a.toInt64, .long (5 : Int64), .long (13 : Int64)]) (st := []) t304_130 (by decide) mf228 rfl rfl ⟨by decide, by decide, Nat.le_of_ble_eq_true rfl, Nat.le_of_ble_eq_true rfl⟩ (K228T (zi2l rfl) ll5 ll13 (by omega) ?_) (fun _ _ q => q)
    show zGo X l 3 0 0 304 133 [(0, .ref 336), (1, .int a)] [.int (1 : Int32)] M _
    refine zs_if_eqF (pc := 133) t304_133 li1 (by decide) ?_
    refine zs_aload_n (pc := 136) t304_136 rfl ?_
    refine zs_get (pc := 137) t304_137 (by decide) (zk1 (hs.k fk_zMm_336)) (hs.p rfl fv_zMm_336_0) ?_
    refine zs_iconst (pc := 140) t304_140 (v := 5) (by decide) ?_
    refine zs_iload_n (pc := 141) t304_141 rfl ?_
    obtain ⟨w37v, w37e, w37⟩ := ziadd (a := (5 : Int32)) (b := a) li5 rfl (by omega) (by omega)
    refine zs_iadd (pc := 142) t304_142 (c := w37v) w37e ?_
    refine zs_iconst (pc := 143) t304_143 (v := 5) (by decide) ?_
    obtain ⟨w38v, w38e, w38⟩ := zisub (a := w37v) (b := (5 : Int32)) w37 li5 (by omega) (by omega)
    refine zs_isub (pc := 144) t304_144 (c := w38v) w38e ?_
    obtain ⟨w39n, w39⟩ : ∃ n : Nat, a.toInt = (n : Int) := ⟨(a.toInt).toNat, by omega⟩
    have w40 := zrg (zI M 337 w39n)
    refine zs_iald (pc := 145) t304_145 (j := w39n) (by decide) (zk1 (hs.k fk_zMm_337)) (show w38v.toInt = ((w39n : Nat) : Int) by omega) (zk2 (hs.k fk_zMm_337) (by omega)) rfl ?_
    refine zs_goto (pc := 146) t304_146 ?_
    exact zs_iret (pc := 150) t304_150 mr304 rfl (hQ _ _ hs hI (zFr.refl) pR pC pF)
  by_cases w41 : a.toInt = 10
  · refine zs_tswI (pc := 1) t304_1 ((rfl : a.toInt = a.toInt).trans w41) (by decide) rfl (pc2 := 122) rfl ?_
    refine zs_iload_n (pc := 122) t304_122 rfl ?_
    refine zs_i2l (pc := 123) t304_123 rfl ?_
    refine zs_ldc2_w (pc := 124) t304_124 (v := 5) (by decide) ?_
    refine zs_ldc2_w (pc := 127) t304_127 (v := 13) (by decide) ?_
    refine zs_invS (pc := 130) (as := [.long a.toInt64, .long (5 : Int64), .long (13 : Int64)]) (st := []) t304_130 (by decide) mf228 rfl rfl ⟨by decide, by decide, Nat.le_of_ble_eq_true rfl, Nat.le_of_ble_eq_true rfl⟩ (K228T (zi2l rfl) ll5 ll13 (by omega) ?_) (fun _ _ q => q)
    show zGo X l 3 0 0 304 133 [(0, .ref 336), (1, .int a)] [.int (1 : Int32)] M _
    refine zs_if_eqF (pc := 133) t304_133 li1 (by decide) ?_
    refine zs_aload_n (pc := 136) t304_136 rfl ?_
    refine zs_get (pc := 137) t304_137 (by decide) (zk1 (hs.k fk_zMm_336)) (hs.p rfl fv_zMm_336_0) ?_
    refine zs_iconst (pc := 140) t304_140 (v := 5) (by decide) ?_
    refine zs_iload_n (pc := 141) t304_141 rfl ?_
    obtain ⟨w43v, w43e, w43⟩ := ziadd (a := (5 : Int32)) (b := a) li5 rfl (by omega) (by omega)
    refine zs_iadd (pc := 142) t304_142 (c := w43v) w43e ?_
    refine zs_iconst (pc := 143) t304_143 (v := 5) (by decide) ?_
    obtain ⟨w44v, w44e, w44⟩ := zisub (a := w43v) (b := (5 : Int32)) w43 li5 (by omega) (by omega)
    refine zs_isub (pc := 144) t304_144 (c := w44v) w44e ?_
    obtain ⟨w45n, w45⟩ : ∃ n : Nat, a.toInt = (n : Int) := ⟨(a.toInt).toNat, by omega⟩
    have w46 := zrg (zI M 337 w45n)
    refine zs_iald (pc := 145) t304_145 (j := w45n) (by decide) (zk1 (hs.k fk_zMm_337)) (show w44v.toInt = ((w45n : Nat) : Int) by omega) (zk2 (hs.k fk_zMm_337) (by omega)) rfl ?_
    refine zs_goto (pc := 146) t304_146 ?_
    exact zs_iret (pc := 150) t304_150 mr304 rfl (hQ _ _ hs hI (zFr.refl) pR pC pF)
  by_cases w47 : a.toInt = 11
  · refine zs_tswI (pc := 1) t304_1 ((rfl : a.toInt = a.toInt).trans w47) (by decide) rfl (pc2 := 122) rfl ?_
    refine zs_iload_n (pc := 122) t304_122 rfl ?_
    refine zs_i2l (pc := 123) t304_123 rfl ?_
    refine zs_ldc2_w (pc := 124) t304_124 (v := 5) (by decide) ?_
    refine zs_ldc2_w (pc := 127) t304_127 (v := 13) (by decide) ?_
    refine zs_invS (pc := 130) (as := [.long a.toInt64, .long (5 : Int64), .long (13 : Int64)]) (st := []) t304_130 (by decide) mf228 rfl rfl ⟨by decide, by decide, Nat.le_of_ble_eq_true rfl, Nat.le_of_ble_eq_true rfl⟩ (K228T (zi2l rfl) ll5 ll13 (by omega) ?_) (fun _ _ q => q)
    show zGo X l 3 0 0 304 133 [(0, .ref 336), (1, .int a)] [.int (1 : Int32)] M _
    refine zs_if_eqF (pc := 133) t304_133 li1 (by decide) ?_
    refine zs_aload_n (pc := 136) t304_136 rfl ?_
    refine zs_get (pc := 137) t304_137 (by decide) (zk1 (hs.k fk_zMm_336)) (hs.p rfl fv_zMm_336_0) ?_
    refine zs_iconst (pc := 140) t304_140 (v := 5) (by decide) ?_
    refine zs_iload_n (pc := 141) t304_141 rfl ?_
    obtain ⟨w49v, w49e, w49⟩ := ziadd (a := (5 : Int32)) (b := a) li5 rfl (by omega) (by omega)
    refine zs_iadd (pc := 142) t304_142 (c := w49v) w49e ?_
    refine zs_iconst (pc := 143) t304_143 (v := 5) (by decide) ?_
    obtain ⟨w50v, w50e, w50⟩ := zisub (a := w49v) (b := (5 : Int32)) w49 li5 (by omega) (by omega)
    refine zs_isub (pc := 144) t304_144 (c := w50v) w50e ?_
    obtain ⟨w51n, w51⟩ : ∃ n : Nat, a.toInt = (n : Int) := ⟨(a.toInt).toNat, by omega⟩
    have w52 := zrg (zI M 337 w51n)
    refine zs_iald (pc := 145) t304_145 (j := w51n) (by decide) (zk1 (hs.k fk_zMm_337)) (show w50v.toInt = ((w51n : Nat) : Int) by omega) (zk2 (hs.k fk_zMm_337) (by omega)) rfl ?_
    refine zs_goto (pc := 146) t304_146 ?_
    exact zs_iret (pc := 150) t304_150 mr304 rfl (hQ _ _ hs hI (zFr.refl) pR pC pF)
  by_cases w53 : a.toInt = 12
  · refine zs_tswI (pc := 1) t304_1 ((rfl : a.toInt = a.toInt).trans w53) (by decide) rfl (pc2 := 122) rfl ?_
    refine zs_iload_n (pc := 122) t304_122 rfl ?_
    refine zs_i2l (pc := 123) t304_123 rfl ?_
    refine zs_ldc2_w (pc := 124) t304_124 (v := 5) (by decide) ?_
    refine zs_ldc2_w (pc := 127) t304_127 (v := 13) (by decide) ?_
    refine zs_invS (pc := 130) (as := [.long a.toInt64, .long (5 : Int64), .long (13 : Int64)]) (st := []) t304_130 (by decide) mf228 rfl rfl ⟨by decide, by decide, Nat.le_of_ble_eq_true rfl, Nat.le_of_ble_eq_true rfl⟩ (K228T (zi2l rfl) ll5 ll13 (by omega) ?_) (fun _ _ q => q)
    show zGo X l 3 0 0 304 133 [(0, .ref 336), (1, .int a)] [.int (1 : Int32)] M _
    refine zs_if_eqF (pc := 133) t304_133 li1 (by decide) ?_
    refine zs_aload_n (pc := 136) t304_136 rfl ?_
    refine zs_get (pc := 137) t304_137 (by decide) (zk1 (hs.k fk_zMm_336)) (hs.p rfl fv_zMm_336_0) ?_
    refine zs_iconst (pc := 140) t304_140 (v := 5) (by decide) ?_
    refine zs_iload_n (pc := 141) t304_141 rfl ?_
    obtain ⟨w55v, w55e, w55⟩ := ziadd (a := (5 : Int32)) (b := a) li5 rfl (by omega) (by omega)
    refine zs_iadd (pc := 142) t304_142 (c := w55v) w55e ?_
    refine zs_iconst (pc := 143) t304_143 (v := 5) (by decide) ?_
    obtain ⟨w56v, w56e, w56⟩ := zisub (a := w55v) (b := (5 : Int32)) w55 li5 (by omega) (by omega)
    refine zs_isub (pc := 144) t304_144 (c := w56v) w56e ?_
    obtain ⟨w57n, w57⟩ : ∃ n : Nat, a.toInt = (n : Int) := ⟨(a.toInt).toNat, by omega⟩
    have w58 := zrg (zI M 337 w57n)
    refine zs_iald (pc := 145) t304_145 (j := w57n) (by decide) (zk1 (hs.k fk_zMm_337)) (show w56v.toInt = ((w57n : Nat) : Int) by omega) (zk2 (hs.k fk_zMm_337) (by omega)) rfl ?_
    refine zs_goto (pc := 146) t304_146 ?_
    exact zs_iret (pc := 150) t304_150 mr304 rfl (hQ _ _ hs hI (zFr.refl) pR pC pF)
  by_cases w59 : a.toInt = 13
  · refine zs_tswI (pc := 1) t304_1 ((rfl : a.toInt = a.toInt).trans w59) (by decide) rfl (pc2 := 122) rfl ?_
    refine zs_iload_n (pc := 122) t304_122 rfl ?_
    refine zs_i2l (pc := 123) t304_123 rfl ?_
    refine zs_ldc2_w (pc := 124) t304_124 (v := 5) (by decide) ?_
    refine zs_ldc2_w (pc := 127) t304_127 (v := 13) (by decide) ?_
    refine zs_invS (pc := 130) (as := [.long a.toInt64, .long (5 : Int64), .long (13 : Int64)]) (st := []) t304_130 (by decide) mf228 rfl rfl ⟨by decide, by decide, Nat.le_of_ble_eq_true rfl, Nat.le_of_ble_eq_true rfl⟩ (K228T (zi2l rfl) ll5 ll13 (by omega) ?_) (fun _ _ q => q)
    show zGo X l 3 0 0 304 133 [(0, .ref 336), (1, .int a)] [.int (1 : Int32)] M _
    refine zs_if_eqF (pc := 133) t304_133 li1 (by decide) ?_
    refine zs_aload_n (pc := 136) t304_136 rfl ?_
    refine zs_get (pc := 137) t304_137 (by decide) (zk1 (hs.k fk_zMm_336)) (hs.p rfl fv_zMm_336_0) ?_
    refine zs_iconst (pc := 140) t304_140 (v := 5) (by decide) ?_
    refine zs_iload_n (pc := 141) t304_141 rfl ?_
    obtain ⟨w61v, w61e, w61⟩ := ziadd (a := (5 : Int32)) (b := a) li5 rfl (by omega) (by omega)
    refine zs_iadd (pc := 142) t304_142 (c := w61v) w61e ?_
    refine zs_iconst (pc := 143) t304_143 (v := 5) (by decide) ?_
    obtain ⟨w62v, w62e, w62⟩ := zisub (a := w61v) (b := (5 : Int32)) w61 li5 (by omega) (by omega)
    refine zs_isub (pc := 144) t304_144 (c := w62v) w62e ?_
    obtain ⟨w63n, w63⟩ : ∃ n : Nat, a.toInt = (n : Int) := ⟨(a.toInt).toNat, by omega⟩
    have w64 := zrg (zI M 337 w63n)
    refine zs_iald (pc := 145) t304_145 (j := w63n) (by decide) (zk1 (hs.k fk_zMm_337)) (show w62v.toInt = ((w63n : Nat) : Int) by omega) (zk2 (hs.k fk_zMm_337) (by omega)) rfl ?_
    refine zs_goto (pc := 146) t304_146 ?_
    exact zs_iret (pc := 150) t304_150 mr304 rfl (hQ _ _ hs hI (zFr.refl) pR pC pF)
  by_cases w65 : a.toInt = 14
  · refine zs_tswI (pc := 1) t304_1 ((rfl : a.toInt = a.toInt).trans w65) (by decide) rfl (pc2 := 112) rfl ?_
    refine zs_aload_n (pc := 112) t304_112 rfl ?_
    have w66 := ib336_1 hI
    refine zs_get (pc := 113) t304_113 (by decide) (zk1 (hs.k fk_zMm_336)) (zfvi rfl rfl) ?_
    exact zs_iret (pc := 116) t304_116 mr304 rfl (hQ _ _ hs hI (zFr.refl) pR pC pF)
  by_cases w67 : a.toInt = 15
  · refine zs_tswI (pc := 1) t304_1 ((rfl : a.toInt = a.toInt).trans w67) (by decide) rfl (pc2 := 117) rfl ?_
    refine zs_aload_n (pc := 117) t304_117 rfl ?_
    have w68 := ib336_5 hI
    refine zs_get (pc := 118) t304_118 (by decide) (zk1 (hs.k fk_zMm_336)) (zfvi rfl rfl) ?_
    exact zs_iret (pc := 121) t304_121 mr304 rfl (hQ _ _ hs hI (zFr.refl) pR pC pF)
  refine zs_tswD (pc := 1) t304_1 rfl (by omega) (pc2 := 122) rfl ?_
  refine zs_iload_n (pc := 122) t304_122 rfl ?_
  refine zs_i2l (pc := 123) t304_123 rfl ?_
  refine zs_ldc2_w (pc := 124) t304_124 (v := 5) (by decide) ?_
  refine zs_ldc2_w (pc := 127) t304_127 (v := 13) (by decide) ?_
  by_cases w69 : 5 ≤ a.toInt ∧ a.toInt ≤ 13
  · refine zs_invS (pc := 130) (as := [.long a.toInt64, .long (5 : Int64), .long (13 : Int64)]) (st := []) t304_130 (by decide) mf228 rfl rfl ⟨by decide, by decide, Nat.le_of_ble_eq_true rfl, Nat.le_of_ble_eq_true rfl⟩ (K228T (zi2l rfl) ll5 ll13 (by omega) ?_) (fun _ _ q => q)
    show zGo X l 3 0 0 304 133 [(0, .ref 336), (1, .int a)] [.int (1 : Int32)] M _
    refine zs_if_eqF (pc := 133) t304_133 li1 (by decide) ?_
    refine zs_aload_n (pc := 136) t304_136 rfl ?_
    refine zs_get (pc := 137) t304_137 (by decide) (zk1 (hs.k fk_zMm_336)) (hs.p rfl fv_zMm_336_0) ?_
    refine zs_iconst (pc := 140) t304_140 (v := 5) (by decide) ?_
    refine zs_iload_n (pc := 141) t304_141 rfl ?_
    obtain ⟨w70v, w70e, w70⟩ := ziadd (a := (5 : Int32)) (b := a) li5 rfl (by omega) (by omega)
    refine zs_iadd (pc := 142) t304_142 (c := w70v) w70e ?_
    refine zs_iconst (pc := 143) t304_143 (v := 5) (by decide) ?_
    obtain ⟨w71v, w71e, w71⟩ := zisub (a := w70v) (b := (5 : Int32)) w70 li5 (by omega) (by omega)
    refine zs_isub (pc := 144) t304_144 (c := w71v) w71e ?_
    obtain ⟨w72n, w72⟩ : ∃ n : Nat, a.toInt = (n : Int) := ⟨(a.toInt).toNat, by omega⟩
    have w73 := zrg (zI M 337 w72n)
    refine zs_iald (pc := 145) t304_145 (j := w72n) (by decide) (zk1 (hs.k fk_zMm_337)) (show w71v.toInt = ((w72n : Nat) : Int) by omega) (zk2 (hs.k fk_zMm_337) (by omega)) rfl ?_
    refine zs_goto (pc := 146) t304_146 ?_
    exact zs_iret (pc := 150) t304_150 mr304 rfl (hQ _ _ hs hI (zFr.refl) pR pC pF)
  · refine zs_invS (pc := 130) (as := [.long a.toInt64, .long (5 : Int64), .long (13 : Int64)]) (st := []) t304_130 (by decide) mf228 rfl rfl ⟨by decide, by decide, Nat.le_of_ble_eq_true rfl, Nat.le_of_ble_eq_true rfl⟩ (K228F (zi2l rfl) ll5 ll13 (by omega) ?_) (fun _ _ q => q)
    show zGo X l 3 0 0 304 133 [(0, .ref 336), (1, .int a)] [.int (0 : Int32)] M _
    refine zs_if_eqT (pc := 133) t304_133 li0 (by decide) ?_
    refine zs_iconst (pc := 149) t304_149 (v := -1) (by decide) ?_
    exact zs_iret (pc := 150) t304_150 mr304 (by decide) (hQ _ _ hs hI (zFr.refl) pR pC pF)
theorem K305 {X : zX} {l : Launch} {M : zM} {Q : Option Value → zM → Prop} {a b : Int32} (hs : zSk zMm M) (hI : zIv mLo mHi M) (pR : zPR M) (pC : zPC M) (pF : zPF M) (hQ : ∀ (M' : zM) (v : Int32), zSk zMm M' → zIv mLo mHi M' → zFr [(336, 363, none)] M M' → zPR M' → zPC M' → zPF M' → Q (some (.int v)) M') : zCall X l 3 0 0 305 [.ref 336, .int a, .int b] M Q := by
  have ga := zrg a
  have gb := zrg b
  refine zs_in (by decide) mf305 (Nat.le_of_ble_eq_true rfl) ?_
  show zGo X l 3 0 0 305 0 [(0, .ref 336), (1, .int a), (2, .int b)] [] M _
  refine zs_aload_n (pc := 0) t305_0 rfl ?_
  refine zs_iload_n (pc := 1) t305_1 rfl ?_
  refine zs_invV (pc := 2) (k := 336) (as' := [.int a]) (st := []) t305_2 mf306 rfl rfl (Or.inl ⟨by decide, (zk1 (hs.k fk_zMm_336))⟩) ⟨by decide, by decide, Nat.le_of_ble_eq_true rfl, Nat.le_of_ble_eq_true rfl⟩ (zs_in (by decide) mf306 (Nat.le_of_ble_eq_true rfl) ?_) (fun _ _ q => q)
  show zGo X l 1 0 0 306 0 [(0, .ref 336), (1, .int a)] [] M _
  refine zs_iload_n (pc := 0) t306_0 rfl ?_
  refine zs_i2l (pc := 1) t306_1 rfl ?_
  refine zs_lconst (pc := 2) t306_2 (v := 0) (by decide) ?_
  refine zs_aload_n (pc := 3) t306_3 rfl ?_
  refine zs_get (pc := 4) t306_4 (by decide) (zk1 (hs.k fk_zMm_336)) (hs.p rfl fv_zMm_336_0) ?_
  refine zs_iconst (pc := 7) t306_7 (v := 0) (by decide) ?_
  have w1 := ibA0 hI
  refine zs_iald (pc := 8) t306_8 (j := 0) (by decide) (zk1 (hs.k fk_zMm_337)) li0 (zk2 (hs.k fk_zMm_337) (by decide)) rfl ?_
  refine zs_iconst (pc := 9) t306_9 (v := 1) (by decide) ?_
  obtain ⟨w2v, w2e, w2⟩ := zisub (a := (zI M 337 0)) (b := (1 : Int32)) rfl li1 (by omega) (by omega)
  refine zs_isub (pc := 10) t306_10 (c := w2v) w2e ?_
  refine zs_i2l (pc := 11) t306_11 rfl ?_
  by_cases w3 : 0 ≤ a.toInt ∧ a.toInt ≤ ((zI M 337 0).toInt - 1)
  · refine zs_invS (pc := 12) (as := [.long a.toInt64, .long (0 : Int64), .long w2v.toInt64]) (st := []) t306_12 (by decide) mf228 rfl rfl ⟨by decide, by decide, Nat.le_of_ble_eq_true rfl, Nat.le_of_ble_eq_true rfl⟩ (K228T (zi2l rfl) ll0 (zi2l w2) (by omega) ?_) (fun _ _ q => q)
    show zGo X l 1 0 0 306 15 [(0, .ref 336), (1, .int a)] [.int (1 : Int32)] M _
    refine zs_iret (pc := 15) t306_15 mr306 (by decide) ?_
    show zGo X l 3 0 0 305 5 [(0, .ref 336), (1, .int a), (2, .int b)] [.int (1 : Int32)] M _
    refine zs_if_neT (pc := 5) t305_5 li1 (by decide) ?_
    refine zs_iload_n (pc := 10) t305_10 rfl ?_
    by_cases w4 : b.toInt ≠ 0
    · refine zs_if_neT (pc := 11) t305_11 rfl (by omega) ?_
      refine zs_iload_n (pc := 22) t305_22 rfl ?_
      refine zs_iconst (pc := 23) t305_23 (v := 1) (by decide) ?_
      by_cases w5 : b.toInt ≠ 1
      · refine zs_icmp_neT (pc := 24) t305_24 rfl li1 (by omega) ?_
        refine zs_iload_n (pc := 43) t305_43 rfl ?_
        refine zs_iconst (pc := 44) t305_44 (v := 2) (by decide) ?_
        by_cases w6 : b.toInt ≠ 2
        · refine zs_icmp_neT (pc := 45) t305_45 rfl li2 (by omega) ?_
          refine zs_iconst (pc := 56) t305_56 (v := -1) (by decide) ?_
          exact zs_iret (pc := 57) t305_57 mr305 (by decide) (hQ _ _ hs hI (zFr.refl) pR pC pF)
        · refine zs_icmp_neF (pc := 45) t305_45 rfl li2 (by omega) ?_
          refine zs_aload_n (pc := 48) t305_48 rfl ?_
          refine zs_iload_n (pc := 49) t305_49 rfl ?_
          refine zs_invV (pc := 50) (k := 336) (as' := [.int a]) (st := []) t305_50 mf290 rfl rfl (Or.inl ⟨by decide, (zk1 (hs.k fk_zMm_336))⟩) ⟨by decide, by decide, Nat.le_of_ble_eq_true rfl, Nat.le_of_ble_eq_true rfl⟩ (K290 hs hI ?_) (fun _ _ q => q)
          intro w7v
          have w7g := zrg w7v
          show zGo X l 3 0 0 305 53 [(0, .ref 336), (1, .int a), (2, .int b)] [.int w7v] M _
          refine zs_goto (pc := 53) t305_53 ?_
          exact zs_iret (pc := 57) t305_57 mr305 rfl (hQ _ _ hs hI (zFr.refl) pR pC pF)
      · refine zs_icmp_neF (pc := 24) t305_24 rfl li1 (by omega) ?_
        refine zs_aload_n (pc := 27) t305_27 rfl ?_
        refine zs_get (pc := 28) t305_28 (by decide) (zk1 (hs.k fk_zMm_336)) (hs.p rfl fv_zMm_336_0) ?_
        refine zs_bipush (pc := 31) t305_31 (v := 14) (by decide) ?_
        refine zs_iconst (pc := 33) t305_33 (v := 2) (by decide) ?_
        refine zs_iload_n (pc := 34) t305_34 rfl ?_
        obtain ⟨w8v, w8⟩ : ∃ v, (2 : Int32) * a = v := ⟨_, rfl⟩
        have w8g : w8v.toInt = 2 * a.toInt := by rw [← w8]; exact zmulc li2 rfl (by omega) (by omega)
        refine zs_imul (pc := 35) t305_35 (c := w8v) w8 ?_
        obtain ⟨w9v, w9e, w9⟩ := ziadd (a := (14 : Int32)) (b := w8v) li14 w8g (by omega) (by omega)
        refine zs_iadd (pc := 36) t305_36 (c := w9v) w9e ?_
        refine zs_iconst (pc := 37) t305_37 (v := 1) (by decide) ?_
        obtain ⟨w10v, w10e, w10⟩ := ziadd (a := w9v) (b := (1 : Int32)) w9 li1 (by omega) (by omega)
        refine zs_iadd (pc := 38) t305_38 (c := w10v) w10e ?_
        obtain ⟨w11n, w11⟩ : ∃ n : Nat, a.toInt = (n : Int) := ⟨(a.toInt).toNat, by omega⟩
        have w12 := zrg (zI M 337 (15 + 2 * w11n))
        refine zs_iald (pc := 39) t305_39 (j := (15 + 2 * w11n)) (by decide) (zk1 (hs.k fk_zMm_337)) (show w10v.toInt = (((15 + 2 * w11n) : Nat) : Int) by omega) (zk2 (hs.k fk_zMm_337) (by omega)) rfl ?_
        refine zs_goto (pc := 40) t305_40 ?_
        exact zs_iret (pc := 57) t305_57 mr305 rfl (hQ _ _ hs hI (zFr.refl) pR pC pF)
    · refine zs_if_neF (pc := 11) t305_11 rfl (by omega) ?_
      refine zs_aload_n (pc := 14) t305_14 rfl ?_
      refine zs_iload_n (pc := 15) t305_15 rfl ?_
      refine zs_invV (pc := 16) (k := 336) (as' := [.int a]) (st := []) t305_16 mf241 rfl rfl (Or.inl ⟨by decide, (zk1 (hs.k fk_zMm_336))⟩) ⟨by decide, by decide, Nat.le_of_ble_eq_true rfl, Nat.le_of_ble_eq_true rfl⟩ (zs_in (by decide) mf241 (Nat.le_of_ble_eq_true rfl) ?_) (fun _ _ q => q)
      show zGo X l 0 0 0 241 0 [(0, .ref 336), (1, .int a)] [] M _
      refine zs_aload_n (pc := 0) t241_0 rfl ?_
      refine zs_get (pc := 1) t241_1 (by decide) (zk1 (hs.k fk_zMm_336)) (hs.p rfl fv_zMm_336_0) ?_
      refine zs_bipush (pc := 4) t241_4 (v := 14) (by decide) ?_
      refine zs_iconst (pc := 6) t241_6 (v := 2) (by decide) ?_
      refine zs_iload_n (pc := 7) t241_7 rfl ?_
      obtain ⟨w13v, w13⟩ : ∃ v, (2 : Int32) * a = v := ⟨_, rfl⟩
      have w13g : w13v.toInt = 2 * a.toInt := by rw [← w13]; exact zmulc li2 rfl (by omega) (by omega)
      refine zs_imul (pc := 8) t241_8 (c := w13v) w13 ?_
      obtain ⟨w14v, w14e, w14⟩ := ziadd (a := (14 : Int32)) (b := w13v) li14 w13g (by omega) (by omega)
      refine zs_iadd (pc := 9) t241_9 (c := w14v) w14e ?_
      obtain ⟨w15n, w15⟩ : ∃ n : Nat, a.toInt = (n : Int) := ⟨(a.toInt).toNat, by omega⟩
      have w16 := ibX (j := (14 + 2 * w15n)) hI (by omega) (by omega) (by omega)
      refine zs_iald (pc := 10) t241_10 (j := (14 + 2 * w15n)) (by decide) (zk1 (hs.k fk_zMm_337)) (show w14v.toInt = (((14 + 2 * w15n) : Nat) : Int) by omega) (zk2 (hs.k fk_zMm_337) (by omega)) rfl ?_
      refine zs_iret (pc := 11) t241_11 mr241 rfl ?_
      show zGo X l 3 0 0 305 19 [(0, .ref 336), (1, .int a), (2, .int b)] [.int (zI M 337 (14 + 2 * w15n))] M _
      refine zs_goto (pc := 19) t305_19 ?_
      exact zs_iret (pc := 57) t305_57 mr305 rfl (hQ _ _ hs hI (zFr.refl) pR pC pF)
  · refine zs_invS (pc := 12) (as := [.long a.toInt64, .long (0 : Int64), .long w2v.toInt64]) (st := []) t306_12 (by decide) mf228 rfl rfl ⟨by decide, by decide, Nat.le_of_ble_eq_true rfl, Nat.le_of_ble_eq_true rfl⟩ (K228F (zi2l rfl) ll0 (zi2l w2) (by omega) ?_) (fun _ _ q => q)
    show zGo X l 1 0 0 306 15 [(0, .ref 336), (1, .int a)] [.int (0 : Int32)] M _
    refine zs_iret (pc := 15) t306_15 mr306 (by decide) ?_
    show zGo X l 3 0 0 305 5 [(0, .ref 336), (1, .int a), (2, .int b)] [.int (0 : Int32)] M _
    refine zs_if_neF (pc := 5) t305_5 li0 (by decide) ?_
    refine zs_iconst (pc := 8) t305_8 (v := -1) (by decide) ?_
    exact zs_iret (pc := 9) t305_9 mr305 (by decide) (hQ _ _ hs hI (zFr.refl) pR pC pF)
theorem K267 {X : zX} {l : Launch} {M : zM} {Q : Option Value → zM → Prop} {a : Int32} (hs : zSk zMm M) (hI : zIv mLo mHi M) (pR : zPR M) (pF : zPF M) (hQ : ∀ (M' : zM) (v : Int32), zSk zMm M' → zIv mLo mHi M' → zFr [(344, 344, none), (349, 349, none), (350, 350, none), (343, 343, none), (345, 345, none), (346, 346, none), (347, 347, none), (348, 348, none), (336, 336, some 22), (336, 336, some 18), (336, 336, some 19), (336, 336, some 20), (336, 336, some 21), (351, 354, none), (358, 358, none), (336, 336, some 37), (356, 356, none), (355, 355, none), (343, 343, none), (344, 344, none), (336, 336, some 39), (359, 359, none), (336, 336, some 3)] M M' → zPF M' → zPD M' → zPV M' → Q (some (.int v)) M') : zCall X l 7 0 0 267 [.ref 336, .int a] M Q := by
  have ga := zrg a
  refine zs_in (by decide) mf267 (Nat.le_of_ble_eq_true rfl) ?_
  show zGo X l 7 0 0 267 0 [(0, .ref 336), (1, .int a)] [] M _
  refine zs_aload_n (pc := 0) t267_0 rfl ?_
  refine zs_invV (pc := 1) (k := 336) (as' := []) (st := []) t267_1 mf268 rfl rfl (Or.inl ⟨by decide, (zk1 (hs.k fk_zMm_336))⟩) ⟨by decide, by decide, Nat.le_of_ble_eq_true rfl, Nat.le_of_ble_eq_true rfl⟩ (K268 hs hI pR pF ?_) (fun _ _ q => q)
  intro w1M w1s w1I w1F w1PF w1PD w1PV
  show zGo X l 7 0 0 267 4 [(0, .ref 336), (1, .int a)] [] w1M _
  refine zs_iload_n (pc := 4) t267_4 rfl ?_
  by_cases w2 : a.toInt = 0
  · refine zs_tswI (pc := 5) t267_5 ((rfl : a.toInt = a.toInt).trans w2) (by decide) rfl (pc2 := 48) rfl ?_
    refine zs_aload_n (pc := 48) t267_48 rfl ?_
    have w3 := ib336_22 w1I
    refine zs_get (pc := 49) t267_49 (by decide) (zk1 (w1s.k fk_zMm_336)) (zfvi rfl rfl) ?_
    exact zs_iret (pc := 52) t267_52 mr267 rfl (hQ _ _ w1s w1I ((zFr.refl).trans (w1F.mono rfl)) w1PF w1PD w1PV)
  by_cases w4 : a.toInt = 1
  · refine zs_tswI (pc := 5) t267_5 ((rfl : a.toInt = a.toInt).trans w4) (by decide) rfl (pc2 := 53) rfl ?_
    refine zs_aload_n (pc := 53) t267_53 rfl ?_
    refine zs_iconst (pc := 54) t267_54 (v := -1) (by decide) ?_
    refine zs_invV (pc := 55) (k := 336) (as' := [.int (-1 : Int32)]) (st := []) t267_55 mf290 rfl rfl (Or.inl ⟨by decide, (zk1 (w1s.k fk_zMm_336))⟩) ⟨by decide, by decide, Nat.le_of_ble_eq_true rfl, Nat.le_of_ble_eq_true rfl⟩ (K290 w1s w1I ?_) (fun _ _ q => q)
    intro w5v
    have w5g := zrg w5v
    show zGo X l 7 0 0 267 58 [(0, .ref 336), (1, .int a)] [.int w5v] w1M _
    exact zs_iret (pc := 58) t267_58 mr267 rfl (hQ _ _ w1s w1I ((zFr.refl).trans (w1F.mono rfl)) w1PF w1PD w1PV)
  by_cases w6 : a.toInt = 2
  · refine zs_tswI (pc := 5) t267_5 ((rfl : a.toInt = a.toInt).trans w6) (by decide) rfl (pc2 := 59) rfl ?_
    refine zs_aload_n (pc := 59) t267_59 rfl ?_
    have w7 := ib336_37 w1I
    refine zs_get (pc := 60) t267_60 (by decide) (zk1 (w1s.k fk_zMm_336)) (zfvi rfl rfl) ?_
    exact zs_iret (pc := 63) t267_63 mr267 rfl (hQ _ _ w1s w1I ((zFr.refl).trans (w1F.mono rfl)) w1PF w1PD w1PV)
  by_cases w8 : a.toInt = 3
  · refine zs_tswI (pc := 5) t267_5 ((rfl : a.toInt = a.toInt).trans w8) (by decide) rfl (pc2 := 64) rfl ?_
    refine zs_aload_n (pc := 64) t267_64 rfl ?_
    have w9 := ib336_39 w1I
    refine zs_get (pc := 65) t267_65 (by decide) (zk1 (w1s.k fk_zMm_336)) (zfvi rfl rfl) ?_
    exact zs_iret (pc := 68) t267_68 mr267 rfl (hQ _ _ w1s w1I ((zFr.refl).trans (w1F.mono rfl)) w1PF w1PD w1PV)
  by_cases w10 : a.toInt = 4
  · refine zs_tswI (pc := 5) t267_5 ((rfl : a.toInt = a.toInt).trans w10) (by decide) rfl (pc2 := 69) rfl ?_
    refine zs_aload_n (pc := 69) t267_69 rfl ?_
    refine zs_aload_n (pc := 70) t267_70 rfl ?_
    refine zs_get (pc := 71) t267_71 (by decide) (zk1 (w1s.k fk_zMm_336)) (w1s.p rfl fv_zMm_336_26) ?_
    refine zs_aload_n (pc := 74) t267_74 rfl ?_
    have w11 := ib336_22 w1I
    refine zs_get (pc := 75) t267_75 (by decide) (zk1 (w1s.k fk_zMm_336)) (zfvi rfl rfl) ?_
    refine zs_invV (pc := 78) (k := 336) (as' := [.ref 348, .int (zI w1M 336 22)]) (st := []) t267_78 mf291 rfl rfl (Or.inl ⟨by decide, (zk1 (w1s.k fk_zMm_336))⟩) ⟨by decide, by decide, Nat.le_of_ble_eq_true rfl, Nat.le_of_ble_eq_true rfl⟩ (K291_348 w1s w1I ⟨by omega, by omega⟩ ?_) (fun _ _ q => q)
    intro w12v
    have w12g := zrg w12v
    show zGo X l 7 0 0 267 81 [(0, .ref 336), (1, .int a)] [.int w12v] w1M _
    exact zs_iret (pc := 81) t267_81 mr267 rfl (hQ _ _ w1s w1I ((zFr.refl).trans (w1F.mono rfl)) w1PF w1PD w1PV)
  by_cases w13 : a.toInt = 5
  · refine zs_tswI (pc := 5) t267_5 ((rfl : a.toInt = a.toInt).trans w13) (by decide) rfl (pc2 := 82) rfl ?_
    refine zs_aload_n (pc := 82) t267_82 rfl ?_
    refine zs_invV (pc := 83) (k := 336) (as' := []) (st := []) t267_83 mf292 rfl rfl (Or.inl ⟨by decide, (zk1 (w1s.k fk_zMm_336))⟩) ⟨by decide, by decide, Nat.le_of_ble_eq_true rfl, Nat.le_of_ble_eq_true rfl⟩ (K292 w1s w1I ?_) (fun _ _ q => q)
    intro w14v
    have w14g := zrg w14v
    show zGo X l 7 0 0 267 86 [(0, .ref 336), (1, .int a)] [.int w14v] w1M _
    exact zs_iret (pc := 86) t267_86 mr267 rfl (hQ _ _ w1s w1I ((zFr.refl).trans (w1F.mono rfl)) w1PF w1PD w1PV)
  by_cases w15 : a.toInt = 6
  · refine zs_tswI (pc := 5) t267_5 ((rfl : a.toInt = a.toInt).trans w15) (by decide) rfl (pc2 := 87) rfl ?_
    refine zs_aload_n (pc := 87) t267_87 rfl ?_
    refine zs_invV (pc := 88) (k := 336) (as' := []) (st := []) t267_88 mf293 rfl rfl (Or.inl ⟨by decide, (zk1 (w1s.k fk_zMm_336))⟩) ⟨by decide, by decide, Nat.le_of_ble_eq_true rfl, Nat.le_of_ble_eq_true rfl⟩ (K293 w1s w1I ?_) (fun _ _ q => q)
    intro w16v
    have w16g := zrg w16v
    show zGo X l 7 0 0 267 91 [(0, .ref 336), (1, .int a)] [.int w16v] w1M _
    exact zs_iret (pc := 91) t267_91 mr267 rfl (hQ _ _ w1s w1I ((zFr.refl).trans (w1F.mono rfl)) w1PF w1PD w1PV)
  refine zs_tswD (pc := 5) t267_5 rfl (by omega) (pc2 := 92) rfl ?_
  refine zs_aload_n (pc := 92) t267_92 rfl ?_
  refine zs_aload_n (pc := 93) t267_93 rfl ?_
  refine zs_get (pc := 94) t267_94 (by decide) (zk1 (w1s.k fk_zMm_336)) (w1s.p rfl fv_zMm_336_34) ?_
  refine zs_aload_n (pc := 97) t267_97 rfl ?_
  have w17 := ib336_37 w1I
  refine zs_get (pc := 98) t267_98 (by decide) (zk1 (w1s.k fk_zMm_336)) (zfvi rfl rfl) ?_
  refine zs_invV (pc := 101) (k := 336) (as' := [.ref 356, .int (zI w1M 336 37)]) (st := []) t267_101 mf291 rfl rfl (Or.inl ⟨by decide, (zk1 (w1s.k fk_zMm_336))⟩) ⟨by decide, by decide, Nat.le_of_ble_eq_true rfl, Nat.le_of_ble_eq_true rfl⟩ (K291_356 w1s w1I ⟨by omega, by omega⟩ ?_) (fun _ _ q => q)
  intro w18v
  have w18g := zrg w18v
  show zGo X l 7 0 0 267 104 [(0, .ref 336), (1, .int a)] [.int w18v] w1M _
  exact zs_iret (pc := 104) t267_104 mr267 rfl (hQ _ _ w1s w1I ((zFr.refl).trans (w1F.mono rfl)) w1PF w1PD w1PV)
theorem K322 {X : zX} {l : Launch} {M : zM} {Q : Option Value → zM → Prop} (hs : zSk zMm M) (hI : zIv mLo mHi M) (pR : zPR M) (pF : zPF M) (hQ : ∀ (M' : zM) (v : Int32), zSk zMm M' → zIv mLo mHi M' → zFr [(344, 344, none), (349, 349, none), (350, 350, none), (343, 343, none), (345, 345, none), (346, 346, none), (347, 347, none), (348, 348, none), (336, 336, some 22), (336, 336, some 18), (336, 336, some 19), (336, 336, some 20), (336, 336, some 21), (351, 354, none), (358, 358, none), (336, 336, some 37), (356, 356, none), (355, 355, none), (343, 343, none), (344, 344, none), (336, 336, some 39), (359, 359, none), (336, 336, some 3)] M M' → zPF M' → zPD M' → zPV M' → Q (some (.int v)) M') : zCall X l 7 0 0 322 [.ref 336] M Q := by
  refine zs_in (by decide) mf322 (Nat.le_of_ble_eq_true rfl) ?_
  show zGo X l 7 0 0 322 0 [(0, .ref 336)] [] M _
  refine zs_aload_n (pc := 0) t322_0 rfl ?_
  refine zs_invV (pc := 1) (k := 336) (as' := []) (st := []) t322_1 mf268 rfl rfl (Or.inl ⟨by decide, (zk1 (hs.k fk_zMm_336))⟩) ⟨by decide, by decide, Nat.le_of_ble_eq_true rfl, Nat.le_of_ble_eq_true rfl⟩ (K268 hs hI pR pF ?_) (fun _ _ q => q)
  intro w1M w1s w1I w1F w1PF w1PD w1PV
  show zGo X l 7 0 0 322 4 [(0, .ref 336)] [] w1M _
  refine zs_aload_n (pc := 4) t322_4 rfl ?_
  refine zs_iconst (pc := 5) t322_5 (v := -1) (by decide) ?_
  refine zs_invV (pc := 6) (k := 336) (as' := [.int (-1 : Int32)]) (st := []) t322_6 mf290 rfl rfl (Or.inl ⟨by decide, (zk1 (w1s.k fk_zMm_336))⟩) ⟨by decide, by decide, Nat.le_of_ble_eq_true rfl, Nat.le_of_ble_eq_true rfl⟩ (K290 w1s w1I ?_) (fun _ _ q => q)
  intro w2v
  have w2g := zrg w2v
  show zGo X l 7 0 0 322 9 [(0, .ref 336)] [.int w2v] w1M _
  refine zs_iconst (pc := 9) t322_9 (v := 2) (by decide) ?_
  refine zs_aload_n (pc := 10) t322_10 rfl ?_
  refine zs_get (pc := 11) t322_11 (by decide) (zk1 (w1s.k fk_zMm_336)) (w1s.p rfl fv_zMm_336_0) ?_
  refine zs_iconst (pc := 14) t322_14 (v := 5) (by decide) ?_
  have w3 := ibA5 hI
  refine zs_iald (pc := 15) t322_15 (j := 5) (by decide) (zk1 (w1s.k fk_zMm_337)) li5 (zk2 (w1s.k fk_zMm_337) (by decide)) ((w1F 337 5 rfl).trans rfl) ?_
  obtain ⟨w4v, w4⟩ : ∃ v, (2 : Int32) * (zI M 337 5) = v := ⟨_, rfl⟩
  have w4g : w4v.toInt = 2 * (zI M 337 5).toInt := by rw [← w4]; exact zmulc li2 rfl (by omega) (by omega)
  refine zs_imul (pc := 16) t322_16 (c := w4v) w4 ?_
  refine zs_iconst (pc := 17) t322_17 (v := 1) (by decide) ?_
  obtain ⟨w5v, w5e, w5⟩ := ziadd (a := w4v) (b := (1 : Int32)) w4g li1 (by omega) (by omega)
  refine zs_iadd (pc := 18) t322_18 (c := w5v) w5e ?_
  obtain ⟨w6v, w6⟩ : ∃ v, w2v * w5v = v := ⟨_, rfl⟩
  have w6g := zrg w6v
  refine zs_imul (pc := 19) t322_19 (c := w6v) w6 ?_
  refine zs_iconst (pc := 20) t322_20 (v := 2) (by decide) ?_
  refine zs_aload_n (pc := 21) t322_21 rfl ?_
  refine zs_get (pc := 22) t322_22 (by decide) (zk1 (w1s.k fk_zMm_336)) (w1s.p rfl fv_zMm_336_0) ?_
  refine zs_bipush (pc := 25) t322_25 (v := 6) (by decide) ?_
  have w7 := ibA6 hI
  refine zs_iald (pc := 27) t322_27 (j := 6) (by decide) (zk1 (w1s.k fk_zMm_337)) li6 (zk2 (w1s.k fk_zMm_337) (by decide)) ((w1F 337 6 rfl).trans rfl) ?_
  obtain ⟨w8v, w8⟩ : ∃ v, (2 : Int32) * (zI M 337 6) = v := ⟨_, rfl⟩
  have w8g : w8v.toInt = 2 * (zI M 337 6).toInt := by rw [← w8]; exact zmulc li2 rfl (by omega) (by omega)
  refine zs_imul (pc := 28) t322_28 (c := w8v) w8 ?_
  refine zs_iconst (pc := 29) t322_29 (v := 1) (by decide) ?_
  obtain ⟨w9v, w9e, w9⟩ := ziadd (a := w8v) (b := (1 : Int32)) w8g li1 (by omega) (by omega)
  refine zs_iadd (pc := 30) t322_30 (c := w9v) w9e ?_
  obtain ⟨w10v, w10⟩ : ∃ v, w6v * w9v = v := ⟨_, rfl⟩
  have w10g := zrg w10v
  refine zs_imul (pc := 31) t322_31 (c := w10v) w10 ?_
  refine zs_bipush (pc := 32) t322_32 (v := 10) (by decide) ?_
  refine zs_aload_n (pc := 34) t322_34 rfl ?_
  have w11 := ib336_22 w1I
  refine zs_get (pc := 35) t322_35 (by decide) (zk1 (w1s.k fk_zMm_336)) (zfvi rfl rfl) ?_
  obtain ⟨w12v, w12⟩ : ∃ v, (10 : Int32) * (zI w1M 336 22) = v := ⟨_, rfl⟩
  have w12g : w12v.toInt = 10 * (zI w1M 336 22).toInt := by rw [← w12]; exact zmulc li10 rfl (by omega) (by omega)
  refine zs_imul (pc := 38) t322_38 (c := w12v) w12 ?_
  obtain ⟨w13v, w13⟩ : ∃ v, v = w10v + w12v := ⟨_, rfl⟩
  have w13g := zrg w13v
  refine zs_iadd (pc := 39) t322_39 (c := w13v) w13.symm ?_
  exact zs_iret (pc := 40) t322_40 mr322 rfl (hQ _ _ w1s w1I ((zFr.refl).trans (w1F.mono rfl)) w1PF w1PD w1PV)
