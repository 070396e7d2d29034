theorem Q296 {X : zX} {l : Launch} {M : zM} {Q : Option Value → zM → Prop} {a b : Int32} (hs : zSk zMm M) (hI : zIv mLo mHi M) {F : Nat → Int} (pR : zPR M) (pC : zPC M) (pF : zPF M) (x0 : zRw M 0 F) (x1 : zWF F) (x2 : zKnB M F) (hQ : ∀ (M' : zM) (v : Int64), zSk zMm M' → zIv mLo mHi M' → zFr [(336, 336, some 3), (336, 336, some 18), (336, 336, some 19), (336, 336, some 20), (336, 336, some 21), (336, 336, some 22), (336, 336, some 37), (336, 336, some 39), (336, 336, some 42), (336, 336, some 43), (336, 336, some 44), (336, 336, some 45), (342, 361, none)] M M' → zPR M' → zPC M' → zPF M' → (zKnB M' F) → Q (some (.long v)) M') : zCall X l 7 0 0 296 [.ref 336, .int a, .int b] M Q := by
  have ga := zrg a
  have gb := zrg b
  refine zs_in (by decide) mf296 (Nat.le_of_ble_eq_true rfl) ?_
  show zGo X l 7 0 0 296 0 [(0, .ref 336), (1, .int a), (2, .int b)] [] M _
  have f1 := x1.1
  have f3 := x1.2.2.2
  have w1 := ibA0 hI
  have w2 : (zI M 337 0).toInt = (zI M 337 0).toInt := (congrArg Int32.toInt rfl).trans rfl
  have e0 : (zI M 337 0).toInt = F 0 := x0.at (by decide) (by decide) (by decide)
  have w3 := ibA1 hI
  have w4 : (zI M 337 1).toInt = (zI M 337 1).toInt := (congrArg Int32.toInt rfl).trans rfl
  have e1 : (zI M 337 1).toInt = F 1 := x0.at (by decide) (by decide) (by decide)
  have w5 := ibA2 hI
  have w6 : (zI M 337 2).toInt = (zI M 337 2).toInt := (congrArg Int32.toInt rfl).trans rfl
  have e2 : (zI M 337 2).toInt = F 2 := x0.at (by decide) (by decide) (by decide)
  refine zs_aload_n (pc := 0) t296_0 rfl ?_
  refine zs_invV (pc := 1) (k := 336) (as' := []) (st := []) t296_1 mf268 rfl rfl (Or.inl ⟨by decide, (zk1 (hs.k fk_zMm_336))⟩) ⟨by decide, by decide, Nat.le_of_ble_eq_true rfl, Nat.le_of_ble_eq_true rfl⟩ (U268 hs hI pR pF x0 x1 x2 ?_) (fun _ _ q => q)
  intro w7M w7s w7I w7F w7PF w7PD w7PV w7x0 w7x1
  show zGo X l 7 0 0 296 4 [(0, .ref 336), (1, .int a), (2, .int b)] [] w7M _
  have w7kb : zKnB w7M F := fun _ => w7x0
  refine zs_aload_n (pc := 4) t296_4 rfl ?_
  refine zs_iload_n (pc := 5) t296_5 rfl ?_
  refine zs_invV (pc := 6) (k := 336) (as' := [.int a]) (st := []) t296_6 mf297 rfl rfl (Or.inl ⟨by decide, (zk1 (w7s.k fk_zMm_336))⟩) ⟨by decide, by decide, Nat.le_of_ble_eq_true rfl, Nat.le_of_ble_eq_true rfl⟩ (zs_in (by decide) mf297 (Nat.le_of_ble_eq_true rfl) ?_) (fun _ _ q => q)
  show zGo X l 1 0 0 297 0 [(0, .ref 336), (1, .int a)] [] w7M _
  refine zs_iload_n (pc := 0) t297_0 rfl ?_
  refine zs_i2l (pc := 1) t297_1 rfl ?_
  refine zs_lconst (pc := 2) t297_2 (v := 0) (by decide) ?_
  refine zs_aload_n (pc := 3) t297_3 rfl ?_
  have w8 := ib336_22 w7I
  refine zs_get (pc := 4) t297_4 (by decide) (zk1 (w7s.k fk_zMm_336)) (zfvi rfl rfl) ?_
  refine zs_iconst (pc := 7) t297_7 (v := 1) (by decide) ?_
  obtain ⟨w9v, w9e, w9⟩ := zisub (a := (zI w7M 336 22)) (b := (1 : Int32)) rfl li1 (by omega) (by omega)
  refine zs_isub (pc := 8) t297_8 (c := w9v) w9e ?_
  refine zs_i2l (pc := 9) t297_9 rfl ?_
  by_cases w10 : 0 ≤ a.toInt ∧ a.toInt ≤ ((zI w7M 336 22).toInt - 1)
  · refine zs_invS (pc := 10) (as := [.long a.toInt64, .long (0 : Int64), .long w9v.toInt64]) (st := []) t297_10 (by decide) mf228 rfl rfl ⟨by decide, by decide, Nat.le_of_ble_eq_true rfl, Nat.le_of_ble_eq_true rfl⟩ (K228T (zi2l rfl) ll0 (zi2l w9) (by omega) ?_) (fun _ _ q => q)
    show zGo X l 1 0 0 297 13 [(0, .ref 336), (1, .int a)] [.int (1 : Int32)] w7M _
    refine zs_iret (pc := 13) t297_13 mr297 (by decide) ?_
    show zGo X l 7 0 0 296 9 [(0, .ref 336), (1, .int a), (2, .int b)] [.int (1 : Int32)] w7M _
    refine zs_if_eqF (pc := 9) t296_9 li1 (by decide) ?_
    refine zs_iload_n (pc := 12) t296_12 rfl ?_
    refine zs_i2l (pc := 13) t296_13 rfl ?_
    refine zs_lconst (pc := 14) t296_14 (v := 0) (by decide) ?_
    refine zs_ldc2_w (pc := 15) t296_15 (v := 5) (by decide) ?_
    by_cases w11 : 0 ≤ b.toInt ∧ b.toInt ≤ 5
    · refine zs_invS (pc := 18) (as := [.long b.toInt64, .long (0 : Int64), .long (5 : Int64)]) (st := []) t296_18 (by decide) mf228 rfl rfl ⟨by decide, by decide, Nat.le_of_ble_eq_true rfl, Nat.le_of_ble_eq_true rfl⟩ (K228T (zi2l rfl) ll0 ll5 (by omega) ?_) (fun _ _ q => q)
      show zGo X l 7 0 0 296 21 [(0, .ref 336), (1, .int a), (2, .int b)] [.int (1 : Int32)] w7M _
      refine zs_if_neT (pc := 21) t296_21 li1 (by decide) ?_
      refine zs_iload_n (pc := 28) t296_28 rfl ?_
      refine zs_iconst (pc := 29) t296_29 (v := 2) (by decide) ?_
      by_cases w12 : 2 ≤ b.toInt
      · refine zs_icmp_geT (pc := 30) t296_30 rfl li2 (by omega) ?_
        refine zs_iload_n (pc := 42) t296_42 rfl ?_
        refine zs_iconst (pc := 43) t296_43 (v := 4) (by decide) ?_
        by_cases w13 : 4 ≤ b.toInt
        · refine zs_icmp_geT (pc := 44) t296_44 rfl li4 (by omega) ?_
          refine zs_aload_n (pc := 56) t296_56 rfl ?_
          refine zs_get (pc := 57) t296_57 (by decide) (zk1 (w7s.k fk_zMm_336)) (w7s.p rfl fv_zMm_336_32) ?_
          refine zs_iload_n (pc := 60) t296_60 rfl ?_
          obtain ⟨w14n, w14⟩ : ∃ n : Nat, a.toInt = (n : Int) := ⟨(a.toInt).toNat, by omega⟩
          have w15 := zrg64 (zJ w7M 354 w14n)
          refine zs_lald (pc := 61) t296_61 (j := w14n) (zk1 (w7s.k fk_zMm_354)) (show a.toInt = ((w14n : Nat) : Int) by omega) (zk2 (w7s.k fk_zMm_354) (by omega)) rfl ?_
          refine zs_aload_n (pc := 62) t296_62 rfl ?_
          refine zs_get (pc := 63) t296_63 (by decide) (zk1 (w7s.k fk_zMm_336)) (w7s.p rfl fv_zMm_336_29) ?_
          refine zs_iload_n (pc := 66) t296_66 rfl ?_
          have w16 := zrg64 (zJ w7M 351 w14n)
          have w17 : (zI w7M 336 22).toInt = (zI w7M 336 22).toInt := (congrArg Int32.toInt rfl).trans rfl
          have w18 : 0 < (zJ w7M 351 w14n).toInt := w7PD w14n (by omega)
          refine zs_lald (pc := 67) t296_67 (j := w14n) (zk1 (w7s.k fk_zMm_351)) (show a.toInt = ((w14n : Nat) : Int) by omega) (zk2 (w7s.k fk_zMm_351) (by omega)) rfl ?_
          refine zs_iload_n (pc := 68) t296_68 rfl ?_
          refine zs_iconst (pc := 69) t296_69 (v := 2) (by decide) ?_
          obtain ⟨w19v, w19⟩ : ∃ v, b - b / (2 : Int32) * (2 : Int32) = v := ⟨_, rfl⟩
          have w19g : 0 ≤ w19v.toInt ∧ w19v.toInt ≤ 1 := by rw [← w19]; exact zrem rfl li2 (by omega) (by decide)
          refine zs_irem (pc := 70) t296_70 (by decide) (c := w19v) w19 ?_
          refine zs_invS (pc := 71) (as := [.long (zJ w7M 354 w14n), .long (zJ w7M 351 w14n), .int w19v]) (st := []) t296_71 (by decide) mf298 rfl rfl ⟨by decide, by decide, Nat.le_of_ble_eq_true rfl, Nat.le_of_ble_eq_true rfl⟩ (K298 w7s w7I (by omega) ?_) (fun _ _ q => q)
          intro w20v
          have w20g := zrg64 w20v
          show zGo X l 7 0 0 296 74 [(0, .ref 336), (1, .int a), (2, .int b)] [.long w20v] w7M _
          exact zs_lret (pc := 74) t296_74 mr296 (hQ _ _ w7s w7I ((zFr.refl).trans (w7F.mono rfl)) (zPR.fr pR (w7F.eq rfl)) (zPC.fr pC (w7F.eq rfl)) w7PF w7kb)
        · refine zs_icmp_geF (pc := 44) t296_44 rfl li4 (by omega) ?_
          refine zs_aload_n (pc := 47) t296_47 rfl ?_
          refine zs_get (pc := 48) t296_48 (by decide) (zk1 (w7s.k fk_zMm_336)) (w7s.p rfl fv_zMm_336_31) ?_
          refine zs_iload_n (pc := 51) t296_51 rfl ?_
          obtain ⟨w21n, w21⟩ : ∃ n : Nat, a.toInt = (n : Int) := ⟨(a.toInt).toNat, by omega⟩
          have w22 := zrg64 (zJ w7M 353 w21n)
          refine zs_lald (pc := 52) t296_52 (j := w21n) (zk1 (w7s.k fk_zMm_353)) (show a.toInt = ((w21n : Nat) : Int) by omega) (zk2 (w7s.k fk_zMm_353) (by omega)) rfl ?_
          refine zs_goto (pc := 53) t296_53 ?_
          refine zs_aload_n (pc := 62) t296_62 rfl ?_
          refine zs_get (pc := 63) t296_63 (by decide) (zk1 (w7s.k fk_zMm_336)) (w7s.p rfl fv_zMm_336_29) ?_
          refine zs_iload_n (pc := 66) t296_66 rfl ?_
          have w23 := zrg64 (zJ w7M 351 w21n)
          have w24 : (zI w7M 336 22).toInt = (zI w7M 336 22).toInt := (congrArg Int32.toInt rfl).trans rfl
          have w25 : 0 < (zJ w7M 351 w21n).toInt := w7PD w21n (by omega)
          refine zs_lald (pc := 67) t296_67 (j := w21n) (zk1 (w7s.k fk_zMm_351)) (show a.toInt = ((w21n : Nat) : Int) by omega) (zk2 (w7s.k fk_zMm_351) (by omega)) rfl ?_
          refine zs_iload_n (pc := 68) t296_68 rfl ?_
          refine zs_iconst (pc := 69) t296_69 (v := 2) (by decide) ?_
          obtain ⟨w26v, w26⟩ : ∃ v, b - b / (2 : Int32) * (2 : Int32) = v := ⟨_, rfl⟩
          have w26g : 0 ≤ w26v.toInt ∧ w26v.toInt ≤ 1 := by rw [← w26]; exact zrem rfl li2 (by omega) (by decide)
          refine zs_irem (pc := 70) t296_70 (by decide) (c := w26v) w26 ?_
          refine zs_invS (pc := 71) (as := [.long (zJ w7M 353 w21n), .long (zJ w7M 351 w21n), .int w26v]) (st := []) t296_71 (by decide) mf298 rfl rfl ⟨by decide, by decide, Nat.le_of_ble_eq_true rfl, Nat.le_of_ble_eq_true rfl⟩ (K298 w7s w7I (by omega) ?_) (fun _ _ q => q)
          intro w27v
          have w27g := zrg64 w27v
          show zGo X l 7 0 0 296 74 [(0, .ref 336), (1, .int a), (2, .int b)] [.long w27v] w7M _
          exact zs_lret (pc := 74) t296_74 mr296 (hQ _ _ w7s w7I ((zFr.refl).trans (w7F.mono rfl)) (zPR.fr pR (w7F.eq rfl)) (zPC.fr pC (w7F.eq rfl)) w7PF w7kb)
      · refine zs_icmp_geF (pc := 30) t296_30 rfl li2 (by omega) ?_
        refine zs_aload_n (pc := 33) t296_33 rfl ?_
        refine zs_get (pc := 34) t296_34 (by decide) (zk1 (w7s.k fk_zMm_336)) (w7s.p rfl fv_zMm_336_30) ?_
        refine zs_iload_n (pc := 37) t296_37 rfl ?_
        obtain ⟨w28n, w28⟩ : ∃ n : Nat, a.toInt = (n : Int) := ⟨(a.toInt).toNat, by omega⟩
        have w29 := zrg64 (zJ w7M 352 w28n)
        refine zs_lald (pc := 38) t296_38 (j := w28n) (zk1 (w7s.k fk_zMm_352)) (show a.toInt = ((w28n : Nat) : Int) by omega) (zk2 (w7s.k fk_zMm_352) (by omega)) rfl ?_
        refine zs_goto (pc := 39) t296_39 ?_
        refine zs_aload_n (pc := 62) t296_62 rfl ?_
        refine zs_get (pc := 63) t296_63 (by decide) (zk1 (w7s.k fk_zMm_336)) (w7s.p rfl fv_zMm_336_29) ?_
        refine zs_iload_n (pc := 66) t296_66 rfl ?_
        have w30 := zrg64 (zJ w7M 351 w28n)
        have w31 : (zI w7M 336 22).toInt = (zI w7M 336 22).toInt := (congrArg Int32.toInt rfl).trans rfl
        have w32 : 0 < (zJ w7M 351 w28n).toInt := w7PD w28n (by omega)
        refine zs_lald (pc := 67) t296_67 (j := w28n) (zk1 (w7s.k fk_zMm_351)) (show a.toInt = ((w28n : Nat) : Int) by omega) (zk2 (w7s.k fk_zMm_351) (by omega)) rfl ?_
        refine zs_iload_n (pc := 68) t296_68 rfl ?_
        refine zs_iconst (pc := 69) t296_69 (v := 2) (by decide) ?_
        obtain ⟨w33v, w33⟩ : ∃ v, b - b / (2 : Int32) * (2 : Int32) = v := ⟨_, rfl⟩
        have w33g : 0 ≤ w33v.toInt ∧ w33v.toInt ≤ 1 := by rw [← w33]; exact zrem rfl li2 (by omega) (by decide)
        refine zs_irem (pc := 70) t296_70 (by decide) (c := w33v) w33 ?_
        refine zs_invS (pc := 71) (as := [.long (zJ w7M 352 w28n), .long (zJ w7M 351 w28n), .int w33v]) (st := []) t296_71 (by decide) mf298 rfl rfl ⟨by decide, by decide, Nat.le_of_ble_eq_true rfl, Nat.le_of_ble_eq_true rfl⟩ (K298 w7s w7I (by omega) ?_) (fun _ _ q => q)
        intro w34v
        have w34g := zrg64 w34v
        show zGo X l 7 0 0 296 74 [(0, .ref 336), (1, .int a), (2, .int b)] [.long w34v] w7M _
        exact zs_lret (pc := 74) t296_74 mr296 (hQ _ _ w7s w7I ((zFr.refl).trans (w7F.mono rfl)) (zPR.fr pR (w7F.eq rfl)) (zPC.fr pC (w7F.eq rfl)) w7PF w7kb)
    · refine zs_invS (pc := 18) (as := [.long b.toInt64, .long (0 : Int64), .long (5 : Int64)]) (st := []) t296_18 (by decide) mf228 rfl rfl ⟨by decide, by decide, Nat.le_of_ble_eq_true rfl, Nat.le_of_ble_eq_true rfl⟩ (K228F (zi2l rfl) ll0 ll5 (by omega) ?_) (fun _ _ q => q)
      show zGo X l 7 0 0 296 21 [(0, .ref 336), (1, .int a), (2, .int b)] [.int (0 : Int32)] w7M _
      refine zs_if_neF (pc := 21) t296_21 li0 (by decide) ?_
      refine zs_ldc2_w (pc := 24) t296_24 (v := -1000000000000) (by decide) ?_
      have w35 : (-1000000000000 : Int64).toInt = (-1000000000000) := lln1000000000000
      exact zs_lret (pc := 27) t296_27 mr296 (hQ _ _ w7s w7I ((zFr.refl).trans (w7F.mono rfl)) (zPR.fr pR (w7F.eq rfl)) (zPC.fr pC (w7F.eq rfl)) w7PF w7kb)
  · refine zs_invS (pc := 10) (as := [.long a.toInt64, .long (0 : Int64), .long w9v.toInt64]) (st := []) t297_10 (by decide) mf228 rfl rfl ⟨by decide, by decide, Nat.le_of_ble_eq_true rfl, Nat.le_of_ble_eq_true rfl⟩ (K228F (zi2l rfl) ll0 (zi2l w9) (by omega) ?_) (fun _ _ q => q)
    show zGo X l 1 0 0 297 13 [(0, .ref 336), (1, .int a)] [.int (0 : Int32)] w7M _
    refine zs_iret (pc := 13) t297_13 mr297 (by decide) ?_
    show zGo X l 7 0 0 296 9 [(0, .ref 336), (1, .int a), (2, .int b)] [.int (0 : Int32)] w7M _
    refine zs_if_eqT (pc := 9) t296_9 li0 (by decide) ?_
    refine zs_ldc2_w (pc := 24) t296_24 (v := -1000000000000) (by decide) ?_
    have w36 : (-1000000000000 : Int64).toInt = (-1000000000000) := lln1000000000000
    exact zs_lret (pc := 27) t296_27 mr296 (hQ _ _ w7s w7I ((zFr.refl).trans (w7F.mono rfl)) (zPR.fr pR (w7F.eq rfl)) (zPC.fr pC (w7F.eq rfl)) w7PF w7kb)
theorem Q300 {X : zX} {l : Launch} {M : zM} {Q : Option Value → zM → Prop} {a b c : Int32} (hs : zSk zMm M) (hI : zIv mLo mHi M) {F : Nat → Int} (pR : zPR M) (pC : zPC M) (pF : zPF M) (x0 : zRw M 0 F) (x1 : zWF F) (x2 : zKnB M F) (hQ : ∀ (M' : zM) (v : Int64), zSk zMm M' → zIv mLo mHi M' → zFr [(336, 336, some 3), (336, 336, some 18), (336, 336, some 19), (336, 336, some 20), (336, 336, some 21), (336, 336, some 22), (336, 336, some 37), (336, 336, some 39), (336, 336, some 42), (336, 336, some 43), (336, 336, some 44), (336, 336, some 45), (342, 361, none)] M M' → zPR M' → zPC M' → zPF M' → (zKnB M' F) → Q (some (.long v)) M') : zCall X l 7 0 0 300 [.ref 336, .int a, .int b, .int c] M Q := by
  have ga := zrg a
  have gb := zrg b
  have gc := zrg c
  refine zs_in (by decide) mf300 (Nat.le_of_ble_eq_true rfl) ?_
  show zGo X l 7 0 0 300 0 [(0, .ref 336), (1, .int a), (2, .int b), (3, .int c)] [] M _
  have f1 := x1.1
  have f3 := x1.2.2.2
  have w1 := ibA0 hI
  have w2 : (zI M 337 0).toInt = (zI M 337 0).toInt := (congrArg Int32.toInt rfl).trans rfl
  have e0 : (zI M 337 0).toInt = F 0 := x0.at (by decide) (by decide) (by decide)
  have w3 := ibA1 hI
  have w4 : (zI M 337 1).toInt = (zI M 337 1).toInt := (congrArg Int32.toInt rfl).trans rfl
  have e1 : (zI M 337 1).toInt = F 1 := x0.at (by decide) (by decide) (by decide)
  have w5 := ibA2 hI
  have w6 : (zI M 337 2).toInt = (zI M 337 2).toInt := (congrArg Int32.toInt rfl).trans rfl
  have e2 : (zI M 337 2).toInt = F 2 := x0.at (by decide) (by decide) (by decide)
  refine zs_aload_n (pc := 0) t300_0 rfl ?_
  refine zs_invV (pc := 1) (k := 336) (as' := []) (st := []) t300_1 mf268 rfl rfl (Or.inl ⟨by decide, (zk1 (hs.k fk_zMm_336))⟩) ⟨by decide, by decide, Nat.le_of_ble_eq_true rfl, Nat.le_of_ble_eq_true rfl⟩ (U268 hs hI pR pF x0 x1 x2 ?_) (fun _ _ q => q)
  intro w7M w7s w7I w7F w7PF w7PD w7PV w7x0 w7x1
  show zGo X l 7 0 0 300 4 [(0, .ref 336), (1, .int a), (2, .int b), (3, .int c)] [] w7M _
  have w7kb : zKnB w7M F := fun _ => w7x0
  refine zs_aload_n (pc := 4) t300_4 rfl ?_
  refine zs_iload_n (pc := 5) t300_5 rfl ?_
  refine zs_invV (pc := 6) (k := 336) (as' := [.int a]) (st := []) t300_6 mf297 rfl rfl (Or.inl ⟨by decide, (zk1 (w7s.k fk_zMm_336))⟩) ⟨by decide, by decide, Nat.le_of_ble_eq_true rfl, Nat.le_of_ble_eq_true rfl⟩ (zs_in (by decide) mf297 (Nat.le_of_ble_eq_true rfl) ?_) (fun _ _ q => q)
  show zGo X l 1 0 0 297 0 [(0, .ref 336), (1, .int a)] [] w7M _
  refine zs_iload_n (pc := 0) t297_0 rfl ?_
  refine zs_i2l (pc := 1) t297_1 rfl ?_
  refine zs_lconst (pc := 2) t297_2 (v := 0) (by decide) ?_
  refine zs_aload_n (pc := 3) t297_3 rfl ?_
  have w8 := ib336_22 w7I
  refine zs_get (pc := 4) t297_4 (by decide) (zk1 (w7s.k fk_zMm_336)) (zfvi rfl rfl) ?_
  refine zs_iconst (pc := 7) t297_7 (v := 1) (by decide) ?_
  obtain ⟨w9v, w9e, w9⟩ := zisub (a := (zI w7M 336 22)) (b := (1 : Int32)) rfl li1 (by omega) (by omega)
  refine zs_isub (pc := 8) t297_8 (c := w9v) w9e ?_
  refine zs_i2l (pc := 9) t297_9 rfl ?_
  by_cases w10 : 0 ≤ a.toInt ∧ a.toInt ≤ ((zI w7M 336 22).toInt - 1)
  · refine zs_invS (pc := 10) (as := [.long a.toInt64, .long (0 : Int64), .long w9v.toInt64]) (st := []) t297_10 (by decide) mf228 rfl rfl ⟨by decide, by decide, Nat.le_of_ble_eq_true rfl, Nat.le_of_ble_eq_true rfl⟩ (K228T (zi2l rfl) ll0 (zi2l w9) (by omega) ?_) (fun _ _ q => q)
    show zGo X l 1 0 0 297 13 [(0, .ref 336), (1, .int a)] [.int (1 : Int32)] w7M _
    refine zs_iret (pc := 13) t297_13 mr297 (by decide) ?_
    show zGo X l 7 0 0 300 9 [(0, .ref 336), (1, .int a), (2, .int b), (3, .int c)] [.int (1 : Int32)] w7M _
    refine zs_if_eqF (pc := 9) t300_9 li1 (by decide) ?_
    refine zs_aload_n (pc := 12) t300_12 rfl ?_
    refine zs_iload_n (pc := 13) t300_13 rfl ?_
    refine zs_invV (pc := 14) (k := 336) (as' := [.int b]) (st := []) t300_14 mf297 rfl rfl (Or.inl ⟨by decide, (zk1 (w7s.k fk_zMm_336))⟩) ⟨by decide, by decide, Nat.le_of_ble_eq_true rfl, Nat.le_of_ble_eq_true rfl⟩ (zs_in (by decide) mf297 (Nat.le_of_ble_eq_true rfl) ?_) (fun _ _ q => q)
    show zGo X l 1 0 0 297 0 [(0, .ref 336), (1, .int b)] [] w7M _
    refine zs_iload_n (pc := 0) t297_0 rfl ?_
    refine zs_i2l (pc := 1) t297_1 rfl ?_
    refine zs_lconst (pc := 2) t297_2 (v := 0) (by decide) ?_
    refine zs_aload_n (pc := 3) t297_3 rfl ?_
    refine zs_get (pc := 4) t297_4 (by decide) (zk1 (w7s.k fk_zMm_336)) (zfvi rfl rfl) ?_
    refine zs_iconst (pc := 7) t297_7 (v := 1) (by decide) ?_
    obtain ⟨w11v, w11e, w11⟩ := zisub (a := (zI w7M 336 22)) (b := (1 : Int32)) rfl li1 (by omega) (by omega)
    refine zs_isub (pc := 8) t297_8 (c := w11v) w11e ?_
    refine zs_i2l (pc := 9) t297_9 rfl ?_
    by_cases w12 : 0 ≤ b.toInt ∧ b.toInt ≤ ((zI w7M 336 22).toInt - 1)
    · refine zs_invS (pc := 10) (as := [.long b.toInt64, .long (0 : Int64), .long w11v.toInt64]) (st := []) t297_10 (by decide) mf228 rfl rfl ⟨by decide, by decide, Nat.le_of_ble_eq_true rfl, Nat.le_of_ble_eq_true rfl⟩ (K228T (zi2l rfl) ll0 (zi2l w11) (by omega) ?_) (fun _ _ q => q)
      show zGo X l 1 0 0 297 13 [(0, .ref 336), (1, .int b)] [.int (1 : Int32)] w7M _
      refine zs_iret (pc := 13) t297_13 mr297 (by decide) ?_
      show zGo X l 7 0 0 300 17 [(0, .ref 336), (1, .int a), (2, .int b), (3, .int c)] [.int (1 : Int32)] w7M _
      refine zs_if_eqF (pc := 17) t300_17 li1 (by decide) ?_
      refine zs_iload_n (pc := 20) t300_20 rfl ?_
      refine zs_iload_n (pc := 21) t300_21 rfl ?_
      by_cases w13 : a.toInt = b.toInt
      · refine zs_icmp_eqT (pc := 22) t300_22 rfl rfl (by omega) ?_
        refine zs_ldc2_w (pc := 35) t300_35 (v := -1000000000000) (by decide) ?_
        have w14 : (-1000000000000 : Int64).toInt = (-1000000000000) := lln1000000000000
        exact zs_lret (pc := 38) t300_38 mr300 (hQ _ _ w7s w7I ((zFr.refl).trans (w7F.mono rfl)) (zPR.fr pR (w7F.eq rfl)) (zPC.fr pC (w7F.eq rfl)) w7PF w7kb)
      · refine zs_icmp_eqF (pc := 22) t300_22 rfl rfl (by omega) ?_
        refine zs_iload_n (pc := 25) t300_25 rfl ?_
        refine zs_i2l (pc := 26) t300_26 rfl ?_
        refine zs_lconst (pc := 27) t300_27 (v := 0) (by decide) ?_
        refine zs_lconst (pc := 28) t300_28 (v := 1) (by decide) ?_
        by_cases w15 : 0 ≤ c.toInt ∧ c.toInt ≤ 1
        · refine zs_invS (pc := 29) (as := [.long c.toInt64, .long (0 : Int64), .long (1 : Int64)]) (st := []) t300_29 (by decide) mf228 rfl rfl ⟨by decide, by decide, Nat.le_of_ble_eq_true rfl, Nat.le_of_ble_eq_true rfl⟩ (K228T (zi2l rfl) ll0 ll1 (by omega) ?_) (fun _ _ q => q)
          show zGo X l 7 0 0 300 32 [(0, .ref 336), (1, .int a), (2, .int b), (3, .int c)] [.int (1 : Int32)] w7M _
          refine zs_if_neT (pc := 32) t300_32 li1 (by decide) ?_
          refine zs_aload_n (pc := 39) t300_39 rfl ?_
          refine zs_get (pc := 40) t300_40 (by decide) (zk1 (w7s.k fk_zMm_336)) (w7s.p rfl fv_zMm_336_31) ?_
          refine zs_iload_n (pc := 43) t300_43 rfl ?_
          obtain ⟨w16n, w16⟩ : ∃ n : Nat, a.toInt = (n : Int) := ⟨(a.toInt).toNat, by omega⟩
          have w17 := zrg64 (zJ w7M 353 w16n)
          refine zs_lald (pc := 44) t300_44 (j := w16n) (zk1 (w7s.k fk_zMm_353)) (show a.toInt = ((w16n : Nat) : Int) by omega) (zk2 (w7s.k fk_zMm_353) (by omega)) rfl ?_
          refine zs_aload_n (pc := 45) t300_45 rfl ?_
          refine zs_get (pc := 46) t300_46 (by decide) (zk1 (w7s.k fk_zMm_336)) (w7s.p rfl fv_zMm_336_29) ?_
          refine zs_iload_n (pc := 49) t300_49 rfl ?_
          obtain ⟨w18n, w18⟩ : ∃ n : Nat, b.toInt = (n : Int) := ⟨(b.toInt).toNat, by omega⟩
          have w19 := zrg64 (zJ w7M 351 w18n)
          have w20 : (zI w7M 336 22).toInt = (zI w7M 336 22).toInt := (congrArg Int32.toInt rfl).trans rfl
          have w21 : 0 < (zJ w7M 351 w18n).toInt := w7PD w18n (by omega)
          refine zs_lald (pc := 50) t300_50 (j := w18n) (zk1 (w7s.k fk_zMm_351)) (show b.toInt = ((w18n : Nat) : Int) by omega) (zk2 (w7s.k fk_zMm_351) (by omega)) rfl ?_
          obtain ⟨w22v, w22⟩ : ∃ v, (zJ w7M 353 w16n) * (zJ w7M 351 w18n) = v := ⟨_, rfl⟩
          have w22g := zrg64 w22v
          refine zs_lmul (pc := 51) t300_51 (c := w22v) w22 ?_
          refine zs_aload_n (pc := 52) t300_52 rfl ?_
          refine zs_get (pc := 53) t300_53 (by decide) (zk1 (w7s.k fk_zMm_336)) (w7s.p rfl fv_zMm_336_31) ?_
          refine zs_iload_n (pc := 56) t300_56 rfl ?_
          have w23 := zrg64 (zJ w7M 353 w18n)
          refine zs_lald (pc := 57) t300_57 (j := w18n) (zk1 (w7s.k fk_zMm_353)) (show b.toInt = ((w18n : Nat) : Int) by omega) (zk2 (w7s.k fk_zMm_353) (by omega)) rfl ?_
          refine zs_aload_n (pc := 58) t300_58 rfl ?_
          refine zs_get (pc := 59) t300_59 (by decide) (zk1 (w7s.k fk_zMm_336)) (w7s.p rfl fv_zMm_336_29) ?_
          refine zs_iload_n (pc := 62) t300_62 rfl ?_
          have w24 := zrg64 (zJ w7M 351 w16n)
          have w25 : (zI w7M 336 22).toInt = (zI w7M 336 22).toInt := (congrArg Int32.toInt rfl).trans rfl
          have w26 : 0 < (zJ w7M 351 w16n).toInt := w7PD w16n (by omega)
          refine zs_lald (pc := 63) t300_63 (j := w16n) (zk1 (w7s.k fk_zMm_351)) (show a.toInt = ((w16n : Nat) : Int) by omega) (zk2 (w7s.k fk_zMm_351) (by omega)) rfl ?_
          obtain ⟨w27v, w27⟩ : ∃ v, (zJ w7M 353 w18n) * (zJ w7M 351 w16n) = v := ⟨_, rfl⟩
          have w27g := zrg64 w27v
          refine zs_lmul (pc := 64) t300_64 (c := w27v) w27 ?_
          obtain ⟨w28v, w28⟩ : ∃ v, w22v - w27v = v := ⟨_, rfl⟩
          have w28g := zrg64 w28v
          refine zs_lsub (pc := 65) t300_65 (c := w28v) w28 ?_
          refine zs_lstore (pc := 66) t300_66 (ls' := [(4, .long w28v), (0, .ref 336), (1, .int a), (2, .int b), (3, .int c)]) (zml mf300 (by decide)) rfl ?_
          refine zs_lload (pc := 68) t300_68 rfl ?_
          refine zs_lconst (pc := 70) t300_70 (v := 0) (by decide) ?_
          by_cases w29 : w28v.toInt < 0
          · refine zs_lcmp (pc := 71) t300_71 (c := -1) (zlcL rfl ll0 (by omega)) ?_
            refine zs_if_neT (pc := 72) t300_72 lin1 (by decide) ?_
            refine zs_aload_n (pc := 81) t300_81 rfl ?_
            refine zs_get (pc := 82) t300_82 (by decide) (zk1 (w7s.k fk_zMm_336)) (w7s.p rfl fv_zMm_336_30) ?_
            refine zs_iload_n (pc := 85) t300_85 rfl ?_
            have w30 := zrg64 (zJ w7M 352 w18n)
            refine zs_lald (pc := 86) t300_86 (j := w18n) (zk1 (w7s.k fk_zMm_352)) (show b.toInt = ((w18n : Nat) : Int) by omega) (zk2 (w7s.k fk_zMm_352) (by omega)) rfl ?_
            refine zs_aload_n (pc := 87) t300_87 rfl ?_
            refine zs_get (pc := 88) t300_88 (by decide) (zk1 (w7s.k fk_zMm_336)) (w7s.p rfl fv_zMm_336_29) ?_
            refine zs_iload_n (pc := 91) t300_91 rfl ?_
            have w31 := zrg64 (zJ w7M 351 w16n)
            have w32 : (zI w7M 336 22).toInt = (zI w7M 336 22).toInt := (congrArg Int32.toInt rfl).trans rfl
            have w33 : 0 < (zJ w7M 351 w16n).toInt := w7PD w16n (by omega)
            refine zs_lald (pc := 92) t300_92 (j := w16n) (zk1 (w7s.k fk_zMm_351)) (show a.toInt = ((w16n : Nat) : Int) by omega) (zk2 (w7s.k fk_zMm_351) (by omega)) rfl ?_
            obtain ⟨w34v, w34⟩ : ∃ v, (zJ w7M 352 w18n) * (zJ w7M 351 w16n) = v := ⟨_, rfl⟩
            have w34g := zrg64 w34v
            refine zs_lmul (pc := 93) t300_93 (c := w34v) w34 ?_
            refine zs_aload_n (pc := 94) t300_94 rfl ?_
            refine zs_get (pc := 95) t300_95 (by decide) (zk1 (w7s.k fk_zMm_336)) (w7s.p rfl fv_zMm_336_30) ?_
            refine zs_iload_n (pc := 98) t300_98 rfl ?_
            have w35 := zrg64 (zJ w7M 352 w16n)
            refine zs_lald (pc := 99) t300_99 (j := w16n) (zk1 (w7s.k fk_zMm_352)) (show a.toInt = ((w16n : Nat) : Int) by omega) (zk2 (w7s.k fk_zMm_352) (by omega)) rfl ?_
            refine zs_aload_n (pc := 100) t300_100 rfl ?_
            refine zs_get (pc := 101) t300_101 (by decide) (zk1 (w7s.k fk_zMm_336)) (w7s.p rfl fv_zMm_336_29) ?_
            refine zs_iload_n (pc := 104) t300_104 rfl ?_
            have w36 := zrg64 (zJ w7M 351 w18n)
            have w37 : (zI w7M 336 22).toInt = (zI w7M 336 22).toInt := (congrArg Int32.toInt rfl).trans rfl
            have w38 : 0 < (zJ w7M 351 w18n).toInt := w7PD w18n (by omega)
            refine zs_lald (pc := 105) t300_105 (j := w18n) (zk1 (w7s.k fk_zMm_351)) (show b.toInt = ((w18n : Nat) : Int) by omega) (zk2 (w7s.k fk_zMm_351) (by omega)) rfl ?_
            obtain ⟨w39v, w39⟩ : ∃ v, (zJ w7M 352 w16n) * (zJ w7M 351 w18n) = v := ⟨_, rfl⟩
            have w39g := zrg64 w39v
            refine zs_lmul (pc := 106) t300_106 (c := w39v) w39 ?_
            obtain ⟨w40v, w40⟩ : ∃ v, w34v - w39v = v := ⟨_, rfl⟩
            have w40g := zrg64 w40v
            refine zs_lsub (pc := 107) t300_107 (c := w40v) w40 ?_
            refine zs_lload (pc := 108) t300_108 rfl ?_
            refine zs_iload_n (pc := 110) t300_110 rfl ?_
            refine zs_invS (pc := 111) (as := [.long w40v, .long w28v, .int c]) (st := []) t300_111 (by decide) mf298 rfl rfl ⟨by decide, by decide, Nat.le_of_ble_eq_true rfl, Nat.le_of_ble_eq_true rfl⟩ (K298 w7s w7I (by omega) ?_) (fun _ _ q => q)
            intro w41v
            have w41g := zrg64 w41v
            show zGo X l 7 0 0 300 114 [(4, .long w28v), (0, .ref 336), (1, .int a), (2, .int b), (3, .int c)] [.long w41v] w7M _
            exact zs_lret (pc := 114) t300_114 mr300 (hQ _ _ w7s w7I ((zFr.refl).trans (w7F.mono rfl)) (zPR.fr pR (w7F.eq rfl)) (zPC.fr pC (w7F.eq rfl)) w7PF w7kb)
          by_cases w42 : w28v.toInt = 0
          · refine zs_lcmp (pc := 71) t300_71 (c := 0) (zlcE rfl ll0 (by omega)) ?_
            refine zs_if_neF (pc := 72) t300_72 li0 (by decide) ?_
            refine zs_ldc2_w (pc := 75) t300_75 (v := -2) (by decide) ?_
            refine zs_goto (pc := 78) t300_78 ?_
            have w43 : (-2 : Int64).toInt = (-2) := lln2
            exact zs_lret (pc := 114) t300_114 mr300 (hQ _ _ w7s w7I ((zFr.refl).trans (w7F.mono rfl)) (zPR.fr pR (w7F.eq rfl)) (zPC.fr pC (w7F.eq rfl)) w7PF w7kb)
          refine zs_lcmp (pc := 71) t300_71 (c := 1) (zlcG rfl ll0 (by omega)) ?_
          refine zs_if_neT (pc := 72) t300_72 li1 (by decide) ?_
          refine zs_aload_n (pc := 81) t300_81 rfl ?_
          refine zs_get (pc := 82) t300_82 (by decide) (zk1 (w7s.k fk_zMm_336)) (w7s.p rfl fv_zMm_336_30) ?_
          refine zs_iload_n (pc := 85) t300_85 rfl ?_
          have w45 := zrg64 (zJ w7M 352 w18n)
          refine zs_lald (pc := 86) t300_86 (j := w18n) (zk1 (w7s.k fk_zMm_352)) (show b.toInt = ((w18n : Nat) : Int) by omega) (zk2 (w7s.k fk_zMm_352) (by omega)) rfl ?_
          refine zs_aload_n (pc := 87) t300_87 rfl ?_
          refine zs_get (pc := 88) t300_88 (by decide) (zk1 (w7s.k fk_zMm_336)) (w7s.p rfl fv_zMm_336_29) ?_
          refine zs_iload_n (pc := 91) t300_91 rfl ?_
          have w46 := zrg64 (zJ w7M 351 w16n)
          have w47 : (zI w7M 336 22).toInt = (zI w7M 336 22).toInt := (congrArg Int32.toInt rfl).trans rfl
          have w48 : 0 < (zJ w7M 351 w16n).toInt := w7PD w16n (by omega)
          refine zs_lald (pc := 92) t300_92 (j := w16n) (zk1 (w7s.k fk_zMm_351)) (show a.toInt = ((w16n : Nat) : Int) by omega) (zk2 (w7s.k fk_zMm_351) (by omega)) rfl ?_
          obtain ⟨w49v, w49⟩ : ∃ v, (zJ w7M 352 w18n) * (zJ w7M 351 w16n) = v := ⟨_, rfl⟩
          have w49g := zrg64 w49v
          refine zs_lmul (pc := 93) t300_93 (c := w49v) w49 ?_
          refine zs_aload_n (pc := 94) t300_94 rfl ?_
          refine zs_get (pc := 95) t300_95 (by decide) (zk1 (w7s.k fk_zMm_336)) (w7s.p rfl fv_zMm_336_30) ?_
          refine zs_iload_n (pc := 98) t300_98 rfl ?_
          have w50 := zrg64 (zJ w7M 352 w16n)
          refine zs_lald (pc := 99) t300_99 (j := w16n) (zk1 (w7s.k fk_zMm_352)) (show a.toInt = ((w16n : Nat) : Int) by omega) (zk2 (w7s.k fk_zMm_352) (by omega)) rfl ?_
          refine zs_aload_n (pc := 100) t300_100 rfl ?_
          refine zs_get (pc := 101) t300_101 (by decide) (zk1 (w7s.k fk_zMm_336)) (w7s.p rfl fv_zMm_336_29) ?_
          refine zs_iload_n (pc := 104) t300_104 rfl ?_
          have w51 := zrg64 (zJ w7M 351 w18n)
          have w52 : (zI w7M 336 22).toInt = (zI w7M 336 22).toInt := (congrArg Int32.toInt rfl).trans rfl
          have w53 : 0 < (zJ w7M 351 w18n).toInt := w7PD w18n (by omega)
          refine zs_lald (pc := 105) t300_105 (j := w18n) (zk1 (w7s.k fk_zMm_351)) (show b.toInt = ((w18n : Nat) : Int) by omega) (zk2 (w7s.k fk_zMm_351) (by omega)) rfl ?_
          obtain ⟨w54v, w54⟩ : ∃ v, (zJ w7M 352 w16n) * (zJ w7M 351 w18n) = v := ⟨_, rfl⟩
          have w54g := zrg64 w54v
          refine zs_lmul (pc := 106) t300_106 (c := w54v) w54 ?_
          obtain ⟨w55v, w55⟩ : ∃ v, w49v - w54v = v := ⟨_, rfl⟩
          have w55g := zrg64 w55v
          refine zs_lsub (pc := 107) t300_107 (c := w55v) w55 ?_
          refine zs_lload (pc := 108) t300_108 rfl ?_
          refine zs_iload_n (pc := 110) t300_110 rfl ?_
          refine zs_invS (pc := 111) (as := [.long w55v, .long w28v, .int c]) (st := []) t300_111 (by decide) mf298 rfl rfl ⟨by decide, by decide, Nat.le_of_ble_eq_true rfl, Nat.le_of_ble_eq_true rfl⟩ (K298 w7s w7I (by omega) ?_) (fun _ _ q => q)
          intro w56v
          have w56g := zrg64 w56v
          show zGo X l 7 0 0 300 114 [(4, .long w28v), (0, .ref 336), (1, .int a), (2, .int b), (3, .int c)] [.long w56v] w7M _
          exact zs_lret (pc := 114) t300_114 mr300 (hQ _ _ w7s w7I ((zFr.refl).trans (w7F.mono rfl)) (zPR.fr pR (w7F.eq rfl)) (zPC.fr pC (w7F.eq rfl)) w7PF w7kb)
        · refine zs_invS (pc := 29) (as := [.long c.toInt64, .long (0 : Int64), .long (1 : Int64)]) (st := []) t300_29 (by decide) mf228 rfl rfl ⟨by decide, by decide, Nat.le_of_ble_eq_true rfl, Nat.le_of_ble_eq_true rfl⟩ (K228F (zi2l rfl) ll0 ll1 (by omega) ?_) (fun _ _ q => q)
          show zGo X l 7 0 0 300 32 [(0, .ref 336), (1, .int a), (2, .int b), (3, .int c)] [.int (0 : Int32)] w7M _
          refine zs_if_neF (pc := 32) t300_32 li0 (by decide) ?_
          refine zs_ldc2_w (pc := 35) t300_35 (v := -1000000000000) (by decide) ?_
          have w57 : (-1000000000000 : Int64).toInt = (-1000000000000) := lln1000000000000
          exact zs_lret (pc := 38) t300_38 mr300 (hQ _ _ w7s w7I ((zFr.refl).trans (w7F.mono rfl)) (zPR.fr pR (w7F.eq rfl)) (zPC.fr pC (w7F.eq rfl)) w7PF w7kb)
    · refine zs_invS (pc := 10) (as := [.long b.toInt64, .long (0 : Int64), .long w11v.toInt64]) (st := []) t297_10 (by decide) mf228 rfl rfl ⟨by decide, by decide, Nat.le_of_ble_eq_true rfl, Nat.le_of_ble_eq_true rfl⟩ (K228F (zi2l rfl) ll0 (zi2l w11) (by omega) ?_) (fun _ _ q => q)
      show zGo X l 1 0 0 297 13 [(0, .ref 336), (1, .int b)] [.int (0 : Int32)] w7M _
      refine zs_iret (pc := 13) t297_13 mr297 (by decide) ?_
      show zGo X l 7 0 0 300 17 [(0, .ref 336), (1, .int a), (2, .int b), (3, .int c)] [.int (0 : Int32)] w7M _
      refine zs_if_eqT (pc := 17) t300_17 li0 (by decide) ?_
      refine zs_ldc2_w (pc := 35) t300_35 (v := -1000000000000) (by decide) ?_
      have w58 : (-1000000000000 : Int64).toInt = (-1000000000000) := lln1000000000000
      exact zs_lret (pc := 38) t300_38 mr300 (hQ _ _ w7s w7I ((zFr.refl).trans (w7F.mono rfl)) (zPR.fr pR (w7F.eq rfl)) (zPC.fr pC (w7F.eq rfl)) w7PF w7kb)
  · refine zs_invS (pc := 10) (as := [.long a.toInt64, .long (0 : Int64), .long w9v.toInt64]) (st := []) t297_10 (by decide) mf228 rfl rfl ⟨by decide, by decide, Nat.le_of_ble_eq_true rfl, Nat.le_of_ble_eq_true rfl⟩ (K228F (zi2l rfl) ll0 (zi2l w9) (by omega) ?_) (fun _ _ q => q)
    show zGo X l 1 0 0 297 13 [(0, .ref 336), (1, .int a)] [.int (0 : Int32)] w7M _
    refine zs_iret (pc := 13) t297_13 mr297 (by decide) ?_
    show zGo X l 7 0 0 300 9 [(0, .ref 336), (1, .int a), (2, .int b), (3, .int c)] [.int (0 : Int32)] w7M _
    refine zs_if_eqT (pc := 9) t300_9 li0 (by decide) ?_
    refine zs_ldc2_w (pc := 35) t300_35 (v := -1000000000000) (by decide) ?_
    have w59 : (-1000000000000 : Int64).toInt = (-1000000000000) := lln1000000000000
    exact zs_lret (pc := 38) t300_38 mr300 (hQ _ _ w7s w7I ((zFr.refl).trans (w7F.mono rfl)) (zPR.fr pR (w7F.eq rfl)) (zPC.fr pC (w7F.eq rfl)) w7PF w7kb)
theorem Q301 {X : zX} {l : Launch} {M : zM} {Q : Option Value → zM → Prop} {a b : Int32} (hs : zSk zMm M) (hI : zIv mLo mHi M) {F : Nat → Int} (pR : zPR M) (pC : zPC M) (pF : zPF M) (x0 : zRw M 0 F) (x1 : zWF F) (x2 : zKnB M F) (hQ : ∀ (M' : zM) (v : Int32), zSk zMm M' → zIv mLo mHi M' → zFr [(336, 336, some 3), (336, 336, some 18), (336, 336, some 19), (336, 336, some 20), (336, 336, some 21), (336, 336, some 22), (336, 336, some 37), (336, 336, some 39), (336, 336, some 42), (336, 336, some 43), (336, 336, some 44), (336, 336, some 45), (342, 361, none)] M M' → zPR M' → zPC M' → zPF M' → (zKnB M' F) → Q (some (.int v)) M') : zCall X l 7 0 0 301 [.ref 336, .int a, .int b] M Q := by
  have ga := zrg a
  have gb := zrg b
  refine zs_in (by decide) mf301 (Nat.le_of_ble_eq_true rfl) ?_
  show zGo X l 7 0 0 301 0 [(0, .ref 336), (1, .int a), (2, .int b)] [] M _
  have f1 := x1.1
  have f3 := x1.2.2.2
  have w1 := ibA0 hI
  have w2 : (zI M 337 0).toInt = (zI M 337 0).toInt := (congrArg Int32.toInt rfl).trans rfl
  have e0 : (zI M 337 0).toInt = F 0 := x0.at (by decide) (by decide) (by decide)
  have w3 := ibA1 hI
  have w4 : (zI M 337 1).toInt = (zI M 337 1).toInt := (congrArg Int32.toInt rfl).trans rfl
  have e1 : (zI M 337 1).toInt = F 1 := x0.at (by decide) (by decide) (by decide)
  have w5 := ibA2 hI
  have w6 : (zI M 337 2).toInt = (zI M 337 2).toInt := (congrArg Int32.toInt rfl).trans rfl
  have e2 : (zI M 337 2).toInt = F 2 := x0.at (by decide) (by decide) (by decide)
  refine zs_aload_n (pc := 0) t301_0 rfl ?_
  refine zs_invV (pc := 1) (k := 336) (as' := []) (st := []) t301_1 mf268 rfl rfl (Or.inl ⟨by decide, (zk1 (hs.k fk_zMm_336))⟩) ⟨by decide, by decide, Nat.le_of_ble_eq_true rfl, Nat.le_of_ble_eq_true rfl⟩ (U268 hs hI pR pF x0 x1 x2 ?_) (fun _ _ q => q)
  intro w7M w7s w7I w7F w7PF w7PD w7PV w7x0 w7x1
  show zGo X l 7 0 0 301 4 [(0, .ref 336), (1, .int a), (2, .int b)] [] w7M _
  have w7kb : zKnB w7M F := fun _ => w7x0
  refine zs_iload_n (pc := 4) t301_4 rfl ?_
  refine zs_i2l (pc := 5) t301_5 rfl ?_
  refine zs_lconst (pc := 6) t301_6 (v := 0) (by decide) ?_
  refine zs_aload_n (pc := 7) t301_7 rfl ?_
  have w8 := ib336_37 w7I
  refine zs_get (pc := 8) t301_8 (by decide) (zk1 (w7s.k fk_zMm_336)) (zfvi rfl rfl) ?_
  refine zs_iconst (pc := 11) t301_11 (v := 1) (by decide) ?_
  obtain ⟨w9v, w9e, w9⟩ := zisub (a := (zI w7M 336 37)) (b := (1 : Int32)) rfl li1 (by omega) (by omega)
  refine zs_isub (pc := 12) t301_12 (c := w9v) w9e ?_
  refine zs_i2l (pc := 13) t301_13 rfl ?_
  by_cases w10 : 0 ≤ a.toInt ∧ a.toInt ≤ ((zI w7M 336 37).toInt - 1)
  · refine zs_invS (pc := 14) (as := [.long a.toInt64, .long (0 : Int64), .long w9v.toInt64]) (st := []) t301_14 (by decide) mf228 rfl rfl ⟨by decide, by decide, Nat.le_of_ble_eq_true rfl, Nat.le_of_ble_eq_true rfl⟩ (K228T (zi2l rfl) ll0 (zi2l w9) (by omega) ?_) (fun _ _ q => q)
    show zGo X l 7 0 0 301 17 [(0, .ref 336), (1, .int a), (2, .int b)] [.int (1 : Int32)] w7M _
    refine zs_if_eqF (pc := 17) t301_17 li1 (by decide) ?_
    refine zs_iload_n (pc := 20) t301_20 rfl ?_
    refine zs_i2l (pc := 21) t301_21 rfl ?_
    refine zs_lconst (pc := 22) t301_22 (v := 0) (by decide) ?_
    refine zs_lconst (pc := 23) t301_23 (v := 1) (by decide) ?_
    by_cases w11 : 0 ≤ b.toInt ∧ b.toInt ≤ 1
    · refine zs_invS (pc := 24) (as := [.long b.toInt64, .long (0 : Int64), .long (1 : Int64)]) (st := []) t301_24 (by decide) mf228 rfl rfl ⟨by decide, by decide, Nat.le_of_ble_eq_true rfl, Nat.le_of_ble_eq_true rfl⟩ (K228T (zi2l rfl) ll0 ll1 (by omega) ?_) (fun _ _ q => q)
      show zGo X l 7 0 0 301 27 [(0, .ref 336), (1, .int a), (2, .int b)] [.int (1 : Int32)] w7M _
      refine zs_if_neT (pc := 27) t301_27 li1 (by decide) ?_
      refine zs_iload_n (pc := 34) t301_34 rfl ?_
      by_cases w12 : b.toInt ≠ 0
      · refine zs_if_neT (pc := 35) t301_35 rfl (by omega) ?_
        refine zs_aload_n (pc := 47) t301_47 rfl ?_
        refine zs_get (pc := 48) t301_48 (by decide) (zk1 (w7s.k fk_zMm_336)) (w7s.p rfl fv_zMm_336_35) ?_
        refine zs_iload_n (pc := 51) t301_51 rfl ?_
        obtain ⟨w13n, w13⟩ : ∃ n : Nat, a.toInt = (n : Int) := ⟨(a.toInt).toNat, by omega⟩
        have w14 := zrg64 (zJ w7M 357 w13n)
        refine zs_lald (pc := 52) t301_52 (j := w13n) (zk1 (w7s.k fk_zMm_357)) (show a.toInt = ((w13n : Nat) : Int) by omega) (zk2 (w7s.k fk_zMm_357) (by omega)) rfl ?_
        refine zs_aload_n (pc := 53) t301_53 rfl ?_
        refine zs_get (pc := 54) t301_54 (by decide) (zk1 (w7s.k fk_zMm_336)) (w7s.p rfl fv_zMm_336_34) ?_
        refine zs_iload_n (pc := 57) t301_57 rfl ?_
        have w15 := zrg (zI w7M 356 w13n)
        have w16 : (zI w7M 336 37).toInt = (zI w7M 336 37).toInt := (congrArg Int32.toInt rfl).trans rfl
        have w17 := w7PV w13n (by omega)
        refine zs_iald (pc := 58) t301_58 (j := w13n) (by decide) (zk1 (w7s.k fk_zMm_356)) (show a.toInt = ((w13n : Nat) : Int) by omega) (zk2 (w7s.k fk_zMm_356) (by omega)) rfl ?_
        refine zs_i2l (pc := 59) t301_59 rfl ?_
        have w18 : (zI w7M 356 w13n).toInt64.toInt = (zI w7M 356 w13n).toInt := (zi2l rfl)
        refine zs_invS (pc := 60) (as := [.long (zJ w7M 357 w13n), .long (zI w7M 356 w13n).toInt64]) (st := []) t301_60 (by decide) mf286 rfl rfl ⟨by decide, by decide, Nat.le_of_ble_eq_true rfl, Nat.le_of_ble_eq_true rfl⟩ (K286 w7s w7I ⟨by omega, by omega⟩ ?_) (fun _ _ q => q)
        intro w19v
        have w19g := zrg64 w19v
        show zGo X l 7 0 0 301 63 [(0, .ref 336), (1, .int a), (2, .int b)] [.long w19v] w7M _
        obtain ⟨w20v, w20⟩ : ∃ v, w19v.toInt32 = v := ⟨_, rfl⟩
        have w20g := zrg w20v
        refine zs_l2i (pc := 63) t301_63 (c := w20v) w20 ?_
        exact zs_iret (pc := 64) t301_64 mr301 rfl (hQ _ _ w7s w7I ((zFr.refl).trans (w7F.mono rfl)) (zPR.fr pR (w7F.eq rfl)) (zPC.fr pC (w7F.eq rfl)) w7PF w7kb)
      · refine zs_if_neF (pc := 35) t301_35 rfl (by omega) ?_
        refine zs_aload_n (pc := 38) t301_38 rfl ?_
        refine zs_get (pc := 39) t301_39 (by decide) (zk1 (w7s.k fk_zMm_336)) (w7s.p rfl fv_zMm_336_34) ?_
        refine zs_iload_n (pc := 42) t301_42 rfl ?_
        obtain ⟨w21n, w21⟩ : ∃ n : Nat, a.toInt = (n : Int) := ⟨(a.toInt).toNat, by omega⟩
        have w22 := zrg (zI w7M 356 w21n)
        have w23 : (zI w7M 336 37).toInt = (zI w7M 336 37).toInt := (congrArg Int32.toInt rfl).trans rfl
        have w24 := w7PV w21n (by omega)
        refine zs_iald (pc := 43) t301_43 (j := w21n) (by decide) (zk1 (w7s.k fk_zMm_356)) (show a.toInt = ((w21n : Nat) : Int) by omega) (zk2 (w7s.k fk_zMm_356) (by omega)) rfl ?_
        refine zs_goto (pc := 44) t301_44 ?_
        exact zs_iret (pc := 64) t301_64 mr301 rfl (hQ _ _ w7s w7I ((zFr.refl).trans (w7F.mono rfl)) (zPR.fr pR (w7F.eq rfl)) (zPC.fr pC (w7F.eq rfl)) w7PF w7kb)
    · refine zs_invS (pc := 24) (as := [.long b.toInt64, .long (0 : Int64), .long (1 : Int64)]) (st := []) t301_24 (by decide) mf228 rfl rfl ⟨by decide, by decide, Nat.le_of_ble_eq_true rfl, Nat.le_of_ble_eq_true rfl⟩ (K228F (zi2l rfl) ll0 ll1 (by omega) ?_) (fun _ _ q => q)
      show zGo X l 7 0 0 301 27 [(0, .ref 336), (1, .int a), (2, .int b)] [.int (0 : Int32)] w7M _
      refine zs_if_neF (pc := 27) t301_27 li0 (by decide) ?_
      refine zs_ldc_w (pc := 30) t301_30 (v := -100000) rfl (by decide) ?_
      have w25 : (-100000 : Int32).toInt = (-100000) := lin100000
      exact zs_iret (pc := 33) t301_33 mr301 (by decide) (hQ _ _ w7s w7I ((zFr.refl).trans (w7F.mono rfl)) (zPR.fr pR (w7F.eq rfl)) (zPC.fr pC (w7F.eq rfl)) w7PF w7kb)
  · refine zs_invS (pc := 14) (as := [.long a.toInt64, .long (0 : Int64), .long w9v.toInt64]) (st := []) t301_14 (by decide) mf228 rfl rfl ⟨by decide, by decide, Nat.le_of_ble_eq_true rfl, Nat.le_of_ble_eq_true rfl⟩ (K228F (zi2l rfl) ll0 (zi2l w9) (by omega) ?_) (fun _ _ q => q)
    show zGo X l 7 0 0 301 17 [(0, .ref 336), (1, .int a), (2, .int b)] [.int (0 : Int32)] w7M _
    refine zs_if_eqT (pc := 17) t301_17 li0 (by decide) ?_
    refine zs_ldc_w (pc := 30) t301_30 (v := -100000) rfl (by decide) ?_
    have w26 : (-100000 : Int32).toInt = (-100000) := lin100000
    exact zs_iret (pc := 33) t301_33 mr301 (by decide) (hQ _ _ w7s w7I ((zFr.refl).trans (w7F.mono rfl)) (zPR.fr pR (w7F.eq rfl)) (zPC.fr pC (w7F.eq rfl)) w7PF w7kb)
theorem Q302 {X : zX} {l : Launch} {M : zM} {Q : Option Value → zM → Prop} {a b : Int32} (hs : zSk zMm M) (hI : zIv mLo mHi M) {F : Nat → Int} (pR : zPR M) (pC : zPC M) (pF : zPF M) (x0 : zRw M 0 F) (x1 : zWF F) (x2 : zKnB M F) (hQ : ∀ (M' : zM) (v : Int32), zSk zMm M' → zIv mLo mHi M' → zFr [(336, 336, some 3), (336, 336, some 18), (336, 336, some 19), (336, 336, some 20), (336, 336, some 21), (336, 336, some 22), (336, 336, some 37), (336, 336, some 39), (336, 336, some 42), (336, 336, some 43), (336, 336, some 44), (336, 336, some 45), (342, 361, none)] M M' → zPR M' → zPC M' → zPF M' → (zKnB M' F) → Q (some (.int v)) M') : zCall X l 7 0 0 302 [.ref 336, .int a, .int b] M Q := by
  have ga := zrg a
  have gb := zrg b
  refine zs_in (by decide) mf302 (Nat.le_of_ble_eq_true rfl) ?_
  show zGo X l 7 0 0 302 0 [(0, .ref 336), (1, .int a), (2, .int b)] [] M _
  have f1 := x1.1
  have f3 := x1.2.2.2
  have w1 := ibA0 hI
  have w2 : (zI M 337 0).toInt = (zI M 337 0).toInt := (congrArg Int32.toInt rfl).trans rfl
  have e0 : (zI M 337 0).toInt = F 0 := x0.at (by decide) (by decide) (by decide)
  have w3 := ibA1 hI
  have w4 : (zI M 337 1).toInt = (zI M 337 1).toInt := (congrArg Int32.toInt rfl).trans rfl
  have e1 : (zI M 337 1).toInt = F 1 := x0.at (by decide) (by decide) (by decide)
  have w5 := ibA2 hI
  have w6 : (zI M 337 2).toInt = (zI M 337 2).toInt := (congrArg Int32.toInt rfl).trans rfl
  have e2 : (zI M 337 2).toInt = F 2 := x0.at (by decide) (by decide) (by decide)
  refine zs_aload_n (pc := 0) t302_0 rfl ?_
  refine zs_invV (pc := 1) (k := 336) (as' := []) (st := []) t302_1 mf268 rfl rfl (Or.inl ⟨by decide, (zk1 (hs.k fk_zMm_336))⟩) ⟨by decide, by decide, Nat.le_of_ble_eq_true rfl, Nat.le_of_ble_eq_true rfl⟩ (U268 hs hI pR pF x0 x1 x2 ?_) (fun _ _ q => q)
  intro w7M w7s w7I w7F w7PF w7PD w7PV w7x0 w7x1
  show zGo X l 7 0 0 302 4 [(0, .ref 336), (1, .int a), (2, .int b)] [] w7M _
  have w7kb : zKnB w7M F := fun _ => w7x0
  refine zs_iload_n (pc := 4) t302_4 rfl ?_
  refine zs_i2l (pc := 5) t302_5 rfl ?_
  refine zs_lconst (pc := 6) t302_6 (v := 0) (by decide) ?_
  refine zs_aload_n (pc := 7) t302_7 rfl ?_
  have w8 := ib336_39 w7I
  refine zs_get (pc := 8) t302_8 (by decide) (zk1 (w7s.k fk_zMm_336)) (zfvi rfl rfl) ?_
  refine zs_bipush (pc := 11) t302_11 (v := 20) (by decide) ?_
  refine zs_invS (pc := 13) (as := [.int (zI w7M 336 39), .int (20 : Int32)]) (st := [.long (0 : Int64), .long a.toInt64]) t302_13 (by decide) mf303 rfl rfl ⟨by decide, by decide, Nat.le_of_ble_eq_true rfl, Nat.le_of_ble_eq_true rfl⟩ (zs_in (by decide) mf303 (Nat.le_of_ble_eq_true rfl) ?_) (fun _ _ q => q)
  show zGo X l 0 0 0 303 0 [(0, .int (zI w7M 336 39)), (1, .int (20 : Int32))] [] w7M _
  refine zs_iload_n (pc := 0) t303_0 rfl ?_
  refine zs_iload_n (pc := 1) t303_1 rfl ?_
  by_cases w9 : 20 ≤ (zI w7M 336 39).toInt
  · refine zs_icmp_geT (pc := 2) t303_2 rfl li20 (by omega) ?_
    refine zs_iload_n (pc := 9) t303_9 rfl ?_
    refine zs_iret (pc := 10) t303_10 mr303 (by decide) ?_
    show zGo X l 7 0 0 302 16 [(0, .ref 336), (1, .int a), (2, .int b)] [.int (20 : Int32), .long (0 : Int64), .long a.toInt64] w7M _
    refine zs_iconst (pc := 16) t302_16 (v := 1) (by decide) ?_
    refine zs_isub (pc := 17) t302_17 (c := 19) (by decide) ?_
    refine zs_i2l (pc := 18) t302_18 (c := 19) (by decide) ?_
    by_cases w10 : 0 ≤ a.toInt ∧ a.toInt ≤ 19
    · refine zs_invS (pc := 19) (as := [.long a.toInt64, .long (0 : Int64), .long (19 : Int64)]) (st := []) t302_19 (by decide) mf228 rfl rfl ⟨by decide, by decide, Nat.le_of_ble_eq_true rfl, Nat.le_of_ble_eq_true rfl⟩ (K228T (zi2l rfl) ll0 ll19 (by omega) ?_) (fun _ _ q => q)
      show zGo X l 7 0 0 302 22 [(0, .ref 336), (1, .int a), (2, .int b)] [.int (1 : Int32)] w7M _
      refine zs_if_eqF (pc := 22) t302_22 li1 (by decide) ?_
      refine zs_iload_n (pc := 25) t302_25 rfl ?_
      refine zs_i2l (pc := 26) t302_26 rfl ?_
      refine zs_lconst (pc := 27) t302_27 (v := 0) (by decide) ?_
      refine zs_ldc2_w (pc := 28) t302_28 (v := 3) (by decide) ?_
      by_cases w11 : 0 ≤ b.toInt ∧ b.toInt ≤ 3
      · refine zs_invS (pc := 31) (as := [.long b.toInt64, .long (0 : Int64), .long (3 : Int64)]) (st := []) t302_31 (by decide) mf228 rfl rfl ⟨by decide, by decide, Nat.le_of_ble_eq_true rfl, Nat.le_of_ble_eq_true rfl⟩ (K228T (zi2l rfl) ll0 ll3 (by omega) ?_) (fun _ _ q => q)
        show zGo X l 7 0 0 302 34 [(0, .ref 336), (1, .int a), (2, .int b)] [.int (1 : Int32)] w7M _
        refine zs_if_eqF (pc := 34) t302_34 li1 (by decide) ?_
        refine zs_aload_n (pc := 37) t302_37 rfl ?_
        refine zs_get (pc := 38) t302_38 (by decide) (zk1 (w7s.k fk_zMm_336)) (w7s.p rfl fv_zMm_336_38) ?_
        refine zs_iconst (pc := 41) t302_41 (v := 4) (by decide) ?_
        refine zs_iload_n (pc := 42) t302_42 rfl ?_
        obtain ⟨w12v, w12⟩ : ∃ v, (4 : Int32) * a = v := ⟨_, rfl⟩
        have w12g : w12v.toInt = 4 * a.toInt := by rw [← w12]; exact zmulc li4 rfl (by omega) (by omega)
        refine zs_imul (pc := 43) t302_43 (c := w12v) w12 ?_
        refine zs_iload_n (pc := 44) t302_44 rfl ?_
        obtain ⟨w13v, w13e, w13⟩ := ziadd (a := w12v) (b := b) w12g rfl (by omega) (by omega)
        refine zs_iadd (pc := 45) t302_45 (c := w13v) w13e ?_
        obtain ⟨w14n, w14⟩ : ∃ n : Nat, a.toInt = (n : Int) := ⟨(a.toInt).toNat, by omega⟩
        obtain ⟨w15n, w15⟩ : ∃ n : Nat, b.toInt = (n : Int) := ⟨(b.toInt).toNat, by omega⟩
        have w16 := zrg (zI w7M 359 (4 * w14n + w15n))
        refine zs_iald (pc := 46) t302_46 (j := (4 * w14n + w15n)) (by decide) (zk1 (w7s.k fk_zMm_359)) (show w13v.toInt = (((4 * w14n + w15n) : Nat) : Int) by omega) (zk2 (w7s.k fk_zMm_359) (by omega)) rfl ?_
        refine zs_goto (pc := 47) t302_47 ?_
        exact zs_iret (pc := 53) t302_53 mr302 rfl (hQ _ _ w7s w7I ((zFr.refl).trans (w7F.mono rfl)) (zPR.fr pR (w7F.eq rfl)) (zPC.fr pC (w7F.eq rfl)) w7PF w7kb)
      · refine zs_invS (pc := 31) (as := [.long b.toInt64, .long (0 : Int64), .long (3 : Int64)]) (st := []) t302_31 (by decide) mf228 rfl rfl ⟨by decide, by decide, Nat.le_of_ble_eq_true rfl, Nat.le_of_ble_eq_true rfl⟩ (K228F (zi2l rfl) ll0 ll3 (by omega) ?_) (fun _ _ q => q)
        show zGo X l 7 0 0 302 34 [(0, .ref 336), (1, .int a), (2, .int b)] [.int (0 : Int32)] w7M _
        refine zs_if_eqT (pc := 34) t302_34 li0 (by decide) ?_
        refine zs_ldc_w (pc := 50) t302_50 (v := -100000) rfl (by decide) ?_
        have w17 : (-100000 : Int32).toInt = (-100000) := lin100000
        exact zs_iret (pc := 53) t302_53 mr302 (by decide) (hQ _ _ w7s w7I ((zFr.refl).trans (w7F.mono rfl)) (zPR.fr pR (w7F.eq rfl)) (zPC.fr pC (w7F.eq rfl)) w7PF w7kb)
    · refine zs_invS (pc := 19) (as := [.long a.toInt64, .long (0 : Int64), .long (19 : Int64)]) (st := []) t302_19 (by decide) mf228 rfl rfl ⟨by decide, by decide, Nat.le_of_ble_eq_true rfl, Nat.le_of_ble_eq_true rfl⟩ (K228F (zi2l rfl) ll0 ll19 (by omega) ?_) (fun _ _ q => q)
      show zGo X l 7 0 0 302 22 [(0, .ref 336), (1, .int a), (2, .int b)] [.int (0 : Int32)] w7M _
      refine zs_if_eqT (pc := 22) t302_22 li0 (by decide) ?_
      refine zs_ldc_w (pc := 50) t302_50 (v := -100000) rfl (by decide) ?_
      have w18 : (-100000 : Int32).toInt = (-100000) := lin100000
      exact zs_iret (pc := 53) t302_53 mr302 (by decide) (hQ _ _ w7s w7I ((zFr.refl).trans (w7F.mono rfl)) (zPR.fr pR (w7F.eq rfl)) (zPC.fr pC (w7F.eq rfl)) w7PF w7kb)
  · refine zs_icmp_geF (pc := 2) t303_2 rfl li20 (by omega) ?_
    refine zs_iload_n (pc := 5) t303_5 rfl ?_
    refine zs_goto (pc := 6) t303_6 ?_
    refine zs_iret (pc := 10) t303_10 mr303 rfl ?_
    show zGo X l 7 0 0 302 16 [(0, .ref 336), (1, .int a), (2, .int b)] [.int (zI w7M 336 39), .long (0 : Int64), .long a.toInt64] w7M _
    refine zs_iconst (pc := 16) t302_16 (v := 1) (by decide) ?_
    obtain ⟨w19v, w19e, w19⟩ := zisub (a := (zI w7M 336 39)) (b := (1 : Int32)) rfl li1 (by omega) (by omega)
    refine zs_isub (pc := 17) t302_17 (c := w19v) w19e ?_
    refine zs_i2l (pc := 18) t302_18 rfl ?_
    by_cases w20 : 0 ≤ a.toInt ∧ a.toInt ≤ ((zI w7M 336 39).toInt - 1)
    · refine zs_invS (pc := 19) (as := [.long a.toInt64, .long (0 : Int64), .long w19v.toInt64]) (st := []) t302_19 (by decide) mf228 rfl rfl ⟨by decide, by decide, Nat.le_of_ble_eq_true rfl, Nat.le_of_ble_eq_true rfl⟩ (K228T (zi2l rfl) ll0 (zi2l w19) (by omega) ?_) (fun _ _ q => q)
      show zGo X l 7 0 0 302 22 [(0, .ref 336), (1, .int a), (2, .int b)] [.int (1 : Int32)] w7M _
      refine zs_if_eqF (pc := 22) t302_22 li1 (by decide) ?_
      refine zs_iload_n (pc := 25) t302_25 rfl ?_
      refine zs_i2l (pc := 26) t302_26 rfl ?_
      refine zs_lconst (pc := 27) t302_27 (v := 0) (by decide) ?_
      refine zs_ldc2_w (pc := 28) t302_28 (v := 3) (by decide) ?_
      by_cases w21 : 0 ≤ b.toInt ∧ b.toInt ≤ 3
      · refine zs_invS (pc := 31) (as := [.long b.toInt64, .long (0 : Int64), .long (3 : Int64)]) (st := []) t302_31 (by decide) mf228 rfl rfl ⟨by decide, by decide, Nat.le_of_ble_eq_true rfl, Nat.le_of_ble_eq_true rfl⟩ (K228T (zi2l rfl) ll0 ll3 (by omega) ?_) (fun _ _ q => q)
        show zGo X l 7 0 0 302 34 [(0, .ref 336), (1, .int a), (2, .int b)] [.int (1 : Int32)] w7M _
        refine zs_if_eqF (pc := 34) t302_34 li1 (by decide) ?_
        refine zs_aload_n (pc := 37) t302_37 rfl ?_
        refine zs_get (pc := 38) t302_38 (by decide) (zk1 (w7s.k fk_zMm_336)) (w7s.p rfl fv_zMm_336_38) ?_
        refine zs_iconst (pc := 41) t302_41 (v := 4) (by decide) ?_
        refine zs_iload_n (pc := 42) t302_42 rfl ?_
        obtain ⟨w22v, w22⟩ : ∃ v, (4 : Int32) * a = v := ⟨_, rfl⟩
        have w22g : w22v.toInt = 4 * a.toInt := by rw [← w22]; exact zmulc li4 rfl (by omega) (by omega)
        refine zs_imul (pc := 43) t302_43 (c := w22v) w22 ?_
        refine zs_iload_n (pc := 44) t302_44 rfl ?_
        obtain ⟨w23v, w23e, w23⟩ := ziadd (a := w22v) (b := b) w22g rfl (by omega) (by omega)
        refine zs_iadd (pc := 45) t302_45 (c := w23v) w23e ?_
        obtain ⟨w24n, w24⟩ : ∃ n : Nat, a.toInt = (n : Int) := ⟨(a.toInt).toNat, by omega⟩
        obtain ⟨w25n, w25⟩ : ∃ n : Nat, b.toInt = (n : Int) := ⟨(b.toInt).toNat, by omega⟩
        have w26 := zrg (zI w7M 359 (4 * w24n + w25n))
        refine zs_iald (pc := 46) t302_46 (j := (4 * w24n + w25n)) (by decide) (zk1 (w7s.k fk_zMm_359)) (show w23v.toInt = (((4 * w24n + w25n) : Nat) : Int) by omega) (zk2 (w7s.k fk_zMm_359) (by omega)) rfl ?_
        refine zs_goto (pc := 47) t302_47 ?_
        exact zs_iret (pc := 53) t302_53 mr302 rfl (hQ _ _ w7s w7I ((zFr.refl).trans (w7F.mono rfl)) (zPR.fr pR (w7F.eq rfl)) (zPC.fr pC (w7F.eq rfl)) w7PF w7kb)
      · refine zs_invS (pc := 31) (as := [.long b.toInt64, .long (0 : Int64), .long (3 : Int64)]) (st := []) t302_31 (by decide) mf228 rfl rfl ⟨by decide, by decide, Nat.le_of_ble_eq_true rfl, Nat.le_of_ble_eq_true rfl⟩ (K228F (zi2l rfl) ll0 ll3 (by omega) ?_) (fun _ _ q => q)
        show zGo X l 7 0 0 302 34 [(0, .ref 336), (1, .int a), (2, .int b)] [.int (0 : Int32)] w7M _
        refine zs_if_eqT (pc := 34) t302_34 li0 (by decide) ?_
        refine zs_ldc_w (pc := 50) t302_50 (v := -100000) rfl (by decide) ?_
        have w27 : (-100000 : Int32).toInt = (-100000) := lin100000
        exact zs_iret (pc := 53) t302_53 mr302 (by decide) (hQ _ _ w7s w7I ((zFr.refl).trans (w7F.mono rfl)) (zPR.fr pR (w7F.eq rfl)) (zPC.fr pC (w7F.eq rfl)) w7PF w7kb)
    · refine zs_invS (pc := 19) (as := [.long a.toInt64, .long (0 : Int64), .long w19v.toInt64]) (st := []) t302_19 (by decide) mf228 rfl rfl ⟨by decide, by decide, Nat.le_of_ble_eq_true rfl, Nat.le_of_ble_eq_true rfl⟩ (K228F (zi2l rfl) ll0 (zi2l w19) (by omega) ?_) (fun _ _ q => q)
      show zGo X l 7 0 0 302 22 [(0, .ref 336), (1, .int a), (2, .int b)] [.int (0 : Int32)] w7M _
      refine zs_if_eqT (pc := 22) t302_22 li0 (by decide) ?_
      refine zs_ldc_w (pc := 50) t302_50 (v := -100000) rfl (by decide) ?_
      have w28 : (-100000 : Int32).toInt = (-100000) := lin100000
      exact zs_iret (pc := 53) t302_53 mr302 (by decide) (hQ _ _ w7s w7I ((zFr.refl).trans (w7F.mono rfl)) (zPR.fr pR (w7F.eq rfl)) (zPC.fr pC (w7F.eq rfl)) w7PF w7kb)
theorem Q307 {X : zX} {l : Launch} {M : zM} {Q : Option Value → zM → Prop} {a b : Int32} (hs : zSk zMm M) (hI : zIv mLo mHi M) {F : Nat → Int} (pR : zPR M) (pC : zPC M) (pF : zPF M) (x0 : zRw M 0 F) (x1 : zWF F) (x2 : zKnB M F) (hQ : ∀ (M' : zM) (v : Int32), zSk zMm M' → zIv mLo mHi M' → zFr [(336, 336, some 3), (336, 336, some 18), (336, 336, some 19), (336, 336, some 20), (336, 336, some 21), (336, 336, some 22), (336, 336, some 37), (336, 336, some 39), (336, 336, some 42), (336, 336, some 43), (336, 336, some 44), (336, 336, some 45), (342, 361, none)] M M' → zPR M' → zPC M' → zPF M' → (zKnB M' F) → Q (some (.int v)) M') : zCall X l 7 0 0 307 [.ref 336, .int a, .int b] M Q := by
  have ga := zrg a
  have gb := zrg b
  refine zs_in (by decide) mf307 (Nat.le_of_ble_eq_true rfl) ?_
  show zGo X l 7 0 0 307 0 [(0, .ref 336), (1, .int a), (2, .int b)] [] M _
  have f1 := x1.1
  have f3 := x1.2.2.2
  have w1 := ibA0 hI
  have w2 : (zI M 337 0).toInt = (zI M 337 0).toInt := (congrArg Int32.toInt rfl).trans rfl
  have e0 : (zI M 337 0).toInt = F 0 := x0.at (by decide) (by decide) (by decide)
  have w3 := ibA1 hI
  have w4 : (zI M 337 1).toInt = (zI M 337 1).toInt := (congrArg Int32.toInt rfl).trans rfl
  have e1 : (zI M 337 1).toInt = F 1 := x0.at (by decide) (by decide) (by decide)
  have w5 := ibA2 hI
  have w6 : (zI M 337 2).toInt = (zI M 337 2).toInt := (congrArg Int32.toInt rfl).trans rfl
  have e2 : (zI M 337 2).toInt = F 2 := x0.at (by decide) (by decide) (by decide)
  refine zs_aload_n (pc := 0) t307_0 rfl ?_
  refine zs_iload_n (pc := 1) t307_1 rfl ?_
  refine zs_invV (pc := 2) (k := 336) (as' := [.int a]) (st := []) t307_2 mf308 rfl rfl (Or.inl ⟨by decide, (zk1 (hs.k fk_zMm_336))⟩) ⟨by decide, by decide, Nat.le_of_ble_eq_true rfl, Nat.le_of_ble_eq_true rfl⟩ (zs_in (by decide) mf308 (Nat.le_of_ble_eq_true rfl) ?_) (fun _ _ q => q)
  show zGo X l 1 0 0 308 0 [(0, .ref 336), (1, .int a)] [] M _
  refine zs_iload_n (pc := 0) t308_0 rfl ?_
  refine zs_i2l (pc := 1) t308_1 rfl ?_
  refine zs_lconst (pc := 2) t308_2 (v := 0) (by decide) ?_
  refine zs_aload_n (pc := 3) t308_3 rfl ?_
  refine zs_get (pc := 4) t308_4 (by decide) (zk1 (hs.k fk_zMm_336)) (hs.p rfl fv_zMm_336_0) ?_
  refine zs_iconst (pc := 7) t308_7 (v := 1) (by decide) ?_
  have w7 : (zI M 337 1).toInt = F 1 := x0.at (by decide) (by decide) (by decide)
  refine zs_iald (pc := 8) t308_8 (j := 1) (by decide) (zk1 (hs.k fk_zMm_337)) li1 (zk2 (hs.k fk_zMm_337) (by decide)) rfl ?_
  refine zs_iconst (pc := 9) t308_9 (v := 1) (by decide) ?_
  obtain ⟨w8v, w8e, w8⟩ := zisub (a := (zI M 337 1)) (b := (1 : Int32)) rfl li1 (by omega) (by omega)
  refine zs_isub (pc := 10) t308_10 (c := w8v) w8e ?_
  refine zs_i2l (pc := 11) t308_11 rfl ?_
  by_cases w9 : 0 ≤ a.toInt ∧ a.toInt ≤ ((zI M 337 1).toInt - 1)
  · refine zs_invS (pc := 12) (as := [.long a.toInt64, .long (0 : Int64), .long w8v.toInt64]) (st := []) t308_12 (by decide) mf228 rfl rfl ⟨by decide, by decide, Nat.le_of_ble_eq_true rfl, Nat.le_of_ble_eq_true rfl⟩ (K228T (zi2l rfl) ll0 (zi2l w8) (by omega) ?_) (fun _ _ q => q)
    show zGo X l 1 0 0 308 15 [(0, .ref 336), (1, .int a)] [.int (1 : Int32)] M _
    refine zs_iret (pc := 15) t308_15 mr308 (by decide) ?_
    show zGo X l 7 0 0 307 5 [(0, .ref 336), (1, .int a), (2, .int b)] [.int (1 : Int32)] M _
    refine zs_if_eqF (pc := 5) t307_5 li1 (by decide) ?_
    refine zs_iload_n (pc := 8) t307_8 rfl ?_
    refine zs_i2l (pc := 9) t307_9 rfl ?_
    refine zs_lconst (pc := 10) t307_10 (v := 0) (by decide) ?_
    refine zs_ldc2_w (pc := 11) t307_11 (v := 5) (by decide) ?_
    by_cases w10 : 0 ≤ b.toInt ∧ b.toInt ≤ 5
    · refine zs_invS (pc := 14) (as := [.long b.toInt64, .long (0 : Int64), .long (5 : Int64)]) (st := []) t307_14 (by decide) mf228 rfl rfl ⟨by decide, by decide, Nat.le_of_ble_eq_true rfl, Nat.le_of_ble_eq_true rfl⟩ (K228T (zi2l rfl) ll0 ll5 (by omega) ?_) (fun _ _ q => q)
      show zGo X l 7 0 0 307 17 [(0, .ref 336), (1, .int a), (2, .int b)] [.int (1 : Int32)] M _
      refine zs_if_neT (pc := 17) t307_17 li1 (by decide) ?_
      refine zs_iload_n (pc := 24) t307_24 rfl ?_
      refine zs_iconst (pc := 25) t307_25 (v := 4) (by decide) ?_
      by_cases w11 : 4 ≤ b.toInt
      · refine zs_icmp_geT (pc := 26) t307_26 rfl li4 (by omega) ?_
        refine zs_aload_n (pc := 36) t307_36 rfl ?_
        refine zs_invV (pc := 37) (k := 336) (as' := []) (st := []) t307_37 mf268 rfl rfl (Or.inl ⟨by decide, (zk1 (hs.k fk_zMm_336))⟩) ⟨by decide, by decide, Nat.le_of_ble_eq_true rfl, Nat.le_of_ble_eq_true rfl⟩ (U268 hs hI pR pF x0 x1 x2 ?_) (fun _ _ q => q)
        intro w12M w12s w12I w12F w12PF w12PD w12PV w12x0 w12x1
        show zGo X l 7 0 0 307 40 [(0, .ref 336), (1, .int a), (2, .int b)] [] w12M _
        have w12kb : zKnB w12M F := fun _ => w12x0
        refine zs_iload_n (pc := 40) t307_40 rfl ?_
        refine zs_iconst (pc := 41) t307_41 (v := 5) (by decide) ?_
        by_cases w13 : b.toInt ≠ 5
        · refine zs_icmp_neT (pc := 42) t307_42 rfl li5 (by omega) ?_
          refine zs_aload_n (pc := 54) t307_54 rfl ?_
          refine zs_iload_n (pc := 55) t307_55 rfl ?_
          refine zs_iconst (pc := 56) t307_56 (v := -1) (by decide) ?_
          have w14 : (-1 : Int32).toInt = (-1) := lin1
          have w15 : (zI w12M 337 1).toInt = (zI M 337 1).toInt := (congrArg Int32.toInt ((w12F 337 1 rfl).trans rfl)).trans rfl
          refine zs_invV (pc := 57) (k := 336) (as' := [.int a, .int (-1 : Int32)]) (st := []) t307_57 mf271 rfl rfl (Or.inl ⟨by decide, (zk1 (w12s.k fk_zMm_336))⟩) ⟨by decide, by decide, Nat.le_of_ble_eq_true rfl, Nat.le_of_ble_eq_true rfl⟩ (R271 w12s w12I ⟨by omega, by omega⟩ (by omega) (zRw.fr' x0 (fun j hj => (w12F 337 j rfl))) x1 ?_) (fun _ _ q => q)
          intro w16v w16x0 w16a w16b
          show zGo X l 7 0 0 307 60 [(0, .ref 336), (1, .int a), (2, .int b)] [.int w16v] w12M _
          by_cases w17 : w16v.toInt = 0
          · refine zs_if_eqT (pc := 60) t307_60 rfl (by omega) ?_
            refine zs_iconst (pc := 67) t307_67 (v := 0) (by decide) ?_
            have w18 : (0 : Int32).toInt = 0 := li0
            exact zs_iret (pc := 68) t307_68 mr307 (by decide) (hQ _ _ w12s w12I ((zFr.refl).trans (w12F.mono rfl)) (zPR.fr pR (w12F.eq rfl)) (zPC.fr pC (w12F.eq rfl)) w12PF w12kb)
          · refine zs_if_eqF (pc := 60) t307_60 rfl (by omega) ?_
            refine zs_iconst (pc := 63) t307_63 (v := 1) (by decide) ?_
            refine zs_goto (pc := 64) t307_64 ?_
            have w19 : (1 : Int32).toInt = 1 := li1
            exact zs_iret (pc := 68) t307_68 mr307 (by decide) (hQ _ _ w12s w12I ((zFr.refl).trans (w12F.mono rfl)) (zPR.fr pR (w12F.eq rfl)) (zPC.fr pC (w12F.eq rfl)) w12PF w12kb)
        · refine zs_icmp_neF (pc := 42) t307_42 rfl li5 (by omega) ?_
          refine zs_aload_n (pc := 45) t307_45 rfl ?_
          refine zs_get (pc := 46) t307_46 (by decide) (zk1 (w12s.k fk_zMm_336)) (w12s.p rfl fv_zMm_336_28) ?_
          refine zs_iload_n (pc := 49) t307_49 rfl ?_
          obtain ⟨w20n, w20⟩ : ∃ n : Nat, a.toInt = (n : Int) := ⟨(a.toInt).toNat, by omega⟩
          have w21 := zrg (zI w12M 350 w20n)
          refine zs_iald (pc := 50) t307_50 (j := w20n) (by decide) (zk1 (w12s.k fk_zMm_350)) (show a.toInt = ((w20n : Nat) : Int) by omega) (zk2 (w12s.k fk_zMm_350) (by omega)) rfl ?_
          refine zs_goto (pc := 51) t307_51 ?_
          exact zs_iret (pc := 68) t307_68 mr307 rfl (hQ _ _ w12s w12I ((zFr.refl).trans (w12F.mono rfl)) (zPR.fr pR (w12F.eq rfl)) (zPC.fr pC (w12F.eq rfl)) w12PF w12kb)
      · refine zs_icmp_geF (pc := 26) t307_26 rfl li4 (by omega) ?_
        refine zs_aload_n (pc := 29) t307_29 rfl ?_
        refine zs_iload_n (pc := 30) t307_30 rfl ?_
        refine zs_iload_n (pc := 31) t307_31 rfl ?_
        refine zs_invV (pc := 32) (k := 336) (as' := [.int a, .int b]) (st := []) t307_32 mf272 rfl rfl (Or.inl ⟨by decide, (zk1 (hs.k fk_zMm_336))⟩) ⟨by decide, by decide, Nat.le_of_ble_eq_true rfl, Nat.le_of_ble_eq_true rfl⟩ (zs_in (by decide) mf272 (Nat.le_of_ble_eq_true rfl) ?_) (fun _ _ q => q)
        show zGo X l 0 0 0 272 0 [(0, .ref 336), (1, .int a), (2, .int b)] [] M _
        refine zs_aload_n (pc := 0) t272_0 rfl ?_
        refine zs_get (pc := 1) t272_1 (by decide) (zk1 (hs.k fk_zMm_336)) (hs.p rfl fv_zMm_336_0) ?_
        refine zs_bipush (pc := 4) t272_4 (v := 30) (by decide) ?_
        refine zs_iconst (pc := 6) t272_6 (v := 4) (by decide) ?_
        refine zs_iload_n (pc := 7) t272_7 rfl ?_
        obtain ⟨w22v, w22⟩ : ∃ v, (4 : Int32) * a = v := ⟨_, rfl⟩
        have w22g : w22v.toInt = 4 * a.toInt := by rw [← w22]; exact zmulc li4 rfl (by omega) (by omega)
        refine zs_imul (pc := 8) t272_8 (c := w22v) w22 ?_
        obtain ⟨w23v, w23e, w23⟩ := ziadd (a := (30 : Int32)) (b := w22v) li30 w22g (by omega) (by omega)
        refine zs_iadd (pc := 9) t272_9 (c := w23v) w23e ?_
        refine zs_iload_n (pc := 10) t272_10 rfl ?_
        obtain ⟨w24v, w24e, w24⟩ := ziadd (a := w23v) (b := b) w23 rfl (by omega) (by omega)
        refine zs_iadd (pc := 11) t272_11 (c := w24v) w24e ?_
        obtain ⟨w25n, w25⟩ : ∃ n : Nat, a.toInt = (n : Int) := ⟨(a.toInt).toNat, by omega⟩
        obtain ⟨w26n, w26⟩ : ∃ n : Nat, b.toInt = (n : Int) := ⟨(b.toInt).toNat, by omega⟩
        have w27 := zrg (zI M 337 (30 + 4 * w25n + w26n))
        have w28 : (zI M 337 (30 + 4 * w25n + w26n)).toInt = F (30 + 4 * w25n + w26n) := x0.at (by omega) (by omega) (by omega)
        refine zs_iald (pc := 12) t272_12 (j := (30 + 4 * w25n + w26n)) (by decide) (zk1 (hs.k fk_zMm_337)) (show w24v.toInt = (((30 + 4 * w25n + w26n) : Nat) : Int) by omega) (zk2 (hs.k fk_zMm_337) (by omega)) rfl ?_
        refine zs_iret (pc := 13) t272_13 mr272 rfl ?_
        show zGo X l 7 0 0 307 35 [(0, .ref 336), (1, .int a), (2, .int b)] [.int (zI M 337 (30 + 4 * w25n + w26n))] M _
        exact zs_iret (pc := 35) t307_35 mr307 rfl (hQ _ _ hs hI (zFr.refl) pR pC pF x2)
    · refine zs_invS (pc := 14) (as := [.long b.toInt64, .long (0 : Int64), .long (5 : Int64)]) (st := []) t307_14 (by decide) mf228 rfl rfl ⟨by decide, by decide, Nat.le_of_ble_eq_true rfl, Nat.le_of_ble_eq_true rfl⟩ (K228F (zi2l rfl) ll0 ll5 (by omega) ?_) (fun _ _ q => q)
      show zGo X l 7 0 0 307 17 [(0, .ref 336), (1, .int a), (2, .int b)] [.int (0 : Int32)] M _
      refine zs_if_neF (pc := 17) t307_17 li0 (by decide) ?_
      refine zs_ldc_w (pc := 20) t307_20 (v := -100000) rfl (by decide) ?_
      have w29 : (-100000 : Int32).toInt = (-100000) := lin100000
      exact zs_iret (pc := 23) t307_23 mr307 (by decide) (hQ _ _ hs hI (zFr.refl) pR pC pF x2)
  · refine zs_invS (pc := 12) (as := [.long a.toInt64, .long (0 : Int64), .long w8v.toInt64]) (st := []) t308_12 (by decide) mf228 rfl rfl ⟨by decide, by decide, Nat.le_of_ble_eq_true rfl, Nat.le_of_ble_eq_true rfl⟩ (K228F (zi2l rfl) ll0 (zi2l w8) (by omega) ?_) (fun _ _ q => q)
    show zGo X l 1 0 0 308 15 [(0, .ref 336), (1, .int a)] [.int (0 : Int32)] M _
    refine zs_iret (pc := 15) t308_15 mr308 (by decide) ?_
    show zGo X l 7 0 0 307 5 [(0, .ref 336), (1, .int a), (2, .int b)] [.int (0 : Int32)] M _
    refine zs_if_eqT (pc := 5) t307_5 li0 (by decide) ?_
    refine zs_ldc_w (pc := 20) t307_20 (v := -100000) rfl (by decide) ?_
    have w30 : (-100000 : Int32).toInt = (-100000) := lin100000
    exact zs_iret (pc := 23) t307_23 mr307 (by decide) (hQ _ _ hs hI (zFr.refl) pR pC pF x2)
theorem Q309 {X : zX} {l : Launch} {M : zM} {Q : Option Value → zM → Prop} {a b : Int32} (hs : zSk zMm M) (hI : zIv mLo mHi M) {F : Nat → Int} (pR : zPR M) (pC : zPC M) (pF : zPF M) (x0 : zRw M 0 F) (x1 : zWF F) (x2 : zKnB M F) (hQ : ∀ (M' : zM) (v : Int32), zSk zMm M' → zIv mLo mHi M' → zFr [(336, 336, some 3), (336, 336, some 18), (336, 336, some 19), (336, 336, some 20), (336, 336, some 21), (336, 336, some 22), (336, 336, some 37), (336, 336, some 39), (336, 336, some 42), (336, 336, some 43), (336, 336, some 44), (336, 336, some 45), (342, 361, none)] M M' → zPR M' → zPC M' → zPF M' → (zKnB M' F) → Q (some (.int v)) M') : zCall X l 7 0 0 309 [.ref 336, .int a, .int b] M Q := by
  have ga := zrg a
  have gb := zrg b
  refine zs_in (by decide) mf309 (Nat.le_of_ble_eq_true rfl) ?_
  show zGo X l 7 0 0 309 0 [(0, .ref 336), (1, .int a), (2, .int b)] [] M _
  have f1 := x1.1
  have f3 := x1.2.2.2
  have w1 := ibA0 hI
  have w2 : (zI M 337 0).toInt = (zI M 337 0).toInt := (congrArg Int32.toInt rfl).trans rfl
  have e0 : (zI M 337 0).toInt = F 0 := x0.at (by decide) (by decide) (by decide)
  have w3 := ibA1 hI
  have w4 : (zI M 337 1).toInt = (zI M 337 1).toInt := (congrArg Int32.toInt rfl).trans rfl
  have e1 : (zI M 337 1).toInt = F 1 := x0.at (by decide) (by decide) (by decide)
  have w5 := ibA2 hI
  have w6 : (zI M 337 2).toInt = (zI M 337 2).toInt := (congrArg Int32.toInt rfl).trans rfl
  have e2 : (zI M 337 2).toInt = F 2 := x0.at (by decide) (by decide) (by decide)
  refine zs_aload_n (pc := 0) t309_0 rfl ?_
  refine zs_iload_n (pc := 1) t309_1 rfl ?_
  refine zs_invV (pc := 2) (k := 336) (as' := [.int a]) (st := []) t309_2 mf310 rfl rfl (Or.inl ⟨by decide, (zk1 (hs.k fk_zMm_336))⟩) ⟨by decide, by decide, Nat.le_of_ble_eq_true rfl, Nat.le_of_ble_eq_true rfl⟩ (zs_in (by decide) mf310 (Nat.le_of_ble_eq_true rfl) ?_) (fun _ _ q => q)
  show zGo X l 1 0 0 310 0 [(0, .ref 336), (1, .int a)] [] M _
  refine zs_iload_n (pc := 0) t310_0 rfl ?_
  refine zs_i2l (pc := 1) t310_1 rfl ?_
  refine zs_lconst (pc := 2) t310_2 (v := 0) (by decide) ?_
  refine zs_aload_n (pc := 3) t310_3 rfl ?_
  refine zs_get (pc := 4) t310_4 (by decide) (zk1 (hs.k fk_zMm_336)) (hs.p rfl fv_zMm_336_0) ?_
  refine zs_iconst (pc := 7) t310_7 (v := 2) (by decide) ?_
  have w7 : (zI M 337 2).toInt = F 2 := x0.at (by decide) (by decide) (by decide)
  refine zs_iald (pc := 8) t310_8 (j := 2) (by decide) (zk1 (hs.k fk_zMm_337)) li2 (zk2 (hs.k fk_zMm_337) (by decide)) rfl ?_
  refine zs_iconst (pc := 9) t310_9 (v := 1) (by decide) ?_
  obtain ⟨w8v, w8e, w8⟩ := zisub (a := (zI M 337 2)) (b := (1 : Int32)) rfl li1 (by omega) (by omega)
  refine zs_isub (pc := 10) t310_10 (c := w8v) w8e ?_
  refine zs_i2l (pc := 11) t310_11 rfl ?_
  by_cases w9 : 0 ≤ a.toInt ∧ a.toInt ≤ ((zI M 337 2).toInt - 1)
  · refine zs_invS (pc := 12) (as := [.long a.toInt64, .long (0 : Int64), .long w8v.toInt64]) (st := []) t310_12 (by decide) mf228 rfl rfl ⟨by decide, by decide, Nat.le_of_ble_eq_true rfl, Nat.le_of_ble_eq_true rfl⟩ (K228T (zi2l rfl) ll0 (zi2l w8) (by omega) ?_) (fun _ _ q => q)
    show zGo X l 1 0 0 310 15 [(0, .ref 336), (1, .int a)] [.int (1 : Int32)] M _
    refine zs_iret (pc := 15) t310_15 mr310 (by decide) ?_
    show zGo X l 7 0 0 309 5 [(0, .ref 336), (1, .int a), (2, .int b)] [.int (1 : Int32)] M _
    refine zs_if_eqF (pc := 5) t309_5 li1 (by decide) ?_
    refine zs_iload_n (pc := 8) t309_8 rfl ?_
    refine zs_i2l (pc := 9) t309_9 rfl ?_
    refine zs_lconst (pc := 10) t309_10 (v := 0) (by decide) ?_
    refine zs_ldc2_w (pc := 11) t309_11 (v := 4) (by decide) ?_
    by_cases w10 : 0 ≤ b.toInt ∧ b.toInt ≤ 4
    · refine zs_invS (pc := 14) (as := [.long b.toInt64, .long (0 : Int64), .long (4 : Int64)]) (st := []) t309_14 (by decide) mf228 rfl rfl ⟨by decide, by decide, Nat.le_of_ble_eq_true rfl, Nat.le_of_ble_eq_true rfl⟩ (K228T (zi2l rfl) ll0 ll4 (by omega) ?_) (fun _ _ q => q)
      show zGo X l 7 0 0 309 17 [(0, .ref 336), (1, .int a), (2, .int b)] [.int (1 : Int32)] M _
      refine zs_if_neT (pc := 17) t309_17 li1 (by decide) ?_
      refine zs_iload_n (pc := 24) t309_24 rfl ?_
      refine zs_iconst (pc := 25) t309_25 (v := 3) (by decide) ?_
      by_cases w11 : 3 ≤ b.toInt
      · refine zs_icmp_geT (pc := 26) t309_26 rfl li3 (by omega) ?_
        refine zs_aload_n (pc := 44) t309_44 rfl ?_
        refine zs_invV (pc := 45) (k := 336) (as' := []) (st := []) t309_45 mf268 rfl rfl (Or.inl ⟨by decide, (zk1 (hs.k fk_zMm_336))⟩) ⟨by decide, by decide, Nat.le_of_ble_eq_true rfl, Nat.le_of_ble_eq_true rfl⟩ (U268 hs hI pR pF x0 x1 x2 ?_) (fun _ _ q => q)
        intro w12M w12s w12I w12F w12PF w12PD w12PV w12x0 w12x1
        show zGo X l 7 0 0 309 48 [(0, .ref 336), (1, .int a), (2, .int b)] [] w12M _
        have w12kb : zKnB w12M F := fun _ => w12x0
        refine zs_iload_n (pc := 48) t309_48 rfl ?_
        refine zs_iconst (pc := 49) t309_49 (v := 3) (by decide) ?_
        by_cases w13 : b.toInt ≠ 3
        · refine zs_icmp_neT (pc := 50) t309_50 rfl li3 (by omega) ?_
          refine zs_aload_n (pc := 61) t309_61 rfl ?_
          refine zs_iload_n (pc := 62) t309_62 rfl ?_
          refine zs_invV (pc := 63) (k := 336) (as' := [.int a]) (st := []) t309_63 mf312 rfl rfl (Or.inl ⟨by decide, (zk1 (w12s.k fk_zMm_336))⟩) ⟨by decide, by decide, Nat.le_of_ble_eq_true rfl, Nat.le_of_ble_eq_true rfl⟩ (K312 w12s w12I ?_) (fun _ _ q => q)
          intro w14v  w14a w14b
          show zGo X l 7 0 0 309 66 [(0, .ref 336), (1, .int a), (2, .int b)] [.int w14v] w12M _
          exact zs_iret (pc := 66) t309_66 mr309 rfl (hQ _ _ w12s w12I ((zFr.refl).trans (w12F.mono rfl)) (zPR.fr pR (w12F.eq rfl)) (zPC.fr pC (w12F.eq rfl)) w12PF w12kb)
        · refine zs_icmp_neF (pc := 50) t309_50 rfl li3 (by omega) ?_
          refine zs_aload_n (pc := 53) t309_53 rfl ?_
          refine zs_iload_n (pc := 54) t309_54 rfl ?_
          refine zs_invV (pc := 55) (k := 336) (as' := [.int a]) (st := []) t309_55 mf311 rfl rfl (Or.inl ⟨by decide, (zk1 (w12s.k fk_zMm_336))⟩) ⟨by decide, by decide, Nat.le_of_ble_eq_true rfl, Nat.le_of_ble_eq_true rfl⟩ (K311 w12s w12I ?_) (fun _ _ q => q)
          intro w15v
          have w15g := zrg w15v
          show zGo X l 7 0 0 309 58 [(0, .ref 336), (1, .int a), (2, .int b)] [.int w15v] w12M _
          refine zs_goto (pc := 58) t309_58 ?_
          exact zs_iret (pc := 66) t309_66 mr309 rfl (hQ _ _ w12s w12I ((zFr.refl).trans (w12F.mono rfl)) (zPR.fr pR (w12F.eq rfl)) (zPC.fr pC (w12F.eq rfl)) w12PF w12kb)
      · refine zs_icmp_geF (pc := 26) t309_26 rfl li3 (by omega) ?_
        refine zs_aload_n (pc := 29) t309_29 rfl ?_
        refine zs_get (pc := 30) t309_30 (by decide) (zk1 (hs.k fk_zMm_336)) (hs.p rfl fv_zMm_336_0) ?_
        refine zs_sipush (pc := 33) t309_33 (v := 270) (by decide) ?_
        refine zs_iconst (pc := 36) t309_36 (v := 3) (by decide) ?_
        refine zs_iload_n (pc := 37) t309_37 rfl ?_
        obtain ⟨w16v, w16⟩ : ∃ v, (3 : Int32) * a = v := ⟨_, rfl⟩
        have w16g : w16v.toInt = 3 * a.toInt := by rw [← w16]; exact zmulc li3 rfl (by omega) (by omega)
        refine zs_imul (pc := 38) t309_38 (c := w16v) w16 ?_
        obtain ⟨w17v, w17e, w17⟩ := ziadd (a := (270 : Int32)) (b := w16v) li270 w16g (by omega) (by omega)
        refine zs_iadd (pc := 39) t309_39 (c := w17v) w17e ?_
        refine zs_iload_n (pc := 40) t309_40 rfl ?_
        obtain ⟨w18v, w18e, w18⟩ := ziadd (a := w17v) (b := b) w17 rfl (by omega) (by omega)
        refine zs_iadd (pc := 41) t309_41 (c := w18v) w18e ?_
        obtain ⟨w19n, w19⟩ : ∃ n : Nat, a.toInt = (n : Int) := ⟨(a.toInt).toNat, by omega⟩
        obtain ⟨w20n, w20⟩ : ∃ n : Nat, b.toInt = (n : Int) := ⟨(b.toInt).toNat, by omega⟩
        have w21 := zrg (zI M 337 (270 + 3 * w19n + w20n))
        have w22 : (zI M 337 (270 + 3 * w19n + w20n)).toInt = F (270 + 3 * w19n + w20n) := x0.at (by omega) (by omega) (by omega)
        refine zs_iald (pc := 42) t309_42 (j := (270 + 3 * w19n + w20n)) (by decide) (zk1 (hs.k fk_zMm_337)) (show w18v.toInt = (((270 + 3 * w19n + w20n) : Nat) : Int) by omega) (zk2 (hs.k fk_zMm_337) (by omega)) rfl ?_
        exact zs_iret (pc := 43) t309_43 mr309 rfl (hQ _ _ hs hI (zFr.refl) pR pC pF x2)
    · refine zs_invS (pc := 14) (as := [.long b.toInt64, .long (0 : Int64), .long (4 : Int64)]) (st := []) t309_14 (by decide) mf228 rfl rfl ⟨by decide, by decide, Nat.le_of_ble_eq_true rfl, Nat.le_of_ble_eq_true rfl⟩ (K228F (zi2l rfl) ll0 ll4 (by omega) ?_) (fun _ _ q => q)
      show zGo X l 7 0 0 309 17 [(0, .ref 336), (1, .int a), (2, .int b)] [.int (0 : Int32)] M _
      refine zs_if_neF (pc := 17) t309_17 li0 (by decide) ?_
      refine zs_ldc_w (pc := 20) t309_20 (v := -100000) rfl (by decide) ?_
      have w23 : (-100000 : Int32).toInt = (-100000) := lin100000
      exact zs_iret (pc := 23) t309_23 mr309 (by decide) (hQ _ _ hs hI (zFr.refl) pR pC pF x2)
  · refine zs_invS (pc := 12) (as := [.long a.toInt64, .long (0 : Int64), .long w8v.toInt64]) (st := []) t310_12 (by decide) mf228 rfl rfl ⟨by decide, by decide, Nat.le_of_ble_eq_true rfl, Nat.le_of_ble_eq_true rfl⟩ (K228F (zi2l rfl) ll0 (zi2l w8) (by omega) ?_) (fun _ _ q => q)
    show zGo X l 1 0 0 310 15 [(0, .ref 336), (1, .int a)] [.int (0 : Int32)] M _
    refine zs_iret (pc := 15) t310_15 mr310 (by decide) ?_
    show zGo X l 7 0 0 309 5 [(0, .ref 336), (1, .int a), (2, .int b)] [.int (0 : Int32)] M _
    refine zs_if_eqT (pc := 5) t309_5 li0 (by decide) ?_
    refine zs_ldc_w (pc := 20) t309_20 (v := -100000) rfl (by decide) ?_
    have w24 : (-100000 : Int32).toInt = (-100000) := lin100000
    exact zs_iret (pc := 23) t309_23 mr309 (by decide) (hQ _ _ hs hI (zFr.refl) pR pC pF x2)
theorem Q316 {X : zX} {l : Launch} {M : zM} {Q : Option Value → zM → Prop} {a : Int32} (hs : zSk zMm M) (hI : zIv mLo mHi M) {F : Nat → Int} (pR : zPR M) (pC : zPC M) (pF : zPF M) (x0 : zRw M 0 F) (x1 : zWF F) (x2 : zKnB M F) (hQ : ∀ (M' : zM) (v : Int32), zSk zMm M' → zIv mLo mHi M' → zFr [(336, 336, some 3), (336, 336, some 18), (336, 336, some 19), (336, 336, some 20), (336, 336, some 21), (336, 336, some 22), (336, 336, some 37), (336, 336, some 39), (336, 336, some 42), (336, 336, some 43), (336, 336, some 44), (336, 336, some 45), (342, 361, none)] M M' → zPR M' → zPC M' → zPF M' → (zKnB M' F) → Q (some (.int v)) M') : zCall X l 8 0 0 316 [.ref 336, .int a] M Q := by
  have ga := zrg a
  refine zs_in (by decide) mf316 (Nat.le_of_ble_eq_true rfl) ?_
  show zGo X l 8 0 0 316 0 [(0, .ref 336), (1, .int a)] [] M _
  have f1 := x1.1
  have f3 := x1.2.2.2
  have w1 := ibA0 hI
  have w2 : (zI M 337 0).toInt = (zI M 337 0).toInt := (congrArg Int32.toInt rfl).trans rfl
  have e0 : (zI M 337 0).toInt = F 0 := x0.at (by decide) (by decide) (by decide)
  have w3 := ibA1 hI
  have w4 : (zI M 337 1).toInt = (zI M 337 1).toInt := (congrArg Int32.toInt rfl).trans rfl
  have e1 : (zI M 337 1).toInt = F 1 := x0.at (by decide) (by decide) (by decide)
  have w5 := ibA2 hI
  have w6 : (zI M 337 2).toInt = (zI M 337 2).toInt := (congrArg Int32.toInt rfl).trans rfl
  have e2 : (zI M 337 2).toInt = F 2 := x0.at (by decide) (by decide) (by decide)
  refine zs_iload_n (pc := 0) t316_0 rfl ?_
  by_cases w7 : a.toInt = 0
  · refine zs_tswI (pc := 1) t316_1 ((rfl : a.toInt = a.toInt).trans w7) (by decide) rfl (pc2 := 40) rfl ?_
    refine zs_aload_n (pc := 40) t316_40 rfl ?_
    refine zs_iconst (pc := 41) t316_41 (v := 0) (by decide) ?_
    have w8 : (0 : Int32).toInt = 0 := li0
    refine zs_invV (pc := 42) (k := 336) (as' := [.int (0 : Int32)]) (st := []) t316_42 mf267 rfl rfl (Or.inl ⟨by decide, (zk1 (hs.k fk_zMm_336))⟩) ⟨by decide, by decide, Nat.le_of_ble_eq_true rfl, Nat.le_of_ble_eq_true rfl⟩ (Q267 hs hI pR pF x0 x1 x2 ?_) (fun _ _ q => q)
    intro w9M w9v w9s w9I w9F w9PF w9PD w9PV w9x0
    have w9g := zrg w9v
    show zGo X l 8 0 0 316 45 [(0, .ref 336), (1, .int a)] [.int w9v] w9M _
    exact zs_iret (pc := 45) t316_45 mr316 rfl (hQ _ _ w9s w9I ((zFr.refl).trans (w9F.mono rfl)) (zPR.fr pR (w9F.eq rfl)) (zPC.fr pC (w9F.eq rfl)) w9PF w9x0)
  by_cases w10 : a.toInt = 1
  · refine zs_tswI (pc := 1) t316_1 ((rfl : a.toInt = a.toInt).trans w10) (by decide) rfl (pc2 := 46) rfl ?_
    refine zs_aload_n (pc := 46) t316_46 rfl ?_
    refine zs_iconst (pc := 47) t316_47 (v := 3) (by decide) ?_
    have w11 : (3 : Int32).toInt = 3 := li3
    refine zs_invV (pc := 48) (k := 336) (as' := [.int (3 : Int32)]) (st := []) t316_48 mf267 rfl rfl (Or.inl ⟨by decide, (zk1 (hs.k fk_zMm_336))⟩) ⟨by decide, by decide, Nat.le_of_ble_eq_true rfl, Nat.le_of_ble_eq_true rfl⟩ (Q267 hs hI pR pF x0 x1 x2 ?_) (fun _ _ q => q)
    intro w12M w12v w12s w12I w12F w12PF w12PD w12PV w12x0
    have w12g := zrg w12v
    show zGo X l 8 0 0 316 51 [(0, .ref 336), (1, .int a)] [.int w12v] w12M _
    exact zs_iret (pc := 51) t316_51 mr316 rfl (hQ _ _ w12s w12I ((zFr.refl).trans (w12F.mono rfl)) (zPR.fr pR (w12F.eq rfl)) (zPC.fr pC (w12F.eq rfl)) w12PF w12x0)
  by_cases w13 : a.toInt = 2
  · refine zs_tswI (pc := 1) t316_1 ((rfl : a.toInt = a.toInt).trans w13) (by decide) rfl (pc2 := 52) rfl ?_
    refine zs_aload_n (pc := 52) t316_52 rfl ?_
    refine zs_iconst (pc := 53) t316_53 (v := 2) (by decide) ?_
    have w14 : (2 : Int32).toInt = 2 := li2
    refine zs_invV (pc := 54) (k := 336) (as' := [.int (2 : Int32)]) (st := []) t316_54 mf267 rfl rfl (Or.inl ⟨by decide, (zk1 (hs.k fk_zMm_336))⟩) ⟨by decide, by decide, Nat.le_of_ble_eq_true rfl, Nat.le_of_ble_eq_true rfl⟩ (Q267 hs hI pR pF x0 x1 x2 ?_) (fun _ _ q => q)
    intro w15M w15v w15s w15I w15F w15PF w15PD w15PV w15x0
    have w15g := zrg w15v
    show zGo X l 8 0 0 316 57 [(0, .ref 336), (1, .int a)] [.int w15v] w15M _
    exact zs_iret (pc := 57) t316_57 mr316 rfl (hQ _ _ w15s w15I ((zFr.refl).trans (w15F.mono rfl)) (zPR.fr pR (w15F.eq rfl)) (zPC.fr pC (w15F.eq rfl)) w15PF w15x0)
  by_cases w16 : a.toInt = 3
  · refine zs_tswI (pc := 1) t316_1 ((rfl : a.toInt = a.toInt).trans w16) (by decide) rfl (pc2 := 58) rfl ?_
    refine zs_aload_n (pc := 58) t316_58 rfl ?_
    refine zs_bipush (pc := 59) t316_59 (v := 6) (by decide) ?_
    have w17 : (6 : Int32).toInt = 6 := li6
    refine zs_invV (pc := 61) (k := 336) (as' := [.int (6 : Int32)]) (st := []) t316_61 mf267 rfl rfl (Or.inl ⟨by decide, (zk1 (hs.k fk_zMm_336))⟩) ⟨by decide, by decide, Nat.le_of_ble_eq_true rfl, Nat.le_of_ble_eq_true rfl⟩ (Q267 hs hI pR pF x0 x1 x2 ?_) (fun _ _ q => q)
    intro w18M w18v w18s w18I w18F w18PF w18PD w18PV w18x0
    have w18g := zrg w18v
    show zGo X l 8 0 0 316 64 [(0, .ref 336), (1, .int a)] [.int w18v] w18M _
    exact zs_iret (pc := 64) t316_64 mr316 rfl (hQ _ _ w18s w18I ((zFr.refl).trans (w18F.mono rfl)) (zPR.fr pR (w18F.eq rfl)) (zPC.fr pC (w18F.eq rfl)) w18PF w18x0)
  by_cases w19 : a.toInt = 4
  · refine zs_tswI (pc := 1) t316_1 ((rfl : a.toInt = a.toInt).trans w19) (by decide) rfl (pc2 := 65) rfl ?_
    refine zs_aload_n (pc := 65) t316_65 rfl ?_
    refine zs_iconst (pc := 66) t316_66 (v := 4) (by decide) ?_
    have w20 : (4 : Int32).toInt = 4 := li4
    refine zs_invV (pc := 67) (k := 336) (as' := [.int (4 : Int32)]) (st := []) t316_67 mf267 rfl rfl (Or.inl ⟨by decide, (zk1 (hs.k fk_zMm_336))⟩) ⟨by decide, by decide, Nat.le_of_ble_eq_true rfl, Nat.le_of_ble_eq_true rfl⟩ (Q267 hs hI pR pF x0 x1 x2 ?_) (fun _ _ q => q)
    intro w21M w21v w21s w21I w21F w21PF w21PD w21PV w21x0
    have w21g := zrg w21v
    show zGo X l 8 0 0 316 70 [(0, .ref 336), (1, .int a)] [.int w21v] w21M _
    exact zs_iret (pc := 70) t316_70 mr316 rfl (hQ _ _ w21s w21I ((zFr.refl).trans (w21F.mono rfl)) (zPR.fr pR (w21F.eq rfl)) (zPC.fr pC (w21F.eq rfl)) w21PF w21x0)
  by_cases w22 : a.toInt = 5
  · refine zs_tswI (pc := 1) t316_1 ((rfl : a.toInt = a.toInt).trans w22) (by decide) rfl (pc2 := 71) rfl ?_
    refine zs_aload_n (pc := 71) t316_71 rfl ?_
    refine zs_bipush (pc := 72) t316_72 (v := 7) (by decide) ?_
    have w23 : (7 : Int32).toInt = 7 := li7
    refine zs_invV (pc := 74) (k := 336) (as' := [.int (7 : Int32)]) (st := []) t316_74 mf267 rfl rfl (Or.inl ⟨by decide, (zk1 (hs.k fk_zMm_336))⟩) ⟨by decide, by decide, Nat.le_of_ble_eq_true rfl, Nat.le_of_ble_eq_true rfl⟩ (Q267 hs hI pR pF x0 x1 x2 ?_) (fun _ _ q => q)
    intro w24M w24v w24s w24I w24F w24PF w24PD w24PV w24x0
    have w24g := zrg w24v
    show zGo X l 8 0 0 316 77 [(0, .ref 336), (1, .int a)] [.int w24v] w24M _
    exact zs_iret (pc := 77) t316_77 mr316 rfl (hQ _ _ w24s w24I ((zFr.refl).trans (w24F.mono rfl)) (zPR.fr pR (w24F.eq rfl)) (zPC.fr pC (w24F.eq rfl)) w24PF w24x0)
  refine zs_tswD (pc := 1) t316_1 rfl (by omega) (pc2 := 78) rfl ?_
  refine zs_iconst (pc := 78) t316_78 (v := -1) (by decide) ?_
  have w25 : (-1 : Int32).toInt = (-1) := lin1
  exact zs_iret (pc := 79) t316_79 mr316 (by decide) (hQ _ _ hs hI (zFr.refl) pR pC pF x2)
theorem Q317 {X : zX} {l : Launch} {M : zM} {Q : Option Value → zM → Prop} {a b : Int32} (hs : zSk zMm M) (hI : zIv mLo mHi M) {F : Nat → Int} (pR : zPR M) (pC : zPC M) (pF : zPF M) (x0 : zRw M 0 F) (x1 : zWF F) (x2 : zKnB M F) (hQ : ∀ (M' : zM) (v : Int32), zSk zMm M' → zIv mLo mHi M' → zFr [(336, 336, some 3), (336, 336, some 18), (336, 336, some 19), (336, 336, some 20), (336, 336, some 21), (336, 336, some 22), (336, 336, some 37), (336, 336, some 39), (336, 336, some 42), (336, 336, some 43), (336, 336, some 44), (336, 336, some 45), (342, 361, none)] M M' → zPR M' → zPC M' → zPF M' → (zKnB M' F) → Q (some (.int v)) M') : zCall X l 7 0 0 317 [.ref 336, .int a, .int b] M Q := by
  have ga := zrg a
  have gb := zrg b
  refine zs_in (by decide) mf317 (Nat.le_of_ble_eq_true rfl) ?_
  show zGo X l 7 0 0 317 0 [(0, .ref 336), (1, .int a), (2, .int b)] [] M _
  have f1 := x1.1
  have f3 := x1.2.2.2
  have w1 := ibA0 hI
  have w2 : (zI M 337 0).toInt = (zI M 337 0).toInt := (congrArg Int32.toInt rfl).trans rfl
  have e0 : (zI M 337 0).toInt = F 0 := x0.at (by decide) (by decide) (by decide)
  have w3 := ibA1 hI
  have w4 : (zI M 337 1).toInt = (zI M 337 1).toInt := (congrArg Int32.toInt rfl).trans rfl
  have e1 : (zI M 337 1).toInt = F 1 := x0.at (by decide) (by decide) (by decide)
  have w5 := ibA2 hI
  have w6 : (zI M 337 2).toInt = (zI M 337 2).toInt := (congrArg Int32.toInt rfl).trans rfl
  have e2 : (zI M 337 2).toInt = F 2 := x0.at (by decide) (by decide) (by decide)
  refine zs_aload_n (pc := 0) t317_0 rfl ?_
  refine zs_invV (pc := 1) (k := 336) (as' := []) (st := []) t317_1 mf268 rfl rfl (Or.inl ⟨by decide, (zk1 (hs.k fk_zMm_336))⟩) ⟨by decide, by decide, Nat.le_of_ble_eq_true rfl, Nat.le_of_ble_eq_true rfl⟩ (U268 hs hI pR pF x0 x1 x2 ?_) (fun _ _ q => q)
  intro w7M w7s w7I w7F w7PF w7PD w7PV w7x0 w7x1
  show zGo X l 7 0 0 317 4 [(0, .ref 336), (1, .int a), (2, .int b)] [] w7M _
  have w7kb : zKnB w7M F := fun _ => w7x0
  refine zs_aload_n (pc := 4) t317_4 rfl ?_
  refine zs_iload_n (pc := 5) t317_5 rfl ?_
  refine zs_invV (pc := 6) (k := 336) (as' := [.int a]) (st := []) t317_6 mf297 rfl rfl (Or.inl ⟨by decide, (zk1 (w7s.k fk_zMm_336))⟩) ⟨by decide, by decide, Nat.le_of_ble_eq_true rfl, Nat.le_of_ble_eq_true rfl⟩ (zs_in (by decide) mf297 (Nat.le_of_ble_eq_true rfl) ?_) (fun _ _ q => q)
  show zGo X l 1 0 0 297 0 [(0, .ref 336), (1, .int a)] [] w7M _
  refine zs_iload_n (pc := 0) t297_0 rfl ?_
  refine zs_i2l (pc := 1) t297_1 rfl ?_
  refine zs_lconst (pc := 2) t297_2 (v := 0) (by decide) ?_
  refine zs_aload_n (pc := 3) t297_3 rfl ?_
  have w8 := ib336_22 w7I
  refine zs_get (pc := 4) t297_4 (by decide) (zk1 (w7s.k fk_zMm_336)) (zfvi rfl rfl) ?_
  refine zs_iconst (pc := 7) t297_7 (v := 1) (by decide) ?_
  obtain ⟨w9v, w9e, w9⟩ := zisub (a := (zI w7M 336 22)) (b := (1 : Int32)) rfl li1 (by omega) (by omega)
  refine zs_isub (pc := 8) t297_8 (c := w9v) w9e ?_
  refine zs_i2l (pc := 9) t297_9 rfl ?_
  by_cases w10 : 0 ≤ a.toInt ∧ a.toInt ≤ ((zI w7M 336 22).toInt - 1)
  · refine zs_invS (pc := 10) (as := [.long a.toInt64, .long (0 : Int64), .long w9v.toInt64]) (st := []) t297_10 (by decide) mf228 rfl rfl ⟨by decide, by decide, Nat.le_of_ble_eq_true rfl, Nat.le_of_ble_eq_true rfl⟩ (K228T (zi2l rfl) ll0 (zi2l w9) (by omega) ?_) (fun _ _ q => q)
    show zGo X l 1 0 0 297 13 [(0, .ref 336), (1, .int a)] [.int (1 : Int32)] w7M _
    refine zs_iret (pc := 13) t297_13 mr297 (by decide) ?_
    show zGo X l 7 0 0 317 9 [(0, .ref 336), (1, .int a), (2, .int b)] [.int (1 : Int32)] w7M _
    refine zs_if_neT (pc := 9) t317_9 li1 (by decide) ?_
    refine zs_iload_n (pc := 16) t317_16 rfl ?_
    by_cases w11 : b.toInt = 0
    · refine zs_tswI (pc := 17) t317_17 ((rfl : b.toInt = b.toInt).trans w11) (by decide) rfl (pc2 := 68) rfl ?_
      refine zs_aload_n (pc := 68) t317_68 rfl ?_
      refine zs_get (pc := 69) t317_69 (by decide) (zk1 (w7s.k fk_zMm_336)) (w7s.p rfl fv_zMm_336_23) ?_
      refine zs_iload_n (pc := 72) t317_72 rfl ?_
      obtain ⟨w12n, w12⟩ : ∃ n : Nat, a.toInt = (n : Int) := ⟨(a.toInt).toNat, by omega⟩
      have w13 := zrg (zI w7M 345 w12n)
      refine zs_iald (pc := 73) t317_73 (j := w12n) (by decide) (zk1 (w7s.k fk_zMm_345)) (show a.toInt = ((w12n : Nat) : Int) by omega) (zk2 (w7s.k fk_zMm_345) (by omega)) rfl ?_
      exact zs_iret (pc := 74) t317_74 mr317 rfl (hQ _ _ w7s w7I ((zFr.refl).trans (w7F.mono rfl)) (zPR.fr pR (w7F.eq rfl)) (zPC.fr pC (w7F.eq rfl)) w7PF w7kb)
    by_cases w14 : b.toInt = 1
    · refine zs_tswI (pc := 17) t317_17 ((rfl : b.toInt = b.toInt).trans w14) (by decide) rfl (pc2 := 75) rfl ?_
      refine zs_aload_n (pc := 75) t317_75 rfl ?_
      refine zs_get (pc := 76) t317_76 (by decide) (zk1 (w7s.k fk_zMm_336)) (w7s.p rfl fv_zMm_336_24) ?_
      refine zs_iload_n (pc := 79) t317_79 rfl ?_
      obtain ⟨w15n, w15⟩ : ∃ n : Nat, a.toInt = (n : Int) := ⟨(a.toInt).toNat, by omega⟩
      have w16 := zrg (zI w7M 346 w15n)
      refine zs_iald (pc := 80) t317_80 (j := w15n) (by decide) (zk1 (w7s.k fk_zMm_346)) (show a.toInt = ((w15n : Nat) : Int) by omega) (zk2 (w7s.k fk_zMm_346) (by omega)) rfl ?_
      exact zs_iret (pc := 81) t317_81 mr317 rfl (hQ _ _ w7s w7I ((zFr.refl).trans (w7F.mono rfl)) (zPR.fr pR (w7F.eq rfl)) (zPC.fr pC (w7F.eq rfl)) w7PF w7kb)
    by_cases w17 : b.toInt = 2
    · refine zs_tswI (pc := 17) t317_17 ((rfl : b.toInt = b.toInt).trans w17) (by decide) rfl (pc2 := 82) rfl ?_
      refine zs_aload_n (pc := 82) t317_82 rfl ?_
      refine zs_get (pc := 83) t317_83 (by decide) (zk1 (w7s.k fk_zMm_336)) (w7s.p rfl fv_zMm_336_25) ?_
      refine zs_iload_n (pc := 86) t317_86 rfl ?_
      obtain ⟨w18n, w18⟩ : ∃ n : Nat, a.toInt = (n : Int) := ⟨(a.toInt).toNat, by omega⟩
      have w19 := zrg (zI w7M 347 w18n)
      refine zs_iald (pc := 87) t317_87 (j := w18n) (by decide) (zk1 (w7s.k fk_zMm_347)) (show a.toInt = ((w18n : Nat) : Int) by omega) (zk2 (w7s.k fk_zMm_347) (by omega)) rfl ?_
      exact zs_iret (pc := 88) t317_88 mr317 rfl (hQ _ _ w7s w7I ((zFr.refl).trans (w7F.mono rfl)) (zPR.fr pR (w7F.eq rfl)) (zPC.fr pC (w7F.eq rfl)) w7PF w7kb)
    by_cases w20 : b.toInt = 3
    · refine zs_tswI (pc := 17) t317_17 ((rfl : b.toInt = b.toInt).trans w20) (by decide) rfl (pc2 := 89) rfl ?_
      refine zs_aload_n (pc := 89) t317_89 rfl ?_
      refine zs_iload_n (pc := 90) t317_90 rfl ?_
      refine zs_invV (pc := 91) (k := 336) (as' := [.int a]) (st := []) t317_91 mf318 rfl rfl (Or.inl ⟨by decide, (zk1 (w7s.k fk_zMm_336))⟩) ⟨by decide, by decide, Nat.le_of_ble_eq_true rfl, Nat.le_of_ble_eq_true rfl⟩ (K318 w7s w7I ⟨by omega, by omega⟩ ?_) (fun _ _ q => q)
      intro w21v
      have w21g := zrg w21v
      show zGo X l 7 0 0 317 94 [(0, .ref 336), (1, .int a), (2, .int b)] [.int w21v] w7M _
      exact zs_iret (pc := 94) t317_94 mr317 rfl (hQ _ _ w7s w7I ((zFr.refl).trans (w7F.mono rfl)) (zPR.fr pR (w7F.eq rfl)) (zPC.fr pC (w7F.eq rfl)) w7PF w7kb)
    by_cases w22 : b.toInt = 4
    · refine zs_tswI (pc := 17) t317_17 ((rfl : b.toInt = b.toInt).trans w22) (by decide) rfl (pc2 := 95) rfl ?_
      refine zs_aload_n (pc := 95) t317_95 rfl ?_
      refine zs_get (pc := 96) t317_96 (by decide) (zk1 (w7s.k fk_zMm_336)) (w7s.p rfl fv_zMm_336_33) ?_
      refine zs_iload_n (pc := 99) t317_99 rfl ?_
      obtain ⟨w23n, w23⟩ : ∃ n : Nat, a.toInt = (n : Int) := ⟨(a.toInt).toNat, by omega⟩
      have w24 := zrg (zI w7M 355 w23n)
      refine zs_iald (pc := 100) t317_100 (j := w23n) (by decide) (zk1 (w7s.k fk_zMm_355)) (show a.toInt = ((w23n : Nat) : Int) by omega) (zk2 (w7s.k fk_zMm_355) (by omega)) rfl ?_
      exact zs_iret (pc := 101) t317_101 mr317 rfl (hQ _ _ w7s w7I ((zFr.refl).trans (w7F.mono rfl)) (zPR.fr pR (w7F.eq rfl)) (zPC.fr pC (w7F.eq rfl)) w7PF w7kb)
    by_cases w25 : b.toInt = 5
    · refine zs_tswI (pc := 17) t317_17 ((rfl : b.toInt = b.toInt).trans w25) (by decide) rfl (pc2 := 102) rfl ?_
      refine zs_aload_n (pc := 102) t317_102 rfl ?_
      refine zs_iload_n (pc := 103) t317_103 rfl ?_
      have w26 : (zI w7M 336 22).toInt = (zI w7M 336 22).toInt := (congrArg Int32.toInt rfl).trans rfl
      refine zs_invV (pc := 104) (k := 336) (as' := [.int a]) (st := []) t317_104 mf285 rfl rfl (Or.inl ⟨by decide, (zk1 (w7s.k fk_zMm_336))⟩) ⟨by decide, by decide, Nat.le_of_ble_eq_true rfl, Nat.le_of_ble_eq_true rfl⟩ (K285 w7s w7I w7PD ⟨by omega, by omega⟩ (by omega) ?_) (fun _ _ q => q)
      intro w27v
      have w27g := zrg w27v
      show zGo X l 7 0 0 317 107 [(0, .ref 336), (1, .int a), (2, .int b)] [.int w27v] w7M _
      exact zs_iret (pc := 107) t317_107 mr317 rfl (hQ _ _ w7s w7I ((zFr.refl).trans (w7F.mono rfl)) (zPR.fr pR (w7F.eq rfl)) (zPC.fr pC (w7F.eq rfl)) w7PF w7kb)
    by_cases w28 : b.toInt = 6
    · refine zs_tswI (pc := 17) t317_17 ((rfl : b.toInt = b.toInt).trans w28) (by decide) rfl (pc2 := 108) rfl ?_
      refine zs_aload_n (pc := 108) t317_108 rfl ?_
      refine zs_iload_n (pc := 109) t317_109 rfl ?_
      have w29 : (zI w7M 336 22).toInt = (zI w7M 336 22).toInt := (congrArg Int32.toInt rfl).trans rfl
      refine zs_invV (pc := 110) (k := 336) (as' := [.int a]) (st := []) t317_110 mf319 rfl rfl (Or.inl ⟨by decide, (zk1 (w7s.k fk_zMm_336))⟩) ⟨by decide, by decide, Nat.le_of_ble_eq_true rfl, Nat.le_of_ble_eq_true rfl⟩ (K319 w7s w7I w7PD ⟨by omega, by omega⟩ (by omega) ?_) (fun _ _ q => q)
      intro w30v
      have w30g := zrg w30v
      show zGo X l 7 0 0 317 113 [(0, .ref 336), (1, .int a), (2, .int b)] [.int w30v] w7M _
      exact zs_iret (pc := 113) t317_113 mr317 rfl (hQ _ _ w7s w7I ((zFr.refl).trans (w7F.mono rfl)) (zPR.fr pR (w7F.eq rfl)) (zPC.fr pC (w7F.eq rfl)) w7PF w7kb)
    by_cases w31 : b.toInt = 7
    · refine zs_tswI (pc := 17) t317_17 ((rfl : b.toInt = b.toInt).trans w31) (by decide) rfl (pc2 := 114) rfl ?_
      refine zs_aload_n (pc := 114) t317_114 rfl ?_
      refine zs_iload_n (pc := 115) t317_115 rfl ?_
      refine zs_iconst (pc := 116) t317_116 (v := 0) (by decide) ?_
      refine zs_invV (pc := 117) (k := 336) (as' := [.int a, .int (0 : Int32)]) (st := []) t317_117 mf320 rfl rfl (Or.inl ⟨by decide, (zk1 (w7s.k fk_zMm_336))⟩) ⟨by decide, by decide, Nat.le_of_ble_eq_true rfl, Nat.le_of_ble_eq_true rfl⟩ (K320 w7s w7I ⟨by omega, by omega⟩ ⟨by decide, by decide⟩ ?_) (fun _ _ q => q)
      intro w32v
      have w32g := zrg w32v
      show zGo X l 7 0 0 317 120 [(0, .ref 336), (1, .int a), (2, .int b)] [.int w32v] w7M _
      exact zs_iret (pc := 120) t317_120 mr317 rfl (hQ _ _ w7s w7I ((zFr.refl).trans (w7F.mono rfl)) (zPR.fr pR (w7F.eq rfl)) (zPC.fr pC (w7F.eq rfl)) w7PF w7kb)
    by_cases w33 : b.toInt = 8
    · refine zs_tswI (pc := 17) t317_17 ((rfl : b.toInt = b.toInt).trans w33) (by decide) rfl (pc2 := 121) rfl ?_
      refine zs_aload_n (pc := 121) t317_121 rfl ?_
      refine zs_iload_n (pc := 122) t317_122 rfl ?_
      refine zs_iconst (pc := 123) t317_123 (v := 1) (by decide) ?_
      refine zs_invV (pc := 124) (k := 336) (as' := [.int a, .int (1 : Int32)]) (st := []) t317_124 mf320 rfl rfl (Or.inl ⟨by decide, (zk1 (w7s.k fk_zMm_336))⟩) ⟨by decide, by decide, Nat.le_of_ble_eq_true rfl, Nat.le_of_ble_eq_true rfl⟩ (K320 w7s w7I ⟨by omega, by omega⟩ ⟨by decide, by decide⟩ ?_) (fun _ _ q => q)
      intro w34v
      have w34g := zrg w34v
      show zGo X l 7 0 0 317 127 [(0, .ref 336), (1, .int a), (2, .int b)] [.int w34v] w7M _
      exact zs_iret (pc := 127) t317_127 mr317 rfl (hQ _ _ w7s w7I ((zFr.refl).trans (w7F.mono rfl)) (zPR.fr pR (w7F.eq rfl)) (zPC.fr pC (w7F.eq rfl)) w7PF w7kb)
    refine zs_tswD (pc := 17) t317_17 rfl (by omega) (pc2 := 128) rfl ?_
    refine zs_ldc_w (pc := 128) t317_128 (v := -100000) rfl (by decide) ?_
    have w35 : (-100000 : Int32).toInt = (-100000) := lin100000
    exact zs_iret (pc := 131) t317_131 mr317 (by decide) (hQ _ _ w7s w7I ((zFr.refl).trans (w7F.mono rfl)) (zPR.fr pR (w7F.eq rfl)) (zPC.fr pC (w7F.eq rfl)) w7PF w7kb)
  · refine zs_invS (pc := 10) (as := [.long a.toInt64, .long (0 : Int64), .long w9v.toInt64]) (st := []) t297_10 (by decide) mf228 rfl rfl ⟨by decide, by decide, Nat.le_of_ble_eq_true rfl, Nat.le_of_ble_eq_true rfl⟩ (K228F (zi2l rfl) ll0 (zi2l w9) (by omega) ?_) (fun _ _ q => q)
    show zGo X l 1 0 0 297 13 [(0, .ref 336), (1, .int a)] [.int (0 : Int32)] w7M _
    refine zs_iret (pc := 13) t297_13 mr297 (by decide) ?_
    show zGo X l 7 0 0 317 9 [(0, .ref 336), (1, .int a), (2, .int b)] [.int (0 : Int32)] w7M _
    refine zs_if_neF (pc := 9) t317_9 li0 (by decide) ?_
    refine zs_ldc_w (pc := 12) t317_12 (v := -100000) rfl (by decide) ?_
    have w36 : (-100000 : Int32).toInt = (-100000) := lin100000
    exact zs_iret (pc := 15) t317_15 mr317 (by decide) (hQ _ _ w7s w7I ((zFr.refl).trans (w7F.mono rfl)) (zPR.fr pR (w7F.eq rfl)) (zPC.fr pC (w7F.eq rfl)) w7PF w7kb)
theorem Q321 {X : zX} {l : Launch} {M : zM} {Q : Option Value → zM → Prop} {a b : Int32} (hs : zSk zMm M) (hI : zIv mLo mHi M) {F : Nat → Int} (pR : zPR M) (pC : zPC M) (pF : zPF M) (x0 : zRw M 0 F) (x1 : zWF F) (x2 : zKnB M F) (hQ : ∀ (M' : zM) (v : Int32), zSk zMm M' → zIv mLo mHi M' → zFr [(336, 336, some 3), (336, 336, some 18), (336, 336, some 19), (336, 336, some 20), (336, 336, some 21), (336, 336, some 22), (336, 336, some 37), (336, 336, some 39), (336, 336, some 42), (336, 336, some 43), (336, 336, some 44), (336, 336, some 45), (342, 361, none)] M M' → zPR M' → zPC M' → zPF M' → (zKnB M' F) → Q (some (.int v)) M') : zCall X l 7 0 0 321 [.ref 336, .int a, .int b] M Q := by
  have ga := zrg a
  have gb := zrg b
  refine zs_in (by decide) mf321 (Nat.le_of_ble_eq_true rfl) ?_
  show zGo X l 7 0 0 321 0 [(0, .ref 336), (1, .int a), (2, .int b)] [] M _
  have f1 := x1.1
  have f3 := x1.2.2.2
  have w1 := ibA0 hI
  have w2 : (zI M 337 0).toInt = (zI M 337 0).toInt := (congrArg Int32.toInt rfl).trans rfl
  have e0 : (zI M 337 0).toInt = F 0 := x0.at (by decide) (by decide) (by decide)
  have w3 := ibA1 hI
  have w4 : (zI M 337 1).toInt = (zI M 337 1).toInt := (congrArg Int32.toInt rfl).trans rfl
  have e1 : (zI M 337 1).toInt = F 1 := x0.at (by decide) (by decide) (by decide)
  have w5 := ibA2 hI
  have w6 : (zI M 337 2).toInt = (zI M 337 2).toInt := (congrArg Int32.toInt rfl).trans rfl
  have e2 : (zI M 337 2).toInt = F 2 := x0.at (by decide) (by decide) (by decide)
  refine zs_aload_n (pc := 0) t321_0 rfl ?_
  refine zs_invV (pc := 1) (k := 336) (as' := []) (st := []) t321_1 mf268 rfl rfl (Or.inl ⟨by decide, (zk1 (hs.k fk_zMm_336))⟩) ⟨by decide, by decide, Nat.le_of_ble_eq_true rfl, Nat.le_of_ble_eq_true rfl⟩ (U268 hs hI pR pF x0 x1 x2 ?_) (fun _ _ q => q)
  intro w7M w7s w7I w7F w7PF w7PD w7PV w7x0 w7x1
  show zGo X l 7 0 0 321 4 [(0, .ref 336), (1, .int a), (2, .int b)] [] w7M _
  have w7kb : zKnB w7M F := fun _ => w7x0
  refine zs_aload_n (pc := 4) t321_4 rfl ?_
  refine zs_iload_n (pc := 5) t321_5 rfl ?_
  refine zs_invV (pc := 6) (k := 336) (as' := [.int a]) (st := []) t321_6 mf297 rfl rfl (Or.inl ⟨by decide, (zk1 (w7s.k fk_zMm_336))⟩) ⟨by decide, by decide, Nat.le_of_ble_eq_true rfl, Nat.le_of_ble_eq_true rfl⟩ (zs_in (by decide) mf297 (Nat.le_of_ble_eq_true rfl) ?_) (fun _ _ q => q)
  show zGo X l 1 0 0 297 0 [(0, .ref 336), (1, .int a)] [] w7M _
  refine zs_iload_n (pc := 0) t297_0 rfl ?_
  refine zs_i2l (pc := 1) t297_1 rfl ?_
  refine zs_lconst (pc := 2) t297_2 (v := 0) (by decide) ?_
  refine zs_aload_n (pc := 3) t297_3 rfl ?_
  have w8 := ib336_22 w7I
  refine zs_get (pc := 4) t297_4 (by decide) (zk1 (w7s.k fk_zMm_336)) (zfvi rfl rfl) ?_
  refine zs_iconst (pc := 7) t297_7 (v := 1) (by decide) ?_
  obtain ⟨w9v, w9e, w9⟩ := zisub (a := (zI w7M 336 22)) (b := (1 : Int32)) rfl li1 (by omega) (by omega)
  refine zs_isub (pc := 8) t297_8 (c := w9v) w9e ?_
  refine zs_i2l (pc := 9) t297_9 rfl ?_
  by_cases w10 : 0 ≤ a.toInt ∧ a.toInt ≤ ((zI w7M 336 22).toInt - 1)
  · refine zs_invS (pc := 10) (as := [.long a.toInt64, .long (0 : Int64), .long w9v.toInt64]) (st := []) t297_10 (by decide) mf228 rfl rfl ⟨by decide, by decide, Nat.le_of_ble_eq_true rfl, Nat.le_of_ble_eq_true rfl⟩ (K228T (zi2l rfl) ll0 (zi2l w9) (by omega) ?_) (fun _ _ q => q)
    show zGo X l 1 0 0 297 13 [(0, .ref 336), (1, .int a)] [.int (1 : Int32)] w7M _
    refine zs_iret (pc := 13) t297_13 mr297 (by decide) ?_
    show zGo X l 7 0 0 321 9 [(0, .ref 336), (1, .int a), (2, .int b)] [.int (1 : Int32)] w7M _
    refine zs_if_eqF (pc := 9) t321_9 li1 (by decide) ?_
    refine zs_aload_n (pc := 12) t321_12 rfl ?_
    refine zs_iload_n (pc := 13) t321_13 rfl ?_
    refine zs_invV (pc := 14) (k := 336) (as' := [.int b]) (st := []) t321_14 mf306 rfl rfl (Or.inl ⟨by decide, (zk1 (w7s.k fk_zMm_336))⟩) ⟨by decide, by decide, Nat.le_of_ble_eq_true rfl, Nat.le_of_ble_eq_true rfl⟩ (zs_in (by decide) mf306 (Nat.le_of_ble_eq_true rfl) ?_) (fun _ _ q => q)
    show zGo X l 1 0 0 306 0 [(0, .ref 336), (1, .int b)] [] w7M _
    refine zs_iload_n (pc := 0) t306_0 rfl ?_
    refine zs_i2l (pc := 1) t306_1 rfl ?_
    refine zs_lconst (pc := 2) t306_2 (v := 0) (by decide) ?_
    refine zs_aload_n (pc := 3) t306_3 rfl ?_
    refine zs_get (pc := 4) t306_4 (by decide) (zk1 (w7s.k fk_zMm_336)) (w7s.p rfl fv_zMm_336_0) ?_
    refine zs_iconst (pc := 7) t306_7 (v := 0) (by decide) ?_
    have w11 : (zI M 337 0).toInt = F 0 := x0.at (by decide) (by decide) (by decide)
    refine zs_iald (pc := 8) t306_8 (j := 0) (by decide) (zk1 (w7s.k fk_zMm_337)) li0 (zk2 (w7s.k fk_zMm_337) (by decide)) ((w7F 337 0 rfl).trans rfl) ?_
    refine zs_iconst (pc := 9) t306_9 (v := 1) (by decide) ?_
    obtain ⟨w12v, w12e, w12⟩ := zisub (a := (zI M 337 0)) (b := (1 : Int32)) rfl li1 (by omega) (by omega)
    refine zs_isub (pc := 10) t306_10 (c := w12v) w12e ?_
    refine zs_i2l (pc := 11) t306_11 rfl ?_
    by_cases w13 : 0 ≤ b.toInt ∧ b.toInt ≤ ((zI M 337 0).toInt - 1)
    · refine zs_invS (pc := 12) (as := [.long b.toInt64, .long (0 : Int64), .long w12v.toInt64]) (st := []) t306_12 (by decide) mf228 rfl rfl ⟨by decide, by decide, Nat.le_of_ble_eq_true rfl, Nat.le_of_ble_eq_true rfl⟩ (K228T (zi2l rfl) ll0 (zi2l w12) (by omega) ?_) (fun _ _ q => q)
      show zGo X l 1 0 0 306 15 [(0, .ref 336), (1, .int b)] [.int (1 : Int32)] w7M _
      refine zs_iret (pc := 15) t306_15 mr306 (by decide) ?_
      show zGo X l 7 0 0 321 17 [(0, .ref 336), (1, .int a), (2, .int b)] [.int (1 : Int32)] w7M _
      refine zs_if_eqF (pc := 17) t321_17 li1 (by decide) ?_
      refine zs_aload_n (pc := 20) t321_20 rfl ?_
      refine zs_get (pc := 21) t321_21 (by decide) (zk1 (w7s.k fk_zMm_336)) (w7s.p rfl fv_zMm_336_27) ?_
      refine zs_bipush (pc := 24) t321_24 (v := 8) (by decide) ?_
      refine zs_iload_n (pc := 26) t321_26 rfl ?_
      obtain ⟨w14v, w14⟩ : ∃ v, (8 : Int32) * a = v := ⟨_, rfl⟩
      have w14g : w14v.toInt = 8 * a.toInt := by rw [← w14]; exact zmulc li8 rfl (by omega) (by omega)
      refine zs_imul (pc := 27) t321_27 (c := w14v) w14 ?_
      refine zs_iload_n (pc := 28) t321_28 rfl ?_
      obtain ⟨w15v, w15e, w15⟩ := ziadd (a := w14v) (b := b) w14g rfl (by omega) (by omega)
      refine zs_iadd (pc := 29) t321_29 (c := w15v) w15e ?_
      obtain ⟨w16n, w16⟩ : ∃ n : Nat, a.toInt = (n : Int) := ⟨(a.toInt).toNat, by omega⟩
      obtain ⟨w17n, w17⟩ : ∃ n : Nat, b.toInt = (n : Int) := ⟨(b.toInt).toNat, by omega⟩
      have w18 := ib349 w7I (8 * w16n + w17n)
      refine zs_iald (pc := 30) t321_30 (j := (8 * w16n + w17n)) (by decide) (zk1 (w7s.k fk_zMm_349)) (show w15v.toInt = (((8 * w16n + w17n) : Nat) : Int) by omega) (zk2 (w7s.k fk_zMm_349) (by omega)) rfl ?_
      refine zs_goto (pc := 31) t321_31 ?_
      exact zs_iret (pc := 35) t321_35 mr321 rfl (hQ _ _ w7s w7I ((zFr.refl).trans (w7F.mono rfl)) (zPR.fr pR (w7F.eq rfl)) (zPC.fr pC (w7F.eq rfl)) w7PF w7kb)
    · refine zs_invS (pc := 12) (as := [.long b.toInt64, .long (0 : Int64), .long w12v.toInt64]) (st := []) t306_12 (by decide) mf228 rfl rfl ⟨by decide, by decide, Nat.le_of_ble_eq_true rfl, Nat.le_of_ble_eq_true rfl⟩ (K228F (zi2l rfl) ll0 (zi2l w12) (by omega) ?_) (fun _ _ q => q)
      show zGo X l 1 0 0 306 15 [(0, .ref 336), (1, .int b)] [.int (0 : Int32)] w7M _
      refine zs_iret (pc := 15) t306_15 mr306 (by decide) ?_
      show zGo X l 7 0 0 321 17 [(0, .ref 336), (1, .int a), (2, .int b)] [.int (0 : Int32)] w7M _
      refine zs_if_eqT (pc := 17) t321_17 li0 (by decide) ?_
      refine zs_iconst (pc := 34) t321_34 (v := -1) (by decide) ?_
      have w19 : (-1 : Int32).toInt = (-1) := lin1
      exact zs_iret (pc := 35) t321_35 mr321 (by decide) (hQ _ _ w7s w7I ((zFr.refl).trans (w7F.mono rfl)) (zPR.fr pR (w7F.eq rfl)) (zPC.fr pC (w7F.eq rfl)) w7PF w7kb)
  · refine zs_invS (pc := 10) (as := [.long a.toInt64, .long (0 : Int64), .long w9v.toInt64]) (st := []) t297_10 (by decide) mf228 rfl rfl ⟨by decide, by decide, Nat.le_of_ble_eq_true rfl, Nat.le_of_ble_eq_true rfl⟩ (K228F (zi2l rfl) ll0 (zi2l w9) (by omega) ?_) (fun _ _ q => q)
    show zGo X l 1 0 0 297 13 [(0, .ref 336), (1, .int a)] [.int (0 : Int32)] w7M _
    refine zs_iret (pc := 13) t297_13 mr297 (by decide) ?_
    show zGo X l 7 0 0 321 9 [(0, .ref 336), (1, .int a), (2, .int b)] [.int (0 : Int32)] w7M _
    refine zs_if_eqT (pc := 9) t321_9 li0 (by decide) ?_
    refine zs_iconst (pc := 34) t321_34 (v := -1) (by decide) ?_
    have w20 : (-1 : Int32).toInt = (-1) := lin1
    exact zs_iret (pc := 35) t321_35 mr321 (by decide) (hQ _ _ w7s w7I ((zFr.refl).trans (w7F.mono rfl)) (zPR.fr pR (w7F.eq rfl)) (zPC.fr pC (w7F.eq rfl)) w7PF w7kb)
