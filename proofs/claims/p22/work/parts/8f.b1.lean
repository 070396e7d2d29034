theorem P150 {X : zX} {l : Launch} {M : zM} {Q : Option Value → zM → Prop} {a : Int32} (hs : zSk zMc M) (hI : zIv cLo cHi M) {F : Nat → Int} (u0 : (zI M 166 10).toInt ≤ 1600000000) (u1 : 0 ≤ (zI M 166 10).toInt) (u2 : (zI M 242 10).toInt ≤ 1600000000) (u3 : 0 ≤ (zI M 242 10).toInt) (x0 : zSo M 7 F) (x1 : zWF F) (x2 : zKnA M F) (x3 : zSp M 166 174) (x4 : zSp M 242 250) (hQ : ∀ (M' : zM) (v : Int32), zSk zMc M' → zIv cLo cHi M' → zFr [(164, 165, none), (166, 178, none), (180, 180, none), (181, 240, none), (317, 324, none), (325, 325, some 1), (326, 331, none), (166, 166, some 0), (166, 166, some 5), (166, 166, some 6), (166, 166, some 10), (166, 166, some 15), (166, 166, some 17), (166, 166, some 18), (167, 178, none), (325, 325, some 0)] M M' → ((zI M' 166 10).toInt ≤ (zI M 166 10).toInt + 20000) → ((zI M 166 10).toInt ≤ (zI M' 166 10).toInt) → ((zI M' 242 10).toInt ≤ (zI M 242 10).toInt + 20000) → ((zI M 242 10).toInt ≤ (zI M' 242 10).toInt) → (zKnA M' F) → (zSp M' 166 174) → (zSp M' 242 250) → Q (some (.int v)) M') : zCall X l 7 0 0 150 [.ref 6, .int a] M Q := by
  have ga := zrg a
  refine zs_in (by decide) mf150 (Nat.le_of_ble_eq_true rfl) ?_
  show zGo X l 7 0 0 150 0 [(0, .ref 6), (1, .int a)] [] M _
  have f0 := x0.1
  have w1 := ib7_0 hI
  have w2 : (zI M 7 0).toInt = (zI M 7 0).toInt := (congrArg Int32.toInt rfl).trans rfl
  have w3 := ib7_3 hI
  have w4 : (zI M 7 3).toInt = (zI M 7 3).toInt := (congrArg Int32.toInt rfl).trans rfl
  have w5 := ib7_8 hI
  have w6 : (zI M 7 8).toInt = (zI M 7 8).toInt := (congrArg Int32.toInt rfl).trans rfl
  have f1 := x1.1
  have f3 := x1.2.2.2
  have f2 := (show (zI M 7 0).toInt = F 0 ∧ (zI M 7 3).toInt = F 1 ∧ (zI M 7 8).toInt = F 2 from ⟨x0.1.1, x0.1.2.1, x0.1.2.2.1⟩)
  refine zs_iload_n (pc := 0) t150_0 rfl ?_
  by_cases w7 : a.toInt = 0
  · refine zs_tswI (pc := 1) t150_1 ((rfl : a.toInt = a.toInt).trans w7) (by decide) rfl (pc2 := 40) rfl ?_
    refine zs_aload_n (pc := 40) t150_40 rfl ?_
    refine zs_bipush (pc := 41) t150_41 (v := 110) (by decide) ?_
    have w8 : (110 : Int32).toInt = 110 := li110
    have w9 := zrg (zI M 166 10)
    have w10 : (zI M 166 10).toInt = (zI M 166 10).toInt := (congrArg Int32.toInt rfl).trans rfl
    have w11 := zrg (zI M 242 10)
    have w12 : (zI M 242 10).toInt = (zI M 242 10).toInt := (congrArg Int32.toInt rfl).trans rfl
    have w13 : (zI M 166 10).toInt = (zI M 166 10).toInt := (congrArg Int32.toInt rfl).trans rfl
    have w14 : (zI M 242 10).toInt = (zI M 242 10).toInt := (congrArg Int32.toInt rfl).trans rfl
    refine zs_invV (pc := 43) (k := 6) (as' := [.int (110 : Int32)]) (st := []) t150_43 mf151 rfl rfl (Or.inl ⟨by decide, (zk1 (hs.k fk_zMc_6))⟩) ⟨by decide, by decide, Nat.le_of_ble_eq_true rfl, Nat.le_of_ble_eq_true rfl⟩ (P151 hs hI (by omega) (by omega) (by omega) (by omega) x0 x1 x2 x3 x4 ?_) (fun _ _ q => q)
    intro w15M w15v w15s w15I w15F w15t0 w15t1 w15t2 w15t3 w15x0 w15x1 w15x2
    have w15g := zrg w15v
    have w16 := zrg (zI w15M 166 10)
    show zGo X l 7 0 0 150 46 [(0, .ref 6), (1, .int a)] [.int w15v] w15M _
    have w17 : (zI w15M 166 10).toInt = (zI w15M 166 10).toInt := (congrArg Int32.toInt rfl).trans rfl
    have w18 : (zI w15M 242 10).toInt = (zI M 242 10).toInt := (congrArg Int32.toInt ((w15F 242 10 rfl).trans rfl)).trans rfl
    exact zs_iret (pc := 46) t150_46 mr150 rfl (hQ _ _ w15s w15I ((zFr.refl).trans (w15F.mono rfl)) (by omega) (by omega) (by omega) (by omega) w15x0 w15x1 w15x2)
  by_cases w19 : a.toInt = 1
  · refine zs_tswI (pc := 1) t150_1 ((rfl : a.toInt = a.toInt).trans w19) (by decide) rfl (pc2 := 47) rfl ?_
    refine zs_aload_n (pc := 47) t150_47 rfl ?_
    refine zs_bipush (pc := 48) t150_48 (v := 103) (by decide) ?_
    have w20 : (103 : Int32).toInt = 103 := li103
    have w21 := zrg (zI M 166 10)
    have w22 : (zI M 166 10).toInt = (zI M 166 10).toInt := (congrArg Int32.toInt rfl).trans rfl
    have w23 := zrg (zI M 242 10)
    have w24 : (zI M 242 10).toInt = (zI M 242 10).toInt := (congrArg Int32.toInt rfl).trans rfl
    have w25 : (zI M 166 10).toInt = (zI M 166 10).toInt := (congrArg Int32.toInt rfl).trans rfl
    have w26 : (zI M 242 10).toInt = (zI M 242 10).toInt := (congrArg Int32.toInt rfl).trans rfl
    refine zs_invV (pc := 50) (k := 6) (as' := [.int (103 : Int32)]) (st := []) t150_50 mf151 rfl rfl (Or.inl ⟨by decide, (zk1 (hs.k fk_zMc_6))⟩) ⟨by decide, by decide, Nat.le_of_ble_eq_true rfl, Nat.le_of_ble_eq_true rfl⟩ (P151 hs hI (by omega) (by omega) (by omega) (by omega) x0 x1 x2 x3 x4 ?_) (fun _ _ q => q)
    intro w27M w27v w27s w27I w27F w27t0 w27t1 w27t2 w27t3 w27x0 w27x1 w27x2
    have w27g := zrg w27v
    have w28 := zrg (zI w27M 166 10)
    show zGo X l 7 0 0 150 53 [(0, .ref 6), (1, .int a)] [.int w27v] w27M _
    have w29 : (zI w27M 166 10).toInt = (zI w27M 166 10).toInt := (congrArg Int32.toInt rfl).trans rfl
    have w30 : (zI w27M 242 10).toInt = (zI M 242 10).toInt := (congrArg Int32.toInt ((w27F 242 10 rfl).trans rfl)).trans rfl
    exact zs_iret (pc := 53) t150_53 mr150 rfl (hQ _ _ w27s w27I ((zFr.refl).trans (w27F.mono rfl)) (by omega) (by omega) (by omega) (by omega) w27x0 w27x1 w27x2)
  by_cases w31 : a.toInt = 2
  · refine zs_tswI (pc := 1) t150_1 ((rfl : a.toInt = a.toInt).trans w31) (by decide) rfl (pc2 := 54) rfl ?_
    refine zs_aload_n (pc := 54) t150_54 rfl ?_
    refine zs_bipush (pc := 55) t150_55 (v := 118) (by decide) ?_
    have w32 : (118 : Int32).toInt = 118 := li118
    have w33 := zrg (zI M 166 10)
    have w34 : (zI M 166 10).toInt = (zI M 166 10).toInt := (congrArg Int32.toInt rfl).trans rfl
    have w35 := zrg (zI M 242 10)
    have w36 : (zI M 242 10).toInt = (zI M 242 10).toInt := (congrArg Int32.toInt rfl).trans rfl
    have w37 : (zI M 166 10).toInt = (zI M 166 10).toInt := (congrArg Int32.toInt rfl).trans rfl
    have w38 : (zI M 242 10).toInt = (zI M 242 10).toInt := (congrArg Int32.toInt rfl).trans rfl
    refine zs_invV (pc := 57) (k := 6) (as' := [.int (118 : Int32)]) (st := []) t150_57 mf151 rfl rfl (Or.inl ⟨by decide, (zk1 (hs.k fk_zMc_6))⟩) ⟨by decide, by decide, Nat.le_of_ble_eq_true rfl, Nat.le_of_ble_eq_true rfl⟩ (P151 hs hI (by omega) (by omega) (by omega) (by omega) x0 x1 x2 x3 x4 ?_) (fun _ _ q => q)
    intro w39M w39v w39s w39I w39F w39t0 w39t1 w39t2 w39t3 w39x0 w39x1 w39x2
    have w39g := zrg w39v
    have w40 := zrg (zI w39M 166 10)
    show zGo X l 7 0 0 150 60 [(0, .ref 6), (1, .int a)] [.int w39v] w39M _
    have w41 : (zI w39M 166 10).toInt = (zI w39M 166 10).toInt := (congrArg Int32.toInt rfl).trans rfl
    have w42 : (zI w39M 242 10).toInt = (zI M 242 10).toInt := (congrArg Int32.toInt ((w39F 242 10 rfl).trans rfl)).trans rfl
    exact zs_iret (pc := 60) t150_60 mr150 rfl (hQ _ _ w39s w39I ((zFr.refl).trans (w39F.mono rfl)) (by omega) (by omega) (by omega) (by omega) w39x0 w39x1 w39x2)
  by_cases w43 : a.toInt = 3
  · refine zs_tswI (pc := 1) t150_1 ((rfl : a.toInt = a.toInt).trans w43) (by decide) rfl (pc2 := 61) rfl ?_
    refine zs_aload_n (pc := 61) t150_61 rfl ?_
    refine zs_bipush (pc := 62) t150_62 (v := 117) (by decide) ?_
    have w44 : (117 : Int32).toInt = 117 := li117
    have w45 := zrg (zI M 166 10)
    have w46 : (zI M 166 10).toInt = (zI M 166 10).toInt := (congrArg Int32.toInt rfl).trans rfl
    have w47 := zrg (zI M 242 10)
    have w48 : (zI M 242 10).toInt = (zI M 242 10).toInt := (congrArg Int32.toInt rfl).trans rfl
    have w49 : (zI M 166 10).toInt = (zI M 166 10).toInt := (congrArg Int32.toInt rfl).trans rfl
    have w50 : (zI M 242 10).toInt = (zI M 242 10).toInt := (congrArg Int32.toInt rfl).trans rfl
    refine zs_invV (pc := 64) (k := 6) (as' := [.int (117 : Int32)]) (st := []) t150_64 mf151 rfl rfl (Or.inl ⟨by decide, (zk1 (hs.k fk_zMc_6))⟩) ⟨by decide, by decide, Nat.le_of_ble_eq_true rfl, Nat.le_of_ble_eq_true rfl⟩ (P151 hs hI (by omega) (by omega) (by omega) (by omega) x0 x1 x2 x3 x4 ?_) (fun _ _ q => q)
    intro w51M w51v w51s w51I w51F w51t0 w51t1 w51t2 w51t3 w51x0 w51x1 w51x2
    have w51g := zrg w51v
    have w52 := zrg (zI w51M 166 10)
    show zGo X l 7 0 0 150 67 [(0, .ref 6), (1, .int a)] [.int w51v] w51M _
    have w53 : (zI w51M 166 10).toInt = (zI w51M 166 10).toInt := (congrArg Int32.toInt rfl).trans rfl
    have w54 : (zI w51M 242 10).toInt = (zI M 242 10).toInt := (congrArg Int32.toInt ((w51F 242 10 rfl).trans rfl)).trans rfl
    exact zs_iret (pc := 67) t150_67 mr150 rfl (hQ _ _ w51s w51I ((zFr.refl).trans (w51F.mono rfl)) (by omega) (by omega) (by omega) (by omega) w51x0 w51x1 w51x2)
  by_cases w55 : a.toInt = 4
  · refine zs_tswI (pc := 1) t150_1 ((rfl : a.toInt = a.toInt).trans w55) (by decide) rfl (pc2 := 68) rfl ?_
    refine zs_aload_n (pc := 68) t150_68 rfl ?_
    refine zs_bipush (pc := 69) t150_69 (v := 109) (by decide) ?_
    have w56 : (109 : Int32).toInt = 109 := li109
    have w57 := zrg (zI M 166 10)
    have w58 : (zI M 166 10).toInt = (zI M 166 10).toInt := (congrArg Int32.toInt rfl).trans rfl
    have w59 := zrg (zI M 242 10)
    have w60 : (zI M 242 10).toInt = (zI M 242 10).toInt := (congrArg Int32.toInt rfl).trans rfl
    have w61 : (zI M 166 10).toInt = (zI M 166 10).toInt := (congrArg Int32.toInt rfl).trans rfl
    have w62 : (zI M 242 10).toInt = (zI M 242 10).toInt := (congrArg Int32.toInt rfl).trans rfl
    refine zs_invV (pc := 71) (k := 6) (as' := [.int (109 : Int32)]) (st := []) t150_71 mf151 rfl rfl (Or.inl ⟨by decide, (zk1 (hs.k fk_zMc_6))⟩) ⟨by decide, by decide, Nat.le_of_ble_eq_true rfl, Nat.le_of_ble_eq_true rfl⟩ (P151 hs hI (by omega) (by omega) (by omega) (by omega) x0 x1 x2 x3 x4 ?_) (fun _ _ q => q)
    intro w63M w63v w63s w63I w63F w63t0 w63t1 w63t2 w63t3 w63x0 w63x1 w63x2
    have w63g := zrg w63v
    have w64 := zrg (zI w63M 166 10)
    show zGo X l 7 0 0 150 74 [(0, .ref 6), (1, .int a)] [.int w63v] w63M _
    have w65 : (zI w63M 166 10).toInt = (zI w63M 166 10).toInt := (congrArg Int32.toInt rfl).trans rfl
    have w66 : (zI w63M 242 10).toInt = (zI M 242 10).toInt := (congrArg Int32.toInt ((w63F 242 10 rfl).trans rfl)).trans rfl
    exact zs_iret (pc := 74) t150_74 mr150 rfl (hQ _ _ w63s w63I ((zFr.refl).trans (w63F.mono rfl)) (by omega) (by omega) (by omega) (by omega) w63x0 w63x1 w63x2)
  by_cases w67 : a.toInt = 5
  · refine zs_tswI (pc := 1) t150_1 ((rfl : a.toInt = a.toInt).trans w67) (by decide) rfl (pc2 := 75) rfl ?_
    refine zs_aload_n (pc := 75) t150_75 rfl ?_
    refine zs_bipush (pc := 76) t150_76 (v := 111) (by decide) ?_
    have w68 : (111 : Int32).toInt = 111 := li111
    have w69 := zrg (zI M 166 10)
    have w70 : (zI M 166 10).toInt = (zI M 166 10).toInt := (congrArg Int32.toInt rfl).trans rfl
    have w71 := zrg (zI M 242 10)
    have w72 : (zI M 242 10).toInt = (zI M 242 10).toInt := (congrArg Int32.toInt rfl).trans rfl
    have w73 : (zI M 166 10).toInt = (zI M 166 10).toInt := (congrArg Int32.toInt rfl).trans rfl
    have w74 : (zI M 242 10).toInt = (zI M 242 10).toInt := (congrArg Int32.toInt rfl).trans rfl
    refine zs_invV (pc := 78) (k := 6) (as' := [.int (111 : Int32)]) (st := []) t150_78 mf151 rfl rfl (Or.inl ⟨by decide, (zk1 (hs.k fk_zMc_6))⟩) ⟨by decide, by decide, Nat.le_of_ble_eq_true rfl, Nat.le_of_ble_eq_true rfl⟩ (P151 hs hI (by omega) (by omega) (by omega) (by omega) x0 x1 x2 x3 x4 ?_) (fun _ _ q => q)
    intro w75M w75v w75s w75I w75F w75t0 w75t1 w75t2 w75t3 w75x0 w75x1 w75x2
    have w75g := zrg w75v
    have w76 := zrg (zI w75M 166 10)
    show zGo X l 7 0 0 150 81 [(0, .ref 6), (1, .int a)] [.int w75v] w75M _
    have w77 : (zI w75M 166 10).toInt = (zI w75M 166 10).toInt := (congrArg Int32.toInt rfl).trans rfl
    have w78 : (zI w75M 242 10).toInt = (zI M 242 10).toInt := (congrArg Int32.toInt ((w75F 242 10 rfl).trans rfl)).trans rfl
    exact zs_iret (pc := 81) t150_81 mr150 rfl (hQ _ _ w75s w75I ((zFr.refl).trans (w75F.mono rfl)) (by omega) (by omega) (by omega) (by omega) w75x0 w75x1 w75x2)
  refine zs_tswD (pc := 1) t150_1 rfl (by omega) (pc2 := 82) rfl ?_
  refine zs_iconst (pc := 82) t150_82 (v := -1) (by decide) ?_
  have w79 := zrg (zI M 166 10)
  have w80 : (zI M 166 10).toInt = (zI M 166 10).toInt := (congrArg Int32.toInt rfl).trans rfl
  have w81 := zrg (zI M 242 10)
  have w82 : (zI M 242 10).toInt = (zI M 242 10).toInt := (congrArg Int32.toInt rfl).trans rfl
  have w83 := lin1
  exact zs_iret (pc := 83) t150_83 mr150 (by decide) (hQ _ _ hs hI (zFr.refl) (by omega) (by omega) (by omega) (by omega) x2 x3 x4)
theorem P169 {X : zX} {l : Launch} {M : zM} {Q : Option Value → zM → Prop} {a b : Int32} (hs : zSk zMc M) (hI : zIv cLo cHi M) {F : Nat → Int} (u0 : (zI M 166 10).toInt ≤ 1600000000) (u1 : 0 ≤ (zI M 166 10).toInt) (u2 : (zI M 242 10).toInt ≤ 1600000000) (u3 : 0 ≤ (zI M 242 10).toInt) (x0 : zSo M 7 F) (x1 : zWF F) (x2 : zKnA M F) (x3 : zSp M 166 174) (x4 : zSp M 242 250) (hQ : ∀ (M' : zM) (v : Int32), zSk zMc M' → zIv cLo cHi M' → zFr [(164, 165, none), (166, 178, none), (180, 180, none), (181, 240, none), (317, 324, none)] M M' → ((zI M' 166 10).toInt ≤ (zI M 166 10).toInt + 20000) → ((zI M 166 10).toInt ≤ (zI M' 166 10).toInt) → ((zI M' 242 10).toInt ≤ (zI M 242 10).toInt + 20000) → ((zI M 242 10).toInt ≤ (zI M' 242 10).toInt) → (zKnA M' F) → (zSp M' 166 174) → (zSp M' 242 250) → Q (some (.int v)) M') : zCall X l 6 0 0 169 [.ref 6, .int a, .int b] M Q := by
  have ga := zrg a
  have gb := zrg b
  refine zs_in (by decide) mf169 (Nat.le_of_ble_eq_true rfl) ?_
  show zGo X l 6 0 0 169 0 [(0, .ref 6), (1, .int a), (2, .int b)] [] M _
  have f0 := x0.1
  have w1 := ib7_0 hI
  have w2 : (zI M 7 0).toInt = (zI M 7 0).toInt := (congrArg Int32.toInt rfl).trans rfl
  have w3 := ib7_3 hI
  have w4 : (zI M 7 3).toInt = (zI M 7 3).toInt := (congrArg Int32.toInt rfl).trans rfl
  have w5 := ib7_8 hI
  have w6 : (zI M 7 8).toInt = (zI M 7 8).toInt := (congrArg Int32.toInt rfl).trans rfl
  have f1 := x1.1
  have f3 := x1.2.2.2
  have f2 := (show (zI M 7 0).toInt = F 0 ∧ (zI M 7 3).toInt = F 1 ∧ (zI M 7 8).toInt = F 2 from ⟨x0.1.1, x0.1.2.1, x0.1.2.2.1⟩)
  refine zs_aload_n (pc := 0) t169_0 rfl ?_
  refine zs_get (pc := 1) t169_1 (by decide) (zk1 (hs.k fk_zMc_6)) (hs.p rfl fv_zMc_6_6) ?_
  refine zs_aload_n (pc := 4) t169_4 rfl ?_
  refine zs_get (pc := 5) t169_5 (by decide) (zk1 (hs.k fk_zMc_6)) (hs.p rfl fv_zMc_6_0) ?_
  have w7 := zrg (zI M 166 10)
  have w8 : (zI M 166 10).toInt = (zI M 166 10).toInt := (congrArg Int32.toInt rfl).trans rfl
  have w9 : (zI M 166 10).toInt = (zI M 166 10).toInt := (congrArg Int32.toInt rfl).trans rfl
  refine zs_invV (pc := 8) (k := 164) (as' := [.ref 7]) (st := []) t169_8 mf105 rfl rfl (Or.inl ⟨by decide, (zk1 (hs.k fk_zMc_164))⟩) ⟨by decide, by decide, Nat.le_of_ble_eq_true rfl, Nat.le_of_ble_eq_true rfl⟩ (V105 hs hI (by omega) (by omega) x0 x1 x2 x3 ?_) (fun _ _ q => q)
  intro w10M w10s w10I w10F w10t0 w10t1 w10x0 w10x1 w10x2
  have w11 := zrg (zI w10M 166 10)
  show zGo X l 6 0 0 169 11 [(0, .ref 6), (1, .int a), (2, .int b)] [.ref 164] w10M _
  refine zs_iload_n (pc := 11) t169_11 rfl ?_
  refine zs_invV (pc := 12) (k := 164) (as' := [.int a]) (st := []) t169_12 mf163 rfl rfl (Or.inl ⟨by decide, (zk1 (w10s.k fk_zMc_164))⟩) ⟨by decide, by decide, Nat.le_of_ble_eq_true rfl, Nat.le_of_ble_eq_true rfl⟩ (zs_in (by decide) mf163 (Nat.le_of_ble_eq_true rfl) ?_) (fun _ _ q => q)
  show zGo X l 1 0 0 163 0 [(0, .ref 164), (1, .int a)] [] w10M _
  refine zs_iload_n (pc := 0) t163_0 rfl ?_
  refine zs_aload_n (pc := 1) t163_1 rfl ?_
  have w12 := ib164_4 w10I
  refine zs_get (pc := 2) t163_2 (by decide) (zk1 (w10s.k fk_zMc_164)) (zfvi rfl rfl) ?_
  by_cases w13 : (zI w10M 164 4).toInt ≤ a.toInt
  · refine zs_icmp_geT (pc := 5) t163_5 rfl rfl (by omega) ?_
    refine zs_aconst_null (pc := 19) t163_19 ?_
    refine zs_aret0 (pc := 20) t163_20 (by rw [mr163]; rfl) ?_
    show zGo X l 6 0 0 169 15 [(0, .ref 6), (1, .int a), (2, .int b)] [.null] w10M _
    refine zs_astore_n0 (pc := 15) t169_15 (ls' := [(3, .null), (0, .ref 6), (1, .int a), (2, .int b)]) (zml mf169 (by decide)) rfl ?_
    refine zs_aload_n0 (pc := 16) t169_16 rfl ?_
    refine zs_ifnonnullF (pc := 17) t169_17 ?_
    refine zs_ldc (pc := 20) t169_20 (v := -100000) rfl (by decide) ?_
    have w14 : (zI w10M 166 10).toInt = (zI w10M 166 10).toInt := (congrArg Int32.toInt rfl).trans rfl
    have w15 := zrg (zI M 242 10)
    have w16 : (zI w10M 242 10).toInt = (zI M 242 10).toInt := (congrArg Int32.toInt ((w10F 242 10 rfl).trans rfl)).trans rfl
    have w17 := lin100000
    exact zs_iret (pc := 22) t169_22 mr169 (by decide) (hQ _ _ w10s w10I ((zFr.refl).trans (w10F.mono rfl)) (by omega) (by omega) (by omega) (by omega) (fun _ => w10x0) w10x1 (zSp.fr x4 (fun j => (w10F 250 j rfl)) (w10F 242 10 rfl)))
  · refine zs_icmp_geF (pc := 5) t163_5 rfl rfl (by omega) ?_
    refine zs_aload_n (pc := 8) t163_8 rfl ?_
    refine zs_get (pc := 9) t163_9 (by decide) (zk1 (w10s.k fk_zMc_164)) (w10s.p rfl fv_zMc_164_1) ?_
    refine zs_iload_n (pc := 12) t163_12 rfl ?_
    refine zs_invV (pc := 13) (k := 165) (as' := [.int a]) (st := []) t163_13 mf126 rfl rfl (Or.inl ⟨by decide, (zk1 (w10s.k fk_zMc_165))⟩) ⟨by decide, by decide, Nat.le_of_ble_eq_true rfl, Nat.le_of_ble_eq_true rfl⟩ (zs_in (by decide) mf126 (Nat.le_of_ble_eq_true rfl) ?_) (fun _ _ q => q)
    show zGo X l 0 0 0 126 0 [(0, .ref 165), (1, .int a)] [] w10M _
    refine zs_iload_n (pc := 0) t126_0 rfl ?_
    by_cases w18 : a.toInt < 0
    · refine zs_if_ltT (pc := 1) t126_1 rfl (by omega) ?_
      refine zs_aconst_null (pc := 21) t126_21 ?_
      refine zs_aret0 (pc := 22) t126_22 (by rw [mr126]; rfl) ?_
      show zGo X l 1 0 0 163 16 [(0, .ref 164), (1, .int a)] [.null] w10M _
      refine zs_goto (pc := 16) t163_16 ?_
      refine zs_aret0 (pc := 20) t163_20 (by rw [mr163]; rfl) ?_
      show zGo X l 6 0 0 169 15 [(0, .ref 6), (1, .int a), (2, .int b)] [.null] w10M _
      refine zs_astore_n0 (pc := 15) t169_15 (ls' := [(3, .null), (0, .ref 6), (1, .int a), (2, .int b)]) (zml mf169 (by decide)) rfl ?_
      refine zs_aload_n0 (pc := 16) t169_16 rfl ?_
      refine zs_ifnonnullF (pc := 17) t169_17 ?_
      refine zs_ldc (pc := 20) t169_20 (v := -100000) rfl (by decide) ?_
      have w19 : (zI w10M 166 10).toInt = (zI w10M 166 10).toInt := (congrArg Int32.toInt rfl).trans rfl
      have w20 : (zI w10M 242 10).toInt = (zI M 242 10).toInt := (congrArg Int32.toInt ((w10F 242 10 rfl).trans rfl)).trans rfl
      have w21 := lin100000
      exact zs_iret (pc := 22) t169_22 mr169 (by decide) (hQ _ _ w10s w10I ((zFr.refl).trans (w10F.mono rfl)) (by omega) (by omega) (by omega) (by omega) (fun _ => w10x0) w10x1 (zSp.fr x4 (fun j => (w10F 250 j rfl)) (w10F 242 10 rfl)))
    · refine zs_if_ltF (pc := 1) t126_1 rfl (by omega) ?_
      refine zs_iload_n (pc := 4) t126_4 rfl ?_
      refine zs_aload_n (pc := 5) t126_5 rfl ?_
      have w22 := ib165_2 w10I
      refine zs_get (pc := 6) t126_6 (by decide) (zk1 (w10s.k fk_zMc_165)) (zfvi rfl rfl) ?_
      by_cases w23 : (zI w10M 165 2).toInt ≤ a.toInt
      · refine zs_icmp_geT (pc := 9) t126_9 rfl rfl (by omega) ?_
        refine zs_aconst_null (pc := 21) t126_21 ?_
        refine zs_aret0 (pc := 22) t126_22 (by rw [mr126]; rfl) ?_
        show zGo X l 1 0 0 163 16 [(0, .ref 164), (1, .int a)] [.null] w10M _
        refine zs_goto (pc := 16) t163_16 ?_
        refine zs_aret0 (pc := 20) t163_20 (by rw [mr163]; rfl) ?_
        show zGo X l 6 0 0 169 15 [(0, .ref 6), (1, .int a), (2, .int b)] [.null] w10M _
        refine zs_astore_n0 (pc := 15) t169_15 (ls' := [(3, .null), (0, .ref 6), (1, .int a), (2, .int b)]) (zml mf169 (by decide)) rfl ?_
        refine zs_aload_n0 (pc := 16) t169_16 rfl ?_
        refine zs_ifnonnullF (pc := 17) t169_17 ?_
        refine zs_ldc (pc := 20) t169_20 (v := -100000) rfl (by decide) ?_
        have w24 : (zI w10M 166 10).toInt = (zI w10M 166 10).toInt := (congrArg Int32.toInt rfl).trans rfl
        have w25 : (zI w10M 242 10).toInt = (zI M 242 10).toInt := (congrArg Int32.toInt ((w10F 242 10 rfl).trans rfl)).trans rfl
        have w26 := lin100000
        exact zs_iret (pc := 22) t169_22 mr169 (by decide) (hQ _ _ w10s w10I ((zFr.refl).trans (w10F.mono rfl)) (by omega) (by omega) (by omega) (by omega) (fun _ => w10x0) w10x1 (zSp.fr x4 (fun j => (w10F 250 j rfl)) (w10F 242 10 rfl)))
      · refine zs_icmp_geF (pc := 9) t126_9 rfl rfl (by omega) ?_
        refine zs_aload_n (pc := 12) t126_12 rfl ?_
        refine zs_get (pc := 13) t126_13 (by decide) (zk1 (w10s.k fk_zMc_165)) (w10s.p rfl fv_zMc_165_1) ?_
        refine zs_iload_n (pc := 16) t126_16 rfl ?_
        obtain ⟨w27n, w27⟩ : ∃ n : Nat, a.toInt = (n : Int) := ⟨(a.toInt).toNat, by omega⟩
        have w28 : w27n < 20 := by omega
        refine zs_aald (pc := 17) t126_17 (j := w27n) (Or.inr (zk1 (w10s.k fk_zMc_179))) (show a.toInt = ((w27n : Nat) : Int) by omega) (zk2 (w10s.k fk_zMc_179) (by omega)) (w10s.a (fpT181 w27n w28)) ?_
        refine zs_goto (pc := 18) t126_18 ?_
        refine zs_aret (pc := 22) t126_22 (by rw [mr126]; rfl) ?_
        show zGo X l 1 0 0 163 16 [(0, .ref 164), (1, .int a)] [.ref (181 + 3 * w27n)] w10M _
        refine zs_goto (pc := 16) t163_16 ?_
        refine zs_aret (pc := 20) t163_20 (by rw [mr163]; rfl) ?_
        show zGo X l 6 0 0 169 15 [(0, .ref 6), (1, .int a), (2, .int b)] [.ref (181 + 3 * w27n)] w10M _
        refine zs_astore_n (pc := 15) t169_15 (ls' := [(3, .ref (181 + 3 * w27n)), (0, .ref 6), (1, .int a), (2, .int b)]) (zml mf169 (by decide)) rfl ?_
        refine zs_aload_n (pc := 16) t169_16 rfl ?_
        refine zs_ifnonnullT (pc := 17) t169_17 ?_
        refine zs_iload_n (pc := 23) t169_23 rfl ?_
        by_cases w29 : b.toInt = 0
        · refine zs_tswI (pc := 24) t169_24 ((rfl : b.toInt = b.toInt).trans w29) (by decide) rfl (pc2 := 76) rfl ?_
          refine zs_aload_n (pc := 76) t169_76 rfl ?_
          have w30 := ibT181_0_0 w10I w28
          refine zs_get (pc := 77) t169_77 (by decide) (zk1 (w10s.k (fT181_0 w27n w28))) (zfvi rfl rfl) ?_
          have w31 : (zI w10M 166 10).toInt = (zI w10M 166 10).toInt := (congrArg Int32.toInt rfl).trans rfl
          have w32 : (zI w10M 242 10).toInt = (zI M 242 10).toInt := (congrArg Int32.toInt ((w10F 242 10 rfl).trans rfl)).trans rfl
          exact zs_iret (pc := 80) t169_80 mr169 rfl (hQ _ _ w10s w10I ((zFr.refl).trans (w10F.mono rfl)) (by omega) (by omega) (by omega) (by omega) (fun _ => w10x0) w10x1 (zSp.fr x4 (fun j => (w10F 250 j rfl)) (w10F 242 10 rfl)))
        by_cases w33 : b.toInt = 1
        · refine zs_tswI (pc := 24) t169_24 ((rfl : b.toInt = b.toInt).trans w33) (by decide) rfl (pc2 := 81) rfl ?_
          refine zs_aload_n (pc := 81) t169_81 rfl ?_
          have w34 := ibT181_0_1 w10I w28
          refine zs_get (pc := 82) t169_82 (by decide) (zk1 (w10s.k (fT181_0 w27n w28))) (zfvi rfl rfl) ?_
          have w35 : (zI w10M 166 10).toInt = (zI w10M 166 10).toInt := (congrArg Int32.toInt rfl).trans rfl
          have w36 : (zI w10M 242 10).toInt = (zI M 242 10).toInt := (congrArg Int32.toInt ((w10F 242 10 rfl).trans rfl)).trans rfl
          exact zs_iret (pc := 85) t169_85 mr169 rfl (hQ _ _ w10s w10I ((zFr.refl).trans (w10F.mono rfl)) (by omega) (by omega) (by omega) (by omega) (fun _ => w10x0) w10x1 (zSp.fr x4 (fun j => (w10F 250 j rfl)) (w10F 242 10 rfl)))
        by_cases w37 : b.toInt = 2
        · refine zs_tswI (pc := 24) t169_24 ((rfl : b.toInt = b.toInt).trans w37) (by decide) rfl (pc2 := 86) rfl ?_
          refine zs_aload_n (pc := 86) t169_86 rfl ?_
          have w38 := zrg (zI w10M (181 + 3 * w27n) 2)
          refine zs_get (pc := 87) t169_87 (by decide) (zk1 (w10s.k (fT181_0 w27n w28))) (zfvi rfl rfl) ?_
          have w39 : (zI w10M 166 10).toInt = (zI w10M 166 10).toInt := (congrArg Int32.toInt rfl).trans rfl
          have w40 : (zI w10M 242 10).toInt = (zI M 242 10).toInt := (congrArg Int32.toInt ((w10F 242 10 rfl).trans rfl)).trans rfl
          exact zs_iret (pc := 90) t169_90 mr169 rfl (hQ _ _ w10s w10I ((zFr.refl).trans (w10F.mono rfl)) (by omega) (by omega) (by omega) (by omega) (fun _ => w10x0) w10x1 (zSp.fr x4 (fun j => (w10F 250 j rfl)) (w10F 242 10 rfl)))
        by_cases w41 : b.toInt = 3
        · refine zs_tswI (pc := 24) t169_24 ((rfl : b.toInt = b.toInt).trans w41) (by decide) rfl (pc2 := 91) rfl ?_
          refine zs_aload_n (pc := 91) t169_91 rfl ?_
          have w42 := zrg (zI w10M (181 + 3 * w27n) 3)
          refine zs_get (pc := 92) t169_92 (by decide) (zk1 (w10s.k (fT181_0 w27n w28))) (zfvi rfl rfl) ?_
          have w43 : (zI w10M 166 10).toInt = (zI w10M 166 10).toInt := (congrArg Int32.toInt rfl).trans rfl
          have w44 : (zI w10M 242 10).toInt = (zI M 242 10).toInt := (congrArg Int32.toInt ((w10F 242 10 rfl).trans rfl)).trans rfl
          exact zs_iret (pc := 95) t169_95 mr169 rfl (hQ _ _ w10s w10I ((zFr.refl).trans (w10F.mono rfl)) (by omega) (by omega) (by omega) (by omega) (fun _ => w10x0) w10x1 (zSp.fr x4 (fun j => (w10F 250 j rfl)) (w10F 242 10 rfl)))
        by_cases w45 : b.toInt = 4
        · refine zs_tswI (pc := 24) t169_24 ((rfl : b.toInt = b.toInt).trans w45) (by decide) rfl (pc2 := 96) rfl ?_
          refine zs_aload_n (pc := 96) t169_96 rfl ?_
          have w46 := zrg (zI w10M (181 + 3 * w27n) 4)
          refine zs_get (pc := 97) t169_97 (by decide) (zk1 (w10s.k (fT181_0 w27n w28))) (zfvi rfl rfl) ?_
          have w47 : (zI w10M 166 10).toInt = (zI w10M 166 10).toInt := (congrArg Int32.toInt rfl).trans rfl
          have w48 : (zI w10M 242 10).toInt = (zI M 242 10).toInt := (congrArg Int32.toInt ((w10F 242 10 rfl).trans rfl)).trans rfl
          exact zs_iret (pc := 100) t169_100 mr169 rfl (hQ _ _ w10s w10I ((zFr.refl).trans (w10F.mono rfl)) (by omega) (by omega) (by omega) (by omega) (fun _ => w10x0) w10x1 (zSp.fr x4 (fun j => (w10F 250 j rfl)) (w10F 242 10 rfl)))
        by_cases w49 : b.toInt = 5
        · refine zs_tswI (pc := 24) t169_24 ((rfl : b.toInt = b.toInt).trans w49) (by decide) rfl (pc2 := 101) rfl ?_
          refine zs_aload_n (pc := 101) t169_101 rfl ?_
          refine zs_invV (pc := 102) (k := (181 + 3 * w27n)) (as' := []) (st := []) t169_102 mf139 rfl rfl (Or.inl ⟨by decide, (zk1 (w10s.k (fT181_0 w27n w28)))⟩) ⟨by decide, by decide, Nat.le_of_ble_eq_true rfl, Nat.le_of_ble_eq_true rfl⟩ (zs_in (by decide) mf139 (Nat.le_of_ble_eq_true rfl) ?_) (fun _ _ q => q)
          show zGo X l 1 0 0 139 0 [(0, .ref (181 + 3 * w27n))] [] w10M _
          refine zs_aload_n (pc := 0) t139_0 rfl ?_
          have w50 := zrg64 (zJ w10M (181 + 3 * w27n) 9)
          refine zs_get (pc := 1) t139_1 (by decide) (zk1 (w10s.k (fT181_0 w27n w28))) (zfvj rfl) ?_
          refine zs_lconst (pc := 4) t139_4 (v := 1) (by decide) ?_
          refine zs_aload_n (pc := 5) t139_5 rfl ?_
          have w51 := zrg64 (zJ w10M (181 + 3 * w27n) 8)
          refine zs_get (pc := 6) t139_6 (by decide) (zk1 (w10s.k (fT181_0 w27n w28))) (zfvj rfl) ?_
          have w52 : (1 : Int64).toInt = 1 := ll1
          refine zs_invS (pc := 9) (as := [.long (1 : Int64), .long (zJ w10M (181 + 3 * w27n) 8)]) (st := [.long (zJ w10M (181 + 3 * w27n) 9)]) t139_9 (by decide) mf134 rfl rfl ⟨by decide, by decide, Nat.le_of_ble_eq_true rfl, Nat.le_of_ble_eq_true rfl⟩ (V134 w10s w10I ?_) (fun _ _ q => q)
          intro w53v w53x0
          have w53g := zrg64 w53v
          have w53g1 : 1 ≤ w53v.toInt := by rw [w53x0]; exact mxL.ge
          show zGo X l 1 0 0 139 12 [(0, .ref (181 + 3 * w27n))] [.long w53v, .long (zJ w10M (181 + 3 * w27n) 9)] w10M _
          refine zs_invS (pc := 12) (as := [.long (zJ w10M (181 + 3 * w27n) 9), .long w53v]) (st := []) t139_12 (by decide) mf140 rfl rfl ⟨by decide, by decide, Nat.le_of_ble_eq_true rfl, Nat.le_of_ble_eq_true rfl⟩ (V140 w10s w10I ⟨by omega, by omega⟩ ?_) (fun _ _ q => q)
          intro w54v w54x0
          have w54g := zrg64 w54v
          show zGo X l 1 0 0 139 15 [(0, .ref (181 + 3 * w27n))] [.long w54v] w10M _
          obtain ⟨w55v, w55⟩ : ∃ v, w54v.toInt32 = v := ⟨_, rfl⟩
          have w55g := zrg w55v
          refine zs_l2i (pc := 15) t139_15 (c := w55v) w55 ?_
          refine zs_iret (pc := 16) t139_16 mr139 rfl ?_
          show zGo X l 6 0 0 169 105 [(3, .ref (181 + 3 * w27n)), (0, .ref 6), (1, .int a), (2, .int b)] [.int w55v] w10M _
          have w56 : (zI w10M 166 10).toInt = (zI w10M 166 10).toInt := (congrArg Int32.toInt rfl).trans rfl
          have w57 : (zI w10M 242 10).toInt = (zI M 242 10).toInt := (congrArg Int32.toInt ((w10F 242 10 rfl).trans rfl)).trans rfl
          exact zs_iret (pc := 105) t169_105 mr169 rfl (hQ _ _ w10s w10I ((zFr.refl).trans (w10F.mono rfl)) (by omega) (by omega) (by omega) (by omega) (fun _ => w10x0) w10x1 (zSp.fr x4 (fun j => (w10F 250 j rfl)) (w10F 242 10 rfl)))
        by_cases w58 : b.toInt = 6
        · refine zs_tswI (pc := 24) t169_24 ((rfl : b.toInt = b.toInt).trans w58) (by decide) rfl (pc2 := 106) rfl ?_
          refine zs_aload_n (pc := 106) t169_106 rfl ?_
          have w59 := zrg (zI w10M (181 + 3 * w27n) 5)
          refine zs_get (pc := 107) t169_107 (by decide) (zk1 (w10s.k (fT181_0 w27n w28))) (zfvi rfl rfl) ?_
          have w60 : (zI w10M 166 10).toInt = (zI w10M 166 10).toInt := (congrArg Int32.toInt rfl).trans rfl
          have w61 : (zI w10M 242 10).toInt = (zI M 242 10).toInt := (congrArg Int32.toInt ((w10F 242 10 rfl).trans rfl)).trans rfl
          exact zs_iret (pc := 110) t169_110 mr169 rfl (hQ _ _ w10s w10I ((zFr.refl).trans (w10F.mono rfl)) (by omega) (by omega) (by omega) (by omega) (fun _ => w10x0) w10x1 (zSp.fr x4 (fun j => (w10F 250 j rfl)) (w10F 242 10 rfl)))
        by_cases w62 : b.toInt = 7
        · refine zs_tswI (pc := 24) t169_24 ((rfl : b.toInt = b.toInt).trans w62) (by decide) rfl (pc2 := 111) rfl ?_
          refine zs_aload_n (pc := 111) t169_111 rfl ?_
          refine zs_get (pc := 112) t169_112 (by decide) (zk1 (w10s.k fk_zMc_6)) (w10s.p rfl fv_zMc_6_6) ?_
          refine zs_iload_n (pc := 115) t169_115 rfl ?_
          refine zs_invV (pc := 116) (k := 164) (as' := [.int a]) (st := []) t169_116 mf170 rfl rfl (Or.inl ⟨by decide, (zk1 (w10s.k fk_zMc_164))⟩) ⟨by decide, by decide, Nat.le_of_ble_eq_true rfl, Nat.le_of_ble_eq_true rfl⟩ (zs_in (by decide) mf170 (Nat.le_of_ble_eq_true rfl) ?_) (fun _ _ q => q)
          show zGo X l 3 0 0 170 0 [(0, .ref 164), (1, .int a)] [] w10M _
          refine zs_aload_n (pc := 0) t170_0 rfl ?_
          refine zs_aload_n (pc := 1) t170_1 rfl ?_
          refine zs_iload_n (pc := 2) t170_2 rfl ?_
          refine zs_invV (pc := 3) (k := 164) (as' := [.int a]) (st := [.ref 164]) t170_3 mf171 rfl rfl (Or.inl ⟨by decide, (zk1 (w10s.k fk_zMc_164))⟩) ⟨by decide, by decide, Nat.le_of_ble_eq_true rfl, Nat.le_of_ble_eq_true rfl⟩ (C171_164 w10s w10I ?_) (fun _ _ q => q)
          intro w63v w63a w63b
          show zGo X l 3 0 0 170 6 [(0, .ref 164), (1, .int a)] [.int w63v, .ref 164] w10M _
          refine zs_iload_n (pc := 6) t170_6 rfl ?_
          refine zs_invV (pc := 7) (k := 164) (as' := [.int w63v, .int a]) (st := []) t170_7 mf146 rfl rfl (Or.inl ⟨by decide, (zk1 (w10s.k fk_zMc_164))⟩) ⟨by decide, by decide, Nat.le_of_ble_eq_true rfl, Nat.le_of_ble_eq_true rfl⟩ (C146_164 w10s w10I ?_) (fun _ _ q => q)
          intro w64v w64a w64b
          show zGo X l 3 0 0 170 10 [(0, .ref 164), (1, .int a)] [.int w64v] w10M _
          refine zs_iret (pc := 10) t170_10 mr170 rfl ?_
          show zGo X l 6 0 0 169 119 [(3, .ref (181 + 3 * w27n)), (0, .ref 6), (1, .int a), (2, .int b)] [.int w64v] w10M _
          have w65 : (zI w10M 166 10).toInt = (zI w10M 166 10).toInt := (congrArg Int32.toInt rfl).trans rfl
          have w66 : (zI w10M 242 10).toInt = (zI M 242 10).toInt := (congrArg Int32.toInt ((w10F 242 10 rfl).trans rfl)).trans rfl
          exact zs_iret (pc := 119) t169_119 mr169 rfl (hQ _ _ w10s w10I ((zFr.refl).trans (w10F.mono rfl)) (by omega) (by omega) (by omega) (by omega) (fun _ => w10x0) w10x1 (zSp.fr x4 (fun j => (w10F 250 j rfl)) (w10F 242 10 rfl)))
        by_cases w67 : b.toInt = 8
        · refine zs_tswI (pc := 24) t169_24 ((rfl : b.toInt = b.toInt).trans w67) (by decide) rfl (pc2 := 120) rfl ?_
          refine zs_aload_n (pc := 120) t169_120 rfl ?_
          refine zs_get (pc := 121) t169_121 (by decide) (zk1 (w10s.k fk_zMc_6)) (w10s.p rfl fv_zMc_6_6) ?_
          refine zs_iload_n (pc := 124) t169_124 rfl ?_
          refine zs_invV (pc := 125) (k := 164) (as' := [.int a]) (st := []) t169_125 mf171 rfl rfl (Or.inl ⟨by decide, (zk1 (w10s.k fk_zMc_164))⟩) ⟨by decide, by decide, Nat.le_of_ble_eq_true rfl, Nat.le_of_ble_eq_true rfl⟩ (C171_164 w10s w10I ?_) (fun _ _ q => q)
          intro w68v w68a w68b
          show zGo X l 6 0 0 169 128 [(3, .ref (181 + 3 * w27n)), (0, .ref 6), (1, .int a), (2, .int b)] [.int w68v] w10M _
          have w69 : (zI w10M 166 10).toInt = (zI w10M 166 10).toInt := (congrArg Int32.toInt rfl).trans rfl
          have w70 : (zI w10M 242 10).toInt = (zI M 242 10).toInt := (congrArg Int32.toInt ((w10F 242 10 rfl).trans rfl)).trans rfl
          exact zs_iret (pc := 128) t169_128 mr169 rfl (hQ _ _ w10s w10I ((zFr.refl).trans (w10F.mono rfl)) (by omega) (by omega) (by omega) (by omega) (fun _ => w10x0) w10x1 (zSp.fr x4 (fun j => (w10F 250 j rfl)) (w10F 242 10 rfl)))
        refine zs_tswD (pc := 24) t169_24 rfl (by omega) (pc2 := 129) rfl ?_
        refine zs_ldc (pc := 129) t169_129 (v := -100000) rfl (by decide) ?_
        have w71 : (zI w10M 166 10).toInt = (zI w10M 166 10).toInt := (congrArg Int32.toInt rfl).trans rfl
        have w72 : (zI w10M 242 10).toInt = (zI M 242 10).toInt := (congrArg Int32.toInt ((w10F 242 10 rfl).trans rfl)).trans rfl
        have w73 := lin100000
        exact zs_iret (pc := 131) t169_131 mr169 (by decide) (hQ _ _ w10s w10I ((zFr.refl).trans (w10F.mono rfl)) (by omega) (by omega) (by omega) (by omega) (fun _ => w10x0) w10x1 (zSp.fr x4 (fun j => (w10F 250 j rfl)) (w10F 242 10 rfl)))
theorem P172 {X : zX} {l : Launch} {M : zM} {Q : Option Value → zM → Prop} {a b : Int32} (hs : zSk zMc M) (hI : zIv cLo cHi M) {F : Nat → Int} (u0 : (zI M 166 10).toInt ≤ 1600000000) (u1 : 0 ≤ (zI M 166 10).toInt) (u2 : (zI M 242 10).toInt ≤ 1600000000) (u3 : 0 ≤ (zI M 242 10).toInt) (x0 : zSo M 7 F) (x1 : zWF F) (x2 : zKnA M F) (x3 : zSp M 166 174) (x4 : zSp M 242 250) (hQ : ∀ (M' : zM) (v : Int32), zSk zMc M' → zIv cLo cHi M' → zFr [(164, 165, none), (166, 178, none), (180, 180, none), (181, 240, none), (317, 324, none)] M M' → ((zI M' 166 10).toInt ≤ (zI M 166 10).toInt + 20000) → ((zI M 166 10).toInt ≤ (zI M' 166 10).toInt) → ((zI M' 242 10).toInt ≤ (zI M 242 10).toInt + 20000) → ((zI M 242 10).toInt ≤ (zI M' 242 10).toInt) → (zKnA M' F) → (zSp M' 166 174) → (zSp M' 242 250) → Q (some (.int v)) M') : zCall X l 6 0 0 172 [.ref 6, .int a, .int b] M Q := by
  have ga := zrg a
  have gb := zrg b
  refine zs_in (by decide) mf172 (Nat.le_of_ble_eq_true rfl) ?_
  show zGo X l 6 0 0 172 0 [(0, .ref 6), (1, .int a), (2, .int b)] [] M _
  have f0 := x0.1
  have w1 := ib7_0 hI
  have w2 : (zI M 7 0).toInt = (zI M 7 0).toInt := (congrArg Int32.toInt rfl).trans rfl
  have w3 := ib7_3 hI
  have w4 : (zI M 7 3).toInt = (zI M 7 3).toInt := (congrArg Int32.toInt rfl).trans rfl
  have w5 := ib7_8 hI
  have w6 : (zI M 7 8).toInt = (zI M 7 8).toInt := (congrArg Int32.toInt rfl).trans rfl
  have f1 := x1.1
  have f3 := x1.2.2.2
  have f2 := (show (zI M 7 0).toInt = F 0 ∧ (zI M 7 3).toInt = F 1 ∧ (zI M 7 8).toInt = F 2 from ⟨x0.1.1, x0.1.2.1, x0.1.2.2.1⟩)
  refine zs_aload_n (pc := 0) t172_0 rfl ?_
  refine zs_get (pc := 1) t172_1 (by decide) (zk1 (hs.k fk_zMc_6)) (hs.p rfl fv_zMc_6_6) ?_
  refine zs_aload_n (pc := 4) t172_4 rfl ?_
  refine zs_get (pc := 5) t172_5 (by decide) (zk1 (hs.k fk_zMc_6)) (hs.p rfl fv_zMc_6_0) ?_
  have w7 := zrg (zI M 166 10)
  have w8 : (zI M 166 10).toInt = (zI M 166 10).toInt := (congrArg Int32.toInt rfl).trans rfl
  have w9 : (zI M 166 10).toInt = (zI M 166 10).toInt := (congrArg Int32.toInt rfl).trans rfl
  refine zs_invV (pc := 8) (k := 164) (as' := [.ref 7]) (st := []) t172_8 mf105 rfl rfl (Or.inl ⟨by decide, (zk1 (hs.k fk_zMc_164))⟩) ⟨by decide, by decide, Nat.le_of_ble_eq_true rfl, Nat.le_of_ble_eq_true rfl⟩ (V105 hs hI (by omega) (by omega) x0 x1 x2 x3 ?_) (fun _ _ q => q)
  intro w10M w10s w10I w10F w10t0 w10t1 w10x0 w10x1 w10x2
  have w11 := zrg (zI w10M 166 10)
  show zGo X l 6 0 0 172 11 [(0, .ref 6), (1, .int a), (2, .int b)] [.ref 164] w10M _
  refine zs_iload_n (pc := 11) t172_11 rfl ?_
  refine zs_invV (pc := 12) (k := 164) (as' := [.int a]) (st := []) t172_12 mf163 rfl rfl (Or.inl ⟨by decide, (zk1 (w10s.k fk_zMc_164))⟩) ⟨by decide, by decide, Nat.le_of_ble_eq_true rfl, Nat.le_of_ble_eq_true rfl⟩ (zs_in (by decide) mf163 (Nat.le_of_ble_eq_true rfl) ?_) (fun _ _ q => q)
  show zGo X l 1 0 0 163 0 [(0, .ref 164), (1, .int a)] [] w10M _
  refine zs_iload_n (pc := 0) t163_0 rfl ?_
  refine zs_aload_n (pc := 1) t163_1 rfl ?_
  have w12 := ib164_4 w10I
  refine zs_get (pc := 2) t163_2 (by decide) (zk1 (w10s.k fk_zMc_164)) (zfvi rfl rfl) ?_
  by_cases w13 : (zI w10M 164 4).toInt ≤ a.toInt
  · refine zs_icmp_geT (pc := 5) t163_5 rfl rfl (by omega) ?_
    refine zs_aconst_null (pc := 19) t163_19 ?_
    refine zs_aret0 (pc := 20) t163_20 (by rw [mr163]; rfl) ?_
    show zGo X l 6 0 0 172 15 [(0, .ref 6), (1, .int a), (2, .int b)] [.null] w10M _
    refine zs_astore_n0 (pc := 15) t172_15 (ls' := [(3, .null), (0, .ref 6), (1, .int a), (2, .int b)]) (zml mf172 (by decide)) rfl ?_
    refine zs_aload_n0 (pc := 16) t172_16 rfl ?_
    refine zs_ifnullT (pc := 17) t172_17 ?_
    refine zs_iconst (pc := 31) t172_31 (v := -1) (by decide) ?_
    refine zs_goto (pc := 32) t172_32 ?_
    have w14 : (zI w10M 166 10).toInt = (zI w10M 166 10).toInt := (congrArg Int32.toInt rfl).trans rfl
    have w15 := zrg (zI M 242 10)
    have w16 : (zI w10M 242 10).toInt = (zI M 242 10).toInt := (congrArg Int32.toInt ((w10F 242 10 rfl).trans rfl)).trans rfl
    have w17 := lin1
    exact zs_iret (pc := 41) t172_41 mr172 (by decide) (hQ _ _ w10s w10I ((zFr.refl).trans (w10F.mono rfl)) (by omega) (by omega) (by omega) (by omega) (fun _ => w10x0) w10x1 (zSp.fr x4 (fun j => (w10F 250 j rfl)) (w10F 242 10 rfl)))
  · refine zs_icmp_geF (pc := 5) t163_5 rfl rfl (by omega) ?_
    refine zs_aload_n (pc := 8) t163_8 rfl ?_
    refine zs_get (pc := 9) t163_9 (by decide) (zk1 (w10s.k fk_zMc_164)) (w10s.p rfl fv_zMc_164_1) ?_
    refine zs_iload_n (pc := 12) t163_12 rfl ?_
    refine zs_invV (pc := 13) (k := 165) (as' := [.int a]) (st := []) t163_13 mf126 rfl rfl (Or.inl ⟨by decide, (zk1 (w10s.k fk_zMc_165))⟩) ⟨by decide, by decide, Nat.le_of_ble_eq_true rfl, Nat.le_of_ble_eq_true rfl⟩ (zs_in (by decide) mf126 (Nat.le_of_ble_eq_true rfl) ?_) (fun _ _ q => q)
    show zGo X l 0 0 0 126 0 [(0, .ref 165), (1, .int a)] [] w10M _
    refine zs_iload_n (pc := 0) t126_0 rfl ?_
    by_cases w18 : a.toInt < 0
    · refine zs_if_ltT (pc := 1) t126_1 rfl (by omega) ?_
      refine zs_aconst_null (pc := 21) t126_21 ?_
      refine zs_aret0 (pc := 22) t126_22 (by rw [mr126]; rfl) ?_
      show zGo X l 1 0 0 163 16 [(0, .ref 164), (1, .int a)] [.null] w10M _
      refine zs_goto (pc := 16) t163_16 ?_
      refine zs_aret0 (pc := 20) t163_20 (by rw [mr163]; rfl) ?_
      show zGo X l 6 0 0 172 15 [(0, .ref 6), (1, .int a), (2, .int b)] [.null] w10M _
      refine zs_astore_n0 (pc := 15) t172_15 (ls' := [(3, .null), (0, .ref 6), (1, .int a), (2, .int b)]) (zml mf172 (by decide)) rfl ?_
      refine zs_aload_n0 (pc := 16) t172_16 rfl ?_
      refine zs_ifnullT (pc := 17) t172_17 ?_
      refine zs_iconst (pc := 31) t172_31 (v := -1) (by decide) ?_
      refine zs_goto (pc := 32) t172_32 ?_
      have w19 : (zI w10M 166 10).toInt = (zI w10M 166 10).toInt := (congrArg Int32.toInt rfl).trans rfl
      have w20 : (zI w10M 242 10).toInt = (zI M 242 10).toInt := (congrArg Int32.toInt ((w10F 242 10 rfl).trans rfl)).trans rfl
      have w21 := lin1
      exact zs_iret (pc := 41) t172_41 mr172 (by decide) (hQ _ _ w10s w10I ((zFr.refl).trans (w10F.mono rfl)) (by omega) (by omega) (by omega) (by omega) (fun _ => w10x0) w10x1 (zSp.fr x4 (fun j => (w10F 250 j rfl)) (w10F 242 10 rfl)))
    · refine zs_if_ltF (pc := 1) t126_1 rfl (by omega) ?_
      refine zs_iload_n (pc := 4) t126_4 rfl ?_
      refine zs_aload_n (pc := 5) t126_5 rfl ?_
      have w22 := ib165_2 w10I
      refine zs_get (pc := 6) t126_6 (by decide) (zk1 (w10s.k fk_zMc_165)) (zfvi rfl rfl) ?_
      by_cases w23 : (zI w10M 165 2).toInt ≤ a.toInt
      · refine zs_icmp_geT (pc := 9) t126_9 rfl rfl (by omega) ?_
        refine zs_aconst_null (pc := 21) t126_21 ?_
        refine zs_aret0 (pc := 22) t126_22 (by rw [mr126]; rfl) ?_
        show zGo X l 1 0 0 163 16 [(0, .ref 164), (1, .int a)] [.null] w10M _
        refine zs_goto (pc := 16) t163_16 ?_
        refine zs_aret0 (pc := 20) t163_20 (by rw [mr163]; rfl) ?_
        show zGo X l 6 0 0 172 15 [(0, .ref 6), (1, .int a), (2, .int b)] [.null] w10M _
        refine zs_astore_n0 (pc := 15) t172_15 (ls' := [(3, .null), (0, .ref 6), (1, .int a), (2, .int b)]) (zml mf172 (by decide)) rfl ?_
        refine zs_aload_n0 (pc := 16) t172_16 rfl ?_
        refine zs_ifnullT (pc := 17) t172_17 ?_
        refine zs_iconst (pc := 31) t172_31 (v := -1) (by decide) ?_
        refine zs_goto (pc := 32) t172_32 ?_
        have w24 : (zI w10M 166 10).toInt = (zI w10M 166 10).toInt := (congrArg Int32.toInt rfl).trans rfl
        have w25 : (zI w10M 242 10).toInt = (zI M 242 10).toInt := (congrArg Int32.toInt ((w10F 242 10 rfl).trans rfl)).trans rfl
        have w26 := lin1
        exact zs_iret (pc := 41) t172_41 mr172 (by decide) (hQ _ _ w10s w10I ((zFr.refl).trans (w10F.mono rfl)) (by omega) (by omega) (by omega) (by omega) (fun _ => w10x0) w10x1 (zSp.fr x4 (fun j => (w10F 250 j rfl)) (w10F 242 10 rfl)))
      · refine zs_icmp_geF (pc := 9) t126_9 rfl rfl (by omega) ?_
        refine zs_aload_n (pc := 12) t126_12 rfl ?_
        refine zs_get (pc := 13) t126_13 (by decide) (zk1 (w10s.k fk_zMc_165)) (w10s.p rfl fv_zMc_165_1) ?_
        refine zs_iload_n (pc := 16) t126_16 rfl ?_
        obtain ⟨w27n, w27⟩ : ∃ n : Nat, a.toInt = (n : Int) := ⟨(a.toInt).toNat, by omega⟩
        have w28 : w27n < 20 := by omega
        refine zs_aald (pc := 17) t126_17 (j := w27n) (Or.inr (zk1 (w10s.k fk_zMc_179))) (show a.toInt = ((w27n : Nat) : Int) by omega) (zk2 (w10s.k fk_zMc_179) (by omega)) (w10s.a (fpT181 w27n w28)) ?_
        refine zs_goto (pc := 18) t126_18 ?_
        refine zs_aret (pc := 22) t126_22 (by rw [mr126]; rfl) ?_
        show zGo X l 1 0 0 163 16 [(0, .ref 164), (1, .int a)] [.ref (181 + 3 * w27n)] w10M _
        refine zs_goto (pc := 16) t163_16 ?_
        refine zs_aret (pc := 20) t163_20 (by rw [mr163]; rfl) ?_
        show zGo X l 6 0 0 172 15 [(0, .ref 6), (1, .int a), (2, .int b)] [.ref (181 + 3 * w27n)] w10M _
        refine zs_astore_n (pc := 15) t172_15 (ls' := [(3, .ref (181 + 3 * w27n)), (0, .ref 6), (1, .int a), (2, .int b)]) (zml mf172 (by decide)) rfl ?_
        refine zs_aload_n (pc := 16) t172_16 rfl ?_
        refine zs_ifnullF (pc := 17) t172_17 ?_
        refine zs_aload_n (pc := 20) t172_20 rfl ?_
        refine zs_get (pc := 21) t172_21 (by decide) (zk1 (w10s.k fk_zMc_6)) (w10s.p rfl fv_zMc_6_0) ?_
        refine zs_iload_n (pc := 24) t172_24 rfl ?_
        refine zs_invV (pc := 25) (k := 7) (as' := [.int b]) (st := []) t172_25 mf41 rfl rfl (Or.inl ⟨by decide, (zk1 (w10s.k fk_zMc_7))⟩) ⟨by decide, by decide, Nat.le_of_ble_eq_true rfl, Nat.le_of_ble_eq_true rfl⟩ (zs_in (by decide) mf41 (Nat.le_of_ble_eq_true rfl) ?_) (fun _ _ q => q)
        show zGo X l 0 0 0 41 0 [(0, .ref 7), (1, .int b)] [] w10M _
        refine zs_iload_n (pc := 0) t41_0 rfl ?_
        by_cases w29 : b.toInt < 0
        · refine zs_if_ltT (pc := 1) t41_1 rfl (by omega) ?_
          refine zs_iconst (pc := 16) t41_16 (v := 0) (by decide) ?_
          refine zs_iret (pc := 17) t41_17 mr41 (by decide) ?_
          show zGo X l 6 0 0 172 28 [(3, .ref (181 + 3 * w27n)), (0, .ref 6), (1, .int a), (2, .int b)] [.int (0 : Int32)] w10M _
          refine zs_if_neF (pc := 28) t172_28 li0 (by decide) ?_
          refine zs_iconst (pc := 31) t172_31 (v := -1) (by decide) ?_
          refine zs_goto (pc := 32) t172_32 ?_
          have w30 : (zI w10M 166 10).toInt = (zI w10M 166 10).toInt := (congrArg Int32.toInt rfl).trans rfl
          have w31 : (zI w10M 242 10).toInt = (zI M 242 10).toInt := (congrArg Int32.toInt ((w10F 242 10 rfl).trans rfl)).trans rfl
          have w32 := lin1
          exact zs_iret (pc := 41) t172_41 mr172 (by decide) (hQ _ _ w10s w10I ((zFr.refl).trans (w10F.mono rfl)) (by omega) (by omega) (by omega) (by omega) (fun _ => w10x0) w10x1 (zSp.fr x4 (fun j => (w10F 250 j rfl)) (w10F 242 10 rfl)))
        · refine zs_if_ltF (pc := 1) t41_1 rfl (by omega) ?_
          refine zs_iload_n (pc := 4) t41_4 rfl ?_
          refine zs_aload_n (pc := 5) t41_5 rfl ?_
          refine zs_get (pc := 6) t41_6 (by decide) (zk1 (w10s.k fk_zMc_7)) (zfvi rfl ((w10F 7 0 rfl).trans rfl)) ?_
          by_cases w33 : (zI M 7 0).toInt ≤ b.toInt
          · refine zs_icmp_geT (pc := 9) t41_9 rfl rfl (by omega) ?_
            refine zs_iconst (pc := 16) t41_16 (v := 0) (by decide) ?_
            refine zs_iret (pc := 17) t41_17 mr41 (by decide) ?_
            show zGo X l 6 0 0 172 28 [(3, .ref (181 + 3 * w27n)), (0, .ref 6), (1, .int a), (2, .int b)] [.int (0 : Int32)] w10M _
            refine zs_if_neF (pc := 28) t172_28 li0 (by decide) ?_
            refine zs_iconst (pc := 31) t172_31 (v := -1) (by decide) ?_
            refine zs_goto (pc := 32) t172_32 ?_
            have w34 : (zI w10M 166 10).toInt = (zI w10M 166 10).toInt := (congrArg Int32.toInt rfl).trans rfl
            have w35 : (zI w10M 242 10).toInt = (zI M 242 10).toInt := (congrArg Int32.toInt ((w10F 242 10 rfl).trans rfl)).trans rfl
            have w36 := lin1
            exact zs_iret (pc := 41) t172_41 mr172 (by decide) (hQ _ _ w10s w10I ((zFr.refl).trans (w10F.mono rfl)) (by omega) (by omega) (by omega) (by omega) (fun _ => w10x0) w10x1 (zSp.fr x4 (fun j => (w10F 250 j rfl)) (w10F 242 10 rfl)))
          · refine zs_icmp_geF (pc := 9) t41_9 rfl rfl (by omega) ?_
            refine zs_iconst (pc := 12) t41_12 (v := 1) (by decide) ?_
            refine zs_goto (pc := 13) t41_13 ?_
            refine zs_iret (pc := 17) t41_17 mr41 (by decide) ?_
            show zGo X l 6 0 0 172 28 [(3, .ref (181 + 3 * w27n)), (0, .ref 6), (1, .int a), (2, .int b)] [.int (1 : Int32)] w10M _
            refine zs_if_neT (pc := 28) t172_28 li1 (by decide) ?_
            refine zs_aload_n (pc := 35) t172_35 rfl ?_
            refine zs_get (pc := 36) t172_36 (by decide) (zk1 (w10s.k (fT181_0 w27n w28))) (w10s.p rfl (fvT181_6 w27n w28)) ?_
            refine zs_iload_n (pc := 39) t172_39 rfl ?_
            obtain ⟨w37n, w37⟩ : ∃ n : Nat, b.toInt = (n : Int) := ⟨(b.toInt).toNat, by omega⟩
            have w38 := ibT181_1 w10I w28 w37n
            refine zs_iald (pc := 40) t172_40 (j := w37n) (by omega) (zk1 (w10s.k (fT181_1 w27n w28))) (show b.toInt = ((w37n : Nat) : Int) by omega) (zk2 (w10s.k (fT181_1 w27n w28)) (by omega)) rfl ?_
            have w39 : (zI w10M 166 10).toInt = (zI w10M 166 10).toInt := (congrArg Int32.toInt rfl).trans rfl
            have w40 : (zI w10M 242 10).toInt = (zI M 242 10).toInt := (congrArg Int32.toInt ((w10F 242 10 rfl).trans rfl)).trans rfl
            exact zs_iret (pc := 41) t172_41 mr172 rfl (hQ _ _ w10s w10I ((zFr.refl).trans (w10F.mono rfl)) (by omega) (by omega) (by omega) (by omega) (fun _ => w10x0) w10x1 (zSp.fr x4 (fun j => (w10F 250 j rfl)) (w10F 242 10 rfl)))
theorem P173 {X : zX} {l : Launch} {M : zM} {Q : Option Value → zM → Prop} {a b : Int32} (hs : zSk zMc M) (hI : zIv cLo cHi M) {F : Nat → Int} (u0 : (zI M 166 10).toInt ≤ 1600000000) (u1 : 0 ≤ (zI M 166 10).toInt) (u2 : (zI M 242 10).toInt ≤ 1600000000) (u3 : 0 ≤ (zI M 242 10).toInt) (x0 : zSo M 7 F) (x1 : zWF F) (x2 : zKnA M F) (x3 : zSp M 166 174) (x4 : zSp M 242 250) (hQ : ∀ (M' : zM) (v : Int64), zSk zMc M' → zIv cLo cHi M' → zFr [(164, 165, none), (166, 178, none), (180, 180, none), (181, 240, none), (317, 324, none)] M M' → ((zI M' 166 10).toInt ≤ (zI M 166 10).toInt + 20000) → ((zI M 166 10).toInt ≤ (zI M' 166 10).toInt) → ((zI M' 242 10).toInt ≤ (zI M 242 10).toInt + 20000) → ((zI M 242 10).toInt ≤ (zI M' 242 10).toInt) → (zKnA M' F) → (zSp M' 166 174) → (zSp M' 242 250) → Q (some (.long v)) M') : zCall X l 6 0 0 173 [.ref 6, .int a, .int b] M Q := by
  have ga := zrg a
  have gb := zrg b
  refine zs_in (by decide) mf173 (Nat.le_of_ble_eq_true rfl) ?_
  show zGo X l 6 0 0 173 0 [(0, .ref 6), (1, .int a), (2, .int b)] [] M _
  have f0 := x0.1
  have w1 := ib7_0 hI
  have w2 : (zI M 7 0).toInt = (zI M 7 0).toInt := (congrArg Int32.toInt rfl).trans rfl
  have w3 := ib7_3 hI
  have w4 : (zI M 7 3).toInt = (zI M 7 3).toInt := (congrArg Int32.toInt rfl).trans rfl
  have w5 := ib7_8 hI
  have w6 : (zI M 7 8).toInt = (zI M 7 8).toInt := (congrArg Int32.toInt rfl).trans rfl
  have f1 := x1.1
  have f3 := x1.2.2.2
  have f2 := (show (zI M 7 0).toInt = F 0 ∧ (zI M 7 3).toInt = F 1 ∧ (zI M 7 8).toInt = F 2 from ⟨x0.1.1, x0.1.2.1, x0.1.2.2.1⟩)
  refine zs_aload_n (pc := 0) t173_0 rfl ?_
  refine zs_get (pc := 1) t173_1 (by decide) (zk1 (hs.k fk_zMc_6)) (hs.p rfl fv_zMc_6_6) ?_
  refine zs_aload_n (pc := 4) t173_4 rfl ?_
  refine zs_get (pc := 5) t173_5 (by decide) (zk1 (hs.k fk_zMc_6)) (hs.p rfl fv_zMc_6_0) ?_
  have w7 := zrg (zI M 166 10)
  have w8 : (zI M 166 10).toInt = (zI M 166 10).toInt := (congrArg Int32.toInt rfl).trans rfl
  have w9 : (zI M 166 10).toInt = (zI M 166 10).toInt := (congrArg Int32.toInt rfl).trans rfl
  refine zs_invV (pc := 8) (k := 164) (as' := [.ref 7]) (st := []) t173_8 mf105 rfl rfl (Or.inl ⟨by decide, (zk1 (hs.k fk_zMc_164))⟩) ⟨by decide, by decide, Nat.le_of_ble_eq_true rfl, Nat.le_of_ble_eq_true rfl⟩ (V105 hs hI (by omega) (by omega) x0 x1 x2 x3 ?_) (fun _ _ q => q)
  intro w10M w10s w10I w10F w10t0 w10t1 w10x0 w10x1 w10x2
  have w11 := zrg (zI w10M 166 10)
  show zGo X l 6 0 0 173 11 [(0, .ref 6), (1, .int a), (2, .int b)] [.ref 164] w10M _
  refine zs_iload_n (pc := 11) t173_11 rfl ?_
  refine zs_invV (pc := 12) (k := 164) (as' := [.int a]) (st := []) t173_12 mf163 rfl rfl (Or.inl ⟨by decide, (zk1 (w10s.k fk_zMc_164))⟩) ⟨by decide, by decide, Nat.le_of_ble_eq_true rfl, Nat.le_of_ble_eq_true rfl⟩ (zs_in (by decide) mf163 (Nat.le_of_ble_eq_true rfl) ?_) (fun _ _ q => q)
  show zGo X l 1 0 0 163 0 [(0, .ref 164), (1, .int a)] [] w10M _
  refine zs_iload_n (pc := 0) t163_0 rfl ?_
  refine zs_aload_n (pc := 1) t163_1 rfl ?_
  have w12 := ib164_4 w10I
  refine zs_get (pc := 2) t163_2 (by decide) (zk1 (w10s.k fk_zMc_164)) (zfvi rfl rfl) ?_
  by_cases w13 : (zI w10M 164 4).toInt ≤ a.toInt
  · refine zs_icmp_geT (pc := 5) t163_5 rfl rfl (by omega) ?_
    refine zs_aconst_null (pc := 19) t163_19 ?_
    refine zs_aret0 (pc := 20) t163_20 (by rw [mr163]; rfl) ?_
    show zGo X l 6 0 0 173 15 [(0, .ref 6), (1, .int a), (2, .int b)] [.null] w10M _
    refine zs_astore_n0 (pc := 15) t173_15 (ls' := [(3, .null), (0, .ref 6), (1, .int a), (2, .int b)]) (zml mf173 (by decide)) rfl ?_
    refine zs_aload_n0 (pc := 16) t173_16 rfl ?_
    refine zs_ifnonnullF (pc := 17) t173_17 ?_
    refine zs_ldc2_w (pc := 20) t173_20 (v := -1000000000000) (by decide) ?_
    have w14 : (zI w10M 166 10).toInt = (zI w10M 166 10).toInt := (congrArg Int32.toInt rfl).trans rfl
    have w15 := zrg (zI M 242 10)
    have w16 : (zI w10M 242 10).toInt = (zI M 242 10).toInt := (congrArg Int32.toInt ((w10F 242 10 rfl).trans rfl)).trans rfl
    have w17 := lln1000000000000
    exact zs_lret (pc := 23) t173_23 mr173 (hQ _ _ w10s w10I ((zFr.refl).trans (w10F.mono rfl)) (by omega) (by omega) (by omega) (by omega) (fun _ => w10x0) w10x1 (zSp.fr x4 (fun j => (w10F 250 j rfl)) (w10F 242 10 rfl)))
  · refine zs_icmp_geF (pc := 5) t163_5 rfl rfl (by omega) ?_
    refine zs_aload_n (pc := 8) t163_8 rfl ?_
    refine zs_get (pc := 9) t163_9 (by decide) (zk1 (w10s.k fk_zMc_164)) (w10s.p rfl fv_zMc_164_1) ?_
    refine zs_iload_n (pc := 12) t163_12 rfl ?_
    refine zs_invV (pc := 13) (k := 165) (as' := [.int a]) (st := []) t163_13 mf126 rfl rfl (Or.inl ⟨by decide, (zk1 (w10s.k fk_zMc_165))⟩) ⟨by decide, by decide, Nat.le_of_ble_eq_true rfl, Nat.le_of_ble_eq_true rfl⟩ (zs_in (by decide) mf126 (Nat.le_of_ble_eq_true rfl) ?_) (fun _ _ q => q)
    show zGo X l 0 0 0 126 0 [(0, .ref 165), (1, .int a)] [] w10M _
    refine zs_iload_n (pc := 0) t126_0 rfl ?_
    by_cases w18 : a.toInt < 0
    · refine zs_if_ltT (pc := 1) t126_1 rfl (by omega) ?_
      refine zs_aconst_null (pc := 21) t126_21 ?_
      refine zs_aret0 (pc := 22) t126_22 (by rw [mr126]; rfl) ?_
      show zGo X l 1 0 0 163 16 [(0, .ref 164), (1, .int a)] [.null] w10M _
      refine zs_goto (pc := 16) t163_16 ?_
      refine zs_aret0 (pc := 20) t163_20 (by rw [mr163]; rfl) ?_
      show zGo X l 6 0 0 173 15 [(0, .ref 6), (1, .int a), (2, .int b)] [.null] w10M _
      refine zs_astore_n0 (pc := 15) t173_15 (ls' := [(3, .null), (0, .ref 6), (1, .int a), (2, .int b)]) (zml mf173 (by decide)) rfl ?_
      refine zs_aload_n0 (pc := 16) t173_16 rfl ?_
      refine zs_ifnonnullF (pc := 17) t173_17 ?_
      refine zs_ldc2_w (pc := 20) t173_20 (v := -1000000000000) (by decide) ?_
      have w19 : (zI w10M 166 10).toInt = (zI w10M 166 10).toInt := (congrArg Int32.toInt rfl).trans rfl
      have w20 : (zI w10M 242 10).toInt = (zI M 242 10).toInt := (congrArg Int32.toInt ((w10F 242 10 rfl).trans rfl)).trans rfl
      have w21 := lln1000000000000
      exact zs_lret (pc := 23) t173_23 mr173 (hQ _ _ w10s w10I ((zFr.refl).trans (w10F.mono rfl)) (by omega) (by omega) (by omega) (by omega) (fun _ => w10x0) w10x1 (zSp.fr x4 (fun j => (w10F 250 j rfl)) (w10F 242 10 rfl)))
    · refine zs_if_ltF (pc := 1) t126_1 rfl (by omega) ?_
      refine zs_iload_n (pc := 4) t126_4 rfl ?_
      refine zs_aload_n (pc := 5) t126_5 rfl ?_
      have w22 := ib165_2 w10I
      refine zs_get (pc := 6) t126_6 (by decide) (zk1 (w10s.k fk_zMc_165)) (zfvi rfl rfl) ?_
      by_cases w23 : (zI w10M 165 2).toInt ≤ a.toInt
      · refine zs_icmp_geT (pc := 9) t126_9 rfl rfl (by omega) ?_
        refine zs_aconst_null (pc := 21) t126_21 ?_
        refine zs_aret0 (pc := 22) t126_22 (by rw [mr126]; rfl) ?_
        show zGo X l 1 0 0 163 16 [(0, .ref 164), (1, .int a)] [.null] w10M _
        refine zs_goto (pc := 16) t163_16 ?_
        refine zs_aret0 (pc := 20) t163_20 (by rw [mr163]; rfl) ?_
        show zGo X l 6 0 0 173 15 [(0, .ref 6), (1, .int a), (2, .int b)] [.null] w10M _
        refine zs_astore_n0 (pc := 15) t173_15 (ls' := [(3, .null), (0, .ref 6), (1, .int a), (2, .int b)]) (zml mf173 (by decide)) rfl ?_
        refine zs_aload_n0 (pc := 16) t173_16 rfl ?_
        refine zs_ifnonnullF (pc := 17) t173_17 ?_
        refine zs_ldc2_w (pc := 20) t173_20 (v := -1000000000000) (by decide) ?_
        have w24 : (zI w10M 166 10).toInt = (zI w10M 166 10).toInt := (congrArg Int32.toInt rfl).trans rfl
        have w25 : (zI w10M 242 10).toInt = (zI M 242 10).toInt := (congrArg Int32.toInt ((w10F 242 10 rfl).trans rfl)).trans rfl
        have w26 := lln1000000000000
        exact zs_lret (pc := 23) t173_23 mr173 (hQ _ _ w10s w10I ((zFr.refl).trans (w10F.mono rfl)) (by omega) (by omega) (by omega) (by omega) (fun _ => w10x0) w10x1 (zSp.fr x4 (fun j => (w10F 250 j rfl)) (w10F 242 10 rfl)))
      · refine zs_icmp_geF (pc := 9) t126_9 rfl rfl (by omega) ?_
        refine zs_aload_n (pc := 12) t126_12 rfl ?_
        refine zs_get (pc := 13) t126_13 (by decide) (zk1 (w10s.k fk_zMc_165)) (w10s.p rfl fv_zMc_165_1) ?_
        refine zs_iload_n (pc := 16) t126_16 rfl ?_
        obtain ⟨w27n, w27⟩ : ∃ n : Nat, a.toInt = (n : Int) := ⟨(a.toInt).toNat, by omega⟩
        have w28 : w27n < 20 := by omega
        refine zs_aald (pc := 17) t126_17 (j := w27n) (Or.inr (zk1 (w10s.k fk_zMc_179))) (show a.toInt = ((w27n : Nat) : Int) by omega) (zk2 (w10s.k fk_zMc_179) (by omega)) (w10s.a (fpT181 w27n w28)) ?_
        refine zs_goto (pc := 18) t126_18 ?_
        refine zs_aret (pc := 22) t126_22 (by rw [mr126]; rfl) ?_
        show zGo X l 1 0 0 163 16 [(0, .ref 164), (1, .int a)] [.ref (181 + 3 * w27n)] w10M _
        refine zs_goto (pc := 16) t163_16 ?_
        refine zs_aret (pc := 20) t163_20 (by rw [mr163]; rfl) ?_
        show zGo X l 6 0 0 173 15 [(0, .ref 6), (1, .int a), (2, .int b)] [.ref (181 + 3 * w27n)] w10M _
        refine zs_astore_n (pc := 15) t173_15 (ls' := [(3, .ref (181 + 3 * w27n)), (0, .ref 6), (1, .int a), (2, .int b)]) (zml mf173 (by decide)) rfl ?_
        refine zs_aload_n (pc := 16) t173_16 rfl ?_
        refine zs_ifnonnullT (pc := 17) t173_17 ?_
        refine zs_iload_n (pc := 24) t173_24 rfl ?_
        by_cases w29 : b.toInt = 0
        · refine zs_tswI (pc := 25) t173_25 ((rfl : b.toInt = b.toInt).trans w29) (by decide) rfl (pc2 := 64) rfl ?_
          refine zs_aload_n (pc := 64) t173_64 rfl ?_
          have w30 := zrg64 (zJ w10M (181 + 3 * w27n) 9)
          refine zs_get (pc := 65) t173_65 (by decide) (zk1 (w10s.k (fT181_0 w27n w28))) (zfvj rfl) ?_
          refine zs_aload_n (pc := 68) t173_68 rfl ?_
          have w31 := zrg64 (zJ w10M (181 + 3 * w27n) 8)
          refine zs_get (pc := 69) t173_69 (by decide) (zk1 (w10s.k (fT181_0 w27n w28))) (zfvj rfl) ?_
          refine zs_invS (pc := 72) (as := [.long (zJ w10M (181 + 3 * w27n) 9), .long (zJ w10M (181 + 3 * w27n) 8)]) (st := []) t173_72 (by decide) mf174 rfl rfl ⟨by decide, by decide, Nat.le_of_ble_eq_true rfl, Nat.le_of_ble_eq_true rfl⟩ (C174 w10s w10I ?_) (fun _ _ q => q)
          intro w32v w32a w32b
          show zGo X l 6 0 0 173 75 [(3, .ref (181 + 3 * w27n)), (0, .ref 6), (1, .int a), (2, .int b)] [.long w32v] w10M _
          have w33 : (zI w10M 166 10).toInt = (zI w10M 166 10).toInt := (congrArg Int32.toInt rfl).trans rfl
          have w34 : (zI w10M 242 10).toInt = (zI M 242 10).toInt := (congrArg Int32.toInt ((w10F 242 10 rfl).trans rfl)).trans rfl
          exact zs_lret (pc := 75) t173_75 mr173 (hQ _ _ w10s w10I ((zFr.refl).trans (w10F.mono rfl)) (by omega) (by omega) (by omega) (by omega) (fun _ => w10x0) w10x1 (zSp.fr x4 (fun j => (w10F 250 j rfl)) (w10F 242 10 rfl)))
        by_cases w35 : b.toInt = 1
        · refine zs_tswI (pc := 25) t173_25 ((rfl : b.toInt = b.toInt).trans w35) (by decide) rfl (pc2 := 76) rfl ?_
          refine zs_aload_n (pc := 76) t173_76 rfl ?_
          have w36 := zrg64 (zJ w10M (181 + 3 * w27n) 9)
          refine zs_get (pc := 77) t173_77 (by decide) (zk1 (w10s.k (fT181_0 w27n w28))) (zfvj rfl) ?_
          refine zs_aload_n (pc := 80) t173_80 rfl ?_
          have w37 := zrg64 (zJ w10M (181 + 3 * w27n) 8)
          refine zs_get (pc := 81) t173_81 (by decide) (zk1 (w10s.k (fT181_0 w27n w28))) (zfvj rfl) ?_
          refine zs_invS (pc := 84) (as := [.long (zJ w10M (181 + 3 * w27n) 9), .long (zJ w10M (181 + 3 * w27n) 8)]) (st := []) t173_84 (by decide) mf176 rfl rfl ⟨by decide, by decide, Nat.le_of_ble_eq_true rfl, Nat.le_of_ble_eq_true rfl⟩ (C176 w10s w10I ?_) (fun _ _ q => q)
          intro w38v w38a w38b
          show zGo X l 6 0 0 173 87 [(3, .ref (181 + 3 * w27n)), (0, .ref 6), (1, .int a), (2, .int b)] [.long w38v] w10M _
          have w39 : (zI w10M 166 10).toInt = (zI w10M 166 10).toInt := (congrArg Int32.toInt rfl).trans rfl
          have w40 : (zI w10M 242 10).toInt = (zI M 242 10).toInt := (congrArg Int32.toInt ((w10F 242 10 rfl).trans rfl)).trans rfl
          exact zs_lret (pc := 87) t173_87 mr173 (hQ _ _ w10s w10I ((zFr.refl).trans (w10F.mono rfl)) (by omega) (by omega) (by omega) (by omega) (fun _ => w10x0) w10x1 (zSp.fr x4 (fun j => (w10F 250 j rfl)) (w10F 242 10 rfl)))
        by_cases w41 : b.toInt = 2
        · refine zs_tswI (pc := 25) t173_25 ((rfl : b.toInt = b.toInt).trans w41) (by decide) rfl (pc2 := 88) rfl ?_
          refine zs_aload_n (pc := 88) t173_88 rfl ?_
          have w42 := zrg64 (zJ w10M (181 + 3 * w27n) 10)
          refine zs_get (pc := 89) t173_89 (by decide) (zk1 (w10s.k (fT181_0 w27n w28))) (zfvj rfl) ?_
          refine zs_aload_n (pc := 92) t173_92 rfl ?_
          have w43 := zrg64 (zJ w10M (181 + 3 * w27n) 8)
          refine zs_get (pc := 93) t173_93 (by decide) (zk1 (w10s.k (fT181_0 w27n w28))) (zfvj rfl) ?_
          refine zs_invS (pc := 96) (as := [.long (zJ w10M (181 + 3 * w27n) 10), .long (zJ w10M (181 + 3 * w27n) 8)]) (st := []) t173_96 (by decide) mf174 rfl rfl ⟨by decide, by decide, Nat.le_of_ble_eq_true rfl, Nat.le_of_ble_eq_true rfl⟩ (C174 w10s w10I ?_) (fun _ _ q => q)
          intro w44v w44a w44b
          show zGo X l 6 0 0 173 99 [(3, .ref (181 + 3 * w27n)), (0, .ref 6), (1, .int a), (2, .int b)] [.long w44v] w10M _
          have w45 : (zI w10M 166 10).toInt = (zI w10M 166 10).toInt := (congrArg Int32.toInt rfl).trans rfl
          have w46 : (zI w10M 242 10).toInt = (zI M 242 10).toInt := (congrArg Int32.toInt ((w10F 242 10 rfl).trans rfl)).trans rfl
          exact zs_lret (pc := 99) t173_99 mr173 (hQ _ _ w10s w10I ((zFr.refl).trans (w10F.mono rfl)) (by omega) (by omega) (by omega) (by omega) (fun _ => w10x0) w10x1 (zSp.fr x4 (fun j => (w10F 250 j rfl)) (w10F 242 10 rfl)))
        by_cases w47 : b.toInt = 3
        · refine zs_tswI (pc := 25) t173_25 ((rfl : b.toInt = b.toInt).trans w47) (by decide) rfl (pc2 := 100) rfl ?_
          refine zs_aload_n (pc := 100) t173_100 rfl ?_
          have w48 := zrg64 (zJ w10M (181 + 3 * w27n) 10)
          refine zs_get (pc := 101) t173_101 (by decide) (zk1 (w10s.k (fT181_0 w27n w28))) (zfvj rfl) ?_
          refine zs_aload_n (pc := 104) t173_104 rfl ?_
          have w49 := zrg64 (zJ w10M (181 + 3 * w27n) 8)
          refine zs_get (pc := 105) t173_105 (by decide) (zk1 (w10s.k (fT181_0 w27n w28))) (zfvj rfl) ?_
          refine zs_invS (pc := 108) (as := [.long (zJ w10M (181 + 3 * w27n) 10), .long (zJ w10M (181 + 3 * w27n) 8)]) (st := []) t173_108 (by decide) mf176 rfl rfl ⟨by decide, by decide, Nat.le_of_ble_eq_true rfl, Nat.le_of_ble_eq_true rfl⟩ (C176 w10s w10I ?_) (fun _ _ q => q)
          intro w50v w50a w50b
          show zGo X l 6 0 0 173 111 [(3, .ref (181 + 3 * w27n)), (0, .ref 6), (1, .int a), (2, .int b)] [.long w50v] w10M _
          have w51 : (zI w10M 166 10).toInt = (zI w10M 166 10).toInt := (congrArg Int32.toInt rfl).trans rfl
          have w52 : (zI w10M 242 10).toInt = (zI M 242 10).toInt := (congrArg Int32.toInt ((w10F 242 10 rfl).trans rfl)).trans rfl
          exact zs_lret (pc := 111) t173_111 mr173 (hQ _ _ w10s w10I ((zFr.refl).trans (w10F.mono rfl)) (by omega) (by omega) (by omega) (by omega) (fun _ => w10x0) w10x1 (zSp.fr x4 (fun j => (w10F 250 j rfl)) (w10F 242 10 rfl)))
        by_cases w53 : b.toInt = 4
        · refine zs_tswI (pc := 25) t173_25 ((rfl : b.toInt = b.toInt).trans w53) (by decide) rfl (pc2 := 112) rfl ?_
          refine zs_aload_n (pc := 112) t173_112 rfl ?_
          have w54 := zrg64 (zJ w10M (181 + 3 * w27n) 11)
          refine zs_get (pc := 113) t173_113 (by decide) (zk1 (w10s.k (fT181_0 w27n w28))) (zfvj rfl) ?_
          refine zs_aload_n (pc := 116) t173_116 rfl ?_
          have w55 := zrg64 (zJ w10M (181 + 3 * w27n) 8)
          refine zs_get (pc := 117) t173_117 (by decide) (zk1 (w10s.k (fT181_0 w27n w28))) (zfvj rfl) ?_
          refine zs_invS (pc := 120) (as := [.long (zJ w10M (181 + 3 * w27n) 11), .long (zJ w10M (181 + 3 * w27n) 8)]) (st := []) t173_120 (by decide) mf174 rfl rfl ⟨by decide, by decide, Nat.le_of_ble_eq_true rfl, Nat.le_of_ble_eq_true rfl⟩ (C174 w10s w10I ?_) (fun _ _ q => q)
          intro w56v w56a w56b
          show zGo X l 6 0 0 173 123 [(3, .ref (181 + 3 * w27n)), (0, .ref 6), (1, .int a), (2, .int b)] [.long w56v] w10M _
          have w57 : (zI w10M 166 10).toInt = (zI w10M 166 10).toInt := (congrArg Int32.toInt rfl).trans rfl
          have w58 : (zI w10M 242 10).toInt = (zI M 242 10).toInt := (congrArg Int32.toInt ((w10F 242 10 rfl).trans rfl)).trans rfl
          exact zs_lret (pc := 123) t173_123 mr173 (hQ _ _ w10s w10I ((zFr.refl).trans (w10F.mono rfl)) (by omega) (by omega) (by omega) (by omega) (fun _ => w10x0) w10x1 (zSp.fr x4 (fun j => (w10F 250 j rfl)) (w10F 242 10 rfl)))
        by_cases w59 : b.toInt = 5
        · refine zs_tswI (pc := 25) t173_25 ((rfl : b.toInt = b.toInt).trans w59) (by decide) rfl (pc2 := 124) rfl ?_
          refine zs_aload_n (pc := 124) t173_124 rfl ?_
          have w60 := zrg64 (zJ w10M (181 + 3 * w27n) 11)
          refine zs_get (pc := 125) t173_125 (by decide) (zk1 (w10s.k (fT181_0 w27n w28))) (zfvj rfl) ?_
          refine zs_aload_n (pc := 128) t173_128 rfl ?_
          have w61 := zrg64 (zJ w10M (181 + 3 * w27n) 8)
          refine zs_get (pc := 129) t173_129 (by decide) (zk1 (w10s.k (fT181_0 w27n w28))) (zfvj rfl) ?_
          refine zs_invS (pc := 132) (as := [.long (zJ w10M (181 + 3 * w27n) 11), .long (zJ w10M (181 + 3 * w27n) 8)]) (st := []) t173_132 (by decide) mf176 rfl rfl ⟨by decide, by decide, Nat.le_of_ble_eq_true rfl, Nat.le_of_ble_eq_true rfl⟩ (C176 w10s w10I ?_) (fun _ _ q => q)
          intro w62v w62a w62b
          show zGo X l 6 0 0 173 135 [(3, .ref (181 + 3 * w27n)), (0, .ref 6), (1, .int a), (2, .int b)] [.long w62v] w10M _
          have w63 : (zI w10M 166 10).toInt = (zI w10M 166 10).toInt := (congrArg Int32.toInt rfl).trans rfl
          have w64 : (zI w10M 242 10).toInt = (zI M 242 10).toInt := (congrArg Int32.toInt ((w10F 242 10 rfl).trans rfl)).trans rfl
          exact zs_lret (pc := 135) t173_135 mr173 (hQ _ _ w10s w10I ((zFr.refl).trans (w10F.mono rfl)) (by omega) (by omega) (by omega) (by omega) (fun _ => w10x0) w10x1 (zSp.fr x4 (fun j => (w10F 250 j rfl)) (w10F 242 10 rfl)))
        refine zs_tswD (pc := 25) t173_25 rfl (by omega) (pc2 := 136) rfl ?_
        refine zs_ldc2_w (pc := 136) t173_136 (v := -1000000000000) (by decide) ?_
        have w65 : (zI w10M 166 10).toInt = (zI w10M 166 10).toInt := (congrArg Int32.toInt rfl).trans rfl
        have w66 : (zI w10M 242 10).toInt = (zI M 242 10).toInt := (congrArg Int32.toInt ((w10F 242 10 rfl).trans rfl)).trans rfl
        have w67 := lln1000000000000
        exact zs_lret (pc := 139) t173_139 mr173 (hQ _ _ w10s w10I ((zFr.refl).trans (w10F.mono rfl)) (by omega) (by omega) (by omega) (by omega) (fun _ => w10x0) w10x1 (zSp.fr x4 (fun j => (w10F 250 j rfl)) (w10F 242 10 rfl)))
theorem P177 {X : zX} {l : Launch} {M : zM} {Q : Option Value → zM → Prop} {a b : Int32} (hs : zSk zMc M) (hI : zIv cLo cHi M) {F : Nat → Int} (u0 : (zI M 166 10).toInt ≤ 1600000000) (u1 : 0 ≤ (zI M 166 10).toInt) (u2 : (zI M 242 10).toInt ≤ 1600000000) (u3 : 0 ≤ (zI M 242 10).toInt) (x0 : zSo M 7 F) (x1 : zWF F) (x2 : zKnA M F) (x3 : zSp M 166 174) (x4 : zSp M 242 250) (hQ : ∀ (M' : zM) (v : Int32), zSk zMc M' → zIv cLo cHi M' → zFr [(164, 165, none), (166, 178, none), (180, 180, none), (181, 240, none), (317, 324, none)] M M' → ((zI M' 166 10).toInt ≤ (zI M 166 10).toInt + 20000) → ((zI M 166 10).toInt ≤ (zI M' 166 10).toInt) → ((zI M' 242 10).toInt ≤ (zI M 242 10).toInt + 20000) → ((zI M 242 10).toInt ≤ (zI M' 242 10).toInt) → (zKnA M' F) → (zSp M' 166 174) → (zSp M' 242 250) → Q (some (.int v)) M') : zCall X l 6 0 0 177 [.ref 6, .int a, .int b] M Q := by
  have ga := zrg a
  have gb := zrg b
  refine zs_in (by decide) mf177 (Nat.le_of_ble_eq_true rfl) ?_
  show zGo X l 6 0 0 177 0 [(0, .ref 6), (1, .int a), (2, .int b)] [] M _
  have f0 := x0.1
  have w1 := ib7_0 hI
  have w2 : (zI M 7 0).toInt = (zI M 7 0).toInt := (congrArg Int32.toInt rfl).trans rfl
  have w3 := ib7_3 hI
  have w4 : (zI M 7 3).toInt = (zI M 7 3).toInt := (congrArg Int32.toInt rfl).trans rfl
  have w5 := ib7_8 hI
  have w6 : (zI M 7 8).toInt = (zI M 7 8).toInt := (congrArg Int32.toInt rfl).trans rfl
  have f1 := x1.1
  have f3 := x1.2.2.2
  have f2 := (show (zI M 7 0).toInt = F 0 ∧ (zI M 7 3).toInt = F 1 ∧ (zI M 7 8).toInt = F 2 from ⟨x0.1.1, x0.1.2.1, x0.1.2.2.1⟩)
  refine zs_iload_n (pc := 0) t177_0 rfl ?_
  by_cases w7 : a.toInt < 0
  · refine zs_if_ltT (pc := 1) t177_1 rfl (by omega) ?_
    refine zs_ldc (pc := 22) t177_22 (v := -100000) rfl (by decide) ?_
    have w8 := zrg (zI M 166 10)
    have w9 : (zI M 166 10).toInt = (zI M 166 10).toInt := (congrArg Int32.toInt rfl).trans rfl
    have w10 := zrg (zI M 242 10)
    have w11 : (zI M 242 10).toInt = (zI M 242 10).toInt := (congrArg Int32.toInt rfl).trans rfl
    have w12 := lin100000
    exact zs_iret (pc := 24) t177_24 mr177 (by decide) (hQ _ _ hs hI (zFr.refl) (by omega) (by omega) (by omega) (by omega) x2 x3 x4)
  · refine zs_if_ltF (pc := 1) t177_1 rfl (by omega) ?_
    refine zs_iload_n (pc := 4) t177_4 rfl ?_
    refine zs_aload_n (pc := 5) t177_5 rfl ?_
    refine zs_get (pc := 6) t177_6 (by decide) (zk1 (hs.k fk_zMc_6)) (hs.p rfl fv_zMc_6_6) ?_
    refine zs_aload_n (pc := 9) t177_9 rfl ?_
    refine zs_get (pc := 10) t177_10 (by decide) (zk1 (hs.k fk_zMc_6)) (hs.p rfl fv_zMc_6_0) ?_
    have w13 := zrg (zI M 166 10)
    have w14 : (zI M 166 10).toInt = (zI M 166 10).toInt := (congrArg Int32.toInt rfl).trans rfl
    have w15 : (zI M 166 10).toInt = (zI M 166 10).toInt := (congrArg Int32.toInt rfl).trans rfl
    refine zs_invV (pc := 13) (k := 164) (as' := [.ref 7]) (st := [.int a]) t177_13 mf105 rfl rfl (Or.inl ⟨by decide, (zk1 (hs.k fk_zMc_164))⟩) ⟨by decide, by decide, Nat.le_of_ble_eq_true rfl, Nat.le_of_ble_eq_true rfl⟩ (V105 hs hI (by omega) (by omega) x0 x1 x2 x3 ?_) (fun _ _ q => q)
    intro w16M w16s w16I w16F w16t0 w16t1 w16x0 w16x1 w16x2
    have w17 := zrg (zI w16M 166 10)
    show zGo X l 6 0 0 177 16 [(0, .ref 6), (1, .int a), (2, .int b)] [.ref 164, .int a] w16M _
    refine zs_invV (pc := 16) (k := 164) (as' := []) (st := [.int a]) t177_16 mf152 rfl rfl (Or.inl ⟨by decide, (zk1 (w16s.k fk_zMc_164))⟩) ⟨by decide, by decide, Nat.le_of_ble_eq_true rfl, Nat.le_of_ble_eq_true rfl⟩ (zs_in (by decide) mf152 (Nat.le_of_ble_eq_true rfl) ?_) (fun _ _ q => q)
    show zGo X l 0 0 0 152 0 [(0, .ref 164)] [] w16M _
    refine zs_aload_n (pc := 0) t152_0 rfl ?_
    have w18 := ib164_9 w16I
    refine zs_get (pc := 1) t152_1 (by decide) (zk1 (w16s.k fk_zMc_164)) (zfvi rfl rfl) ?_
    refine zs_iret (pc := 4) t152_4 mr152 rfl ?_
    show zGo X l 6 0 0 177 19 [(0, .ref 6), (1, .int a), (2, .int b)] [.int (zI w16M 164 9), .int a] w16M _
    by_cases w19 : a.toInt < (zI w16M 164 9).toInt
    · refine zs_icmp_ltT (pc := 19) t177_19 rfl rfl (by omega) ?_
      refine zs_iload_n (pc := 25) t177_25 rfl ?_
      by_cases w20 : b.toInt = 0
      · refine zs_lsw (pc := 26) t177_26 (off := 26) ((rfl : b.toInt = b.toInt).trans w20) rfl (pc2 := 52) rfl ?_
        refine zs_aload_n (pc := 52) t177_52 rfl ?_
        refine zs_get (pc := 53) t177_53 (by decide) (zk1 (w16s.k fk_zMc_6)) (w16s.p rfl fv_zMc_6_6) ?_
        refine zs_iload_n (pc := 56) t177_56 rfl ?_
        refine zs_invV (pc := 57) (k := 164) (as' := [.int a]) (st := []) t177_57 mf178 rfl rfl (Or.inl ⟨by decide, (zk1 (w16s.k fk_zMc_164))⟩) ⟨by decide, by decide, Nat.le_of_ble_eq_true rfl, Nat.le_of_ble_eq_true rfl⟩ (zs_in (by decide) mf178 (Nat.le_of_ble_eq_true rfl) ?_) (fun _ _ q => q)
        show zGo X l 0 0 0 178 0 [(0, .ref 164), (1, .int a)] [] w16M _
        refine zs_iload_n (pc := 0) t178_0 rfl ?_
        refine zs_if_ltF (pc := 1) t178_1 rfl (by omega) ?_
        refine zs_iload_n (pc := 4) t178_4 rfl ?_
        refine zs_aload_n (pc := 5) t178_5 rfl ?_
        refine zs_get (pc := 6) t178_6 (by decide) (zk1 (w16s.k fk_zMc_164)) (zfvi rfl rfl) ?_
        by_cases w21 : (zI w16M 164 9).toInt ≤ a.toInt
        · refine zs_icmp_geT (pc := 9) t178_9 rfl rfl (by omega) ?_
          refine zs_iconst (pc := 21) t178_21 (v := 0) (by decide) ?_
          refine zs_iret (pc := 22) t178_22 mr178 (by decide) ?_
          show zGo X l 6 0 0 177 60 [(0, .ref 6), (1, .int a), (2, .int b)] [.int (0 : Int32)] w16M _
          have w22 : (zI w16M 166 10).toInt = (zI w16M 166 10).toInt := (congrArg Int32.toInt rfl).trans rfl
          have w23 := zrg (zI M 242 10)
          have w24 : (zI w16M 242 10).toInt = (zI M 242 10).toInt := (congrArg Int32.toInt ((w16F 242 10 rfl).trans rfl)).trans rfl
          have w25 := li0
          exact zs_iret (pc := 60) t177_60 mr177 (by decide) (hQ _ _ w16s w16I ((zFr.refl).trans (w16F.mono rfl)) (by omega) (by omega) (by omega) (by omega) (fun _ => w16x0) w16x1 (zSp.fr x4 (fun j => (w16F 250 j rfl)) (w16F 242 10 rfl)))
        · refine zs_icmp_geF (pc := 9) t178_9 rfl rfl (by omega) ?_
          refine zs_aload_n (pc := 12) t178_12 rfl ?_
          refine zs_get (pc := 13) t178_13 (by decide) (zk1 (w16s.k fk_zMc_164)) (w16s.p rfl fv_zMc_164_11) ?_
          refine zs_iload_n (pc := 16) t178_16 rfl ?_
          obtain ⟨w26n, w26⟩ : ∃ n : Nat, a.toInt = (n : Int) := ⟨(a.toInt).toNat, by omega⟩
          have w27 := zrg (zI w16M 321 w26n)
          refine zs_iald (pc := 17) t178_17 (j := w26n) (by decide) (zk1 (w16s.k fk_zMc_321)) (show a.toInt = ((w26n : Nat) : Int) by omega) (zk2 (w16s.k fk_zMc_321) (by omega)) rfl ?_
          refine zs_goto (pc := 18) t178_18 ?_
          refine zs_iret (pc := 22) t178_22 mr178 rfl ?_
          show zGo X l 6 0 0 177 60 [(0, .ref 6), (1, .int a), (2, .int b)] [.int (zI w16M 321 w26n)] w16M _
          have w28 : (zI w16M 166 10).toInt = (zI w16M 166 10).toInt := (congrArg Int32.toInt rfl).trans rfl
          have w29 : (zI w16M 242 10).toInt = (zI M 242 10).toInt := (congrArg Int32.toInt ((w16F 242 10 rfl).trans rfl)).trans rfl
          exact zs_iret (pc := 60) t177_60 mr177 rfl (hQ _ _ w16s w16I ((zFr.refl).trans (w16F.mono rfl)) (by omega) (by omega) (by omega) (by omega) (fun _ => w16x0) w16x1 (zSp.fr x4 (fun j => (w16F 250 j rfl)) (w16F 242 10 rfl)))
      by_cases w30 : b.toInt = 1
      · refine zs_lsw (pc := 26) t177_26 (off := 35) ((rfl : b.toInt = b.toInt).trans w30) rfl (pc2 := 61) rfl ?_
        refine zs_aload_n (pc := 61) t177_61 rfl ?_
        refine zs_get (pc := 62) t177_62 (by decide) (zk1 (w16s.k fk_zMc_6)) (w16s.p rfl fv_zMc_6_6) ?_
        refine zs_iload_n (pc := 65) t177_65 rfl ?_
        refine zs_invV (pc := 66) (k := 164) (as' := [.int a]) (st := []) t177_66 mf179 rfl rfl (Or.inl ⟨by decide, (zk1 (w16s.k fk_zMc_164))⟩) ⟨by decide, by decide, Nat.le_of_ble_eq_true rfl, Nat.le_of_ble_eq_true rfl⟩ (zs_in (by decide) mf179 (Nat.le_of_ble_eq_true rfl) ?_) (fun _ _ q => q)
        show zGo X l 1 0 0 179 0 [(0, .ref 164), (1, .int a)] [] w16M _
        refine zs_aload_n (pc := 0) t179_0 rfl ?_
        refine zs_iload_n (pc := 1) t179_1 rfl ?_
        refine zs_invV (pc := 2) (k := 164) (as' := [.int a]) (st := []) t179_2 mf178 rfl rfl (Or.inl ⟨by decide, (zk1 (w16s.k fk_zMc_164))⟩) ⟨by decide, by decide, Nat.le_of_ble_eq_true rfl, Nat.le_of_ble_eq_true rfl⟩ (zs_in (by decide) mf178 (Nat.le_of_ble_eq_true rfl) ?_) (fun _ _ q => q)
        show zGo X l 0 0 0 178 0 [(0, .ref 164), (1, .int a)] [] w16M _
        refine zs_iload_n (pc := 0) t178_0 rfl ?_
        refine zs_if_ltF (pc := 1) t178_1 rfl (by omega) ?_
        refine zs_iload_n (pc := 4) t178_4 rfl ?_
        refine zs_aload_n (pc := 5) t178_5 rfl ?_
        refine zs_get (pc := 6) t178_6 (by decide) (zk1 (w16s.k fk_zMc_164)) (zfvi rfl rfl) ?_
        by_cases w31 : (zI w16M 164 9).toInt ≤ a.toInt
        · refine zs_icmp_geT (pc := 9) t178_9 rfl rfl (by omega) ?_
          refine zs_iconst (pc := 21) t178_21 (v := 0) (by decide) ?_
          refine zs_iret (pc := 22) t178_22 mr178 (by decide) ?_
          show zGo X l 1 0 0 179 5 [(0, .ref 164), (1, .int a)] [.int (0 : Int32)] w16M _
          refine zs_istore_n (pc := 5) t179_5 (ls' := [(2, .int (0 : Int32)), (0, .ref 164), (1, .int a)]) (zml mf179 (by decide)) rfl ?_
          refine zs_iload_n (pc := 6) t179_6 rfl ?_
          refine zs_if_neF (pc := 7) t179_7 li0 (by decide) ?_
          refine zs_iconst (pc := 10) t179_10 (v := 0) (by decide) ?_
          refine zs_goto (pc := 11) t179_11 ?_
          refine zs_iret (pc := 24) t179_24 mr179 (by decide) ?_
          show zGo X l 6 0 0 177 69 [(0, .ref 6), (1, .int a), (2, .int b)] [.int (0 : Int32)] w16M _
          have w32 : (zI w16M 166 10).toInt = (zI w16M 166 10).toInt := (congrArg Int32.toInt rfl).trans rfl
          have w33 : (zI w16M 242 10).toInt = (zI M 242 10).toInt := (congrArg Int32.toInt ((w16F 242 10 rfl).trans rfl)).trans rfl
          have w34 := li0
          exact zs_iret (pc := 69) t177_69 mr177 (by decide) (hQ _ _ w16s w16I ((zFr.refl).trans (w16F.mono rfl)) (by omega) (by omega) (by omega) (by omega) (fun _ => w16x0) w16x1 (zSp.fr x4 (fun j => (w16F 250 j rfl)) (w16F 242 10 rfl)))
        · refine zs_icmp_geF (pc := 9) t178_9 rfl rfl (by omega) ?_
          refine zs_aload_n (pc := 12) t178_12 rfl ?_
          refine zs_get (pc := 13) t178_13 (by decide) (zk1 (w16s.k fk_zMc_164)) (w16s.p rfl fv_zMc_164_11) ?_
          refine zs_iload_n (pc := 16) t178_16 rfl ?_
          obtain ⟨w35n, w35⟩ : ∃ n : Nat, a.toInt = (n : Int) := ⟨(a.toInt).toNat, by omega⟩
          have w36 := zrg (zI w16M 321 w35n)
          refine zs_iald (pc := 17) t178_17 (j := w35n) (by decide) (zk1 (w16s.k fk_zMc_321)) (show a.toInt = ((w35n : Nat) : Int) by omega) (zk2 (w16s.k fk_zMc_321) (by omega)) rfl ?_
          refine zs_goto (pc := 18) t178_18 ?_
          refine zs_iret (pc := 22) t178_22 mr178 rfl ?_
          show zGo X l 1 0 0 179 5 [(0, .ref 164), (1, .int a)] [.int (zI w16M 321 w35n)] w16M _
          refine zs_istore_n (pc := 5) t179_5 (ls' := [(2, .int (zI w16M 321 w35n)), (0, .ref 164), (1, .int a)]) (zml mf179 (by decide)) rfl ?_
          refine zs_iload_n (pc := 6) t179_6 rfl ?_
          by_cases w37 : (zI w16M 321 w35n).toInt ≠ 0
          · refine zs_if_neT (pc := 7) t179_7 rfl (by omega) ?_
            refine zs_aload_n (pc := 14) t179_14 rfl ?_
            refine zs_get (pc := 15) t179_15 (by decide) (zk1 (w16s.k fk_zMc_164)) (w16s.p rfl fv_zMc_164_12) ?_
            refine zs_iload_n (pc := 18) t179_18 rfl ?_
            have w38 := zrg (zI w16M 322 w35n)
            refine zs_iald (pc := 19) t179_19 (j := w35n) (by decide) (zk1 (w16s.k fk_zMc_322)) (show a.toInt = ((w35n : Nat) : Int) by omega) (zk2 (w16s.k fk_zMc_322) (by omega)) rfl ?_
            refine zs_iload_n (pc := 20) t179_20 rfl ?_
            refine zs_invS (pc := 21) (as := [.int (zI w16M 322 w35n), .int (zI w16M 321 w35n)]) (st := []) t179_21 (by decide) mf54 rfl rfl ⟨by decide, by decide, Nat.le_of_ble_eq_true rfl, Nat.le_of_ble_eq_true rfl⟩ (zs_in (by decide) mf54 (Nat.le_of_ble_eq_true rfl) ?_) (fun _ _ q => q)
            show zGo X l 0 0 0 54 0 [(0, .int (zI w16M 322 w35n)), (1, .int (zI w16M 321 w35n))] [] w16M _
            refine zs_iload_n (pc := 0) t54_0 rfl ?_
            refine zs_iload_n (pc := 1) t54_1 rfl ?_
            obtain ⟨w39v, w39⟩ : ∃ v, (zI w16M 322 w35n) / (zI w16M 321 w35n) = v := ⟨_, rfl⟩
            have w39g := zrg w39v
            refine zs_idiv (pc := 2) t54_2 (znz rfl (by omega)) (c := w39v) w39 ?_
            refine zs_istore_n (pc := 3) t54_3 (ls' := [(2, .int w39v), (0, .int (zI w16M 322 w35n)), (1, .int (zI w16M 321 w35n))]) (zml mf54 (by decide)) rfl ?_
            refine zs_iload_n (pc := 4) t54_4 rfl ?_
            refine zs_iload_n (pc := 5) t54_5 rfl ?_
            obtain ⟨w40v, w40⟩ : ∃ v, (zI w16M 322 w35n) ^^^ (zI w16M 321 w35n) = v := ⟨_, rfl⟩
            have w40g := zrg w40v
            refine zs_ixor (pc := 6) t54_6 (c := w40v) w40 ?_
            by_cases w41 : 0 ≤ w40v.toInt
            · refine zs_if_geT (pc := 7) t54_7 rfl (by omega) ?_
              refine zs_iload_n (pc := 21) t54_21 rfl ?_
              refine zs_iret (pc := 22) t54_22 mr54 rfl ?_
              show zGo X l 1 0 0 179 24 [(2, .int (zI w16M 321 w35n)), (0, .ref 164), (1, .int a)] [.int w39v] w16M _
              refine zs_iret (pc := 24) t179_24 mr179 rfl ?_
              show zGo X l 6 0 0 177 69 [(0, .ref 6), (1, .int a), (2, .int b)] [.int w39v] w16M _
              have w42 : (zI w16M 166 10).toInt = (zI w16M 166 10).toInt := (congrArg Int32.toInt rfl).trans rfl
              have w43 : (zI w16M 242 10).toInt = (zI M 242 10).toInt := (congrArg Int32.toInt ((w16F 242 10 rfl).trans rfl)).trans rfl
              exact zs_iret (pc := 69) t177_69 mr177 rfl (hQ _ _ w16s w16I ((zFr.refl).trans (w16F.mono rfl)) (by omega) (by omega) (by omega) (by omega) (fun _ => w16x0) w16x1 (zSp.fr x4 (fun j => (w16F 250 j rfl)) (w16F 242 10 rfl)))
            · refine zs_if_geF (pc := 7) t54_7 rfl (by omega) ?_
              refine zs_iload_n (pc := 10) t54_10 rfl ?_
              refine zs_iload_n (pc := 11) t54_11 rfl ?_
              obtain ⟨w44v, w44⟩ : ∃ v, w39v * (zI w16M 321 w35n) = v := ⟨_, rfl⟩
              have w44g := zrg w44v
              refine zs_imul (pc := 12) t54_12 (c := w44v) w44 ?_
              refine zs_iload_n (pc := 13) t54_13 rfl ?_
              by_cases w45 : w44v.toInt = (zI w16M 322 w35n).toInt
              · refine zs_icmp_eqT (pc := 14) t54_14 rfl rfl (by omega) ?_
                refine zs_iload_n (pc := 21) t54_21 rfl ?_
                refine zs_iret (pc := 22) t54_22 mr54 rfl ?_
                show zGo X l 1 0 0 179 24 [(2, .int (zI w16M 321 w35n)), (0, .ref 164), (1, .int a)] [.int w39v] w16M _
                refine zs_iret (pc := 24) t179_24 mr179 rfl ?_
                show zGo X l 6 0 0 177 69 [(0, .ref 6), (1, .int a), (2, .int b)] [.int w39v] w16M _
                have w46 : (zI w16M 166 10).toInt = (zI w16M 166 10).toInt := (congrArg Int32.toInt rfl).trans rfl
                have w47 : (zI w16M 242 10).toInt = (zI M 242 10).toInt := (congrArg Int32.toInt ((w16F 242 10 rfl).trans rfl)).trans rfl
                exact zs_iret (pc := 69) t177_69 mr177 rfl (hQ _ _ w16s w16I ((zFr.refl).trans (w16F.mono rfl)) (by omega) (by omega) (by omega) (by omega) (fun _ => w16x0) w16x1 (zSp.fr x4 (fun j => (w16F 250 j rfl)) (w16F 242 10 rfl)))
              · refine zs_icmp_eqF (pc := 14) t54_14 rfl rfl (by omega) ?_
                refine zs_iload_n (pc := 17) t54_17 rfl ?_
                refine zs_iconst (pc := 18) t54_18 (v := 1) (by decide) ?_
                obtain ⟨w48v, w48⟩ : ∃ v, v = w39v - (1 : Int32) := ⟨_, rfl⟩
                have w48g := zrg w48v
                refine zs_isub (pc := 19) t54_19 (c := w48v) w48.symm ?_
                refine zs_iret (pc := 20) t54_20 mr54 rfl ?_
                show zGo X l 1 0 0 179 24 [(2, .int (zI w16M 321 w35n)), (0, .ref 164), (1, .int a)] [.int w48v] w16M _
                refine zs_iret (pc := 24) t179_24 mr179 rfl ?_
                show zGo X l 6 0 0 177 69 [(0, .ref 6), (1, .int a), (2, .int b)] [.int w48v] w16M _
                have w49 : (zI w16M 166 10).toInt = (zI w16M 166 10).toInt := (congrArg Int32.toInt rfl).trans rfl
                have w50 : (zI w16M 242 10).toInt = (zI M 242 10).toInt := (congrArg Int32.toInt ((w16F 242 10 rfl).trans rfl)).trans rfl
                exact zs_iret (pc := 69) t177_69 mr177 rfl (hQ _ _ w16s w16I ((zFr.refl).trans (w16F.mono rfl)) (by omega) (by omega) (by omega) (by omega) (fun _ => w16x0) w16x1 (zSp.fr x4 (fun j => (w16F 250 j rfl)) (w16F 242 10 rfl)))
          · refine zs_if_neF (pc := 7) t179_7 rfl (by omega) ?_
            refine zs_iconst (pc := 10) t179_10 (v := 0) (by decide) ?_
            refine zs_goto (pc := 11) t179_11 ?_
            refine zs_iret (pc := 24) t179_24 mr179 (by decide) ?_
            show zGo X l 6 0 0 177 69 [(0, .ref 6), (1, .int a), (2, .int b)] [.int (0 : Int32)] w16M _
            have w51 : (zI w16M 166 10).toInt = (zI w16M 166 10).toInt := (congrArg Int32.toInt rfl).trans rfl
            have w52 : (zI w16M 242 10).toInt = (zI M 242 10).toInt := (congrArg Int32.toInt ((w16F 242 10 rfl).trans rfl)).trans rfl
            have w53 := li0
            exact zs_iret (pc := 69) t177_69 mr177 (by decide) (hQ _ _ w16s w16I ((zFr.refl).trans (w16F.mono rfl)) (by omega) (by omega) (by omega) (by omega) (fun _ => w16x0) w16x1 (zSp.fr x4 (fun j => (w16F 250 j rfl)) (w16F 242 10 rfl)))
      refine zs_lsw (pc := 26) t177_26 (off := 44) rfl (by unfold zlsel; repeat (first | rfl | (rw [if_neg (by omega)]; unfold zlsel))) (pc2 := 70) rfl ?_
      refine zs_ldc (pc := 70) t177_70 (v := -100000) rfl (by decide) ?_
      have w54 : (zI w16M 166 10).toInt = (zI w16M 166 10).toInt := (congrArg Int32.toInt rfl).trans rfl
      have w55 : (zI w16M 242 10).toInt = (zI M 242 10).toInt := (congrArg Int32.toInt ((w16F 242 10 rfl).trans rfl)).trans rfl
      have w56 := lin100000
      exact zs_iret (pc := 72) t177_72 mr177 (by decide) (hQ _ _ w16s w16I ((zFr.refl).trans (w16F.mono rfl)) (by omega) (by omega) (by omega) (by omega) (fun _ => w16x0) w16x1 (zSp.fr x4 (fun j => (w16F 250 j rfl)) (w16F 242 10 rfl)))
    · refine zs_icmp_ltF (pc := 19) t177_19 rfl rfl (by omega) ?_
      refine zs_ldc (pc := 22) t177_22 (v := -100000) rfl (by decide) ?_
      have w57 : (zI w16M 166 10).toInt = (zI w16M 166 10).toInt := (congrArg Int32.toInt rfl).trans rfl
      have w58 : (zI w16M 242 10).toInt = (zI M 242 10).toInt := (congrArg Int32.toInt ((w16F 242 10 rfl).trans rfl)).trans rfl
      have w59 := lin100000
      exact zs_iret (pc := 24) t177_24 mr177 (by decide) (hQ _ _ w16s w16I ((zFr.refl).trans (w16F.mono rfl)) (by omega) (by omega) (by omega) (by omega) (fun _ => w16x0) w16x1 (zSp.fr x4 (fun j => (w16F 250 j rfl)) (w16F 242 10 rfl)))
theorem P187 {X : zX} {l : Launch} {M : zM} {Q : Option Value → zM → Prop} (hs : zSk zMc M) (hI : zIv cLo cHi M) {F : Nat → Int} (u0 : (zI M 166 10).toInt ≤ 1600000000) (u1 : 0 ≤ (zI M 166 10).toInt) (u2 : (zI M 242 10).toInt ≤ 1600000000) (u3 : 0 ≤ (zI M 242 10).toInt) (x0 : zSo M 7 F) (x1 : zWF F) (x2 : zKnA M F) (x3 : zSp M 166 174) (x4 : zSp M 242 250) (hQ : ∀ (M' : zM) (v : Int32), zSk zMc M' → zIv cLo cHi M' → zFr [(164, 165, none), (166, 178, none), (180, 180, none), (181, 240, none), (317, 324, none)] M M' → ((zI M' 166 10).toInt ≤ (zI M 166 10).toInt + 20000) → ((zI M 166 10).toInt ≤ (zI M' 166 10).toInt) → ((zI M' 242 10).toInt ≤ (zI M 242 10).toInt + 20000) → ((zI M 242 10).toInt ≤ (zI M' 242 10).toInt) → (zKnA M' F) → (zSp M' 166 174) → (zSp M' 242 250) → Q (some (.int v)) M') : zCall X l 6 0 0 187 [.ref 6] M Q := by
  refine zs_in (by decide) mf187 (Nat.le_of_ble_eq_true rfl) ?_
  show zGo X l 6 0 0 187 0 [(0, .ref 6)] [] M _
  have f0 := x0.1
  have w1 := ib7_0 hI
  have w2 : (zI M 7 0).toInt = (zI M 7 0).toInt := (congrArg Int32.toInt rfl).trans rfl
  have w3 := ib7_3 hI
  have w4 : (zI M 7 3).toInt = (zI M 7 3).toInt := (congrArg Int32.toInt rfl).trans rfl
  have w5 := ib7_8 hI
  have w6 : (zI M 7 8).toInt = (zI M 7 8).toInt := (congrArg Int32.toInt rfl).trans rfl
  have f1 := x1.1
  have f3 := x1.2.2.2
  have f2 := (show (zI M 7 0).toInt = F 0 ∧ (zI M 7 3).toInt = F 1 ∧ (zI M 7 8).toInt = F 2 from ⟨x0.1.1, x0.1.2.1, x0.1.2.2.1⟩)
  refine zs_iconst (pc := 0) t187_0 (v := 2) (by decide) ?_
  refine zs_aload_n (pc := 1) t187_1 rfl ?_
  refine zs_get (pc := 2) t187_2 (by decide) (zk1 (hs.k fk_zMc_6)) (hs.p rfl fv_zMc_6_0) ?_
  refine zs_iconst (pc := 5) t187_5 (v := 0) (by decide) ?_
  refine zs_invV (pc := 6) (k := 7) (as' := [.int (0 : Int32)]) (st := [.int (2 : Int32)]) t187_6 mf96 rfl rfl (Or.inl ⟨by decide, (zk1 (hs.k fk_zMc_7))⟩) ⟨by decide, by decide, Nat.le_of_ble_eq_true rfl, Nat.le_of_ble_eq_true rfl⟩ (zs_in (by decide) mf96 (Nat.le_of_ble_eq_true rfl) ?_) (fun _ _ q => q)
  show zGo X l 0 0 0 96 0 [(0, .ref 7), (1, .int (0 : Int32))] [] M _
  refine zs_iload_n (pc := 0) t96_0 rfl ?_
  refine zs_if_ltF (pc := 1) t96_1 li0 (by decide) ?_
  refine zs_iload_n (pc := 4) t96_4 rfl ?_
  refine zs_bipush (pc := 5) t96_5 (v := 9) (by decide) ?_
  refine zs_icmp_geF (pc := 7) t96_7 li0 li9 (by decide) ?_
  refine zs_aload_n (pc := 10) t96_10 rfl ?_
  refine zs_get (pc := 11) t96_11 (by decide) (zk1 (hs.k fk_zMc_7)) (hs.p rfl fv_zMc_7_12) ?_
  refine zs_iload_n (pc := 14) t96_14 rfl ?_
  have w7 := ib17 hI 0
  have w8 : (zI M 17 0).toInt = F 5 := x0.2.2.2.2.1 0 (by decide)
  refine zs_iald (pc := 15) t96_15 (j := 0) (by decide) (zk1 (hs.k fk_zMc_17)) li0 (zk2 (hs.k fk_zMc_17) (by decide)) rfl ?_
  refine zs_goto (pc := 16) t96_16 ?_
  refine zs_iret (pc := 20) t96_20 mr96 rfl ?_
  show zGo X l 6 0 0 187 9 [(0, .ref 6)] [.int (zI M 17 0), .int (2 : Int32)] M _
  obtain ⟨w9v, w9⟩ : ∃ v, (2 : Int32) * (zI M 17 0) = v := ⟨_, rfl⟩
  have w9g : w9v.toInt = 2 * (zI M 17 0).toInt := by rw [← w9]; exact zmulc li2 rfl (by omega) (by omega)
  refine zs_imul (pc := 9) t187_9 (c := w9v) w9 ?_
  refine zs_iconst (pc := 10) t187_10 (v := 1) (by decide) ?_
  obtain ⟨w10v, w10e, w10⟩ := ziadd (a := w9v) (b := (1 : Int32)) w9g li1 (by omega) (by omega)
  refine zs_iadd (pc := 11) t187_11 (c := w10v) w10e ?_
  refine zs_istore_n (pc := 12) t187_12 (ls' := [(1, .int w10v), (0, .ref 6)]) (zml mf187 (by decide)) rfl ?_
  refine zs_iconst (pc := 13) t187_13 (v := 2) (by decide) ?_
  refine zs_aload_n (pc := 14) t187_14 rfl ?_
  refine zs_get (pc := 15) t187_15 (by decide) (zk1 (hs.k fk_zMc_6)) (hs.p rfl fv_zMc_6_0) ?_
  refine zs_iconst (pc := 18) t187_18 (v := 1) (by decide) ?_
  refine zs_invV (pc := 19) (k := 7) (as' := [.int (1 : Int32)]) (st := [.int (2 : Int32)]) t187_19 mf96 rfl rfl (Or.inl ⟨by decide, (zk1 (hs.k fk_zMc_7))⟩) ⟨by decide, by decide, Nat.le_of_ble_eq_true rfl, Nat.le_of_ble_eq_true rfl⟩ (zs_in (by decide) mf96 (Nat.le_of_ble_eq_true rfl) ?_) (fun _ _ q => q)
  show zGo X l 0 0 0 96 0 [(0, .ref 7), (1, .int (1 : Int32))] [] M _
  refine zs_iload_n (pc := 0) t96_0 rfl ?_
  refine zs_if_ltF (pc := 1) t96_1 li1 (by decide) ?_
  refine zs_iload_n (pc := 4) t96_4 rfl ?_
  refine zs_bipush (pc := 5) t96_5 (v := 9) (by decide) ?_
  refine zs_icmp_geF (pc := 7) t96_7 li1 li9 (by decide) ?_
  refine zs_aload_n (pc := 10) t96_10 rfl ?_
  refine zs_get (pc := 11) t96_11 (by decide) (zk1 (hs.k fk_zMc_7)) (hs.p rfl fv_zMc_7_12) ?_
  refine zs_iload_n (pc := 14) t96_14 rfl ?_
  have w11 := ib17 hI 1
  have w12 : (zI M 17 1).toInt = F 6 := x0.2.2.2.2.1 1 (by decide)
  refine zs_iald (pc := 15) t96_15 (j := 1) (by decide) (zk1 (hs.k fk_zMc_17)) li1 (zk2 (hs.k fk_zMc_17) (by decide)) rfl ?_
  refine zs_goto (pc := 16) t96_16 ?_
  refine zs_iret (pc := 20) t96_20 mr96 rfl ?_
  show zGo X l 6 0 0 187 22 [(1, .int w10v), (0, .ref 6)] [.int (zI M 17 1), .int (2 : Int32)] M _
  obtain ⟨w13v, w13⟩ : ∃ v, (2 : Int32) * (zI M 17 1) = v := ⟨_, rfl⟩
  have w13g : w13v.toInt = 2 * (zI M 17 1).toInt := by rw [← w13]; exact zmulc li2 rfl (by omega) (by omega)
  refine zs_imul (pc := 22) t187_22 (c := w13v) w13 ?_
  refine zs_iconst (pc := 23) t187_23 (v := 1) (by decide) ?_
  obtain ⟨w14v, w14e, w14⟩ := ziadd (a := w13v) (b := (1 : Int32)) w13g li1 (by omega) (by omega)
  refine zs_iadd (pc := 24) t187_24 (c := w14v) w14e ?_
  refine zs_istore_n (pc := 25) t187_25 (ls' := [(2, .int w14v), (1, .int w10v), (0, .ref 6)]) (zml mf187 (by decide)) rfl ?_
  refine zs_aload_n (pc := 26) t187_26 rfl ?_
  refine zs_get (pc := 27) t187_27 (by decide) (zk1 (hs.k fk_zMc_6)) (hs.p rfl fv_zMc_6_0) ?_
  refine zs_invV (pc := 30) (k := 7) (as' := []) (st := []) t187_30 mf92 rfl rfl (Or.inl ⟨by decide, (zk1 (hs.k fk_zMc_7))⟩) ⟨by decide, by decide, Nat.le_of_ble_eq_true rfl, Nat.le_of_ble_eq_true rfl⟩ (X92_7 hs hI x0 x1 ?_) (fun _ _ q => q)
  intro w15v w15x0 w15a w15b
  show zGo X l 6 0 0 187 33 [(2, .int w14v), (1, .int w10v), (0, .ref 6)] [.int w15v] M _
  refine zs_iload_n (pc := 33) t187_33 rfl ?_
  obtain ⟨w16v, w16⟩ : ∃ v, w15v * w10v = v := ⟨_, rfl⟩
  have w16g := zrg w16v
  refine zs_imul (pc := 34) t187_34 (c := w16v) w16 ?_
  refine zs_iload_n (pc := 35) t187_35 rfl ?_
  obtain ⟨w17v, w17⟩ : ∃ v, w16v * w14v = v := ⟨_, rfl⟩
  have w17g := zrg w17v
  refine zs_imul (pc := 36) t187_36 (c := w17v) w17 ?_
  refine zs_bipush (pc := 37) t187_37 (v := 10) (by decide) ?_
  refine zs_aload_n (pc := 39) t187_39 rfl ?_
  refine zs_get (pc := 40) t187_40 (by decide) (zk1 (hs.k fk_zMc_6)) (hs.p rfl fv_zMc_6_6) ?_
  refine zs_aload_n (pc := 43) t187_43 rfl ?_
  refine zs_get (pc := 44) t187_44 (by decide) (zk1 (hs.k fk_zMc_6)) (hs.p rfl fv_zMc_6_0) ?_
  have w18 := zrg (zI M 166 10)
  have w19 : (zI M 166 10).toInt = (zI M 166 10).toInt := (congrArg Int32.toInt rfl).trans rfl
  have w20 : (zI M 166 10).toInt = (zI M 166 10).toInt := (congrArg Int32.toInt rfl).trans rfl
  refine zs_invV (pc := 47) (k := 164) (as' := [.ref 7]) (st := [.int (10 : Int32), .int w17v]) t187_47 mf105 rfl rfl (Or.inl ⟨by decide, (zk1 (hs.k fk_zMc_164))⟩) ⟨by decide, by decide, Nat.le_of_ble_eq_true rfl, Nat.le_of_ble_eq_true rfl⟩ (V105 hs hI (by omega) (by omega) x0 x1 x2 x3 ?_) (fun _ _ q => q)
  intro w21M w21s w21I w21F w21t0 w21t1 w21x0 w21x1 w21x2
  have w22 := zrg (zI w21M 166 10)
  show zGo X l 6 0 0 187 50 [(2, .int w14v), (1, .int w10v), (0, .ref 6)] [.ref 164, .int (10 : Int32), .int w17v] w21M _
  refine zs_invV (pc := 50) (k := 164) (as' := []) (st := [.int (10 : Int32), .int w17v]) t187_50 mf144 rfl rfl (Or.inl ⟨by decide, (zk1 (w21s.k fk_zMc_164))⟩) ⟨by decide, by decide, Nat.le_of_ble_eq_true rfl, Nat.le_of_ble_eq_true rfl⟩ (zs_in (by decide) mf144 (Nat.le_of_ble_eq_true rfl) ?_) (fun _ _ q => q)
  show zGo X l 0 0 0 144 0 [(0, .ref 164)] [] w21M _
  refine zs_aload_n (pc := 0) t144_0 rfl ?_
  have w23 := ib164_4 w21I
  refine zs_get (pc := 1) t144_1 (by decide) (zk1 (w21s.k fk_zMc_164)) (zfvi rfl rfl) ?_
  refine zs_iret (pc := 4) t144_4 mr144 rfl ?_
  show zGo X l 6 0 0 187 53 [(2, .int w14v), (1, .int w10v), (0, .ref 6)] [.int (zI w21M 164 4), .int (10 : Int32), .int w17v] w21M _
  obtain ⟨w24v, w24⟩ : ∃ v, (10 : Int32) * (zI w21M 164 4) = v := ⟨_, rfl⟩
  have w24g : w24v.toInt = 10 * (zI w21M 164 4).toInt := by rw [← w24]; exact zmulc li10 rfl (by omega) (by omega)
  refine zs_imul (pc := 53) t187_53 (c := w24v) w24 ?_
  obtain ⟨w25v, w25⟩ : ∃ v, v = w17v + w24v := ⟨_, rfl⟩
  have w25g := zrg w25v
  refine zs_iadd (pc := 54) t187_54 (c := w25v) w25.symm ?_
  have w26 : (zI w21M 166 10).toInt = (zI w21M 166 10).toInt := (congrArg Int32.toInt rfl).trans rfl
  have w27 := zrg (zI M 242 10)
  have w28 : (zI w21M 242 10).toInt = (zI M 242 10).toInt := (congrArg Int32.toInt ((w21F 242 10 rfl).trans rfl)).trans rfl
  exact zs_iret (pc := 55) t187_55 mr187 rfl (hQ _ _ w21s w21I ((zFr.refl).trans (w21F.mono rfl)) (by omega) (by omega) (by omega) (by omega) (fun _ => w21x0) w21x1 (zSp.fr x4 (fun j => (w21F 250 j rfl)) (w21F 242 10 rfl)))
