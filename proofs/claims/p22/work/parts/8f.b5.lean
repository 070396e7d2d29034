theorem P207 {X : zX} {l : Launch} {M : zM} {Q : Option Value → zM → Prop} {a b : Int32} (hs : zSk zMc M) (hI : zIv cLo cHi M) {F : Nat → Int} (u0 : (zI M 166 10).toInt ≤ 1600000000) (u1 : 0 ≤ (zI M 166 10).toInt) (u2 : (zI M 242 10).toInt ≤ 1600000000) (u3 : 0 ≤ (zI M 242 10).toInt) (x0 : zSo M 7 F) (x1 : zWF F) (x2 : zKnA M F) (x3 : zSp M 166 174) (x4 : zSp M 242 250) (hQ : ∀ (M' : zM) (v : Int32), zSk zMc M' → zIv cLo cHi M' → zFr [(164, 165, none), (166, 178, none), (180, 180, none), (181, 240, none), (317, 324, none), (325, 325, some 1), (326, 331, none), (166, 166, some 0), (166, 166, some 5), (166, 166, some 6), (166, 166, some 10), (166, 166, some 15), (166, 166, some 17), (166, 166, some 18), (167, 178, none), (325, 325, some 0)] M M' → ((zI M' 166 10).toInt ≤ (zI M 166 10).toInt + 20000) → ((zI M 166 10).toInt ≤ (zI M' 166 10).toInt) → ((zI M' 242 10).toInt ≤ (zI M 242 10).toInt + 20000) → ((zI M 242 10).toInt ≤ (zI M' 242 10).toInt) → (zKnA M' F) → (zSp M' 166 174) → (zSp M' 242 250) → Q (some (.int v)) M') : zCall X l 6 0 0 207 [.ref 6, .int a, .int b] M Q := by
  have ga := zrg a
  have gb := zrg b
  refine zs_in (by decide) mf207 (Nat.le_of_ble_eq_true rfl) ?_
  show zGo X l 6 0 0 207 0 [(0, .ref 6), (1, .int a), (2, .int b)] [] M _
  have f0 := x0.1
  have w1 := ib7_0 hI
  have w2 : (zI M 7 0).toInt = (zI M 7 0).toInt := (congrArg Int32.toInt rfl).trans rfl
  have w3 := ib7_3 hI
  have w4 : (zI M 7 3).toInt = (zI M 7 3).toInt := (congrArg Int32.toInt rfl).trans rfl
  have w5 := ib7_8 hI
  have w6 : (zI M 7 8).toInt = (zI M 7 8).toInt := (congrArg Int32.toInt rfl).trans rfl
  have f1 := x1.1
  have f3 := x1.2.2.2
  have f2 := (show (zI M 7 0).toInt = F 0 ∧ (zI M 7 3).toInt = F 1 ∧ (zI M 7 8).toInt = F 2 from ⟨x0.1.1, x0.1.2.1, x0.1.2.2.1⟩)
  refine zs_iload_n (pc := 0) t207_0 rfl ?_
  refine zs_iconst (pc := 1) t207_1 (v := 0) (by decide) ?_
  refine zs_bipush (pc := 2) t207_2 (v := 19) (by decide) ?_
  refine zs_invS (pc := 4) (as := [.int a, .int (0 : Int32), .int (19 : Int32)]) (st := []) t207_4 (by decide) mf39 rfl rfl ⟨by decide, by decide, Nat.le_of_ble_eq_true rfl, Nat.le_of_ble_eq_true rfl⟩ (zs_in (by decide) mf39 (Nat.le_of_ble_eq_true rfl) ?_) (fun _ _ q => q)
  show zGo X l 0 0 0 39 0 [(0, .int a), (1, .int (0 : Int32)), (2, .int (19 : Int32))] [] M _
  refine zs_iload_n (pc := 0) t39_0 rfl ?_
  refine zs_iload_n (pc := 1) t39_1 rfl ?_
  by_cases w7 : a.toInt < 0
  · refine zs_icmp_ltT (pc := 2) t39_2 rfl li0 (by omega) ?_
    refine zs_iconst (pc := 14) t39_14 (v := 0) (by decide) ?_
    refine zs_iret (pc := 15) t39_15 mr39 (by decide) ?_
    show zGo X l 6 0 0 207 7 [(0, .ref 6), (1, .int a), (2, .int b)] [.int (0 : Int32)] M _
    refine zs_if_eqT (pc := 7) t207_7 li0 (by decide) ?_
    refine zs_ldc (pc := 19) t207_19 (v := -100000) rfl (by decide) ?_
    have w8 := zrg (zI M 166 10)
    have w9 : (zI M 166 10).toInt = (zI M 166 10).toInt := (congrArg Int32.toInt rfl).trans rfl
    have w10 := zrg (zI M 242 10)
    have w11 : (zI M 242 10).toInt = (zI M 242 10).toInt := (congrArg Int32.toInt rfl).trans rfl
    have w12 := lin100000
    exact zs_iret (pc := 21) t207_21 mr207 (by decide) (hQ _ _ hs hI (zFr.refl) (by omega) (by omega) (by omega) (by omega) x2 x3 x4)
  · refine zs_icmp_ltF (pc := 2) t39_2 rfl li0 (by omega) ?_
    refine zs_iload_n (pc := 5) t39_5 rfl ?_
    refine zs_iload_n (pc := 6) t39_6 rfl ?_
    by_cases w13 : 19 < a.toInt
    · refine zs_icmp_gtT (pc := 7) t39_7 rfl li19 (by omega) ?_
      refine zs_iconst (pc := 14) t39_14 (v := 0) (by decide) ?_
      refine zs_iret (pc := 15) t39_15 mr39 (by decide) ?_
      show zGo X l 6 0 0 207 7 [(0, .ref 6), (1, .int a), (2, .int b)] [.int (0 : Int32)] M _
      refine zs_if_eqT (pc := 7) t207_7 li0 (by decide) ?_
      refine zs_ldc (pc := 19) t207_19 (v := -100000) rfl (by decide) ?_
      have w14 := zrg (zI M 166 10)
      have w15 : (zI M 166 10).toInt = (zI M 166 10).toInt := (congrArg Int32.toInt rfl).trans rfl
      have w16 := zrg (zI M 242 10)
      have w17 : (zI M 242 10).toInt = (zI M 242 10).toInt := (congrArg Int32.toInt rfl).trans rfl
      have w18 := lin100000
      exact zs_iret (pc := 21) t207_21 mr207 (by decide) (hQ _ _ hs hI (zFr.refl) (by omega) (by omega) (by omega) (by omega) x2 x3 x4)
    · refine zs_icmp_gtF (pc := 7) t39_7 rfl li19 (by omega) ?_
      refine zs_iconst (pc := 10) t39_10 (v := 1) (by decide) ?_
      refine zs_goto (pc := 11) t39_11 ?_
      refine zs_iret (pc := 15) t39_15 mr39 (by decide) ?_
      show zGo X l 6 0 0 207 7 [(0, .ref 6), (1, .int a), (2, .int b)] [.int (1 : Int32)] M _
      refine zs_if_eqF (pc := 7) t207_7 li1 (by decide) ?_
      refine zs_iload_n (pc := 10) t207_10 rfl ?_
      refine zs_iconst (pc := 11) t207_11 (v := 0) (by decide) ?_
      refine zs_iconst (pc := 12) t207_12 (v := 3) (by decide) ?_
      refine zs_invS (pc := 13) (as := [.int b, .int (0 : Int32), .int (3 : Int32)]) (st := []) t207_13 (by decide) mf39 rfl rfl ⟨by decide, by decide, Nat.le_of_ble_eq_true rfl, Nat.le_of_ble_eq_true rfl⟩ (zs_in (by decide) mf39 (Nat.le_of_ble_eq_true rfl) ?_) (fun _ _ q => q)
      show zGo X l 0 0 0 39 0 [(0, .int b), (1, .int (0 : Int32)), (2, .int (3 : Int32))] [] M _
      refine zs_iload_n (pc := 0) t39_0 rfl ?_
      refine zs_iload_n (pc := 1) t39_1 rfl ?_
      by_cases w19 : b.toInt < 0
      · refine zs_icmp_ltT (pc := 2) t39_2 rfl li0 (by omega) ?_
        refine zs_iconst (pc := 14) t39_14 (v := 0) (by decide) ?_
        refine zs_iret (pc := 15) t39_15 mr39 (by decide) ?_
        show zGo X l 6 0 0 207 16 [(0, .ref 6), (1, .int a), (2, .int b)] [.int (0 : Int32)] M _
        refine zs_if_neF (pc := 16) t207_16 li0 (by decide) ?_
        refine zs_ldc (pc := 19) t207_19 (v := -100000) rfl (by decide) ?_
        have w20 := zrg (zI M 166 10)
        have w21 : (zI M 166 10).toInt = (zI M 166 10).toInt := (congrArg Int32.toInt rfl).trans rfl
        have w22 := zrg (zI M 242 10)
        have w23 : (zI M 242 10).toInt = (zI M 242 10).toInt := (congrArg Int32.toInt rfl).trans rfl
        have w24 := lin100000
        exact zs_iret (pc := 21) t207_21 mr207 (by decide) (hQ _ _ hs hI (zFr.refl) (by omega) (by omega) (by omega) (by omega) x2 x3 x4)
      · refine zs_icmp_ltF (pc := 2) t39_2 rfl li0 (by omega) ?_
        refine zs_iload_n (pc := 5) t39_5 rfl ?_
        refine zs_iload_n (pc := 6) t39_6 rfl ?_
        by_cases w25 : 3 < b.toInt
        · refine zs_icmp_gtT (pc := 7) t39_7 rfl li3 (by omega) ?_
          refine zs_iconst (pc := 14) t39_14 (v := 0) (by decide) ?_
          refine zs_iret (pc := 15) t39_15 mr39 (by decide) ?_
          show zGo X l 6 0 0 207 16 [(0, .ref 6), (1, .int a), (2, .int b)] [.int (0 : Int32)] M _
          refine zs_if_neF (pc := 16) t207_16 li0 (by decide) ?_
          refine zs_ldc (pc := 19) t207_19 (v := -100000) rfl (by decide) ?_
          have w26 := zrg (zI M 166 10)
          have w27 : (zI M 166 10).toInt = (zI M 166 10).toInt := (congrArg Int32.toInt rfl).trans rfl
          have w28 := zrg (zI M 242 10)
          have w29 : (zI M 242 10).toInt = (zI M 242 10).toInt := (congrArg Int32.toInt rfl).trans rfl
          have w30 := lin100000
          exact zs_iret (pc := 21) t207_21 mr207 (by decide) (hQ _ _ hs hI (zFr.refl) (by omega) (by omega) (by omega) (by omega) x2 x3 x4)
        · refine zs_icmp_gtF (pc := 7) t39_7 rfl li3 (by omega) ?_
          refine zs_iconst (pc := 10) t39_10 (v := 1) (by decide) ?_
          refine zs_goto (pc := 11) t39_11 ?_
          refine zs_iret (pc := 15) t39_15 mr39 (by decide) ?_
          show zGo X l 6 0 0 207 16 [(0, .ref 6), (1, .int a), (2, .int b)] [.int (1 : Int32)] M _
          refine zs_if_neT (pc := 16) t207_16 li1 (by decide) ?_
          refine zs_aload_n (pc := 22) t207_22 rfl ?_
          refine zs_get (pc := 23) t207_23 (by decide) (zk1 (hs.k fk_zMc_6)) (hs.p rfl fv_zMc_6_7) ?_
          refine zs_aload_n (pc := 26) t207_26 rfl ?_
          refine zs_get (pc := 27) t207_27 (by decide) (zk1 (hs.k fk_zMc_6)) (hs.p rfl fv_zMc_6_0) ?_
          refine zs_aload_n (pc := 30) t207_30 rfl ?_
          refine zs_get (pc := 31) t207_31 (by decide) (zk1 (hs.k fk_zMc_6)) (hs.p rfl fv_zMc_6_6) ?_
          refine zs_aload_n (pc := 34) t207_34 rfl ?_
          refine zs_get (pc := 35) t207_35 (by decide) (zk1 (hs.k fk_zMc_6)) (hs.p rfl fv_zMc_6_0) ?_
          have w31 := zrg (zI M 166 10)
          have w32 : (zI M 166 10).toInt = (zI M 166 10).toInt := (congrArg Int32.toInt rfl).trans rfl
          have w33 : (zI M 166 10).toInt = (zI M 166 10).toInt := (congrArg Int32.toInt rfl).trans rfl
          refine zs_invV (pc := 38) (k := 164) (as' := [.ref 7]) (st := [.ref 7, .ref 325]) t207_38 mf105 rfl rfl (Or.inl ⟨by decide, (zk1 (hs.k fk_zMc_164))⟩) ⟨by decide, by decide, Nat.le_of_ble_eq_true rfl, Nat.le_of_ble_eq_true rfl⟩ (V105 hs hI (by omega) (by omega) x0 x1 x2 x3 ?_) (fun _ _ q => q)
          intro w34M w34s w34I w34F w34t0 w34t1 w34x0 w34x1 w34x2
          have w35 := zrg (zI w34M 166 10)
          show zGo X l 6 0 0 207 41 [(0, .ref 6), (1, .int a), (2, .int b)] [.ref 164, .ref 7, .ref 325] w34M _
          have w36 : (zI w34M 166 10).toInt = (zI w34M 166 10).toInt := (congrArg Int32.toInt rfl).trans rfl
          have w37 : (zI w34M 166 10).toInt = (zI w34M 166 10).toInt := (congrArg Int32.toInt rfl).trans rfl
          refine zs_invV (pc := 41) (k := 325) (as' := [.ref 7, .ref 164]) (st := []) t207_41 mf153 rfl rfl (Or.inl ⟨by decide, (zk1 (w34s.k fk_zMc_325))⟩) ⟨by decide, by decide, Nat.le_of_ble_eq_true rfl, Nat.le_of_ble_eq_true rfl⟩ (V153 w34s w34I (by omega) (by omega) (zSo.fr x0 (zFr.eq w34F rfl)) x1 w34x1 ?_) (fun _ _ q => q)
          intro w38M w38s w38I w38F w38t0 w38t1 w38x0
          have w39 := zrg (zI w38M 166 10)
          show zGo X l 6 0 0 207 44 [(0, .ref 6), (1, .int a), (2, .int b)] [.ref 325] w38M _
          refine zs_iload_n (pc := 44) t207_44 rfl ?_
          refine zs_iload_n (pc := 45) t207_45 rfl ?_
          refine zs_invV (pc := 46) (k := 325) (as' := [.int a, .int b]) (st := []) t207_46 mf208 rfl rfl (Or.inl ⟨by decide, (zk1 (w38s.k fk_zMc_325))⟩) ⟨by decide, by decide, Nat.le_of_ble_eq_true rfl, Nat.le_of_ble_eq_true rfl⟩ (C208_325 w38s w38I ⟨by omega, by omega⟩ ?_) (fun _ _ q => q)
          intro w40v w40a w40b
          show zGo X l 6 0 0 207 49 [(0, .ref 6), (1, .int a), (2, .int b)] [.int w40v] w38M _
          have w41 : (zI w38M 166 10).toInt = (zI w38M 166 10).toInt := (congrArg Int32.toInt rfl).trans rfl
          have w42 := zrg (zI M 242 10)
          have w43 : (zI w38M 242 10).toInt = (zI M 242 10).toInt := (congrArg Int32.toInt ((w38F 242 10 rfl).trans ((w34F 242 10 rfl).trans rfl))).trans rfl
          exact zs_iret (pc := 49) t207_49 mr207 rfl (hQ _ _ w38s w38I (((zFr.refl).trans (w34F.mono rfl)).trans (w38F.mono rfl)) (by omega) (by omega) (by omega) (by omega) (fun _ => (zPicA.fr w34x0 (fun j q => (w38F 164 j rfl)) (w38F 165 2 rfl) (zTf.eq (fun k j q1 q2 => (w38F k j (zoC (by omega) (zoC (by omega) (zoC (by omega) (zoC (by omega) (zoC (by omega) (zoC (by omega) (zoC (by omega) (zoC (by omega) (zoC (by omega) (zoC (by omega) (zoC (by omega) rfl)))))))))))))))) w38x0 (zSp.fr x4 (fun j => ((w38F 250 j rfl).trans (w34F 250 j rfl))) ((w38F 242 10 rfl).trans (w34F 242 10 rfl))))
theorem P180 {X : zX} {l : Launch} {M : zM} {Q : Option Value → zM → Prop} (hs : zSk zMc M) (hI : zIv cLo cHi M) {F : Nat → Int} (u0 : (zI M 166 10).toInt ≤ 1500000000) (u1 : 0 ≤ (zI M 166 10).toInt) (u2 : (zI M 242 10).toInt ≤ 1500000000) (u3 : 0 ≤ (zI M 242 10).toInt) (x0 : zSo M 7 F) (x1 : zWF F) (x2 : zKnA M F) (x3 : zSp M 166 174) (x4 : zSp M 242 250) (hQ : ∀ (M' : zM) (v : Int32), zSk zMc M' → zIv cLo cHi M' → zFr [(164, 165, none), (166, 178, none), (180, 180, none), (181, 240, none), (317, 324, none), (325, 325, some 1), (326, 331, none), (166, 166, some 0), (166, 166, some 5), (166, 166, some 6), (166, 166, some 10), (166, 166, some 15), (166, 166, some 17), (166, 166, some 18), (167, 178, none), (325, 325, some 0), (161, 161, none), (162, 163, none)] M M' → ((zI M' 166 10).toInt ≤ (zI M 166 10).toInt + 200000) → ((zI M 166 10).toInt ≤ (zI M' 166 10).toInt) → ((zI M' 242 10).toInt ≤ (zI M 242 10).toInt + 200000) → ((zI M 242 10).toInt ≤ (zI M' 242 10).toInt) → (zKnA M' F) → (zSp M' 166 174) → (zSp M' 242 250) → 0 ≤ v.toInt → v.toInt ≤ 1 → Q (some (.int v)) M') : zCall X l 99 0 0 180 [.ref 6] M Q := by
  refine zs_inD (by decide) mf180 (Nat.le_of_ble_eq_true rfl) ?_
  show zGo X l 99 0 0 180 0 [(0, .ref 6)] [] M _
  have f0 := x0.1
  have w1 := ib7_0 hI
  have w2 : (zI M 7 0).toInt = (zI M 7 0).toInt := (congrArg Int32.toInt rfl).trans rfl
  have w3 := ib7_3 hI
  have w4 : (zI M 7 3).toInt = (zI M 7 3).toInt := (congrArg Int32.toInt rfl).trans rfl
  have w5 := ib7_8 hI
  have w6 : (zI M 7 8).toInt = (zI M 7 8).toInt := (congrArg Int32.toInt rfl).trans rfl
  have f1 := x1.1
  have f3 := x1.2.2.2
  have f2 := (show (zI M 7 0).toInt = F 0 ∧ (zI M 7 3).toInt = F 1 ∧ (zI M 7 8).toInt = F 2 from ⟨x0.1.1, x0.1.2.1, x0.1.2.2.1⟩)
  refine zs_aload_n (pc := 0) t180_0 rfl ?_
  refine zs_get (pc := 1) t180_1 (by decide) (zk1 (hs.k fk_zMc_6)) (hs.p rfl fv_zMc_6_0) ?_
  have w7 := ib7_13 hI
  refine zs_get (pc := 4) t180_4 (by decide) (zk1 (hs.k fk_zMc_7)) (zfvi rfl rfl) ?_
  by_cases w8 : (zI M 7 13).toInt ≠ 0
  · refine zs_if_neT (pc := 7) t180_7 rfl (by omega) ?_
    refine zs_iconst (pc := 12) t180_12 (v := 0) (by decide) ?_
    refine zs_istore_n (pc := 13) t180_13 (ls' := [(1, .int (0 : Int32)), (0, .ref 6)]) (zml mf180 (by decide)) rfl ?_
    have w9L : ∀ (m : Nat) (w9x1 : Int32) (w9M : zM), (0 ≤ w9x1.toInt ∧ w9x1.toInt ≤ 8) → zSk zMc w9M → zIv cLo cHi w9M → zFr [(164, 165, none), (166, 178, none), (180, 180, none), (181, 240, none), (317, 324, none), (325, 325, some 1), (326, 331, none), (166, 166, some 0), (166, 166, some 5), (166, 166, some 6), (166, 166, some 10), (166, 166, some 15), (166, 166, some 17), (166, 166, some 18), (167, 178, none), (325, 325, some 0), (161, 161, none), (162, 163, none)] M w9M → ((zI w9M 166 10).toInt ≤ (zI M 166 10).toInt + 20000 * w9x1.toInt) → ((zI M 166 10).toInt ≤ (zI w9M 166 10).toInt) → ((zI w9M 242 10).toInt ≤ (zI M 242 10).toInt + 20000 * w9x1.toInt) → ((zI M 242 10).toInt ≤ (zI w9M 242 10).toInt) → (zKnA w9M F) → (zSp w9M 166 174) → (zSp w9M 242 250) → 8 - w9x1.toInt ≤ (m : Int) → zGo X l 99 0 0 180 14 [(0, .ref 6), (1, .int w9x1)] [] w9M Q := by
      intro m
      induction m using Nat.strongRecOn with
      | ind w9m w9ih =>
        intro w9x1 w9M w9b1 w9s w9I w9F w9r0 w9r1 w9r2 w9r3 w9t0 w9t1 w9t2 w9q
        have w10 := zrg (zI w9M 166 10)
        have w11 := zrg (zI M 166 10)
        have w12 : (zI M 166 10).toInt = (zI M 166 10).toInt := (congrArg Int32.toInt rfl).trans rfl
        have w13 : (zI M 166 10).toInt = (zI M 166 10).toInt := (congrArg Int32.toInt rfl).trans rfl
        have w14 := zrg (zI M 242 10)
        have w15 := zrg (zI M 242 10)
        have w16 : (zI M 242 10).toInt = (zI M 242 10).toInt := (congrArg Int32.toInt rfl).trans rfl
        have w17 : (zI M 242 10).toInt = (zI M 242 10).toInt := (congrArg Int32.toInt rfl).trans rfl
        refine zs_iload_n (pc := 14) t180_14 rfl ?_
        refine zs_ldc_ws (pc := 15) t180_15 (by decide) ?_
        refine zs_invV (pc := 18) (k := 4) (as' := []) (st := [.int w9x1]) t180_18 mf6 rfl rfl (Or.inr ⟨rfl, rfl⟩) ⟨by decide, by decide, Nat.le_of_ble_eq_true rfl, Nat.le_of_ble_eq_true rfl⟩ (zs_in (by decide) mf6 (Nat.le_of_ble_eq_true rfl) ?_) (fun _ _ q => q)
        show zGo X l 1 0 0 6 0 [(0, .ref 4)] [] w9M _
        refine zs_aload_n (pc := 0) t6_0 rfl ?_
        refine zs_gets (pc := 1) t6_1 (v := .ref 5) rfl ?_
        refine zs_alen (pc := 4) t6_4 (by decide) (zk3 (w9s.k fk_zMc_5) (by decide)) (zk4 (w9s.k fk_zMc_5)) (v := 8) (by decide) ?_
        refine zs_aload_n (pc := 5) t6_5 rfl ?_
        refine zs_invV (pc := 6) (k := 4) (as' := []) (st := [.int (8 : Int32)]) t6_6 mf7 rfl rfl (Or.inr ⟨rfl, rfl⟩) ⟨by decide, by decide, Nat.le_of_ble_eq_true rfl, Nat.le_of_ble_eq_true rfl⟩ (zs_in (by decide) mf7 (Nat.le_of_ble_eq_true rfl) ?_) (fun _ _ q => q)
        show zGo X l 0 0 0 7 0 [(0, .ref 4)] [] w9M _
        refine zs_getstatic (pc := 0) t7_0 (v := .int 1) rfl ?_
        refine zs_if_eqF (pc := 3) t7_3 li1 (by decide) ?_
        refine zs_aload_n (pc := 6) t7_6 rfl ?_
        refine zs_gets (pc := 7) t7_7 (v := .int (0 : Int32)) rfl ?_
        refine zs_goto (pc := 10) t7_10 ?_
        refine zs_iret (pc := 14) t7_14 mr7 (by decide) ?_
        show zGo X l 1 0 0 6 9 [(0, .ref 4)] [.int (0 : Int32), .int (8 : Int32)] w9M _
        refine zs_ishr (pc := 9) t6_9 (c := 8) (by decide) ?_
        refine zs_iret (pc := 10) t6_10 mr6 (by decide) ?_
        show zGo X l 99 0 0 180 21 [(0, .ref 6), (1, .int w9x1)] [.int (8 : Int32), .int w9x1] w9M _
        by_cases w18 : 8 ≤ w9x1.toInt
        · refine zs_icmp_geT (pc := 21) t180_21 rfl li8 (by omega) ?_
          refine zs_aload_n (pc := 66) t180_66 rfl ?_
          refine zs_get (pc := 67) t180_67 (by decide) (zk1 (w9s.k fk_zMc_6)) (w9s.p rfl fv_zMc_6_5) ?_
          refine zs_aload_n (pc := 70) t180_70 rfl ?_
          refine zs_get (pc := 71) t180_71 (by decide) (zk1 (w9s.k fk_zMc_6)) (w9s.p rfl fv_zMc_6_0) ?_
          refine zs_get (pc := 74) t180_74 (by decide) (zk1 (w9s.k fk_zMc_7)) (w9s.p rfl fv_zMc_7_14) ?_
          refine zs_aload_n (pc := 77) t180_77 rfl ?_
          refine zs_get (pc := 78) t180_78 (by decide) (zk1 (w9s.k fk_zMc_6)) (w9s.p rfl fv_zMc_6_0) ?_
          refine zs_get (pc := 81) t180_81 (by decide) (zk1 (w9s.k fk_zMc_7)) (zfvi rfl ((w9F 7 13 rfl).trans rfl)) ?_
          refine zs_invV9 (pc := 84) (k := 161) (as' := [.ref 18, .int (zI M 7 13)]) (st := []) t180_84 mf64 rfl rfl (Or.inl ⟨by decide, (zk1 (w9s.k fk_zMc_161))⟩) ⟨by decide, Nat.le_of_ble_eq_true rfl, Nat.le_of_ble_eq_true rfl⟩ (C64_161_18 w9s w9I ?_) (fun _ _ q => q)
          intro w19M w19v w19s w19I w19F w19a w19b
          show zGo X l 99 0 0 180 87 [(0, .ref 6), (1, .int w9x1)] [.int w19v] w19M _
          by_cases w20 : w19v.toInt = 0
          · refine zs_if_eqT (pc := 87) t180_87 rfl (by omega) ?_
            refine zs_iconst (pc := 94) t180_94 (v := 0) (by decide) ?_
            have w21 : (zI w19M 166 10).toInt = (zI w9M 166 10).toInt := (congrArg Int32.toInt ((w19F 166 10 rfl).trans rfl)).trans rfl
            have w22 : (zI w19M 242 10).toInt = (zI M 242 10).toInt := (congrArg Int32.toInt ((w19F 242 10 rfl).trans ((w9F 242 10 rfl).trans rfl))).trans rfl
            have w23 := li0
            exact zs_iret (pc := 95) t180_95 mr180 (by decide) (hQ _ _ w19s w19I (((zFr.refl).trans (w9F.mono rfl)).trans (w19F.mono rfl)) (by omega) (by omega) (by omega) (by omega) (zKnA.fr w9t0 (w19F 164 0 rfl) (fun j q => (w19F 164 j rfl)) (w19F 165 2 rfl) (zTf.eq (fun k j q1 q2 => (w19F k j (zoC (by omega) (zoC (by omega) rfl)))))) (zSp.fr w9t1 (fun j => (w19F 174 j rfl)) (w19F 166 10 rfl)) (zSp.fr w9t2 (fun j => (w19F 250 j rfl)) (w19F 242 10 rfl)) (by decide) (by decide))
          · refine zs_if_eqF (pc := 87) t180_87 rfl (by omega) ?_
            refine zs_iconst (pc := 90) t180_90 (v := 1) (by decide) ?_
            refine zs_goto (pc := 91) t180_91 ?_
            have w24 : (zI w19M 166 10).toInt = (zI w9M 166 10).toInt := (congrArg Int32.toInt ((w19F 166 10 rfl).trans rfl)).trans rfl
            have w25 : (zI w19M 242 10).toInt = (zI M 242 10).toInt := (congrArg Int32.toInt ((w19F 242 10 rfl).trans ((w9F 242 10 rfl).trans rfl))).trans rfl
            have w26 := li1
            exact zs_iret (pc := 95) t180_95 mr180 (by decide) (hQ _ _ w19s w19I (((zFr.refl).trans (w9F.mono rfl)).trans (w19F.mono rfl)) (by omega) (by omega) (by omega) (by omega) (zKnA.fr w9t0 (w19F 164 0 rfl) (fun j q => (w19F 164 j rfl)) (w19F 165 2 rfl) (zTf.eq (fun k j q1 q2 => (w19F k j (zoC (by omega) (zoC (by omega) rfl)))))) (zSp.fr w9t1 (fun j => (w19F 174 j rfl)) (w19F 166 10 rfl)) (zSp.fr w9t2 (fun j => (w19F 250 j rfl)) (w19F 242 10 rfl)) (by decide) (by decide))
        · refine zs_icmp_geF (pc := 21) t180_21 rfl li8 (by omega) ?_
          refine zs_aload_n (pc := 24) t180_24 rfl ?_
          refine zs_get (pc := 25) t180_25 (by decide) (zk1 (w9s.k fk_zMc_6)) (w9s.p rfl fv_zMc_6_0) ?_
          refine zs_ldc_ws (pc := 28) t180_28 (by decide) ?_
          refine zs_iload_n (pc := 31) t180_31 rfl ?_
          refine zs_invV (pc := 32) (k := 4) (as' := [.int w9x1]) (st := [.ref 7]) t180_32 mf181 rfl rfl (Or.inr ⟨rfl, rfl⟩) ⟨by decide, by decide, Nat.le_of_ble_eq_true rfl, Nat.le_of_ble_eq_true rfl⟩ (C181_4 w9s w9I ⟨by omega, by omega⟩ ?_) (fun _ _ q => q)
          intro w27v w27a w27b
          show zGo X l 99 0 0 180 35 [(0, .ref 6), (1, .int w9x1)] [.int w27v, .ref 7] w9M _
          refine zs_invV (pc := 35) (k := 7) (as' := [.int w27v]) (st := []) t180_35 mf185 rfl rfl (Or.inl ⟨by decide, (zk1 (w9s.k fk_zMc_7))⟩) ⟨by decide, by decide, Nat.le_of_ble_eq_true rfl, Nat.le_of_ble_eq_true rfl⟩ (C185_7 w9s w9I ⟨by omega, by omega⟩ ?_) (fun _ _ q => q)
          intro w28v w28a w28b
          show zGo X l 99 0 0 180 38 [(0, .ref 6), (1, .int w9x1)] [.int w28v] w9M _
          by_cases w29 : w28v.toInt = 0
          · refine zs_if_eqT (pc := 38) t180_38 rfl (by omega) ?_
            obtain ⟨w30v, w30e, w30⟩ := ziadd (a := w9x1) (b := Int32.ofInt 1) rfl (show (Int32.ofInt 1).toInt = 1 by decide) (by omega) (by omega)
            refine zs_iinc (pc := 60) t180_60 (ls' := [(1, .int w30v), (0, .ref 6)]) (zml mf180 (by decide)) rfl (c := w30v) w30e rfl ?_
            refine zs_goto (pc := 63) t180_63 ?_
            refine zGo.locals (ls' := [(0, .ref 6), (1, .int w30v)]) (by simp) ?_
            have w31 := w30
            have w32 : (zI w9M 166 10).toInt = (zI w9M 166 10).toInt := (congrArg Int32.toInt rfl).trans rfl
            have w33 : (zI w9M 166 10).toInt = (zI w9M 166 10).toInt := (congrArg Int32.toInt rfl).trans rfl
            have w34 : (zI w9M 242 10).toInt = (zI M 242 10).toInt := (congrArg Int32.toInt ((w9F 242 10 rfl).trans rfl)).trans rfl
            have w35 : (zI w9M 242 10).toInt = (zI M 242 10).toInt := (congrArg Int32.toInt ((w9F 242 10 rfl).trans rfl)).trans rfl
            exact w9ih (w9m - 1) (by omega) w30v w9M ⟨by omega, by omega⟩ w9s w9I ((zFr.refl).trans (w9F.mono rfl)) (by omega) (by omega) (by omega) (by omega) w9t0 w9t1 w9t2 (by omega)
          · refine zs_if_eqF (pc := 38) t180_38 rfl (by omega) ?_
            refine zs_aload_n (pc := 41) t180_41 rfl ?_
            refine zs_get (pc := 42) t180_42 (by decide) (zk1 (w9s.k fk_zMc_6)) (w9s.p rfl fv_zMc_6_5) ?_
            refine zs_iload_n (pc := 45) t180_45 rfl ?_
            refine zs_aload_n (pc := 46) t180_46 rfl ?_
            refine zs_ldc_ws (pc := 47) t180_47 (by decide) ?_
            refine zs_iload_n (pc := 50) t180_50 rfl ?_
            refine zs_invV (pc := 51) (k := 4) (as' := [.int w9x1]) (st := [.ref 6, .int w9x1, .ref 161]) t180_51 mf181 rfl rfl (Or.inr ⟨rfl, rfl⟩) ⟨by decide, by decide, Nat.le_of_ble_eq_true rfl, Nat.le_of_ble_eq_true rfl⟩ (C181_4 w9s w9I ⟨by omega, by omega⟩ ?_) (fun _ _ q => q)
            intro w36v w36a w36b
            show zGo X l 99 0 0 180 54 [(0, .ref 6), (1, .int w9x1)] [.int w36v, .ref 6, .int w9x1, .ref 161] w9M _
            have w37 : (zI w9M 166 10).toInt = (zI w9M 166 10).toInt := (congrArg Int32.toInt rfl).trans rfl
            have w38 : (zI w9M 242 10).toInt = (zI M 242 10).toInt := (congrArg Int32.toInt ((w9F 242 10 rfl).trans rfl)).trans rfl
            have w39 : (zI w9M 166 10).toInt = (zI w9M 166 10).toInt := (congrArg Int32.toInt rfl).trans rfl
            have w40 : (zI w9M 242 10).toInt = (zI M 242 10).toInt := (congrArg Int32.toInt ((w9F 242 10 rfl).trans rfl)).trans rfl
            refine zs_invV (pc := 54) (k := 6) (as' := [.int w36v]) (st := [.int w9x1, .ref 161]) t180_54 mf151 rfl rfl (Or.inl ⟨by decide, (zk1 (w9s.k fk_zMc_6))⟩) ⟨by decide, by decide, Nat.le_of_ble_eq_true rfl, Nat.le_of_ble_eq_true rfl⟩ (P151 w9s w9I (by omega) (by omega) (by omega) (by omega) (zSo.fr x0 (zFr.eq w9F rfl)) x1 w9t0 w9t1 w9t2 ?_) (fun _ _ q => q)
            intro w41M w41v w41s w41I w41F w41t0 w41t1 w41t2 w41t3 w41x0 w41x1 w41x2
            have w41g := zrg w41v
            have w42 := zrg (zI w41M 166 10)
            show zGo X l 99 0 0 180 57 [(0, .ref 6), (1, .int w9x1)] [.int w41v, .int w9x1, .ref 161] w41M _
            refine zs_invV (pc := 57) (k := 161) (as' := [.int w9x1, .int w41v]) (st := []) t180_57 mf186 rfl rfl (Or.inl ⟨by decide, (zk1 (w41s.k fk_zMc_161))⟩) ⟨by decide, by decide, Nat.le_of_ble_eq_true rfl, Nat.le_of_ble_eq_true rfl⟩ (zs_in (by decide) mf186 (Nat.le_of_ble_eq_true rfl) ?_) (fun _ _ q => q)
            show zGo X l 0 0 0 186 0 [(0, .ref 161), (1, .int w9x1), (2, .int w41v)] [] w41M _
            refine zs_iload_n (pc := 0) t186_0 rfl ?_
            refine zs_if_ltF (pc := 1) t186_1 rfl (by omega) ?_
            refine zs_iload_n (pc := 4) t186_4 rfl ?_
            refine zs_aload_n (pc := 5) t186_5 rfl ?_
            refine zs_get (pc := 6) t186_6 (by decide) (zk1 (w41s.k fk_zMc_161)) (w41s.p rfl fv_zMc_161_0) ?_
            refine zs_alen (pc := 9) t186_9 (by decide) (zk3 (w41s.k fk_zMc_162) (by decide)) (zk4 (w41s.k fk_zMc_162)) (v := 8) (by decide) ?_
            refine zs_icmp_geF (pc := 10) t186_10 rfl li8 (by omega) ?_
            refine zs_aload_n (pc := 13) t186_13 rfl ?_
            refine zs_get (pc := 14) t186_14 (by decide) (zk1 (w41s.k fk_zMc_161)) (w41s.p rfl fv_zMc_161_0) ?_
            refine zs_iload_n (pc := 17) t186_17 rfl ?_
            refine zs_iload_n (pc := 18) t186_18 rfl ?_
            obtain ⟨w43n, w43⟩ : ∃ n : Nat, w9x1.toInt = (n : Int) := ⟨(w9x1.toInt).toNat, by omega⟩
            have w44 : zIv cLo cHi (zsI w41M 162 w43n w41v) := zIv.put w41I (show (-2147483648) ≤ w41v.toInt ∧ w41v.toInt ≤ 2147483647 from zrg w41v)
            refine zs_iast (pc := 19) t186_19 (j := w43n) (by decide) (zk1 (w41s.k fk_zMc_162)) (show w9x1.toInt = ((w43n : Nat) : Int) by omega) (zk2 (w41s.k fk_zMc_162) (by omega)) ?_
            refine zs_vret (pc := 20) t186_20 mr186 ?_
            show zGo X l 99 0 0 180 60 [(0, .ref 6), (1, .int w9x1)] [] (zsI w41M 162 w43n w41v) _
            obtain ⟨w45v, w45e, w45⟩ := ziadd (a := w9x1) (b := Int32.ofInt 1) rfl (show (Int32.ofInt 1).toInt = 1 by decide) (by omega) (by omega)
            refine zs_iinc (pc := 60) t180_60 (ls' := [(1, .int w45v), (0, .ref 6)]) (zml mf180 (by decide)) rfl (c := w45v) w45e rfl ?_
            refine zs_goto (pc := 63) t180_63 ?_
            refine zGo.locals (ls' := [(0, .ref 6), (1, .int w45v)]) (by simp) ?_
            have w46 := w45
            have w47 : (zI (zsI w41M 162 w43n w41v) 166 10).toInt = (zI w41M 166 10).toInt := (congrArg Int32.toInt ((zIo (by decide)).trans rfl)).trans rfl
            have w48 : (zI (zsI w41M 162 w43n w41v) 166 10).toInt = (zI w41M 166 10).toInt := (congrArg Int32.toInt ((zIo (by decide)).trans rfl)).trans rfl
            have w49 : (zI (zsI w41M 162 w43n w41v) 242 10).toInt = (zI M 242 10).toInt := (congrArg Int32.toInt ((zIo (by decide)).trans ((w41F 242 10 rfl).trans ((w9F 242 10 rfl).trans rfl)))).trans rfl
            have w50 : (zI (zsI w41M 162 w43n w41v) 242 10).toInt = (zI M 242 10).toInt := (congrArg Int32.toInt ((zIo (by decide)).trans ((w41F 242 10 rfl).trans ((w9F 242 10 rfl).trans rfl)))).trans rfl
            exact w9ih (w9m - 1) (by omega) w45v (zsI w41M 162 w43n w41v) ⟨by omega, by omega⟩ w41s w44 ((((zFr.refl).trans (w9F.mono rfl)).trans (w41F.mono rfl)).put rfl) (by omega) (by omega) (by omega) (by omega) (zKnA.fr w41x0 (zIo (by decide)) (fun j q => (zIo (by decide))) (zIo (by decide)) (zTf.eq (fun k j q1 q2 => (zIo (by omega))))) (zSp.fr w41x1 (fun j => (zIo (by decide))) (zIo (by decide))) (zSp.fr w41x2 (fun j => (zIo (by decide))) (zIo (by decide))) (by omega)
    refine zGo.locals (ls' := [(0, .ref 6), (1, .int (0 : Int32))]) (by simp) ?_
    have w51 := li0
    have w52 : (zI M 166 10).toInt = (zI M 166 10).toInt := (congrArg Int32.toInt rfl).trans rfl
    have w53 : (zI M 166 10).toInt = (zI M 166 10).toInt := (congrArg Int32.toInt rfl).trans rfl
    have w54 : (zI M 242 10).toInt = (zI M 242 10).toInt := (congrArg Int32.toInt rfl).trans rfl
    have w55 : (zI M 242 10).toInt = (zI M 242 10).toInt := (congrArg Int32.toInt rfl).trans rfl
    exact w9L ((8 - 0 : Int).toNat) (0 : Int32) M ⟨by decide, by decide⟩ hs hI zFr.refl (by omega) (by omega) (by omega) (by omega) x2 x3 x4 (by omega)
  · refine zs_if_neF (pc := 7) t180_7 rfl (by omega) ?_
    refine zs_iconst (pc := 10) t180_10 (v := 0) (by decide) ?_
    have w56 := zrg (zI M 166 10)
    have w57 : (zI M 166 10).toInt = (zI M 166 10).toInt := (congrArg Int32.toInt rfl).trans rfl
    have w58 := zrg (zI M 242 10)
    have w59 : (zI M 242 10).toInt = (zI M 242 10).toInt := (congrArg Int32.toInt rfl).trans rfl
    have w60 := li0
    exact zs_iret (pc := 11) t180_11 mr180 (by decide) (hQ _ _ hs hI (zFr.refl) (by omega) (by omega) (by omega) (by omega) x2 x3 x4 (by decide) (by decide))
