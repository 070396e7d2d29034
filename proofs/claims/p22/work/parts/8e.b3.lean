theorem Q323 {X : zX} {l : Launch} {M : zM} {Q : Option Value → zM → Prop} {a b c d e : Int32} (hs : zSk zMm M) (hI : zIv mLo mHi M) {F : Nat → Int} (pR : zPR M) (pC : zPC M) (pF : zPF M) (x0 : zRw M 0 F) (x1 : zWF F) (x2 : zKnB M F) (hQ : ∀ (M' : zM) (v : Int32), zSk zMm M' → zIv mLo mHi M' → zFr [(336, 336, some 3), (336, 336, some 18), (336, 336, some 19), (336, 336, some 20), (336, 336, some 21), (336, 336, some 22), (336, 336, some 37), (336, 336, some 39), (336, 336, some 42), (336, 336, some 43), (336, 336, some 44), (336, 336, some 45), (342, 361, none)] M M' → zPR M' → zPC M' → zPF M' → (zKnB M' F) → Q (some (.int v)) M') : zCall X l 9 0 0 323 [.ref 336, .int a, .int b, .int c, .int d, .int e] M Q := by
  have ga := zrg a
  have gb := zrg b
  have gc := zrg c
  have gd := zrg d
  have ge := zrg e
  refine zs_in (by decide) mf323 (Nat.le_of_ble_eq_true rfl) ?_
  show zGo X l 9 0 0 323 0 [(0, .ref 336), (1, .int a), (2, .int b), (3, .int c), (4, .int d), (5, .int e)] [] M _
  have f1 := x1.1
  have f3 := x1.2.2.2
  have w1 := ibA0 hI
  have w2 : (zI M 337 0).toInt = (zI M 337 0).toInt := (congrArg Int32.toInt rfl).trans rfl
  have e0 : (zI M 337 0).toInt = F 0 := x0.at (by decide) (by decide) (by decide)
  have w3 := ibA1 hI
  have w4 : (zI M 337 1).toInt = (zI M 337 1).toInt := (congrArg Int32.toInt rfl).trans rfl
  have e1 : (zI M 337 1).toInt = F 1 := x0.at (by decide) (by decide) (by decide)
  have w5 := ibA2 hI
  have w6 : (zI M 337 2).toInt = (zI M 337 2).toInt := (congrArg Int32.toInt rfl).trans rfl
  have e2 : (zI M 337 2).toInt = F 2 := x0.at (by decide) (by decide) (by decide)
  refine zs_iload_n (pc := 0) t323_0 rfl ?_
  refine zs_iload_n (pc := 1) t323_1 rfl ?_
  refine zs_iload_n (pc := 2) t323_2 rfl ?_
  refine zs_iload (pc := 3) t323_3 rfl ?_
  refine zs_invS (pc := 5) (as := [.int a, .int b, .int c, .int d]) (st := []) t323_5 (by decide) mf324 rfl rfl ⟨by decide, by decide, Nat.le_of_ble_eq_true rfl, Nat.le_of_ble_eq_true rfl⟩ (zs_in (by decide) mf324 (Nat.le_of_ble_eq_true rfl) ?_) (fun _ _ q => q)
  show zGo X l 1 0 0 324 0 [(0, .int a), (1, .int b), (2, .int c), (3, .int d)] [] M _
  refine zs_iload_n (pc := 0) t324_0 rfl ?_
  refine zs_i2l (pc := 1) t324_1 rfl ?_
  refine zs_lconst (pc := 2) t324_2 (v := 1) (by decide) ?_
  refine zs_ldc2_w (pc := 3) t324_3 (v := 200) (by decide) ?_
  by_cases w7 : 1 ≤ a.toInt ∧ a.toInt ≤ 200
  · refine zs_invS (pc := 6) (as := [.long a.toInt64, .long (1 : Int64), .long (200 : Int64)]) (st := []) t324_6 (by decide) mf228 rfl rfl ⟨by decide, by decide, Nat.le_of_ble_eq_true rfl, Nat.le_of_ble_eq_true rfl⟩ (K228T (zi2l rfl) ll1 ll200 (by omega) ?_) (fun _ _ q => q)
    show zGo X l 1 0 0 324 9 [(0, .int a), (1, .int b), (2, .int c), (3, .int d)] [.int (1 : Int32)] M _
    refine zs_if_eqF (pc := 9) t324_9 li1 (by decide) ?_
    refine zs_iload_n (pc := 12) t324_12 rfl ?_
    refine zs_i2l (pc := 13) t324_13 rfl ?_
    refine zs_lconst (pc := 14) t324_14 (v := 1) (by decide) ?_
    refine zs_ldc2_w (pc := 15) t324_15 (v := 999) (by decide) ?_
    by_cases w8 : 1 ≤ b.toInt ∧ b.toInt ≤ 999
    · refine zs_invS (pc := 18) (as := [.long b.toInt64, .long (1 : Int64), .long (999 : Int64)]) (st := []) t324_18 (by decide) mf228 rfl rfl ⟨by decide, by decide, Nat.le_of_ble_eq_true rfl, Nat.le_of_ble_eq_true rfl⟩ (K228T (zi2l rfl) ll1 ll999 (by omega) ?_) (fun _ _ q => q)
      show zGo X l 1 0 0 324 21 [(0, .int a), (1, .int b), (2, .int c), (3, .int d)] [.int (1 : Int32)] M _
      refine zs_if_eqF (pc := 21) t324_21 li1 (by decide) ?_
      refine zs_iload_n (pc := 24) t324_24 rfl ?_
      refine zs_i2l (pc := 25) t324_25 rfl ?_
      refine zs_lconst (pc := 26) t324_26 (v := 1) (by decide) ?_
      refine zs_ldc2_w (pc := 27) t324_27 (v := 8) (by decide) ?_
      by_cases w9 : 1 ≤ c.toInt ∧ c.toInt ≤ 8
      · refine zs_invS (pc := 30) (as := [.long c.toInt64, .long (1 : Int64), .long (8 : Int64)]) (st := []) t324_30 (by decide) mf228 rfl rfl ⟨by decide, by decide, Nat.le_of_ble_eq_true rfl, Nat.le_of_ble_eq_true rfl⟩ (K228T (zi2l rfl) ll1 ll8 (by omega) ?_) (fun _ _ q => q)
        show zGo X l 1 0 0 324 33 [(0, .int a), (1, .int b), (2, .int c), (3, .int d)] [.int (1 : Int32)] M _
        refine zs_if_eqF (pc := 33) t324_33 li1 (by decide) ?_
        refine zs_iload_n (pc := 36) t324_36 rfl ?_
        refine zs_i2l (pc := 37) t324_37 rfl ?_
        refine zs_lconst (pc := 38) t324_38 (v := 0) (by decide) ?_
        refine zs_ldc2_w (pc := 39) t324_39 (v := 50) (by decide) ?_
        by_cases w10 : 0 ≤ d.toInt ∧ d.toInt ≤ 50
        · refine zs_invS (pc := 42) (as := [.long d.toInt64, .long (0 : Int64), .long (50 : Int64)]) (st := []) t324_42 (by decide) mf228 rfl rfl ⟨by decide, by decide, Nat.le_of_ble_eq_true rfl, Nat.le_of_ble_eq_true rfl⟩ (K228T (zi2l rfl) ll0 ll50 (by omega) ?_) (fun _ _ q => q)
          show zGo X l 1 0 0 324 45 [(0, .int a), (1, .int b), (2, .int c), (3, .int d)] [.int (1 : Int32)] M _
          refine zs_if_eqF (pc := 45) t324_45 li1 (by decide) ?_
          refine zs_iconst (pc := 48) t324_48 (v := 1) (by decide) ?_
          refine zs_goto (pc := 49) t324_49 ?_
          refine zs_iret (pc := 53) t324_53 mr324 (by decide) ?_
          show zGo X l 9 0 0 323 8 [(0, .ref 336), (1, .int a), (2, .int b), (3, .int c), (4, .int d), (5, .int e)] [.int (1 : Int32)] M _
          refine zs_if_eqF (pc := 8) t323_8 li1 (by decide) ?_
          refine zs_iload (pc := 11) t323_11 rfl ?_
          refine zs_i2l (pc := 13) t323_13 rfl ?_
          refine zs_lconst (pc := 14) t323_14 (v := 0) (by decide) ?_
          refine zs_ldc2_w (pc := 15) t323_15 (v := 3) (by decide) ?_
          by_cases w11 : 0 ≤ e.toInt ∧ e.toInt ≤ 3
          · refine zs_invS (pc := 18) (as := [.long e.toInt64, .long (0 : Int64), .long (3 : Int64)]) (st := []) t323_18 (by decide) mf228 rfl rfl ⟨by decide, by decide, Nat.le_of_ble_eq_true rfl, Nat.le_of_ble_eq_true rfl⟩ (K228T (zi2l rfl) ll0 ll3 (by omega) ?_) (fun _ _ q => q)
            show zGo X l 9 0 0 323 21 [(0, .ref 336), (1, .int a), (2, .int b), (3, .int c), (4, .int d), (5, .int e)] [.int (1 : Int32)] M _
            refine zs_if_neT (pc := 21) t323_21 li1 (by decide) ?_
            refine zs_aload_n (pc := 26) t323_26 rfl ?_
            refine zs_iload_n (pc := 27) t323_27 rfl ?_
            refine zs_iload_n (pc := 28) t323_28 rfl ?_
            refine zs_iload_n (pc := 29) t323_29 rfl ?_
            refine zs_iload (pc := 30) t323_30 rfl ?_
            refine zs_invV (pc := 32) (k := 336) (as' := [.int a, .int b, .int c, .int d]) (st := []) t323_32 mf325 rfl rfl (Or.inl ⟨by decide, (zk1 (hs.k fk_zMm_336))⟩) ⟨by decide, by decide, Nat.le_of_ble_eq_true rfl, Nat.le_of_ble_eq_true rfl⟩ (Q325 hs hI pR pF ⟨by omega, by omega⟩ ⟨by omega, by omega⟩ ⟨by omega, by omega⟩ ⟨by omega, by omega⟩ x0 x1 x2 ?_) (fun _ _ q => q)
            intro w12M w12s w12I w12F w12PF w12x0
            show zGo X l 9 0 0 323 35 [(0, .ref 336), (1, .int a), (2, .int b), (3, .int c), (4, .int d), (5, .int e)] [] w12M _
            refine zs_iload (pc := 35) t323_35 rfl ?_
            by_cases w13 : e.toInt ≠ 0
            · refine zs_if_neT (pc := 37) t323_37 rfl (by omega) ?_
              refine zs_iload (pc := 47) t323_47 rfl ?_
              refine zs_iconst (pc := 49) t323_49 (v := 1) (by decide) ?_
              by_cases w14 : e.toInt ≠ 1
              · refine zs_icmp_neT (pc := 50) t323_50 rfl li1 (by omega) ?_
                refine zs_iload (pc := 60) t323_60 rfl ?_
                refine zs_iconst (pc := 62) t323_62 (v := 2) (by decide) ?_
                by_cases w15 : e.toInt ≠ 2
                · refine zs_icmp_neT (pc := 63) t323_63 rfl li2 (by omega) ?_
                  refine zs_aload_n (pc := 73) t323_73 rfl ?_
                  have w16 := zrg (zI w12M 336 45)
                  refine zs_get (pc := 74) t323_74 (by decide) (zk1 (w12s.k fk_zMm_336)) (zfvi rfl rfl) ?_
                  exact zs_iret (pc := 77) t323_77 mr323 rfl (hQ _ _ w12s w12I ((zFr.refl).trans (w12F.mono rfl)) (zPR.fr pR (w12F.eq rfl)) (zPC.fr pC (w12F.eq rfl)) w12PF w12x0)
                · refine zs_icmp_neF (pc := 63) t323_63 rfl li2 (by omega) ?_
                  refine zs_aload_n (pc := 66) t323_66 rfl ?_
                  have w17 := zrg (zI w12M 336 44)
                  refine zs_get (pc := 67) t323_67 (by decide) (zk1 (w12s.k fk_zMm_336)) (zfvi rfl rfl) ?_
                  refine zs_goto (pc := 70) t323_70 ?_
                  exact zs_iret (pc := 77) t323_77 mr323 rfl (hQ _ _ w12s w12I ((zFr.refl).trans (w12F.mono rfl)) (zPR.fr pR (w12F.eq rfl)) (zPC.fr pC (w12F.eq rfl)) w12PF w12x0)
              · refine zs_icmp_neF (pc := 50) t323_50 rfl li1 (by omega) ?_
                refine zs_aload_n (pc := 53) t323_53 rfl ?_
                have w18 := zrg (zI w12M 336 43)
                refine zs_get (pc := 54) t323_54 (by decide) (zk1 (w12s.k fk_zMm_336)) (zfvi rfl rfl) ?_
                refine zs_goto (pc := 57) t323_57 ?_
                exact zs_iret (pc := 77) t323_77 mr323 rfl (hQ _ _ w12s w12I ((zFr.refl).trans (w12F.mono rfl)) (zPR.fr pR (w12F.eq rfl)) (zPC.fr pC (w12F.eq rfl)) w12PF w12x0)
            · refine zs_if_neF (pc := 37) t323_37 rfl (by omega) ?_
              refine zs_aload_n (pc := 40) t323_40 rfl ?_
              have w19 := zrg (zI w12M 336 42)
              refine zs_get (pc := 41) t323_41 (by decide) (zk1 (w12s.k fk_zMm_336)) (zfvi rfl rfl) ?_
              refine zs_goto (pc := 44) t323_44 ?_
              exact zs_iret (pc := 77) t323_77 mr323 rfl (hQ _ _ w12s w12I ((zFr.refl).trans (w12F.mono rfl)) (zPR.fr pR (w12F.eq rfl)) (zPC.fr pC (w12F.eq rfl)) w12PF w12x0)
          · refine zs_invS (pc := 18) (as := [.long e.toInt64, .long (0 : Int64), .long (3 : Int64)]) (st := []) t323_18 (by decide) mf228 rfl rfl ⟨by decide, by decide, Nat.le_of_ble_eq_true rfl, Nat.le_of_ble_eq_true rfl⟩ (K228F (zi2l rfl) ll0 ll3 (by omega) ?_) (fun _ _ q => q)
            show zGo X l 9 0 0 323 21 [(0, .ref 336), (1, .int a), (2, .int b), (3, .int c), (4, .int d), (5, .int e)] [.int (0 : Int32)] M _
            refine zs_if_neF (pc := 21) t323_21 li0 (by decide) ?_
            refine zs_iconst (pc := 24) t323_24 (v := -1) (by decide) ?_
            have w20 : (-1 : Int32).toInt = (-1) := lin1
            exact zs_iret (pc := 25) t323_25 mr323 (by decide) (hQ _ _ hs hI (zFr.refl) pR pC pF x2)
        · refine zs_invS (pc := 42) (as := [.long d.toInt64, .long (0 : Int64), .long (50 : Int64)]) (st := []) t324_42 (by decide) mf228 rfl rfl ⟨by decide, by decide, Nat.le_of_ble_eq_true rfl, Nat.le_of_ble_eq_true rfl⟩ (K228F (zi2l rfl) ll0 ll50 (by omega) ?_) (fun _ _ q => q)
          show zGo X l 1 0 0 324 45 [(0, .int a), (1, .int b), (2, .int c), (3, .int d)] [.int (0 : Int32)] M _
          refine zs_if_eqT (pc := 45) t324_45 li0 (by decide) ?_
          refine zs_iconst (pc := 52) t324_52 (v := 0) (by decide) ?_
          refine zs_iret (pc := 53) t324_53 mr324 (by decide) ?_
          show zGo X l 9 0 0 323 8 [(0, .ref 336), (1, .int a), (2, .int b), (3, .int c), (4, .int d), (5, .int e)] [.int (0 : Int32)] M _
          refine zs_if_eqT (pc := 8) t323_8 li0 (by decide) ?_
          refine zs_iconst (pc := 24) t323_24 (v := -1) (by decide) ?_
          have w21 : (-1 : Int32).toInt = (-1) := lin1
          exact zs_iret (pc := 25) t323_25 mr323 (by decide) (hQ _ _ hs hI (zFr.refl) pR pC pF x2)
      · refine zs_invS (pc := 30) (as := [.long c.toInt64, .long (1 : Int64), .long (8 : Int64)]) (st := []) t324_30 (by decide) mf228 rfl rfl ⟨by decide, by decide, Nat.le_of_ble_eq_true rfl, Nat.le_of_ble_eq_true rfl⟩ (K228F (zi2l rfl) ll1 ll8 (by omega) ?_) (fun _ _ q => q)
        show zGo X l 1 0 0 324 33 [(0, .int a), (1, .int b), (2, .int c), (3, .int d)] [.int (0 : Int32)] M _
        refine zs_if_eqT (pc := 33) t324_33 li0 (by decide) ?_
        refine zs_iconst (pc := 52) t324_52 (v := 0) (by decide) ?_
        refine zs_iret (pc := 53) t324_53 mr324 (by decide) ?_
        show zGo X l 9 0 0 323 8 [(0, .ref 336), (1, .int a), (2, .int b), (3, .int c), (4, .int d), (5, .int e)] [.int (0 : Int32)] M _
        refine zs_if_eqT (pc := 8) t323_8 li0 (by decide) ?_
        refine zs_iconst (pc := 24) t323_24 (v := -1) (by decide) ?_
        have w22 : (-1 : Int32).toInt = (-1) := lin1
        exact zs_iret (pc := 25) t323_25 mr323 (by decide) (hQ _ _ hs hI (zFr.refl) pR pC pF x2)
    · refine zs_invS (pc := 18) (as := [.long b.toInt64, .long (1 : Int64), .long (999 : Int64)]) (st := []) t324_18 (by decide) mf228 rfl rfl ⟨by decide, by decide, Nat.le_of_ble_eq_true rfl, Nat.le_of_ble_eq_true rfl⟩ (K228F (zi2l rfl) ll1 ll999 (by omega) ?_) (fun _ _ q => q)
      show zGo X l 1 0 0 324 21 [(0, .int a), (1, .int b), (2, .int c), (3, .int d)] [.int (0 : Int32)] M _
      refine zs_if_eqT (pc := 21) t324_21 li0 (by decide) ?_
      refine zs_iconst (pc := 52) t324_52 (v := 0) (by decide) ?_
      refine zs_iret (pc := 53) t324_53 mr324 (by decide) ?_
      show zGo X l 9 0 0 323 8 [(0, .ref 336), (1, .int a), (2, .int b), (3, .int c), (4, .int d), (5, .int e)] [.int (0 : Int32)] M _
      refine zs_if_eqT (pc := 8) t323_8 li0 (by decide) ?_
      refine zs_iconst (pc := 24) t323_24 (v := -1) (by decide) ?_
      have w23 : (-1 : Int32).toInt = (-1) := lin1
      exact zs_iret (pc := 25) t323_25 mr323 (by decide) (hQ _ _ hs hI (zFr.refl) pR pC pF x2)
  · refine zs_invS (pc := 6) (as := [.long a.toInt64, .long (1 : Int64), .long (200 : Int64)]) (st := []) t324_6 (by decide) mf228 rfl rfl ⟨by decide, by decide, Nat.le_of_ble_eq_true rfl, Nat.le_of_ble_eq_true rfl⟩ (K228F (zi2l rfl) ll1 ll200 (by omega) ?_) (fun _ _ q => q)
    show zGo X l 1 0 0 324 9 [(0, .int a), (1, .int b), (2, .int c), (3, .int d)] [.int (0 : Int32)] M _
    refine zs_if_eqT (pc := 9) t324_9 li0 (by decide) ?_
    refine zs_iconst (pc := 52) t324_52 (v := 0) (by decide) ?_
    refine zs_iret (pc := 53) t324_53 mr324 (by decide) ?_
    show zGo X l 9 0 0 323 8 [(0, .ref 336), (1, .int a), (2, .int b), (3, .int c), (4, .int d), (5, .int e)] [.int (0 : Int32)] M _
    refine zs_if_eqT (pc := 8) t323_8 li0 (by decide) ?_
    refine zs_iconst (pc := 24) t323_24 (v := -1) (by decide) ?_
    have w24 : (-1 : Int32).toInt = (-1) := lin1
    exact zs_iret (pc := 25) t323_25 mr323 (by decide) (hQ _ _ hs hI (zFr.refl) pR pC pF x2)
theorem Q326 {X : zX} {l : Launch} {M : zM} {Q : Option Value → zM → Prop} {a b c : Int32} (hs : zSk zMm M) (hI : zIv mLo mHi M) {F : Nat → Int} (pR : zPR M) (pC : zPC M) (pF : zPF M) (x0 : zRw M 0 F) (x1 : zWF F) (x2 : zKnB M F) (hQ : ∀ (M' : zM) (v : Int32), zSk zMm M' → zIv mLo mHi M' → zFr [(336, 336, some 3), (336, 336, some 18), (336, 336, some 19), (336, 336, some 20), (336, 336, some 21), (336, 336, some 22), (336, 336, some 37), (336, 336, some 39), (336, 336, some 42), (336, 336, some 43), (336, 336, some 44), (336, 336, some 45), (342, 361, none)] M M' → zPR M' → zPC M' → zPF M' → (zKnB M' F) → Q (some (.int v)) M') : zCall X l 9 0 0 326 [.ref 336, .int a, .int b, .int c] M Q := by
  have ga := zrg a
  have gb := zrg b
  have gc := zrg c
  refine zs_in (by decide) mf326 (Nat.le_of_ble_eq_true rfl) ?_
  show zGo X l 9 0 0 326 0 [(0, .ref 336), (1, .int a), (2, .int b), (3, .int c)] [] M _
  have f1 := x1.1
  have f3 := x1.2.2.2
  have w1 := ibA0 hI
  have w2 : (zI M 337 0).toInt = (zI M 337 0).toInt := (congrArg Int32.toInt rfl).trans rfl
  have e0 : (zI M 337 0).toInt = F 0 := x0.at (by decide) (by decide) (by decide)
  have w3 := ibA1 hI
  have w4 : (zI M 337 1).toInt = (zI M 337 1).toInt := (congrArg Int32.toInt rfl).trans rfl
  have e1 : (zI M 337 1).toInt = F 1 := x0.at (by decide) (by decide) (by decide)
  have w5 := ibA2 hI
  have w6 : (zI M 337 2).toInt = (zI M 337 2).toInt := (congrArg Int32.toInt rfl).trans rfl
  have e2 : (zI M 337 2).toInt = F 2 := x0.at (by decide) (by decide) (by decide)
  refine zs_iload_n (pc := 0) t326_0 rfl ?_
  refine zs_iload_n (pc := 1) t326_1 rfl ?_
  refine zs_iconst (pc := 2) t326_2 (v := 1) (by decide) ?_
  refine zs_iload_n (pc := 3) t326_3 rfl ?_
  refine zs_invS (pc := 4) (as := [.int a, .int b, .int (1 : Int32), .int c]) (st := []) t326_4 (by decide) mf324 rfl rfl ⟨by decide, by decide, Nat.le_of_ble_eq_true rfl, Nat.le_of_ble_eq_true rfl⟩ (zs_in (by decide) mf324 (Nat.le_of_ble_eq_true rfl) ?_) (fun _ _ q => q)
  show zGo X l 1 0 0 324 0 [(0, .int a), (1, .int b), (2, .int (1 : Int32)), (3, .int c)] [] M _
  refine zs_iload_n (pc := 0) t324_0 rfl ?_
  refine zs_i2l (pc := 1) t324_1 rfl ?_
  refine zs_lconst (pc := 2) t324_2 (v := 1) (by decide) ?_
  refine zs_ldc2_w (pc := 3) t324_3 (v := 200) (by decide) ?_
  by_cases w7 : 1 ≤ a.toInt ∧ a.toInt ≤ 200
  · refine zs_invS (pc := 6) (as := [.long a.toInt64, .long (1 : Int64), .long (200 : Int64)]) (st := []) t324_6 (by decide) mf228 rfl rfl ⟨by decide, by decide, Nat.le_of_ble_eq_true rfl, Nat.le_of_ble_eq_true rfl⟩ (K228T (zi2l rfl) ll1 ll200 (by omega) ?_) (fun _ _ q => q)
    show zGo X l 1 0 0 324 9 [(0, .int a), (1, .int b), (2, .int (1 : Int32)), (3, .int c)] [.int (1 : Int32)] M _
    refine zs_if_eqF (pc := 9) t324_9 li1 (by decide) ?_
    refine zs_iload_n (pc := 12) t324_12 rfl ?_
    refine zs_i2l (pc := 13) t324_13 rfl ?_
    refine zs_lconst (pc := 14) t324_14 (v := 1) (by decide) ?_
    refine zs_ldc2_w (pc := 15) t324_15 (v := 999) (by decide) ?_
    by_cases w8 : 1 ≤ b.toInt ∧ b.toInt ≤ 999
    · refine zs_invS (pc := 18) (as := [.long b.toInt64, .long (1 : Int64), .long (999 : Int64)]) (st := []) t324_18 (by decide) mf228 rfl rfl ⟨by decide, by decide, Nat.le_of_ble_eq_true rfl, Nat.le_of_ble_eq_true rfl⟩ (K228T (zi2l rfl) ll1 ll999 (by omega) ?_) (fun _ _ q => q)
      show zGo X l 1 0 0 324 21 [(0, .int a), (1, .int b), (2, .int (1 : Int32)), (3, .int c)] [.int (1 : Int32)] M _
      refine zs_if_eqF (pc := 21) t324_21 li1 (by decide) ?_
      refine zs_iload_n (pc := 24) t324_24 rfl ?_
      refine zs_i2l (pc := 25) t324_25 (c := 1) (by decide) ?_
      refine zs_lconst (pc := 26) t324_26 (v := 1) (by decide) ?_
      refine zs_ldc2_w (pc := 27) t324_27 (v := 8) (by decide) ?_
      refine zs_invS (pc := 30) (as := [.long (1 : Int64), .long (1 : Int64), .long (8 : Int64)]) (st := []) t324_30 (by decide) mf228 rfl rfl ⟨by decide, by decide, Nat.le_of_ble_eq_true rfl, Nat.le_of_ble_eq_true rfl⟩ (K228T ll1 ll1 ll8 (by omega) ?_) (fun _ _ q => q)
      show zGo X l 1 0 0 324 33 [(0, .int a), (1, .int b), (2, .int (1 : Int32)), (3, .int c)] [.int (1 : Int32)] M _
      refine zs_if_eqF (pc := 33) t324_33 li1 (by decide) ?_
      refine zs_iload_n (pc := 36) t324_36 rfl ?_
      refine zs_i2l (pc := 37) t324_37 rfl ?_
      refine zs_lconst (pc := 38) t324_38 (v := 0) (by decide) ?_
      refine zs_ldc2_w (pc := 39) t324_39 (v := 50) (by decide) ?_
      by_cases w10 : 0 ≤ c.toInt ∧ c.toInt ≤ 50
      · refine zs_invS (pc := 42) (as := [.long c.toInt64, .long (0 : Int64), .long (50 : Int64)]) (st := []) t324_42 (by decide) mf228 rfl rfl ⟨by decide, by decide, Nat.le_of_ble_eq_true rfl, Nat.le_of_ble_eq_true rfl⟩ (K228T (zi2l rfl) ll0 ll50 (by omega) ?_) (fun _ _ q => q)
        show zGo X l 1 0 0 324 45 [(0, .int a), (1, .int b), (2, .int (1 : Int32)), (3, .int c)] [.int (1 : Int32)] M _
        refine zs_if_eqF (pc := 45) t324_45 li1 (by decide) ?_
        refine zs_iconst (pc := 48) t324_48 (v := 1) (by decide) ?_
        refine zs_goto (pc := 49) t324_49 ?_
        refine zs_iret (pc := 53) t324_53 mr324 (by decide) ?_
        show zGo X l 9 0 0 326 7 [(0, .ref 336), (1, .int a), (2, .int b), (3, .int c)] [.int (1 : Int32)] M _
        refine zs_if_neT (pc := 7) t326_7 li1 (by decide) ?_
        refine zs_iconst (pc := 12) t326_12 (v := 1) (by decide) ?_
        refine zs_istore (pc := 13) t326_13 (ls' := [(4, .int (1 : Int32)), (0, .ref 336), (1, .int a), (2, .int b), (3, .int c)]) (zml mf326 (by decide)) rfl ?_
        have w11L : ∀ (m : Nat) (w11x4 : Int32) (w11M : zM), (1 ≤ w11x4.toInt ∧ w11x4.toInt ≤ 9) → zSk zMm w11M → zIv mLo mHi w11M → zFr [(336, 336, some 3), (336, 336, some 18), (336, 336, some 19), (336, 336, some 20), (336, 336, some 21), (336, 336, some 22), (336, 336, some 37), (336, 336, some 39), (336, 336, some 42), (336, 336, some 43), (336, 336, some 44), (336, 336, some 45), (342, 361, none)] M w11M → zPF w11M → (zKnB w11M F) → 9 - w11x4.toInt ≤ (m : Int) → zGo X l 9 0 0 326 15 [(0, .ref 336), (1, .int a), (2, .int b), (3, .int c), (4, .int w11x4)] [] w11M Q := by
          intro m
          induction m using Nat.strongRecOn with
          | ind w11m w11ih =>
            intro w11x4 w11M w11b4 w11s w11I w11F w11PF w11t0 w11q
            refine zs_iload (pc := 15) t326_15 rfl ?_
            refine zs_bipush (pc := 17) t326_17 (v := 8) (by decide) ?_
            by_cases w12 : 8 < w11x4.toInt
            · refine zs_icmp_gtT (pc := 19) t326_19 rfl li8 (by omega) ?_
              refine zs_bipush (pc := 52) t326_52 (v := -2) (by decide) ?_
              have w13 : (-2 : Int32).toInt = (-2) := lin2
              exact zs_iret (pc := 54) t326_54 mr326 (by decide) (hQ _ _ w11s w11I ((zFr.refl).trans (w11F.mono rfl)) (zPR.fr pR (w11F.eq rfl)) (zPC.fr pC (w11F.eq rfl)) w11PF w11t0)
            · refine zs_icmp_gtF (pc := 19) t326_19 rfl li8 (by omega) ?_
              refine zs_aload_n (pc := 22) t326_22 rfl ?_
              refine zs_iload_n (pc := 23) t326_23 rfl ?_
              refine zs_iload_n (pc := 24) t326_24 rfl ?_
              refine zs_iload (pc := 25) t326_25 rfl ?_
              refine zs_iload_n (pc := 27) t326_27 rfl ?_
              refine zs_invV (pc := 28) (k := 336) (as' := [.int a, .int b, .int w11x4, .int c]) (st := []) t326_28 mf325 rfl rfl (Or.inl ⟨by decide, (zk1 (w11s.k fk_zMm_336))⟩) ⟨by decide, by decide, Nat.le_of_ble_eq_true rfl, Nat.le_of_ble_eq_true rfl⟩ (Q325 w11s w11I (zPR.fr pR (w11F.eq rfl)) w11PF ⟨by omega, by omega⟩ ⟨by omega, by omega⟩ ⟨by omega, by omega⟩ ⟨by omega, by omega⟩ (zRw.fr' x0 (fun j hj => (w11F 337 j rfl))) x1 w11t0 ?_) (fun _ _ q => q)
              intro w14M w14s w14I w14F w14PF w14x0
              show zGo X l 9 0 0 326 31 [(0, .ref 336), (1, .int a), (2, .int b), (3, .int c), (4, .int w11x4)] [] w14M _
              refine zs_aload_n (pc := 31) t326_31 rfl ?_
              have w15 := zrg (zI w14M 336 42)
              refine zs_get (pc := 32) t326_32 (by decide) (zk1 (w14s.k fk_zMm_336)) (zfvi rfl rfl) ?_
              refine zs_aload_n (pc := 35) t326_35 rfl ?_
              have w16 := zrg (zI w14M 336 43)
              refine zs_get (pc := 36) t326_36 (by decide) (zk1 (w14s.k fk_zMm_336)) (zfvi rfl rfl) ?_
              obtain ⟨w17v, w17⟩ : ∃ v, v = (zI w14M 336 42) + (zI w14M 336 43) := ⟨_, rfl⟩
              have w17g := zrg w17v
              refine zs_iadd (pc := 39) t326_39 (c := w17v) w17.symm ?_
              by_cases w18 : w17v.toInt ≠ 0
              · refine zs_if_neT (pc := 40) t326_40 rfl (by omega) ?_
                obtain ⟨w19v, w19e, w19⟩ := ziadd (a := w11x4) (b := Int32.ofInt 1) rfl (show (Int32.ofInt 1).toInt = 1 by decide) (by omega) (by omega)
                refine zs_iinc (pc := 46) t326_46 (ls' := [(4, .int w19v), (0, .ref 336), (1, .int a), (2, .int b), (3, .int c)]) (zml mf326 (by decide)) rfl (c := w19v) w19e rfl ?_
                refine zs_goto (pc := 49) t326_49 ?_
                refine zGo.locals (ls' := [(0, .ref 336), (1, .int a), (2, .int b), (3, .int c), (4, .int w19v)]) (by simp) ?_
                have w20 := w19
                exact w11ih (w11m - 1) (by omega) w19v w14M ⟨by omega, by omega⟩ w14s w14I (((zFr.refl).trans (w11F.mono rfl)).trans (w14F.mono rfl)) w14PF w14x0 (by omega)
              · refine zs_if_neF (pc := 40) t326_40 rfl (by omega) ?_
                refine zs_iload (pc := 43) t326_43 rfl ?_
                exact zs_iret (pc := 45) t326_45 mr326 rfl (hQ _ _ w14s w14I (((zFr.refl).trans (w11F.mono rfl)).trans (w14F.mono rfl)) (zPR.fr (zPR.fr pR (w11F.eq rfl)) (w14F.eq rfl)) (zPC.fr (zPC.fr pC (w11F.eq rfl)) (w14F.eq rfl)) w14PF w14x0)
        refine zGo.locals (ls' := [(0, .ref 336), (1, .int a), (2, .int b), (3, .int c), (4, .int (1 : Int32))]) (by simp) ?_
        have w21 := li1
        exact w11L ((9 - 1 : Int).toNat) (1 : Int32) M ⟨by decide, by decide⟩ hs hI zFr.refl pF x2 (by omega)
      · refine zs_invS (pc := 42) (as := [.long c.toInt64, .long (0 : Int64), .long (50 : Int64)]) (st := []) t324_42 (by decide) mf228 rfl rfl ⟨by decide, by decide, Nat.le_of_ble_eq_true rfl, Nat.le_of_ble_eq_true rfl⟩ (K228F (zi2l rfl) ll0 ll50 (by omega) ?_) (fun _ _ q => q)
        show zGo X l 1 0 0 324 45 [(0, .int a), (1, .int b), (2, .int (1 : Int32)), (3, .int c)] [.int (0 : Int32)] M _
        refine zs_if_eqT (pc := 45) t324_45 li0 (by decide) ?_
        refine zs_iconst (pc := 52) t324_52 (v := 0) (by decide) ?_
        refine zs_iret (pc := 53) t324_53 mr324 (by decide) ?_
        show zGo X l 9 0 0 326 7 [(0, .ref 336), (1, .int a), (2, .int b), (3, .int c)] [.int (0 : Int32)] M _
        refine zs_if_neF (pc := 7) t326_7 li0 (by decide) ?_
        refine zs_iconst (pc := 10) t326_10 (v := -1) (by decide) ?_
        have w22 : (-1 : Int32).toInt = (-1) := lin1
        exact zs_iret (pc := 11) t326_11 mr326 (by decide) (hQ _ _ hs hI (zFr.refl) pR pC pF x2)
    · refine zs_invS (pc := 18) (as := [.long b.toInt64, .long (1 : Int64), .long (999 : Int64)]) (st := []) t324_18 (by decide) mf228 rfl rfl ⟨by decide, by decide, Nat.le_of_ble_eq_true rfl, Nat.le_of_ble_eq_true rfl⟩ (K228F (zi2l rfl) ll1 ll999 (by omega) ?_) (fun _ _ q => q)
      show zGo X l 1 0 0 324 21 [(0, .int a), (1, .int b), (2, .int (1 : Int32)), (3, .int c)] [.int (0 : Int32)] M _
      refine zs_if_eqT (pc := 21) t324_21 li0 (by decide) ?_
      refine zs_iconst (pc := 52) t324_52 (v := 0) (by decide) ?_
      refine zs_iret (pc := 53) t324_53 mr324 (by decide) ?_
      show zGo X l 9 0 0 326 7 [(0, .ref 336), (1, .int a), (2, .int b), (3, .int c)] [.int (0 : Int32)] M _
      refine zs_if_neF (pc := 7) t326_7 li0 (by decide) ?_
      refine zs_iconst (pc := 10) t326_10 (v := -1) (by decide) ?_
      have w23 : (-1 : Int32).toInt = (-1) := lin1
      exact zs_iret (pc := 11) t326_11 mr326 (by decide) (hQ _ _ hs hI (zFr.refl) pR pC pF x2)
  · refine zs_invS (pc := 6) (as := [.long a.toInt64, .long (1 : Int64), .long (200 : Int64)]) (st := []) t324_6 (by decide) mf228 rfl rfl ⟨by decide, by decide, Nat.le_of_ble_eq_true rfl, Nat.le_of_ble_eq_true rfl⟩ (K228F (zi2l rfl) ll1 ll200 (by omega) ?_) (fun _ _ q => q)
    show zGo X l 1 0 0 324 9 [(0, .int a), (1, .int b), (2, .int (1 : Int32)), (3, .int c)] [.int (0 : Int32)] M _
    refine zs_if_eqT (pc := 9) t324_9 li0 (by decide) ?_
    refine zs_iconst (pc := 52) t324_52 (v := 0) (by decide) ?_
    refine zs_iret (pc := 53) t324_53 mr324 (by decide) ?_
    show zGo X l 9 0 0 326 7 [(0, .ref 336), (1, .int a), (2, .int b), (3, .int c)] [.int (0 : Int32)] M _
    refine zs_if_neF (pc := 7) t326_7 li0 (by decide) ?_
    refine zs_iconst (pc := 10) t326_10 (v := -1) (by decide) ?_
    have w24 : (-1 : Int32).toInt = (-1) := lin1
    exact zs_iret (pc := 11) t326_11 mr326 (by decide) (hQ _ _ hs hI (zFr.refl) pR pC pF x2)
theorem Q266 {X : zX} {l : Launch} {M : zM} {Q : Option Value → zM → Prop} (hs : zSk zMm M) (hI : zIv mLo mHi M) {F : Nat → Int} (pR : zPR M) (pC : zPC M) (pF : zPF M) (x0 : zRw M 0 F) (x1 : zWF F) (x2 : zKnB M F) (hQ : ∀ (M' : zM) (v : Int32), zSk zMm M' → zIv mLo mHi M' → zFr [(336, 336, some 3), (336, 336, some 18), (336, 336, some 19), (336, 336, some 20), (336, 336, some 21), (336, 336, some 22), (336, 336, some 37), (336, 336, some 39), (336, 336, some 42), (336, 336, some 43), (336, 336, some 44), (336, 336, some 45), (342, 361, none)] M M' → zPR M' → zPC M' → zPF M' → (zKnB M' F) → Q (some (.int v)) M') : zCall X l 8 0 0 266 [.ref 336] M Q := by
  refine zs_in (by decide) mf266 (Nat.le_of_ble_eq_true rfl) ?_
  show zGo X l 8 0 0 266 0 [(0, .ref 336)] [] M _
  have f1 := x1.1
  have f3 := x1.2.2.2
  have w1 := ibA0 hI
  have w2 : (zI M 337 0).toInt = (zI M 337 0).toInt := (congrArg Int32.toInt rfl).trans rfl
  have e0 : (zI M 337 0).toInt = F 0 := x0.at (by decide) (by decide) (by decide)
  have w3 := ibA1 hI
  have w4 : (zI M 337 1).toInt = (zI M 337 1).toInt := (congrArg Int32.toInt rfl).trans rfl
  have e1 : (zI M 337 1).toInt = F 1 := x0.at (by decide) (by decide) (by decide)
  have w5 := ibA2 hI
  have w6 : (zI M 337 2).toInt = (zI M 337 2).toInt := (congrArg Int32.toInt rfl).trans rfl
  have e2 : (zI M 337 2).toInt = F 2 := x0.at (by decide) (by decide) (by decide)
  refine zs_aload_n (pc := 0) t266_0 rfl ?_
  refine zs_get (pc := 1) t266_1 (by decide) (zk1 (hs.k fk_zMm_336)) (hs.p rfl fv_zMm_336_0) ?_
  refine zs_iconst (pc := 4) t266_4 (v := 3) (by decide) ?_
  have w7 := zrg (zI M 337 3)
  refine zs_iald (pc := 5) t266_5 (j := 3) (by decide) (zk1 (hs.k fk_zMm_337)) li3 (zk2 (hs.k fk_zMm_337) (by decide)) rfl ?_
  by_cases w8 : (zI M 337 3).toInt ≠ 0
  · refine zs_if_neT (pc := 6) t266_6 rfl (by omega) ?_
    refine zs_iconst (pc := 11) t266_11 (v := 0) (by decide) ?_
    refine zs_istore_n (pc := 12) t266_12 (ls' := [(1, .int (0 : Int32)), (0, .ref 336)]) (zml mf266 (by decide)) rfl ?_
    refine zs_iconst (pc := 13) t266_13 (v := 0) (by decide) ?_
    refine zs_istore_n (pc := 14) t266_14 (ls' := [(2, .int (0 : Int32)), (1, .int (0 : Int32)), (0, .ref 336)]) (zml mf266 (by decide)) rfl ?_
    have w9L : ∀ (m : Nat) (w9x1 : Int32) (w9x2 : Int32) (w9M : zM), (0 ≤ w9x1.toInt ∧ w9x1.toInt ≤ 59) → (0 ≤ w9x2.toInt ∧ w9x2.toInt ≤ 200) → zSk zMm w9M → zIv mLo mHi w9M → zFr [(336, 336, some 3), (336, 336, some 18), (336, 336, some 19), (336, 336, some 20), (336, 336, some 21), (336, 336, some 22), (336, 336, some 37), (336, 336, some 39), (336, 336, some 42), (336, 336, some 43), (336, 336, some 44), (336, 336, some 45), (342, 361, none)] M w9M → zPF w9M → (w9x1.toInt = zhp (fun i => zrow M 0 (306 + i)) (w9x2.toInt).toNat) → (zKnB w9M F) → 200 - w9x2.toInt ≤ (m : Int) → zGo X l 8 0 0 266 15 [(0, .ref 336), (1, .int w9x1), (2, .int w9x2)] [] w9M Q := by
      intro m
      induction m using Nat.strongRecOn with
      | ind w9m w9ih =>
        intro w9x1 w9x2 w9M w9b1 w9b2 w9s w9I w9F w9PF w9t0 w9t1 w9q
        refine zs_iload_n (pc := 15) t266_15 rfl ?_
        refine zs_aload_n (pc := 16) t266_16 rfl ?_
        refine zs_get (pc := 17) t266_17 (by decide) (zk1 (w9s.k fk_zMm_336)) (w9s.p rfl fv_zMm_336_0) ?_
        refine zs_iconst (pc := 20) t266_20 (v := 4) (by decide) ?_
        have w10 := ibA4 hI
        refine zs_iald (pc := 21) t266_21 (j := 4) (by decide) (zk1 (w9s.k fk_zMm_337)) li4 (zk2 (w9s.k fk_zMm_337) (by decide)) ((w9F 337 4 rfl).trans rfl) ?_
        by_cases w11 : (zI M 337 4).toInt ≤ w9x2.toInt
        · refine zs_icmp_geT (pc := 22) t266_22 rfl rfl (by omega) ?_
          refine zs_aload_n (pc := 142) t266_142 rfl ?_
          refine zs_get (pc := 143) t266_143 (by decide) (zk1 (w9s.k fk_zMm_336)) (w9s.p rfl fv_zMm_336_15) ?_
          refine zs_iconst (pc := 146) t266_146 (v := 0) (by decide) ?_
          have w12 := zrg (zI w9M 342 0)
          refine zs_iald (pc := 147) t266_147 (j := 0) (by decide) (zk1 (w9s.k fk_zMm_342)) li0 (zk2 (w9s.k fk_zMm_342) (by decide)) rfl ?_
          exact zs_iret (pc := 148) t266_148 mr266 rfl (hQ _ _ w9s w9I ((zFr.refl).trans (w9F.mono rfl)) (zPR.fr pR (w9F.eq rfl)) (zPC.fr pC (w9F.eq rfl)) w9PF w9t1)
        · refine zs_icmp_geF (pc := 22) t266_22 rfl rfl (by omega) ?_
          refine zs_aload_n (pc := 25) t266_25 rfl ?_
          refine zs_get (pc := 26) t266_26 (by decide) (zk1 (w9s.k fk_zMm_336)) (w9s.p rfl fv_zMm_336_0) ?_
          refine zs_sipush (pc := 29) t266_29 (v := 306) (by decide) ?_
          refine zs_iload_n (pc := 32) t266_32 rfl ?_
          obtain ⟨w13v, w13e, w13⟩ := ziadd (a := (306 : Int32)) (b := w9x2) li306 rfl (by omega) (by omega)
          refine zs_iadd (pc := 33) t266_33 (c := w13v) w13e ?_
          obtain ⟨w14n, w14⟩ : ∃ n : Nat, w9x2.toInt = (n : Int) := ⟨(w9x2.toInt).toNat, by omega⟩
          have w15 := zrg (zI M 337 (306 + w14n))
          have w16 : (zI w9M 337 4).toInt = (zI M 337 4).toInt := (congrArg Int32.toInt ((w9F 337 4 rfl).trans rfl)).trans rfl
          have w17 := zPC.at (n := w14n) pC (by omega)
          have w18 : zhp (fun i => zrow M 0 (306 + i)) w9x2.toInt.toNat = zhp (fun i => zrow M 0 (306 + i)) w14n := congrArg _ (by omega)
          refine zs_iald (pc := 34) t266_34 (j := (306 + w14n)) (by decide) (zk1 (w9s.k fk_zMm_337)) (show w13v.toInt = (((306 + w14n) : Nat) : Int) by omega) (zk2 (w9s.k fk_zMm_337) (by omega)) ((w9F 337 (306 + w14n) rfl).trans rfl) ?_
          refine zs_istore_n (pc := 35) t266_35 (ls' := [(3, .int (zI M 337 (306 + w14n))), (0, .ref 336), (1, .int w9x1), (2, .int w9x2)]) (zml mf266 (by decide)) rfl ?_
          refine zs_iload_n (pc := 36) t266_36 rfl ?_
          refine zs_sipush (pc := 37) t266_37 (v := 20000) (by decide) ?_
          by_cases w19 : 20000 ≤ (zI M 337 (306 + w14n)).toInt
          · refine zs_icmp_geT (pc := 40) t266_40 rfl li20000 (by omega) ?_
            refine zs_iload_n (pc := 75) t266_75 rfl ?_
            refine zs_sipush (pc := 76) t266_76 (v := 20033) (by decide) ?_
            by_cases w20 : (zI M 337 (306 + w14n)).toInt ≠ 20033
            · refine zs_icmp_neT (pc := 79) t266_79 rfl li20033 (by omega) ?_
              obtain ⟨w21v, w21e, w21⟩ := ziadd (a := w9x1) (b := Int32.ofInt (-1)) rfl (show (Int32.ofInt (-1)).toInt = (-1) by decide) (by omega) (by omega)
              refine zs_iinc (pc := 103) t266_103 (ls' := [(1, .int w21v), (3, .int (zI M 337 (306 + w14n))), (0, .ref 336), (2, .int w9x2)]) (zml mf266 (by decide)) rfl (c := w21v) w21e rfl ?_
              refine zs_aload_n (pc := 106) t266_106 rfl ?_
              refine zs_get (pc := 107) t266_107 (by decide) (zk1 (w9s.k fk_zMm_336)) (w9s.p rfl fv_zMm_336_15) ?_
              refine zs_iload_n (pc := 110) t266_110 rfl ?_
              refine zs_iconst (pc := 111) t266_111 (v := 1) (by decide) ?_
              obtain ⟨w22v, w22e, w22⟩ := zisub (a := w21v) (b := (1 : Int32)) w21 li1 (by omega) (by omega)
              refine zs_isub (pc := 112) t266_112 (c := w22v) w22e ?_
              refine zs_iload_n (pc := 113) t266_113 rfl ?_
              refine zs_sipush (pc := 114) t266_114 (v := 20000) (by decide) ?_
              obtain ⟨w23v, w23e, w23⟩ := zisub (a := (zI M 337 (306 + w14n))) (b := (20000 : Int32)) rfl li20000 (by omega) (by omega)
              refine zs_isub (pc := 117) t266_117 (c := w23v) w23e ?_
              refine zs_aload_n (pc := 118) t266_118 rfl ?_
              refine zs_get (pc := 119) t266_119 (by decide) (zk1 (w9s.k fk_zMm_336)) (w9s.p rfl fv_zMm_336_15) ?_
              refine zs_iload_n (pc := 122) t266_122 rfl ?_
              refine zs_iconst (pc := 123) t266_123 (v := 1) (by decide) ?_
              obtain ⟨w24v, w24e, w24⟩ := zisub (a := w21v) (b := (1 : Int32)) w21 li1 (by omega) (by omega)
              refine zs_isub (pc := 124) t266_124 (c := w24v) w24e ?_
              obtain ⟨w25n, w25⟩ : ∃ n : Nat, w24v.toInt = (n : Int) := ⟨w24v.toInt.toNat, by omega⟩
              have w26 := zrg (zI w9M 342 w25n)
              refine zs_iald (pc := 125) t266_125 (j := w25n) (by decide) (zk1 (w9s.k fk_zMm_342)) w25 (zk2 (w9s.k fk_zMm_342) (by omega)) rfl ?_
              refine zs_aload_n (pc := 126) t266_126 rfl ?_
              refine zs_get (pc := 127) t266_127 (by decide) (zk1 (w9s.k fk_zMm_336)) (w9s.p rfl fv_zMm_336_15) ?_
              refine zs_iload_n (pc := 130) t266_130 rfl ?_
              obtain ⟨w27n, w27⟩ : ∃ n : Nat, w21v.toInt = (n : Int) := ⟨w21v.toInt.toNat, by omega⟩
              have w28 := zrg (zI w9M 342 w27n)
              refine zs_iald (pc := 131) t266_131 (j := w27n) (by decide) (zk1 (w9s.k fk_zMm_342)) w27 (zk2 (w9s.k fk_zMm_342) (by omega)) rfl ?_
              refine zs_invS (pc := 132) (as := [.int w23v, .int (zI w9M 342 w25n), .int (zI w9M 342 w27n)]) (st := [.int w22v, .ref 342]) t266_132 (by decide) mf294 rfl rfl ⟨by decide, by decide, Nat.le_of_ble_eq_true rfl, Nat.le_of_ble_eq_true rfl⟩ (K294 w9s w9I ?_) (fun _ _ q => q)
              intro w29v
              have w29g := zrg w29v
              show zGo X l 8 0 0 266 135 [(1, .int w21v), (3, .int (zI M 337 (306 + w14n))), (0, .ref 336), (2, .int w9x2)] [.int w29v, .int w22v, .ref 342] w9M _
              obtain ⟨w30n, w30⟩ : ∃ n : Nat, w22v.toInt = (n : Int) := ⟨w22v.toInt.toNat, by omega⟩
              have w31 : zIv mLo mHi (zsI w9M 342 w30n w29v) := zIv.put w9I (show (-2147483648) ≤ w29v.toInt ∧ w29v.toInt ≤ 2147483647 from zrg w29v)
              refine zs_iast (pc := 135) t266_135 (j := w30n) (by decide) (zk1 (w9s.k fk_zMm_342)) w30 (zk2 (w9s.k fk_zMm_342) (by omega)) ?_
              obtain ⟨w32v, w32e, w32⟩ := ziadd (a := w9x2) (b := Int32.ofInt 1) rfl (show (Int32.ofInt 1).toInt = 1 by decide) (by omega) (by omega)
              refine zs_iinc (pc := 136) t266_136 (ls' := [(2, .int w32v), (1, .int w21v), (3, .int (zI M 337 (306 + w14n))), (0, .ref 336)]) (zml mf266 (by decide)) rfl (c := w32v) w32e rfl ?_
              refine zs_goto (pc := 139) t266_139 ?_
              refine zGo.locals (ls' := [(0, .ref 336), (1, .int w21v), (2, .int w32v)]) (by simp) ?_
              have w33 := w21
              have w34 := w32
              exact w9ih (w9m - 1) (by omega) w21v w32v (zsI w9M 342 w30n w29v) ⟨by omega, by omega⟩ ⟨by omega, by omega⟩ w9s w31 (((zFr.refl).trans (w9F.mono rfl)).put rfl) (zPF.fr (M' := (zsI w9M 342 w30n w29v)) w9PF (zEq.put rfl) rfl) (by rw [show w32v.toInt.toNat = w14n + 1 by omega]; omega) (zKnB.fr w9t1 (zIo (by decide)) (zIo (by decide)) (((zFr.refl).put rfl).eq (W := [(336, 336, some 37), (336, 336, some 39), (336, 336, some 42), (336, 336, some 43), (336, 336, some 44), (336, 336, some 45), (336, 336, some 18), (336, 336, some 19), (336, 336, some 20), (336, 336, some 21), (342, 344, none), (351, 361, none)]) rfl)) (by omega)
            · refine zs_icmp_neF (pc := 79) t266_79 rfl li20033 (by omega) ?_
              refine zs_aload_n (pc := 82) t266_82 rfl ?_
              refine zs_get (pc := 83) t266_83 (by decide) (zk1 (w9s.k fk_zMm_336)) (w9s.p rfl fv_zMm_336_15) ?_
              refine zs_iload_n (pc := 86) t266_86 rfl ?_
              refine zs_iconst (pc := 87) t266_87 (v := 1) (by decide) ?_
              obtain ⟨w35v, w35e, w35⟩ := zisub (a := w9x1) (b := (1 : Int32)) rfl li1 (by omega) (by omega)
              refine zs_isub (pc := 88) t266_88 (c := w35v) w35e ?_
              refine zs_iconst (pc := 89) t266_89 (v := 1) (by decide) ?_
              refine zs_aload_n (pc := 90) t266_90 rfl ?_
              refine zs_get (pc := 91) t266_91 (by decide) (zk1 (w9s.k fk_zMm_336)) (w9s.p rfl fv_zMm_336_15) ?_
              refine zs_iload_n (pc := 94) t266_94 rfl ?_
              refine zs_iconst (pc := 95) t266_95 (v := 1) (by decide) ?_
              obtain ⟨w36v, w36e, w36⟩ := zisub (a := w9x1) (b := (1 : Int32)) rfl li1 (by omega) (by omega)
              refine zs_isub (pc := 96) t266_96 (c := w36v) w36e ?_
              obtain ⟨w37n, w37⟩ : ∃ n : Nat, w36v.toInt = (n : Int) := ⟨w36v.toInt.toNat, by omega⟩
              have w38 := zrg (zI w9M 342 w37n)
              refine zs_iald (pc := 97) t266_97 (j := w37n) (by decide) (zk1 (w9s.k fk_zMm_342)) w37 (zk2 (w9s.k fk_zMm_342) (by omega)) rfl ?_
              obtain ⟨w39v, w39⟩ : ∃ v, v = (1 : Int32) - (zI w9M 342 w37n) := ⟨_, rfl⟩
              have w39g := zrg w39v
              refine zs_isub (pc := 98) t266_98 (c := w39v) w39.symm ?_
              obtain ⟨w40n, w40⟩ : ∃ n : Nat, w35v.toInt = (n : Int) := ⟨w35v.toInt.toNat, by omega⟩
              have w41 : zIv mLo mHi (zsI w9M 342 w40n w39v) := zIv.put w9I (show (-2147483648) ≤ w39v.toInt ∧ w39v.toInt ≤ 2147483647 from zrg w39v)
              refine zs_iast (pc := 99) t266_99 (j := w40n) (by decide) (zk1 (w9s.k fk_zMm_342)) w40 (zk2 (w9s.k fk_zMm_342) (by omega)) ?_
              refine zs_goto (pc := 100) t266_100 ?_
              obtain ⟨w42v, w42e, w42⟩ := ziadd (a := w9x2) (b := Int32.ofInt 1) rfl (show (Int32.ofInt 1).toInt = 1 by decide) (by omega) (by omega)
              refine zs_iinc (pc := 136) t266_136 (ls' := [(2, .int w42v), (3, .int (zI M 337 (306 + w14n))), (0, .ref 336), (1, .int w9x1)]) (zml mf266 (by decide)) rfl (c := w42v) w42e rfl ?_
              refine zs_goto (pc := 139) t266_139 ?_
              refine zGo.locals (ls' := [(0, .ref 336), (1, .int w9x1), (2, .int w42v)]) (by simp) ?_
              have w43 := w42
              exact w9ih (w9m - 1) (by omega) w9x1 w42v (zsI w9M 342 w40n w39v) ⟨by omega, by omega⟩ ⟨by omega, by omega⟩ w9s w41 (((zFr.refl).trans (w9F.mono rfl)).put rfl) (zPF.fr (M' := (zsI w9M 342 w40n w39v)) w9PF (zEq.put rfl) rfl) (by rw [show w42v.toInt.toNat = w14n + 1 by omega]; omega) (zKnB.fr w9t1 (zIo (by decide)) (zIo (by decide)) (((zFr.refl).put rfl).eq (W := [(336, 336, some 37), (336, 336, some 39), (336, 336, some 42), (336, 336, some 43), (336, 336, some 44), (336, 336, some 45), (336, 336, some 18), (336, 336, some 19), (336, 336, some 20), (336, 336, some 21), (342, 344, none), (351, 361, none)]) rfl)) (by omega)
          · refine zs_icmp_geF (pc := 40) t266_40 rfl li20000 (by omega) ?_
            refine zs_aload_n (pc := 43) t266_43 rfl ?_
            refine zs_get (pc := 44) t266_44 (by decide) (zk1 (w9s.k fk_zMm_336)) (w9s.p rfl fv_zMm_336_15) ?_
            refine zs_iload_n (pc := 47) t266_47 rfl ?_
            refine zs_iload_n (pc := 48) t266_48 rfl ?_
            refine zs_sipush (pc := 49) t266_49 (v := 10000) (by decide) ?_
            by_cases w44 : 10000 ≤ (zI M 337 (306 + w14n)).toInt
            · refine zs_icmp_geT (pc := 52) t266_52 rfl li10000 (by omega) ?_
              refine zs_aload_n (pc := 59) t266_59 rfl ?_
              refine zs_iload_n (pc := 60) t266_60 rfl ?_
              refine zs_sipush (pc := 61) t266_61 (v := 10000) (by decide) ?_
              obtain ⟨w45v, w45e, w45⟩ := zisub (a := (zI M 337 (306 + w14n))) (b := (10000 : Int32)) rfl li10000 (by omega) (by omega)
              refine zs_isub (pc := 64) t266_64 (c := w45v) w45e ?_
              have w46 : w45v.toInt = ((zI M 337 (306 + w14n)).toInt - 10000) := w45
              refine zs_invV (pc := 65) (k := 336) (as' := [.int w45v]) (st := [.int w9x1, .ref 342]) t266_65 mf267 rfl rfl (Or.inl ⟨by decide, (zk1 (w9s.k fk_zMm_336))⟩) ⟨by decide, by decide, Nat.le_of_ble_eq_true rfl, Nat.le_of_ble_eq_true rfl⟩ (Q267 w9s w9I (zPR.fr pR (w9F.eq rfl)) w9PF (zRw.fr' x0 (fun j hj => (w9F 337 j rfl))) x1 w9t1 ?_) (fun _ _ q => q)
              intro w47M w47v w47s w47I w47F w47PF w47PD w47PV w47x0
              have w47g := zrg w47v
              show zGo X l 8 0 0 266 68 [(3, .int (zI M 337 (306 + w14n))), (0, .ref 336), (1, .int w9x1), (2, .int w9x2)] [.int w47v, .int w9x1, .ref 342] w47M _
              obtain ⟨w48n, w48⟩ : ∃ n : Nat, w9x1.toInt = (n : Int) := ⟨(w9x1.toInt).toNat, by omega⟩
              have w49 : zIv mLo mHi (zsI w47M 342 w48n w47v) := zIv.put w47I (show (-2147483648) ≤ w47v.toInt ∧ w47v.toInt ≤ 2147483647 from zrg w47v)
              refine zs_iast (pc := 68) t266_68 (j := w48n) (by decide) (zk1 (w47s.k fk_zMm_342)) (show w9x1.toInt = ((w48n : Nat) : Int) by omega) (zk2 (w47s.k fk_zMm_342) (by omega)) ?_
              obtain ⟨w50v, w50e, w50⟩ := ziadd (a := w9x1) (b := Int32.ofInt 1) rfl (show (Int32.ofInt 1).toInt = 1 by decide) (by omega) (by omega)
              refine zs_iinc (pc := 69) t266_69 (ls' := [(1, .int w50v), (3, .int (zI M 337 (306 + w14n))), (0, .ref 336), (2, .int w9x2)]) (zml mf266 (by decide)) rfl (c := w50v) w50e rfl ?_
              refine zs_goto (pc := 72) t266_72 ?_
              obtain ⟨w51v, w51e, w51⟩ := ziadd (a := w9x2) (b := Int32.ofInt 1) rfl (show (Int32.ofInt 1).toInt = 1 by decide) (by omega) (by omega)
              refine zs_iinc (pc := 136) t266_136 (ls' := [(2, .int w51v), (1, .int w50v), (3, .int (zI M 337 (306 + w14n))), (0, .ref 336)]) (zml mf266 (by decide)) rfl (c := w51v) w51e rfl ?_
              refine zs_goto (pc := 139) t266_139 ?_
              refine zGo.locals (ls' := [(0, .ref 336), (1, .int w50v), (2, .int w51v)]) (by simp) ?_
              have w52 := w50
              have w53 := w51
              exact w9ih (w9m - 1) (by omega) w50v w51v (zsI w47M 342 w48n w47v) ⟨by omega, by omega⟩ ⟨by omega, by omega⟩ w47s w49 ((((zFr.refl).trans (w9F.mono rfl)).trans (w47F.mono rfl)).put rfl) (zPF.fr (M' := (zsI w47M 342 w48n w47v)) w47PF (zEq.put rfl) rfl) (by rw [show w51v.toInt.toNat = w14n + 1 by omega]; omega) (zKnB.fr w47x0 (zIo (by decide)) (zIo (by decide)) (((zFr.refl).put rfl).eq (W := [(336, 336, some 37), (336, 336, some 39), (336, 336, some 42), (336, 336, some 43), (336, 336, some 44), (336, 336, some 45), (336, 336, some 18), (336, 336, some 19), (336, 336, some 20), (336, 336, some 21), (342, 344, none), (351, 361, none)]) rfl)) (by omega)
            · refine zs_icmp_geF (pc := 52) t266_52 rfl li10000 (by omega) ?_
              refine zs_iload_n (pc := 55) t266_55 rfl ?_
              refine zs_goto (pc := 56) t266_56 ?_
              obtain ⟨w54n, w54⟩ : ∃ n : Nat, w9x1.toInt = (n : Int) := ⟨(w9x1.toInt).toNat, by omega⟩
              have w55 : zIv mLo mHi (zsI w9M 342 w54n (zI M 337 (306 + w14n))) := zIv.put w9I (show (-2147483648) ≤ (zI M 337 (306 + w14n)).toInt ∧ (zI M 337 (306 + w14n)).toInt ≤ 2147483647 from zrg (zI M 337 (306 + w14n)))
              refine zs_iast (pc := 68) t266_68 (j := w54n) (by decide) (zk1 (w9s.k fk_zMm_342)) (show w9x1.toInt = ((w54n : Nat) : Int) by omega) (zk2 (w9s.k fk_zMm_342) (by omega)) ?_
              obtain ⟨w56v, w56e, w56⟩ := ziadd (a := w9x1) (b := Int32.ofInt 1) rfl (show (Int32.ofInt 1).toInt = 1 by decide) (by omega) (by omega)
              refine zs_iinc (pc := 69) t266_69 (ls' := [(1, .int w56v), (3, .int (zI M 337 (306 + w14n))), (0, .ref 336), (2, .int w9x2)]) (zml mf266 (by decide)) rfl (c := w56v) w56e rfl ?_
              refine zs_goto (pc := 72) t266_72 ?_
              obtain ⟨w57v, w57e, w57⟩ := ziadd (a := w9x2) (b := Int32.ofInt 1) rfl (show (Int32.ofInt 1).toInt = 1 by decide) (by omega) (by omega)
              refine zs_iinc (pc := 136) t266_136 (ls' := [(2, .int w57v), (1, .int w56v), (3, .int (zI M 337 (306 + w14n))), (0, .ref 336)]) (zml mf266 (by decide)) rfl (c := w57v) w57e rfl ?_
              refine zs_goto (pc := 139) t266_139 ?_
              refine zGo.locals (ls' := [(0, .ref 336), (1, .int w56v), (2, .int w57v)]) (by simp) ?_
              have w58 := w56
              have w59 := w57
              exact w9ih (w9m - 1) (by omega) w56v w57v (zsI w9M 342 w54n (zI M 337 (306 + w14n))) ⟨by omega, by omega⟩ ⟨by omega, by omega⟩ w9s w55 (((zFr.refl).trans (w9F.mono rfl)).put rfl) (zPF.fr (M' := (zsI w9M 342 w54n (zI M 337 (306 + w14n)))) w9PF (zEq.put rfl) rfl) (by rw [show w57v.toInt.toNat = w14n + 1 by omega]; omega) (zKnB.fr w9t1 (zIo (by decide)) (zIo (by decide)) (((zFr.refl).put rfl).eq (W := [(336, 336, some 37), (336, 336, some 39), (336, 336, some 42), (336, 336, some 43), (336, 336, some 44), (336, 336, some 45), (336, 336, some 18), (336, 336, some 19), (336, 336, some 20), (336, 336, some 21), (342, 344, none), (351, 361, none)]) rfl)) (by omega)
    refine zGo.locals (ls' := [(0, .ref 336), (1, .int (0 : Int32)), (2, .int (0 : Int32))]) (by simp) ?_
    have w60 := li0
    have w61 := li0
    exact w9L ((200 - 0 : Int).toNat) (0 : Int32) (0 : Int32) M ⟨by decide, by decide⟩ ⟨by decide, by decide⟩ hs hI zFr.refl pF rfl x2 (by omega)
  · refine zs_if_neF (pc := 6) t266_6 rfl (by omega) ?_
    refine zs_iconst (pc := 9) t266_9 (v := 0) (by decide) ?_
    have w62 : (0 : Int32).toInt = 0 := li0
    exact zs_iret (pc := 10) t266_10 mr266 (by decide) (hQ _ _ hs hI (zFr.refl) pR pC pF x2)
