theorem K323 {X : zX} {l : Launch} {M : zM} {Q : Option Value → zM → Prop} {a b c d e : Int32} (hs : zSk zMm M) (hI : zIv mLo mHi M) (pR : zPR M) (pC : zPC M) (pF : zPF M) (hQ : ∀ (M' : zM) (v : Int32), zSk zMm M' → zIv mLo mHi M' → zFr [(336, 363, none)] M M' → zPR M' → zPC M' → zPF M' → Q (some (.int v)) M') : zCall X l 9 0 0 323 [.ref 336, .int a, .int b, .int c, .int d, .int e] M Q := by
  have ga := zrg a
  have gb := zrg b
  have gc := zrg c
  have gd := zrg d
  have ge := zrg e
  refine zs_in (by decide) mf323 (Nat.le_of_ble_eq_true rfl) ?_
  show zGo X l 9 0 0 323 0 [(0, .ref 336), (1, .int a), (2, .int b), (3, .int c), (4, .int d), (5, .int e)] [] M _
  refine zs_iload_n (pc := 0) t323_0 rfl ?_
  refine zs_iload_n (pc := 1) t323_1 rfl ?_
  refine zs_iload_n (pc := 2) t323_2 rfl ?_
  refine zs_iload (pc := 3) t323_3 rfl ?_
  refine zs_invS (pc := 5) (as := [.int a, .int b, .int c, .int d]) (st := []) t323_5 (by decide) mf324 rfl rfl ⟨by decide, by decide, Nat.le_of_ble_eq_true rfl, Nat.le_of_ble_eq_true rfl⟩ (zs_in (by decide) mf324 (Nat.le_of_ble_eq_true rfl) ?_) (fun _ _ q => q)
  show zGo X l 1 0 0 324 0 [(0, .int a), (1, .int b), (2, .int c), (3, .int d)] [] M _
  refine zs_iload_n (pc := 0) t324_0 rfl ?_
  refine zs_i2l (pc := 1) t324_1 rfl ?_
  refine zs_lconst (pc := 2) t324_2 (v := 1) (by decide) ?_
  refine zs_ldc2_w (pc := 3) t324_3 (v := 200) (by decide) ?_
  by_cases w1 : 1 ≤ a.toInt ∧ a.toInt ≤ 200
  · refine zs_invS (pc := 6) (as := [.long a.toInt64, .long (1 : Int64), .long (200 : Int64)]) (st := []) t324_6 (by decide) mf228 rfl rfl ⟨by decide, by decide, Nat.le_of_ble_eq_true rfl, Nat.le_of_ble_eq_true rfl⟩ (K228T (zi2l rfl) ll1 ll200 (by omega) ?_) (fun _ _ q => q)
    show zGo X l 1 0 0 324 9 [(0, .int a), (1, .int b), (2, .int c), (3, .int d)] [.int (1 : Int32)] M _
    refine zs_if_eqF (pc := 9) t324_9 li1 (by decide) ?_
    refine zs_iload_n (pc := 12) t324_12 rfl ?_
    refine zs_i2l (pc := 13) t324_13 rfl ?_
    refine zs_lconst (pc := 14) t324_14 (v := 1) (by decide) ?_
    refine zs_ldc2_w (pc := 15) t324_15 (v := 999) (by decide) ?_
    by_cases w2 : 1 ≤ b.toInt ∧ b.toInt ≤ 999
    · refine zs_invS (pc := 18) (as := [.long b.toInt64, .long (1 : Int64), .long (999 : Int64)]) (st := []) t324_18 (by decide) mf228 rfl rfl ⟨by decide, by decide, Nat.le_of_ble_eq_true rfl, Nat.le_of_ble_eq_true rfl⟩ (K228T (zi2l rfl) ll1 ll999 (by omega) ?_) (fun _ _ q => q)
      show zGo X l 1 0 0 324 21 [(0, .int a), (1, .int b), (2, .int c), (3, .int d)] [.int (1 : Int32)] M _
      refine zs_if_eqF (pc := 21) t324_21 li1 (by decide) ?_
      refine zs_iload_n (pc := 24) t324_24 rfl ?_
      refine zs_i2l (pc := 25) t324_25 rfl ?_
      refine zs_lconst (pc := 26) t324_26 (v := 1) (by decide) ?_
      refine zs_ldc2_w (pc := 27) t324_27 (v := 8) (by decide) ?_
      by_cases w3 : 1 ≤ c.toInt ∧ c.toInt ≤ 8
      · refine zs_invS (pc := 30) (as := [.long c.toInt64, .long (1 : Int64), .long (8 : Int64)]) (st := []) t324_30 (by decide) mf228 rfl rfl ⟨by decide, by decide, Nat.le_of_ble_eq_true rfl, Nat.le_of_ble_eq_true rfl⟩ (K228T (zi2l rfl) ll1 ll8 (by omega) ?_) (fun _ _ q => q)
        show zGo X l 1 0 0 324 33 [(0, .int a), (1, .int b), (2, .int c), (3, .int d)] [.int (1 : Int32)] M _
        refine zs_if_eqF (pc := 33) t324_33 li1 (by decide) ?_
        refine zs_iload_n (pc := 36) t324_36 rfl ?_
        refine zs_i2l (pc := 37) t324_37 rfl ?_
        refine zs_lconst (pc := 38) t324_38 (v := 0) (by decide) ?_
        refine zs_ldc2_w (pc := 39) t324_39 (v := 50) (by decide) ?_
        by_cases w4 : 0 ≤ d.toInt ∧ d.toInt ≤ 50
        · refine zs_invS (pc := 42) (as := [.long d.toInt64, .long (0 : Int64), .long (50 : Int64)]) (st := []) t324_42 (by decide) mf228 rfl rfl ⟨by decide, by decide, Nat.le_of_ble_eq_true rfl, Nat.le_of_ble_eq_true rfl⟩ (K228T (zi2l rfl) ll0 ll50 (by omega) ?_) (fun _ _ q => q)
          show zGo X l 1 0 0 324 45 [(0, .int a), (1, .int b), (2, .int c), (3, .int d)] [.int (1 : Int32)] M _
          refine zs_if_eqF (pc := 45) t324_45 li1 (by decide) ?_
          refine zs_iconst (pc := 48) t324_48 (v := 1) (by decide) ?_
          refine zs_goto (pc := 49) t324_49 ?_
          refine zs_iret (pc := 53) t324_53 mr324 (by decide) ?_
          show zGo X l 9 0 0 323 8 [(0, .ref 336), (1, .int a), (2, .int b), (3, .int c), (4, .int d), (5, .int e)] [.int (1 : Int32)] M _
          refine zs_if_eqF (pc := 8) t323_8 li1 (by decide) ?_
          refine zs_iload (pc := 11) t323_11 rfl ?_
          refine zs_i2l (pc := 13) t323_13 rfl ?_
          refine zs_lconst (pc := 14) t323_14 (v := 0) (by decide) ?_
          refine zs_ldc2_w (pc := 15) t323_15 (v := 3) (by decide) ?_
          by_cases w5 : 0 ≤ e.toInt ∧ e.toInt ≤ 3
          · refine zs_invS (pc := 18) (as := [.long e.toInt64, .long (0 : Int64), .long (3 : Int64)]) (st := []) t323_18 (by decide) mf228 rfl rfl ⟨by decide, by decide, Nat.le_of_ble_eq_true rfl, Nat.le_of_ble_eq_true rfl⟩ (K228T (zi2l rfl) ll0 ll3 (by omega) ?_) (fun _ _ q => q)
            show zGo X l 9 0 0 323 21 [(0, .ref 336), (1, .int a), (2, .int b), (3, .int c), (4, .int d), (5, .int e)] [.int (1 : Int32)] M _
            refine zs_if_neT (pc := 21) t323_21 li1 (by decide) ?_
            refine zs_aload_n (pc := 26) t323_26 rfl ?_
            refine zs_iload_n (pc := 27) t323_27 rfl ?_
            refine zs_iload_n (pc := 28) t323_28 rfl ?_
            refine zs_iload_n (pc := 29) t323_29 rfl ?_
            refine zs_iload (pc := 30) t323_30 rfl ?_
            refine zs_invV (pc := 32) (k := 336) (as' := [.int a, .int b, .int c, .int d]) (st := []) t323_32 mf325 rfl rfl (Or.inl ⟨by decide, (zk1 (hs.k fk_zMm_336))⟩) ⟨by decide, by decide, Nat.le_of_ble_eq_true rfl, Nat.le_of_ble_eq_true rfl⟩ (K325 hs hI pR pF ⟨by omega, by omega⟩ ⟨by omega, by omega⟩ ⟨by omega, by omega⟩ ⟨by omega, by omega⟩ ?_) (fun _ _ q => q)
            intro w6M w6s w6I w6F w6PF
            show zGo X l 9 0 0 323 35 [(0, .ref 336), (1, .int a), (2, .int b), (3, .int c), (4, .int d), (5, .int e)] [] w6M _
            refine zs_iload (pc := 35) t323_35 rfl ?_
            by_cases w7 : e.toInt ≠ 0
            · refine zs_if_neT (pc := 37) t323_37 rfl (by omega) ?_
              refine zs_iload (pc := 47) t323_47 rfl ?_
              refine zs_iconst (pc := 49) t323_49 (v := 1) (by decide) ?_
              by_cases w8 : e.toInt ≠ 1
              · refine zs_icmp_neT (pc := 50) t323_50 rfl li1 (by omega) ?_
                refine zs_iload (pc := 60) t323_60 rfl ?_
                refine zs_iconst (pc := 62) t323_62 (v := 2) (by decide) ?_
                by_cases w9 : e.toInt ≠ 2
                · refine zs_icmp_neT (pc := 63) t323_63 rfl li2 (by omega) ?_
                  refine zs_aload_n (pc := 73) t323_73 rfl ?_
                  have w10 := zrg (zI w6M 336 45)
                  refine zs_get (pc := 74) t323_74 (by decide) (zk1 (w6s.k fk_zMm_336)) (zfvi rfl rfl) ?_
                  exact zs_iret (pc := 77) t323_77 mr323 rfl (hQ _ _ w6s w6I ((zFr.refl).trans (w6F.mono rfl)) (zPR.fr pR (w6F.eq rfl)) (zPC.fr pC (w6F.eq rfl)) w6PF)
                · refine zs_icmp_neF (pc := 63) t323_63 rfl li2 (by omega) ?_
                  refine zs_aload_n (pc := 66) t323_66 rfl ?_
                  have w11 := zrg (zI w6M 336 44)
                  refine zs_get (pc := 67) t323_67 (by decide) (zk1 (w6s.k fk_zMm_336)) (zfvi rfl rfl) ?_
                  refine zs_goto (pc := 70) t323_70 ?_
                  exact zs_iret (pc := 77) t323_77 mr323 rfl (hQ _ _ w6s w6I ((zFr.refl).trans (w6F.mono rfl)) (zPR.fr pR (w6F.eq rfl)) (zPC.fr pC (w6F.eq rfl)) w6PF)
              · refine zs_icmp_neF (pc := 50) t323_50 rfl li1 (by omega) ?_
                refine zs_aload_n (pc := 53) t323_53 rfl ?_
                have w12 := zrg (zI w6M 336 43)
                refine zs_get (pc := 54) t323_54 (by decide) (zk1 (w6s.k fk_zMm_336)) (zfvi rfl rfl) ?_
                refine zs_goto (pc := 57) t323_57 ?_
                exact zs_iret (pc := 77) t323_77 mr323 rfl (hQ _ _ w6s w6I ((zFr.refl).trans (w6F.mono rfl)) (zPR.fr pR (w6F.eq rfl)) (zPC.fr pC (w6F.eq rfl)) w6PF)
            · refine zs_if_neF (pc := 37) t323_37 rfl (by omega) ?_
              refine zs_aload_n (pc := 40) t323_40 rfl ?_
              have w13 := zrg (zI w6M 336 42)
              refine zs_get (pc := 41) t323_41 (by decide) (zk1 (w6s.k fk_zMm_336)) (zfvi rfl rfl) ?_
              refine zs_goto (pc := 44) t323_44 ?_
              exact zs_iret (pc := 77) t323_77 mr323 rfl (hQ _ _ w6s w6I ((zFr.refl).trans (w6F.mono rfl)) (zPR.fr pR (w6F.eq rfl)) (zPC.fr pC (w6F.eq rfl)) w6PF)
          · refine zs_invS (pc := 18) (as := [.long e.toInt64, .long (0 : Int64), .long (3 : Int64)]) (st := []) t323_18 (by decide) mf228 rfl rfl ⟨by decide, by decide, Nat.le_of_ble_eq_true rfl, Nat.le_of_ble_eq_true rfl⟩ (K228F (zi2l rfl) ll0 ll3 (by omega) ?_) (fun _ _ q => q)
            show zGo X l 9 0 0 323 21 [(0, .ref 336), (1, .int a), (2, .int b), (3, .int c), (4, .int d), (5, .int e)] [.int (0 : Int32)] M _
            refine zs_if_neF (pc := 21) t323_21 li0 (by decide) ?_
            refine zs_iconst (pc := 24) t323_24 (v := -1) (by decide) ?_
            exact zs_iret (pc := 25) t323_25 mr323 (by decide) (hQ _ _ hs hI (zFr.refl) pR pC pF)
        · refine zs_invS (pc := 42) (as := [.long d.toInt64, .long (0 : Int64), .long (50 : Int64)]) (st := []) t324_42 (by decide) mf228 rfl rfl ⟨by decide, by decide, Nat.le_of_ble_eq_true rfl, Nat.le_of_ble_eq_true rfl⟩ (K228F (zi2l rfl) ll0 ll50 (by omega) ?_) (fun _ _ q => q)
          show zGo X l 1 0 0 324 45 [(0, .int a), (1, .int b), (2, .int c), (3, .int d)] [.int (0 : Int32)] M _
          refine zs_if_eqT (pc := 45) t324_45 li0 (by decide) ?_
          refine zs_iconst (pc := 52) t324_52 (v := 0) (by decide) ?_
          refine zs_iret (pc := 53) t324_53 mr324 (by decide) ?_
          show zGo X l 9 0 0 323 8 [(0, .ref 336), (1, .int a), (2, .int b), (3, .int c), (4, .int d), (5, .int e)] [.int (0 : Int32)] M _
          refine zs_if_eqT (pc := 8) t323_8 li0 (by decide) ?_
          refine zs_iconst (pc := 24) t323_24 (v := -1) (by decide) ?_
          exact zs_iret (pc := 25) t323_25 mr323 (by decide) (hQ _ _ hs hI (zFr.refl) pR pC pF)
      · refine zs_invS (pc := 30) (as := [.long c.toInt64, .long (1 : Int64), .long (8 : Int64)]) (st := []) t324_30 (by decide) mf228 rfl rfl ⟨by decide, by decide, Nat.le_of_ble_eq_true rfl, Nat.le_of_ble_eq_true rfl⟩ (K228F (zi2l rfl) ll1 ll8 (by omega) ?_) (fun _ _ q => q)
        show zGo X l 1 0 0 324 33 [(0, .int a), (1, .int b), (2, .int c), (3, .int d)] [.int (0 : Int32)] M _
        refine zs_if_eqT (pc := 33) t324_33 li0 (by decide) ?_
        refine zs_iconst (pc := 52) t324_52 (v := 0) (by decide) ?_
        refine zs_iret (pc := 53) t324_53 mr324 (by decide) ?_
        show zGo X l 9 0 0 323 8 [(0, .ref 336), (1, .int a), (2, .int b), (3, .int c), (4, .int d), (5, .int e)] [.int (0 : Int32)] M _
        refine zs_if_eqT (pc := 8) t323_8 li0 (by decide) ?_
        refine zs_iconst (pc := 24) t323_24 (v := -1) (by decide) ?_
        exact zs_iret (pc := 25) t323_25 mr323 (by decide) (hQ _ _ hs hI (zFr.refl) pR pC pF)
    · refine zs_invS (pc := 18) (as := [.long b.toInt64, .long (1 : Int64), .long (999 : Int64)]) (st := []) t324_18 (by decide) mf228 rfl rfl ⟨by decide, by decide, Nat.le_of_ble_eq_true rfl, Nat.le_of_ble_eq_true rfl⟩ (K228F (zi2l rfl) ll1 ll999 (by omega) ?_) (fun _ _ q => q)
      show zGo X l 1 0 0 324 21 [(0, .int a), (1, .int b), (2, .int c), (3, .int d)] [.int (0 : Int32)] M _
      refine zs_if_eqT (pc := 21) t324_21 li0 (by decide) ?_
      refine zs_iconst (pc := 52) t324_52 (v := 0) (by decide) ?_
      refine zs_iret (pc := 53) t324_53 mr324 (by decide) ?_
      show zGo X l 9 0 0 323 8 [(0, .ref 336), (1, .int a), (2, .int b), (3, .int c), (4, .int d), (5, .int e)] [.int (0 : Int32)] M _
      refine zs_if_eqT (pc := 8) t323_8 li0 (by decide) ?_
      refine zs_iconst (pc := 24) t323_24 (v := -1) (by decide) ?_
      exact zs_iret (pc := 25) t323_25 mr323 (by decide) (hQ _ _ hs hI (zFr.refl) pR pC pF)
  · refine zs_invS (pc := 6) (as := [.long a.toInt64, .long (1 : Int64), .long (200 : Int64)]) (st := []) t324_6 (by decide) mf228 rfl rfl ⟨by decide, by decide, Nat.le_of_ble_eq_true rfl, Nat.le_of_ble_eq_true rfl⟩ (K228F (zi2l rfl) ll1 ll200 (by omega) ?_) (fun _ _ q => q)
    show zGo X l 1 0 0 324 9 [(0, .int a), (1, .int b), (2, .int c), (3, .int d)] [.int (0 : Int32)] M _
    refine zs_if_eqT (pc := 9) t324_9 li0 (by decide) ?_
    refine zs_iconst (pc := 52) t324_52 (v := 0) (by decide) ?_
    refine zs_iret (pc := 53) t324_53 mr324 (by decide) ?_
    show zGo X l 9 0 0 323 8 [(0, .ref 336), (1, .int a), (2, .int b), (3, .int c), (4, .int d), (5, .int e)] [.int (0 : Int32)] M _
    refine zs_if_eqT (pc := 8) t323_8 li0 (by decide) ?_
    refine zs_iconst (pc := 24) t323_24 (v := -1) (by decide) ?_
    exact zs_iret (pc := 25) t323_25 mr323 (by decide) (hQ _ _ hs hI (zFr.refl) pR pC pF)
theorem K326 {X : zX} {l : Launch} {M : zM} {Q : Option Value → zM → Prop} {a b c : Int32} (hs : zSk zMm M) (hI : zIv mLo mHi M) (pR : zPR M) (pC : zPC M) (pF : zPF M) (hQ : ∀ (M' : zM) (v : Int32), zSk zMm M' → zIv mLo mHi M' → zFr [(336, 363, none)] M M' → zPR M' → zPC M' → zPF M' → Q (some (.int v)) M') : zCall X l 9 0 0 326 [.ref 336, .int a, .int b, .int c] M Q := by
  have ga := zrg a
  have gb := zrg b
  have gc := zrg c
  refine zs_in (by decide) mf326 (Nat.le_of_ble_eq_true rfl) ?_
  show zGo X l 9 0 0 326 0 [(0, .ref 336), (1, .int a), (2, .int b), (3, .int c)] [] M _
  refine zs_iload_n (pc := 0) t326_0 rfl ?_
  refine zs_iload_n (pc := 1) t326_1 rfl ?_
  refine zs_iconst (pc := 2) t326_2 (v := 1) (by decide) ?_
  refine zs_iload_n (pc := 3) t326_3 rfl ?_
  refine zs_invS (pc := 4) (as := [.int a, .int b, .int (1 : Int32), .int c]) (st := []) t326_4 (by decide) mf324 rfl rfl ⟨by decide, by decide, Nat.le_of_ble_eq_true rfl, Nat.le_of_ble_eq_true rfl⟩ (zs_in (by decide) mf324 (Nat.le_of_ble_eq_true rfl) ?_) (fun _ _ q => q)
  show zGo X l 1 0 0 324 0 [(0, .int a), (1, .int b), (2, .int (1 : Int32)), (3, .int c)] [] M _
  refine zs_iload_n (pc := 0) t324_0 rfl ?_
  refine zs_i2l (pc := 1) t324_1 rfl ?_
  refine zs_lconst (pc := 2) t324_2 (v := 1) (by decide) ?_
  refine zs_ldc2_w (pc := 3) t324_3 (v := 200) (by decide) ?_
  by_cases w1 : 1 ≤ a.toInt ∧ a.toInt ≤ 200
  · refine zs_invS (pc := 6) (as := [.long a.toInt64, .long (1 : Int64), .long (200 : Int64)]) (st := []) t324_6 (by decide) mf228 rfl rfl ⟨by decide, by decide, Nat.le_of_ble_eq_true rfl, Nat.le_of_ble_eq_true rfl⟩ (K228T (zi2l rfl) ll1 ll200 (by omega) ?_) (fun _ _ q => q)
    show zGo X l 1 0 0 324 9 [(0, .int a), (1, .int b), (2, .int (1 : Int32)), (3, .int c)] [.int (1 : Int32)] M _
    refine zs_if_eqF (pc := 9) t324_9 li1 (by decide) ?_
    refine zs_iload_n (pc := 12) t324_12 rfl ?_
    refine zs_i2l (pc := 13) t324_13 rfl ?_
    refine zs_lconst (pc := 14) t324_14 (v := 1) (by decide) ?_
    refine zs_ldc2_w (pc := 15) t324_15 (v := 999) (by decide) ?_
    by_cases w2 : 1 ≤ b.toInt ∧ b.toInt ≤ 999
    · refine zs_invS (pc := 18) (as := [.long b.toInt64, .long (1 : Int64), .long (999 : Int64)]) (st := []) t324_18 (by decide) mf228 rfl rfl ⟨by decide, by decide, Nat.le_of_ble_eq_true rfl, Nat.le_of_ble_eq_true rfl⟩ (K228T (zi2l rfl) ll1 ll999 (by omega) ?_) (fun _ _ q => q)
      show zGo X l 1 0 0 324 21 [(0, .int a), (1, .int b), (2, .int (1 : Int32)), (3, .int c)] [.int (1 : Int32)] M _
      refine zs_if_eqF (pc := 21) t324_21 li1 (by decide) ?_
      refine zs_iload_n (pc := 24) t324_24 rfl ?_
      refine zs_i2l (pc := 25) t324_25 (c := 1) (by decide) ?_
      refine zs_lconst (pc := 26) t324_26 (v := 1) (by decide) ?_
      refine zs_ldc2_w (pc := 27) t324_27 (v := 8) (by decide) ?_
      refine zs_invS (pc := 30) (as := [.long (1 : Int64), .long (1 : Int64), .long (8 : Int64)]) (st := []) t324_30 (by decide) mf228 rfl rfl ⟨by decide, by decide, Nat.le_of_ble_eq_true rfl, Nat.le_of_ble_eq_true rfl⟩ (K228T ll1 ll1 ll8 (by omega) ?_) (fun _ _ q => q)
      show zGo X l 1 0 0 324 33 [(0, .int a), (1, .int b), (2, .int (1 : Int32)), (3, .int c)] [.int (1 : Int32)] M _
      refine zs_if_eqF (pc := 33) t324_33 li1 (by decide) ?_
      refine zs_iload_n (pc := 36) t324_36 rfl ?_
      refine zs_i2l (pc := 37) t324_37 rfl ?_
      refine zs_lconst (pc := 38) t324_38 (v := 0) (by decide) ?_
      refine zs_ldc2_w (pc := 39) t324_39 (v := 50) (by decide) ?_
      by_cases w4 : 0 ≤ c.toInt ∧ c.toInt ≤ 50
      · refine zs_invS (pc := 42) (as := [.long c.toInt64, .long (0 : Int64), .long (50 : Int64)]) (st := []) t324_42 (by decide) mf228 rfl rfl ⟨by decide, by decide, Nat.le_of_ble_eq_true rfl, Nat.le_of_ble_eq_true rfl⟩ (K228T (zi2l rfl) ll0 ll50 (by omega) ?_) (fun _ _ q => q)
        show zGo X l 1 0 0 324 45 [(0, .int a), (1, .int b), (2, .int (1 : Int32)), (3, .int c)] [.int (1 : Int32)] M _
        refine zs_if_eqF (pc := 45) t324_45 li1 (by decide) ?_
        refine zs_iconst (pc := 48) t324_48 (v := 1) (by decide) ?_
        refine zs_goto (pc := 49) t324_49 ?_
        refine zs_iret (pc := 53) t324_53 mr324 (by decide) ?_
        show zGo X l 9 0 0 326 7 [(0, .ref 336), (1, .int a), (2, .int b), (3, .int c)] [.int (1 : Int32)] M _
        refine zs_if_neT (pc := 7) t326_7 li1 (by decide) ?_
        refine zs_iconst (pc := 12) t326_12 (v := 1) (by decide) ?_
        refine zs_istore (pc := 13) t326_13 (ls' := [(4, .int (1 : Int32)), (0, .ref 336), (1, .int a), (2, .int b), (3, .int c)]) (zml mf326 (by decide)) rfl ?_
        have w5L : ∀ (m : Nat) (w5x4 : Int32) (w5M : zM), (1 ≤ w5x4.toInt ∧ w5x4.toInt ≤ 9) → zSk zMm w5M → zIv mLo mHi w5M → zFr [(344, 344, none), (349, 349, none), (350, 350, none), (343, 343, none), (345, 345, none), (346, 346, none), (347, 347, none), (348, 348, none), (336, 336, some 22), (336, 336, some 18), (336, 336, some 19), (336, 336, some 20), (336, 336, some 21), (351, 354, none), (358, 358, none), (336, 336, some 37), (356, 356, none), (355, 355, none), (343, 343, none), (344, 344, none), (336, 336, some 39), (359, 359, none), (336, 336, some 3), (360, 360, none), (361, 361, none), (336, 336, some 42), (336, 336, some 43), (336, 336, some 44), (336, 336, some 45)] M w5M → zPF w5M → 9 - w5x4.toInt ≤ (m : Int) → zGo X l 9 0 0 326 15 [(0, .ref 336), (1, .int a), (2, .int b), (3, .int c), (4, .int w5x4)] [] w5M Q := by
          intro m
          induction m using Nat.strongRecOn with
          | ind w5m w5ih =>
            intro w5x4 w5M w5b4 w5s w5I w5F w5PF w5q
            refine zs_iload (pc := 15) t326_15 rfl ?_
            refine zs_bipush (pc := 17) t326_17 (v := 8) (by decide) ?_
            by_cases w6 : 8 < w5x4.toInt
            · refine zs_icmp_gtT (pc := 19) t326_19 rfl li8 (by omega) ?_
              refine zs_bipush (pc := 52) t326_52 (v := -2) (by decide) ?_
              exact zs_iret (pc := 54) t326_54 mr326 (by decide) (hQ _ _ w5s w5I ((zFr.refl).trans (w5F.mono rfl)) (zPR.fr pR (w5F.eq rfl)) (zPC.fr pC (w5F.eq rfl)) w5PF)
            · refine zs_icmp_gtF (pc := 19) t326_19 rfl li8 (by omega) ?_
              refine zs_aload_n (pc := 22) t326_22 rfl ?_
              refine zs_iload_n (pc := 23) t326_23 rfl ?_
              refine zs_iload_n (pc := 24) t326_24 rfl ?_
              refine zs_iload (pc := 25) t326_25 rfl ?_
              refine zs_iload_n (pc := 27) t326_27 rfl ?_
              refine zs_invV (pc := 28) (k := 336) (as' := [.int a, .int b, .int w5x4, .int c]) (st := []) t326_28 mf325 rfl rfl (Or.inl ⟨by decide, (zk1 (w5s.k fk_zMm_336))⟩) ⟨by decide, by decide, Nat.le_of_ble_eq_true rfl, Nat.le_of_ble_eq_true rfl⟩ (K325 w5s w5I (zPR.fr pR (w5F.eq rfl)) w5PF ⟨by omega, by omega⟩ ⟨by omega, by omega⟩ ⟨by omega, by omega⟩ ⟨by omega, by omega⟩ ?_) (fun _ _ q => q)
              intro w7M w7s w7I w7F w7PF
              show zGo X l 9 0 0 326 31 [(0, .ref 336), (1, .int a), (2, .int b), (3, .int c), (4, .int w5x4)] [] w7M _
              refine zs_aload_n (pc := 31) t326_31 rfl ?_
              have w8 := zrg (zI w7M 336 42)
              refine zs_get (pc := 32) t326_32 (by decide) (zk1 (w7s.k fk_zMm_336)) (zfvi rfl rfl) ?_
              refine zs_aload_n (pc := 35) t326_35 rfl ?_
              have w9 := zrg (zI w7M 336 43)
              refine zs_get (pc := 36) t326_36 (by decide) (zk1 (w7s.k fk_zMm_336)) (zfvi rfl rfl) ?_
              obtain ⟨w10v, w10⟩ : ∃ v, v = (zI w7M 336 42) + (zI w7M 336 43) := ⟨_, rfl⟩
              have w10g := zrg w10v
              refine zs_iadd (pc := 39) t326_39 (c := w10v) w10.symm ?_
              by_cases w11 : w10v.toInt ≠ 0
              · refine zs_if_neT (pc := 40) t326_40 rfl (by omega) ?_
                obtain ⟨w12v, w12e, w12⟩ := ziadd (a := w5x4) (b := Int32.ofInt 1) rfl (show (Int32.ofInt 1).toInt = 1 by decide) (by omega) (by omega)
                refine zs_iinc (pc := 46) t326_46 (ls' := [(4, .int w12v), (0, .ref 336), (1, .int a), (2, .int b), (3, .int c)]) (zml mf326 (by decide)) rfl (c := w12v) w12e rfl ?_
                refine zs_goto (pc := 49) t326_49 ?_
                refine zGo.locals (ls' := [(0, .ref 336), (1, .int a), (2, .int b), (3, .int c), (4, .int w12v)]) (by simp) ?_
                have w13 := w12
                exact w5ih (w5m - 1) (by omega) w12v w7M ⟨by omega, by omega⟩ w7s w7I (((zFr.refl).trans (w5F.mono rfl)).trans (w7F.mono rfl)) w7PF (by omega)
              · refine zs_if_neF (pc := 40) t326_40 rfl (by omega) ?_
                refine zs_iload (pc := 43) t326_43 rfl ?_
                exact zs_iret (pc := 45) t326_45 mr326 rfl (hQ _ _ w7s w7I (((zFr.refl).trans (w5F.mono rfl)).trans (w7F.mono rfl)) (zPR.fr (zPR.fr pR (w5F.eq rfl)) (w7F.eq rfl)) (zPC.fr (zPC.fr pC (w5F.eq rfl)) (w7F.eq rfl)) w7PF)
        refine zGo.locals (ls' := [(0, .ref 336), (1, .int a), (2, .int b), (3, .int c), (4, .int (1 : Int32))]) (by simp) ?_
        have w14 := li1
        exact w5L ((9 - 1 : Int).toNat) (1 : Int32) M ⟨by decide, by decide⟩ hs hI zFr.refl pF (by omega)
      · refine zs_invS (pc := 42) (as := [.long c.toInt64, .long (0 : Int64), .long (50 : Int64)]) (st := []) t324_42 (by decide) mf228 rfl rfl ⟨by decide, by decide, Nat.le_of_ble_eq_true rfl, Nat.le_of_ble_eq_true rfl⟩ (K228F (zi2l rfl) ll0 ll50 (by omega) ?_) (fun _ _ q => q)
        show zGo X l 1 0 0 324 45 [(0, .int a), (1, .int b), (2, .int (1 : Int32)), (3, .int c)] [.int (0 : Int32)] M _
        refine zs_if_eqT (pc := 45) t324_45 li0 (by decide) ?_
        refine zs_iconst (pc := 52) t324_52 (v := 0) (by decide) ?_
        refine zs_iret (pc := 53) t324_53 mr324 (by decide) ?_
        show zGo X l 9 0 0 326 7 [(0, .ref 336), (1, .int a), (2, .int b), (3, .int c)] [.int (0 : Int32)] M _
        refine zs_if_neF (pc := 7) t326_7 li0 (by decide) ?_
        refine zs_iconst (pc := 10) t326_10 (v := -1) (by decide) ?_
        exact zs_iret (pc := 11) t326_11 mr326 (by decide) (hQ _ _ hs hI (zFr.refl) pR pC pF)
    · refine zs_invS (pc := 18) (as := [.long b.toInt64, .long (1 : Int64), .long (999 : Int64)]) (st := []) t324_18 (by decide) mf228 rfl rfl ⟨by decide, by decide, Nat.le_of_ble_eq_true rfl, Nat.le_of_ble_eq_true rfl⟩ (K228F (zi2l rfl) ll1 ll999 (by omega) ?_) (fun _ _ q => q)
      show zGo X l 1 0 0 324 21 [(0, .int a), (1, .int b), (2, .int (1 : Int32)), (3, .int c)] [.int (0 : Int32)] M _
      refine zs_if_eqT (pc := 21) t324_21 li0 (by decide) ?_
      refine zs_iconst (pc := 52) t324_52 (v := 0) (by decide) ?_
      refine zs_iret (pc := 53) t324_53 mr324 (by decide) ?_
      show zGo X l 9 0 0 326 7 [(0, .ref 336), (1, .int a), (2, .int b), (3, .int c)] [.int (0 : Int32)] M _
      refine zs_if_neF (pc := 7) t326_7 li0 (by decide) ?_
      refine zs_iconst (pc := 10) t326_10 (v := -1) (by decide) ?_
      exact zs_iret (pc := 11) t326_11 mr326 (by decide) (hQ _ _ hs hI (zFr.refl) pR pC pF)
  · refine zs_invS (pc := 6) (as := [.long a.toInt64, .long (1 : Int64), .long (200 : Int64)]) (st := []) t324_6 (by decide) mf228 rfl rfl ⟨by decide, by decide, Nat.le_of_ble_eq_true rfl, Nat.le_of_ble_eq_true rfl⟩ (K228F (zi2l rfl) ll1 ll200 (by omega) ?_) (fun _ _ q => q)
    show zGo X l 1 0 0 324 9 [(0, .int a), (1, .int b), (2, .int (1 : Int32)), (3, .int c)] [.int (0 : Int32)] M _
    refine zs_if_eqT (pc := 9) t324_9 li0 (by decide) ?_
    refine zs_iconst (pc := 52) t324_52 (v := 0) (by decide) ?_
    refine zs_iret (pc := 53) t324_53 mr324 (by decide) ?_
    show zGo X l 9 0 0 326 7 [(0, .ref 336), (1, .int a), (2, .int b), (3, .int c)] [.int (0 : Int32)] M _
    refine zs_if_neF (pc := 7) t326_7 li0 (by decide) ?_
    refine zs_iconst (pc := 10) t326_10 (v := -1) (by decide) ?_
    exact zs_iret (pc := 11) t326_11 mr326 (by decide) (hQ _ _ hs hI (zFr.refl) pR pC pF)
theorem K327 {X : zX} {l : Launch} {M : zM} {Q : Option Value → zM → Prop} {a : Int32} (hs : zSk zMm M) (hI : zIv mLo mHi M) (pR : zPR M) (pC : zPC M) (pF : zPF M) (hQ : ∀ (M' : zM) (v : Int32), zSk zMm M' → zIv mLo mHi M' → zFr [(336, 363, none)] M M' → zPR M' → zPC M' → zPF M' → Q (some (.int v)) M') : zCall X l 7 0 0 327 [.ref 336, .int a] M Q := by
  have ga := zrg a
  refine zs_in (by decide) mf327 (Nat.le_of_ble_eq_true rfl) ?_
  show zGo X l 7 0 0 327 0 [(0, .ref 336), (1, .int a)] [] M _
  refine zs_aload_n (pc := 0) t327_0 rfl ?_
  refine zs_iload_n (pc := 1) t327_1 rfl ?_
  refine zs_invV (pc := 2) (k := 336) (as' := [.int a]) (st := []) t327_2 mf306 rfl rfl (Or.inl ⟨by decide, (zk1 (hs.k fk_zMm_336))⟩) ⟨by decide, by decide, Nat.le_of_ble_eq_true rfl, Nat.le_of_ble_eq_true rfl⟩ (zs_in (by decide) mf306 (Nat.le_of_ble_eq_true rfl) ?_) (fun _ _ q => q)
  show zGo X l 1 0 0 306 0 [(0, .ref 336), (1, .int a)] [] M _
  refine zs_iload_n (pc := 0) t306_0 rfl ?_
  refine zs_i2l (pc := 1) t306_1 rfl ?_
  refine zs_lconst (pc := 2) t306_2 (v := 0) (by decide) ?_
  refine zs_aload_n (pc := 3) t306_3 rfl ?_
  refine zs_get (pc := 4) t306_4 (by decide) (zk1 (hs.k fk_zMm_336)) (hs.p rfl fv_zMm_336_0) ?_
  refine zs_iconst (pc := 7) t306_7 (v := 0) (by decide) ?_
  have w1 := ibA0 hI
  refine zs_iald (pc := 8) t306_8 (j := 0) (by decide) (zk1 (hs.k fk_zMm_337)) li0 (zk2 (hs.k fk_zMm_337) (by decide)) rfl ?_
  refine zs_iconst (pc := 9) t306_9 (v := 1) (by decide) ?_
  obtain ⟨w2v, w2e, w2⟩ := zisub (a := (zI M 337 0)) (b := (1 : Int32)) rfl li1 (by omega) (by omega)
  refine zs_isub (pc := 10) t306_10 (c := w2v) w2e ?_
  refine zs_i2l (pc := 11) t306_11 rfl ?_
  by_cases w3 : 0 ≤ a.toInt ∧ a.toInt ≤ ((zI M 337 0).toInt - 1)
  · refine zs_invS (pc := 12) (as := [.long a.toInt64, .long (0 : Int64), .long w2v.toInt64]) (st := []) t306_12 (by decide) mf228 rfl rfl ⟨by decide, by decide, Nat.le_of_ble_eq_true rfl, Nat.le_of_ble_eq_true rfl⟩ (K228T (zi2l rfl) ll0 (zi2l w2) (by omega) ?_) (fun _ _ q => q)
    show zGo X l 1 0 0 306 15 [(0, .ref 336), (1, .int a)] [.int (1 : Int32)] M _
    refine zs_iret (pc := 15) t306_15 mr306 (by decide) ?_
    show zGo X l 7 0 0 327 5 [(0, .ref 336), (1, .int a)] [.int (1 : Int32)] M _
    refine zs_if_neT (pc := 5) t327_5 li1 (by decide) ?_
    refine zs_aload_n (pc := 12) t327_12 rfl ?_
    refine zs_invV (pc := 13) (k := 336) (as' := []) (st := []) t327_13 mf268 rfl rfl (Or.inl ⟨by decide, (zk1 (hs.k fk_zMm_336))⟩) ⟨by decide, by decide, Nat.le_of_ble_eq_true rfl, Nat.le_of_ble_eq_true rfl⟩ (K268 hs hI pR pF ?_) (fun _ _ q => q)
    intro w4M w4s w4I w4F w4PF w4PD w4PV
    show zGo X l 7 0 0 327 16 [(0, .ref 336), (1, .int a)] [] w4M _
    refine zs_aload_n (pc := 16) t327_16 rfl ?_
    have w5 := ib336_22 w4I
    refine zs_get (pc := 17) t327_17 (by decide) (zk1 (w4s.k fk_zMm_336)) (zfvi rfl rfl) ?_
    refine zs_istore_n (pc := 20) t327_20 (ls' := [(2, .int (zI w4M 336 22)), (0, .ref 336), (1, .int a)]) (zml mf327 (by decide)) rfl ?_
    refine zs_aload_n (pc := 21) t327_21 rfl ?_
    refine zs_aload_n (pc := 22) t327_22 rfl ?_
    refine zs_get (pc := 23) t327_23 (by decide) (zk1 (w4s.k fk_zMm_336)) (w4s.p rfl fv_zMm_336_0) ?_
    refine zs_bipush (pc := 26) t327_26 (v := 8) (by decide) ?_
    have w6 := ibA8 hI
    refine zs_iald (pc := 28) t327_28 (j := 8) (by decide) (zk1 (w4s.k fk_zMm_337)) li8 (zk2 (w4s.k fk_zMm_337) (by decide)) ((w4F 337 8 rfl).trans rfl) ?_
    refine zs_iload_n (pc := 29) t327_29 rfl ?_
    refine zs_invV (pc := 30) (k := 336) (as' := [.int (zI M 337 8), .int a]) (st := []) t327_30 mf269 rfl rfl (Or.inl ⟨by decide, (zk1 (w4s.k fk_zMm_336))⟩) ⟨by decide, by decide, Nat.le_of_ble_eq_true rfl, Nat.le_of_ble_eq_true rfl⟩ (K269 w4s w4I (zPR.fr pR (w4F.eq rfl)) ⟨by omega, by omega⟩ ?_) (fun _ _ q => q)
    intro w7M w7s w7I w7F w7J w7PT
    show zGo X l 7 0 0 327 33 [(2, .int (zI w4M 336 22)), (0, .ref 336), (1, .int a)] [] w7M _
    refine zs_aload_n (pc := 33) t327_33 rfl ?_
    refine zs_iconst (pc := 34) t327_34 (v := 0) (by decide) ?_
    have w8 : zIv mLo mHi (zsI w7M 336 3 (0 : Int32)) := zIv.put w7I (show 0 ≤ (0 : Int32).toInt ∧ (0 : Int32).toInt ≤ 1 from ⟨by decide, by decide⟩)
    have w9 : zPF (zsI w7M 336 3 (0 : Int32)) := zPF.off
    refine zs_putI (pc := 35) t327_35 (zk1 (w7s.k fk_zMm_336)) (by decide) ?_
    refine zs_iload_n (pc := 38) t327_38 rfl ?_
    refine zs_aload_n (pc := 39) t327_39 rfl ?_
    have w10 := ib336_22 w7I
    refine zs_get (pc := 40) t327_40 (by decide) (zk1 (w7s.k fk_zMm_336)) (zfvi rfl ((zIoj (by decide)).trans rfl)) ?_
    obtain ⟨w11v, w11e, w11⟩ := zisub (a := (zI w4M 336 22)) (b := (zI w7M 336 22)) rfl rfl (by omega) (by omega)
    refine zs_isub (pc := 43) t327_43 (c := w11v) w11e ?_
    exact zs_iret (pc := 44) t327_44 mr327 rfl (hQ _ _ w7s w8 ((((zFr.refl).trans (w4F.mono rfl)).trans (w7F.mono rfl)).put rfl) (zPR.fr (M' := (zsI w7M 336 3 (0 : Int32))) (zPR.fr (zPR.fr pR (w4F.eq rfl)) (w7F.eq rfl)) (zEq.put rfl)) (zPC.fr (M' := (zsI w7M 336 3 (0 : Int32))) (zPC.fr (zPC.fr pC (w4F.eq rfl)) (w7F.eq rfl)) (zEq.put rfl)) w9)
  · refine zs_invS (pc := 12) (as := [.long a.toInt64, .long (0 : Int64), .long w2v.toInt64]) (st := []) t306_12 (by decide) mf228 rfl rfl ⟨by decide, by decide, Nat.le_of_ble_eq_true rfl, Nat.le_of_ble_eq_true rfl⟩ (K228F (zi2l rfl) ll0 (zi2l w2) (by omega) ?_) (fun _ _ q => q)
    show zGo X l 1 0 0 306 15 [(0, .ref 336), (1, .int a)] [.int (0 : Int32)] M _
    refine zs_iret (pc := 15) t306_15 mr306 (by decide) ?_
    show zGo X l 7 0 0 327 5 [(0, .ref 336), (1, .int a)] [.int (0 : Int32)] M _
    refine zs_if_neF (pc := 5) t327_5 li0 (by decide) ?_
    refine zs_ldc_w (pc := 8) t327_8 (v := -100000) rfl (by decide) ?_
    exact zs_iret (pc := 11) t327_11 mr327 (by decide) (hQ _ _ hs hI (zFr.refl) pR pC pF)
theorem K328 {X : zX} {l : Launch} {M : zM} {Q : Option Value → zM → Prop} {a : Int32} (hs : zSk zMm M) (hI : zIv mLo mHi M) (pR : zPR M) (pC : zPC M) (pF : zPF M) (hQ : ∀ (M' : zM) (v : Int32), zSk zMm M' → zIv mLo mHi M' → zFr [(336, 363, none)] M M' → zPR M' → zPC M' → zPF M' → Q (some (.int v)) M') : zCall X l 6 0 0 328 [.ref 336, .int a] M Q := by
  have ga := zrg a
  refine zs_in (by decide) mf328 (Nat.le_of_ble_eq_true rfl) ?_
  show zGo X l 6 0 0 328 0 [(0, .ref 336), (1, .int a)] [] M _
  refine zs_iload_n (pc := 0) t328_0 rfl ?_
  refine zs_i2l (pc := 1) t328_1 rfl ?_
  refine zs_lconst (pc := 2) t328_2 (v := 0) (by decide) ?_
  refine zs_ldc2_w (pc := 3) t328_3 (v := 2) (by decide) ?_
  by_cases w1 : 0 ≤ a.toInt ∧ a.toInt ≤ 2
  · refine zs_invS (pc := 6) (as := [.long a.toInt64, .long (0 : Int64), .long (2 : Int64)]) (st := []) t328_6 (by decide) mf228 rfl rfl ⟨by decide, by decide, Nat.le_of_ble_eq_true rfl, Nat.le_of_ble_eq_true rfl⟩ (K228T (zi2l rfl) ll0 ll2 (by omega) ?_) (fun _ _ q => q)
    show zGo X l 6 0 0 328 9 [(0, .ref 336), (1, .int a)] [.int (1 : Int32)] M _
    refine zs_if_neT (pc := 9) t328_9 li1 (by decide) ?_
    refine zs_iconst (pc := 14) t328_14 (v := -1) (by decide) ?_
    refine zs_istore_n (pc := 15) t328_15 (ls' := [(2, .int (-1 : Int32)), (0, .ref 336), (1, .int a)]) (zml mf328 (by decide)) rfl ?_
    refine zs_iconst (pc := 16) t328_16 (v := 0) (by decide) ?_
    refine zs_istore_n (pc := 17) t328_17 (ls' := [(3, .int (0 : Int32)), (2, .int (-1 : Int32)), (0, .ref 336), (1, .int a)]) (zml mf328 (by decide)) rfl ?_
    refine zs_iconst (pc := 18) t328_18 (v := 0) (by decide) ?_
    refine zs_istore (pc := 19) t328_19 (ls' := [(4, .int (0 : Int32)), (3, .int (0 : Int32)), (2, .int (-1 : Int32)), (0, .ref 336), (1, .int a)]) (zml mf328 (by decide)) rfl ?_
    refine zs_iconst (pc := 21) t328_21 (v := 2) (by decide) ?_
    refine zs_istore (pc := 22) t328_22 (ls' := [(5, .int (2 : Int32)), (4, .int (0 : Int32)), (3, .int (0 : Int32)), (2, .int (-1 : Int32)), (0, .ref 336), (1, .int a)]) (zml mf328 (by decide)) rfl ?_
    have w2L : ∀ (m : Nat) (w2x2 : Int32) (w2x3 : Int32) (w2x4 : Int32) (w2x5 : Int32) (w2M : zM), ((-1) ≤ w2x2.toInt ∧ w2x2.toInt ≤ 8) → (2 ≤ w2x5.toInt ∧ w2x5.toInt ≤ 9) → zSk zMm w2M → zIv mLo mHi w2M → zFr [(344, 344, none), (349, 349, none), (350, 350, none), (343, 343, none), (345, 345, none), (346, 346, none), (347, 347, none), (348, 348, none), (336, 336, some 22), (336, 336, some 18), (336, 336, some 19), (336, 336, some 20), (336, 336, some 21)] M w2M → zJ w2M 351 = zJ M 351 → 9 - w2x5.toInt ≤ (m : Int) → zGo X l 6 0 0 328 24 [(0, .ref 336), (1, .int a), (2, .int w2x2), (3, .int w2x3), (4, .int w2x4), (5, .int w2x5)] [] w2M Q := by
      intro m
      induction m using Nat.strongRecOn with
      | ind w2m w2ih =>
        intro w2x2 w2x3 w2x4 w2x5 w2M w2b2 w2b5 w2s w2I w2F w2J w2q
        have w2g3 := zrg w2x3
        have w2g4 := zrg w2x4
        refine zs_iload (pc := 24) t328_24 rfl ?_
        refine zs_bipush (pc := 26) t328_26 (v := 8) (by decide) ?_
        by_cases w3 : 8 < w2x5.toInt
        · refine zs_icmp_gtT (pc := 28) t328_28 rfl li8 (by omega) ?_
          refine zs_aload_n (pc := 86) t328_86 rfl ?_
          refine zs_iconst (pc := 87) t328_87 (v := 0) (by decide) ?_
          have w4 : zIv mLo mHi (zsI w2M 336 3 (0 : Int32)) := zIv.put w2I (show 0 ≤ (0 : Int32).toInt ∧ (0 : Int32).toInt ≤ 1 from ⟨by decide, by decide⟩)
          have w5 : zPF (zsI w2M 336 3 (0 : Int32)) := zPF.off
          refine zs_putI (pc := 88) t328_88 (zk1 (w2s.k fk_zMm_336)) (by decide) ?_
          refine zs_iload_n (pc := 91) t328_91 rfl ?_
          by_cases w6 : a.toInt ≠ 0
          · refine zs_if_neT (pc := 92) t328_92 rfl (by omega) ?_
            refine zs_iload_n (pc := 99) t328_99 rfl ?_
            refine zs_iconst (pc := 100) t328_100 (v := 1) (by decide) ?_
            by_cases w7 : a.toInt ≠ 1
            · refine zs_icmp_neT (pc := 101) t328_101 rfl li1 (by omega) ?_
              refine zs_iload (pc := 108) t328_108 rfl ?_
              exact zs_iret (pc := 110) t328_110 mr328 rfl (hQ _ _ w2s w4 (((zFr.refl).trans (w2F.mono rfl)).put rfl) (zPR.fr (M' := (zsI w2M 336 3 (0 : Int32))) (zPR.fr pR (w2F.eq rfl)) (zEq.put rfl)) (zPC.fr (M' := (zsI w2M 336 3 (0 : Int32))) (zPC.fr pC (w2F.eq rfl)) (zEq.put rfl)) w5)
            · refine zs_icmp_neF (pc := 101) t328_101 rfl li1 (by omega) ?_
              refine zs_iload_n (pc := 104) t328_104 rfl ?_
              refine zs_goto (pc := 105) t328_105 ?_
              exact zs_iret (pc := 110) t328_110 mr328 rfl (hQ _ _ w2s w4 (((zFr.refl).trans (w2F.mono rfl)).put rfl) (zPR.fr (M' := (zsI w2M 336 3 (0 : Int32))) (zPR.fr pR (w2F.eq rfl)) (zEq.put rfl)) (zPC.fr (M' := (zsI w2M 336 3 (0 : Int32))) (zPC.fr pC (w2F.eq rfl)) (zEq.put rfl)) w5)
          · refine zs_if_neF (pc := 92) t328_92 rfl (by omega) ?_
            refine zs_iload_n (pc := 95) t328_95 rfl ?_
            refine zs_goto (pc := 96) t328_96 ?_
            exact zs_iret (pc := 110) t328_110 mr328 rfl (hQ _ _ w2s w4 (((zFr.refl).trans (w2F.mono rfl)).put rfl) (zPR.fr (M' := (zsI w2M 336 3 (0 : Int32))) (zPR.fr pR (w2F.eq rfl)) (zEq.put rfl)) (zPC.fr (M' := (zsI w2M 336 3 (0 : Int32))) (zPC.fr pC (w2F.eq rfl)) (zEq.put rfl)) w5)
        · refine zs_icmp_gtF (pc := 28) t328_28 rfl li8 (by omega) ?_
          refine zs_aload_n (pc := 31) t328_31 rfl ?_
          refine zs_iload (pc := 32) t328_32 rfl ?_
          refine zs_iconst (pc := 34) t328_34 (v := -1) (by decide) ?_
          refine zs_invV (pc := 35) (k := 336) (as' := [.int w2x5, .int (-1 : Int32)]) (st := []) t328_35 mf269 rfl rfl (Or.inl ⟨by decide, (zk1 (w2s.k fk_zMm_336))⟩) ⟨by decide, by decide, Nat.le_of_ble_eq_true rfl, Nat.le_of_ble_eq_true rfl⟩ (K269 w2s w2I (zPR.fr pR (w2F.eq rfl)) ⟨by omega, by omega⟩ ?_) (fun _ _ q => q)
          intro w8M w8s w8I w8F w8J w8PT
          show zGo X l 6 0 0 328 38 [(0, .ref 336), (1, .int a), (2, .int w2x2), (3, .int w2x3), (4, .int w2x4), (5, .int w2x5)] [] w8M _
          refine zs_aload_n (pc := 38) t328_38 rfl ?_
          refine zs_invV (pc := 39) (k := 336) (as' := []) (st := []) t328_39 mf329 rfl rfl (Or.inl ⟨by decide, (zk1 (w8s.k fk_zMm_336))⟩) ⟨by decide, by decide, Nat.le_of_ble_eq_true rfl, Nat.le_of_ble_eq_true rfl⟩ (K329 w8s w8I ?_) (fun _ _ q => q)
          intro w9v
          have w9g := zrg w9v
          show zGo X l 6 0 0 328 42 [(0, .ref 336), (1, .int a), (2, .int w2x2), (3, .int w2x3), (4, .int w2x4), (5, .int w2x5)] [.int w9v] w8M _
          refine zs_istore (pc := 42) t328_42 (ls' := [(6, .int w9v), (0, .ref 336), (1, .int a), (2, .int w2x2), (3, .int w2x3), (4, .int w2x4), (5, .int w2x5)]) (zml mf328 (by decide)) rfl ?_
          refine zs_aload_n (pc := 44) t328_44 rfl ?_
          refine zs_invV (pc := 45) (k := 336) (as' := []) (st := []) t328_45 mf330 rfl rfl (Or.inl ⟨by decide, (zk1 (w8s.k fk_zMm_336))⟩) ⟨by decide, by decide, Nat.le_of_ble_eq_true rfl, Nat.le_of_ble_eq_true rfl⟩ (K330 w8s w8I ?_) (fun _ _ q => q)
          intro w10v
          have w10g := zrg w10v
          show zGo X l 6 0 0 328 48 [(6, .int w9v), (0, .ref 336), (1, .int a), (2, .int w2x2), (3, .int w2x3), (4, .int w2x4), (5, .int w2x5)] [.int w10v] w8M _
          refine zs_istore (pc := 48) t328_48 (ls' := [(7, .int w10v), (6, .int w9v), (0, .ref 336), (1, .int a), (2, .int w2x2), (3, .int w2x3), (4, .int w2x4), (5, .int w2x5)]) (zml mf328 (by decide)) rfl ?_
          refine zs_iload_n (pc := 50) t328_50 rfl ?_
          refine zs_iconst (pc := 51) t328_51 (v := -1) (by decide) ?_
          by_cases w11 : w2x2.toInt = (-1)
          · refine zs_icmp_eqT (pc := 52) t328_52 rfl lin1 (by omega) ?_
            refine zs_iload (pc := 70) t328_70 rfl ?_
            refine zs_istore_n (pc := 72) t328_72 (ls' := [(2, .int w2x5), (7, .int w10v), (6, .int w9v), (0, .ref 336), (1, .int a), (3, .int w2x3), (4, .int w2x4), (5, .int w2x5)]) (zml mf328 (by decide)) rfl ?_
            refine zs_iload (pc := 73) t328_73 rfl ?_
            refine zs_istore_n (pc := 75) t328_75 (ls' := [(3, .int w9v), (2, .int w2x5), (7, .int w10v), (6, .int w9v), (0, .ref 336), (1, .int a), (4, .int w2x4), (5, .int w2x5)]) (zml mf328 (by decide)) rfl ?_
            refine zs_iload (pc := 76) t328_76 rfl ?_
            refine zs_istore (pc := 78) t328_78 (ls' := [(4, .int w10v), (3, .int w9v), (2, .int w2x5), (7, .int w10v), (6, .int w9v), (0, .ref 336), (1, .int a), (5, .int w2x5)]) (zml mf328 (by decide)) rfl ?_
            obtain ⟨w12v, w12e, w12⟩ := ziadd (a := w2x5) (b := Int32.ofInt 1) rfl (show (Int32.ofInt 1).toInt = 1 by decide) (by omega) (by omega)
            refine zs_iinc (pc := 80) t328_80 (ls' := [(5, .int w12v), (4, .int w10v), (3, .int w9v), (2, .int w2x5), (7, .int w10v), (6, .int w9v), (0, .ref 336), (1, .int a)]) (zml mf328 (by decide)) rfl (c := w12v) w12e rfl ?_
            refine zs_goto (pc := 83) t328_83 ?_
            refine zGo.locals (ls' := [(0, .ref 336), (1, .int a), (2, .int w2x5), (3, .int w9v), (4, .int w10v), (5, .int w12v)]) (by simp) ?_
            have w13 := w12
            exact w2ih (w2m - 1) (by omega) w2x5 w9v w10v w12v w8M ⟨by omega, by omega⟩ ⟨by omega, by omega⟩ w8s w8I (((zFr.refl).trans (w2F.mono rfl)).trans (w8F.mono rfl)) (w8J.trans w2J) (by omega)
          · refine zs_icmp_eqF (pc := 52) t328_52 rfl lin1 (by omega) ?_
            refine zs_iload (pc := 55) t328_55 rfl ?_
            refine zs_iload (pc := 57) t328_57 rfl ?_
            obtain ⟨w14v, w14⟩ : ∃ v, v = w9v - w10v := ⟨_, rfl⟩
            have w14g := zrg w14v
            refine zs_isub (pc := 59) t328_59 (c := w14v) w14.symm ?_
            refine zs_iload_n (pc := 60) t328_60 rfl ?_
            refine zs_iload (pc := 61) t328_61 rfl ?_
            obtain ⟨w15v, w15⟩ : ∃ v, v = w2x3 - w2x4 := ⟨_, rfl⟩
            have w15g := zrg w15v
            refine zs_isub (pc := 63) t328_63 (c := w15v) w15.symm ?_
            by_cases w16 : w15v.toInt < w14v.toInt
            · refine zs_icmp_gtT (pc := 64) t328_64 rfl rfl (by omega) ?_
              refine zs_iload (pc := 70) t328_70 rfl ?_
              refine zs_istore_n (pc := 72) t328_72 (ls' := [(2, .int w2x5), (7, .int w10v), (6, .int w9v), (0, .ref 336), (1, .int a), (3, .int w2x3), (4, .int w2x4), (5, .int w2x5)]) (zml mf328 (by decide)) rfl ?_
              refine zs_iload (pc := 73) t328_73 rfl ?_
              refine zs_istore_n (pc := 75) t328_75 (ls' := [(3, .int w9v), (2, .int w2x5), (7, .int w10v), (6, .int w9v), (0, .ref 336), (1, .int a), (4, .int w2x4), (5, .int w2x5)]) (zml mf328 (by decide)) rfl ?_
              refine zs_iload (pc := 76) t328_76 rfl ?_
              refine zs_istore (pc := 78) t328_78 (ls' := [(4, .int w10v), (3, .int w9v), (2, .int w2x5), (7, .int w10v), (6, .int w9v), (0, .ref 336), (1, .int a), (5, .int w2x5)]) (zml mf328 (by decide)) rfl ?_
              obtain ⟨w17v, w17e, w17⟩ := ziadd (a := w2x5) (b := Int32.ofInt 1) rfl (show (Int32.ofInt 1).toInt = 1 by decide) (by omega) (by omega)
              refine zs_iinc (pc := 80) t328_80 (ls' := [(5, .int w17v), (4, .int w10v), (3, .int w9v), (2, .int w2x5), (7, .int w10v), (6, .int w9v), (0, .ref 336), (1, .int a)]) (zml mf328 (by decide)) rfl (c := w17v) w17e rfl ?_
              refine zs_goto (pc := 83) t328_83 ?_
              refine zGo.locals (ls' := [(0, .ref 336), (1, .int a), (2, .int w2x5), (3, .int w9v), (4, .int w10v), (5, .int w17v)]) (by simp) ?_
              have w18 := w17
              exact w2ih (w2m - 1) (by omega) w2x5 w9v w10v w17v w8M ⟨by omega, by omega⟩ ⟨by omega, by omega⟩ w8s w8I (((zFr.refl).trans (w2F.mono rfl)).trans (w8F.mono rfl)) (w8J.trans w2J) (by omega)
            · refine zs_icmp_gtF (pc := 64) t328_64 rfl rfl (by omega) ?_
              refine zs_goto (pc := 67) t328_67 ?_
              obtain ⟨w19v, w19e, w19⟩ := ziadd (a := w2x5) (b := Int32.ofInt 1) rfl (show (Int32.ofInt 1).toInt = 1 by decide) (by omega) (by omega)
              refine zs_iinc (pc := 80) t328_80 (ls' := [(5, .int w19v), (7, .int w10v), (6, .int w9v), (0, .ref 336), (1, .int a), (2, .int w2x2), (3, .int w2x3), (4, .int w2x4)]) (zml mf328 (by decide)) rfl (c := w19v) w19e rfl ?_
              refine zs_goto (pc := 83) t328_83 ?_
              refine zGo.locals (ls' := [(0, .ref 336), (1, .int a), (2, .int w2x2), (3, .int w2x3), (4, .int w2x4), (5, .int w19v)]) (by simp) ?_
              have w20 := w19
              exact w2ih (w2m - 1) (by omega) w2x2 w2x3 w2x4 w19v w8M ⟨by omega, by omega⟩ ⟨by omega, by omega⟩ w8s w8I (((zFr.refl).trans (w2F.mono rfl)).trans (w8F.mono rfl)) (w8J.trans w2J) (by omega)
    refine zGo.locals (ls' := [(0, .ref 336), (1, .int a), (2, .int (-1 : Int32)), (3, .int (0 : Int32)), (4, .int (0 : Int32)), (5, .int (2 : Int32))]) (by simp) ?_
    have w21 := lin1
    have w22 := li0
    have w23 := li0
    have w24 := li2
    exact w2L ((9 - 2 : Int).toNat) (-1 : Int32) (0 : Int32) (0 : Int32) (2 : Int32) M ⟨by decide, by decide⟩ ⟨by decide, by decide⟩ hs hI zFr.refl rfl (by omega)
  · refine zs_invS (pc := 6) (as := [.long a.toInt64, .long (0 : Int64), .long (2 : Int64)]) (st := []) t328_6 (by decide) mf228 rfl rfl ⟨by decide, by decide, Nat.le_of_ble_eq_true rfl, Nat.le_of_ble_eq_true rfl⟩ (K228F (zi2l rfl) ll0 ll2 (by omega) ?_) (fun _ _ q => q)
    show zGo X l 6 0 0 328 9 [(0, .ref 336), (1, .int a)] [.int (0 : Int32)] M _
    refine zs_if_neF (pc := 9) t328_9 li0 (by decide) ?_
    refine zs_iconst (pc := 12) t328_12 (v := -1) (by decide) ?_
    exact zs_iret (pc := 13) t328_13 mr328 (by decide) (hQ _ _ hs hI (zFr.refl) pR pC pF)
