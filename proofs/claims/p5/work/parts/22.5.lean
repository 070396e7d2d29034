theorem C50_7 {X : zX} {l : Launch} {M : zM} {Q : Option Value → zM → Prop} {a b c d : Int32} (hs : zSk zMc M) (hI : zIv cLo cHi M) (hQ : ∀ (M' : zM) (v : Int32), zSk zMc M' → zIv cLo cHi M' → zFr [(7, 18, none)] M M' → (-2147483648) ≤ v.toInt → v.toInt ≤ 2147483647 → Q (some (.int v)) M') : zCall X l 2 0 0 50 [.ref 7, .int a, .int b, .int c, .int d] M Q := by
  have ga := zrg a
  have gb := zrg b
  have gc := zrg c
  have gd := zrg d
  refine zs_in (by decide) mf50 (Nat.le_of_ble_eq_true rfl) ?_
  show zGo X l 2 0 0 50 0 [(0, .ref 7), (1, .int a), (2, .int b), (3, .int c), (4, .int d)] [] M _
  refine zs_aload_n (pc := 0) t50_0 rfl ?_
  refine zs_iload_n (pc := 1) t50_1 rfl ?_
  refine zs_iload_n (pc := 2) t50_2 rfl ?_
  refine zs_iload_n (pc := 3) t50_3 rfl ?_
  refine zs_invV (pc := 4) (k := 7) (as' := [.int a, .int b, .int c]) (st := []) t50_4 mf51 rfl rfl (Or.inl ⟨by decide, (zk1 (hs.k fk_zMc_7))⟩) ⟨by decide, by decide, Nat.le_of_ble_eq_true rfl, Nat.le_of_ble_eq_true rfl⟩ (zs_in (by decide) mf51 (Nat.le_of_ble_eq_true rfl) ?_) (fun _ _ q => q)
  show zGo X l 1 0 0 51 0 [(0, .ref 7), (1, .int a), (2, .int b), (3, .int c)] [] M _
  refine zs_aload_n (pc := 0) t51_0 rfl ?_
  refine zs_iload_n (pc := 1) t51_1 rfl ?_
  refine zs_invV (pc := 2) (k := 7) (as' := [.int a]) (st := []) t51_2 mf41 rfl rfl (Or.inl ⟨by decide, (zk1 (hs.k fk_zMc_7))⟩) ⟨by decide, by decide, Nat.le_of_ble_eq_true rfl, Nat.le_of_ble_eq_true rfl⟩ (zs_in (by decide) mf41 (Nat.le_of_ble_eq_true rfl) ?_) (fun _ _ q => q)
  show zGo X l 0 0 0 41 0 [(0, .ref 7), (1, .int a)] [] M _
  refine zs_iload_n (pc := 0) t41_0 rfl ?_
  by_cases w1 : a.toInt < 0
  · refine zs_if_ltT (pc := 1) t41_1 rfl (by omega) ?_
    refine zs_iconst (pc := 16) t41_16 (v := 0) (by decide) ?_
    refine zs_iret (pc := 17) t41_17 mr41 (by decide) ?_
    show zGo X l 1 0 0 51 5 [(0, .ref 7), (1, .int a), (2, .int b), (3, .int c)] [.int (0 : Int32)] M _
    refine zs_if_eqT (pc := 5) t51_5 li0 (by decide) ?_
    refine zs_iconst (pc := 39) t51_39 (v := 0) (by decide) ?_
    refine zs_iret (pc := 40) t51_40 mr51 (by decide) ?_
    show zGo X l 2 0 0 50 7 [(0, .ref 7), (1, .int a), (2, .int b), (3, .int c), (4, .int d)] [.int (0 : Int32)] M _
    refine zs_if_neF (pc := 7) t50_7 li0 (by decide) ?_
    refine zs_iconst (pc := 10) t50_10 (v := -1) (by decide) ?_
    exact zs_iret (pc := 11) t50_11 mr50 (by decide) (hQ _ _ hs hI (zFr.refl) (zrg _).1 (zrg _).2)
  · refine zs_if_ltF (pc := 1) t41_1 rfl (by omega) ?_
    refine zs_iload_n (pc := 4) t41_4 rfl ?_
    refine zs_aload_n (pc := 5) t41_5 rfl ?_
    have w2 := ib7_0 hI
    refine zs_get (pc := 6) t41_6 (by decide) (zk1 (hs.k fk_zMc_7)) (zfvi rfl rfl) ?_
    by_cases w3 : (zI M 7 0).toInt ≤ a.toInt
    · refine zs_icmp_geT (pc := 9) t41_9 rfl rfl (by omega) ?_
      refine zs_iconst (pc := 16) t41_16 (v := 0) (by decide) ?_
      refine zs_iret (pc := 17) t41_17 mr41 (by decide) ?_
      show zGo X l 1 0 0 51 5 [(0, .ref 7), (1, .int a), (2, .int b), (3, .int c)] [.int (0 : Int32)] M _
      refine zs_if_eqT (pc := 5) t51_5 li0 (by decide) ?_
      refine zs_iconst (pc := 39) t51_39 (v := 0) (by decide) ?_
      refine zs_iret (pc := 40) t51_40 mr51 (by decide) ?_
      show zGo X l 2 0 0 50 7 [(0, .ref 7), (1, .int a), (2, .int b), (3, .int c), (4, .int d)] [.int (0 : Int32)] M _
      refine zs_if_neF (pc := 7) t50_7 li0 (by decide) ?_
      refine zs_iconst (pc := 10) t50_10 (v := -1) (by decide) ?_
      exact zs_iret (pc := 11) t50_11 mr50 (by decide) (hQ _ _ hs hI (zFr.refl) (zrg _).1 (zrg _).2)
    · refine zs_icmp_geF (pc := 9) t41_9 rfl rfl (by omega) ?_
      refine zs_iconst (pc := 12) t41_12 (v := 1) (by decide) ?_
      refine zs_goto (pc := 13) t41_13 ?_
      refine zs_iret (pc := 17) t41_17 mr41 (by decide) ?_
      show zGo X l 1 0 0 51 5 [(0, .ref 7), (1, .int a), (2, .int b), (3, .int c)] [.int (1 : Int32)] M _
      refine zs_if_eqF (pc := 5) t51_5 li1 (by decide) ?_
      refine zs_iload_n (pc := 8) t51_8 rfl ?_
      refine zs_invS (pc := 9) (as := [.int b]) (st := []) t51_9 (by decide) mf42 rfl rfl ⟨by decide, by decide, Nat.le_of_ble_eq_true rfl, Nat.le_of_ble_eq_true rfl⟩ (zs_in (by decide) mf42 (Nat.le_of_ble_eq_true rfl) ?_) (fun _ _ q => q)
      show zGo X l 0 0 0 42 0 [(0, .int b)] [] M _
      refine zs_iload_n (pc := 0) t42_0 rfl ?_
      refine zs_sipush (pc := 1) t42_1 (v := -9999) (by decide) ?_
      by_cases w4 : b.toInt < (-9999)
      · refine zs_icmp_ltT (pc := 4) t42_4 rfl lin9999 (by omega) ?_
        refine zs_iconst (pc := 18) t42_18 (v := 0) (by decide) ?_
        refine zs_iret (pc := 19) t42_19 mr42 (by decide) ?_
        show zGo X l 1 0 0 51 12 [(0, .ref 7), (1, .int a), (2, .int b), (3, .int c)] [.int (0 : Int32)] M _
        refine zs_if_eqT (pc := 12) t51_12 li0 (by decide) ?_
        refine zs_iconst (pc := 39) t51_39 (v := 0) (by decide) ?_
        refine zs_iret (pc := 40) t51_40 mr51 (by decide) ?_
        show zGo X l 2 0 0 50 7 [(0, .ref 7), (1, .int a), (2, .int b), (3, .int c), (4, .int d)] [.int (0 : Int32)] M _
        refine zs_if_neF (pc := 7) t50_7 li0 (by decide) ?_
        refine zs_iconst (pc := 10) t50_10 (v := -1) (by decide) ?_
        exact zs_iret (pc := 11) t50_11 mr50 (by decide) (hQ _ _ hs hI (zFr.refl) (zrg _).1 (zrg _).2)
      · refine zs_icmp_ltF (pc := 4) t42_4 rfl lin9999 (by omega) ?_
        refine zs_iload_n (pc := 7) t42_7 rfl ?_
        refine zs_sipush (pc := 8) t42_8 (v := 9999) (by decide) ?_
        by_cases w5 : 9999 < b.toInt
        · refine zs_icmp_gtT (pc := 11) t42_11 rfl li9999 (by omega) ?_
          refine zs_iconst (pc := 18) t42_18 (v := 0) (by decide) ?_
          refine zs_iret (pc := 19) t42_19 mr42 (by decide) ?_
          show zGo X l 1 0 0 51 12 [(0, .ref 7), (1, .int a), (2, .int b), (3, .int c)] [.int (0 : Int32)] M _
          refine zs_if_eqT (pc := 12) t51_12 li0 (by decide) ?_
          refine zs_iconst (pc := 39) t51_39 (v := 0) (by decide) ?_
          refine zs_iret (pc := 40) t51_40 mr51 (by decide) ?_
          show zGo X l 2 0 0 50 7 [(0, .ref 7), (1, .int a), (2, .int b), (3, .int c), (4, .int d)] [.int (0 : Int32)] M _
          refine zs_if_neF (pc := 7) t50_7 li0 (by decide) ?_
          refine zs_iconst (pc := 10) t50_10 (v := -1) (by decide) ?_
          exact zs_iret (pc := 11) t50_11 mr50 (by decide) (hQ _ _ hs hI (zFr.refl) (zrg _).1 (zrg _).2)
        · refine zs_icmp_gtF (pc := 11) t42_11 rfl li9999 (by omega) ?_
          refine zs_iconst (pc := 14) t42_14 (v := 1) (by decide) ?_
          refine zs_goto (pc := 15) t42_15 ?_
          refine zs_iret (pc := 19) t42_19 mr42 (by decide) ?_
          show zGo X l 1 0 0 51 12 [(0, .ref 7), (1, .int a), (2, .int b), (3, .int c)] [.int (1 : Int32)] M _
          refine zs_if_eqF (pc := 12) t51_12 li1 (by decide) ?_
          refine zs_iload_n (pc := 15) t51_15 rfl ?_
          refine zs_iconst (pc := 16) t51_16 (v := 0) (by decide) ?_
          refine zs_sipush (pc := 17) t51_17 (v := 999) (by decide) ?_
          refine zs_invS (pc := 20) (as := [.int c, .int (0 : Int32), .int (999 : Int32)]) (st := []) t51_20 (by decide) mf39 rfl rfl ⟨by decide, by decide, Nat.le_of_ble_eq_true rfl, Nat.le_of_ble_eq_true rfl⟩ (zs_in (by decide) mf39 (Nat.le_of_ble_eq_true rfl) ?_) (fun _ _ q => q)
          show zGo X l 0 0 0 39 0 [(0, .int c), (1, .int (0 : Int32)), (2, .int (999 : Int32))] [] M _
          refine zs_iload_n (pc := 0) t39_0 rfl ?_
          refine zs_iload_n (pc := 1) t39_1 rfl ?_
          by_cases w6 : c.toInt < 0
          · refine zs_icmp_ltT (pc := 2) t39_2 rfl li0 (by omega) ?_
            refine zs_iconst (pc := 14) t39_14 (v := 0) (by decide) ?_
            refine zs_iret (pc := 15) t39_15 mr39 (by decide) ?_
            show zGo X l 1 0 0 51 23 [(0, .ref 7), (1, .int a), (2, .int b), (3, .int c)] [.int (0 : Int32)] M _
            refine zs_if_eqT (pc := 23) t51_23 li0 (by decide) ?_
            refine zs_iconst (pc := 39) t51_39 (v := 0) (by decide) ?_
            refine zs_iret (pc := 40) t51_40 mr51 (by decide) ?_
            show zGo X l 2 0 0 50 7 [(0, .ref 7), (1, .int a), (2, .int b), (3, .int c), (4, .int d)] [.int (0 : Int32)] M _
            refine zs_if_neF (pc := 7) t50_7 li0 (by decide) ?_
            refine zs_iconst (pc := 10) t50_10 (v := -1) (by decide) ?_
            exact zs_iret (pc := 11) t50_11 mr50 (by decide) (hQ _ _ hs hI (zFr.refl) (zrg _).1 (zrg _).2)
          · refine zs_icmp_ltF (pc := 2) t39_2 rfl li0 (by omega) ?_
            refine zs_iload_n (pc := 5) t39_5 rfl ?_
            refine zs_iload_n (pc := 6) t39_6 rfl ?_
            by_cases w7 : 999 < c.toInt
            · refine zs_icmp_gtT (pc := 7) t39_7 rfl li999 (by omega) ?_
              refine zs_iconst (pc := 14) t39_14 (v := 0) (by decide) ?_
              refine zs_iret (pc := 15) t39_15 mr39 (by decide) ?_
              show zGo X l 1 0 0 51 23 [(0, .ref 7), (1, .int a), (2, .int b), (3, .int c)] [.int (0 : Int32)] M _
              refine zs_if_eqT (pc := 23) t51_23 li0 (by decide) ?_
              refine zs_iconst (pc := 39) t51_39 (v := 0) (by decide) ?_
              refine zs_iret (pc := 40) t51_40 mr51 (by decide) ?_
              show zGo X l 2 0 0 50 7 [(0, .ref 7), (1, .int a), (2, .int b), (3, .int c), (4, .int d)] [.int (0 : Int32)] M _
              refine zs_if_neF (pc := 7) t50_7 li0 (by decide) ?_
              refine zs_iconst (pc := 10) t50_10 (v := -1) (by decide) ?_
              exact zs_iret (pc := 11) t50_11 mr50 (by decide) (hQ _ _ hs hI (zFr.refl) (zrg _).1 (zrg _).2)
            · refine zs_icmp_gtF (pc := 7) t39_7 rfl li999 (by omega) ?_
              refine zs_iconst (pc := 10) t39_10 (v := 1) (by decide) ?_
              refine zs_goto (pc := 11) t39_11 ?_
              refine zs_iret (pc := 15) t39_15 mr39 (by decide) ?_
              show zGo X l 1 0 0 51 23 [(0, .ref 7), (1, .int a), (2, .int b), (3, .int c)] [.int (1 : Int32)] M _
              refine zs_if_eqF (pc := 23) t51_23 li1 (by decide) ?_
              refine zs_aload_n (pc := 26) t51_26 rfl ?_
              have w8 := ib7_3 hI
              refine zs_get (pc := 27) t51_27 (by decide) (zk1 (hs.k fk_zMc_7)) (zfvi rfl rfl) ?_
              refine zs_bipush (pc := 30) t51_30 (v := 60) (by decide) ?_
              by_cases w9 : 60 ≤ (zI M 7 3).toInt
              · refine zs_icmp_geT (pc := 32) t51_32 rfl li60 (by omega) ?_
                refine zs_iconst (pc := 39) t51_39 (v := 0) (by decide) ?_
                refine zs_iret (pc := 40) t51_40 mr51 (by decide) ?_
                show zGo X l 2 0 0 50 7 [(0, .ref 7), (1, .int a), (2, .int b), (3, .int c), (4, .int d)] [.int (0 : Int32)] M _
                refine zs_if_neF (pc := 7) t50_7 li0 (by decide) ?_
                refine zs_iconst (pc := 10) t50_10 (v := -1) (by decide) ?_
                exact zs_iret (pc := 11) t50_11 mr50 (by decide) (hQ _ _ hs hI (zFr.refl) (zrg _).1 (zrg _).2)
              · refine zs_icmp_geF (pc := 32) t51_32 rfl li60 (by omega) ?_
                refine zs_iconst (pc := 35) t51_35 (v := 1) (by decide) ?_
                refine zs_goto (pc := 36) t51_36 ?_
                refine zs_iret (pc := 40) t51_40 mr51 (by decide) ?_
                show zGo X l 2 0 0 50 7 [(0, .ref 7), (1, .int a), (2, .int b), (3, .int c), (4, .int d)] [.int (1 : Int32)] M _
                refine zs_if_neT (pc := 7) t50_7 li1 (by decide) ?_
                refine zs_aload_n (pc := 12) t50_12 rfl ?_
                refine zs_get (pc := 13) t50_13 (by decide) (zk1 (hs.k fk_zMc_7)) (hs.p rfl fv_zMc_7_4) ?_
                refine zs_aload_n (pc := 16) t50_16 rfl ?_
                refine zs_get (pc := 17) t50_17 (by decide) (zk1 (hs.k fk_zMc_7)) (zfvi rfl rfl) ?_
                refine zs_iload_n (pc := 20) t50_20 rfl ?_
                obtain ⟨w10n, w10⟩ : ∃ n : Nat, (zI M 7 3).toInt = (n : Int) := ⟨(zI M 7 3).toInt.toNat, by omega⟩
                have w11 : zIv cLo cHi (zsI M 10 w10n a) := zIv.put hI (show 0 ≤ a.toInt ∧ a.toInt ≤ 7 from ⟨by omega, by omega⟩)
                refine zs_iast (pc := 21) t50_21 (j := w10n) (by decide) (zk1 (hs.k fk_zMc_10)) w10 (zk2 (hs.k fk_zMc_10) (by omega)) ?_
                refine zs_aload_n (pc := 22) t50_22 rfl ?_
                refine zs_get (pc := 23) t50_23 (by decide) (zk1 (hs.k fk_zMc_7)) (hs.p rfl fv_zMc_7_5) ?_
                refine zs_aload_n (pc := 26) t50_26 rfl ?_
                refine zs_get (pc := 27) t50_27 (by decide) (zk1 (hs.k fk_zMc_7)) (zfvi rfl ((zIo (by decide)).trans rfl)) ?_
                refine zs_iload_n (pc := 30) t50_30 rfl ?_
                have w12 : zIv cLo cHi (zsI (zsI M 10 w10n a) 11 w10n b) := zIv.put w11 (show (-2147483648) ≤ b.toInt ∧ b.toInt ≤ 2147483647 from (zrg b))
                refine zs_iast (pc := 31) t50_31 (j := w10n) (by decide) (zk1 (hs.k fk_zMc_11)) w10 (zk2 (hs.k fk_zMc_11) (by omega)) ?_
                refine zs_aload_n (pc := 32) t50_32 rfl ?_
                refine zs_get (pc := 33) t50_33 (by decide) (zk1 (hs.k fk_zMc_7)) (hs.p rfl fv_zMc_7_6) ?_
                refine zs_aload_n (pc := 36) t50_36 rfl ?_
                refine zs_get (pc := 37) t50_37 (by decide) (zk1 (hs.k fk_zMc_7)) (zfvi rfl ((zIo (by decide)).trans ((zIo (by decide)).trans rfl))) ?_
                refine zs_iload_n (pc := 40) t50_40 rfl ?_
                have w13 : zIv cLo cHi (zsI (zsI (zsI M 10 w10n a) 11 w10n b) 12 w10n c) := zIv.put w12 (show (-2147483648) ≤ c.toInt ∧ c.toInt ≤ 2147483647 from (zrg c))
                refine zs_iast (pc := 41) t50_41 (j := w10n) (by decide) (zk1 (hs.k fk_zMc_12)) w10 (zk2 (hs.k fk_zMc_12) (by omega)) ?_
                refine zs_aload_n (pc := 42) t50_42 rfl ?_
                refine zs_get (pc := 43) t50_43 (by decide) (zk1 (hs.k fk_zMc_7)) (hs.p rfl fv_zMc_7_7) ?_
                refine zs_aload_n (pc := 46) t50_46 rfl ?_
                refine zs_get (pc := 47) t50_47 (by decide) (zk1 (hs.k fk_zMc_7)) (zfvi rfl ((zIo (by decide)).trans ((zIo (by decide)).trans ((zIo (by decide)).trans rfl)))) ?_
                refine zs_iload (pc := 50) t50_50 rfl ?_
                have w14 : zIv cLo cHi (zsI (zsI (zsI (zsI M 10 w10n a) 11 w10n b) 12 w10n c) 13 w10n d) := zIv.put w13 (show (-2147483648) ≤ d.toInt ∧ d.toInt ≤ 2147483647 from (zrg d))
                refine zs_iast (pc := 52) t50_52 (j := w10n) (by decide) (zk1 (hs.k fk_zMc_13)) w10 (zk2 (hs.k fk_zMc_13) (by omega)) ?_
                refine zs_aload_n (pc := 53) t50_53 rfl ?_
                refine zs_dup (pc := 54) t50_54 rfl ?_
                refine zs_get (pc := 55) t50_55 (by decide) (zk1 (hs.k fk_zMc_7)) (zfvi rfl ((zIo (by decide)).trans ((zIo (by decide)).trans ((zIo (by decide)).trans ((zIo (by decide)).trans rfl))))) ?_
                refine zs_iconst (pc := 58) t50_58 (v := 1) (by decide) ?_
                obtain ⟨w15v, w15e, w15⟩ := ziadd (a := (zI M 7 3)) (b := (1 : Int32)) rfl li1 (by omega) (by omega)
                refine zs_iadd (pc := 59) t50_59 (c := w15v) w15e ?_
                have w16 : zIv cLo cHi (zsI (zsI (zsI (zsI (zsI M 10 w10n a) 11 w10n b) 12 w10n c) 13 w10n d) 7 3 w15v) := zIv.put w14 (show 0 ≤ w15v.toInt ∧ w15v.toInt ≤ 60 from ⟨by omega, by omega⟩)
                refine zs_putI (pc := 60) t50_60 (zk1 (hs.k fk_zMc_7)) rfl ?_
                refine zs_aload_n (pc := 63) t50_63 rfl ?_
                refine zs_get (pc := 64) t50_64 (by decide) (zk1 (hs.k fk_zMc_7)) (zfvi rfl zIs) ?_
                refine zs_iconst (pc := 67) t50_67 (v := 1) (by decide) ?_
                obtain ⟨w17v, w17e, w17⟩ := zisub (a := w15v) (b := (1 : Int32)) w15 li1 (by omega) (by omega)
                refine zs_isub (pc := 68) t50_68 (c := w17v) w17e ?_
                exact zs_iret (pc := 69) t50_69 mr50 rfl (hQ _ _ hs w16 ((((((zFr.refl).put rfl).put rfl).put rfl).put rfl).put rfl) (zrg _).1 (zrg _).2)
theorem C52_19 {X : zX} {l : Launch} {M : zM} {Q : Option Value → zM → Prop} {a b c : Int32} (hs : zSk zMc M) (hI : zIv cLo cHi M) (hQ : ∀ (M' : zM) (v : Int32), zSk zMc M' → zIv cLo cHi M' → zFr [(19, 30, none)] M M' → 0 ≤ v.toInt → v.toInt ≤ 1 → Q (some (.int v)) M') : zCall X l 3 0 0 52 [.ref 19, .int a, .int b, .int c] M Q := by
  have ga := zrg a
  have gb := zrg b
  have gc := zrg c
  refine zs_in (by decide) mf52 (Nat.le_of_ble_eq_true rfl) ?_
  show zGo X l 3 0 0 52 0 [(0, .ref 19), (1, .int a), (2, .int b), (3, .int c)] [] M _
  refine zs_aload_n (pc := 0) t52_0 rfl ?_
  have w1 := ib19_8 hI
  refine zs_get (pc := 1) t52_1 (by decide) (zk1 (hs.k fk_zMc_19)) (zfvi rfl rfl) ?_
  refine zs_bipush (pc := 4) t52_4 (v := 12) (by decide) ?_
  by_cases w2 : (zI M 19 8).toInt < 12
  · refine zs_icmp_ltT (pc := 6) t52_6 rfl li12 (by omega) ?_
    refine zs_aload_n (pc := 11) t52_11 rfl ?_
    refine zs_get (pc := 12) t52_12 (by decide) (zk1 (hs.k fk_zMc_19)) (hs.p rfl fv_zMc_19_9) ?_
    refine zs_aload_n (pc := 15) t52_15 rfl ?_
    refine zs_get (pc := 16) t52_16 (by decide) (zk1 (hs.k fk_zMc_19)) (zfvi rfl rfl) ?_
    refine zs_iload_n (pc := 19) t52_19 rfl ?_
    obtain ⟨w3n, w3⟩ : ∃ n : Nat, (zI M 19 8).toInt = (n : Int) := ⟨(zI M 19 8).toInt.toNat, by omega⟩
    have w4 : zIv cLo cHi (zsI M 26 w3n a) := zIv.put hI (show (-2147483648) ≤ a.toInt ∧ a.toInt ≤ 2147483647 from (zrg a))
    refine zs_iast (pc := 20) t52_20 (j := w3n) (by decide) (zk1 (hs.k fk_zMc_26)) w3 (zk2 (hs.k fk_zMc_26) (by omega)) ?_
    refine zs_aload_n (pc := 21) t52_21 rfl ?_
    refine zs_get (pc := 22) t52_22 (by decide) (zk1 (hs.k fk_zMc_19)) (hs.p rfl fv_zMc_19_10) ?_
    refine zs_aload_n (pc := 25) t52_25 rfl ?_
    refine zs_get (pc := 26) t52_26 (by decide) (zk1 (hs.k fk_zMc_19)) (zfvi rfl ((zIo (by decide)).trans rfl)) ?_
    refine zs_iload_n (pc := 29) t52_29 rfl ?_
    have w5 : zIv cLo cHi (zsI (zsI M 26 w3n a) 27 w3n b) := zIv.put w4 (show (-2147483648) ≤ b.toInt ∧ b.toInt ≤ 2147483647 from (zrg b))
    refine zs_iast (pc := 30) t52_30 (j := w3n) (by decide) (zk1 (hs.k fk_zMc_27)) w3 (zk2 (hs.k fk_zMc_27) (by omega)) ?_
    refine zs_aload_n (pc := 31) t52_31 rfl ?_
    refine zs_get (pc := 32) t52_32 (by decide) (zk1 (hs.k fk_zMc_19)) (hs.p rfl fv_zMc_19_11) ?_
    refine zs_aload_n (pc := 35) t52_35 rfl ?_
    refine zs_get (pc := 36) t52_36 (by decide) (zk1 (hs.k fk_zMc_19)) (zfvi rfl ((zIo (by decide)).trans ((zIo (by decide)).trans rfl))) ?_
    refine zs_iload_n (pc := 39) t52_39 rfl ?_
    have w6 : zIv cLo cHi (zsI (zsI (zsI M 26 w3n a) 27 w3n b) 28 w3n c) := zIv.put w5 (show (-2147483648) ≤ c.toInt ∧ c.toInt ≤ 2147483647 from (zrg c))
    refine zs_iast (pc := 40) t52_40 (j := w3n) (by decide) (zk1 (hs.k fk_zMc_28)) w3 (zk2 (hs.k fk_zMc_28) (by omega)) ?_
    refine zs_aload_n (pc := 41) t52_41 rfl ?_
    refine zs_dup (pc := 42) t52_42 rfl ?_
    refine zs_get (pc := 43) t52_43 (by decide) (zk1 (hs.k fk_zMc_19)) (zfvi rfl ((zIo (by decide)).trans ((zIo (by decide)).trans ((zIo (by decide)).trans rfl)))) ?_
    refine zs_iconst (pc := 46) t52_46 (v := 1) (by decide) ?_
    obtain ⟨w7v, w7e, w7⟩ := ziadd (a := (zI M 19 8)) (b := (1 : Int32)) rfl li1 (by omega) (by omega)
    refine zs_iadd (pc := 47) t52_47 (c := w7v) w7e ?_
    have w8 : zIv cLo cHi (zsI (zsI (zsI (zsI M 26 w3n a) 27 w3n b) 28 w3n c) 19 8 w7v) := zIv.put w6 (show 0 ≤ w7v.toInt ∧ w7v.toInt ≤ 12 from ⟨by omega, by omega⟩)
    refine zs_putI (pc := 48) t52_48 (zk1 (hs.k fk_zMc_19)) rfl ?_
    refine zs_iconst (pc := 51) t52_51 (v := 0) (by decide) ?_
    refine zs_istore (pc := 52) t52_52 (ls' := [(4, .int (0 : Int32)), (0, .ref 19), (1, .int a), (2, .int b), (3, .int c)]) (zml mf52 (by decide)) rfl ?_
    have w9L : ∀ (m : Nat) (w9x4 : Int32) (w9M : zM), (0 ≤ w9x4.toInt ∧ w9x4.toInt ≤ 8) → zSk zMc w9M → zIv cLo cHi w9M → zFr [(19, 30, none)] (zsI (zsI (zsI (zsI M 26 w3n a) 27 w3n b) 28 w3n c) 19 8 w7v) w9M → 8 - w9x4.toInt ≤ (m : Int) → zGo X l 3 0 0 52 54 [(0, .ref 19), (1, .int a), (2, .int b), (3, .int c), (4, .int w9x4)] [] w9M Q := by
      intro m
      induction m using Nat.strongRecOn with
      | ind w9m w9ih =>
        intro w9x4 w9M w9b4 w9s w9I w9F w9q
        refine zs_iload (pc := 54) t52_54 rfl ?_
        refine zs_aload_n (pc := 56) t52_56 rfl ?_
        have w10 := ib19_0 w9I
        refine zs_get (pc := 57) t52_57 (by decide) (zk1 (w9s.k fk_zMc_19)) (zfvi rfl rfl) ?_
        by_cases w11 : (zI w9M 19 0).toInt ≤ w9x4.toInt
        · refine zs_icmp_geT (pc := 60) t52_60 rfl rfl (by omega) ?_
          refine zs_iconst (pc := 126) t52_126 (v := 1) (by decide) ?_
          exact zs_iret (pc := 127) t52_127 mr52 (by decide) (hQ _ _ w9s w9I ((((((zFr.refl).put rfl).put rfl).put rfl).put rfl).trans (w9F.mono rfl)) (by decide) (by decide))
        · refine zs_icmp_geF (pc := 60) t52_60 rfl rfl (by omega) ?_
          refine zs_iload_n (pc := 63) t52_63 rfl ?_
          refine zs_aload_n (pc := 64) t52_64 rfl ?_
          refine zs_iload (pc := 65) t52_65 rfl ?_
          refine zs_iload_n (pc := 67) t52_67 rfl ?_
          refine zs_invV (pc := 68) (k := 19) (as' := [.int w9x4, .int b]) (st := [.int a]) t52_68 mf53 rfl rfl (Or.inl ⟨by decide, (zk1 (w9s.k fk_zMc_19))⟩) ⟨by decide, by decide, Nat.le_of_ble_eq_true rfl, Nat.le_of_ble_eq_true rfl⟩ (C53_19 w9s w9I ?_) (fun _ _ q => q)
          intro w12v w12a w12b
          show zGo X l 3 0 0 52 71 [(0, .ref 19), (1, .int a), (2, .int b), (3, .int c), (4, .int w9x4)] [.int w12v, .int a] w9M _
          obtain ⟨w13v, w13⟩ : ∃ v, v = a + w12v := ⟨_, rfl⟩
          have w13g := zrg w13v
          refine zs_iadd (pc := 71) t52_71 (c := w13v) w13.symm ?_
          refine zs_aload_n (pc := 72) t52_72 rfl ?_
          refine zs_iload (pc := 73) t52_73 rfl ?_
          refine zs_iload_n (pc := 75) t52_75 rfl ?_
          refine zs_invV (pc := 76) (k := 19) (as' := [.int w9x4, .int c]) (st := [.int w13v]) t52_76 mf55 rfl rfl (Or.inl ⟨by decide, (zk1 (w9s.k fk_zMc_19))⟩) ⟨by decide, by decide, Nat.le_of_ble_eq_true rfl, Nat.le_of_ble_eq_true rfl⟩ (C55_19 w9s w9I ?_) (fun _ _ q => q)
          intro w14v w14a w14b
          show zGo X l 3 0 0 52 79 [(0, .ref 19), (1, .int a), (2, .int b), (3, .int c), (4, .int w9x4)] [.int w14v, .int w13v] w9M _
          obtain ⟨w15v, w15⟩ : ∃ v, v = w13v + w14v := ⟨_, rfl⟩
          have w15g := zrg w15v
          refine zs_iadd (pc := 79) t52_79 (c := w15v) w15.symm ?_
          refine zs_istore (pc := 80) t52_80 (ls' := [(5, .int w15v), (0, .ref 19), (1, .int a), (2, .int b), (3, .int c), (4, .int w9x4)]) (zml mf52 (by decide)) rfl ?_
          refine zs_iload (pc := 82) t52_82 rfl ?_
          refine zs_invS (pc := 84) (as := [.int w15v]) (st := []) t52_84 (by decide) mf42 rfl rfl ⟨by decide, by decide, Nat.le_of_ble_eq_true rfl, Nat.le_of_ble_eq_true rfl⟩ (zs_in (by decide) mf42 (Nat.le_of_ble_eq_true rfl) ?_) (fun _ _ q => q)
          show zGo X l 0 0 0 42 0 [(0, .int w15v)] [] w9M _
          refine zs_iload_n (pc := 0) t42_0 rfl ?_
          refine zs_sipush (pc := 1) t42_1 (v := -9999) (by decide) ?_
          by_cases w16 : w15v.toInt < (-9999)
          · refine zs_icmp_ltT (pc := 4) t42_4 rfl lin9999 (by omega) ?_
            refine zs_iconst (pc := 18) t42_18 (v := 0) (by decide) ?_
            refine zs_iret (pc := 19) t42_19 mr42 (by decide) ?_
            show zGo X l 3 0 0 52 87 [(5, .int w15v), (0, .ref 19), (1, .int a), (2, .int b), (3, .int c), (4, .int w9x4)] [.int (0 : Int32)] w9M _
            refine zs_if_eqT (pc := 87) t52_87 li0 (by decide) ?_
            obtain ⟨w17v, w17e, w17⟩ := ziadd (a := w9x4) (b := Int32.ofInt 1) rfl (show (Int32.ofInt 1).toInt = 1 by decide) (by omega) (by omega)
            refine zs_iinc (pc := 120) t52_120 (ls' := [(4, .int w17v), (5, .int w15v), (0, .ref 19), (1, .int a), (2, .int b), (3, .int c)]) (zml mf52 (by decide)) rfl (c := w17v) w17e rfl ?_
            refine zs_goto (pc := 123) t52_123 ?_
            refine zGo.locals (ls' := [(0, .ref 19), (1, .int a), (2, .int b), (3, .int c), (4, .int w17v)]) (by simp) ?_
            exact w9ih (w9m - 1) (by omega) w17v w9M ⟨by omega, by omega⟩ w9s w9I ((zFr.refl).trans (w9F.mono rfl)) (by omega)
          · refine zs_icmp_ltF (pc := 4) t42_4 rfl lin9999 (by omega) ?_
            refine zs_iload_n (pc := 7) t42_7 rfl ?_
            refine zs_sipush (pc := 8) t42_8 (v := 9999) (by decide) ?_
            by_cases w18 : 9999 < w15v.toInt
            · refine zs_icmp_gtT (pc := 11) t42_11 rfl li9999 (by omega) ?_
              refine zs_iconst (pc := 18) t42_18 (v := 0) (by decide) ?_
              refine zs_iret (pc := 19) t42_19 mr42 (by decide) ?_
              show zGo X l 3 0 0 52 87 [(5, .int w15v), (0, .ref 19), (1, .int a), (2, .int b), (3, .int c), (4, .int w9x4)] [.int (0 : Int32)] w9M _
              refine zs_if_eqT (pc := 87) t52_87 li0 (by decide) ?_
              obtain ⟨w19v, w19e, w19⟩ := ziadd (a := w9x4) (b := Int32.ofInt 1) rfl (show (Int32.ofInt 1).toInt = 1 by decide) (by omega) (by omega)
              refine zs_iinc (pc := 120) t52_120 (ls' := [(4, .int w19v), (5, .int w15v), (0, .ref 19), (1, .int a), (2, .int b), (3, .int c)]) (zml mf52 (by decide)) rfl (c := w19v) w19e rfl ?_
              refine zs_goto (pc := 123) t52_123 ?_
              refine zGo.locals (ls' := [(0, .ref 19), (1, .int a), (2, .int b), (3, .int c), (4, .int w19v)]) (by simp) ?_
              exact w9ih (w9m - 1) (by omega) w19v w9M ⟨by omega, by omega⟩ w9s w9I ((zFr.refl).trans (w9F.mono rfl)) (by omega)
            · refine zs_icmp_gtF (pc := 11) t42_11 rfl li9999 (by omega) ?_
              refine zs_iconst (pc := 14) t42_14 (v := 1) (by decide) ?_
              refine zs_goto (pc := 15) t42_15 ?_
              refine zs_iret (pc := 19) t42_19 mr42 (by decide) ?_
              show zGo X l 3 0 0 52 87 [(5, .int w15v), (0, .ref 19), (1, .int a), (2, .int b), (3, .int c), (4, .int w9x4)] [.int (1 : Int32)] w9M _
              refine zs_if_eqF (pc := 87) t52_87 li1 (by decide) ?_
              refine zs_aload_n (pc := 90) t52_90 rfl ?_
              refine zs_iload (pc := 91) t52_91 rfl ?_
              refine zs_iload (pc := 93) t52_93 rfl ?_
              refine zs_aload_n (pc := 95) t52_95 rfl ?_
              refine zs_get (pc := 96) t52_96 (by decide) (zk1 (w9s.k fk_zMc_19)) (w9s.p rfl fv_zMc_19_1) ?_
              refine zs_iload (pc := 99) t52_99 rfl ?_
              obtain ⟨w20n, w20⟩ : ∃ n : Nat, w9x4.toInt = (n : Int) := ⟨w9x4.toInt.toNat, by omega⟩
              have w21 := ib20 w9I w20n
              refine zs_iald (pc := 101) t52_101 (j := w20n) (by decide) (zk1 (w9s.k fk_zMc_20)) w20 (zk2 (w9s.k fk_zMc_20) (by omega)) rfl ?_
              refine zs_bipush (pc := 102) t52_102 (v := 10) (by decide) ?_
              obtain ⟨w22v, w22⟩ : ∃ v, (zI w9M 20 w20n) / (10 : Int32) = v := ⟨_, rfl⟩
              have w22g := zrg w22v
              refine zs_idiv (pc := 104) t52_104 (by decide) (c := w22v) w22 ?_
              refine zs_aload_n (pc := 105) t52_105 rfl ?_
              have w23 := ib19_8 w9I
              refine zs_get (pc := 106) t52_106 (by decide) (zk1 (w9s.k fk_zMc_19)) (zfvi rfl rfl) ?_
              refine zs_iconst (pc := 109) t52_109 (v := 1) (by decide) ?_
              obtain ⟨w24v, w24e, w24⟩ := zisub (a := (zI w9M 19 8)) (b := (1 : Int32)) rfl li1 (by omega) (by omega)
              refine zs_isub (pc := 110) t52_110 (c := w24v) w24e ?_
              refine zs_invV (pc := 111) (k := 19) (as' := [.int w9x4, .int w15v, .int w22v, .int w24v]) (st := []) t52_111 mf50 rfl rfl (Or.inl ⟨by decide, (zk1 (w9s.k fk_zMc_19))⟩) ⟨by decide, by decide, Nat.le_of_ble_eq_true rfl, Nat.le_of_ble_eq_true rfl⟩ (C50_19 w9s w9I ?_) (fun _ _ q => q)
              intro w25M w25v w25s w25I w25F w25a w25b
              show zGo X l 3 0 0 52 114 [(5, .int w15v), (0, .ref 19), (1, .int a), (2, .int b), (3, .int c), (4, .int w9x4)] [.int w25v] w25M _
              refine zs_iconst (pc := 114) t52_114 (v := -1) (by decide) ?_
              by_cases w26 : w25v.toInt ≠ (-1)
              · refine zs_icmp_neT (pc := 115) t52_115 rfl lin1 (by omega) ?_
                obtain ⟨w27v, w27e, w27⟩ := ziadd (a := w9x4) (b := Int32.ofInt 1) rfl (show (Int32.ofInt 1).toInt = 1 by decide) (by omega) (by omega)
                refine zs_iinc (pc := 120) t52_120 (ls' := [(4, .int w27v), (5, .int w15v), (0, .ref 19), (1, .int a), (2, .int b), (3, .int c)]) (zml mf52 (by decide)) rfl (c := w27v) w27e rfl ?_
                refine zs_goto (pc := 123) t52_123 ?_
                refine zGo.locals (ls' := [(0, .ref 19), (1, .int a), (2, .int b), (3, .int c), (4, .int w27v)]) (by simp) ?_
                exact w9ih (w9m - 1) (by omega) w27v w25M ⟨by omega, by omega⟩ w25s w25I (((zFr.refl).trans (w9F.mono rfl)).trans (w25F.mono rfl)) (by omega)
              · refine zs_icmp_neF (pc := 115) t52_115 rfl lin1 (by omega) ?_
                refine zs_iconst (pc := 118) t52_118 (v := 0) (by decide) ?_
                exact zs_iret (pc := 119) t52_119 mr52 (by decide) (hQ _ _ w25s w25I (((((((zFr.refl).put rfl).put rfl).put rfl).put rfl).trans (w9F.mono rfl)).trans (w25F.mono rfl)) (by decide) (by decide))
    refine zGo.locals (ls' := [(0, .ref 19), (1, .int a), (2, .int b), (3, .int c), (4, .int (0 : Int32))]) (by simp) ?_
    have w28 := li0
    exact w9L ((8 - 0 : Int).toNat) (0 : Int32) (zsI (zsI (zsI (zsI M 26 w3n a) 27 w3n b) 28 w3n c) 19 8 w7v) ⟨by decide, by decide⟩ hs w8 zFr.refl (by omega)
  · refine zs_icmp_ltF (pc := 6) t52_6 rfl li12 (by omega) ?_
    refine zs_iconst (pc := 9) t52_9 (v := 0) (by decide) ?_
    exact zs_iret (pc := 10) t52_10 mr52 (by decide) (hQ _ _ hs hI (zFr.refl) (by decide) (by decide))
theorem C32 {X : zX} {l : Launch} {M : zM} {Q : Option Value → zM → Prop} {a : Int32} (hs : zSk zMc M) (hI : zIv cLo cHi M) (hQ : ∀ v : Int32, 0 ≤ v.toInt → v.toInt ≤ 4 → Q (some (.int v)) M) : zCall X l 0 0 0 32 [.int a] M Q := by
  have ga := zrg a
  refine zs_in (by decide) mf32 (Nat.le_of_ble_eq_true rfl) ?_
  show zGo X l 0 0 0 32 0 [(0, .int a)] [] M _
  refine zs_iload_n (pc := 0) t32_0 rfl ?_
  by_cases w1 : a.toInt = 103
  · refine zs_tswI (pc := 1) t32_1 ((rfl : a.toInt = a.toInt).trans w1) (by decide) rfl (pc2 := 84) rfl ?_
    refine zs_iconst (pc := 84) t32_84 (v := 1) (by decide) ?_
    exact zs_iret (pc := 85) t32_85 mr32 (by decide) (hQ _ (by decide) (by decide))
  by_cases w2 : a.toInt = 104
  · refine zs_tswI (pc := 1) t32_1 ((rfl : a.toInt = a.toInt).trans w2) (by decide) rfl (pc2 := 88) rfl ?_
    refine zs_iconst (pc := 88) t32_88 (v := 3) (by decide) ?_
    exact zs_iret (pc := 89) t32_89 mr32 (by decide) (hQ _ (by decide) (by decide))
  by_cases w3 : a.toInt = 105
  · refine zs_tswI (pc := 1) t32_1 ((rfl : a.toInt = a.toInt).trans w3) (by decide) rfl (pc2 := 92) rfl ?_
    refine zs_iconst (pc := 92) t32_92 (v := 0) (by decide) ?_
    exact zs_iret (pc := 93) t32_93 mr32 (by decide) (hQ _ (by decide) (by decide))
  by_cases w4 : a.toInt = 106
  · refine zs_tswI (pc := 1) t32_1 ((rfl : a.toInt = a.toInt).trans w4) (by decide) rfl (pc2 := 92) rfl ?_
    refine zs_iconst (pc := 92) t32_92 (v := 0) (by decide) ?_
    exact zs_iret (pc := 93) t32_93 mr32 (by decide) (hQ _ (by decide) (by decide))
  by_cases w5 : a.toInt = 107
  · refine zs_tswI (pc := 1) t32_1 ((rfl : a.toInt = a.toInt).trans w5) (by decide) rfl (pc2 := 92) rfl ?_
    refine zs_iconst (pc := 92) t32_92 (v := 0) (by decide) ?_
    exact zs_iret (pc := 93) t32_93 mr32 (by decide) (hQ _ (by decide) (by decide))
  by_cases w6 : a.toInt = 108
  · refine zs_tswI (pc := 1) t32_1 ((rfl : a.toInt = a.toInt).trans w6) (by decide) rfl (pc2 := 92) rfl ?_
    refine zs_iconst (pc := 92) t32_92 (v := 0) (by decide) ?_
    exact zs_iret (pc := 93) t32_93 mr32 (by decide) (hQ _ (by decide) (by decide))
  by_cases w7 : a.toInt = 109
  · refine zs_tswI (pc := 1) t32_1 ((rfl : a.toInt = a.toInt).trans w7) (by decide) rfl (pc2 := 92) rfl ?_
    refine zs_iconst (pc := 92) t32_92 (v := 0) (by decide) ?_
    exact zs_iret (pc := 93) t32_93 mr32 (by decide) (hQ _ (by decide) (by decide))
  by_cases w8 : a.toInt = 110
  · refine zs_tswI (pc := 1) t32_1 ((rfl : a.toInt = a.toInt).trans w8) (by decide) rfl (pc2 := 92) rfl ?_
    refine zs_iconst (pc := 92) t32_92 (v := 0) (by decide) ?_
    exact zs_iret (pc := 93) t32_93 mr32 (by decide) (hQ _ (by decide) (by decide))
  by_cases w9 : a.toInt = 111
  · refine zs_tswI (pc := 1) t32_1 ((rfl : a.toInt = a.toInt).trans w9) (by decide) rfl (pc2 := 92) rfl ?_
    refine zs_iconst (pc := 92) t32_92 (v := 0) (by decide) ?_
    exact zs_iret (pc := 93) t32_93 mr32 (by decide) (hQ _ (by decide) (by decide))
  by_cases w10 : a.toInt = 112
  · refine zs_tswI (pc := 1) t32_1 ((rfl : a.toInt = a.toInt).trans w10) (by decide) rfl (pc2 := 88) rfl ?_
    refine zs_iconst (pc := 88) t32_88 (v := 3) (by decide) ?_
    exact zs_iret (pc := 89) t32_89 mr32 (by decide) (hQ _ (by decide) (by decide))
  by_cases w11 : a.toInt = 113
  · refine zs_tswI (pc := 1) t32_1 ((rfl : a.toInt = a.toInt).trans w11) (by decide) rfl (pc2 := 86) rfl ?_
    refine zs_iconst (pc := 86) t32_86 (v := 2) (by decide) ?_
    exact zs_iret (pc := 87) t32_87 mr32 (by decide) (hQ _ (by decide) (by decide))
  by_cases w12 : a.toInt = 114
  · refine zs_tswI (pc := 1) t32_1 ((rfl : a.toInt = a.toInt).trans w12) (by decide) rfl (pc2 := 84) rfl ?_
    refine zs_iconst (pc := 84) t32_84 (v := 1) (by decide) ?_
    exact zs_iret (pc := 85) t32_85 mr32 (by decide) (hQ _ (by decide) (by decide))
  by_cases w13 : a.toInt = 115
  · refine zs_tswI (pc := 1) t32_1 ((rfl : a.toInt = a.toInt).trans w13) (by decide) rfl (pc2 := 90) rfl ?_
    refine zs_iconst (pc := 90) t32_90 (v := 4) (by decide) ?_
    exact zs_iret (pc := 91) t32_91 mr32 (by decide) (hQ _ (by decide) (by decide))
  by_cases w14 : a.toInt = 116
  · refine zs_tswI (pc := 1) t32_1 ((rfl : a.toInt = a.toInt).trans w14) (by decide) rfl (pc2 := 92) rfl ?_
    refine zs_iconst (pc := 92) t32_92 (v := 0) (by decide) ?_
    exact zs_iret (pc := 93) t32_93 mr32 (by decide) (hQ _ (by decide) (by decide))
  by_cases w15 : a.toInt = 117
  · refine zs_tswI (pc := 1) t32_1 ((rfl : a.toInt = a.toInt).trans w15) (by decide) rfl (pc2 := 92) rfl ?_
    refine zs_iconst (pc := 92) t32_92 (v := 0) (by decide) ?_
    exact zs_iret (pc := 93) t32_93 mr32 (by decide) (hQ _ (by decide) (by decide))
  by_cases w16 : a.toInt = 118
  · refine zs_tswI (pc := 1) t32_1 ((rfl : a.toInt = a.toInt).trans w16) (by decide) rfl (pc2 := 92) rfl ?_
    refine zs_iconst (pc := 92) t32_92 (v := 0) (by decide) ?_
    exact zs_iret (pc := 93) t32_93 mr32 (by decide) (hQ _ (by decide) (by decide))
  by_cases w17 : a.toInt = 119
  · refine zs_tswI (pc := 1) t32_1 ((rfl : a.toInt = a.toInt).trans w17) (by decide) rfl (pc2 := 86) rfl ?_
    refine zs_iconst (pc := 86) t32_86 (v := 2) (by decide) ?_
    exact zs_iret (pc := 87) t32_87 mr32 (by decide) (hQ _ (by decide) (by decide))
  refine zs_tswD (pc := 1) t32_1 rfl (by omega) (pc2 := 92) rfl ?_
  refine zs_iconst (pc := 92) t32_92 (v := 0) (by decide) ?_
  exact zs_iret (pc := 93) t32_93 mr32 (by decide) (hQ _ (by decide) (by decide))
theorem C33_19 {X : zX} {l : Launch} {M : zM} {Q : Option Value → zM → Prop} {a : Int32} (hs : zSk zMc M) (hI : zIv cLo cHi M) (hQ : ∀ v : Int32, 0 ≤ v.toInt → v.toInt ≤ 1 → Q (some (.int v)) M) : zCall X l 0 0 0 33 [.int a, .ref 19] M Q := by
  have ga := zrg a
  refine zs_in (by decide) mf33 (Nat.le_of_ble_eq_true rfl) ?_
  show zGo X l 0 0 0 33 0 [(0, .int a), (1, .ref 19)] [] M _
  refine zs_iload_n (pc := 0) t33_0 rfl ?_
  by_cases w1 : a.toInt = 104
  · refine zs_lsw (pc := 1) t33_1 (off := 50) ((rfl : a.toInt = a.toInt).trans w1) rfl (pc2 := 51) rfl ?_
    refine zs_aload_n (pc := 51) t33_51 rfl ?_
    have w2 := ib19_3 hI
    refine zs_get (pc := 52) t33_52 (by decide) (zk1 (hs.k fk_zMc_19)) (zfvi rfl rfl) ?_
    refine zs_bipush (pc := 55) t33_55 (v := 60) (by decide) ?_
    by_cases w3 : (zI M 19 3).toInt < 60
    · refine zs_icmp_ltT (pc := 57) t33_57 rfl li60 (by omega) ?_
      refine zs_iconst (pc := 64) t33_64 (v := 0) (by decide) ?_
      exact zs_iret (pc := 65) t33_65 mr33 (by decide) (hQ _ (by decide) (by decide))
    · refine zs_icmp_ltF (pc := 57) t33_57 rfl li60 (by omega) ?_
      refine zs_iconst (pc := 60) t33_60 (v := 1) (by decide) ?_
      refine zs_goto (pc := 61) t33_61 ?_
      exact zs_iret (pc := 65) t33_65 mr33 (by decide) (hQ _ (by decide) (by decide))
  by_cases w4 : a.toInt = 112
  · refine zs_lsw (pc := 1) t33_1 (off := 65) ((rfl : a.toInt = a.toInt).trans w4) rfl (pc2 := 66) rfl ?_
    refine zs_aload_n (pc := 66) t33_66 rfl ?_
    have w5 := ib19_8 hI
    refine zs_get (pc := 67) t33_67 (by decide) (zk1 (hs.k fk_zMc_19)) (zfvi rfl rfl) ?_
    refine zs_bipush (pc := 70) t33_70 (v := 12) (by decide) ?_
    by_cases w6 : (zI M 19 8).toInt < 12
    · refine zs_icmp_ltT (pc := 72) t33_72 rfl li12 (by omega) ?_
      refine zs_iconst (pc := 79) t33_79 (v := 0) (by decide) ?_
      exact zs_iret (pc := 80) t33_80 mr33 (by decide) (hQ _ (by decide) (by decide))
    · refine zs_icmp_ltF (pc := 72) t33_72 rfl li12 (by omega) ?_
      refine zs_iconst (pc := 75) t33_75 (v := 1) (by decide) ?_
      refine zs_goto (pc := 76) t33_76 ?_
      exact zs_iret (pc := 80) t33_80 mr33 (by decide) (hQ _ (by decide) (by decide))
  by_cases w7 : a.toInt = 114
  · refine zs_lsw (pc := 1) t33_1 (off := 35) ((rfl : a.toInt = a.toInt).trans w7) rfl (pc2 := 36) rfl ?_
    refine zs_aload_n (pc := 36) t33_36 rfl ?_
    have w8 := ib19_0 hI
    refine zs_get (pc := 37) t33_37 (by decide) (zk1 (hs.k fk_zMc_19)) (zfvi rfl rfl) ?_
    refine zs_bipush (pc := 40) t33_40 (v := 8) (by decide) ?_
    by_cases w9 : (zI M 19 0).toInt < 8
    · refine zs_icmp_ltT (pc := 42) t33_42 rfl li8 (by omega) ?_
      refine zs_iconst (pc := 49) t33_49 (v := 0) (by decide) ?_
      exact zs_iret (pc := 50) t33_50 mr33 (by decide) (hQ _ (by decide) (by decide))
    · refine zs_icmp_ltF (pc := 42) t33_42 rfl li8 (by omega) ?_
      refine zs_iconst (pc := 45) t33_45 (v := 1) (by decide) ?_
      refine zs_goto (pc := 46) t33_46 ?_
      exact zs_iret (pc := 50) t33_50 mr33 (by decide) (hQ _ (by decide) (by decide))
  refine zs_lsw (pc := 1) t33_1 (off := 80) rfl (by unfold zlsel; repeat (first | rfl | (rw [if_neg (by omega)]; unfold zlsel))) (pc2 := 81) rfl ?_
  refine zs_iconst (pc := 81) t33_81 (v := 0) (by decide) ?_
  exact zs_iret (pc := 82) t33_82 mr33 (by decide) (hQ _ (by decide) (by decide))
theorem C45 {X : zX} {l : Launch} {M : zM} {Q : Option Value → zM → Prop} {a : Int32} (hs : zSk zMc M) (hI : zIv cLo cHi M) (hQ : ∀ v : Int32, 0 ≤ v.toInt → v.toInt ≤ 9 → Q (some (.int v)) M) : zCall X l 0 0 0 45 [.int a] M Q := by
  have ga := zrg a
  refine zs_in (by decide) mf45 (Nat.le_of_ble_eq_true rfl) ?_
  show zGo X l 0 0 0 45 0 [(0, .int a)] [] M _
  refine zs_iload_n (pc := 0) t45_0 rfl ?_
  by_cases w1 : a.toInt = 103
  · refine zs_lsw (pc := 1) t45_1 (off := 45) ((rfl : a.toInt = a.toInt).trans w1) rfl (pc2 := 46) rfl ?_
    refine zs_iconst (pc := 46) t45_46 (v := 4) (by decide) ?_
    exact zs_iret (pc := 47) t45_47 mr45 (by decide) (hQ _ (by decide) (by decide))
  by_cases w2 : a.toInt = 113
  · refine zs_lsw (pc := 1) t45_1 (off := 49) ((rfl : a.toInt = a.toInt).trans w2) rfl (pc2 := 50) rfl ?_
    refine zs_bipush (pc := 50) t45_50 (v := 7) (by decide) ?_
    exact zs_iret (pc := 52) t45_52 mr45 (by decide) (hQ _ (by decide) (by decide))
  by_cases w3 : a.toInt = 115
  · refine zs_lsw (pc := 1) t45_1 (off := 43) ((rfl : a.toInt = a.toInt).trans w3) rfl (pc2 := 44) rfl ?_
    refine zs_iconst (pc := 44) t45_44 (v := 0) (by decide) ?_
    exact zs_iret (pc := 45) t45_45 mr45 (by decide) (hQ _ (by decide) (by decide))
  by_cases w4 : a.toInt = 119
  · refine zs_lsw (pc := 1) t45_1 (off := 47) ((rfl : a.toInt = a.toInt).trans w4) rfl (pc2 := 48) rfl ?_
    refine zs_iconst (pc := 48) t45_48 (v := 5) (by decide) ?_
    exact zs_iret (pc := 49) t45_49 mr45 (by decide) (hQ _ (by decide) (by decide))
  refine zs_lsw (pc := 1) t45_1 (off := 52) rfl (by unfold zlsel; repeat (first | rfl | (rw [if_neg (by omega)]; unfold zlsel))) (pc2 := 53) rfl ?_
  refine zs_bipush (pc := 53) t45_53 (v := 9) (by decide) ?_
  exact zs_iret (pc := 55) t45_55 mr45 (by decide) (hQ _ (by decide) (by decide))
theorem C85 {X : zX} {l : Launch} {M : zM} {Q : Option Value → zM → Prop} {a : Int32} (hs : zSk zMc M) (hI : zIv cLo cHi M) (hQ : ∀ v : Int32, 0 ≤ v.toInt → v.toInt ≤ 3 → Q (some (.int v)) M) : zCall X l 0 0 0 85 [.int a] M Q := by
  have ga := zrg a
  refine zs_in (by decide) mf85 (Nat.le_of_ble_eq_true rfl) ?_
  show zGo X l 0 0 0 85 0 [(0, .int a)] [] M _
  refine zs_iload_n (pc := 0) t85_0 rfl ?_
  by_cases w1 : a.toInt = 100
  · refine zs_lsw (pc := 1) t85_1 (off := 45) ((rfl : a.toInt = a.toInt).trans w1) rfl (pc2 := 46) rfl ?_
    refine zs_iconst (pc := 46) t85_46 (v := 1) (by decide) ?_
    exact zs_iret (pc := 47) t85_47 mr85 (by decide) (hQ _ (by decide) (by decide))
  by_cases w2 : a.toInt = 104
  · refine zs_lsw (pc := 1) t85_1 (off := 43) ((rfl : a.toInt = a.toInt).trans w2) rfl (pc2 := 44) rfl ?_
    refine zs_iconst (pc := 44) t85_44 (v := 3) (by decide) ?_
    exact zs_iret (pc := 45) t85_45 mr85 (by decide) (hQ _ (by decide) (by decide))
  by_cases w3 : a.toInt = 110
  · refine zs_lsw (pc := 1) t85_1 (off := 45) ((rfl : a.toInt = a.toInt).trans w3) rfl (pc2 := 46) rfl ?_
    refine zs_iconst (pc := 46) t85_46 (v := 1) (by decide) ?_
    exact zs_iret (pc := 47) t85_47 mr85 (by decide) (hQ _ (by decide) (by decide))
  by_cases w4 : a.toInt = 120
  · refine zs_lsw (pc := 1) t85_1 (off := 45) ((rfl : a.toInt = a.toInt).trans w4) rfl (pc2 := 46) rfl ?_
    refine zs_iconst (pc := 46) t85_46 (v := 1) (by decide) ?_
    exact zs_iret (pc := 47) t85_47 mr85 (by decide) (hQ _ (by decide) (by decide))
  refine zs_lsw (pc := 1) t85_1 (off := 47) rfl (by unfold zlsel; repeat (first | rfl | (rw [if_neg (by omega)]; unfold zlsel))) (pc2 := 48) rfl ?_
  refine zs_iconst (pc := 48) t85_48 (v := 0) (by decide) ?_
  exact zs_iret (pc := 49) t85_49 mr85 (by decide) (hQ _ (by decide) (by decide))
theorem C38_157_19 {X : zX} {l : Launch} {M : zM} {Q : Option Value → zM → Prop} {a b c : Int32} (hs : zSk zMc M) (hI : zIv cLo cHi M) (hb : 0 ≤ b.toInt ∧ b.toInt ≤ 3) (hQ : ∀ v : Int32, 0 ≤ v.toInt → v.toInt ≤ 1 → Q (some (.int v)) M) : zCall X l 2 0 0 38 [.ref 157, .int a, .int b, .int c, .ref 19] M Q := by
  have ga := zrg a
  have gb := zrg b
  have gc := zrg c
  refine zs_in (by decide) mf38 (Nat.le_of_ble_eq_true rfl) ?_
  show zGo X l 2 0 0 38 0 [(0, .ref 157), (1, .int a), (2, .int b), (3, .int c), (4, .ref 19)] [] M _
  refine zs_iload_n (pc := 0) t38_0 rfl ?_
  by_cases w1 : a.toInt = 104
  · refine zs_lsw (pc := 1) t38_1 (off := 78) ((rfl : a.toInt = a.toInt).trans w1) rfl (pc2 := 79) rfl ?_
    refine zs_iload_n (pc := 79) t38_79 rfl ?_
    refine zs_iload_n (pc := 80) t38_80 rfl ?_
    refine zs_aload (pc := 81) t38_81 rfl ?_
    refine zs_invS (pc := 83) (as := [.int b, .int c, .ref 19]) (st := []) t38_83 (by decide) mf40 rfl rfl ⟨by decide, by decide, Nat.le_of_ble_eq_true rfl, Nat.le_of_ble_eq_true rfl⟩ (zs_in (by decide) mf40 (Nat.le_of_ble_eq_true rfl) ?_) (fun _ _ q => q)
    show zGo X l 1 0 0 40 0 [(0, .int b), (1, .int c), (2, .ref 19)] [] M _
    refine zs_iload_n (pc := 0) t40_0 rfl ?_
    by_cases w2 : b.toInt ≠ 0
    · refine zs_if_neT (pc := 1) t40_1 rfl (by omega) ?_
      refine zs_iload_n (pc := 10) t40_10 rfl ?_
      refine zs_iconst (pc := 11) t40_11 (v := 1) (by decide) ?_
      by_cases w3 : b.toInt ≠ 1
      · refine zs_icmp_neT (pc := 12) t40_12 rfl li1 (by omega) ?_
        refine zs_iload_n (pc := 22) t40_22 rfl ?_
        refine zs_iconst (pc := 23) t40_23 (v := 0) (by decide) ?_
        refine zs_sipush (pc := 24) t40_24 (v := 999) (by decide) ?_
        refine zs_invS (pc := 27) (as := [.int c, .int (0 : Int32), .int (999 : Int32)]) (st := []) t40_27 (by decide) mf39 rfl rfl ⟨by decide, by decide, Nat.le_of_ble_eq_true rfl, Nat.le_of_ble_eq_true rfl⟩ (zs_in (by decide) mf39 (Nat.le_of_ble_eq_true rfl) ?_) (fun _ _ q => q)
        show zGo X l 0 0 0 39 0 [(0, .int c), (1, .int (0 : Int32)), (2, .int (999 : Int32))] [] M _
        refine zs_iload_n (pc := 0) t39_0 rfl ?_
        refine zs_iload_n (pc := 1) t39_1 rfl ?_
        by_cases w4 : c.toInt < 0
        · refine zs_icmp_ltT (pc := 2) t39_2 rfl li0 (by omega) ?_
          refine zs_iconst (pc := 14) t39_14 (v := 0) (by decide) ?_
          refine zs_iret (pc := 15) t39_15 mr39 (by decide) ?_
          show zGo X l 1 0 0 40 30 [(0, .int b), (1, .int c), (2, .ref 19)] [.int (0 : Int32)] M _
          refine zs_iret (pc := 30) t40_30 mr40 (by decide) ?_
          show zGo X l 2 0 0 38 86 [(0, .ref 157), (1, .int a), (2, .int b), (3, .int c), (4, .ref 19)] [.int (0 : Int32)] M _
          exact zs_iret (pc := 86) t38_86 mr38 (by decide) (hQ _ (by decide) (by decide))
        · refine zs_icmp_ltF (pc := 2) t39_2 rfl li0 (by omega) ?_
          refine zs_iload_n (pc := 5) t39_5 rfl ?_
          refine zs_iload_n (pc := 6) t39_6 rfl ?_
          by_cases w5 : 999 < c.toInt
          · refine zs_icmp_gtT (pc := 7) t39_7 rfl li999 (by omega) ?_
            refine zs_iconst (pc := 14) t39_14 (v := 0) (by decide) ?_
            refine zs_iret (pc := 15) t39_15 mr39 (by decide) ?_
            show zGo X l 1 0 0 40 30 [(0, .int b), (1, .int c), (2, .ref 19)] [.int (0 : Int32)] M _
            refine zs_iret (pc := 30) t40_30 mr40 (by decide) ?_
            show zGo X l 2 0 0 38 86 [(0, .ref 157), (1, .int a), (2, .int b), (3, .int c), (4, .ref 19)] [.int (0 : Int32)] M _
            exact zs_iret (pc := 86) t38_86 mr38 (by decide) (hQ _ (by decide) (by decide))
          · refine zs_icmp_gtF (pc := 7) t39_7 rfl li999 (by omega) ?_
            refine zs_iconst (pc := 10) t39_10 (v := 1) (by decide) ?_
            refine zs_goto (pc := 11) t39_11 ?_
            refine zs_iret (pc := 15) t39_15 mr39 (by decide) ?_
            show zGo X l 1 0 0 40 30 [(0, .int b), (1, .int c), (2, .ref 19)] [.int (1 : Int32)] M _
            refine zs_iret (pc := 30) t40_30 mr40 (by decide) ?_
            show zGo X l 2 0 0 38 86 [(0, .ref 157), (1, .int a), (2, .int b), (3, .int c), (4, .ref 19)] [.int (1 : Int32)] M _
            exact zs_iret (pc := 86) t38_86 mr38 (by decide) (hQ _ (by decide) (by decide))
      · refine zs_icmp_neF (pc := 12) t40_12 rfl li1 (by omega) ?_
        refine zs_iload_n (pc := 15) t40_15 rfl ?_
        refine zs_invS (pc := 16) (as := [.int c]) (st := []) t40_16 (by decide) mf42 rfl rfl ⟨by decide, by decide, Nat.le_of_ble_eq_true rfl, Nat.le_of_ble_eq_true rfl⟩ (zs_in (by decide) mf42 (Nat.le_of_ble_eq_true rfl) ?_) (fun _ _ q => q)
        show zGo X l 0 0 0 42 0 [(0, .int c)] [] M _
        refine zs_iload_n (pc := 0) t42_0 rfl ?_
        refine zs_sipush (pc := 1) t42_1 (v := -9999) (by decide) ?_
        by_cases w6 : c.toInt < (-9999)
        · refine zs_icmp_ltT (pc := 4) t42_4 rfl lin9999 (by omega) ?_
          refine zs_iconst (pc := 18) t42_18 (v := 0) (by decide) ?_
          refine zs_iret (pc := 19) t42_19 mr42 (by decide) ?_
          show zGo X l 1 0 0 40 19 [(0, .int b), (1, .int c), (2, .ref 19)] [.int (0 : Int32)] M _
          refine zs_goto (pc := 19) t40_19 ?_
          refine zs_iret (pc := 30) t40_30 mr40 (by decide) ?_
          show zGo X l 2 0 0 38 86 [(0, .ref 157), (1, .int a), (2, .int b), (3, .int c), (4, .ref 19)] [.int (0 : Int32)] M _
          exact zs_iret (pc := 86) t38_86 mr38 (by decide) (hQ _ (by decide) (by decide))
        · refine zs_icmp_ltF (pc := 4) t42_4 rfl lin9999 (by omega) ?_
          refine zs_iload_n (pc := 7) t42_7 rfl ?_
          refine zs_sipush (pc := 8) t42_8 (v := 9999) (by decide) ?_
          by_cases w7 : 9999 < c.toInt
          · refine zs_icmp_gtT (pc := 11) t42_11 rfl li9999 (by omega) ?_
            refine zs_iconst (pc := 18) t42_18 (v := 0) (by decide) ?_
            refine zs_iret (pc := 19) t42_19 mr42 (by decide) ?_
            show zGo X l 1 0 0 40 19 [(0, .int b), (1, .int c), (2, .ref 19)] [.int (0 : Int32)] M _
            refine zs_goto (pc := 19) t40_19 ?_
            refine zs_iret (pc := 30) t40_30 mr40 (by decide) ?_
            show zGo X l 2 0 0 38 86 [(0, .ref 157), (1, .int a), (2, .int b), (3, .int c), (4, .ref 19)] [.int (0 : Int32)] M _
            exact zs_iret (pc := 86) t38_86 mr38 (by decide) (hQ _ (by decide) (by decide))
          · refine zs_icmp_gtF (pc := 11) t42_11 rfl li9999 (by omega) ?_
            refine zs_iconst (pc := 14) t42_14 (v := 1) (by decide) ?_
            refine zs_goto (pc := 15) t42_15 ?_
            refine zs_iret (pc := 19) t42_19 mr42 (by decide) ?_
            show zGo X l 1 0 0 40 19 [(0, .int b), (1, .int c), (2, .ref 19)] [.int (1 : Int32)] M _
            refine zs_goto (pc := 19) t40_19 ?_
            refine zs_iret (pc := 30) t40_30 mr40 (by decide) ?_
            show zGo X l 2 0 0 38 86 [(0, .ref 157), (1, .int a), (2, .int b), (3, .int c), (4, .ref 19)] [.int (1 : Int32)] M _
            exact zs_iret (pc := 86) t38_86 mr38 (by decide) (hQ _ (by decide) (by decide))
    · refine zs_if_neF (pc := 1) t40_1 rfl (by omega) ?_
      refine zs_aload_n (pc := 4) t40_4 rfl ?_
      refine zs_iload_n (pc := 5) t40_5 rfl ?_
      refine zs_invV (pc := 6) (k := 19) (as' := [.int c]) (st := []) t40_6 mf41 rfl rfl (Or.inl ⟨by decide, (zk1 (hs.k fk_zMc_19))⟩) ⟨by decide, by decide, Nat.le_of_ble_eq_true rfl, Nat.le_of_ble_eq_true rfl⟩ (zs_in (by decide) mf41 (Nat.le_of_ble_eq_true rfl) ?_) (fun _ _ q => q)
      show zGo X l 0 0 0 41 0 [(0, .ref 19), (1, .int c)] [] M _
      refine zs_iload_n (pc := 0) t41_0 rfl ?_
      by_cases w8 : c.toInt < 0
      · refine zs_if_ltT (pc := 1) t41_1 rfl (by omega) ?_
        refine zs_iconst (pc := 16) t41_16 (v := 0) (by decide) ?_
        refine zs_iret (pc := 17) t41_17 mr41 (by decide) ?_
        show zGo X l 1 0 0 40 9 [(0, .int b), (1, .int c), (2, .ref 19)] [.int (0 : Int32)] M _
        refine zs_iret (pc := 9) t40_9 mr40 (by decide) ?_
        show zGo X l 2 0 0 38 86 [(0, .ref 157), (1, .int a), (2, .int b), (3, .int c), (4, .ref 19)] [.int (0 : Int32)] M _
        exact zs_iret (pc := 86) t38_86 mr38 (by decide) (hQ _ (by decide) (by decide))
      · refine zs_if_ltF (pc := 1) t41_1 rfl (by omega) ?_
        refine zs_iload_n (pc := 4) t41_4 rfl ?_
        refine zs_aload_n (pc := 5) t41_5 rfl ?_
        have w9 := ib19_0 hI
        refine zs_get (pc := 6) t41_6 (by decide) (zk1 (hs.k fk_zMc_19)) (zfvi rfl rfl) ?_
        by_cases w10 : (zI M 19 0).toInt ≤ c.toInt
        · refine zs_icmp_geT (pc := 9) t41_9 rfl rfl (by omega) ?_
          refine zs_iconst (pc := 16) t41_16 (v := 0) (by decide) ?_
          refine zs_iret (pc := 17) t41_17 mr41 (by decide) ?_
          show zGo X l 1 0 0 40 9 [(0, .int b), (1, .int c), (2, .ref 19)] [.int (0 : Int32)] M _
          refine zs_iret (pc := 9) t40_9 mr40 (by decide) ?_
          show zGo X l 2 0 0 38 86 [(0, .ref 157), (1, .int a), (2, .int b), (3, .int c), (4, .ref 19)] [.int (0 : Int32)] M _
          exact zs_iret (pc := 86) t38_86 mr38 (by decide) (hQ _ (by decide) (by decide))
        · refine zs_icmp_geF (pc := 9) t41_9 rfl rfl (by omega) ?_
          refine zs_iconst (pc := 12) t41_12 (v := 1) (by decide) ?_
          refine zs_goto (pc := 13) t41_13 ?_
          refine zs_iret (pc := 17) t41_17 mr41 (by decide) ?_
          show zGo X l 1 0 0 40 9 [(0, .int b), (1, .int c), (2, .ref 19)] [.int (1 : Int32)] M _
          refine zs_iret (pc := 9) t40_9 mr40 (by decide) ?_
          show zGo X l 2 0 0 38 86 [(0, .ref 157), (1, .int a), (2, .int b), (3, .int c), (4, .ref 19)] [.int (1 : Int32)] M _
          exact zs_iret (pc := 86) t38_86 mr38 (by decide) (hQ _ (by decide) (by decide))
  by_cases w11 : a.toInt = 112
  · refine zs_lsw (pc := 1) t38_1 (off := 86) ((rfl : a.toInt = a.toInt).trans w11) rfl (pc2 := 87) rfl ?_
    refine zs_iload_n (pc := 87) t38_87 rfl ?_
    refine zs_iload_n (pc := 88) t38_88 rfl ?_
    refine zs_invS (pc := 89) (as := [.int b, .int c]) (st := []) t38_89 (by decide) mf43 rfl rfl ⟨by decide, by decide, Nat.le_of_ble_eq_true rfl, Nat.le_of_ble_eq_true rfl⟩ (zs_in (by decide) mf43 (Nat.le_of_ble_eq_true rfl) ?_) (fun _ _ q => q)
    show zGo X l 1 0 0 43 0 [(0, .int b), (1, .int c)] [] M _
    refine zs_iload_n (pc := 0) t43_0 rfl ?_
    by_cases w12 : b.toInt ≠ 0
    · refine zs_if_neT (pc := 1) t43_1 rfl (by omega) ?_
      refine zs_iload_n (pc := 9) t43_9 rfl ?_
      refine zs_iconst (pc := 10) t43_10 (v := 1) (by decide) ?_
      by_cases w13 : b.toInt ≠ 1
      · refine zs_icmp_neT (pc := 11) t43_11 rfl li1 (by omega) ?_
        refine zs_iload_n (pc := 25) t43_25 rfl ?_
        refine zs_bipush (pc := 26) t43_26 (v := -5) (by decide) ?_
        refine zs_iconst (pc := 28) t43_28 (v := 5) (by decide) ?_
        refine zs_invS (pc := 29) (as := [.int c, .int (-5 : Int32), .int (5 : Int32)]) (st := []) t43_29 (by decide) mf39 rfl rfl ⟨by decide, by decide, Nat.le_of_ble_eq_true rfl, Nat.le_of_ble_eq_true rfl⟩ (zs_in (by decide) mf39 (Nat.le_of_ble_eq_true rfl) ?_) (fun _ _ q => q)
        show zGo X l 0 0 0 39 0 [(0, .int c), (1, .int (-5 : Int32)), (2, .int (5 : Int32))] [] M _
        refine zs_iload_n (pc := 0) t39_0 rfl ?_
        refine zs_iload_n (pc := 1) t39_1 rfl ?_
        by_cases w14 : c.toInt < (-5)
        · refine zs_icmp_ltT (pc := 2) t39_2 rfl lin5 (by omega) ?_
          refine zs_iconst (pc := 14) t39_14 (v := 0) (by decide) ?_
          refine zs_iret (pc := 15) t39_15 mr39 (by decide) ?_
          show zGo X l 1 0 0 43 32 [(0, .int b), (1, .int c)] [.int (0 : Int32)] M _
          refine zs_iret (pc := 32) t43_32 mr43 (by decide) ?_
          show zGo X l 2 0 0 38 92 [(0, .ref 157), (1, .int a), (2, .int b), (3, .int c), (4, .ref 19)] [.int (0 : Int32)] M _
          exact zs_iret (pc := 92) t38_92 mr38 (by decide) (hQ _ (by decide) (by decide))
        · refine zs_icmp_ltF (pc := 2) t39_2 rfl lin5 (by omega) ?_
          refine zs_iload_n (pc := 5) t39_5 rfl ?_
          refine zs_iload_n (pc := 6) t39_6 rfl ?_
          by_cases w15 : 5 < c.toInt
          · refine zs_icmp_gtT (pc := 7) t39_7 rfl li5 (by omega) ?_
            refine zs_iconst (pc := 14) t39_14 (v := 0) (by decide) ?_
            refine zs_iret (pc := 15) t39_15 mr39 (by decide) ?_
            show zGo X l 1 0 0 43 32 [(0, .int b), (1, .int c)] [.int (0 : Int32)] M _
            refine zs_iret (pc := 32) t43_32 mr43 (by decide) ?_
            show zGo X l 2 0 0 38 92 [(0, .ref 157), (1, .int a), (2, .int b), (3, .int c), (4, .ref 19)] [.int (0 : Int32)] M _
            exact zs_iret (pc := 92) t38_92 mr38 (by decide) (hQ _ (by decide) (by decide))
          · refine zs_icmp_gtF (pc := 7) t39_7 rfl li5 (by omega) ?_
            refine zs_iconst (pc := 10) t39_10 (v := 1) (by decide) ?_
            refine zs_goto (pc := 11) t39_11 ?_
            refine zs_iret (pc := 15) t39_15 mr39 (by decide) ?_
            show zGo X l 1 0 0 43 32 [(0, .int b), (1, .int c)] [.int (1 : Int32)] M _
            refine zs_iret (pc := 32) t43_32 mr43 (by decide) ?_
            show zGo X l 2 0 0 38 92 [(0, .ref 157), (1, .int a), (2, .int b), (3, .int c), (4, .ref 19)] [.int (1 : Int32)] M _
            exact zs_iret (pc := 92) t38_92 mr38 (by decide) (hQ _ (by decide) (by decide))
      · refine zs_icmp_neF (pc := 11) t43_11 rfl li1 (by omega) ?_
        refine zs_iload_n (pc := 14) t43_14 rfl ?_
        refine zs_bipush (pc := 15) t43_15 (v := -50) (by decide) ?_
        refine zs_bipush (pc := 17) t43_17 (v := 50) (by decide) ?_
        refine zs_invS (pc := 19) (as := [.int c, .int (-50 : Int32), .int (50 : Int32)]) (st := []) t43_19 (by decide) mf39 rfl rfl ⟨by decide, by decide, Nat.le_of_ble_eq_true rfl, Nat.le_of_ble_eq_true rfl⟩ (zs_in (by decide) mf39 (Nat.le_of_ble_eq_true rfl) ?_) (fun _ _ q => q)
        show zGo X l 0 0 0 39 0 [(0, .int c), (1, .int (-50 : Int32)), (2, .int (50 : Int32))] [] M _
        refine zs_iload_n (pc := 0) t39_0 rfl ?_
        refine zs_iload_n (pc := 1) t39_1 rfl ?_
        by_cases w16 : c.toInt < (-50)
        · refine zs_icmp_ltT (pc := 2) t39_2 rfl lin50 (by omega) ?_
          refine zs_iconst (pc := 14) t39_14 (v := 0) (by decide) ?_
          refine zs_iret (pc := 15) t39_15 mr39 (by decide) ?_
          show zGo X l 1 0 0 43 22 [(0, .int b), (1, .int c)] [.int (0 : Int32)] M _
          refine zs_goto (pc := 22) t43_22 ?_
          refine zs_iret (pc := 32) t43_32 mr43 (by decide) ?_
          show zGo X l 2 0 0 38 92 [(0, .ref 157), (1, .int a), (2, .int b), (3, .int c), (4, .ref 19)] [.int (0 : Int32)] M _
          exact zs_iret (pc := 92) t38_92 mr38 (by decide) (hQ _ (by decide) (by decide))
        · refine zs_icmp_ltF (pc := 2) t39_2 rfl lin50 (by omega) ?_
          refine zs_iload_n (pc := 5) t39_5 rfl ?_
          refine zs_iload_n (pc := 6) t39_6 rfl ?_
          by_cases w17 : 50 < c.toInt
          · refine zs_icmp_gtT (pc := 7) t39_7 rfl li50 (by omega) ?_
            refine zs_iconst (pc := 14) t39_14 (v := 0) (by decide) ?_
            refine zs_iret (pc := 15) t39_15 mr39 (by decide) ?_
            show zGo X l 1 0 0 43 22 [(0, .int b), (1, .int c)] [.int (0 : Int32)] M _
            refine zs_goto (pc := 22) t43_22 ?_
            refine zs_iret (pc := 32) t43_32 mr43 (by decide) ?_
            show zGo X l 2 0 0 38 92 [(0, .ref 157), (1, .int a), (2, .int b), (3, .int c), (4, .ref 19)] [.int (0 : Int32)] M _
            exact zs_iret (pc := 92) t38_92 mr38 (by decide) (hQ _ (by decide) (by decide))
          · refine zs_icmp_gtF (pc := 7) t39_7 rfl li50 (by omega) ?_
            refine zs_iconst (pc := 10) t39_10 (v := 1) (by decide) ?_
            refine zs_goto (pc := 11) t39_11 ?_
            refine zs_iret (pc := 15) t39_15 mr39 (by decide) ?_
            show zGo X l 1 0 0 43 22 [(0, .int b), (1, .int c)] [.int (1 : Int32)] M _
            refine zs_goto (pc := 22) t43_22 ?_
            refine zs_iret (pc := 32) t43_32 mr43 (by decide) ?_
            show zGo X l 2 0 0 38 92 [(0, .ref 157), (1, .int a), (2, .int b), (3, .int c), (4, .ref 19)] [.int (1 : Int32)] M _
            exact zs_iret (pc := 92) t38_92 mr38 (by decide) (hQ _ (by decide) (by decide))
    · refine zs_if_neF (pc := 1) t43_1 rfl (by omega) ?_
      refine zs_iload_n (pc := 4) t43_4 rfl ?_
      refine zs_invS (pc := 5) (as := [.int c]) (st := []) t43_5 (by decide) mf42 rfl rfl ⟨by decide, by decide, Nat.le_of_ble_eq_true rfl, Nat.le_of_ble_eq_true rfl⟩ (zs_in (by decide) mf42 (Nat.le_of_ble_eq_true rfl) ?_) (fun _ _ q => q)
      show zGo X l 0 0 0 42 0 [(0, .int c)] [] M _
      refine zs_iload_n (pc := 0) t42_0 rfl ?_
      refine zs_sipush (pc := 1) t42_1 (v := -9999) (by decide) ?_
      by_cases w18 : c.toInt < (-9999)
      · refine zs_icmp_ltT (pc := 4) t42_4 rfl lin9999 (by omega) ?_
        refine zs_iconst (pc := 18) t42_18 (v := 0) (by decide) ?_
        refine zs_iret (pc := 19) t42_19 mr42 (by decide) ?_
        show zGo X l 1 0 0 43 8 [(0, .int b), (1, .int c)] [.int (0 : Int32)] M _
        refine zs_iret (pc := 8) t43_8 mr43 (by decide) ?_
        show zGo X l 2 0 0 38 92 [(0, .ref 157), (1, .int a), (2, .int b), (3, .int c), (4, .ref 19)] [.int (0 : Int32)] M _
        exact zs_iret (pc := 92) t38_92 mr38 (by decide) (hQ _ (by decide) (by decide))
      · refine zs_icmp_ltF (pc := 4) t42_4 rfl lin9999 (by omega) ?_
        refine zs_iload_n (pc := 7) t42_7 rfl ?_
        refine zs_sipush (pc := 8) t42_8 (v := 9999) (by decide) ?_
        by_cases w19 : 9999 < c.toInt
        · refine zs_icmp_gtT (pc := 11) t42_11 rfl li9999 (by omega) ?_
          refine zs_iconst (pc := 18) t42_18 (v := 0) (by decide) ?_
          refine zs_iret (pc := 19) t42_19 mr42 (by decide) ?_
          show zGo X l 1 0 0 43 8 [(0, .int b), (1, .int c)] [.int (0 : Int32)] M _
          refine zs_iret (pc := 8) t43_8 mr43 (by decide) ?_
          show zGo X l 2 0 0 38 92 [(0, .ref 157), (1, .int a), (2, .int b), (3, .int c), (4, .ref 19)] [.int (0 : Int32)] M _
          exact zs_iret (pc := 92) t38_92 mr38 (by decide) (hQ _ (by decide) (by decide))
        · refine zs_icmp_gtF (pc := 11) t42_11 rfl li9999 (by omega) ?_
          refine zs_iconst (pc := 14) t42_14 (v := 1) (by decide) ?_
          refine zs_goto (pc := 15) t42_15 ?_
          refine zs_iret (pc := 19) t42_19 mr42 (by decide) ?_
          show zGo X l 1 0 0 43 8 [(0, .int b), (1, .int c)] [.int (1 : Int32)] M _
          refine zs_iret (pc := 8) t43_8 mr43 (by decide) ?_
          show zGo X l 2 0 0 38 92 [(0, .ref 157), (1, .int a), (2, .int b), (3, .int c), (4, .ref 19)] [.int (1 : Int32)] M _
          exact zs_iret (pc := 92) t38_92 mr38 (by decide) (hQ _ (by decide) (by decide))
  by_cases w20 : a.toInt = 114
  · refine zs_lsw (pc := 1) t38_1 (off := 43) ((rfl : a.toInt = a.toInt).trans w20) rfl (pc2 := 44) rfl ?_
    refine zs_iload_n (pc := 44) t38_44 rfl ?_
    refine zs_aload (pc := 45) t38_45 rfl ?_
    have w21 := ib19_0 hI
    refine zs_get (pc := 47) t38_47 (by decide) (zk1 (hs.k fk_zMc_19)) (zfvi rfl rfl) ?_
    by_cases w22 : (zI M 19 0).toInt ≠ 0
    · refine zs_if_neT (pc := 50) t38_50 rfl (by omega) ?_
      refine zs_aload (pc := 57) t38_57 rfl ?_
      refine zs_get (pc := 59) t38_59 (by decide) (zk1 (hs.k fk_zMc_19)) (hs.p rfl fv_zMc_19_1) ?_
      refine zs_aload (pc := 62) t38_62 rfl ?_
      refine zs_get (pc := 64) t38_64 (by decide) (zk1 (hs.k fk_zMc_19)) (zfvi rfl rfl) ?_
      refine zs_iconst (pc := 67) t38_67 (v := 1) (by decide) ?_
      obtain ⟨w23v, w23e, w23⟩ := zisub (a := (zI M 19 0)) (b := (1 : Int32)) rfl li1 (by omega) (by omega)
      refine zs_isub (pc := 68) t38_68 (c := w23v) w23e ?_
      obtain ⟨w24n, w24⟩ : ∃ n : Nat, w23v.toInt = (n : Int) := ⟨w23v.toInt.toNat, by omega⟩
      have w25 := ib20 hI w24n
      refine zs_iald (pc := 69) t38_69 (j := w24n) (by decide) (zk1 (hs.k fk_zMc_20)) w24 (zk2 (hs.k fk_zMc_20) (by omega)) rfl ?_
      refine zs_iconst (pc := 70) t38_70 (v := 1) (by decide) ?_
      obtain ⟨w26v, w26⟩ : ∃ v, v = (zI M 20 w24n) + (1 : Int32) := ⟨_, rfl⟩
      have w26g := zrg w26v
      refine zs_iadd (pc := 71) t38_71 (c := w26v) w26.symm ?_
      refine zs_sipush (pc := 72) t38_72 (v := 999) (by decide) ?_
      refine zs_invS (pc := 75) (as := [.int c, .int w26v, .int (999 : Int32)]) (st := []) t38_75 (by decide) mf39 rfl rfl ⟨by decide, by decide, Nat.le_of_ble_eq_true rfl, Nat.le_of_ble_eq_true rfl⟩ (zs_in (by decide) mf39 (Nat.le_of_ble_eq_true rfl) ?_) (fun _ _ q => q)
      show zGo X l 0 0 0 39 0 [(0, .int c), (1, .int w26v), (2, .int (999 : Int32))] [] M _
      refine zs_iload_n (pc := 0) t39_0 rfl ?_
      refine zs_iload_n (pc := 1) t39_1 rfl ?_
      by_cases w27 : c.toInt < w26v.toInt
      · refine zs_icmp_ltT (pc := 2) t39_2 rfl rfl (by omega) ?_
        refine zs_iconst (pc := 14) t39_14 (v := 0) (by decide) ?_
        refine zs_iret (pc := 15) t39_15 mr39 (by decide) ?_
        show zGo X l 2 0 0 38 78 [(0, .ref 157), (1, .int a), (2, .int b), (3, .int c), (4, .ref 19)] [.int (0 : Int32)] M _
        exact zs_iret (pc := 78) t38_78 mr38 (by decide) (hQ _ (by decide) (by decide))
      · refine zs_icmp_ltF (pc := 2) t39_2 rfl rfl (by omega) ?_
        refine zs_iload_n (pc := 5) t39_5 rfl ?_
        refine zs_iload_n (pc := 6) t39_6 rfl ?_
        by_cases w28 : 999 < c.toInt
        · refine zs_icmp_gtT (pc := 7) t39_7 rfl li999 (by omega) ?_
          refine zs_iconst (pc := 14) t39_14 (v := 0) (by decide) ?_
          refine zs_iret (pc := 15) t39_15 mr39 (by decide) ?_
          show zGo X l 2 0 0 38 78 [(0, .ref 157), (1, .int a), (2, .int b), (3, .int c), (4, .ref 19)] [.int (0 : Int32)] M _
          exact zs_iret (pc := 78) t38_78 mr38 (by decide) (hQ _ (by decide) (by decide))
        · refine zs_icmp_gtF (pc := 7) t39_7 rfl li999 (by omega) ?_
          refine zs_iconst (pc := 10) t39_10 (v := 1) (by decide) ?_
          refine zs_goto (pc := 11) t39_11 ?_
          refine zs_iret (pc := 15) t39_15 mr39 (by decide) ?_
          show zGo X l 2 0 0 38 78 [(0, .ref 157), (1, .int a), (2, .int b), (3, .int c), (4, .ref 19)] [.int (1 : Int32)] M _
          exact zs_iret (pc := 78) t38_78 mr38 (by decide) (hQ _ (by decide) (by decide))
    · refine zs_if_neF (pc := 50) t38_50 rfl (by omega) ?_
      refine zs_iconst (pc := 53) t38_53 (v := 1) (by decide) ?_
      refine zs_goto (pc := 54) t38_54 ?_
      refine zs_sipush (pc := 72) t38_72 (v := 999) (by decide) ?_
      refine zs_invS (pc := 75) (as := [.int c, .int (1 : Int32), .int (999 : Int32)]) (st := []) t38_75 (by decide) mf39 rfl rfl ⟨by decide, by decide, Nat.le_of_ble_eq_true rfl, Nat.le_of_ble_eq_true rfl⟩ (zs_in (by decide) mf39 (Nat.le_of_ble_eq_true rfl) ?_) (fun _ _ q => q)
      show zGo X l 0 0 0 39 0 [(0, .int c), (1, .int (1 : Int32)), (2, .int (999 : Int32))] [] M _
      refine zs_iload_n (pc := 0) t39_0 rfl ?_
      refine zs_iload_n (pc := 1) t39_1 rfl ?_
      by_cases w29 : c.toInt < 1
      · refine zs_icmp_ltT (pc := 2) t39_2 rfl li1 (by omega) ?_
        refine zs_iconst (pc := 14) t39_14 (v := 0) (by decide) ?_
        refine zs_iret (pc := 15) t39_15 mr39 (by decide) ?_
        show zGo X l 2 0 0 38 78 [(0, .ref 157), (1, .int a), (2, .int b), (3, .int c), (4, .ref 19)] [.int (0 : Int32)] M _
        exact zs_iret (pc := 78) t38_78 mr38 (by decide) (hQ _ (by decide) (by decide))
      · refine zs_icmp_ltF (pc := 2) t39_2 rfl li1 (by omega) ?_
        refine zs_iload_n (pc := 5) t39_5 rfl ?_
        refine zs_iload_n (pc := 6) t39_6 rfl ?_
        by_cases w30 : 999 < c.toInt
        · refine zs_icmp_gtT (pc := 7) t39_7 rfl li999 (by omega) ?_
          refine zs_iconst (pc := 14) t39_14 (v := 0) (by decide) ?_
          refine zs_iret (pc := 15) t39_15 mr39 (by decide) ?_
          show zGo X l 2 0 0 38 78 [(0, .ref 157), (1, .int a), (2, .int b), (3, .int c), (4, .ref 19)] [.int (0 : Int32)] M _
          exact zs_iret (pc := 78) t38_78 mr38 (by decide) (hQ _ (by decide) (by decide))
        · refine zs_icmp_gtF (pc := 7) t39_7 rfl li999 (by omega) ?_
          refine zs_iconst (pc := 10) t39_10 (v := 1) (by decide) ?_
          refine zs_goto (pc := 11) t39_11 ?_
          refine zs_iret (pc := 15) t39_15 mr39 (by decide) ?_
          show zGo X l 2 0 0 38 78 [(0, .ref 157), (1, .int a), (2, .int b), (3, .int c), (4, .ref 19)] [.int (1 : Int32)] M _
          exact zs_iret (pc := 78) t38_78 mr38 (by decide) (hQ _ (by decide) (by decide))
  by_cases w31 : a.toInt = 119
  · refine zs_lsw (pc := 1) t38_1 (off := 92) ((rfl : a.toInt = a.toInt).trans w31) rfl (pc2 := 93) rfl ?_
    refine zs_iconst (pc := 93) t38_93 (v := 5) (by decide) ?_
    refine zs_iload_n (pc := 94) t38_94 rfl ?_
    obtain ⟨w32v, w32e, w32⟩ := ziadd (a := (5 : Int32)) (b := b) li5 rfl (by omega) (by omega)
    refine zs_iadd (pc := 95) t38_95 (c := w32v) w32e ?_
    refine zs_iload_n (pc := 96) t38_96 rfl ?_
    refine zs_invS (pc := 97) (as := [.int w32v, .int c]) (st := []) t38_97 (by decide) mf44 rfl rfl ⟨by decide, by decide, Nat.le_of_ble_eq_true rfl, Nat.le_of_ble_eq_true rfl⟩ (zs_in (by decide) mf44 (Nat.le_of_ble_eq_true rfl) ?_) (fun _ _ q => q)
    show zGo X l 1 0 0 44 0 [(0, .int w32v), (1, .int c)] [] M _
    refine zs_iload_n (pc := 0) t44_0 rfl ?_
    refine zs_if_ltF (pc := 1) t44_1 w32 (by omega) ?_
    refine zs_iload_n (pc := 4) t44_4 rfl ?_
    refine zs_bipush (pc := 5) t44_5 (v := 9) (by decide) ?_
    refine zs_icmp_geF (pc := 7) t44_7 w32 li9 (by omega) ?_
    refine zs_iload_n (pc := 10) t44_10 rfl ?_
    refine zs_getstatic (pc := 11) t44_11 (v := .ref 2) rfl ?_
    refine zs_iload_n (pc := 14) t44_14 rfl ?_
    obtain ⟨w33n, w33⟩ : ∃ n : Nat, w32v.toInt = (n : Int) := ⟨w32v.toInt.toNat, by omega⟩
    have w34 := ib2 hI w33n
    refine zs_iald (pc := 15) t44_15 (j := w33n) (by decide) (zk1 (hs.k fk_zMc_2)) w33 (zk2 (hs.k fk_zMc_2) (by omega)) rfl ?_
    refine zs_getstatic (pc := 16) t44_16 (v := .ref 3) rfl ?_
    refine zs_iload_n (pc := 19) t44_19 rfl ?_
    have w35 := ib3 hI w33n
    refine zs_iald (pc := 20) t44_20 (j := w33n) (by decide) (zk1 (hs.k fk_zMc_3)) w33 (zk2 (hs.k fk_zMc_3) (by omega)) rfl ?_
    refine zs_invS (pc := 21) (as := [.int c, .int (zI M 2 w33n), .int (zI M 3 w33n)]) (st := []) t44_21 (by decide) mf39 rfl rfl ⟨by decide, by decide, Nat.le_of_ble_eq_true rfl, Nat.le_of_ble_eq_true rfl⟩ (zs_in (by decide) mf39 (Nat.le_of_ble_eq_true rfl) ?_) (fun _ _ q => q)
    show zGo X l 0 0 0 39 0 [(0, .int c), (1, .int (zI M 2 w33n)), (2, .int (zI M 3 w33n))] [] M _
    refine zs_iload_n (pc := 0) t39_0 rfl ?_
    refine zs_iload_n (pc := 1) t39_1 rfl ?_
    by_cases w36 : c.toInt < (zI M 2 w33n).toInt
    · refine zs_icmp_ltT (pc := 2) t39_2 rfl rfl (by omega) ?_
      refine zs_iconst (pc := 14) t39_14 (v := 0) (by decide) ?_
      refine zs_iret (pc := 15) t39_15 mr39 (by decide) ?_
      show zGo X l 1 0 0 44 24 [(0, .int w32v), (1, .int c)] [.int (0 : Int32)] M _
      refine zs_if_eqT (pc := 24) t44_24 li0 (by decide) ?_
      refine zs_iconst (pc := 31) t44_31 (v := 0) (by decide) ?_
      refine zs_iret (pc := 32) t44_32 mr44 (by decide) ?_
      show zGo X l 2 0 0 38 100 [(0, .ref 157), (1, .int a), (2, .int b), (3, .int c), (4, .ref 19)] [.int (0 : Int32)] M _
      refine zs_if_eqT (pc := 100) t38_100 li0 (by decide) ?_
      refine zs_iconst (pc := 121) t38_121 (v := 0) (by decide) ?_
      exact zs_iret (pc := 122) t38_122 mr38 (by decide) (hQ _ (by decide) (by decide))
    · refine zs_icmp_ltF (pc := 2) t39_2 rfl rfl (by omega) ?_
      refine zs_iload_n (pc := 5) t39_5 rfl ?_
      refine zs_iload_n (pc := 6) t39_6 rfl ?_
      by_cases w37 : (zI M 3 w33n).toInt < c.toInt
      · refine zs_icmp_gtT (pc := 7) t39_7 rfl rfl (by omega) ?_
        refine zs_iconst (pc := 14) t39_14 (v := 0) (by decide) ?_
        refine zs_iret (pc := 15) t39_15 mr39 (by decide) ?_
        show zGo X l 1 0 0 44 24 [(0, .int w32v), (1, .int c)] [.int (0 : Int32)] M _
        refine zs_if_eqT (pc := 24) t44_24 li0 (by decide) ?_
        refine zs_iconst (pc := 31) t44_31 (v := 0) (by decide) ?_
        refine zs_iret (pc := 32) t44_32 mr44 (by decide) ?_
        show zGo X l 2 0 0 38 100 [(0, .ref 157), (1, .int a), (2, .int b), (3, .int c), (4, .ref 19)] [.int (0 : Int32)] M _
        refine zs_if_eqT (pc := 100) t38_100 li0 (by decide) ?_
        refine zs_iconst (pc := 121) t38_121 (v := 0) (by decide) ?_
        exact zs_iret (pc := 122) t38_122 mr38 (by decide) (hQ _ (by decide) (by decide))
      · refine zs_icmp_gtF (pc := 7) t39_7 rfl rfl (by omega) ?_
        refine zs_iconst (pc := 10) t39_10 (v := 1) (by decide) ?_
        refine zs_goto (pc := 11) t39_11 ?_
        refine zs_iret (pc := 15) t39_15 mr39 (by decide) ?_
        show zGo X l 1 0 0 44 24 [(0, .int w32v), (1, .int c)] [.int (1 : Int32)] M _
        refine zs_if_eqF (pc := 24) t44_24 li1 (by decide) ?_
        refine zs_iconst (pc := 27) t44_27 (v := 1) (by decide) ?_
        refine zs_goto (pc := 28) t44_28 ?_
        refine zs_iret (pc := 32) t44_32 mr44 (by decide) ?_
        show zGo X l 2 0 0 38 100 [(0, .ref 157), (1, .int a), (2, .int b), (3, .int c), (4, .ref 19)] [.int (1 : Int32)] M _
        refine zs_if_eqF (pc := 100) t38_100 li1 (by decide) ?_
        refine zs_iload_n (pc := 103) t38_103 rfl ?_
        by_cases w38 : b.toInt = 0
        · refine zs_if_eqT (pc := 104) t38_104 rfl (by omega) ?_
          refine zs_iconst (pc := 117) t38_117 (v := 1) (by decide) ?_
          refine zs_goto (pc := 118) t38_118 ?_
          exact zs_iret (pc := 122) t38_122 mr38 (by decide) (hQ _ (by decide) (by decide))
        · refine zs_if_eqF (pc := 104) t38_104 rfl (by omega) ?_
          refine zs_iload_n (pc := 107) t38_107 rfl ?_
          refine zs_aload_n (pc := 108) t38_108 rfl ?_
          refine zs_get (pc := 109) t38_109 (by decide) (zk1 (hs.k fk_zMc_157)) (hs.p rfl fv_zMc_157_0) ?_
          refine zs_iconst (pc := 112) t38_112 (v := 0) (by decide) ?_
          have w39 := ib158 hI 0
          refine zs_iald (pc := 113) t38_113 (j := 0) (by decide) (zk1 (hs.k fk_zMc_158)) li0 (zk2 (hs.k fk_zMc_158) (by decide)) rfl ?_
          by_cases w40 : c.toInt < (zI M 158 0).toInt
          · refine zs_icmp_ltT (pc := 114) t38_114 rfl rfl (by omega) ?_
            refine zs_iconst (pc := 121) t38_121 (v := 0) (by decide) ?_
            exact zs_iret (pc := 122) t38_122 mr38 (by decide) (hQ _ (by decide) (by decide))
          · refine zs_icmp_ltF (pc := 114) t38_114 rfl rfl (by omega) ?_
            refine zs_iconst (pc := 117) t38_117 (v := 1) (by decide) ?_
            refine zs_goto (pc := 118) t38_118 ?_
            exact zs_iret (pc := 122) t38_122 mr38 (by decide) (hQ _ (by decide) (by decide))
  refine zs_lsw (pc := 1) t38_1 (off := 122) rfl (by unfold zlsel; repeat (first | rfl | (rw [if_neg (by omega)]; unfold zlsel))) (pc2 := 123) rfl ?_
  refine zs_iload_n (pc := 123) t38_123 rfl ?_
  refine zs_invS (pc := 124) (as := [.int a]) (st := []) t38_124 (by decide) mf45 rfl rfl ⟨by decide, by decide, Nat.le_of_ble_eq_true rfl, Nat.le_of_ble_eq_true rfl⟩ (C45 hs hI ?_) (fun _ _ q => q)
  intro w41v w41a w41b
  show zGo X l 2 0 0 38 127 [(0, .ref 157), (1, .int a), (2, .int b), (3, .int c), (4, .ref 19)] [.int w41v] M _
  refine zs_iload_n (pc := 127) t38_127 rfl ?_
  obtain ⟨w42v, w42e, w42⟩ := ziadd (a := w41v) (b := b) rfl rfl (by omega) (by omega)
  refine zs_iadd (pc := 128) t38_128 (c := w42v) w42e ?_
  refine zs_iload_n (pc := 129) t38_129 rfl ?_
  refine zs_invS (pc := 130) (as := [.int w42v, .int c]) (st := []) t38_130 (by decide) mf44 rfl rfl ⟨by decide, by decide, Nat.le_of_ble_eq_true rfl, Nat.le_of_ble_eq_true rfl⟩ (zs_in (by decide) mf44 (Nat.le_of_ble_eq_true rfl) ?_) (fun _ _ q => q)
  show zGo X l 1 0 0 44 0 [(0, .int w42v), (1, .int c)] [] M _
  refine zs_iload_n (pc := 0) t44_0 rfl ?_
  refine zs_if_ltF (pc := 1) t44_1 w42 (by omega) ?_
  refine zs_iload_n (pc := 4) t44_4 rfl ?_
  refine zs_bipush (pc := 5) t44_5 (v := 9) (by decide) ?_
  by_cases w43 : 9 ≤ (w41v.toInt + b.toInt)
  · refine zs_icmp_geT (pc := 7) t44_7 w42 li9 (by omega) ?_
    refine zs_iconst (pc := 31) t44_31 (v := 0) (by decide) ?_
    refine zs_iret (pc := 32) t44_32 mr44 (by decide) ?_
    show zGo X l 2 0 0 38 133 [(0, .ref 157), (1, .int a), (2, .int b), (3, .int c), (4, .ref 19)] [.int (0 : Int32)] M _
    exact zs_iret (pc := 133) t38_133 mr38 (by decide) (hQ _ (by decide) (by decide))
  · refine zs_icmp_geF (pc := 7) t44_7 w42 li9 (by omega) ?_
    refine zs_iload_n (pc := 10) t44_10 rfl ?_
    refine zs_getstatic (pc := 11) t44_11 (v := .ref 2) rfl ?_
    refine zs_iload_n (pc := 14) t44_14 rfl ?_
    obtain ⟨w44n, w44⟩ : ∃ n : Nat, w42v.toInt = (n : Int) := ⟨w42v.toInt.toNat, by omega⟩
    have w45 := ib2 hI w44n
    refine zs_iald (pc := 15) t44_15 (j := w44n) (by decide) (zk1 (hs.k fk_zMc_2)) w44 (zk2 (hs.k fk_zMc_2) (by omega)) rfl ?_
    refine zs_getstatic (pc := 16) t44_16 (v := .ref 3) rfl ?_
    refine zs_iload_n (pc := 19) t44_19 rfl ?_
    have w46 := ib3 hI w44n
    refine zs_iald (pc := 20) t44_20 (j := w44n) (by decide) (zk1 (hs.k fk_zMc_3)) w44 (zk2 (hs.k fk_zMc_3) (by omega)) rfl ?_
    refine zs_invS (pc := 21) (as := [.int c, .int (zI M 2 w44n), .int (zI M 3 w44n)]) (st := []) t44_21 (by decide) mf39 rfl rfl ⟨by decide, by decide, Nat.le_of_ble_eq_true rfl, Nat.le_of_ble_eq_true rfl⟩ (zs_in (by decide) mf39 (Nat.le_of_ble_eq_true rfl) ?_) (fun _ _ q => q)
    show zGo X l 0 0 0 39 0 [(0, .int c), (1, .int (zI M 2 w44n)), (2, .int (zI M 3 w44n))] [] M _
    refine zs_iload_n (pc := 0) t39_0 rfl ?_
    refine zs_iload_n (pc := 1) t39_1 rfl ?_
    by_cases w47 : c.toInt < (zI M 2 w44n).toInt
    · refine zs_icmp_ltT (pc := 2) t39_2 rfl rfl (by omega) ?_
      refine zs_iconst (pc := 14) t39_14 (v := 0) (by decide) ?_
      refine zs_iret (pc := 15) t39_15 mr39 (by decide) ?_
      show zGo X l 1 0 0 44 24 [(0, .int w42v), (1, .int c)] [.int (0 : Int32)] M _
      refine zs_if_eqT (pc := 24) t44_24 li0 (by decide) ?_
      refine zs_iconst (pc := 31) t44_31 (v := 0) (by decide) ?_
      refine zs_iret (pc := 32) t44_32 mr44 (by decide) ?_
      show zGo X l 2 0 0 38 133 [(0, .ref 157), (1, .int a), (2, .int b), (3, .int c), (4, .ref 19)] [.int (0 : Int32)] M _
      exact zs_iret (pc := 133) t38_133 mr38 (by decide) (hQ _ (by decide) (by decide))
    · refine zs_icmp_ltF (pc := 2) t39_2 rfl rfl (by omega) ?_
      refine zs_iload_n (pc := 5) t39_5 rfl ?_
      refine zs_iload_n (pc := 6) t39_6 rfl ?_
      by_cases w48 : (zI M 3 w44n).toInt < c.toInt
      · refine zs_icmp_gtT (pc := 7) t39_7 rfl rfl (by omega) ?_
        refine zs_iconst (pc := 14) t39_14 (v := 0) (by decide) ?_
        refine zs_iret (pc := 15) t39_15 mr39 (by decide) ?_
        show zGo X l 1 0 0 44 24 [(0, .int w42v), (1, .int c)] [.int (0 : Int32)] M _
        refine zs_if_eqT (pc := 24) t44_24 li0 (by decide) ?_
        refine zs_iconst (pc := 31) t44_31 (v := 0) (by decide) ?_
        refine zs_iret (pc := 32) t44_32 mr44 (by decide) ?_
        show zGo X l 2 0 0 38 133 [(0, .ref 157), (1, .int a), (2, .int b), (3, .int c), (4, .ref 19)] [.int (0 : Int32)] M _
        exact zs_iret (pc := 133) t38_133 mr38 (by decide) (hQ _ (by decide) (by decide))
      · refine zs_icmp_gtF (pc := 7) t39_7 rfl rfl (by omega) ?_
        refine zs_iconst (pc := 10) t39_10 (v := 1) (by decide) ?_
        refine zs_goto (pc := 11) t39_11 ?_
        refine zs_iret (pc := 15) t39_15 mr39 (by decide) ?_
        show zGo X l 1 0 0 44 24 [(0, .int w42v), (1, .int c)] [.int (1 : Int32)] M _
        refine zs_if_eqF (pc := 24) t44_24 li1 (by decide) ?_
        refine zs_iconst (pc := 27) t44_27 (v := 1) (by decide) ?_
        refine zs_goto (pc := 28) t44_28 ?_
        refine zs_iret (pc := 32) t44_32 mr44 (by decide) ?_
        show zGo X l 2 0 0 38 133 [(0, .ref 157), (1, .int a), (2, .int b), (3, .int c), (4, .ref 19)] [.int (1 : Int32)] M _
        exact zs_iret (pc := 133) t38_133 mr38 (by decide) (hQ _ (by decide) (by decide))
theorem C48_157_19 {X : zX} {l : Launch} {M : zM} {Q : Option Value → zM → Prop} {a : Int32} (hs : zSk zMc M) (hI : zIv cLo cHi M) (hQ : ∀ (M' : zM) (v : Int32), zSk zMc M' → zIv cLo cHi M' → zFr [(19, 30, none)] M M' → 0 ≤ v.toInt → v.toInt ≤ 1 → Q (some (.int v)) M') : zCall X l 4 0 0 48 [.ref 157, .int a, .ref 19] M Q := by
  have ga := zrg a
  refine zs_in (by decide) mf48 (Nat.le_of_ble_eq_true rfl) ?_
  show zGo X l 4 0 0 48 0 [(0, .ref 157), (1, .int a), (2, .ref 19)] [] M _
  refine zs_iload_n (pc := 0) t48_0 rfl ?_
  by_cases w1 : a.toInt = 104
  · refine zs_lsw (pc := 1) t48_1 (off := 46) ((rfl : a.toInt = a.toInt).trans w1) rfl (pc2 := 47) rfl ?_
    refine zs_aload_n (pc := 47) t48_47 rfl ?_
    refine zs_aload_n (pc := 48) t48_48 rfl ?_
    refine zs_get (pc := 49) t48_49 (by decide) (zk1 (hs.k fk_zMc_157)) (hs.p rfl fv_zMc_157_0) ?_
    refine zs_iconst (pc := 52) t48_52 (v := 0) (by decide) ?_
    have w2 := ib158 hI 0
    refine zs_iald (pc := 53) t48_53 (j := 0) (by decide) (zk1 (hs.k fk_zMc_158)) li0 (zk2 (hs.k fk_zMc_158) (by decide)) rfl ?_
    refine zs_aload_n (pc := 54) t48_54 rfl ?_
    refine zs_get (pc := 55) t48_55 (by decide) (zk1 (hs.k fk_zMc_157)) (hs.p rfl fv_zMc_157_0) ?_
    refine zs_iconst (pc := 58) t48_58 (v := 1) (by decide) ?_
    have w3 := ib158 hI 1
    refine zs_iald (pc := 59) t48_59 (j := 1) (by decide) (zk1 (hs.k fk_zMc_158)) li1 (zk2 (hs.k fk_zMc_158) (by decide)) rfl ?_
    refine zs_aload_n (pc := 60) t48_60 rfl ?_
    refine zs_get (pc := 61) t48_61 (by decide) (zk1 (hs.k fk_zMc_157)) (hs.p rfl fv_zMc_157_0) ?_
    refine zs_iconst (pc := 64) t48_64 (v := 2) (by decide) ?_
    have w4 := ib158 hI 2
    refine zs_iald (pc := 65) t48_65 (j := 2) (by decide) (zk1 (hs.k fk_zMc_158)) li2 (zk2 (hs.k fk_zMc_158) (by decide)) rfl ?_
    refine zs_bipush (pc := 66) t48_66 (v := -2) (by decide) ?_
    refine zs_invV (pc := 68) (k := 19) (as' := [.int (zI M 158 0), .int (zI M 158 1), .int (zI M 158 2), .int (-2 : Int32)]) (st := []) t48_68 mf50 rfl rfl (Or.inl ⟨by decide, (zk1 (hs.k fk_zMc_19))⟩) ⟨by decide, by decide, Nat.le_of_ble_eq_true rfl, Nat.le_of_ble_eq_true rfl⟩ (C50_19 hs hI ?_) (fun _ _ q => q)
    intro w5M w5v w5s w5I w5F w5a w5b
    show zGo X l 4 0 0 48 71 [(0, .ref 157), (1, .int a), (2, .ref 19)] [.int w5v] w5M _
    refine zs_iconst (pc := 71) t48_71 (v := -1) (by decide) ?_
    by_cases w6 : w5v.toInt = (-1)
    · refine zs_icmp_eqT (pc := 72) t48_72 rfl lin1 (by omega) ?_
      refine zs_iconst (pc := 79) t48_79 (v := 0) (by decide) ?_
      exact zs_iret (pc := 80) t48_80 mr48 (by decide) (hQ _ _ w5s w5I ((zFr.refl).trans (w5F.mono rfl)) (by decide) (by decide))
    · refine zs_icmp_eqF (pc := 72) t48_72 rfl lin1 (by omega) ?_
      refine zs_iconst (pc := 75) t48_75 (v := 1) (by decide) ?_
      refine zs_goto (pc := 76) t48_76 ?_
      exact zs_iret (pc := 80) t48_80 mr48 (by decide) (hQ _ _ w5s w5I ((zFr.refl).trans (w5F.mono rfl)) (by decide) (by decide))
  by_cases w7 : a.toInt = 112
  · refine zs_lsw (pc := 1) t48_1 (off := 80) ((rfl : a.toInt = a.toInt).trans w7) rfl (pc2 := 81) rfl ?_
    refine zs_aload_n (pc := 81) t48_81 rfl ?_
    refine zs_aload_n (pc := 82) t48_82 rfl ?_
    refine zs_get (pc := 83) t48_83 (by decide) (zk1 (hs.k fk_zMc_157)) (hs.p rfl fv_zMc_157_0) ?_
    refine zs_iconst (pc := 86) t48_86 (v := 0) (by decide) ?_
    have w8 := ib158 hI 0
    refine zs_iald (pc := 87) t48_87 (j := 0) (by decide) (zk1 (hs.k fk_zMc_158)) li0 (zk2 (hs.k fk_zMc_158) (by decide)) rfl ?_
    refine zs_aload_n (pc := 88) t48_88 rfl ?_
    refine zs_get (pc := 89) t48_89 (by decide) (zk1 (hs.k fk_zMc_157)) (hs.p rfl fv_zMc_157_0) ?_
    refine zs_iconst (pc := 92) t48_92 (v := 1) (by decide) ?_
    have w9 := ib158 hI 1
    refine zs_iald (pc := 93) t48_93 (j := 1) (by decide) (zk1 (hs.k fk_zMc_158)) li1 (zk2 (hs.k fk_zMc_158) (by decide)) rfl ?_
    refine zs_aload_n (pc := 94) t48_94 rfl ?_
    refine zs_get (pc := 95) t48_95 (by decide) (zk1 (hs.k fk_zMc_157)) (hs.p rfl fv_zMc_157_0) ?_
    refine zs_iconst (pc := 98) t48_98 (v := 2) (by decide) ?_
    have w10 := ib158 hI 2
    refine zs_iald (pc := 99) t48_99 (j := 2) (by decide) (zk1 (hs.k fk_zMc_158)) li2 (zk2 (hs.k fk_zMc_158) (by decide)) rfl ?_
    refine zs_invV (pc := 100) (k := 19) (as' := [.int (zI M 158 0), .int (zI M 158 1), .int (zI M 158 2)]) (st := []) t48_100 mf52 rfl rfl (Or.inl ⟨by decide, (zk1 (hs.k fk_zMc_19))⟩) ⟨by decide, by decide, Nat.le_of_ble_eq_true rfl, Nat.le_of_ble_eq_true rfl⟩ (C52_19 hs hI ?_) (fun _ _ q => q)
    intro w11M w11v w11s w11I w11F w11a w11b
    show zGo X l 4 0 0 48 103 [(0, .ref 157), (1, .int a), (2, .ref 19)] [.int w11v] w11M _
    exact zs_iret (pc := 103) t48_103 mr48 (zfb01 (by omega)) (hQ _ _ w11s w11I ((zFr.refl).trans (w11F.mono rfl)) (by omega) (by omega))
  by_cases w12 : a.toInt = 114
  · refine zs_lsw (pc := 1) t48_1 (off := 35) ((rfl : a.toInt = a.toInt).trans w12) rfl (pc2 := 36) rfl ?_
    refine zs_aload_n (pc := 36) t48_36 rfl ?_
    refine zs_aload_n (pc := 37) t48_37 rfl ?_
    refine zs_get (pc := 38) t48_38 (by decide) (zk1 (hs.k fk_zMc_157)) (hs.p rfl fv_zMc_157_0) ?_
    refine zs_iconst (pc := 41) t48_41 (v := 0) (by decide) ?_
    have w13 := ib158 hI 0
    refine zs_iald (pc := 42) t48_42 (j := 0) (by decide) (zk1 (hs.k fk_zMc_158)) li0 (zk2 (hs.k fk_zMc_158) (by decide)) rfl ?_
    refine zs_invV (pc := 43) (k := 19) (as' := [.int (zI M 158 0)]) (st := []) t48_43 mf49 rfl rfl (Or.inl ⟨by decide, (zk1 (hs.k fk_zMc_19))⟩) ⟨by decide, by decide, Nat.le_of_ble_eq_true rfl, Nat.le_of_ble_eq_true rfl⟩ (C49_19 hs hI ?_) (fun _ _ q => q)
    intro w14M w14v w14s w14I w14F w14a w14b
    show zGo X l 4 0 0 48 46 [(0, .ref 157), (1, .int a), (2, .ref 19)] [.int w14v] w14M _
    exact zs_iret (pc := 46) t48_46 mr48 (zfb01 (by omega)) (hQ _ _ w14s w14I ((zFr.refl).trans (w14F.mono rfl)) (by omega) (by omega))
  refine zs_lsw (pc := 1) t48_1 (off := 103) rfl (by unfold zlsel; repeat (first | rfl | (rw [if_neg (by omega)]; unfold zlsel))) (pc2 := 104) rfl ?_
  refine zs_iconst (pc := 104) t48_104 (v := 0) (by decide) ?_
  refine zs_istore_n (pc := 105) t48_105 (ls' := [(3, .int (0 : Int32)), (0, .ref 157), (1, .int a), (2, .ref 19)]) (zml mf48 (by decide)) rfl ?_
  have w15L : ∀ (m : Nat) (w15x3 : Int32) (w15M : zM), (0 ≤ w15x3.toInt ∧ w15x3.toInt ≤ 4) → zSk zMc w15M → zIv cLo cHi w15M → zFr [(19, 30, none)] M w15M → 4 - w15x3.toInt ≤ (m : Int) → zGo X l 4 0 0 48 106 [(0, .ref 157), (1, .int a), (2, .ref 19), (3, .int w15x3)] [] w15M Q := by
    intro m
    induction m using Nat.strongRecOn with
    | ind w15m w15ih =>
      intro w15x3 w15M w15b3 w15s w15I w15F w15q
      refine zs_iload_n (pc := 106) t48_106 rfl ?_
      refine zs_iload_n (pc := 107) t48_107 rfl ?_
      refine zs_invS (pc := 108) (as := [.int a]) (st := [.int w15x3]) t48_108 (by decide) mf32 rfl rfl ⟨by decide, by decide, Nat.le_of_ble_eq_true rfl, Nat.le_of_ble_eq_true rfl⟩ (C32 w15s w15I ?_) (fun _ _ q => q)
      intro w16v w16a w16b
      show zGo X l 4 0 0 48 111 [(0, .ref 157), (1, .int a), (2, .ref 19), (3, .int w15x3)] [.int w16v, .int w15x3] w15M _
      by_cases w17 : w16v.toInt ≤ w15x3.toInt
      · refine zs_icmp_geT (pc := 111) t48_111 rfl rfl (by omega) ?_
        refine zs_iconst (pc := 136) t48_136 (v := 1) (by decide) ?_
        exact zs_iret (pc := 137) t48_137 mr48 (by decide) (hQ _ _ w15s w15I ((zFr.refl).trans (w15F.mono rfl)) (by decide) (by decide))
      · refine zs_icmp_geF (pc := 111) t48_111 rfl rfl (by omega) ?_
        refine zs_aload_n (pc := 114) t48_114 rfl ?_
        refine zs_iload_n (pc := 115) t48_115 rfl ?_
        refine zs_invS (pc := 116) (as := [.int a]) (st := [.ref 19]) t48_116 (by decide) mf45 rfl rfl ⟨by decide, by decide, Nat.le_of_ble_eq_true rfl, Nat.le_of_ble_eq_true rfl⟩ (C45 w15s w15I ?_) (fun _ _ q => q)
        intro w18v w18a w18b
        show zGo X l 4 0 0 48 119 [(0, .ref 157), (1, .int a), (2, .ref 19), (3, .int w15x3)] [.int w18v, .ref 19] w15M _
        refine zs_iload_n (pc := 119) t48_119 rfl ?_
        obtain ⟨w19v, w19e, w19⟩ := ziadd (a := w18v) (b := w15x3) rfl rfl (by omega) (by omega)
        refine zs_iadd (pc := 120) t48_120 (c := w19v) w19e ?_
        refine zs_aload_n (pc := 121) t48_121 rfl ?_
        refine zs_get (pc := 122) t48_122 (by decide) (zk1 (w15s.k fk_zMc_157)) (w15s.p rfl fv_zMc_157_0) ?_
        refine zs_iload_n (pc := 125) t48_125 rfl ?_
        obtain ⟨w20n, w20⟩ : ∃ n : Nat, w15x3.toInt = (n : Int) := ⟨w15x3.toInt.toNat, by omega⟩
        have w21 := ib158 hI w20n
        refine zs_iald (pc := 126) t48_126 (j := w20n) (by decide) (zk1 (w15s.k fk_zMc_158)) w20 (zk2 (w15s.k fk_zMc_158) (by omega)) ((w15F 158 w20n rfl).trans rfl) ?_
        refine zs_invV (pc := 127) (k := 19) (as' := [.int w19v, .int (zI M 158 w20n)]) (st := []) t48_127 mf56 rfl rfl (Or.inl ⟨by decide, (zk1 (w15s.k fk_zMc_19))⟩) ⟨by decide, by decide, Nat.le_of_ble_eq_true rfl, Nat.le_of_ble_eq_true rfl⟩ (zs_in (by decide) mf56 (Nat.le_of_ble_eq_true rfl) ?_) (fun _ _ q => q)
        show zGo X l 0 0 0 56 0 [(0, .ref 19), (1, .int w19v), (2, .int (zI M 158 w20n))] [] w15M _
        refine zs_iload_n (pc := 0) t56_0 rfl ?_
        refine zs_if_ltF (pc := 1) t56_1 w19 (by omega) ?_
        refine zs_iload_n (pc := 4) t56_4 rfl ?_
        refine zs_bipush (pc := 5) t56_5 (v := 9) (by decide) ?_
        by_cases w22 : 9 ≤ (w18v.toInt + w15x3.toInt)
        · refine zs_icmp_geT (pc := 7) t56_7 w19 li9 (by omega) ?_
          refine zs_vret (pc := 17) t56_17 mr56 ?_
          show zGo X l 4 0 0 48 130 [(0, .ref 157), (1, .int a), (2, .ref 19), (3, .int w15x3)] [] w15M _
          obtain ⟨w23v, w23e, w23⟩ := ziadd (a := w15x3) (b := Int32.ofInt 1) rfl (show (Int32.ofInt 1).toInt = 1 by decide) (by omega) (by omega)
          refine zs_iinc (pc := 130) t48_130 (ls' := [(3, .int w23v), (0, .ref 157), (1, .int a), (2, .ref 19)]) (zml mf48 (by decide)) rfl (c := w23v) w23e rfl ?_
          refine zs_goto (pc := 133) t48_133 ?_
          refine zGo.locals (ls' := [(0, .ref 157), (1, .int a), (2, .ref 19), (3, .int w23v)]) (by simp) ?_
          exact w15ih (w15m - 1) (by omega) w23v w15M ⟨by omega, by omega⟩ w15s w15I ((zFr.refl).trans (w15F.mono rfl)) (by omega)
        · refine zs_icmp_geF (pc := 7) t56_7 w19 li9 (by omega) ?_
          refine zs_aload_n (pc := 10) t56_10 rfl ?_
          refine zs_get (pc := 11) t56_11 (by decide) (zk1 (w15s.k fk_zMc_19)) (w15s.p rfl fv_zMc_19_12) ?_
          refine zs_iload_n (pc := 14) t56_14 rfl ?_
          refine zs_iload_n (pc := 15) t56_15 rfl ?_
          obtain ⟨w24n, w24⟩ : ∃ n : Nat, w19v.toInt = (n : Int) := ⟨w19v.toInt.toNat, by omega⟩
          have w25 : zIv cLo cHi (zsI w15M 29 w24n (zI M 158 w20n)) := zIv.put w15I (show (-300000) ≤ (zI M 158 w20n).toInt ∧ (zI M 158 w20n).toInt ≤ 300000 from ⟨by omega, by omega⟩)
          refine zs_iast (pc := 16) t56_16 (j := w24n) (by decide) (zk1 (w15s.k fk_zMc_29)) w24 (zk2 (w15s.k fk_zMc_29) (by omega)) ?_
          refine zs_vret (pc := 17) t56_17 mr56 ?_
          show zGo X l 4 0 0 48 130 [(0, .ref 157), (1, .int a), (2, .ref 19), (3, .int w15x3)] [] (zsI w15M 29 w24n (zI M 158 w20n)) _
          obtain ⟨w26v, w26e, w26⟩ := ziadd (a := w15x3) (b := Int32.ofInt 1) rfl (show (Int32.ofInt 1).toInt = 1 by decide) (by omega) (by omega)
          refine zs_iinc (pc := 130) t48_130 (ls' := [(3, .int w26v), (0, .ref 157), (1, .int a), (2, .ref 19)]) (zml mf48 (by decide)) rfl (c := w26v) w26e rfl ?_
          refine zs_goto (pc := 133) t48_133 ?_
          refine zGo.locals (ls' := [(0, .ref 157), (1, .int a), (2, .ref 19), (3, .int w26v)]) (by simp) ?_
          exact w15ih (w15m - 1) (by omega) w26v (zsI w15M 29 w24n (zI M 158 w20n)) ⟨by omega, by omega⟩ w15s w25 (((zFr.refl).trans (w15F.mono rfl)).put rfl) (by omega)
  refine zGo.locals (ls' := [(0, .ref 157), (1, .int a), (2, .ref 19), (3, .int (0 : Int32))]) (by simp) ?_
  have w27 := li0
  exact w15L ((4 - 0 : Int).toNat) (0 : Int32) M ⟨by decide, by decide⟩ hs hI zFr.refl (by omega)
theorem C28_157_155_19 {X : zX} {l : Launch} {M : zM} {Q : Option Value → zM → Prop} (hs : zSk zMc M) (hI : zIv cLo cHi M) (hQ : ∀ (M' : zM) (v : Int32), zSk zMc M' → zIv cLo cHi M' → zFr [(157, 160, none), (155, 155, none), (19, 30, none)] M M' → 0 ≤ v.toInt → v.toInt ≤ 1 → Q (some (.int v)) M') : zCall X l 5 0 0 28 [.ref 157, .ref 155, .ref 19] M Q := by
  refine zs_in (by decide) mf28 (Nat.le_of_ble_eq_true rfl) ?_
  show zGo X l 5 0 0 28 0 [(0, .ref 157), (1, .ref 155), (2, .ref 19)] [] M _
  refine zs_aload_n (pc := 0) t28_0 rfl ?_
  refine zs_invV (pc := 1) (k := 155) (as' := []) (st := []) t28_1 mf29 rfl rfl (Or.inl ⟨by decide, (zk1 (hs.k fk_zMc_155))⟩) ⟨by decide, by decide, Nat.le_of_ble_eq_true rfl, Nat.le_of_ble_eq_true rfl⟩ (zs_in (by decide) mf29 (Nat.le_of_ble_eq_true rfl) ?_) (fun _ _ q => q)
  show zGo X l 0 0 0 29 0 [(0, .ref 155)] [] M _
  refine zs_aload_n (pc := 0) t29_0 rfl ?_
  have w1 := ib155_2 hI
  refine zs_get (pc := 1) t29_1 (by decide) (zk1 (hs.k fk_zMc_155)) (zfvi rfl rfl) ?_
  refine zs_iret (pc := 4) t29_4 mr29 rfl ?_
  show zGo X l 5 0 0 28 4 [(0, .ref 157), (1, .ref 155), (2, .ref 19)] [.int (zI M 155 2)] M _
  refine zs_istore_n (pc := 4) t28_4 (ls' := [(3, .int (zI M 155 2)), (0, .ref 157), (1, .ref 155), (2, .ref 19)]) (zml mf28 (by decide)) rfl ?_
  refine zs_aload_n (pc := 5) t28_5 rfl ?_
  refine zs_invV (pc := 6) (k := 155) (as' := []) (st := []) t28_6 mf30 rfl rfl (Or.inl ⟨by decide, (zk1 (hs.k fk_zMc_155))⟩) ⟨by decide, by decide, Nat.le_of_ble_eq_true rfl, Nat.le_of_ble_eq_true rfl⟩ (C30_155 hs hI ?_) (fun _ _ q => q)
  intro w2M w2v w2s w2I w2F w2a w2b
  show zGo X l 5 0 0 28 9 [(3, .int (zI M 155 2)), (0, .ref 157), (1, .ref 155), (2, .ref 19)] [.int w2v] w2M _
  refine zs_istore (pc := 9) t28_9 (ls' := [(4, .int w2v), (3, .int (zI M 155 2)), (0, .ref 157), (1, .ref 155), (2, .ref 19)]) (zml mf28 (by decide)) rfl ?_
  refine zs_iload (pc := 11) t28_11 rfl ?_
  refine zs_invS (pc := 13) (as := [.int w2v]) (st := []) t28_13 (by decide) mf32 rfl rfl ⟨by decide, by decide, Nat.le_of_ble_eq_true rfl, Nat.le_of_ble_eq_true rfl⟩ (C32 w2s w2I ?_) (fun _ _ q => q)
  intro w3v w3a w3b
  show zGo X l 5 0 0 28 16 [(4, .int w2v), (3, .int (zI M 155 2)), (0, .ref 157), (1, .ref 155), (2, .ref 19)] [.int w3v] w2M _
  refine zs_istore (pc := 16) t28_16 (ls' := [(5, .int w3v), (4, .int w2v), (3, .int (zI M 155 2)), (0, .ref 157), (1, .ref 155), (2, .ref 19)]) (zml mf28 (by decide)) rfl ?_
  refine zs_iload (pc := 18) t28_18 rfl ?_
  by_cases w4 : w3v.toInt = 0
  · refine zs_if_eqT (pc := 20) t28_20 rfl (by omega) ?_
    refine zs_aload_n (pc := 32) t28_32 rfl ?_
    refine zs_iload_n (pc := 33) t28_33 rfl ?_
    refine zs_invV (pc := 34) (k := 155) (as' := [.int (zI M 155 2)]) (st := []) t28_34 mf34 rfl rfl (Or.inl ⟨by decide, (zk1 (w2s.k fk_zMc_155))⟩) ⟨by decide, by decide, Nat.le_of_ble_eq_true rfl, Nat.le_of_ble_eq_true rfl⟩ (zs_in (by decide) mf34 (Nat.le_of_ble_eq_true rfl) ?_) (fun _ _ q => q)
    show zGo X l 0 0 0 34 0 [(0, .ref 155), (1, .int (zI M 155 2))] [] w2M _
    refine zs_aload_n (pc := 0) t34_0 rfl ?_
    refine zs_iload_n (pc := 1) t34_1 rfl ?_
    have w5 : zIv cLo cHi (zsI w2M 155 3 (zI M 155 2)) := zIv.put w2I (show (-2147483648) ≤ (zI M 155 2).toInt ∧ (zI M 155 2).toInt ≤ 2147483647 from (zrg (zI M 155 2)))
    refine zs_putI (pc := 2) t34_2 (zk1 (w2s.k fk_zMc_155)) rfl ?_
    refine zs_iconst (pc := 5) t34_5 (v := 0) (by decide) ?_
    refine zs_iret (pc := 6) t34_6 mr34 (by decide) ?_
    show zGo X l 5 0 0 28 37 [(5, .int w3v), (4, .int w2v), (3, .int (zI M 155 2)), (0, .ref 157), (1, .ref 155), (2, .ref 19)] [.int (0 : Int32)] (zsI w2M 155 3 (zI M 155 2)) _
    exact zs_iret (pc := 37) t28_37 mr28 (by decide) (hQ _ _ w2s w5 (((zFr.refl).trans (w2F.mono rfl)).put rfl) (by decide) (by decide))
  · refine zs_if_eqF (pc := 20) t28_20 rfl (by omega) ?_
    refine zs_iload (pc := 23) t28_23 rfl ?_
    refine zs_aload_n (pc := 25) t28_25 rfl ?_
    refine zs_invS (pc := 26) (as := [.int w2v, .ref 19]) (st := []) t28_26 (by decide) mf33 rfl rfl ⟨by decide, by decide, Nat.le_of_ble_eq_true rfl, Nat.le_of_ble_eq_true rfl⟩ (C33_19 w2s w2I ?_) (fun _ _ q => q)
    intro w6v w6a w6b
    show zGo X l 5 0 0 28 29 [(5, .int w3v), (4, .int w2v), (3, .int (zI M 155 2)), (0, .ref 157), (1, .ref 155), (2, .ref 19)] [.int w6v] w2M _
    by_cases w7 : w6v.toInt = 0
    · refine zs_if_eqT (pc := 29) t28_29 rfl (by omega) ?_
      refine zs_iconst (pc := 38) t28_38 (v := 0) (by decide) ?_
      refine zs_istore (pc := 39) t28_39 (ls' := [(6, .int (0 : Int32)), (5, .int w3v), (4, .int w2v), (3, .int (zI M 155 2)), (0, .ref 157), (1, .ref 155), (2, .ref 19)]) (zml mf28 (by decide)) rfl ?_
      have w8L : ∀ (m : Nat) (w8x6 : Int32) (w8M : zM), (0 ≤ w8x6.toInt ∧ w8x6.toInt ≤ 4) → zSk zMc w8M → zIv cLo cHi w8M → zFr [(157, 160, none), (155, 155, none), (19, 30, none)] w2M w8M → 4 - w8x6.toInt ≤ (m : Int) → zGo X l 5 0 0 28 41 [(0, .ref 157), (1, .ref 155), (2, .ref 19), (3, .int (zI M 155 2)), (4, .int w2v), (5, .int w3v), (6, .int w8x6)] [] w8M Q := by
        intro m
        induction m using Nat.strongRecOn with
        | ind w8m w8ih =>
          intro w8x6 w8M w8b6 w8s w8I w8F w8q
          refine zs_iload (pc := 41) t28_41 rfl ?_
          refine zs_iload (pc := 43) t28_43 rfl ?_
          by_cases w9 : w3v.toInt ≤ w8x6.toInt
          · refine zs_icmp_geT (pc := 45) t28_45 rfl rfl (by omega) ?_
            refine zs_aload_n (pc := 124) t28_124 rfl ?_
            refine zs_iload (pc := 125) t28_125 rfl ?_
            refine zs_aload_n (pc := 127) t28_127 rfl ?_
            refine zs_invV (pc := 128) (k := 157) (as' := [.int w2v, .ref 19]) (st := []) t28_128 mf48 rfl rfl (Or.inl ⟨by decide, (zk1 (w8s.k fk_zMc_157))⟩) ⟨by decide, by decide, Nat.le_of_ble_eq_true rfl, Nat.le_of_ble_eq_true rfl⟩ (C48_157_19 w8s w8I ?_) (fun _ _ q => q)
            intro w10M w10v w10s w10I w10F w10a w10b
            show zGo X l 5 0 0 28 131 [(0, .ref 157), (1, .ref 155), (2, .ref 19), (3, .int (zI M 155 2)), (4, .int w2v), (5, .int w3v), (6, .int w8x6)] [.int w10v] w10M _
            by_cases w11 : w10v.toInt ≠ 0
            · refine zs_if_neT (pc := 131) t28_131 rfl (by omega) ?_
              refine zs_iconst (pc := 142) t28_142 (v := 1) (by decide) ?_
              refine zs_goto (pc := 143) t28_143 ?_
              exact zs_iret (pc := 147) t28_147 mr28 (by decide) (hQ _ _ w10s w10I ((((zFr.refl).trans (w2F.mono rfl)).trans (w8F.mono rfl)).trans (w10F.mono rfl)) (by decide) (by decide))
            · refine zs_if_neF (pc := 131) t28_131 rfl (by omega) ?_
              refine zs_aload_n (pc := 134) t28_134 rfl ?_
              refine zs_iload_n (pc := 135) t28_135 rfl ?_
              refine zs_invV (pc := 136) (k := 155) (as' := [.int (zI M 155 2)]) (st := []) t28_136 mf34 rfl rfl (Or.inl ⟨by decide, (zk1 (w10s.k fk_zMc_155))⟩) ⟨by decide, by decide, Nat.le_of_ble_eq_true rfl, Nat.le_of_ble_eq_true rfl⟩ (zs_in (by decide) mf34 (Nat.le_of_ble_eq_true rfl) ?_) (fun _ _ q => q)
              show zGo X l 0 0 0 34 0 [(0, .ref 155), (1, .int (zI M 155 2))] [] w10M _
              refine zs_aload_n (pc := 0) t34_0 rfl ?_
              refine zs_iload_n (pc := 1) t34_1 rfl ?_
              have w12 : zIv cLo cHi (zsI w10M 155 3 (zI M 155 2)) := zIv.put w10I (show (-2147483648) ≤ (zI M 155 2).toInt ∧ (zI M 155 2).toInt ≤ 2147483647 from (zrg (zI M 155 2)))
              refine zs_putI (pc := 2) t34_2 (zk1 (w10s.k fk_zMc_155)) rfl ?_
              refine zs_iconst (pc := 5) t34_5 (v := 0) (by decide) ?_
              refine zs_iret (pc := 6) t34_6 mr34 (by decide) ?_
              show zGo X l 5 0 0 28 139 [(0, .ref 157), (1, .ref 155), (2, .ref 19), (3, .int (zI M 155 2)), (4, .int w2v), (5, .int w3v), (6, .int w8x6)] [.int (0 : Int32)] (zsI w10M 155 3 (zI M 155 2)) _
              refine zs_if_eqT (pc := 139) t28_139 li0 (by decide) ?_
              refine zs_iconst (pc := 146) t28_146 (v := 0) (by decide) ?_
              exact zs_iret (pc := 147) t28_147 mr28 (by decide) (hQ _ _ w10s w12 (((((zFr.refl).trans (w2F.mono rfl)).trans (w8F.mono rfl)).trans (w10F.mono rfl)).put rfl) (by decide) (by decide))
          · refine zs_icmp_geF (pc := 45) t28_45 rfl rfl (by omega) ?_
            refine zs_aload_n (pc := 48) t28_48 rfl ?_
            refine zs_invV (pc := 49) (k := 155) (as' := []) (st := []) t28_49 mf35 rfl rfl (Or.inl ⟨by decide, (zk1 (w8s.k fk_zMc_155))⟩) ⟨by decide, by decide, Nat.le_of_ble_eq_true rfl, Nat.le_of_ble_eq_true rfl⟩ (C35_155 w8s w8I ?_) (fun _ _ q => q)
            intro w13M w13v w13s w13I w13F w13a w13b
            show zGo X l 5 0 0 28 52 [(0, .ref 157), (1, .ref 155), (2, .ref 19), (3, .int (zI M 155 2)), (4, .int w2v), (5, .int w3v), (6, .int w8x6)] [.int w13v] w13M _
            by_cases w14 : w13v.toInt ≠ 0
            · refine zs_if_neT (pc := 52) t28_52 rfl (by omega) ?_
              refine zs_aload_n (pc := 57) t28_57 rfl ?_
              refine zs_iload (pc := 58) t28_58 rfl ?_
              refine zs_iload (pc := 60) t28_60 rfl ?_
              refine zs_aload_n (pc := 62) t28_62 rfl ?_
              refine zs_invV (pc := 63) (k := 155) (as' := []) (st := [.int w8x6, .int w2v, .ref 157]) t28_63 mf37 rfl rfl (Or.inl ⟨by decide, (zk1 (w13s.k fk_zMc_155))⟩) ⟨by decide, by decide, Nat.le_of_ble_eq_true rfl, Nat.le_of_ble_eq_true rfl⟩ (zs_in (by decide) mf37 (Nat.le_of_ble_eq_true rfl) ?_) (fun _ _ q => q)
              show zGo X l 0 0 0 37 0 [(0, .ref 155)] [] w13M _
              refine zs_aload_n (pc := 0) t37_0 rfl ?_
              have w15 := ib155_4 w13I
              refine zs_get (pc := 1) t37_1 (by decide) (zk1 (w13s.k fk_zMc_155)) (zfvi rfl rfl) ?_
              refine zs_iret (pc := 4) t37_4 mr37 rfl ?_
              show zGo X l 5 0 0 28 66 [(0, .ref 157), (1, .ref 155), (2, .ref 19), (3, .int (zI M 155 2)), (4, .int w2v), (5, .int w3v), (6, .int w8x6)] [.int (zI w13M 155 4), .int w8x6, .int w2v, .ref 157] w13M _
              refine zs_aload_n (pc := 66) t28_66 rfl ?_
              refine zs_invV (pc := 67) (k := 157) (as' := [.int w2v, .int w8x6, .int (zI w13M 155 4), .ref 19]) (st := []) t28_67 mf38 rfl rfl (Or.inl ⟨by decide, (zk1 (w13s.k fk_zMc_157))⟩) ⟨by decide, by decide, Nat.le_of_ble_eq_true rfl, Nat.le_of_ble_eq_true rfl⟩ (C38_157_19 w13s w13I ⟨by omega, by omega⟩ ?_) (fun _ _ q => q)
              intro w16v w16a w16b
              show zGo X l 5 0 0 28 70 [(0, .ref 157), (1, .ref 155), (2, .ref 19), (3, .int (zI M 155 2)), (4, .int w2v), (5, .int w3v), (6, .int w8x6)] [.int w16v] w13M _
              by_cases w17 : w16v.toInt ≠ 0
              · refine zs_if_neT (pc := 70) t28_70 rfl (by omega) ?_
                refine zs_aload_n (pc := 82) t28_82 rfl ?_
                refine zs_get (pc := 83) t28_83 (by decide) (zk1 (w13s.k fk_zMc_157)) (w13s.p rfl fv_zMc_157_0) ?_
                refine zs_iload (pc := 86) t28_86 rfl ?_
                refine zs_aload_n (pc := 88) t28_88 rfl ?_
                refine zs_invV (pc := 89) (k := 155) (as' := []) (st := [.int w8x6, .ref 158]) t28_89 mf37 rfl rfl (Or.inl ⟨by decide, (zk1 (w13s.k fk_zMc_155))⟩) ⟨by decide, by decide, Nat.le_of_ble_eq_true rfl, Nat.le_of_ble_eq_true rfl⟩ (zs_in (by decide) mf37 (Nat.le_of_ble_eq_true rfl) ?_) (fun _ _ q => q)
                show zGo X l 0 0 0 37 0 [(0, .ref 155)] [] w13M _
                refine zs_aload_n (pc := 0) t37_0 rfl ?_
                refine zs_get (pc := 1) t37_1 (by decide) (zk1 (w13s.k fk_zMc_155)) (zfvi rfl rfl) ?_
                refine zs_iret (pc := 4) t37_4 mr37 rfl ?_
                show zGo X l 5 0 0 28 92 [(0, .ref 157), (1, .ref 155), (2, .ref 19), (3, .int (zI M 155 2)), (4, .int w2v), (5, .int w3v), (6, .int w8x6)] [.int (zI w13M 155 4), .int w8x6, .ref 158] w13M _
                obtain ⟨w18n, w18⟩ : ∃ n : Nat, w8x6.toInt = (n : Int) := ⟨w8x6.toInt.toNat, by omega⟩
                have w19 : zIv cLo cHi (zsI w13M 158 w18n (zI w13M 155 4)) := zIv.put w13I (show (-300000) ≤ (zI w13M 155 4).toInt ∧ (zI w13M 155 4).toInt ≤ 300000 from ⟨by omega, by omega⟩)
                refine zs_iast (pc := 92) t28_92 (j := w18n) (by decide) (zk1 (w13s.k fk_zMc_158)) w18 (zk2 (w13s.k fk_zMc_158) (by omega)) ?_
                refine zs_aload_n (pc := 93) t28_93 rfl ?_
                refine zs_iload (pc := 94) t28_94 rfl ?_
                refine zs_iconst (pc := 96) t28_96 (v := 1) (by decide) ?_
                obtain ⟨w20v, w20e, w20⟩ := ziadd (a := w8x6) (b := (1 : Int32)) rfl li1 (by omega) (by omega)
                refine zs_iadd (pc := 97) t28_97 (c := w20v) w20e ?_
                refine zs_iload (pc := 98) t28_98 rfl ?_
                by_cases w21 : w3v.toInt ≤ (w8x6.toInt + 1)
                · refine zs_icmp_geT (pc := 100) t28_100 w20 rfl (by omega) ?_
                  refine zs_bipush (pc := 108) t28_108 (v := 59) (by decide) ?_
                  refine zs_invV (pc := 110) (k := 155) (as' := [.int (59 : Int32)]) (st := []) t28_110 mf47 rfl rfl (Or.inl ⟨by decide, (zk1 (w13s.k fk_zMc_155))⟩) ⟨by decide, by decide, Nat.le_of_ble_eq_true rfl, Nat.le_of_ble_eq_true rfl⟩ (zs_in (by decide) mf47 (Nat.le_of_ble_eq_true rfl) ?_) (fun _ _ q => q)
                  show zGo X l 1 0 0 47 0 [(0, .ref 155), (1, .int (59 : Int32))] [] (zsI w13M 158 w18n (zI w13M 155 4)) _
                  refine zs_aload_n (pc := 0) t47_0 rfl ?_
                  refine zs_invV (pc := 1) (k := 155) (as' := []) (st := []) t47_1 mf31 rfl rfl (Or.inl ⟨by decide, (zk1 (w13s.k fk_zMc_155))⟩) ⟨by decide, by decide, Nat.le_of_ble_eq_true rfl, Nat.le_of_ble_eq_true rfl⟩ (C31_155 w13s w19 ?_) (fun _ _ q => q)
                  intro w22v w22a w22b
                  show zGo X l 1 0 0 47 4 [(0, .ref 155), (1, .int (59 : Int32))] [.int w22v] (zsI w13M 158 w18n (zI w13M 155 4)) _
                  refine zs_iload_n (pc := 4) t47_4 rfl ?_
                  by_cases w23 : w22v.toInt = 59
                  · refine zs_icmp_eqT (pc := 5) t47_5 rfl li59 (by omega) ?_
                    refine zs_aload_n (pc := 17) t47_17 rfl ?_
                    refine zs_dup (pc := 18) t47_18 rfl ?_
                    have w24 := ib155_2 w13I
                    refine zs_get (pc := 19) t47_19 (by decide) (zk1 (w13s.k fk_zMc_155)) (zfvi rfl ((zIo (by decide)).trans rfl)) ?_
                    refine zs_iconst (pc := 22) t47_22 (v := 1) (by decide) ?_
                    obtain ⟨w25v, w25⟩ : ∃ v, v = (zI w13M 155 2) + (1 : Int32) := ⟨_, rfl⟩
                    have w25g := zrg w25v
                    refine zs_iadd (pc := 23) t47_23 (c := w25v) w25.symm ?_
                    have w26 : zIv cLo cHi (zsI (zsI w13M 158 w18n (zI w13M 155 4)) 155 2 w25v) := zIv.put w19 (show (-2147483648) ≤ w25v.toInt ∧ w25v.toInt ≤ 2147483647 from (zrg w25v))
                    refine zs_putI (pc := 24) t47_24 (zk1 (w13s.k fk_zMc_155)) rfl ?_
                    refine zs_iconst (pc := 27) t47_27 (v := 1) (by decide) ?_
                    refine zs_iret (pc := 28) t47_28 mr47 (by decide) ?_
                    show zGo X l 5 0 0 28 113 [(0, .ref 157), (1, .ref 155), (2, .ref 19), (3, .int (zI M 155 2)), (4, .int w2v), (5, .int w3v), (6, .int w8x6)] [.int (1 : Int32)] (zsI (zsI w13M 158 w18n (zI w13M 155 4)) 155 2 w25v) _
                    refine zs_if_neT (pc := 113) t28_113 li1 (by decide) ?_
                    obtain ⟨w27v, w27e, w27⟩ := ziadd (a := w8x6) (b := Int32.ofInt 1) rfl (show (Int32.ofInt 1).toInt = 1 by decide) (by omega) (by omega)
                    refine zs_iinc (pc := 118) t28_118 (ls' := [(6, .int w27v), (0, .ref 157), (1, .ref 155), (2, .ref 19), (3, .int (zI M 155 2)), (4, .int w2v), (5, .int w3v)]) (zml mf28 (by decide)) rfl (c := w27v) w27e rfl ?_
                    refine zs_goto (pc := 121) t28_121 ?_
                    refine zGo.locals (ls' := [(0, .ref 157), (1, .ref 155), (2, .ref 19), (3, .int (zI M 155 2)), (4, .int w2v), (5, .int w3v), (6, .int w27v)]) (by simp) ?_
                    exact w8ih (w8m - 1) (by omega) w27v (zsI (zsI w13M 158 w18n (zI w13M 155 4)) 155 2 w25v) ⟨by omega, by omega⟩ w13s w26 (((((zFr.refl).trans (w8F.mono rfl)).trans (w13F.mono rfl)).put rfl).put rfl) (by omega)
                  · refine zs_icmp_eqF (pc := 5) t47_5 rfl li59 (by omega) ?_
                    refine zs_aload_n (pc := 8) t47_8 rfl ?_
                    refine zs_aload_n (pc := 9) t47_9 rfl ?_
                    have w28 := ib155_2 w13I
                    refine zs_get (pc := 10) t47_10 (by decide) (zk1 (w13s.k fk_zMc_155)) (zfvi rfl ((zIo (by decide)).trans rfl)) ?_
                    refine zs_invV (pc := 13) (k := 155) (as' := [.int (zI w13M 155 2)]) (st := []) t47_13 mf34 rfl rfl (Or.inl ⟨by decide, (zk1 (w13s.k fk_zMc_155))⟩) ⟨by decide, by decide, Nat.le_of_ble_eq_true rfl, Nat.le_of_ble_eq_true rfl⟩ (zs_in (by decide) mf34 (Nat.le_of_ble_eq_true rfl) ?_) (fun _ _ q => q)
                    show zGo X l 0 0 0 34 0 [(0, .ref 155), (1, .int (zI w13M 155 2))] [] (zsI w13M 158 w18n (zI w13M 155 4)) _
                    refine zs_aload_n (pc := 0) t34_0 rfl ?_
                    refine zs_iload_n (pc := 1) t34_1 rfl ?_
                    have w29 : zIv cLo cHi (zsI (zsI w13M 158 w18n (zI w13M 155 4)) 155 3 (zI w13M 155 2)) := zIv.put w19 (show (-2147483648) ≤ (zI w13M 155 2).toInt ∧ (zI w13M 155 2).toInt ≤ 2147483647 from (zrg (zI w13M 155 2)))
                    refine zs_putI (pc := 2) t34_2 (zk1 (w13s.k fk_zMc_155)) rfl ?_
                    refine zs_iconst (pc := 5) t34_5 (v := 0) (by decide) ?_
                    refine zs_iret (pc := 6) t34_6 mr34 (by decide) ?_
                    show zGo X l 1 0 0 47 16 [(0, .ref 155), (1, .int (59 : Int32))] [.int (0 : Int32)] (zsI (zsI w13M 158 w18n (zI w13M 155 4)) 155 3 (zI w13M 155 2)) _
                    refine zs_iret (pc := 16) t47_16 mr47 (by decide) ?_
                    show zGo X l 5 0 0 28 113 [(0, .ref 157), (1, .ref 155), (2, .ref 19), (3, .int (zI M 155 2)), (4, .int w2v), (5, .int w3v), (6, .int w8x6)] [.int (0 : Int32)] (zsI (zsI w13M 158 w18n (zI w13M 155 4)) 155 3 (zI w13M 155 2)) _
                    refine zs_if_neF (pc := 113) t28_113 li0 (by decide) ?_
                    refine zs_iconst (pc := 116) t28_116 (v := 0) (by decide) ?_
                    exact zs_iret (pc := 117) t28_117 mr28 (by decide) (hQ _ _ w13s w29 ((((((zFr.refl).trans (w2F.mono rfl)).trans (w8F.mono rfl)).trans (w13F.mono rfl)).put rfl).put rfl) (by decide) (by decide))
                · refine zs_icmp_geF (pc := 100) t28_100 w20 rfl (by omega) ?_
                  refine zs_bipush (pc := 103) t28_103 (v := 44) (by decide) ?_
                  refine zs_goto (pc := 105) t28_105 ?_
                  refine zs_invV (pc := 110) (k := 155) (as' := [.int (44 : Int32)]) (st := []) t28_110 mf47 rfl rfl (Or.inl ⟨by decide, (zk1 (w13s.k fk_zMc_155))⟩) ⟨by decide, by decide, Nat.le_of_ble_eq_true rfl, Nat.le_of_ble_eq_true rfl⟩ (zs_in (by decide) mf47 (Nat.le_of_ble_eq_true rfl) ?_) (fun _ _ q => q)
                  show zGo X l 1 0 0 47 0 [(0, .ref 155), (1, .int (44 : Int32))] [] (zsI w13M 158 w18n (zI w13M 155 4)) _
                  refine zs_aload_n (pc := 0) t47_0 rfl ?_
                  refine zs_invV (pc := 1) (k := 155) (as' := []) (st := []) t47_1 mf31 rfl rfl (Or.inl ⟨by decide, (zk1 (w13s.k fk_zMc_155))⟩) ⟨by decide, by decide, Nat.le_of_ble_eq_true rfl, Nat.le_of_ble_eq_true rfl⟩ (C31_155 w13s w19 ?_) (fun _ _ q => q)
                  intro w30v w30a w30b
                  show zGo X l 1 0 0 47 4 [(0, .ref 155), (1, .int (44 : Int32))] [.int w30v] (zsI w13M 158 w18n (zI w13M 155 4)) _
                  refine zs_iload_n (pc := 4) t47_4 rfl ?_
                  by_cases w31 : w30v.toInt = 44
                  · refine zs_icmp_eqT (pc := 5) t47_5 rfl li44 (by omega) ?_
                    refine zs_aload_n (pc := 17) t47_17 rfl ?_
                    refine zs_dup (pc := 18) t47_18 rfl ?_
                    have w32 := ib155_2 w13I
                    refine zs_get (pc := 19) t47_19 (by decide) (zk1 (w13s.k fk_zMc_155)) (zfvi rfl ((zIo (by decide)).trans rfl)) ?_
                    refine zs_iconst (pc := 22) t47_22 (v := 1) (by decide) ?_
                    obtain ⟨w33v, w33⟩ : ∃ v, v = (zI w13M 155 2) + (1 : Int32) := ⟨_, rfl⟩
                    have w33g := zrg w33v
                    refine zs_iadd (pc := 23) t47_23 (c := w33v) w33.symm ?_
                    have w34 : zIv cLo cHi (zsI (zsI w13M 158 w18n (zI w13M 155 4)) 155 2 w33v) := zIv.put w19 (show (-2147483648) ≤ w33v.toInt ∧ w33v.toInt ≤ 2147483647 from (zrg w33v))
                    refine zs_putI (pc := 24) t47_24 (zk1 (w13s.k fk_zMc_155)) rfl ?_
                    refine zs_iconst (pc := 27) t47_27 (v := 1) (by decide) ?_
                    refine zs_iret (pc := 28) t47_28 mr47 (by decide) ?_
                    show zGo X l 5 0 0 28 113 [(0, .ref 157), (1, .ref 155), (2, .ref 19), (3, .int (zI M 155 2)), (4, .int w2v), (5, .int w3v), (6, .int w8x6)] [.int (1 : Int32)] (zsI (zsI w13M 158 w18n (zI w13M 155 4)) 155 2 w33v) _
                    refine zs_if_neT (pc := 113) t28_113 li1 (by decide) ?_
                    obtain ⟨w35v, w35e, w35⟩ := ziadd (a := w8x6) (b := Int32.ofInt 1) rfl (show (Int32.ofInt 1).toInt = 1 by decide) (by omega) (by omega)
                    refine zs_iinc (pc := 118) t28_118 (ls' := [(6, .int w35v), (0, .ref 157), (1, .ref 155), (2, .ref 19), (3, .int (zI M 155 2)), (4, .int w2v), (5, .int w3v)]) (zml mf28 (by decide)) rfl (c := w35v) w35e rfl ?_
                    refine zs_goto (pc := 121) t28_121 ?_
                    refine zGo.locals (ls' := [(0, .ref 157), (1, .ref 155), (2, .ref 19), (3, .int (zI M 155 2)), (4, .int w2v), (5, .int w3v), (6, .int w35v)]) (by simp) ?_
                    exact w8ih (w8m - 1) (by omega) w35v (zsI (zsI w13M 158 w18n (zI w13M 155 4)) 155 2 w33v) ⟨by omega, by omega⟩ w13s w34 (((((zFr.refl).trans (w8F.mono rfl)).trans (w13F.mono rfl)).put rfl).put rfl) (by omega)
                  · refine zs_icmp_eqF (pc := 5) t47_5 rfl li44 (by omega) ?_
                    refine zs_aload_n (pc := 8) t47_8 rfl ?_
                    refine zs_aload_n (pc := 9) t47_9 rfl ?_
                    have w36 := ib155_2 w13I
                    refine zs_get (pc := 10) t47_10 (by decide) (zk1 (w13s.k fk_zMc_155)) (zfvi rfl ((zIo (by decide)).trans rfl)) ?_
                    refine zs_invV (pc := 13) (k := 155) (as' := [.int (zI w13M 155 2)]) (st := []) t47_13 mf34 rfl rfl (Or.inl ⟨by decide, (zk1 (w13s.k fk_zMc_155))⟩) ⟨by decide, by decide, Nat.le_of_ble_eq_true rfl, Nat.le_of_ble_eq_true rfl⟩ (zs_in (by decide) mf34 (Nat.le_of_ble_eq_true rfl) ?_) (fun _ _ q => q)
                    show zGo X l 0 0 0 34 0 [(0, .ref 155), (1, .int (zI w13M 155 2))] [] (zsI w13M 158 w18n (zI w13M 155 4)) _
                    refine zs_aload_n (pc := 0) t34_0 rfl ?_
                    refine zs_iload_n (pc := 1) t34_1 rfl ?_
                    have w37 : zIv cLo cHi (zsI (zsI w13M 158 w18n (zI w13M 155 4)) 155 3 (zI w13M 155 2)) := zIv.put w19 (show (-2147483648) ≤ (zI w13M 155 2).toInt ∧ (zI w13M 155 2).toInt ≤ 2147483647 from (zrg (zI w13M 155 2)))
                    refine zs_putI (pc := 2) t34_2 (zk1 (w13s.k fk_zMc_155)) rfl ?_
                    refine zs_iconst (pc := 5) t34_5 (v := 0) (by decide) ?_
                    refine zs_iret (pc := 6) t34_6 mr34 (by decide) ?_
                    show zGo X l 1 0 0 47 16 [(0, .ref 155), (1, .int (44 : Int32))] [.int (0 : Int32)] (zsI (zsI w13M 158 w18n (zI w13M 155 4)) 155 3 (zI w13M 155 2)) _
                    refine zs_iret (pc := 16) t47_16 mr47 (by decide) ?_
                    show zGo X l 5 0 0 28 113 [(0, .ref 157), (1, .ref 155), (2, .ref 19), (3, .int (zI M 155 2)), (4, .int w2v), (5, .int w3v), (6, .int w8x6)] [.int (0 : Int32)] (zsI (zsI w13M 158 w18n (zI w13M 155 4)) 155 3 (zI w13M 155 2)) _
                    refine zs_if_neF (pc := 113) t28_113 li0 (by decide) ?_
                    refine zs_iconst (pc := 116) t28_116 (v := 0) (by decide) ?_
                    exact zs_iret (pc := 117) t28_117 mr28 (by decide) (hQ _ _ w13s w37 ((((((zFr.refl).trans (w2F.mono rfl)).trans (w8F.mono rfl)).trans (w13F.mono rfl)).put rfl).put rfl) (by decide) (by decide))
              · refine zs_if_neF (pc := 70) t28_70 rfl (by omega) ?_
                refine zs_aload_n (pc := 73) t28_73 rfl ?_
                refine zs_aload_n (pc := 74) t28_74 rfl ?_
                refine zs_invV (pc := 75) (k := 155) (as' := []) (st := [.ref 155]) t28_75 mf46 rfl rfl (Or.inl ⟨by decide, (zk1 (w13s.k fk_zMc_155))⟩) ⟨by decide, by decide, Nat.le_of_ble_eq_true rfl, Nat.le_of_ble_eq_true rfl⟩ (zs_in (by decide) mf46 (Nat.le_of_ble_eq_true rfl) ?_) (fun _ _ q => q)
                show zGo X l 0 0 0 46 0 [(0, .ref 155)] [] w13M _
                refine zs_aload_n (pc := 0) t46_0 rfl ?_
                have w38 := ib155_5 w13I
                refine zs_get (pc := 1) t46_1 (by decide) (zk1 (w13s.k fk_zMc_155)) (zfvi rfl rfl) ?_
                refine zs_iret (pc := 4) t46_4 mr46 rfl ?_
                show zGo X l 5 0 0 28 78 [(0, .ref 157), (1, .ref 155), (2, .ref 19), (3, .int (zI M 155 2)), (4, .int w2v), (5, .int w3v), (6, .int w8x6)] [.int (zI w13M 155 5), .ref 155] w13M _
                refine zs_invV (pc := 78) (k := 155) (as' := [.int (zI w13M 155 5)]) (st := []) t28_78 mf34 rfl rfl (Or.inl ⟨by decide, (zk1 (w13s.k fk_zMc_155))⟩) ⟨by decide, by decide, Nat.le_of_ble_eq_true rfl, Nat.le_of_ble_eq_true rfl⟩ (zs_in (by decide) mf34 (Nat.le_of_ble_eq_true rfl) ?_) (fun _ _ q => q)
                show zGo X l 0 0 0 34 0 [(0, .ref 155), (1, .int (zI w13M 155 5))] [] w13M _
                refine zs_aload_n (pc := 0) t34_0 rfl ?_
                refine zs_iload_n (pc := 1) t34_1 rfl ?_
                have w39 : zIv cLo cHi (zsI w13M 155 3 (zI w13M 155 5)) := zIv.put w13I (show (-2147483648) ≤ (zI w13M 155 5).toInt ∧ (zI w13M 155 5).toInt ≤ 2147483647 from (zrg (zI w13M 155 5)))
                refine zs_putI (pc := 2) t34_2 (zk1 (w13s.k fk_zMc_155)) rfl ?_
                refine zs_iconst (pc := 5) t34_5 (v := 0) (by decide) ?_
                refine zs_iret (pc := 6) t34_6 mr34 (by decide) ?_
                show zGo X l 5 0 0 28 81 [(0, .ref 157), (1, .ref 155), (2, .ref 19), (3, .int (zI M 155 2)), (4, .int w2v), (5, .int w3v), (6, .int w8x6)] [.int (0 : Int32)] (zsI w13M 155 3 (zI w13M 155 5)) _
                exact zs_iret (pc := 81) t28_81 mr28 (by decide) (hQ _ _ w13s w39 (((((zFr.refl).trans (w2F.mono rfl)).trans (w8F.mono rfl)).trans (w13F.mono rfl)).put rfl) (by decide) (by decide))
            · refine zs_if_neF (pc := 52) t28_52 rfl (by omega) ?_
              refine zs_iconst (pc := 55) t28_55 (v := 0) (by decide) ?_
              exact zs_iret (pc := 56) t28_56 mr28 (by decide) (hQ _ _ w13s w13I ((((zFr.refl).trans (w2F.mono rfl)).trans (w8F.mono rfl)).trans (w13F.mono rfl)) (by decide) (by decide))
      refine zGo.locals (ls' := [(0, .ref 157), (1, .ref 155), (2, .ref 19), (3, .int (zI M 155 2)), (4, .int w2v), (5, .int w3v), (6, .int (0 : Int32))]) (by simp) ?_
      have w40 := li0
      exact w8L ((4 - 0 : Int).toNat) (0 : Int32) w2M ⟨by decide, by decide⟩ w2s w2I zFr.refl (by omega)
    · refine zs_if_eqF (pc := 29) t28_29 rfl (by omega) ?_
      refine zs_aload_n (pc := 32) t28_32 rfl ?_
      refine zs_iload_n (pc := 33) t28_33 rfl ?_
      refine zs_invV (pc := 34) (k := 155) (as' := [.int (zI M 155 2)]) (st := []) t28_34 mf34 rfl rfl (Or.inl ⟨by decide, (zk1 (w2s.k fk_zMc_155))⟩) ⟨by decide, by decide, Nat.le_of_ble_eq_true rfl, Nat.le_of_ble_eq_true rfl⟩ (zs_in (by decide) mf34 (Nat.le_of_ble_eq_true rfl) ?_) (fun _ _ q => q)
      show zGo X l 0 0 0 34 0 [(0, .ref 155), (1, .int (zI M 155 2))] [] w2M _
      refine zs_aload_n (pc := 0) t34_0 rfl ?_
      refine zs_iload_n (pc := 1) t34_1 rfl ?_
      have w41 : zIv cLo cHi (zsI w2M 155 3 (zI M 155 2)) := zIv.put w2I (show (-2147483648) ≤ (zI M 155 2).toInt ∧ (zI M 155 2).toInt ≤ 2147483647 from (zrg (zI M 155 2)))
      refine zs_putI (pc := 2) t34_2 (zk1 (w2s.k fk_zMc_155)) rfl ?_
      refine zs_iconst (pc := 5) t34_5 (v := 0) (by decide) ?_
      refine zs_iret (pc := 6) t34_6 mr34 (by decide) ?_
      show zGo X l 5 0 0 28 37 [(5, .int w3v), (4, .int w2v), (3, .int (zI M 155 2)), (0, .ref 157), (1, .ref 155), (2, .ref 19)] [.int (0 : Int32)] (zsI w2M 155 3 (zI M 155 2)) _
      exact zs_iret (pc := 37) t28_37 mr28 (by decide) (hQ _ _ w2s w41 (((zFr.refl).trans (w2F.mono rfl)).put rfl) (by decide) (by decide))
theorem C25_157_155_19 {X : zX} {l : Launch} {M : zM} {Q : Option Value → zM → Prop} (hs : zSk zMc M) (hI : zIv cLo cHi M) (hQ : ∀ (M' : zM) (v : Int32), zSk zMc M' → zIv cLo cHi M' → zFr [(157, 160, none), (155, 155, none), (19, 30, none)] M M' → (-1) ≤ v.toInt → v.toInt ≤ 500 → Q (some (.int v)) M') : zCall X l 6 0 0 25 [.ref 157, .ref 155, .ref 19] M Q := by
  refine zs_in (by decide) mf25 (Nat.le_of_ble_eq_true rfl) ?_
  show zGo X l 6 0 0 25 0 [(0, .ref 157), (1, .ref 155), (2, .ref 19)] [] M _
  refine zs_aload_n (pc := 0) t25_0 rfl ?_
  refine zs_invV (pc := 1) (k := 155) (as' := []) (st := []) t25_1 mf26 rfl rfl (Or.inl ⟨by decide, (zk1 (hs.k fk_zMc_155))⟩) ⟨by decide, by decide, Nat.le_of_ble_eq_true rfl, Nat.le_of_ble_eq_true rfl⟩ (zs_in (by decide) mf26 (Nat.le_of_ble_eq_true rfl) ?_) (fun _ _ q => q)
  show zGo X l 0 0 0 26 0 [(0, .ref 155)] [] M _
  refine zs_aload_n (pc := 0) t26_0 rfl ?_
  refine zs_iconst (pc := 1) t26_1 (v := 0) (by decide) ?_
  have w1 : zIv cLo cHi (zsI M 155 2 (0 : Int32)) := zIv.put hI (show (-2147483648) ≤ (0 : Int32).toInt ∧ (0 : Int32).toInt ≤ 2147483647 from (zrg (0 : Int32)))
  refine zs_putI (pc := 2) t26_2 (zk1 (hs.k fk_zMc_155)) rfl ?_
  refine zs_aload_n (pc := 5) t26_5 rfl ?_
  refine zs_iconst (pc := 6) t26_6 (v := -1) (by decide) ?_
  have w2 : zIv cLo cHi (zsI (zsI M 155 2 (0 : Int32)) 155 3 (-1 : Int32)) := zIv.put w1 (show (-2147483648) ≤ (-1 : Int32).toInt ∧ (-1 : Int32).toInt ≤ 2147483647 from (zrg (-1 : Int32)))
  refine zs_putI (pc := 7) t26_7 (zk1 (hs.k fk_zMc_155)) rfl ?_
  refine zs_vret (pc := 10) t26_10 mr26 ?_
  show zGo X l 6 0 0 25 4 [(0, .ref 157), (1, .ref 155), (2, .ref 19)] [] (zsI (zsI M 155 2 (0 : Int32)) 155 3 (-1 : Int32)) _
  refine zs_iconst (pc := 4) t25_4 (v := 0) (by decide) ?_
  refine zs_istore_n (pc := 5) t25_5 (ls' := [(3, .int (0 : Int32)), (0, .ref 157), (1, .ref 155), (2, .ref 19)]) (zml mf25 (by decide)) rfl ?_
  have w3L : ∀ (m : Nat) (w3x3 : Int32) (w3M : zM), (0 ≤ w3x3.toInt ∧ w3x3.toInt ≤ 500) → zSk zMc w3M → zIv cLo cHi w3M → zFr [(157, 160, none), (155, 155, none), (19, 30, none)] (zsI (zsI M 155 2 (0 : Int32)) 155 3 (-1 : Int32)) w3M → 500 - w3x3.toInt ≤ (m : Int) → zGo X l 6 0 0 25 6 [(0, .ref 157), (1, .ref 155), (2, .ref 19), (3, .int w3x3)] [] w3M Q := by
    intro m
    induction m using Nat.strongRecOn with
    | ind w3m w3ih =>
      intro w3x3 w3M w3b3 w3s w3I w3F w3q
      refine zs_iload_n (pc := 6) t25_6 rfl ?_
      refine zs_sipush (pc := 7) t25_7 (v := 500) (by decide) ?_
      by_cases w4 : 500 ≤ w3x3.toInt
      · refine zs_icmp_geT (pc := 10) t25_10 rfl li500 (by omega) ?_
        refine zs_iload_n (pc := 37) t25_37 rfl ?_
        exact zs_iret (pc := 38) t25_38 mr25 rfl (hQ _ _ w3s w3I ((((zFr.refl).put rfl).put rfl).trans (w3F.mono rfl)) (by omega) (by omega))
      · refine zs_icmp_geF (pc := 10) t25_10 rfl li500 (by omega) ?_
        refine zs_aload_n (pc := 13) t25_13 rfl ?_
        refine zs_invV (pc := 14) (k := 155) (as' := []) (st := []) t25_14 mf27 rfl rfl (Or.inl ⟨by decide, (zk1 (w3s.k fk_zMc_155))⟩) ⟨by decide, by decide, Nat.le_of_ble_eq_true rfl, Nat.le_of_ble_eq_true rfl⟩ (zs_in (by decide) mf27 (Nat.le_of_ble_eq_true rfl) ?_) (fun _ _ q => q)
        show zGo X l 0 0 0 27 0 [(0, .ref 155)] [] w3M _
        refine zs_aload_n (pc := 0) t27_0 rfl ?_
        have w5 := ib155_2 w3I
        refine zs_get (pc := 1) t27_1 (by decide) (zk1 (w3s.k fk_zMc_155)) (zfvi rfl rfl) ?_
        refine zs_aload_n (pc := 4) t27_4 rfl ?_
        have w6 := ib155_1 w3I
        refine zs_get (pc := 5) t27_5 (by decide) (zk1 (w3s.k fk_zMc_155)) (zfvi rfl rfl) ?_
        by_cases w7 : (zI w3M 155 2).toInt < (zI w3M 155 1).toInt
        · refine zs_icmp_ltT (pc := 8) t27_8 rfl rfl (by omega) ?_
          refine zs_iconst (pc := 15) t27_15 (v := 0) (by decide) ?_
          refine zs_iret (pc := 16) t27_16 mr27 (by decide) ?_
          show zGo X l 6 0 0 25 17 [(0, .ref 157), (1, .ref 155), (2, .ref 19), (3, .int w3x3)] [.int (0 : Int32)] w3M _
          refine zs_if_neF (pc := 17) t25_17 li0 (by decide) ?_
          refine zs_aload_n (pc := 20) t25_20 rfl ?_
          refine zs_aload_n (pc := 21) t25_21 rfl ?_
          refine zs_aload_n (pc := 22) t25_22 rfl ?_
          refine zs_invV (pc := 23) (k := 157) (as' := [.ref 155, .ref 19]) (st := []) t25_23 mf28 rfl rfl (Or.inl ⟨by decide, (zk1 (w3s.k fk_zMc_157))⟩) ⟨by decide, by decide, Nat.le_of_ble_eq_true rfl, Nat.le_of_ble_eq_true rfl⟩ (C28_157_155_19 w3s w3I ?_) (fun _ _ q => q)
          intro w8M w8v w8s w8I w8F w8a w8b
          show zGo X l 6 0 0 25 26 [(0, .ref 157), (1, .ref 155), (2, .ref 19), (3, .int w3x3)] [.int w8v] w8M _
          by_cases w9 : w8v.toInt ≠ 0
          · refine zs_if_neT (pc := 26) t25_26 rfl (by omega) ?_
            obtain ⟨w10v, w10e, w10⟩ := ziadd (a := w3x3) (b := Int32.ofInt 1) rfl (show (Int32.ofInt 1).toInt = 1 by decide) (by omega) (by omega)
            refine zs_iinc (pc := 31) t25_31 (ls' := [(3, .int w10v), (0, .ref 157), (1, .ref 155), (2, .ref 19)]) (zml mf25 (by decide)) rfl (c := w10v) w10e rfl ?_
            refine zs_goto (pc := 34) t25_34 ?_
            refine zGo.locals (ls' := [(0, .ref 157), (1, .ref 155), (2, .ref 19), (3, .int w10v)]) (by simp) ?_
            exact w3ih (w3m - 1) (by omega) w10v w8M ⟨by omega, by omega⟩ w8s w8I (((zFr.refl).trans (w3F.mono rfl)).trans (w8F.mono rfl)) (by omega)
          · refine zs_if_neF (pc := 26) t25_26 rfl (by omega) ?_
            refine zs_iconst (pc := 29) t25_29 (v := -1) (by decide) ?_
            exact zs_iret (pc := 30) t25_30 mr25 (by decide) (hQ _ _ w8s w8I (((((zFr.refl).put rfl).put rfl).trans (w3F.mono rfl)).trans (w8F.mono rfl)) (by decide) (by decide))
        · refine zs_icmp_ltF (pc := 8) t27_8 rfl rfl (by omega) ?_
          refine zs_iconst (pc := 11) t27_11 (v := 1) (by decide) ?_
          refine zs_goto (pc := 12) t27_12 ?_
          refine zs_iret (pc := 16) t27_16 mr27 (by decide) ?_
          show zGo X l 6 0 0 25 17 [(0, .ref 157), (1, .ref 155), (2, .ref 19), (3, .int w3x3)] [.int (1 : Int32)] w3M _
          refine zs_if_neT (pc := 17) t25_17 li1 (by decide) ?_
          refine zs_iload_n (pc := 37) t25_37 rfl ?_
          exact zs_iret (pc := 38) t25_38 mr25 rfl (hQ _ _ w3s w3I ((((zFr.refl).put rfl).put rfl).trans (w3F.mono rfl)) (by omega) (by omega))
  refine zGo.locals (ls' := [(0, .ref 157), (1, .ref 155), (2, .ref 19), (3, .int (0 : Int32))]) (by simp) ?_
  have w11 := li0
  exact w3L ((500 - 0 : Int).toNat) (0 : Int32) (zsI (zsI M 155 2 (0 : Int32)) 155 3 (-1 : Int32)) ⟨by decide, by decide⟩ hs w2 zFr.refl (by omega)
