theorem X50_19 {X : zX} {l : Launch} {M : zM} {Q : Option Value → zM → Prop} {a b c d : Int32} (hs : zSk zMc M) (hI : zIv cLo cHi M) {F : Nat → Int} (x0 : zSo M 19 F) (hQ : ∀ (M' : zM) (v : Int32), zSk zMc M' → zIv cLo cHi M' → zFr [(19, 19, some 3), (22, 25, none)] M M' → ((v.toInt = -1 ∧ (a.toInt < 0 ∨ F 0 ≤ a.toInt ∨ b.toInt < -9999 ∨ 9999 < b.toInt ∨ c.toInt < 0 ∨ 999 < c.toInt ∨ 60 ≤ F 1) ∧ zSo M' 19 F) ∨ ((0 ≤ a.toInt ∧ a.toInt < F 0 ∧ -9999 ≤ b.toInt ∧ b.toInt ≤ 9999 ∧ 0 ≤ c.toInt ∧ c.toInt ≤ 999 ∧ F 1 < 60) ∧ v.toInt = F 1 ∧ zSo M' 19 (pHit F a.toInt b.toInt c.toInt d.toInt))) → Q (some (.int v)) M') : zCall X l 2 0 0 50 [.ref 19, .int a, .int b, .int c, .int d] M Q := by
  have ga := zrg a
  have gb := zrg b
  have gc := zrg c
  have gd := zrg d
  refine zs_in (by decide) mf50 (Nat.le_of_ble_eq_true rfl) ?_
  show zGo X l 2 0 0 50 0 [(0, .ref 19), (1, .int a), (2, .int b), (3, .int c), (4, .int d)] [] M _
  have f0 := x0.1
  have w1 := ib19_0 hI
  have w2 : (zI M 19 0).toInt = (zI M 19 0).toInt := (congrArg Int32.toInt rfl).trans rfl
  have w3 := ib19_3 hI
  have w4 : (zI M 19 3).toInt = (zI M 19 3).toInt := (congrArg Int32.toInt rfl).trans rfl
  have w5 := ib19_8 hI
  have w6 : (zI M 19 8).toInt = (zI M 19 8).toInt := (congrArg Int32.toInt rfl).trans rfl
  have f2 := (show (zI M 19 0).toInt = F 0 ∧ (zI M 19 3).toInt = F 1 ∧ (zI M 19 8).toInt = F 2 from ⟨x0.1.1, x0.1.2.1, x0.1.2.2.1⟩)
  refine zs_aload_n (pc := 0) t50_0 rfl ?_
  refine zs_iload_n (pc := 1) t50_1 rfl ?_
  refine zs_iload_n (pc := 2) t50_2 rfl ?_
  refine zs_iload_n (pc := 3) t50_3 rfl ?_
  refine zs_invV (pc := 4) (k := 19) (as' := [.int a, .int b, .int c]) (st := []) t50_4 mf51 rfl rfl (Or.inl ⟨by decide, (zk1 (hs.k fk_zMc_19))⟩) ⟨by decide, by decide, Nat.le_of_ble_eq_true rfl, Nat.le_of_ble_eq_true rfl⟩ (zs_in (by decide) mf51 (Nat.le_of_ble_eq_true rfl) ?_) (fun _ _ q => q)
  show zGo X l 1 0 0 51 0 [(0, .ref 19), (1, .int a), (2, .int b), (3, .int c)] [] M _
  refine zs_aload_n (pc := 0) t51_0 rfl ?_
  refine zs_iload_n (pc := 1) t51_1 rfl ?_
  refine zs_invV (pc := 2) (k := 19) (as' := [.int a]) (st := []) t51_2 mf41 rfl rfl (Or.inl ⟨by decide, (zk1 (hs.k fk_zMc_19))⟩) ⟨by decide, by decide, Nat.le_of_ble_eq_true rfl, Nat.le_of_ble_eq_true rfl⟩ (zs_in (by decide) mf41 (Nat.le_of_ble_eq_true rfl) ?_) (fun _ _ q => q)
  show zGo X l 0 0 0 41 0 [(0, .ref 19), (1, .int a)] [] M _
  refine zs_iload_n (pc := 0) t41_0 rfl ?_
  by_cases w7 : a.toInt < 0
  · refine zs_if_ltT (pc := 1) t41_1 rfl (by omega) ?_
    refine zs_iconst (pc := 16) t41_16 (v := 0) (by decide) ?_
    refine zs_iret (pc := 17) t41_17 mr41 (by decide) ?_
    show zGo X l 1 0 0 51 5 [(0, .ref 19), (1, .int a), (2, .int b), (3, .int c)] [.int (0 : Int32)] M _
    refine zs_if_eqT (pc := 5) t51_5 li0 (by decide) ?_
    refine zs_iconst (pc := 39) t51_39 (v := 0) (by decide) ?_
    refine zs_iret (pc := 40) t51_40 mr51 (by decide) ?_
    show zGo X l 2 0 0 50 7 [(0, .ref 19), (1, .int a), (2, .int b), (3, .int c), (4, .int d)] [.int (0 : Int32)] M _
    refine zs_if_neF (pc := 7) t50_7 li0 (by decide) ?_
    refine zs_iconst (pc := 10) t50_10 (v := -1) (by decide) ?_
    exact zs_iret (pc := 11) t50_11 mr50 (by decide) (hQ _ _ hs hI (zFr.refl) (Or.inl ⟨by decide, by omega, x0⟩))
  · refine zs_if_ltF (pc := 1) t41_1 rfl (by omega) ?_
    refine zs_iload_n (pc := 4) t41_4 rfl ?_
    refine zs_aload_n (pc := 5) t41_5 rfl ?_
    refine zs_get (pc := 6) t41_6 (by decide) (zk1 (hs.k fk_zMc_19)) (zfvi rfl rfl) ?_
    by_cases w8 : (zI M 19 0).toInt ≤ a.toInt
    · refine zs_icmp_geT (pc := 9) t41_9 rfl rfl (by omega) ?_
      refine zs_iconst (pc := 16) t41_16 (v := 0) (by decide) ?_
      refine zs_iret (pc := 17) t41_17 mr41 (by decide) ?_
      show zGo X l 1 0 0 51 5 [(0, .ref 19), (1, .int a), (2, .int b), (3, .int c)] [.int (0 : Int32)] M _
      refine zs_if_eqT (pc := 5) t51_5 li0 (by decide) ?_
      refine zs_iconst (pc := 39) t51_39 (v := 0) (by decide) ?_
      refine zs_iret (pc := 40) t51_40 mr51 (by decide) ?_
      show zGo X l 2 0 0 50 7 [(0, .ref 19), (1, .int a), (2, .int b), (3, .int c), (4, .int d)] [.int (0 : Int32)] M _
      refine zs_if_neF (pc := 7) t50_7 li0 (by decide) ?_
      refine zs_iconst (pc := 10) t50_10 (v := -1) (by decide) ?_
      exact zs_iret (pc := 11) t50_11 mr50 (by decide) (hQ _ _ hs hI (zFr.refl) (Or.inl ⟨by decide, by omega, x0⟩))
    · refine zs_icmp_geF (pc := 9) t41_9 rfl rfl (by omega) ?_
      refine zs_iconst (pc := 12) t41_12 (v := 1) (by decide) ?_
      refine zs_goto (pc := 13) t41_13 ?_
      refine zs_iret (pc := 17) t41_17 mr41 (by decide) ?_
      show zGo X l 1 0 0 51 5 [(0, .ref 19), (1, .int a), (2, .int b), (3, .int c)] [.int (1 : Int32)] M _
      refine zs_if_eqF (pc := 5) t51_5 li1 (by decide) ?_
      refine zs_iload_n (pc := 8) t51_8 rfl ?_
      refine zs_invS (pc := 9) (as := [.int b]) (st := []) t51_9 (by decide) mf42 rfl rfl ⟨by decide, by decide, Nat.le_of_ble_eq_true rfl, Nat.le_of_ble_eq_true rfl⟩ (zs_in (by decide) mf42 (Nat.le_of_ble_eq_true rfl) ?_) (fun _ _ q => q)
      show zGo X l 0 0 0 42 0 [(0, .int b)] [] M _
      refine zs_iload_n (pc := 0) t42_0 rfl ?_
      refine zs_sipush (pc := 1) t42_1 (v := -9999) (by decide) ?_
      by_cases w9 : b.toInt < (-9999)
      · refine zs_icmp_ltT (pc := 4) t42_4 rfl lin9999 (by omega) ?_
        refine zs_iconst (pc := 18) t42_18 (v := 0) (by decide) ?_
        refine zs_iret (pc := 19) t42_19 mr42 (by decide) ?_
        show zGo X l 1 0 0 51 12 [(0, .ref 19), (1, .int a), (2, .int b), (3, .int c)] [.int (0 : Int32)] M _
        refine zs_if_eqT (pc := 12) t51_12 li0 (by decide) ?_
        refine zs_iconst (pc := 39) t51_39 (v := 0) (by decide) ?_
        refine zs_iret (pc := 40) t51_40 mr51 (by decide) ?_
        show zGo X l 2 0 0 50 7 [(0, .ref 19), (1, .int a), (2, .int b), (3, .int c), (4, .int d)] [.int (0 : Int32)] M _
        refine zs_if_neF (pc := 7) t50_7 li0 (by decide) ?_
        refine zs_iconst (pc := 10) t50_10 (v := -1) (by decide) ?_
        exact zs_iret (pc := 11) t50_11 mr50 (by decide) (hQ _ _ hs hI (zFr.refl) (Or.inl ⟨by decide, by omega, x0⟩))
      · refine zs_icmp_ltF (pc := 4) t42_4 rfl lin9999 (by omega) ?_
        refine zs_iload_n (pc := 7) t42_7 rfl ?_
        refine zs_sipush (pc := 8) t42_8 (v := 9999) (by decide) ?_
        by_cases w10 : 9999 < b.toInt
        · refine zs_icmp_gtT (pc := 11) t42_11 rfl li9999 (by omega) ?_
          refine zs_iconst (pc := 18) t42_18 (v := 0) (by decide) ?_
          refine zs_iret (pc := 19) t42_19 mr42 (by decide) ?_
          show zGo X l 1 0 0 51 12 [(0, .ref 19), (1, .int a), (2, .int b), (3, .int c)] [.int (0 : Int32)] M _
          refine zs_if_eqT (pc := 12) t51_12 li0 (by decide) ?_
          refine zs_iconst (pc := 39) t51_39 (v := 0) (by decide) ?_
          refine zs_iret (pc := 40) t51_40 mr51 (by decide) ?_
          show zGo X l 2 0 0 50 7 [(0, .ref 19), (1, .int a), (2, .int b), (3, .int c), (4, .int d)] [.int (0 : Int32)] M _
          refine zs_if_neF (pc := 7) t50_7 li0 (by decide) ?_
          refine zs_iconst (pc := 10) t50_10 (v := -1) (by decide) ?_
          exact zs_iret (pc := 11) t50_11 mr50 (by decide) (hQ _ _ hs hI (zFr.refl) (Or.inl ⟨by decide, by omega, x0⟩))
        · refine zs_icmp_gtF (pc := 11) t42_11 rfl li9999 (by omega) ?_
          refine zs_iconst (pc := 14) t42_14 (v := 1) (by decide) ?_
          refine zs_goto (pc := 15) t42_15 ?_
          refine zs_iret (pc := 19) t42_19 mr42 (by decide) ?_
          show zGo X l 1 0 0 51 12 [(0, .ref 19), (1, .int a), (2, .int b), (3, .int c)] [.int (1 : Int32)] M _
          refine zs_if_eqF (pc := 12) t51_12 li1 (by decide) ?_
          refine zs_iload_n (pc := 15) t51_15 rfl ?_
          refine zs_iconst (pc := 16) t51_16 (v := 0) (by decide) ?_
          refine zs_sipush (pc := 17) t51_17 (v := 999) (by decide) ?_
          refine zs_invS (pc := 20) (as := [.int c, .int (0 : Int32), .int (999 : Int32)]) (st := []) t51_20 (by decide) mf39 rfl rfl ⟨by decide, by decide, Nat.le_of_ble_eq_true rfl, Nat.le_of_ble_eq_true rfl⟩ (zs_in (by decide) mf39 (Nat.le_of_ble_eq_true rfl) ?_) (fun _ _ q => q)
          show zGo X l 0 0 0 39 0 [(0, .int c), (1, .int (0 : Int32)), (2, .int (999 : Int32))] [] M _
          refine zs_iload_n (pc := 0) t39_0 rfl ?_
          refine zs_iload_n (pc := 1) t39_1 rfl ?_
          by_cases w11 : c.toInt < 0
          · refine zs_icmp_ltT (pc := 2) t39_2 rfl li0 (by omega) ?_
            refine zs_iconst (pc := 14) t39_14 (v := 0) (by decide) ?_
            refine zs_iret (pc := 15) t39_15 mr39 (by decide) ?_
            show zGo X l 1 0 0 51 23 [(0, .ref 19), (1, .int a), (2, .int b), (3, .int c)] [.int (0 : Int32)] M _
            refine zs_if_eqT (pc := 23) t51_23 li0 (by decide) ?_
            refine zs_iconst (pc := 39) t51_39 (v := 0) (by decide) ?_
            refine zs_iret (pc := 40) t51_40 mr51 (by decide) ?_
            show zGo X l 2 0 0 50 7 [(0, .ref 19), (1, .int a), (2, .int b), (3, .int c), (4, .int d)] [.int (0 : Int32)] M _
            refine zs_if_neF (pc := 7) t50_7 li0 (by decide) ?_
            refine zs_iconst (pc := 10) t50_10 (v := -1) (by decide) ?_
            exact zs_iret (pc := 11) t50_11 mr50 (by decide) (hQ _ _ hs hI (zFr.refl) (Or.inl ⟨by decide, by omega, x0⟩))
          · refine zs_icmp_ltF (pc := 2) t39_2 rfl li0 (by omega) ?_
            refine zs_iload_n (pc := 5) t39_5 rfl ?_
            refine zs_iload_n (pc := 6) t39_6 rfl ?_
            by_cases w12 : 999 < c.toInt
            · refine zs_icmp_gtT (pc := 7) t39_7 rfl li999 (by omega) ?_
              refine zs_iconst (pc := 14) t39_14 (v := 0) (by decide) ?_
              refine zs_iret (pc := 15) t39_15 mr39 (by decide) ?_
              show zGo X l 1 0 0 51 23 [(0, .ref 19), (1, .int a), (2, .int b), (3, .int c)] [.int (0 : Int32)] M _
              refine zs_if_eqT (pc := 23) t51_23 li0 (by decide) ?_
              refine zs_iconst (pc := 39) t51_39 (v := 0) (by decide) ?_
              refine zs_iret (pc := 40) t51_40 mr51 (by decide) ?_
              show zGo X l 2 0 0 50 7 [(0, .ref 19), (1, .int a), (2, .int b), (3, .int c), (4, .int d)] [.int (0 : Int32)] M _
              refine zs_if_neF (pc := 7) t50_7 li0 (by decide) ?_
              refine zs_iconst (pc := 10) t50_10 (v := -1) (by decide) ?_
              exact zs_iret (pc := 11) t50_11 mr50 (by decide) (hQ _ _ hs hI (zFr.refl) (Or.inl ⟨by decide, by omega, x0⟩))
            · refine zs_icmp_gtF (pc := 7) t39_7 rfl li999 (by omega) ?_
              refine zs_iconst (pc := 10) t39_10 (v := 1) (by decide) ?_
              refine zs_goto (pc := 11) t39_11 ?_
              refine zs_iret (pc := 15) t39_15 mr39 (by decide) ?_
              show zGo X l 1 0 0 51 23 [(0, .ref 19), (1, .int a), (2, .int b), (3, .int c)] [.int (1 : Int32)] M _
              refine zs_if_eqF (pc := 23) t51_23 li1 (by decide) ?_
              refine zs_aload_n (pc := 26) t51_26 rfl ?_
              refine zs_get (pc := 27) t51_27 (by decide) (zk1 (hs.k fk_zMc_19)) (zfvi rfl rfl) ?_
              refine zs_bipush (pc := 30) t51_30 (v := 60) (by decide) ?_
              by_cases w13 : 60 ≤ (zI M 19 3).toInt
              · refine zs_icmp_geT (pc := 32) t51_32 rfl li60 (by omega) ?_
                refine zs_iconst (pc := 39) t51_39 (v := 0) (by decide) ?_
                refine zs_iret (pc := 40) t51_40 mr51 (by decide) ?_
                show zGo X l 2 0 0 50 7 [(0, .ref 19), (1, .int a), (2, .int b), (3, .int c), (4, .int d)] [.int (0 : Int32)] M _
                refine zs_if_neF (pc := 7) t50_7 li0 (by decide) ?_
                refine zs_iconst (pc := 10) t50_10 (v := -1) (by decide) ?_
                exact zs_iret (pc := 11) t50_11 mr50 (by decide) (hQ _ _ hs hI (zFr.refl) (Or.inl ⟨by decide, by omega, x0⟩))
              · refine zs_icmp_geF (pc := 32) t51_32 rfl li60 (by omega) ?_
                refine zs_iconst (pc := 35) t51_35 (v := 1) (by decide) ?_
                refine zs_goto (pc := 36) t51_36 ?_
                refine zs_iret (pc := 40) t51_40 mr51 (by decide) ?_
                show zGo X l 2 0 0 50 7 [(0, .ref 19), (1, .int a), (2, .int b), (3, .int c), (4, .int d)] [.int (1 : Int32)] M _
                refine zs_if_neT (pc := 7) t50_7 li1 (by decide) ?_
                refine zs_aload_n (pc := 12) t50_12 rfl ?_
                refine zs_get (pc := 13) t50_13 (by decide) (zk1 (hs.k fk_zMc_19)) (hs.p rfl fv_zMc_19_4) ?_
                refine zs_aload_n (pc := 16) t50_16 rfl ?_
                refine zs_get (pc := 17) t50_17 (by decide) (zk1 (hs.k fk_zMc_19)) (zfvi rfl rfl) ?_
                refine zs_iload_n (pc := 20) t50_20 rfl ?_
                obtain ⟨w14n, w14⟩ : ∃ n : Nat, (zI M 19 3).toInt = (n : Int) := ⟨((zI M 19 3).toInt).toNat, by omega⟩
                have w15 : zIv cLo cHi (zsI M 22 w14n a) := zIv.put hI (show 0 ≤ a.toInt ∧ a.toInt ≤ 7 from ⟨by omega, by omega⟩)
                refine zs_iast (pc := 21) t50_21 (j := w14n) (by decide) (zk1 (hs.k fk_zMc_22)) (show (zI M 19 3).toInt = ((w14n : Nat) : Int) by omega) (zk2 (hs.k fk_zMc_22) (by omega)) ?_
                refine zs_aload_n (pc := 22) t50_22 rfl ?_
                refine zs_get (pc := 23) t50_23 (by decide) (zk1 (hs.k fk_zMc_19)) (hs.p rfl fv_zMc_19_5) ?_
                refine zs_aload_n (pc := 26) t50_26 rfl ?_
                refine zs_get (pc := 27) t50_27 (by decide) (zk1 (hs.k fk_zMc_19)) (zfvi rfl ((zIo (by decide)).trans rfl)) ?_
                refine zs_iload_n (pc := 30) t50_30 rfl ?_
                have w16 : zIv cLo cHi (zsI (zsI M 22 w14n a) 23 w14n b) := zIv.put w15 (show (-2147483648) ≤ b.toInt ∧ b.toInt ≤ 2147483647 from zrg b)
                refine zs_iast (pc := 31) t50_31 (j := w14n) (by decide) (zk1 (hs.k fk_zMc_23)) (show (zI M 19 3).toInt = ((w14n : Nat) : Int) by omega) (zk2 (hs.k fk_zMc_23) (by omega)) ?_
                refine zs_aload_n (pc := 32) t50_32 rfl ?_
                refine zs_get (pc := 33) t50_33 (by decide) (zk1 (hs.k fk_zMc_19)) (hs.p rfl fv_zMc_19_6) ?_
                refine zs_aload_n (pc := 36) t50_36 rfl ?_
                refine zs_get (pc := 37) t50_37 (by decide) (zk1 (hs.k fk_zMc_19)) (zfvi rfl ((zIo (by decide)).trans ((zIo (by decide)).trans rfl))) ?_
                refine zs_iload_n (pc := 40) t50_40 rfl ?_
                have w17 : zIv cLo cHi (zsI (zsI (zsI M 22 w14n a) 23 w14n b) 24 w14n c) := zIv.put w16 (show (-2147483648) ≤ c.toInt ∧ c.toInt ≤ 2147483647 from zrg c)
                refine zs_iast (pc := 41) t50_41 (j := w14n) (by decide) (zk1 (hs.k fk_zMc_24)) (show (zI M 19 3).toInt = ((w14n : Nat) : Int) by omega) (zk2 (hs.k fk_zMc_24) (by omega)) ?_
                refine zs_aload_n (pc := 42) t50_42 rfl ?_
                refine zs_get (pc := 43) t50_43 (by decide) (zk1 (hs.k fk_zMc_19)) (hs.p rfl fv_zMc_19_7) ?_
                refine zs_aload_n (pc := 46) t50_46 rfl ?_
                refine zs_get (pc := 47) t50_47 (by decide) (zk1 (hs.k fk_zMc_19)) (zfvi rfl ((zIo (by decide)).trans ((zIo (by decide)).trans ((zIo (by decide)).trans rfl)))) ?_
                refine zs_iload (pc := 50) t50_50 rfl ?_
                have w18 : zIv cLo cHi (zsI (zsI (zsI (zsI M 22 w14n a) 23 w14n b) 24 w14n c) 25 w14n d) := zIv.put w17 (show (-2147483648) ≤ d.toInt ∧ d.toInt ≤ 2147483647 from zrg d)
                refine zs_iast (pc := 52) t50_52 (j := w14n) (by decide) (zk1 (hs.k fk_zMc_25)) (show (zI M 19 3).toInt = ((w14n : Nat) : Int) by omega) (zk2 (hs.k fk_zMc_25) (by omega)) ?_
                refine zs_aload_n (pc := 53) t50_53 rfl ?_
                refine zs_dup (pc := 54) t50_54 rfl ?_
                refine zs_get (pc := 55) t50_55 (by decide) (zk1 (hs.k fk_zMc_19)) (zfvi rfl ((zIo (by decide)).trans ((zIo (by decide)).trans ((zIo (by decide)).trans ((zIo (by decide)).trans rfl))))) ?_
                refine zs_iconst (pc := 58) t50_58 (v := 1) (by decide) ?_
                obtain ⟨w19v, w19e, w19⟩ := ziadd (a := (zI M 19 3)) (b := (1 : Int32)) rfl li1 (by omega) (by omega)
                refine zs_iadd (pc := 59) t50_59 (c := w19v) w19e ?_
                have w20 : zIv cLo cHi (zsI (zsI (zsI (zsI (zsI M 22 w14n a) 23 w14n b) 24 w14n c) 25 w14n d) 19 3 w19v) := zIv.put w18 (show 0 ≤ w19v.toInt ∧ w19v.toInt ≤ 60 from ⟨by omega, by omega⟩)
                refine zs_putI (pc := 60) t50_60 (zk1 (hs.k fk_zMc_19)) rfl ?_
                refine zs_aload_n (pc := 63) t50_63 rfl ?_
                refine zs_get (pc := 64) t50_64 (by decide) (zk1 (hs.k fk_zMc_19)) (zfvi rfl zIs) ?_
                refine zs_iconst (pc := 67) t50_67 (v := 1) (by decide) ?_
                obtain ⟨w21v, w21e, w21⟩ := zisub (a := w19v) (b := (1 : Int32)) w19 li1 (by omega) (by omega)
                refine zs_isub (pc := 68) t50_68 (c := w21v) w21e ?_
                have w22 : w19v.toInt = ((zI M 19 3).toInt + 1) := w19
                have w23 : w21v.toInt = (((zI M 19 3).toInt + 1) - 1) := w21
                exact zs_iret (pc := 69) t50_69 mr50 rfl (hQ _ _ hs w20 ((((((zFr.refl).put rfl).put rfl).put rfl).put rfl).put rfl) (Or.inr ⟨⟨by omega, by omega, by omega, by omega, by omega, by omega, by omega⟩, by omega, zSo.hit (n := w14n) x0 rfl rfl rfl rfl (by omega) (by omega) (by omega) (by omega) rfl rfl rfl rfl (by omega)⟩))
theorem S95 {X : zX} {l : Launch} {M : zM} {Q : Option Value → zM → Prop} {a : Int32} (hs : zSk zMc M) (hI : zIv cLo cHi M) {F : Nat → Int} {H : Nat → Nat → Int} {n : Int} {K : Nat → Nat → Int} {T : Nat → Int} (x0 : zSo M 7 F) (x1 : zHC M H n) (x2 : zKC M K T) (x3 : zWF F) (hQ : ∀ (M' : zM) (v : Int32), zSk zMc M' → zIv cLo cHi M' → zFr [(7, 18, none), (31, 154, none), (164, 164, some 0), (325, 325, some 0)] M M' → (((zI M' 164 0).toInt = 0 ∧ (zI M' 325 0).toInt = 0) ∨ (v.toInt = -1 ∧ (zI M' 164 0).toInt = (zI M 164 0).toInt ∧ (zI M' 325 0).toInt = (zI M 325 0).toInt)) → ((v.toInt = -1 ∧ (a.toInt < 2 ∨ 8 < a.toInt) ∧ zSC M' F H n K T) ∨ (2 ≤ a.toInt ∧ a.toInt ≤ 8 ∧ v.toInt = F 8 ∧ zSC M' (uS F 8 a.toInt) (pushH F H) (nP n) K T)) → Q (some (.int v)) M') : zCall X l 4 0 0 95 [.ref 6, .int a] M Q := by
  have ga := zrg a
  refine zs_in (by decide) mf95 (Nat.le_of_ble_eq_true rfl) ?_
  show zGo X l 4 0 0 95 0 [(0, .ref 6), (1, .int a)] [] M _
  have f0 := x0.1
  have w1 := ib7_0 hI
  have w2 : (zI M 7 0).toInt = (zI M 7 0).toInt := (congrArg Int32.toInt rfl).trans rfl
  have w3 := ib7_3 hI
  have w4 : (zI M 7 3).toInt = (zI M 7 3).toInt := (congrArg Int32.toInt rfl).trans rfl
  have w5 := ib7_8 hI
  have w6 : (zI M 7 8).toInt = (zI M 7 8).toInt := (congrArg Int32.toInt rfl).trans rfl
  have f1 := x3.1
  have f3 := x3.2.2.2
  have f2 := (show (zI M 7 0).toInt = F 0 ∧ (zI M 7 3).toInt = F 1 ∧ (zI M 7 8).toInt = F 2 from ⟨x0.1.1, x0.1.2.1, x0.1.2.2.1⟩)
  refine zs_iload_n (pc := 0) t95_0 rfl ?_
  refine zs_iconst (pc := 1) t95_1 (v := 2) (by decide) ?_
  refine zs_bipush (pc := 2) t95_2 (v := 8) (by decide) ?_
  refine zs_invS (pc := 4) (as := [.int a, .int (2 : Int32), .int (8 : Int32)]) (st := []) t95_4 (by decide) mf39 rfl rfl ⟨by decide, by decide, Nat.le_of_ble_eq_true rfl, Nat.le_of_ble_eq_true rfl⟩ (zs_in (by decide) mf39 (Nat.le_of_ble_eq_true rfl) ?_) (fun _ _ q => q)
  show zGo X l 0 0 0 39 0 [(0, .int a), (1, .int (2 : Int32)), (2, .int (8 : Int32))] [] M _
  refine zs_iload_n (pc := 0) t39_0 rfl ?_
  refine zs_iload_n (pc := 1) t39_1 rfl ?_
  by_cases w7 : a.toInt < 2
  · refine zs_icmp_ltT (pc := 2) t39_2 rfl li2 (by omega) ?_
    refine zs_iconst (pc := 14) t39_14 (v := 0) (by decide) ?_
    refine zs_iret (pc := 15) t39_15 mr39 (by decide) ?_
    show zGo X l 4 0 0 95 7 [(0, .ref 6), (1, .int a)] [.int (0 : Int32)] M _
    refine zs_if_neF (pc := 7) t95_7 li0 (by decide) ?_
    refine zs_iconst (pc := 10) t95_10 (v := -1) (by decide) ?_
    have w8 := ib164_0 hI
    have w9 : (zI M 164 0).toInt = (zI M 164 0).toInt := (congrArg Int32.toInt rfl).trans rfl
    have w10 := ib325_0 hI
    have w11 : (zI M 325 0).toInt = (zI M 325 0).toInt := (congrArg Int32.toInt rfl).trans rfl
    have w12 := lin1
    exact zs_iret (pc := 11) t95_11 mr95 (by decide) (hQ _ _ hs hI (zFr.refl) (by omega) (Or.inl ⟨by decide, by omega, x0, x1, x2⟩))
  · refine zs_icmp_ltF (pc := 2) t39_2 rfl li2 (by omega) ?_
    refine zs_iload_n (pc := 5) t39_5 rfl ?_
    refine zs_iload_n (pc := 6) t39_6 rfl ?_
    by_cases w13 : 8 < a.toInt
    · refine zs_icmp_gtT (pc := 7) t39_7 rfl li8 (by omega) ?_
      refine zs_iconst (pc := 14) t39_14 (v := 0) (by decide) ?_
      refine zs_iret (pc := 15) t39_15 mr39 (by decide) ?_
      show zGo X l 4 0 0 95 7 [(0, .ref 6), (1, .int a)] [.int (0 : Int32)] M _
      refine zs_if_neF (pc := 7) t95_7 li0 (by decide) ?_
      refine zs_iconst (pc := 10) t95_10 (v := -1) (by decide) ?_
      have w14 := ib164_0 hI
      have w15 : (zI M 164 0).toInt = (zI M 164 0).toInt := (congrArg Int32.toInt rfl).trans rfl
      have w16 := ib325_0 hI
      have w17 : (zI M 325 0).toInt = (zI M 325 0).toInt := (congrArg Int32.toInt rfl).trans rfl
      have w18 := lin1
      exact zs_iret (pc := 11) t95_11 mr95 (by decide) (hQ _ _ hs hI (zFr.refl) (by omega) (Or.inl ⟨by decide, by omega, x0, x1, x2⟩))
    · refine zs_icmp_gtF (pc := 7) t39_7 rfl li8 (by omega) ?_
      refine zs_iconst (pc := 10) t39_10 (v := 1) (by decide) ?_
      refine zs_goto (pc := 11) t39_11 ?_
      refine zs_iret (pc := 15) t39_15 mr39 (by decide) ?_
      show zGo X l 4 0 0 95 7 [(0, .ref 6), (1, .int a)] [.int (1 : Int32)] M _
      refine zs_if_neT (pc := 7) t95_7 li1 (by decide) ?_
      refine zs_aload_n (pc := 12) t95_12 rfl ?_
      refine zs_get (pc := 13) t95_13 (by decide) (zk1 (hs.k fk_zMc_6)) (hs.p rfl fv_zMc_6_2) ?_
      refine zs_aload_n (pc := 16) t95_16 rfl ?_
      refine zs_get (pc := 17) t95_17 (by decide) (zk1 (hs.k fk_zMc_6)) (hs.p rfl fv_zMc_6_0) ?_
      refine zs_invV (pc := 20) (k := 31) (as' := [.ref 7]) (st := []) t95_20 mf58 rfl rfl (Or.inl ⟨by decide, (zk1 (hs.k fk_zMc_31))⟩) ⟨by decide, by decide, Nat.le_of_ble_eq_true rfl, Nat.le_of_ble_eq_true rfl⟩ (X58_31_7 hs hI x0 x1 ?_) (fun _ _ q => q)
      intro w19M w19s w19I w19F w19x0
      show zGo X l 4 0 0 95 23 [(0, .ref 6), (1, .int a)] [] w19M _
      refine zs_aload_n (pc := 23) t95_23 rfl ?_
      refine zs_invV (pc := 24) (k := 6) (as' := []) (st := []) t95_24 mf59 rfl rfl (Or.inl ⟨by decide, (zk1 (w19s.k fk_zMc_6))⟩) ⟨by decide, by decide, Nat.le_of_ble_eq_true rfl, Nat.le_of_ble_eq_true rfl⟩ (zs_in (by decide) mf59 (Nat.le_of_ble_eq_true rfl) ?_) (fun _ _ q => q)
      show zGo X l 1 0 0 59 0 [(0, .ref 6)] [] w19M _
      refine zs_aload_n (pc := 0) t59_0 rfl ?_
      refine zs_get (pc := 1) t59_1 (by decide) (zk1 (w19s.k fk_zMc_6)) (w19s.p rfl fv_zMc_6_6) ?_
      refine zs_invV (pc := 4) (k := 164) (as' := []) (st := []) t59_4 mf60 rfl rfl (Or.inl ⟨by decide, (zk1 (w19s.k fk_zMc_164))⟩) ⟨by decide, by decide, Nat.le_of_ble_eq_true rfl, Nat.le_of_ble_eq_true rfl⟩ (zs_in (by decide) mf60 (Nat.le_of_ble_eq_true rfl) ?_) (fun _ _ q => q)
      show zGo X l 0 0 0 60 0 [(0, .ref 164)] [] w19M _
      refine zs_aload_n (pc := 0) t60_0 rfl ?_
      refine zs_iconst (pc := 1) t60_1 (v := 0) (by decide) ?_
      have w20 : zIv cLo cHi (zsI w19M 164 0 (0 : Int32)) := zIv.put w19I (show 0 ≤ (0 : Int32).toInt ∧ (0 : Int32).toInt ≤ 1 from ⟨by decide, by decide⟩)
      refine zs_putI (pc := 2) t60_2 (zk1 (w19s.k fk_zMc_164)) (by decide) ?_
      refine zs_vret (pc := 5) t60_5 mr60 ?_
      show zGo X l 1 0 0 59 7 [(0, .ref 6)] [] (zsI w19M 164 0 (0 : Int32)) _
      refine zs_aload_n (pc := 7) t59_7 rfl ?_
      refine zs_get (pc := 8) t59_8 (by decide) (zk1 (w19s.k fk_zMc_6)) (w19s.p rfl fv_zMc_6_7) ?_
      refine zs_invV (pc := 11) (k := 325) (as' := []) (st := []) t59_11 mf61 rfl rfl (Or.inl ⟨by decide, (zk1 (w19s.k fk_zMc_325))⟩) ⟨by decide, by decide, Nat.le_of_ble_eq_true rfl, Nat.le_of_ble_eq_true rfl⟩ (zs_in (by decide) mf61 (Nat.le_of_ble_eq_true rfl) ?_) (fun _ _ q => q)
      show zGo X l 0 0 0 61 0 [(0, .ref 325)] [] (zsI w19M 164 0 (0 : Int32)) _
      refine zs_aload_n (pc := 0) t61_0 rfl ?_
      refine zs_iconst (pc := 1) t61_1 (v := 0) (by decide) ?_
      have w21 : zIv cLo cHi (zsI (zsI w19M 164 0 (0 : Int32)) 325 0 (0 : Int32)) := zIv.put w20 (show 0 ≤ (0 : Int32).toInt ∧ (0 : Int32).toInt ≤ 1 from ⟨by decide, by decide⟩)
      refine zs_putI (pc := 2) t61_2 (zk1 (w19s.k fk_zMc_325)) (by decide) ?_
      refine zs_vret (pc := 5) t61_5 mr61 ?_
      show zGo X l 1 0 0 59 14 [(0, .ref 6)] [] (zsI (zsI w19M 164 0 (0 : Int32)) 325 0 (0 : Int32)) _
      refine zs_vret (pc := 14) t59_14 mr59 ?_
      show zGo X l 4 0 0 95 27 [(0, .ref 6), (1, .int a)] [] (zsI (zsI w19M 164 0 (0 : Int32)) 325 0 (0 : Int32)) _
      refine zs_aload_n (pc := 27) t95_27 rfl ?_
      refine zs_get (pc := 28) t95_28 (by decide) (zk1 (w19s.k fk_zMc_6)) (w19s.p rfl fv_zMc_6_0) ?_
      refine zs_iconst (pc := 31) t95_31 (v := 3) (by decide) ?_
      refine zs_invV (pc := 32) (k := 7) (as' := [.int (3 : Int32)]) (st := []) t95_32 mf96 rfl rfl (Or.inl ⟨by decide, (zk1 (w19s.k fk_zMc_7))⟩) ⟨by decide, by decide, Nat.le_of_ble_eq_true rfl, Nat.le_of_ble_eq_true rfl⟩ (zs_in (by decide) mf96 (Nat.le_of_ble_eq_true rfl) ?_) (fun _ _ q => q)
      show zGo X l 0 0 0 96 0 [(0, .ref 7), (1, .int (3 : Int32))] [] (zsI (zsI w19M 164 0 (0 : Int32)) 325 0 (0 : Int32)) _
      refine zs_iload_n (pc := 0) t96_0 rfl ?_
      refine zs_if_ltF (pc := 1) t96_1 li3 (by decide) ?_
      refine zs_iload_n (pc := 4) t96_4 rfl ?_
      refine zs_bipush (pc := 5) t96_5 (v := 9) (by decide) ?_
      refine zs_icmp_geF (pc := 7) t96_7 li3 li9 (by decide) ?_
      refine zs_aload_n (pc := 10) t96_10 rfl ?_
      refine zs_get (pc := 11) t96_11 (by decide) (zk1 (w19s.k fk_zMc_7)) (w19s.p rfl fv_zMc_7_12) ?_
      refine zs_iload_n (pc := 14) t96_14 rfl ?_
      have w22 := ib17 hI 3
      have w23 : (zI M 17 3).toInt = F 8 := x0.2.2.2.2.1 3 (by decide)
      refine zs_iald (pc := 15) t96_15 (j := 3) (by decide) (zk1 (w19s.k fk_zMc_17)) li3 (zk2 (w19s.k fk_zMc_17) (by decide)) ((zIo (by decide)).trans ((zIo (by decide)).trans ((w19F 17 3 rfl).trans rfl))) ?_
      refine zs_goto (pc := 16) t96_16 ?_
      refine zs_iret (pc := 20) t96_20 mr96 rfl ?_
      show zGo X l 4 0 0 95 35 [(0, .ref 6), (1, .int a)] [.int (zI M 17 3)] (zsI (zsI w19M 164 0 (0 : Int32)) 325 0 (0 : Int32)) _
      refine zs_istore_n (pc := 35) t95_35 (ls' := [(2, .int (zI M 17 3)), (0, .ref 6), (1, .int a)]) (zml mf95 (by decide)) rfl ?_
      refine zs_aload_n (pc := 36) t95_36 rfl ?_
      refine zs_get (pc := 37) t95_37 (by decide) (zk1 (w19s.k fk_zMc_6)) (w19s.p rfl fv_zMc_6_0) ?_
      refine zs_iconst (pc := 40) t95_40 (v := 3) (by decide) ?_
      refine zs_iload_n (pc := 41) t95_41 rfl ?_
      refine zs_invV (pc := 42) (k := 7) (as' := [.int (3 : Int32), .int a]) (st := []) t95_42 mf56 rfl rfl (Or.inl ⟨by decide, (zk1 (w19s.k fk_zMc_7))⟩) ⟨by decide, by decide, Nat.le_of_ble_eq_true rfl, Nat.le_of_ble_eq_true rfl⟩ (zs_in (by decide) mf56 (Nat.le_of_ble_eq_true rfl) ?_) (fun _ _ q => q)
      show zGo X l 0 0 0 56 0 [(0, .ref 7), (1, .int (3 : Int32)), (2, .int a)] [] (zsI (zsI w19M 164 0 (0 : Int32)) 325 0 (0 : Int32)) _
      refine zs_iload_n (pc := 0) t56_0 rfl ?_
      refine zs_if_ltF (pc := 1) t56_1 li3 (by decide) ?_
      refine zs_iload_n (pc := 4) t56_4 rfl ?_
      refine zs_bipush (pc := 5) t56_5 (v := 9) (by decide) ?_
      refine zs_icmp_geF (pc := 7) t56_7 li3 li9 (by decide) ?_
      refine zs_aload_n (pc := 10) t56_10 rfl ?_
      refine zs_get (pc := 11) t56_11 (by decide) (zk1 (w19s.k fk_zMc_7)) (w19s.p rfl fv_zMc_7_12) ?_
      refine zs_iload_n (pc := 14) t56_14 rfl ?_
      refine zs_iload_n (pc := 15) t56_15 rfl ?_
      have w24 : zIv cLo cHi (zsI (zsI (zsI w19M 164 0 (0 : Int32)) 325 0 (0 : Int32)) 17 3 a) := zIv.put w21 (show (-300000) ≤ a.toInt ∧ a.toInt ≤ 300000 from ⟨by omega, by omega⟩)
      have w25 : zSo (zsI (zsI (zsI w19M 164 0 (0 : Int32)) 325 0 (0 : Int32)) 17 3 a) 7 (uS F (5 + 3) a.toInt) := zSo.se (zSo.fr x0 (zEq.tr (zEq.tr (zFr.eq w19F rfl) (zEq.put rfl)) (zEq.put rfl))) rfl (by decide) rfl
      refine zs_iast (pc := 16) t56_16 (j := 3) (by decide) (zk1 (w19s.k fk_zMc_17)) li3 (zk2 (w19s.k fk_zMc_17) (by decide)) ?_
      refine zs_vret (pc := 17) t56_17 mr56 ?_
      show zGo X l 4 0 0 95 45 [(2, .int (zI M 17 3)), (0, .ref 6), (1, .int a)] [] (zsI (zsI (zsI w19M 164 0 (0 : Int32)) 325 0 (0 : Int32)) 17 3 a) _
      refine zs_iload_n (pc := 45) t95_45 rfl ?_
      have w26 : (zI (zsI (zsI (zsI w19M 164 0 (0 : Int32)) 325 0 (0 : Int32)) 17 3 a) 164 0).toInt = 0 := (congrArg Int32.toInt ((zIo (by decide)).trans ((zIo (by decide)).trans zIs))).trans li0
      have w27 : (zI (zsI (zsI (zsI w19M 164 0 (0 : Int32)) 325 0 (0 : Int32)) 17 3 a) 325 0).toInt = 0 := (congrArg Int32.toInt ((zIo (by decide)).trans zIs)).trans li0
      have f5 : (zI M 17 3).toInt = F 8 := x0.2.2.2.2.1 3 (by decide)
      exact zs_iret (pc := 46) t95_46 mr95 rfl (hQ _ _ w19s w24 (((((zFr.refl).trans (w19F.mono rfl)).put rfl).put rfl).put rfl) (by omega) (Or.inr ⟨by omega, by omega, by omega, w25, (zHC.fr w19x0 (zEq.tr (zEq.tr (zEq.put rfl) (zEq.put rfl)) (zEq.put rfl))), (zKC.fr x2 (zEq.tr (zEq.tr (zEq.tr (zFr.eq w19F rfl) (zEq.put rfl)) (zEq.put rfl)) (zEq.put rfl)))⟩))
theorem S94 {X : zX} {l : Launch} {M : zM} {Q : Option Value → zM → Prop} {a : Int32} (hs : zSk zMc M) (hI : zIv cLo cHi M) {F : Nat → Int} {H : Nat → Nat → Int} {n : Int} {K : Nat → Nat → Int} {T : Nat → Int} (x0 : zSo M 7 F) (x1 : zHC M H n) (x2 : zKC M K T) (x3 : zWF F) (hQ : ∀ (M' : zM) (v : Int32), zSk zMc M' → zIv cLo cHi M' → zFr [(7, 18, none), (31, 154, none), (164, 164, some 0), (325, 325, some 0)] M M' → (((zI M' 164 0).toInt = 0 ∧ (zI M' 325 0).toInt = 0) ∨ (v.toInt = -1 ∧ (zI M' 164 0).toInt = (zI M 164 0).toInt ∧ (zI M' 325 0).toInt = (zI M 325 0).toInt)) → ((v.toInt = -1 ∧ (a.toInt < 0 ∨ F 0 ≤ a.toInt) ∧ zSC M' F H n K T) ∨ (0 ≤ a.toInt ∧ a.toInt < F 0 ∧ v.toInt = 1 - F (15 + 2 * a.toInt.toNat) ∧ zSC M' (uS F (15 + 2 * a.toInt.toNat) v.toInt) (pushH F H) (nP n) K T)) → Q (some (.int v)) M') : zCall X l 4 0 0 94 [.ref 6, .int a] M Q := by
  have ga := zrg a
  refine zs_in (by decide) mf94 (Nat.le_of_ble_eq_true rfl) ?_
  show zGo X l 4 0 0 94 0 [(0, .ref 6), (1, .int a)] [] M _
  have f0 := x0.1
  have w1 := ib7_0 hI
  have w2 : (zI M 7 0).toInt = (zI M 7 0).toInt := (congrArg Int32.toInt rfl).trans rfl
  have w3 := ib7_3 hI
  have w4 : (zI M 7 3).toInt = (zI M 7 3).toInt := (congrArg Int32.toInt rfl).trans rfl
  have w5 := ib7_8 hI
  have w6 : (zI M 7 8).toInt = (zI M 7 8).toInt := (congrArg Int32.toInt rfl).trans rfl
  have f1 := x3.1
  have f3 := x3.2.2.2
  have f2 := (show (zI M 7 0).toInt = F 0 ∧ (zI M 7 3).toInt = F 1 ∧ (zI M 7 8).toInt = F 2 from ⟨x0.1.1, x0.1.2.1, x0.1.2.2.1⟩)
  refine zs_aload_n (pc := 0) t94_0 rfl ?_
  refine zs_get (pc := 1) t94_1 (by decide) (zk1 (hs.k fk_zMc_6)) (hs.p rfl fv_zMc_6_0) ?_
  refine zs_iload_n (pc := 4) t94_4 rfl ?_
  refine zs_invV (pc := 5) (k := 7) (as' := [.int a]) (st := []) t94_5 mf41 rfl rfl (Or.inl ⟨by decide, (zk1 (hs.k fk_zMc_7))⟩) ⟨by decide, by decide, Nat.le_of_ble_eq_true rfl, Nat.le_of_ble_eq_true rfl⟩ (zs_in (by decide) mf41 (Nat.le_of_ble_eq_true rfl) ?_) (fun _ _ q => q)
  show zGo X l 0 0 0 41 0 [(0, .ref 7), (1, .int a)] [] M _
  refine zs_iload_n (pc := 0) t41_0 rfl ?_
  by_cases w7 : a.toInt < 0
  · refine zs_if_ltT (pc := 1) t41_1 rfl (by omega) ?_
    refine zs_iconst (pc := 16) t41_16 (v := 0) (by decide) ?_
    refine zs_iret (pc := 17) t41_17 mr41 (by decide) ?_
    show zGo X l 4 0 0 94 8 [(0, .ref 6), (1, .int a)] [.int (0 : Int32)] M _
    refine zs_if_neF (pc := 8) t94_8 li0 (by decide) ?_
    refine zs_iconst (pc := 11) t94_11 (v := -1) (by decide) ?_
    have w8 := ib164_0 hI
    have w9 : (zI M 164 0).toInt = (zI M 164 0).toInt := (congrArg Int32.toInt rfl).trans rfl
    have w10 := ib325_0 hI
    have w11 : (zI M 325 0).toInt = (zI M 325 0).toInt := (congrArg Int32.toInt rfl).trans rfl
    have w12 := lin1
    exact zs_iret (pc := 12) t94_12 mr94 (by decide) (hQ _ _ hs hI (zFr.refl) (by omega) (Or.inl ⟨by decide, by omega, x0, x1, x2⟩))
  · refine zs_if_ltF (pc := 1) t41_1 rfl (by omega) ?_
    refine zs_iload_n (pc := 4) t41_4 rfl ?_
    refine zs_aload_n (pc := 5) t41_5 rfl ?_
    refine zs_get (pc := 6) t41_6 (by decide) (zk1 (hs.k fk_zMc_7)) (zfvi rfl rfl) ?_
    by_cases w13 : (zI M 7 0).toInt ≤ a.toInt
    · refine zs_icmp_geT (pc := 9) t41_9 rfl rfl (by omega) ?_
      refine zs_iconst (pc := 16) t41_16 (v := 0) (by decide) ?_
      refine zs_iret (pc := 17) t41_17 mr41 (by decide) ?_
      show zGo X l 4 0 0 94 8 [(0, .ref 6), (1, .int a)] [.int (0 : Int32)] M _
      refine zs_if_neF (pc := 8) t94_8 li0 (by decide) ?_
      refine zs_iconst (pc := 11) t94_11 (v := -1) (by decide) ?_
      have w14 := ib164_0 hI
      have w15 : (zI M 164 0).toInt = (zI M 164 0).toInt := (congrArg Int32.toInt rfl).trans rfl
      have w16 := ib325_0 hI
      have w17 : (zI M 325 0).toInt = (zI M 325 0).toInt := (congrArg Int32.toInt rfl).trans rfl
      have w18 := lin1
      exact zs_iret (pc := 12) t94_12 mr94 (by decide) (hQ _ _ hs hI (zFr.refl) (by omega) (Or.inl ⟨by decide, by omega, x0, x1, x2⟩))
    · refine zs_icmp_geF (pc := 9) t41_9 rfl rfl (by omega) ?_
      refine zs_iconst (pc := 12) t41_12 (v := 1) (by decide) ?_
      refine zs_goto (pc := 13) t41_13 ?_
      refine zs_iret (pc := 17) t41_17 mr41 (by decide) ?_
      show zGo X l 4 0 0 94 8 [(0, .ref 6), (1, .int a)] [.int (1 : Int32)] M _
      refine zs_if_neT (pc := 8) t94_8 li1 (by decide) ?_
      refine zs_aload_n (pc := 13) t94_13 rfl ?_
      refine zs_get (pc := 14) t94_14 (by decide) (zk1 (hs.k fk_zMc_6)) (hs.p rfl fv_zMc_6_2) ?_
      refine zs_aload_n (pc := 17) t94_17 rfl ?_
      refine zs_get (pc := 18) t94_18 (by decide) (zk1 (hs.k fk_zMc_6)) (hs.p rfl fv_zMc_6_0) ?_
      refine zs_invV (pc := 21) (k := 31) (as' := [.ref 7]) (st := []) t94_21 mf58 rfl rfl (Or.inl ⟨by decide, (zk1 (hs.k fk_zMc_31))⟩) ⟨by decide, by decide, Nat.le_of_ble_eq_true rfl, Nat.le_of_ble_eq_true rfl⟩ (X58_31_7 hs hI x0 x1 ?_) (fun _ _ q => q)
      intro w19M w19s w19I w19F w19x0
      show zGo X l 4 0 0 94 24 [(0, .ref 6), (1, .int a)] [] w19M _
      refine zs_aload_n (pc := 24) t94_24 rfl ?_
      refine zs_invV (pc := 25) (k := 6) (as' := []) (st := []) t94_25 mf59 rfl rfl (Or.inl ⟨by decide, (zk1 (w19s.k fk_zMc_6))⟩) ⟨by decide, by decide, Nat.le_of_ble_eq_true rfl, Nat.le_of_ble_eq_true rfl⟩ (zs_in (by decide) mf59 (Nat.le_of_ble_eq_true rfl) ?_) (fun _ _ q => q)
      show zGo X l 1 0 0 59 0 [(0, .ref 6)] [] w19M _
      refine zs_aload_n (pc := 0) t59_0 rfl ?_
      refine zs_get (pc := 1) t59_1 (by decide) (zk1 (w19s.k fk_zMc_6)) (w19s.p rfl fv_zMc_6_6) ?_
      refine zs_invV (pc := 4) (k := 164) (as' := []) (st := []) t59_4 mf60 rfl rfl (Or.inl ⟨by decide, (zk1 (w19s.k fk_zMc_164))⟩) ⟨by decide, by decide, Nat.le_of_ble_eq_true rfl, Nat.le_of_ble_eq_true rfl⟩ (zs_in (by decide) mf60 (Nat.le_of_ble_eq_true rfl) ?_) (fun _ _ q => q)
      show zGo X l 0 0 0 60 0 [(0, .ref 164)] [] w19M _
      refine zs_aload_n (pc := 0) t60_0 rfl ?_
      refine zs_iconst (pc := 1) t60_1 (v := 0) (by decide) ?_
      have w20 : zIv cLo cHi (zsI w19M 164 0 (0 : Int32)) := zIv.put w19I (show 0 ≤ (0 : Int32).toInt ∧ (0 : Int32).toInt ≤ 1 from ⟨by decide, by decide⟩)
      refine zs_putI (pc := 2) t60_2 (zk1 (w19s.k fk_zMc_164)) (by decide) ?_
      refine zs_vret (pc := 5) t60_5 mr60 ?_
      show zGo X l 1 0 0 59 7 [(0, .ref 6)] [] (zsI w19M 164 0 (0 : Int32)) _
      refine zs_aload_n (pc := 7) t59_7 rfl ?_
      refine zs_get (pc := 8) t59_8 (by decide) (zk1 (w19s.k fk_zMc_6)) (w19s.p rfl fv_zMc_6_7) ?_
      refine zs_invV (pc := 11) (k := 325) (as' := []) (st := []) t59_11 mf61 rfl rfl (Or.inl ⟨by decide, (zk1 (w19s.k fk_zMc_325))⟩) ⟨by decide, by decide, Nat.le_of_ble_eq_true rfl, Nat.le_of_ble_eq_true rfl⟩ (zs_in (by decide) mf61 (Nat.le_of_ble_eq_true rfl) ?_) (fun _ _ q => q)
      show zGo X l 0 0 0 61 0 [(0, .ref 325)] [] (zsI w19M 164 0 (0 : Int32)) _
      refine zs_aload_n (pc := 0) t61_0 rfl ?_
      refine zs_iconst (pc := 1) t61_1 (v := 0) (by decide) ?_
      have w21 : zIv cLo cHi (zsI (zsI w19M 164 0 (0 : Int32)) 325 0 (0 : Int32)) := zIv.put w20 (show 0 ≤ (0 : Int32).toInt ∧ (0 : Int32).toInt ≤ 1 from ⟨by decide, by decide⟩)
      refine zs_putI (pc := 2) t61_2 (zk1 (w19s.k fk_zMc_325)) (by decide) ?_
      refine zs_vret (pc := 5) t61_5 mr61 ?_
      show zGo X l 1 0 0 59 14 [(0, .ref 6)] [] (zsI (zsI w19M 164 0 (0 : Int32)) 325 0 (0 : Int32)) _
      refine zs_vret (pc := 14) t59_14 mr59 ?_
      show zGo X l 4 0 0 94 28 [(0, .ref 6), (1, .int a)] [] (zsI (zsI w19M 164 0 (0 : Int32)) 325 0 (0 : Int32)) _
      refine zs_aload_n (pc := 28) t94_28 rfl ?_
      refine zs_get (pc := 29) t94_29 (by decide) (zk1 (w19s.k fk_zMc_6)) (w19s.p rfl fv_zMc_6_0) ?_
      refine zs_get (pc := 32) t94_32 (by decide) (zk1 (w19s.k fk_zMc_7)) (w19s.p rfl fv_zMc_7_2) ?_
      refine zs_iload_n (pc := 35) t94_35 rfl ?_
      refine zs_aload_n (pc := 36) t94_36 rfl ?_
      refine zs_get (pc := 37) t94_37 (by decide) (zk1 (w19s.k fk_zMc_6)) (w19s.p rfl fv_zMc_6_0) ?_
      refine zs_get (pc := 40) t94_40 (by decide) (zk1 (w19s.k fk_zMc_7)) (w19s.p rfl fv_zMc_7_2) ?_
      refine zs_iload_n (pc := 43) t94_43 rfl ?_
      obtain ⟨w22n, w22⟩ : ∃ n : Nat, a.toInt = (n : Int) := ⟨(a.toInt).toNat, by omega⟩
      have w23 := ib9 hI w22n
      have w24 : (zI M 8 w22n).toInt = F (14 + 2 * w22n) ∧ (zI M 9 w22n).toInt = F (15 + 2 * w22n) := x0.2.1 w22n (by omega)
      have w25 := x3.2.1 w22n (by omega)
      refine zs_bald (pc := 44) t94_44 (j := w22n) (Or.inr (zk1 (w19s.k fk_zMc_9))) (show a.toInt = ((w22n : Nat) : Int) by omega) (zk2 (w19s.k fk_zMc_9) (by omega)) ((zIo (by decide)).trans ((zIo (by decide)).trans ((w19F 9 w22n rfl).trans rfl))) ?_
      by_cases w26 : (zI M 9 w22n).toInt ≠ 0
      · refine zs_if_neT (pc := 45) t94_45 rfl (by omega) ?_
        refine zs_iconst (pc := 52) t94_52 (v := 0) (by decide) ?_
        have w27e : vp_nar .boolean (0 : Int32) = (0 : Int32) := by decide
        have w28 : zIv cLo cHi (zsI (zsI (zsI w19M 164 0 (0 : Int32)) 325 0 (0 : Int32)) 9 w22n (0 : Int32)) := zIv.put w21 (show 0 ≤ (0 : Int32).toInt ∧ (0 : Int32).toInt ≤ 1 from ⟨by decide, by decide⟩)
        have w29 : zSo (zsI (zsI (zsI w19M 164 0 (0 : Int32)) 325 0 (0 : Int32)) 9 w22n (0 : Int32)) 7 (uS F (15 + 2 * w22n) (0 : Int32).toInt) := zSo.al (zSo.fr x0 (zEq.tr (zEq.tr (zFr.eq w19F rfl) (zEq.put rfl)) (zEq.put rfl))) rfl (by omega) (by omega) rfl
        refine zs_bastZ (pc := 53) t94_53 (j := w22n) (by decide) (zk1 (w19s.k fk_zMc_9)) (show a.toInt = ((w22n : Nat) : Int) by omega) (zk2 (w19s.k fk_zMc_9) (by omega)) w27e ?_
        refine zs_aload_n (pc := 54) t94_54 rfl ?_
        refine zs_get (pc := 55) t94_55 (by decide) (zk1 (w19s.k fk_zMc_6)) (w19s.p rfl fv_zMc_6_0) ?_
        refine zs_get (pc := 58) t94_58 (by decide) (zk1 (w19s.k fk_zMc_7)) (w19s.p rfl fv_zMc_7_2) ?_
        refine zs_iload_n (pc := 61) t94_61 rfl ?_
        refine zs_bald (pc := 62) t94_62 (j := w22n) (Or.inr (zk1 (w19s.k fk_zMc_9))) (show a.toInt = ((w22n : Nat) : Int) by omega) (zk2 (w19s.k fk_zMc_9) (by omega)) zIs ?_
        refine zs_if_eqT (pc := 63) t94_63 li0 (by decide) ?_
        refine zs_iconst (pc := 70) t94_70 (v := 0) (by decide) ?_
        have w30 : (zI (zsI (zsI (zsI w19M 164 0 (0 : Int32)) 325 0 (0 : Int32)) 9 w22n (0 : Int32)) 164 0).toInt = 0 := (congrArg Int32.toInt ((zIo (by decide)).trans ((zIo (by decide)).trans zIs))).trans li0
        have w31 : (zI (zsI (zsI (zsI w19M 164 0 (0 : Int32)) 325 0 (0 : Int32)) 9 w22n (0 : Int32)) 325 0).toInt = 0 := (congrArg Int32.toInt ((zIo (by decide)).trans zIs)).trans li0
        have w32 := li0
        have w33 : (0 : Int32).toInt = 0 := li0
        exact zs_iret (pc := 71) t94_71 mr94 (by decide) (hQ _ _ w19s w28 (((((zFr.refl).trans (w19F.mono rfl)).put rfl).put rfl).put rfl) (by omega) (Or.inr ⟨by omega, by omega, by rw [show a.toInt.toNat = w22n by omega]; omega, by rw [show a.toInt.toNat = w22n by omega]; exact ⟨w29, (zHC.fr w19x0 (zEq.tr (zEq.tr (zEq.put rfl) (zEq.put rfl)) (zEq.put rfl))), (zKC.fr x2 (zEq.tr (zEq.tr (zEq.tr (zFr.eq w19F rfl) (zEq.put rfl)) (zEq.put rfl)) (zEq.put rfl)))⟩⟩))
      · refine zs_if_neF (pc := 45) t94_45 rfl (by omega) ?_
        refine zs_iconst (pc := 48) t94_48 (v := 1) (by decide) ?_
        refine zs_goto (pc := 49) t94_49 ?_
        have w34e : vp_nar .boolean (1 : Int32) = (1 : Int32) := by decide
        have w35 : zIv cLo cHi (zsI (zsI (zsI w19M 164 0 (0 : Int32)) 325 0 (0 : Int32)) 9 w22n (1 : Int32)) := zIv.put w21 (show 0 ≤ (1 : Int32).toInt ∧ (1 : Int32).toInt ≤ 1 from ⟨by decide, by decide⟩)
        have w36 : zSo (zsI (zsI (zsI w19M 164 0 (0 : Int32)) 325 0 (0 : Int32)) 9 w22n (1 : Int32)) 7 (uS F (15 + 2 * w22n) (1 : Int32).toInt) := zSo.al (zSo.fr x0 (zEq.tr (zEq.tr (zFr.eq w19F rfl) (zEq.put rfl)) (zEq.put rfl))) rfl (by omega) (by omega) rfl
        refine zs_bastZ (pc := 53) t94_53 (j := w22n) (by decide) (zk1 (w19s.k fk_zMc_9)) (show a.toInt = ((w22n : Nat) : Int) by omega) (zk2 (w19s.k fk_zMc_9) (by omega)) w34e ?_
        refine zs_aload_n (pc := 54) t94_54 rfl ?_
        refine zs_get (pc := 55) t94_55 (by decide) (zk1 (w19s.k fk_zMc_6)) (w19s.p rfl fv_zMc_6_0) ?_
        refine zs_get (pc := 58) t94_58 (by decide) (zk1 (w19s.k fk_zMc_7)) (w19s.p rfl fv_zMc_7_2) ?_
        refine zs_iload_n (pc := 61) t94_61 rfl ?_
        refine zs_bald (pc := 62) t94_62 (j := w22n) (Or.inr (zk1 (w19s.k fk_zMc_9))) (show a.toInt = ((w22n : Nat) : Int) by omega) (zk2 (w19s.k fk_zMc_9) (by omega)) zIs ?_
        refine zs_if_eqF (pc := 63) t94_63 li1 (by decide) ?_
        refine zs_iconst (pc := 66) t94_66 (v := 1) (by decide) ?_
        refine zs_goto (pc := 67) t94_67 ?_
        have w37 : (zI (zsI (zsI (zsI w19M 164 0 (0 : Int32)) 325 0 (0 : Int32)) 9 w22n (1 : Int32)) 164 0).toInt = 0 := (congrArg Int32.toInt ((zIo (by decide)).trans ((zIo (by decide)).trans zIs))).trans li0
        have w38 : (zI (zsI (zsI (zsI w19M 164 0 (0 : Int32)) 325 0 (0 : Int32)) 9 w22n (1 : Int32)) 325 0).toInt = 0 := (congrArg Int32.toInt ((zIo (by decide)).trans zIs)).trans li0
        have w39 := li1
        have w40 : (1 : Int32).toInt = 1 := li1
        exact zs_iret (pc := 71) t94_71 mr94 (by decide) (hQ _ _ w19s w35 (((((zFr.refl).trans (w19F.mono rfl)).put rfl).put rfl).put rfl) (by omega) (Or.inr ⟨by omega, by omega, by rw [show a.toInt.toNat = w22n by omega]; omega, by rw [show a.toInt.toNat = w22n by omega]; exact ⟨w36, (zHC.fr w19x0 (zEq.tr (zEq.tr (zEq.put rfl) (zEq.put rfl)) (zEq.put rfl))), (zKC.fr x2 (zEq.tr (zEq.tr (zEq.tr (zFr.eq w19F rfl) (zEq.put rfl)) (zEq.put rfl)) (zEq.put rfl)))⟩⟩))
theorem S90 {X : zX} {l : Launch} {M : zM} {Q : Option Value → zM → Prop} {a : Int32} (hs : zSk zMc M) (hI : zIv cLo cHi M) {F : Nat → Int} {H : Nat → Nat → Int} {n : Int} {K : Nat → Nat → Int} {T : Nat → Int} (x0 : zSo M 7 F) (x1 : zHC M H n) (x2 : zKC M K T) (x3 : zWF F) (hQ : ∀ (M' : zM) (v : Int32), zSk zMc M' → zIv cLo cHi M' → zFr [(7, 18, none), (31, 154, none), (164, 164, some 0), (325, 325, some 0)] M M' → (((zI M' 164 0).toInt = 0 ∧ (zI M' 325 0).toInt = 0) ∨ (v.toInt = -1 ∧ (zI M' 164 0).toInt = (zI M 164 0).toInt ∧ (zI M' 325 0).toInt = (zI M 325 0).toInt)) → ((v.toInt = -1 ∧ (a.toInt < 0 ∨ F 1 ≤ a.toInt ∨ F (32 + 4 * a.toInt.toNat) < 0) ∧ zSC M' F H n K T) ∨ (0 ≤ a.toInt ∧ a.toInt < F 1 ∧ 0 ≤ F (32 + 4 * a.toInt.toNat) ∧ v.toInt = pct (zctb (uS F (32 + 4 * a.toInt.toNat) (-1))) ((uS F (32 + 4 * a.toInt.toNat) (-1)) 1).toNat ∧ zSC M' (uS F (32 + 4 * a.toInt.toNat) (-1)) (pushH F H) (nP n) K T)) → Q (some (.int v)) M') : zCall X l 4 0 0 90 [.ref 6, .int a] M Q := by
  have ga := zrg a
  refine zs_in (by decide) mf90 (Nat.le_of_ble_eq_true rfl) ?_
  show zGo X l 4 0 0 90 0 [(0, .ref 6), (1, .int a)] [] M _
  have f0 := x0.1
  have w1 := ib7_0 hI
  have w2 : (zI M 7 0).toInt = (zI M 7 0).toInt := (congrArg Int32.toInt rfl).trans rfl
  have w3 := ib7_3 hI
  have w4 : (zI M 7 3).toInt = (zI M 7 3).toInt := (congrArg Int32.toInt rfl).trans rfl
  have w5 := ib7_8 hI
  have w6 : (zI M 7 8).toInt = (zI M 7 8).toInt := (congrArg Int32.toInt rfl).trans rfl
  have f1 := x3.1
  have f3 := x3.2.2.2
  have f2 := (show (zI M 7 0).toInt = F 0 ∧ (zI M 7 3).toInt = F 1 ∧ (zI M 7 8).toInt = F 2 from ⟨x0.1.1, x0.1.2.1, x0.1.2.2.1⟩)
  refine zs_aload_n (pc := 0) t90_0 rfl ?_
  refine zs_get (pc := 1) t90_1 (by decide) (zk1 (hs.k fk_zMc_6)) (hs.p rfl fv_zMc_6_0) ?_
  refine zs_iload_n (pc := 4) t90_4 rfl ?_
  refine zs_invV (pc := 5) (k := 7) (as' := [.int a]) (st := []) t90_5 mf91 rfl rfl (Or.inl ⟨by decide, (zk1 (hs.k fk_zMc_7))⟩) ⟨by decide, by decide, Nat.le_of_ble_eq_true rfl, Nat.le_of_ble_eq_true rfl⟩ (zs_in (by decide) mf91 (Nat.le_of_ble_eq_true rfl) ?_) (fun _ _ q => q)
  show zGo X l 0 0 0 91 0 [(0, .ref 7), (1, .int a)] [] M _
  refine zs_iload_n (pc := 0) t91_0 rfl ?_
  by_cases w7 : a.toInt < 0
  · refine zs_if_ltT (pc := 1) t91_1 rfl (by omega) ?_
    refine zs_iconst (pc := 16) t91_16 (v := 0) (by decide) ?_
    refine zs_iret (pc := 17) t91_17 mr91 (by decide) ?_
    show zGo X l 4 0 0 90 8 [(0, .ref 6), (1, .int a)] [.int (0 : Int32)] M _
    refine zs_if_eqT (pc := 8) t90_8 li0 (by decide) ?_
    refine zs_iconst (pc := 23) t90_23 (v := -1) (by decide) ?_
    have w8 := ib164_0 hI
    have w9 : (zI M 164 0).toInt = (zI M 164 0).toInt := (congrArg Int32.toInt rfl).trans rfl
    have w10 := ib325_0 hI
    have w11 : (zI M 325 0).toInt = (zI M 325 0).toInt := (congrArg Int32.toInt rfl).trans rfl
    have w12 := lin1
    exact zs_iret (pc := 24) t90_24 mr90 (by decide) (hQ _ _ hs hI (zFr.refl) (by omega) (Or.inl ⟨by decide, by omega, x0, x1, x2⟩))
  · refine zs_if_ltF (pc := 1) t91_1 rfl (by omega) ?_
    refine zs_iload_n (pc := 4) t91_4 rfl ?_
    refine zs_aload_n (pc := 5) t91_5 rfl ?_
    refine zs_get (pc := 6) t91_6 (by decide) (zk1 (hs.k fk_zMc_7)) (zfvi rfl rfl) ?_
    by_cases w13 : (zI M 7 3).toInt ≤ a.toInt
    · refine zs_icmp_geT (pc := 9) t91_9 rfl rfl (by omega) ?_
      refine zs_iconst (pc := 16) t91_16 (v := 0) (by decide) ?_
      refine zs_iret (pc := 17) t91_17 mr91 (by decide) ?_
      show zGo X l 4 0 0 90 8 [(0, .ref 6), (1, .int a)] [.int (0 : Int32)] M _
      refine zs_if_eqT (pc := 8) t90_8 li0 (by decide) ?_
      refine zs_iconst (pc := 23) t90_23 (v := -1) (by decide) ?_
      have w14 := ib164_0 hI
      have w15 : (zI M 164 0).toInt = (zI M 164 0).toInt := (congrArg Int32.toInt rfl).trans rfl
      have w16 := ib325_0 hI
      have w17 : (zI M 325 0).toInt = (zI M 325 0).toInt := (congrArg Int32.toInt rfl).trans rfl
      have w18 := lin1
      exact zs_iret (pc := 24) t90_24 mr90 (by decide) (hQ _ _ hs hI (zFr.refl) (by omega) (Or.inl ⟨by decide, by omega, x0, x1, x2⟩))
    · refine zs_icmp_geF (pc := 9) t91_9 rfl rfl (by omega) ?_
      refine zs_iconst (pc := 12) t91_12 (v := 1) (by decide) ?_
      refine zs_goto (pc := 13) t91_13 ?_
      refine zs_iret (pc := 17) t91_17 mr91 (by decide) ?_
      show zGo X l 4 0 0 90 8 [(0, .ref 6), (1, .int a)] [.int (1 : Int32)] M _
      refine zs_if_eqF (pc := 8) t90_8 li1 (by decide) ?_
      refine zs_aload_n (pc := 11) t90_11 rfl ?_
      refine zs_get (pc := 12) t90_12 (by decide) (zk1 (hs.k fk_zMc_6)) (hs.p rfl fv_zMc_6_0) ?_
      refine zs_get (pc := 15) t90_15 (by decide) (zk1 (hs.k fk_zMc_7)) (hs.p rfl fv_zMc_7_6) ?_
      refine zs_iload_n (pc := 18) t90_18 rfl ?_
      obtain ⟨w19n, w19⟩ : ∃ n : Nat, a.toInt = (n : Int) := ⟨(a.toInt).toNat, by omega⟩
      have w20 := zrg (zI M 12 w19n)
      have w21 : (zI M 10 w19n).toInt = F (30 + 4 * w19n) ∧ (zI M 11 w19n).toInt = F (31 + 4 * w19n) ∧ (zI M 12 w19n).toInt = F (32 + 4 * w19n) ∧ (zI M 13 w19n).toInt = F (33 + 4 * w19n) := x0.2.2.1 w19n (by omega)
      have w22 := x3.2.2.1 w19n (by omega)
      refine zs_iald (pc := 19) t90_19 (j := w19n) (by decide) (zk1 (hs.k fk_zMc_12)) (show a.toInt = ((w19n : Nat) : Int) by omega) (zk2 (hs.k fk_zMc_12) (by omega)) rfl ?_
      by_cases w23 : 0 ≤ (zI M 12 w19n).toInt
      · refine zs_if_geT (pc := 20) t90_20 rfl (by omega) ?_
        refine zs_aload_n (pc := 25) t90_25 rfl ?_
        refine zs_get (pc := 26) t90_26 (by decide) (zk1 (hs.k fk_zMc_6)) (hs.p rfl fv_zMc_6_2) ?_
        refine zs_aload_n (pc := 29) t90_29 rfl ?_
        refine zs_get (pc := 30) t90_30 (by decide) (zk1 (hs.k fk_zMc_6)) (hs.p rfl fv_zMc_6_0) ?_
        refine zs_invV (pc := 33) (k := 31) (as' := [.ref 7]) (st := []) t90_33 mf58 rfl rfl (Or.inl ⟨by decide, (zk1 (hs.k fk_zMc_31))⟩) ⟨by decide, by decide, Nat.le_of_ble_eq_true rfl, Nat.le_of_ble_eq_true rfl⟩ (X58_31_7 hs hI x0 x1 ?_) (fun _ _ q => q)
        intro w24M w24s w24I w24F w24x0
        show zGo X l 4 0 0 90 36 [(0, .ref 6), (1, .int a)] [] w24M _
        refine zs_aload_n (pc := 36) t90_36 rfl ?_
        refine zs_invV (pc := 37) (k := 6) (as' := []) (st := []) t90_37 mf59 rfl rfl (Or.inl ⟨by decide, (zk1 (w24s.k fk_zMc_6))⟩) ⟨by decide, by decide, Nat.le_of_ble_eq_true rfl, Nat.le_of_ble_eq_true rfl⟩ (zs_in (by decide) mf59 (Nat.le_of_ble_eq_true rfl) ?_) (fun _ _ q => q)
        show zGo X l 1 0 0 59 0 [(0, .ref 6)] [] w24M _
        refine zs_aload_n (pc := 0) t59_0 rfl ?_
        refine zs_get (pc := 1) t59_1 (by decide) (zk1 (w24s.k fk_zMc_6)) (w24s.p rfl fv_zMc_6_6) ?_
        refine zs_invV (pc := 4) (k := 164) (as' := []) (st := []) t59_4 mf60 rfl rfl (Or.inl ⟨by decide, (zk1 (w24s.k fk_zMc_164))⟩) ⟨by decide, by decide, Nat.le_of_ble_eq_true rfl, Nat.le_of_ble_eq_true rfl⟩ (zs_in (by decide) mf60 (Nat.le_of_ble_eq_true rfl) ?_) (fun _ _ q => q)
        show zGo X l 0 0 0 60 0 [(0, .ref 164)] [] w24M _
        refine zs_aload_n (pc := 0) t60_0 rfl ?_
        refine zs_iconst (pc := 1) t60_1 (v := 0) (by decide) ?_
        have w25 : zIv cLo cHi (zsI w24M 164 0 (0 : Int32)) := zIv.put w24I (show 0 ≤ (0 : Int32).toInt ∧ (0 : Int32).toInt ≤ 1 from ⟨by decide, by decide⟩)
        refine zs_putI (pc := 2) t60_2 (zk1 (w24s.k fk_zMc_164)) (by decide) ?_
        refine zs_vret (pc := 5) t60_5 mr60 ?_
        show zGo X l 1 0 0 59 7 [(0, .ref 6)] [] (zsI w24M 164 0 (0 : Int32)) _
        refine zs_aload_n (pc := 7) t59_7 rfl ?_
        refine zs_get (pc := 8) t59_8 (by decide) (zk1 (w24s.k fk_zMc_6)) (w24s.p rfl fv_zMc_6_7) ?_
        refine zs_invV (pc := 11) (k := 325) (as' := []) (st := []) t59_11 mf61 rfl rfl (Or.inl ⟨by decide, (zk1 (w24s.k fk_zMc_325))⟩) ⟨by decide, by decide, Nat.le_of_ble_eq_true rfl, Nat.le_of_ble_eq_true rfl⟩ (zs_in (by decide) mf61 (Nat.le_of_ble_eq_true rfl) ?_) (fun _ _ q => q)
        show zGo X l 0 0 0 61 0 [(0, .ref 325)] [] (zsI w24M 164 0 (0 : Int32)) _
        refine zs_aload_n (pc := 0) t61_0 rfl ?_
        refine zs_iconst (pc := 1) t61_1 (v := 0) (by decide) ?_
        have w26 : zIv cLo cHi (zsI (zsI w24M 164 0 (0 : Int32)) 325 0 (0 : Int32)) := zIv.put w25 (show 0 ≤ (0 : Int32).toInt ∧ (0 : Int32).toInt ≤ 1 from ⟨by decide, by decide⟩)
        refine zs_putI (pc := 2) t61_2 (zk1 (w24s.k fk_zMc_325)) (by decide) ?_
        refine zs_vret (pc := 5) t61_5 mr61 ?_
        show zGo X l 1 0 0 59 14 [(0, .ref 6)] [] (zsI (zsI w24M 164 0 (0 : Int32)) 325 0 (0 : Int32)) _
        refine zs_vret (pc := 14) t59_14 mr59 ?_
        show zGo X l 4 0 0 90 40 [(0, .ref 6), (1, .int a)] [] (zsI (zsI w24M 164 0 (0 : Int32)) 325 0 (0 : Int32)) _
        refine zs_aload_n (pc := 40) t90_40 rfl ?_
        refine zs_get (pc := 41) t90_41 (by decide) (zk1 (w24s.k fk_zMc_6)) (w24s.p rfl fv_zMc_6_0) ?_
        refine zs_get (pc := 44) t90_44 (by decide) (zk1 (w24s.k fk_zMc_7)) (w24s.p rfl fv_zMc_7_6) ?_
        refine zs_iload_n (pc := 47) t90_47 rfl ?_
        refine zs_iconst (pc := 48) t90_48 (v := -1) (by decide) ?_
        have w27 : zIv cLo cHi (zsI (zsI (zsI w24M 164 0 (0 : Int32)) 325 0 (0 : Int32)) 12 w19n (-1 : Int32)) := zIv.put w26 (show (-2147483648) ≤ (-1 : Int32).toInt ∧ (-1 : Int32).toInt ≤ 2147483647 from zrg (-1 : Int32))
        have w28 : zSo (zsI (zsI (zsI w24M 164 0 (0 : Int32)) 325 0 (0 : Int32)) 12 w19n (-1 : Int32)) 7 (uS F (32 + 4 * w19n) (-1)) := zSo.hl (o := 2) (zSo.fr x0 (zEq.tr (zEq.tr (zFr.eq w24F rfl) (zEq.put rfl)) (zEq.put rfl))) (by decide) rfl (by omega) (by omega) (by omega) (by decide)
        have w29 : zWF (uS F (32 + 4 * w19n) (-1)) := zWF.time x3 (by omega) (by omega) (by omega)
        refine zs_iast (pc := 49) t90_49 (j := w19n) (by decide) (zk1 (w24s.k fk_zMc_12)) (show a.toInt = ((w19n : Nat) : Int) by omega) (zk2 (w24s.k fk_zMc_12) (by omega)) ?_
        refine zs_aload_n (pc := 50) t90_50 rfl ?_
        refine zs_get (pc := 51) t90_51 (by decide) (zk1 (w24s.k fk_zMc_6)) (w24s.p rfl fv_zMc_6_0) ?_
        refine zs_invV (pc := 54) (k := 7) (as' := []) (st := []) t90_54 mf92 rfl rfl (Or.inl ⟨by decide, (zk1 (w24s.k fk_zMc_7))⟩) ⟨by decide, by decide, Nat.le_of_ble_eq_true rfl, Nat.le_of_ble_eq_true rfl⟩ (X92_7 w24s w27 w28 w29 ?_) (fun _ _ q => q)
        intro w30v w30x0 w30a w30b
        show zGo X l 4 0 0 90 57 [(0, .ref 6), (1, .int a)] [.int w30v] (zsI (zsI (zsI w24M 164 0 (0 : Int32)) 325 0 (0 : Int32)) 12 w19n (-1 : Int32)) _
        have w31 : (zI (zsI (zsI (zsI w24M 164 0 (0 : Int32)) 325 0 (0 : Int32)) 12 w19n (-1 : Int32)) 164 0).toInt = 0 := (congrArg Int32.toInt ((zIo (by decide)).trans ((zIo (by decide)).trans zIs))).trans li0
        have w32 : (zI (zsI (zsI (zsI w24M 164 0 (0 : Int32)) 325 0 (0 : Int32)) 12 w19n (-1 : Int32)) 325 0).toInt = 0 := (congrArg Int32.toInt ((zIo (by decide)).trans zIs)).trans li0
        exact zs_iret (pc := 57) t90_57 mr90 rfl (hQ _ _ w24s w27 (((((zFr.refl).trans (w24F.mono rfl)).put rfl).put rfl).put rfl) (by omega) (Or.inr ⟨by omega, by omega, by rw [show a.toInt.toNat = w19n by omega]; omega, by rw [show a.toInt.toNat = w19n by omega]; exact w30x0, by rw [show a.toInt.toNat = w19n by omega]; exact ⟨w28, (zHC.fr w24x0 (zEq.tr (zEq.tr (zEq.put rfl) (zEq.put rfl)) (zEq.put rfl))), (zKC.fr x2 (zEq.tr (zEq.tr (zEq.tr (zFr.eq w24F rfl) (zEq.put rfl)) (zEq.put rfl)) (zEq.put rfl)))⟩⟩))
      · refine zs_if_geF (pc := 20) t90_20 rfl (by omega) ?_
        refine zs_iconst (pc := 23) t90_23 (v := -1) (by decide) ?_
        have w33 := ib164_0 hI
        have w34 : (zI M 164 0).toInt = (zI M 164 0).toInt := (congrArg Int32.toInt rfl).trans rfl
        have w35 := ib325_0 hI
        have w36 : (zI M 325 0).toInt = (zI M 325 0).toInt := (congrArg Int32.toInt rfl).trans rfl
        have w37 := lin1
        exact zs_iret (pc := 24) t90_24 mr90 (by decide) (hQ _ _ hs hI (zFr.refl) (by omega) (Or.inl ⟨by decide, by rw [show a.toInt.toNat = w19n by omega]; omega, x0, x1, x2⟩))
theorem S89 {X : zX} {l : Launch} {M : zM} {Q : Option Value → zM → Prop} {a b c : Int32} (hs : zSk zMc M) (hI : zIv cLo cHi M) {F : Nat → Int} {H : Nat → Nat → Int} {n : Int} {K : Nat → Nat → Int} {T : Nat → Int} (x0 : zSo M 7 F) (x1 : zHC M H n) (x2 : zKC M K T) (x3 : zWF F) (hQ : ∀ (M' : zM) (v : Int32), zSk zMc M' → zIv cLo cHi M' → zFr [(7, 18, none), (31, 154, none), (164, 164, some 0), (325, 325, some 0)] M M' → (((zI M' 164 0).toInt = 0 ∧ (zI M' 325 0).toInt = 0) ∨ (v.toInt = -1 ∧ (zI M' 164 0).toInt = (zI M 164 0).toInt ∧ (zI M' 325 0).toInt = (zI M 325 0).toInt)) → ((v.toInt = -1 ∧ (a.toInt < 0 ∨ F 0 ≤ a.toInt ∨ b.toInt < -9999 ∨ 9999 < b.toInt ∨ c.toInt < 0 ∨ 999 < c.toInt ∨ 60 ≤ F 1) ∧ zSC M' F H n K T) ∨ ((0 ≤ a.toInt ∧ a.toInt < F 0 ∧ -9999 ≤ b.toInt ∧ b.toInt ≤ 9999 ∧ 0 ≤ c.toInt ∧ c.toInt ≤ 999 ∧ F 1 < 60) ∧ v.toInt = F 1 ∧ zSC M' (pHit F a.toInt b.toInt c.toInt (-2)) (pushH F H) (nP n) K T)) → Q (some (.int v)) M') : zCall X l 4 0 0 89 [.ref 6, .int a, .int b, .int c] M Q := by
  have ga := zrg a
  have gb := zrg b
  have gc := zrg c
  refine zs_in (by decide) mf89 (Nat.le_of_ble_eq_true rfl) ?_
  show zGo X l 4 0 0 89 0 [(0, .ref 6), (1, .int a), (2, .int b), (3, .int c)] [] M _
  have f0 := x0.1
  have w1 := ib7_0 hI
  have w2 : (zI M 7 0).toInt = (zI M 7 0).toInt := (congrArg Int32.toInt rfl).trans rfl
  have w3 := ib7_3 hI
  have w4 : (zI M 7 3).toInt = (zI M 7 3).toInt := (congrArg Int32.toInt rfl).trans rfl
  have w5 := ib7_8 hI
  have w6 : (zI M 7 8).toInt = (zI M 7 8).toInt := (congrArg Int32.toInt rfl).trans rfl
  have f1 := x3.1
  have f3 := x3.2.2.2
  have f2 := (show (zI M 7 0).toInt = F 0 ∧ (zI M 7 3).toInt = F 1 ∧ (zI M 7 8).toInt = F 2 from ⟨x0.1.1, x0.1.2.1, x0.1.2.2.1⟩)
  refine zs_aload_n (pc := 0) t89_0 rfl ?_
  refine zs_get (pc := 1) t89_1 (by decide) (zk1 (hs.k fk_zMc_6)) (hs.p rfl fv_zMc_6_0) ?_
  refine zs_iload_n (pc := 4) t89_4 rfl ?_
  refine zs_iload_n (pc := 5) t89_5 rfl ?_
  refine zs_iload_n (pc := 6) t89_6 rfl ?_
  refine zs_invV (pc := 7) (k := 7) (as' := [.int a, .int b, .int c]) (st := []) t89_7 mf51 rfl rfl (Or.inl ⟨by decide, (zk1 (hs.k fk_zMc_7))⟩) ⟨by decide, by decide, Nat.le_of_ble_eq_true rfl, Nat.le_of_ble_eq_true rfl⟩ (zs_in (by decide) mf51 (Nat.le_of_ble_eq_true rfl) ?_) (fun _ _ q => q)
  show zGo X l 1 0 0 51 0 [(0, .ref 7), (1, .int a), (2, .int b), (3, .int c)] [] M _
  refine zs_aload_n (pc := 0) t51_0 rfl ?_
  refine zs_iload_n (pc := 1) t51_1 rfl ?_
  refine zs_invV (pc := 2) (k := 7) (as' := [.int a]) (st := []) t51_2 mf41 rfl rfl (Or.inl ⟨by decide, (zk1 (hs.k fk_zMc_7))⟩) ⟨by decide, by decide, Nat.le_of_ble_eq_true rfl, Nat.le_of_ble_eq_true rfl⟩ (zs_in (by decide) mf41 (Nat.le_of_ble_eq_true rfl) ?_) (fun _ _ q => q)
  show zGo X l 0 0 0 41 0 [(0, .ref 7), (1, .int a)] [] M _
  refine zs_iload_n (pc := 0) t41_0 rfl ?_
  by_cases w7 : a.toInt < 0
  · refine zs_if_ltT (pc := 1) t41_1 rfl (by omega) ?_
    refine zs_iconst (pc := 16) t41_16 (v := 0) (by decide) ?_
    refine zs_iret (pc := 17) t41_17 mr41 (by decide) ?_
    show zGo X l 1 0 0 51 5 [(0, .ref 7), (1, .int a), (2, .int b), (3, .int c)] [.int (0 : Int32)] M _
    refine zs_if_eqT (pc := 5) t51_5 li0 (by decide) ?_
    refine zs_iconst (pc := 39) t51_39 (v := 0) (by decide) ?_
    refine zs_iret (pc := 40) t51_40 mr51 (by decide) ?_
    show zGo X l 4 0 0 89 10 [(0, .ref 6), (1, .int a), (2, .int b), (3, .int c)] [.int (0 : Int32)] M _
    refine zs_if_neF (pc := 10) t89_10 li0 (by decide) ?_
    refine zs_iconst (pc := 13) t89_13 (v := -1) (by decide) ?_
    have w8 := ib164_0 hI
    have w9 : (zI M 164 0).toInt = (zI M 164 0).toInt := (congrArg Int32.toInt rfl).trans rfl
    have w10 := ib325_0 hI
    have w11 : (zI M 325 0).toInt = (zI M 325 0).toInt := (congrArg Int32.toInt rfl).trans rfl
    have w12 := lin1
    exact zs_iret (pc := 14) t89_14 mr89 (by decide) (hQ _ _ hs hI (zFr.refl) (by omega) (Or.inl ⟨by decide, by omega, x0, x1, x2⟩))
  · refine zs_if_ltF (pc := 1) t41_1 rfl (by omega) ?_
    refine zs_iload_n (pc := 4) t41_4 rfl ?_
    refine zs_aload_n (pc := 5) t41_5 rfl ?_
    refine zs_get (pc := 6) t41_6 (by decide) (zk1 (hs.k fk_zMc_7)) (zfvi rfl rfl) ?_
    by_cases w13 : (zI M 7 0).toInt ≤ a.toInt
    · refine zs_icmp_geT (pc := 9) t41_9 rfl rfl (by omega) ?_
      refine zs_iconst (pc := 16) t41_16 (v := 0) (by decide) ?_
      refine zs_iret (pc := 17) t41_17 mr41 (by decide) ?_
      show zGo X l 1 0 0 51 5 [(0, .ref 7), (1, .int a), (2, .int b), (3, .int c)] [.int (0 : Int32)] M _
      refine zs_if_eqT (pc := 5) t51_5 li0 (by decide) ?_
      refine zs_iconst (pc := 39) t51_39 (v := 0) (by decide) ?_
      refine zs_iret (pc := 40) t51_40 mr51 (by decide) ?_
      show zGo X l 4 0 0 89 10 [(0, .ref 6), (1, .int a), (2, .int b), (3, .int c)] [.int (0 : Int32)] M _
      refine zs_if_neF (pc := 10) t89_10 li0 (by decide) ?_
      refine zs_iconst (pc := 13) t89_13 (v := -1) (by decide) ?_
      have w14 := ib164_0 hI
      have w15 : (zI M 164 0).toInt = (zI M 164 0).toInt := (congrArg Int32.toInt rfl).trans rfl
      have w16 := ib325_0 hI
      have w17 : (zI M 325 0).toInt = (zI M 325 0).toInt := (congrArg Int32.toInt rfl).trans rfl
      have w18 := lin1
      exact zs_iret (pc := 14) t89_14 mr89 (by decide) (hQ _ _ hs hI (zFr.refl) (by omega) (Or.inl ⟨by decide, by omega, x0, x1, x2⟩))
    · refine zs_icmp_geF (pc := 9) t41_9 rfl rfl (by omega) ?_
      refine zs_iconst (pc := 12) t41_12 (v := 1) (by decide) ?_
      refine zs_goto (pc := 13) t41_13 ?_
      refine zs_iret (pc := 17) t41_17 mr41 (by decide) ?_
      show zGo X l 1 0 0 51 5 [(0, .ref 7), (1, .int a), (2, .int b), (3, .int c)] [.int (1 : Int32)] M _
      refine zs_if_eqF (pc := 5) t51_5 li1 (by decide) ?_
      refine zs_iload_n (pc := 8) t51_8 rfl ?_
      refine zs_invS (pc := 9) (as := [.int b]) (st := []) t51_9 (by decide) mf42 rfl rfl ⟨by decide, by decide, Nat.le_of_ble_eq_true rfl, Nat.le_of_ble_eq_true rfl⟩ (zs_in (by decide) mf42 (Nat.le_of_ble_eq_true rfl) ?_) (fun _ _ q => q)
      show zGo X l 0 0 0 42 0 [(0, .int b)] [] M _
      refine zs_iload_n (pc := 0) t42_0 rfl ?_
      refine zs_sipush (pc := 1) t42_1 (v := -9999) (by decide) ?_
      by_cases w19 : b.toInt < (-9999)
      · refine zs_icmp_ltT (pc := 4) t42_4 rfl lin9999 (by omega) ?_
        refine zs_iconst (pc := 18) t42_18 (v := 0) (by decide) ?_
        refine zs_iret (pc := 19) t42_19 mr42 (by decide) ?_
        show zGo X l 1 0 0 51 12 [(0, .ref 7), (1, .int a), (2, .int b), (3, .int c)] [.int (0 : Int32)] M _
        refine zs_if_eqT (pc := 12) t51_12 li0 (by decide) ?_
        refine zs_iconst (pc := 39) t51_39 (v := 0) (by decide) ?_
        refine zs_iret (pc := 40) t51_40 mr51 (by decide) ?_
        show zGo X l 4 0 0 89 10 [(0, .ref 6), (1, .int a), (2, .int b), (3, .int c)] [.int (0 : Int32)] M _
        refine zs_if_neF (pc := 10) t89_10 li0 (by decide) ?_
        refine zs_iconst (pc := 13) t89_13 (v := -1) (by decide) ?_
        have w20 := ib164_0 hI
        have w21 : (zI M 164 0).toInt = (zI M 164 0).toInt := (congrArg Int32.toInt rfl).trans rfl
        have w22 := ib325_0 hI
        have w23 : (zI M 325 0).toInt = (zI M 325 0).toInt := (congrArg Int32.toInt rfl).trans rfl
        have w24 := lin1
        exact zs_iret (pc := 14) t89_14 mr89 (by decide) (hQ _ _ hs hI (zFr.refl) (by omega) (Or.inl ⟨by decide, by omega, x0, x1, x2⟩))
      · refine zs_icmp_ltF (pc := 4) t42_4 rfl lin9999 (by omega) ?_
        refine zs_iload_n (pc := 7) t42_7 rfl ?_
        refine zs_sipush (pc := 8) t42_8 (v := 9999) (by decide) ?_
        by_cases w25 : 9999 < b.toInt
        · refine zs_icmp_gtT (pc := 11) t42_11 rfl li9999 (by omega) ?_
          refine zs_iconst (pc := 18) t42_18 (v := 0) (by decide) ?_
          refine zs_iret (pc := 19) t42_19 mr42 (by decide) ?_
          show zGo X l 1 0 0 51 12 [(0, .ref 7), (1, .int a), (2, .int b), (3, .int c)] [.int (0 : Int32)] M _
          refine zs_if_eqT (pc := 12) t51_12 li0 (by decide) ?_
          refine zs_iconst (pc := 39) t51_39 (v := 0) (by decide) ?_
          refine zs_iret (pc := 40) t51_40 mr51 (by decide) ?_
          show zGo X l 4 0 0 89 10 [(0, .ref 6), (1, .int a), (2, .int b), (3, .int c)] [.int (0 : Int32)] M _
          refine zs_if_neF (pc := 10) t89_10 li0 (by decide) ?_
          refine zs_iconst (pc := 13) t89_13 (v := -1) (by decide) ?_
          have w26 := ib164_0 hI
          have w27 : (zI M 164 0).toInt = (zI M 164 0).toInt := (congrArg Int32.toInt rfl).trans rfl
          have w28 := ib325_0 hI
          have w29 : (zI M 325 0).toInt = (zI M 325 0).toInt := (congrArg Int32.toInt rfl).trans rfl
          have w30 := lin1
          exact zs_iret (pc := 14) t89_14 mr89 (by decide) (hQ _ _ hs hI (zFr.refl) (by omega) (Or.inl ⟨by decide, by omega, x0, x1, x2⟩))
        · refine zs_icmp_gtF (pc := 11) t42_11 rfl li9999 (by omega) ?_
          refine zs_iconst (pc := 14) t42_14 (v := 1) (by decide) ?_
          refine zs_goto (pc := 15) t42_15 ?_
          refine zs_iret (pc := 19) t42_19 mr42 (by decide) ?_
          show zGo X l 1 0 0 51 12 [(0, .ref 7), (1, .int a), (2, .int b), (3, .int c)] [.int (1 : Int32)] M _
          refine zs_if_eqF (pc := 12) t51_12 li1 (by decide) ?_
          refine zs_iload_n (pc := 15) t51_15 rfl ?_
          refine zs_iconst (pc := 16) t51_16 (v := 0) (by decide) ?_
          refine zs_sipush (pc := 17) t51_17 (v := 999) (by decide) ?_
          refine zs_invS (pc := 20) (as := [.int c, .int (0 : Int32), .int (999 : Int32)]) (st := []) t51_20 (by decide) mf39 rfl rfl ⟨by decide, by decide, Nat.le_of_ble_eq_true rfl, Nat.le_of_ble_eq_true rfl⟩ (zs_in (by decide) mf39 (Nat.le_of_ble_eq_true rfl) ?_) (fun _ _ q => q)
          show zGo X l 0 0 0 39 0 [(0, .int c), (1, .int (0 : Int32)), (2, .int (999 : Int32))] [] M _
          refine zs_iload_n (pc := 0) t39_0 rfl ?_
          refine zs_iload_n (pc := 1) t39_1 rfl ?_
          by_cases w31 : c.toInt < 0
          · refine zs_icmp_ltT (pc := 2) t39_2 rfl li0 (by omega) ?_
            refine zs_iconst (pc := 14) t39_14 (v := 0) (by decide) ?_
            refine zs_iret (pc := 15) t39_15 mr39 (by decide) ?_
            show zGo X l 1 0 0 51 23 [(0, .ref 7), (1, .int a), (2, .int b), (3, .int c)] [.int (0 : Int32)] M _
            refine zs_if_eqT (pc := 23) t51_23 li0 (by decide) ?_
            refine zs_iconst (pc := 39) t51_39 (v := 0) (by decide) ?_
            refine zs_iret (pc := 40) t51_40 mr51 (by decide) ?_
            show zGo X l 4 0 0 89 10 [(0, .ref 6), (1, .int a), (2, .int b), (3, .int c)] [.int (0 : Int32)] M _
            refine zs_if_neF (pc := 10) t89_10 li0 (by decide) ?_
            refine zs_iconst (pc := 13) t89_13 (v := -1) (by decide) ?_
            have w32 := ib164_0 hI
            have w33 : (zI M 164 0).toInt = (zI M 164 0).toInt := (congrArg Int32.toInt rfl).trans rfl
            have w34 := ib325_0 hI
            have w35 : (zI M 325 0).toInt = (zI M 325 0).toInt := (congrArg Int32.toInt rfl).trans rfl
            have w36 := lin1
            exact zs_iret (pc := 14) t89_14 mr89 (by decide) (hQ _ _ hs hI (zFr.refl) (by omega) (Or.inl ⟨by decide, by omega, x0, x1, x2⟩))
          · refine zs_icmp_ltF (pc := 2) t39_2 rfl li0 (by omega) ?_
            refine zs_iload_n (pc := 5) t39_5 rfl ?_
            refine zs_iload_n (pc := 6) t39_6 rfl ?_
            by_cases w37 : 999 < c.toInt
            · refine zs_icmp_gtT (pc := 7) t39_7 rfl li999 (by omega) ?_
              refine zs_iconst (pc := 14) t39_14 (v := 0) (by decide) ?_
              refine zs_iret (pc := 15) t39_15 mr39 (by decide) ?_
              show zGo X l 1 0 0 51 23 [(0, .ref 7), (1, .int a), (2, .int b), (3, .int c)] [.int (0 : Int32)] M _
              refine zs_if_eqT (pc := 23) t51_23 li0 (by decide) ?_
              refine zs_iconst (pc := 39) t51_39 (v := 0) (by decide) ?_
              refine zs_iret (pc := 40) t51_40 mr51 (by decide) ?_
              show zGo X l 4 0 0 89 10 [(0, .ref 6), (1, .int a), (2, .int b), (3, .int c)] [.int (0 : Int32)] M _
              refine zs_if_neF (pc := 10) t89_10 li0 (by decide) ?_
              refine zs_iconst (pc := 13) t89_13 (v := -1) (by decide) ?_
              have w38 := ib164_0 hI
              have w39 : (zI M 164 0).toInt = (zI M 164 0).toInt := (congrArg Int32.toInt rfl).trans rfl
              have w40 := ib325_0 hI
              have w41 : (zI M 325 0).toInt = (zI M 325 0).toInt := (congrArg Int32.toInt rfl).trans rfl
              have w42 := lin1
              exact zs_iret (pc := 14) t89_14 mr89 (by decide) (hQ _ _ hs hI (zFr.refl) (by omega) (Or.inl ⟨by decide, by omega, x0, x1, x2⟩))
            · refine zs_icmp_gtF (pc := 7) t39_7 rfl li999 (by omega) ?_
              refine zs_iconst (pc := 10) t39_10 (v := 1) (by decide) ?_
              refine zs_goto (pc := 11) t39_11 ?_
              refine zs_iret (pc := 15) t39_15 mr39 (by decide) ?_
              show zGo X l 1 0 0 51 23 [(0, .ref 7), (1, .int a), (2, .int b), (3, .int c)] [.int (1 : Int32)] M _
              refine zs_if_eqF (pc := 23) t51_23 li1 (by decide) ?_
              refine zs_aload_n (pc := 26) t51_26 rfl ?_
              refine zs_get (pc := 27) t51_27 (by decide) (zk1 (hs.k fk_zMc_7)) (zfvi rfl rfl) ?_
              refine zs_bipush (pc := 30) t51_30 (v := 60) (by decide) ?_
              by_cases w43 : 60 ≤ (zI M 7 3).toInt
              · refine zs_icmp_geT (pc := 32) t51_32 rfl li60 (by omega) ?_
                refine zs_iconst (pc := 39) t51_39 (v := 0) (by decide) ?_
                refine zs_iret (pc := 40) t51_40 mr51 (by decide) ?_
                show zGo X l 4 0 0 89 10 [(0, .ref 6), (1, .int a), (2, .int b), (3, .int c)] [.int (0 : Int32)] M _
                refine zs_if_neF (pc := 10) t89_10 li0 (by decide) ?_
                refine zs_iconst (pc := 13) t89_13 (v := -1) (by decide) ?_
                have w44 := ib164_0 hI
                have w45 : (zI M 164 0).toInt = (zI M 164 0).toInt := (congrArg Int32.toInt rfl).trans rfl
                have w46 := ib325_0 hI
                have w47 : (zI M 325 0).toInt = (zI M 325 0).toInt := (congrArg Int32.toInt rfl).trans rfl
                have w48 := lin1
                exact zs_iret (pc := 14) t89_14 mr89 (by decide) (hQ _ _ hs hI (zFr.refl) (by omega) (Or.inl ⟨by decide, by omega, x0, x1, x2⟩))
              · refine zs_icmp_geF (pc := 32) t51_32 rfl li60 (by omega) ?_
                refine zs_iconst (pc := 35) t51_35 (v := 1) (by decide) ?_
                refine zs_goto (pc := 36) t51_36 ?_
                refine zs_iret (pc := 40) t51_40 mr51 (by decide) ?_
                show zGo X l 4 0 0 89 10 [(0, .ref 6), (1, .int a), (2, .int b), (3, .int c)] [.int (1 : Int32)] M _
                refine zs_if_neT (pc := 10) t89_10 li1 (by decide) ?_
                refine zs_aload_n (pc := 15) t89_15 rfl ?_
                refine zs_get (pc := 16) t89_16 (by decide) (zk1 (hs.k fk_zMc_6)) (hs.p rfl fv_zMc_6_2) ?_
                refine zs_aload_n (pc := 19) t89_19 rfl ?_
                refine zs_get (pc := 20) t89_20 (by decide) (zk1 (hs.k fk_zMc_6)) (hs.p rfl fv_zMc_6_0) ?_
                refine zs_invV (pc := 23) (k := 31) (as' := [.ref 7]) (st := []) t89_23 mf58 rfl rfl (Or.inl ⟨by decide, (zk1 (hs.k fk_zMc_31))⟩) ⟨by decide, by decide, Nat.le_of_ble_eq_true rfl, Nat.le_of_ble_eq_true rfl⟩ (X58_31_7 hs hI x0 x1 ?_) (fun _ _ q => q)
                intro w49M w49s w49I w49F w49x0
                show zGo X l 4 0 0 89 26 [(0, .ref 6), (1, .int a), (2, .int b), (3, .int c)] [] w49M _
                refine zs_aload_n (pc := 26) t89_26 rfl ?_
                refine zs_invV (pc := 27) (k := 6) (as' := []) (st := []) t89_27 mf59 rfl rfl (Or.inl ⟨by decide, (zk1 (w49s.k fk_zMc_6))⟩) ⟨by decide, by decide, Nat.le_of_ble_eq_true rfl, Nat.le_of_ble_eq_true rfl⟩ (zs_in (by decide) mf59 (Nat.le_of_ble_eq_true rfl) ?_) (fun _ _ q => q)
                show zGo X l 1 0 0 59 0 [(0, .ref 6)] [] w49M _
                refine zs_aload_n (pc := 0) t59_0 rfl ?_
                refine zs_get (pc := 1) t59_1 (by decide) (zk1 (w49s.k fk_zMc_6)) (w49s.p rfl fv_zMc_6_6) ?_
                refine zs_invV (pc := 4) (k := 164) (as' := []) (st := []) t59_4 mf60 rfl rfl (Or.inl ⟨by decide, (zk1 (w49s.k fk_zMc_164))⟩) ⟨by decide, by decide, Nat.le_of_ble_eq_true rfl, Nat.le_of_ble_eq_true rfl⟩ (zs_in (by decide) mf60 (Nat.le_of_ble_eq_true rfl) ?_) (fun _ _ q => q)
                show zGo X l 0 0 0 60 0 [(0, .ref 164)] [] w49M _
                refine zs_aload_n (pc := 0) t60_0 rfl ?_
                refine zs_iconst (pc := 1) t60_1 (v := 0) (by decide) ?_
                have w50 : zIv cLo cHi (zsI w49M 164 0 (0 : Int32)) := zIv.put w49I (show 0 ≤ (0 : Int32).toInt ∧ (0 : Int32).toInt ≤ 1 from ⟨by decide, by decide⟩)
                refine zs_putI (pc := 2) t60_2 (zk1 (w49s.k fk_zMc_164)) (by decide) ?_
                refine zs_vret (pc := 5) t60_5 mr60 ?_
                show zGo X l 1 0 0 59 7 [(0, .ref 6)] [] (zsI w49M 164 0 (0 : Int32)) _
                refine zs_aload_n (pc := 7) t59_7 rfl ?_
                refine zs_get (pc := 8) t59_8 (by decide) (zk1 (w49s.k fk_zMc_6)) (w49s.p rfl fv_zMc_6_7) ?_
                refine zs_invV (pc := 11) (k := 325) (as' := []) (st := []) t59_11 mf61 rfl rfl (Or.inl ⟨by decide, (zk1 (w49s.k fk_zMc_325))⟩) ⟨by decide, by decide, Nat.le_of_ble_eq_true rfl, Nat.le_of_ble_eq_true rfl⟩ (zs_in (by decide) mf61 (Nat.le_of_ble_eq_true rfl) ?_) (fun _ _ q => q)
                show zGo X l 0 0 0 61 0 [(0, .ref 325)] [] (zsI w49M 164 0 (0 : Int32)) _
                refine zs_aload_n (pc := 0) t61_0 rfl ?_
                refine zs_iconst (pc := 1) t61_1 (v := 0) (by decide) ?_
                have w51 : zIv cLo cHi (zsI (zsI w49M 164 0 (0 : Int32)) 325 0 (0 : Int32)) := zIv.put w50 (show 0 ≤ (0 : Int32).toInt ∧ (0 : Int32).toInt ≤ 1 from ⟨by decide, by decide⟩)
                refine zs_putI (pc := 2) t61_2 (zk1 (w49s.k fk_zMc_325)) (by decide) ?_
                refine zs_vret (pc := 5) t61_5 mr61 ?_
                show zGo X l 1 0 0 59 14 [(0, .ref 6)] [] (zsI (zsI w49M 164 0 (0 : Int32)) 325 0 (0 : Int32)) _
                refine zs_vret (pc := 14) t59_14 mr59 ?_
                show zGo X l 4 0 0 89 30 [(0, .ref 6), (1, .int a), (2, .int b), (3, .int c)] [] (zsI (zsI w49M 164 0 (0 : Int32)) 325 0 (0 : Int32)) _
                refine zs_aload_n (pc := 30) t89_30 rfl ?_
                refine zs_get (pc := 31) t89_31 (by decide) (zk1 (w49s.k fk_zMc_6)) (w49s.p rfl fv_zMc_6_0) ?_
                refine zs_iload_n (pc := 34) t89_34 rfl ?_
                refine zs_iload_n (pc := 35) t89_35 rfl ?_
                refine zs_iload_n (pc := 36) t89_36 rfl ?_
                refine zs_bipush (pc := 37) t89_37 (v := -2) (by decide) ?_
                have w52 : (-2 : Int32).toInt = (-2) := lin2
                refine zs_invV (pc := 39) (k := 7) (as' := [.int a, .int b, .int c, .int (-2 : Int32)]) (st := []) t89_39 mf50 rfl rfl (Or.inl ⟨by decide, (zk1 (w49s.k fk_zMc_7))⟩) ⟨by decide, by decide, Nat.le_of_ble_eq_true rfl, Nat.le_of_ble_eq_true rfl⟩ (X50_7 w49s w51 (zSo.fr x0 (zEq.tr (zEq.tr (zFr.eq w49F rfl) (zEq.put rfl)) (zEq.put rfl))) ?_) (fun _ _ q => q)
                intro w53M w53v w53s w53I w53F w53x0
                have w53g := zrg w53v
                have w53y := w53x0.resolve_left (fun q => by have z := q.2.1; omega)
                show zGo X l 4 0 0 89 42 [(0, .ref 6), (1, .int a), (2, .int b), (3, .int c)] [.int w53v] w53M _
                have w54 : (zI w53M 164 0).toInt = 0 := (congrArg Int32.toInt ((w53F 164 0 rfl).trans ((zIo (by decide)).trans zIs))).trans li0
                have w55 : (zI w53M 325 0).toInt = 0 := (congrArg Int32.toInt ((w53F 325 0 rfl).trans zIs)).trans li0
                exact zs_iret (pc := 42) t89_42 mr89 rfl (hQ _ _ w53s w53I (((((zFr.refl).trans (w49F.mono rfl)).put rfl).put rfl).trans (w53F.mono rfl)) (by omega) (Or.inr ⟨w53y.1, w53y.2.1, w53y.2.2, (zHC.fr w49x0 (zEq.tr (zEq.tr (zEq.put rfl) (zEq.put rfl)) (zFr.eq w53F rfl))), (zKC.fr x2 (zEq.tr (zEq.tr (zEq.tr (zFr.eq w49F rfl) (zEq.put rfl)) (zEq.put rfl)) (zFr.eq w53F rfl)))⟩))
theorem S212 {X : zX} {l : Launch} {M : zM} {Q : Option Value → zM → Prop} (hs : zSk zMc M) (hI : zIv cLo cHi M) {F : Nat → Int} {H : Nat → Nat → Int} {n : Int} {K : Nat → Nat → Int} {T : Nat → Int} (x0 : zSo M 7 F) (x1 : zHC M H n) (x2 : zKC M K T) (x3 : zWF F) (hQ : ∀ (M' : zM) (v : Int32), zSk zMc M' → zIv cLo cHi M' → zFr [(7, 18, none), (31, 154, none), (164, 164, some 0), (325, 325, some 0)] M M' → (((zI M' 164 0).toInt = 0 ∧ (zI M' 325 0).toInt = 0) ∨ (v.toInt = -1 ∧ (zI M' 164 0).toInt = (zI M 164 0).toInt ∧ (zI M' 325 0).toInt = (zI M 325 0).toInt)) → ((v.toInt = -1 ∧ n ≤ 0 ∧ zSC M' F H n K T) ∨ (0 < n ∧ v.toInt = n - 1 ∧ zSC M' (H 0) (popH H) (n - 1) K T)) → Q (some (.int v)) M') : zCall X l 4 0 0 212 [.ref 6] M Q := by
  refine zs_in (by decide) mf212 (Nat.le_of_ble_eq_true rfl) ?_
  show zGo X l 4 0 0 212 0 [(0, .ref 6)] [] M _
  have f0 := x0.1
  have w1 := ib7_0 hI
  have w2 : (zI M 7 0).toInt = (zI M 7 0).toInt := (congrArg Int32.toInt rfl).trans rfl
  have w3 := ib7_3 hI
  have w4 : (zI M 7 3).toInt = (zI M 7 3).toInt := (congrArg Int32.toInt rfl).trans rfl
  have w5 := ib7_8 hI
  have w6 : (zI M 7 8).toInt = (zI M 7 8).toInt := (congrArg Int32.toInt rfl).trans rfl
  have f1 := x3.1
  have f3 := x3.2.2.2
  have f2 := (show (zI M 7 0).toInt = F 0 ∧ (zI M 7 3).toInt = F 1 ∧ (zI M 7 8).toInt = F 2 from ⟨x0.1.1, x0.1.2.1, x0.1.2.2.1⟩)
  refine zs_aload_n (pc := 0) t212_0 rfl ?_
  refine zs_get (pc := 1) t212_1 (by decide) (zk1 (hs.k fk_zMc_6)) (hs.p rfl fv_zMc_6_2) ?_
  refine zs_aload_n (pc := 4) t212_4 rfl ?_
  refine zs_get (pc := 5) t212_5 (by decide) (zk1 (hs.k fk_zMc_6)) (hs.p rfl fv_zMc_6_0) ?_
  refine zs_invV (pc := 8) (k := 31) (as' := [.ref 7]) (st := []) t212_8 mf213 rfl rfl (Or.inl ⟨by decide, (zk1 (hs.k fk_zMc_31))⟩) ⟨by decide, by decide, Nat.le_of_ble_eq_true rfl, Nat.le_of_ble_eq_true rfl⟩ (X213_31_7 hs hI x0 x1 ?_) (fun _ _ q => q)
  intro w7M w7v w7s w7I w7F w7x0 w7a w7b
  show zGo X l 4 0 0 212 11 [(0, .ref 6)] [.int w7v] w7M _
  rcases w7x0 with w8 | w8
  · skip
    have w8v := w8.1
    refine zs_if_neF (pc := 11) t212_11 rfl (by omega) ?_
    refine zs_iconst (pc := 14) t212_14 (v := -1) (by decide) ?_
    have w9 := ib164_0 hI
    have w10 : (zI w7M 164 0).toInt = (zI M 164 0).toInt := (congrArg Int32.toInt ((w7F 164 0 rfl).trans rfl)).trans rfl
    have w11 := ib325_0 hI
    have w12 : (zI w7M 325 0).toInt = (zI M 325 0).toInt := (congrArg Int32.toInt ((w7F 325 0 rfl).trans rfl)).trans rfl
    have w13 := lin1
    exact zs_iret (pc := 15) t212_15 mr212 (by decide) (hQ _ _ w7s w7I ((zFr.refl).trans (w7F.mono rfl)) (by omega) (Or.inl ⟨by decide, w8.2.1, w8.2.2.1, w8.2.2.2, (zKC.fr x2 (zFr.eq w7F rfl))⟩))
  · skip
    have w8v := w8.1
    refine zs_if_neT (pc := 11) t212_11 rfl (by omega) ?_
    refine zs_aload_n (pc := 16) t212_16 rfl ?_
    refine zs_invV (pc := 17) (k := 6) (as' := []) (st := []) t212_17 mf59 rfl rfl (Or.inl ⟨by decide, (zk1 (w7s.k fk_zMc_6))⟩) ⟨by decide, by decide, Nat.le_of_ble_eq_true rfl, Nat.le_of_ble_eq_true rfl⟩ (zs_in (by decide) mf59 (Nat.le_of_ble_eq_true rfl) ?_) (fun _ _ q => q)
    show zGo X l 1 0 0 59 0 [(0, .ref 6)] [] w7M _
    refine zs_aload_n (pc := 0) t59_0 rfl ?_
    refine zs_get (pc := 1) t59_1 (by decide) (zk1 (w7s.k fk_zMc_6)) (w7s.p rfl fv_zMc_6_6) ?_
    refine zs_invV (pc := 4) (k := 164) (as' := []) (st := []) t59_4 mf60 rfl rfl (Or.inl ⟨by decide, (zk1 (w7s.k fk_zMc_164))⟩) ⟨by decide, by decide, Nat.le_of_ble_eq_true rfl, Nat.le_of_ble_eq_true rfl⟩ (zs_in (by decide) mf60 (Nat.le_of_ble_eq_true rfl) ?_) (fun _ _ q => q)
    show zGo X l 0 0 0 60 0 [(0, .ref 164)] [] w7M _
    refine zs_aload_n (pc := 0) t60_0 rfl ?_
    refine zs_iconst (pc := 1) t60_1 (v := 0) (by decide) ?_
    have w14 : zIv cLo cHi (zsI w7M 164 0 (0 : Int32)) := zIv.put w7I (show 0 ≤ (0 : Int32).toInt ∧ (0 : Int32).toInt ≤ 1 from ⟨by decide, by decide⟩)
    refine zs_putI (pc := 2) t60_2 (zk1 (w7s.k fk_zMc_164)) (by decide) ?_
    refine zs_vret (pc := 5) t60_5 mr60 ?_
    show zGo X l 1 0 0 59 7 [(0, .ref 6)] [] (zsI w7M 164 0 (0 : Int32)) _
    refine zs_aload_n (pc := 7) t59_7 rfl ?_
    refine zs_get (pc := 8) t59_8 (by decide) (zk1 (w7s.k fk_zMc_6)) (w7s.p rfl fv_zMc_6_7) ?_
    refine zs_invV (pc := 11) (k := 325) (as' := []) (st := []) t59_11 mf61 rfl rfl (Or.inl ⟨by decide, (zk1 (w7s.k fk_zMc_325))⟩) ⟨by decide, by decide, Nat.le_of_ble_eq_true rfl, Nat.le_of_ble_eq_true rfl⟩ (zs_in (by decide) mf61 (Nat.le_of_ble_eq_true rfl) ?_) (fun _ _ q => q)
    show zGo X l 0 0 0 61 0 [(0, .ref 325)] [] (zsI w7M 164 0 (0 : Int32)) _
    refine zs_aload_n (pc := 0) t61_0 rfl ?_
    refine zs_iconst (pc := 1) t61_1 (v := 0) (by decide) ?_
    have w15 : zIv cLo cHi (zsI (zsI w7M 164 0 (0 : Int32)) 325 0 (0 : Int32)) := zIv.put w14 (show 0 ≤ (0 : Int32).toInt ∧ (0 : Int32).toInt ≤ 1 from ⟨by decide, by decide⟩)
    refine zs_putI (pc := 2) t61_2 (zk1 (w7s.k fk_zMc_325)) (by decide) ?_
    refine zs_vret (pc := 5) t61_5 mr61 ?_
    show zGo X l 1 0 0 59 14 [(0, .ref 6)] [] (zsI (zsI w7M 164 0 (0 : Int32)) 325 0 (0 : Int32)) _
    refine zs_vret (pc := 14) t59_14 mr59 ?_
    show zGo X l 4 0 0 212 20 [(0, .ref 6)] [] (zsI (zsI w7M 164 0 (0 : Int32)) 325 0 (0 : Int32)) _
    refine zs_aload_n (pc := 20) t212_20 rfl ?_
    refine zs_get (pc := 21) t212_21 (by decide) (zk1 (w7s.k fk_zMc_6)) (w7s.p rfl fv_zMc_6_2) ?_
    refine zs_invV (pc := 24) (k := 31) (as' := []) (st := []) t212_24 mf101 rfl rfl (Or.inl ⟨by decide, (zk1 (w7s.k fk_zMc_31))⟩) ⟨by decide, by decide, Nat.le_of_ble_eq_true rfl, Nat.le_of_ble_eq_true rfl⟩ (zs_in (by decide) mf101 (Nat.le_of_ble_eq_true rfl) ?_) (fun _ _ q => q)
    show zGo X l 0 0 0 101 0 [(0, .ref 31)] [] (zsI (zsI w7M 164 0 (0 : Int32)) 325 0 (0 : Int32)) _
    refine zs_aload_n (pc := 0) t101_0 rfl ?_
    have w16 := ib31_2 w7I
    refine zs_get (pc := 1) t101_1 (by decide) (zk1 (w7s.k fk_zMc_31)) (zfvi rfl ((zIo (by decide)).trans ((zIo (by decide)).trans rfl))) ?_
    refine zs_iret (pc := 4) t101_4 mr101 rfl ?_
    show zGo X l 4 0 0 212 27 [(0, .ref 6)] [.int (zI w7M 31 2)] (zsI (zsI w7M 164 0 (0 : Int32)) 325 0 (0 : Int32)) _
    have w17 : (zI (zsI (zsI w7M 164 0 (0 : Int32)) 325 0 (0 : Int32)) 164 0).toInt = 0 := (congrArg Int32.toInt ((zIo (by decide)).trans zIs)).trans li0
    have w18 : (zI (zsI (zsI w7M 164 0 (0 : Int32)) 325 0 (0 : Int32)) 325 0).toInt = 0 := (congrArg Int32.toInt zIs).trans li0
    have w19 : (zI (zsI (zsI w7M 164 0 (0 : Int32)) 325 0 (0 : Int32)) 31 2).toInt = (zI w7M 31 2).toInt := (congrArg Int32.toInt ((zIo (by decide)).trans ((zIo (by decide)).trans rfl))).trans rfl
    have g9 := w8.2.2.2.1
    exact zs_iret (pc := 27) t212_27 mr212 rfl (hQ _ _ w7s w15 ((((zFr.refl).trans (w7F.mono rfl)).put rfl).put rfl) (by omega) (Or.inr ⟨w8.2.1, by omega, (zSo.fr w8.2.2.1 (zEq.tr (zEq.put rfl) (zEq.put rfl))), (zHC.fr w8.2.2.2 (zEq.tr (zEq.put rfl) (zEq.put rfl))), (zKC.fr x2 (zEq.tr (zEq.tr (zFr.eq w7F rfl) (zEq.put rfl)) (zEq.put rfl)))⟩))
theorem S214 {X : zX} {l : Launch} {M : zM} {Q : Option Value → zM → Prop} {a : Int32} (hs : zSk zMc M) (hI : zIv cLo cHi M) {F : Nat → Int} {H : Nat → Nat → Int} {n : Int} {K : Nat → Nat → Int} {T : Nat → Int} (x0 : zSo M 7 F) (x1 : zHC M H n) (x2 : zKC M K T) (x3 : zWF F) (hQ : ∀ (M' : zM) (v : Int32), zSk zMc M' → zIv cLo cHi M' → zFr [(7, 18, none), (31, 154, none), (164, 164, some 0), (325, 325, some 0)] M M' → ((zI M' 164 0).toInt = (zI M 164 0).toInt ∧ (zI M' 325 0).toInt = (zI M 325 0).toInt) → ((v.toInt = 0 ∧ (a.toInt < 0 ∨ 1 < a.toInt) ∧ zSC M' F H n K T) ∨ (v.toInt = 1 ∧ 0 ≤ a.toInt ∧ a.toInt ≤ 1 ∧ zSC M' F H n (uK K a.toInt.toNat F) (uS T a.toInt.toNat 1))) → 0 ≤ v.toInt → v.toInt ≤ 1 → Q (some (.int v)) M') : zCall X l 4 0 0 214 [.ref 6, .int a] M Q := by
  have ga := zrg a
  refine zs_in (by decide) mf214 (Nat.le_of_ble_eq_true rfl) ?_
  show zGo X l 4 0 0 214 0 [(0, .ref 6), (1, .int a)] [] M _
  have f0 := x0.1
  have w1 := ib7_0 hI
  have w2 : (zI M 7 0).toInt = (zI M 7 0).toInt := (congrArg Int32.toInt rfl).trans rfl
  have w3 := ib7_3 hI
  have w4 : (zI M 7 3).toInt = (zI M 7 3).toInt := (congrArg Int32.toInt rfl).trans rfl
  have w5 := ib7_8 hI
  have w6 : (zI M 7 8).toInt = (zI M 7 8).toInt := (congrArg Int32.toInt rfl).trans rfl
  have f1 := x3.1
  have f3 := x3.2.2.2
  have f2 := (show (zI M 7 0).toInt = F 0 ∧ (zI M 7 3).toInt = F 1 ∧ (zI M 7 8).toInt = F 2 from ⟨x0.1.1, x0.1.2.1, x0.1.2.2.1⟩)
  refine zs_aload_n (pc := 0) t214_0 rfl ?_
  refine zs_get (pc := 1) t214_1 (by decide) (zk1 (hs.k fk_zMc_6)) (hs.p rfl fv_zMc_6_2) ?_
  refine zs_iload_n (pc := 4) t214_4 rfl ?_
  refine zs_aload_n (pc := 5) t214_5 rfl ?_
  refine zs_get (pc := 6) t214_6 (by decide) (zk1 (hs.k fk_zMc_6)) (hs.p rfl fv_zMc_6_0) ?_
  refine zs_invV (pc := 9) (k := 31) (as' := [.int a, .ref 7]) (st := []) t214_9 mf215 rfl rfl (Or.inl ⟨by decide, (zk1 (hs.k fk_zMc_31))⟩) ⟨by decide, by decide, Nat.le_of_ble_eq_true rfl, Nat.le_of_ble_eq_true rfl⟩ (X215_31_7 hs hI x0 x2 ?_) (fun _ _ q => q)
  intro w7M w7v w7s w7I w7F w7x0 w7a w7b
  show zGo X l 4 0 0 214 12 [(0, .ref 6), (1, .int a)] [.int w7v] w7M _
  rcases w7x0 with w8 | w8
  · skip
    have w8v := w8.1
    have w9 := ib164_0 hI
    have w10 : (zI w7M 164 0).toInt = (zI M 164 0).toInt := (congrArg Int32.toInt ((w7F 164 0 rfl).trans rfl)).trans rfl
    have w11 := ib325_0 hI
    have w12 : (zI w7M 325 0).toInt = (zI M 325 0).toInt := (congrArg Int32.toInt ((w7F 325 0 rfl).trans rfl)).trans rfl
    exact zs_iret (pc := 12) t214_12 mr214 (zfb01 (by omega)) (hQ _ _ w7s w7I ((zFr.refl).trans (w7F.mono rfl)) (by omega) (Or.inl ⟨by omega, w8.2.1, (zSo.fr x0 (zFr.eq w7F rfl)), (zHC.fr x1 (zFr.eq w7F rfl)), w8.2.2⟩) (by omega) (by omega))
  · skip
    have w8v := w8.1
    have w13 : (zI w7M 164 0).toInt = (zI M 164 0).toInt := (congrArg Int32.toInt ((w7F 164 0 rfl).trans rfl)).trans rfl
    have w14 : (zI w7M 325 0).toInt = (zI M 325 0).toInt := (congrArg Int32.toInt ((w7F 325 0 rfl).trans rfl)).trans rfl
    exact zs_iret (pc := 12) t214_12 mr214 (zfb01 (by omega)) (hQ _ _ w7s w7I ((zFr.refl).trans (w7F.mono rfl)) (by omega) (Or.inr ⟨by omega, w8.2.1, w8.2.2.1, (zSo.fr x0 (zFr.eq w7F rfl)), (zHC.fr x1 (zFr.eq w7F rfl)), w8.2.2.2⟩) (by omega) (by omega))
theorem S216 {X : zX} {l : Launch} {M : zM} {Q : Option Value → zM → Prop} {a : Int32} (hs : zSk zMc M) (hI : zIv cLo cHi M) {F : Nat → Int} {H : Nat → Nat → Int} {n : Int} {K : Nat → Nat → Int} {T : Nat → Int} (x0 : zSo M 7 F) (x1 : zHC M H n) (x2 : zKC M K T) (x3 : zWF F) (hQ : ∀ (M' : zM) (v : Int32), zSk zMc M' → zIv cLo cHi M' → zFr [(7, 18, none), (31, 154, none), (164, 164, some 0), (325, 325, some 0)] M M' → (((zI M' 164 0).toInt = 0 ∧ (zI M' 325 0).toInt = 0) ∨ (v.toInt = 0 ∧ (zI M' 164 0).toInt = (zI M 164 0).toInt ∧ (zI M' 325 0).toInt = (zI M 325 0).toInt)) → ((v.toInt = 0 ∧ (a.toInt < 0 ∨ 1 < a.toInt ∨ (0 ≤ a.toInt ∧ a.toInt ≤ 1 ∧ T a.toInt.toNat ≠ 1)) ∧ zSC M' F H n K T) ∨ (v.toInt = 1 ∧ 0 ≤ a.toInt ∧ a.toInt ≤ 1 ∧ T a.toInt.toNat = 1 ∧ zSC M' (K a.toInt.toNat) (pushH F H) (nP n) K T)) → 0 ≤ v.toInt → v.toInt ≤ 1 → Q (some (.int v)) M') : zCall X l 4 0 0 216 [.ref 6, .int a] M Q := by
  have ga := zrg a
  refine zs_in (by decide) mf216 (Nat.le_of_ble_eq_true rfl) ?_
  show zGo X l 4 0 0 216 0 [(0, .ref 6), (1, .int a)] [] M _
  have f0 := x0.1
  have w1 := ib7_0 hI
  have w2 : (zI M 7 0).toInt = (zI M 7 0).toInt := (congrArg Int32.toInt rfl).trans rfl
  have w3 := ib7_3 hI
  have w4 : (zI M 7 3).toInt = (zI M 7 3).toInt := (congrArg Int32.toInt rfl).trans rfl
  have w5 := ib7_8 hI
  have w6 : (zI M 7 8).toInt = (zI M 7 8).toInt := (congrArg Int32.toInt rfl).trans rfl
  have f1 := x3.1
  have f3 := x3.2.2.2
  have f2 := (show (zI M 7 0).toInt = F 0 ∧ (zI M 7 3).toInt = F 1 ∧ (zI M 7 8).toInt = F 2 from ⟨x0.1.1, x0.1.2.1, x0.1.2.2.1⟩)
  have g0 := (x2 0 (by decide)).1
  have w7 := ib34 hI 0
  have g1 := (x2 1 (by decide)).1
  have w8 := ib34 hI 1
  refine zs_aload_n (pc := 0) t216_0 rfl ?_
  refine zs_get (pc := 1) t216_1 (by decide) (zk1 (hs.k fk_zMc_6)) (hs.p rfl fv_zMc_6_2) ?_
  refine zs_iload_n (pc := 4) t216_4 rfl ?_
  refine zs_invV (pc := 5) (k := 31) (as' := [.int a]) (st := []) t216_5 mf217 rfl rfl (Or.inl ⟨by decide, (zk1 (hs.k fk_zMc_31))⟩) ⟨by decide, by decide, Nat.le_of_ble_eq_true rfl, Nat.le_of_ble_eq_true rfl⟩ (zs_in (by decide) mf217 (Nat.le_of_ble_eq_true rfl) ?_) (fun _ _ q => q)
  show zGo X l 0 0 0 217 0 [(0, .ref 31), (1, .int a)] [] M _
  refine zs_iload_n (pc := 0) t217_0 rfl ?_
  by_cases w9 : a.toInt = 0
  · refine zs_if_eqT (pc := 1) t217_1 rfl (by omega) ?_
    refine zs_aload_n (pc := 9) t217_9 rfl ?_
    refine zs_get (pc := 10) t217_10 (by decide) (zk1 (hs.k fk_zMc_31)) (hs.p rfl fv_zMc_31_4) ?_
    refine zs_iload_n (pc := 13) t217_13 rfl ?_
    obtain ⟨w10n, w10⟩ : ∃ n : Nat, a.toInt = (n : Int) := ⟨(a.toInt).toNat, by omega⟩
    have w11 := ib34 hI w10n
    refine zs_bald (pc := 14) t217_14 (j := w10n) (Or.inr (zk1 (hs.k fk_zMc_34))) (show a.toInt = ((w10n : Nat) : Int) by omega) (zk2 (hs.k fk_zMc_34) (by omega)) rfl ?_
    by_cases w12 : (zI M 34 w10n).toInt = 0
    · refine zs_if_eqT (pc := 15) t217_15 rfl (by omega) ?_
      refine zs_iconst (pc := 22) t217_22 (v := 0) (by decide) ?_
      refine zs_iret (pc := 23) t217_23 mr217 (by decide) ?_
      show zGo X l 4 0 0 216 8 [(0, .ref 6), (1, .int a)] [.int (0 : Int32)] M _
      refine zs_if_neF (pc := 8) t216_8 li0 (by decide) ?_
      refine zs_iconst (pc := 11) t216_11 (v := 0) (by decide) ?_
      have w13 := ib164_0 hI
      have w14 : (zI M 164 0).toInt = (zI M 164 0).toInt := (congrArg Int32.toInt rfl).trans rfl
      have w15 := ib325_0 hI
      have w16 : (zI M 325 0).toInt = (zI M 325 0).toInt := (congrArg Int32.toInt rfl).trans rfl
      have w17 := li0
      have w18 : (0 : Int32).toInt = 0 := li0
      have w19 : (zI M 34 w10n).toInt = T 0 := by rw [show w10n = 0 by omega]; exact g0
      exact zs_iret (pc := 12) t216_12 mr216 (by decide) (hQ _ _ hs hI (zFr.refl) (by omega) (Or.inl ⟨by decide, by rw [show a.toInt.toNat = 0 by omega]; omega, x0, x1, x2⟩) (by decide) (by decide))
    · refine zs_if_eqF (pc := 15) t217_15 rfl (by omega) ?_
      refine zs_iconst (pc := 18) t217_18 (v := 1) (by decide) ?_
      refine zs_goto (pc := 19) t217_19 ?_
      refine zs_iret (pc := 23) t217_23 mr217 (by decide) ?_
      show zGo X l 4 0 0 216 8 [(0, .ref 6), (1, .int a)] [.int (1 : Int32)] M _
      refine zs_if_neT (pc := 8) t216_8 li1 (by decide) ?_
      refine zs_aload_n (pc := 13) t216_13 rfl ?_
      refine zs_get (pc := 14) t216_14 (by decide) (zk1 (hs.k fk_zMc_6)) (hs.p rfl fv_zMc_6_2) ?_
      refine zs_aload_n (pc := 17) t216_17 rfl ?_
      refine zs_get (pc := 18) t216_18 (by decide) (zk1 (hs.k fk_zMc_6)) (hs.p rfl fv_zMc_6_0) ?_
      refine zs_invV (pc := 21) (k := 31) (as' := [.ref 7]) (st := []) t216_21 mf58 rfl rfl (Or.inl ⟨by decide, (zk1 (hs.k fk_zMc_31))⟩) ⟨by decide, by decide, Nat.le_of_ble_eq_true rfl, Nat.le_of_ble_eq_true rfl⟩ (X58_31_7 hs hI x0 x1 ?_) (fun _ _ q => q)
      intro w20M w20s w20I w20F w20x0
      show zGo X l 4 0 0 216 24 [(0, .ref 6), (1, .int a)] [] w20M _
      refine zs_aload_n (pc := 24) t216_24 rfl ?_
      refine zs_invV (pc := 25) (k := 6) (as' := []) (st := []) t216_25 mf59 rfl rfl (Or.inl ⟨by decide, (zk1 (w20s.k fk_zMc_6))⟩) ⟨by decide, by decide, Nat.le_of_ble_eq_true rfl, Nat.le_of_ble_eq_true rfl⟩ (zs_in (by decide) mf59 (Nat.le_of_ble_eq_true rfl) ?_) (fun _ _ q => q)
      show zGo X l 1 0 0 59 0 [(0, .ref 6)] [] w20M _
      refine zs_aload_n (pc := 0) t59_0 rfl ?_
      refine zs_get (pc := 1) t59_1 (by decide) (zk1 (w20s.k fk_zMc_6)) (w20s.p rfl fv_zMc_6_6) ?_
      refine zs_invV (pc := 4) (k := 164) (as' := []) (st := []) t59_4 mf60 rfl rfl (Or.inl ⟨by decide, (zk1 (w20s.k fk_zMc_164))⟩) ⟨by decide, by decide, Nat.le_of_ble_eq_true rfl, Nat.le_of_ble_eq_true rfl⟩ (zs_in (by decide) mf60 (Nat.le_of_ble_eq_true rfl) ?_) (fun _ _ q => q)
      show zGo X l 0 0 0 60 0 [(0, .ref 164)] [] w20M _
      refine zs_aload_n (pc := 0) t60_0 rfl ?_
      refine zs_iconst (pc := 1) t60_1 (v := 0) (by decide) ?_
      have w21 : zIv cLo cHi (zsI w20M 164 0 (0 : Int32)) := zIv.put w20I (show 0 ≤ (0 : Int32).toInt ∧ (0 : Int32).toInt ≤ 1 from ⟨by decide, by decide⟩)
      refine zs_putI (pc := 2) t60_2 (zk1 (w20s.k fk_zMc_164)) (by decide) ?_
      refine zs_vret (pc := 5) t60_5 mr60 ?_
      show zGo X l 1 0 0 59 7 [(0, .ref 6)] [] (zsI w20M 164 0 (0 : Int32)) _
      refine zs_aload_n (pc := 7) t59_7 rfl ?_
      refine zs_get (pc := 8) t59_8 (by decide) (zk1 (w20s.k fk_zMc_6)) (w20s.p rfl fv_zMc_6_7) ?_
      refine zs_invV (pc := 11) (k := 325) (as' := []) (st := []) t59_11 mf61 rfl rfl (Or.inl ⟨by decide, (zk1 (w20s.k fk_zMc_325))⟩) ⟨by decide, by decide, Nat.le_of_ble_eq_true rfl, Nat.le_of_ble_eq_true rfl⟩ (zs_in (by decide) mf61 (Nat.le_of_ble_eq_true rfl) ?_) (fun _ _ q => q)
      show zGo X l 0 0 0 61 0 [(0, .ref 325)] [] (zsI w20M 164 0 (0 : Int32)) _
      refine zs_aload_n (pc := 0) t61_0 rfl ?_
      refine zs_iconst (pc := 1) t61_1 (v := 0) (by decide) ?_
      have w22 : zIv cLo cHi (zsI (zsI w20M 164 0 (0 : Int32)) 325 0 (0 : Int32)) := zIv.put w21 (show 0 ≤ (0 : Int32).toInt ∧ (0 : Int32).toInt ≤ 1 from ⟨by decide, by decide⟩)
      refine zs_putI (pc := 2) t61_2 (zk1 (w20s.k fk_zMc_325)) (by decide) ?_
      refine zs_vret (pc := 5) t61_5 mr61 ?_
      show zGo X l 1 0 0 59 14 [(0, .ref 6)] [] (zsI (zsI w20M 164 0 (0 : Int32)) 325 0 (0 : Int32)) _
      refine zs_vret (pc := 14) t59_14 mr59 ?_
      show zGo X l 4 0 0 216 28 [(0, .ref 6), (1, .int a)] [] (zsI (zsI w20M 164 0 (0 : Int32)) 325 0 (0 : Int32)) _
      refine zs_aload_n (pc := 28) t216_28 rfl ?_
      refine zs_get (pc := 29) t216_29 (by decide) (zk1 (w20s.k fk_zMc_6)) (w20s.p rfl fv_zMc_6_2) ?_
      refine zs_iload_n (pc := 32) t216_32 rfl ?_
      refine zs_aload_n (pc := 33) t216_33 rfl ?_
      refine zs_get (pc := 34) t216_34 (by decide) (zk1 (w20s.k fk_zMc_6)) (w20s.p rfl fv_zMc_6_0) ?_
      refine zs_invV (pc := 37) (k := 31) (as' := [.int a, .ref 7]) (st := []) t216_37 mf218 rfl rfl (Or.inl ⟨by decide, (zk1 (w20s.k fk_zMc_31))⟩) ⟨by decide, by decide, Nat.le_of_ble_eq_true rfl, Nat.le_of_ble_eq_true rfl⟩ (X218_31_7 w20s w22 (zSo.fr x0 (zEq.tr (zEq.tr (zFr.eq w20F rfl) (zEq.put rfl)) (zEq.put rfl))) (zKC.fr x2 (zEq.tr (zEq.tr (zFr.eq w20F rfl) (zEq.put rfl)) (zEq.put rfl))) ?_) (fun _ _ q => q)
      intro w23M w23v w23s w23I w23F w23x0 w23a w23b
      show zGo X l 4 0 0 216 40 [(0, .ref 6), (1, .int a)] [.int w23v] w23M _
      rcases w23x0 with w24 | w24
      · skip
        have w24v := w24.1
        have w25 : (zI w23M 164 0).toInt = 0 := (congrArg Int32.toInt ((w23F 164 0 rfl).trans ((zIo (by decide)).trans zIs))).trans li0
        have w26 : (zI w23M 325 0).toInt = 0 := (congrArg Int32.toInt ((w23F 325 0 rfl).trans zIs)).trans li0
        have w27 : (zI M 34 w10n).toInt = T 0 := by rw [show w10n = 0 by omega]; exact g0
        have g9 := w24.2.1
        rw [show a.toInt.toNat = 0 by omega] at g9
        exact zs_iret (pc := 40) t216_40 mr216 (zfb01 (by omega)) (hQ _ _ w23s w23I (((((zFr.refl).trans (w20F.mono rfl)).put rfl).put rfl).trans (w23F.mono rfl)) (by omega) (absurd g9 (by omega)) (by omega) (by omega))
      · skip
        have w24v := w24.1
        have w28 : (zI w23M 164 0).toInt = 0 := (congrArg Int32.toInt ((w23F 164 0 rfl).trans ((zIo (by decide)).trans zIs))).trans li0
        have w29 : (zI w23M 325 0).toInt = 0 := (congrArg Int32.toInt ((w23F 325 0 rfl).trans zIs)).trans li0
        exact zs_iret (pc := 40) t216_40 mr216 (zfb01 (by omega)) (hQ _ _ w23s w23I (((((zFr.refl).trans (w20F.mono rfl)).put rfl).put rfl).trans (w23F.mono rfl)) (by omega) (Or.inr ⟨by omega, w24.2.1, w24.2.2.1, w24.2.2.2.1, w24.2.2.2.2, (zHC.fr w20x0 (zEq.tr (zEq.tr (zEq.put rfl) (zEq.put rfl)) (zFr.eq w23F rfl))), (zKC.fr x2 (zEq.tr (zEq.tr (zEq.tr (zFr.eq w20F rfl) (zEq.put rfl)) (zEq.put rfl)) (zFr.eq w23F rfl)))⟩) (by omega) (by omega))
  · refine zs_if_eqF (pc := 1) t217_1 rfl (by omega) ?_
    refine zs_iload_n (pc := 4) t217_4 rfl ?_
    refine zs_iconst (pc := 5) t217_5 (v := 1) (by decide) ?_
    by_cases w30 : a.toInt ≠ 1
    · refine zs_icmp_neT (pc := 6) t217_6 rfl li1 (by omega) ?_
      refine zs_iconst (pc := 22) t217_22 (v := 0) (by decide) ?_
      refine zs_iret (pc := 23) t217_23 mr217 (by decide) ?_
      show zGo X l 4 0 0 216 8 [(0, .ref 6), (1, .int a)] [.int (0 : Int32)] M _
      refine zs_if_neF (pc := 8) t216_8 li0 (by decide) ?_
      refine zs_iconst (pc := 11) t216_11 (v := 0) (by decide) ?_
      have w31 := ib164_0 hI
      have w32 : (zI M 164 0).toInt = (zI M 164 0).toInt := (congrArg Int32.toInt rfl).trans rfl
      have w33 := ib325_0 hI
      have w34 : (zI M 325 0).toInt = (zI M 325 0).toInt := (congrArg Int32.toInt rfl).trans rfl
      have w35 := li0
      have w36 : (0 : Int32).toInt = 0 := li0
      exact zs_iret (pc := 12) t216_12 mr216 (by decide) (hQ _ _ hs hI (zFr.refl) (by omega) (Or.inl ⟨by decide, by omega, x0, x1, x2⟩) (by decide) (by decide))
    · refine zs_icmp_neF (pc := 6) t217_6 rfl li1 (by omega) ?_
      refine zs_aload_n (pc := 9) t217_9 rfl ?_
      refine zs_get (pc := 10) t217_10 (by decide) (zk1 (hs.k fk_zMc_31)) (hs.p rfl fv_zMc_31_4) ?_
      refine zs_iload_n (pc := 13) t217_13 rfl ?_
      obtain ⟨w37n, w37⟩ : ∃ n : Nat, a.toInt = (n : Int) := ⟨(a.toInt).toNat, by omega⟩
      have w38 := ib34 hI w37n
      refine zs_bald (pc := 14) t217_14 (j := w37n) (Or.inr (zk1 (hs.k fk_zMc_34))) (show a.toInt = ((w37n : Nat) : Int) by omega) (zk2 (hs.k fk_zMc_34) (by omega)) rfl ?_
      by_cases w39 : (zI M 34 w37n).toInt = 0
      · refine zs_if_eqT (pc := 15) t217_15 rfl (by omega) ?_
        refine zs_iconst (pc := 22) t217_22 (v := 0) (by decide) ?_
        refine zs_iret (pc := 23) t217_23 mr217 (by decide) ?_
        show zGo X l 4 0 0 216 8 [(0, .ref 6), (1, .int a)] [.int (0 : Int32)] M _
        refine zs_if_neF (pc := 8) t216_8 li0 (by decide) ?_
        refine zs_iconst (pc := 11) t216_11 (v := 0) (by decide) ?_
        have w40 := ib164_0 hI
        have w41 : (zI M 164 0).toInt = (zI M 164 0).toInt := (congrArg Int32.toInt rfl).trans rfl
        have w42 := ib325_0 hI
        have w43 : (zI M 325 0).toInt = (zI M 325 0).toInt := (congrArg Int32.toInt rfl).trans rfl
        have w44 := li0
        have w45 : (0 : Int32).toInt = 0 := li0
        have w46 : (zI M 34 w37n).toInt = T 1 := by rw [show w37n = 1 by omega]; exact g1
        exact zs_iret (pc := 12) t216_12 mr216 (by decide) (hQ _ _ hs hI (zFr.refl) (by omega) (Or.inl ⟨by decide, by rw [show a.toInt.toNat = 1 by omega]; omega, x0, x1, x2⟩) (by decide) (by decide))
      · refine zs_if_eqF (pc := 15) t217_15 rfl (by omega) ?_
        refine zs_iconst (pc := 18) t217_18 (v := 1) (by decide) ?_
        refine zs_goto (pc := 19) t217_19 ?_
        refine zs_iret (pc := 23) t217_23 mr217 (by decide) ?_
        show zGo X l 4 0 0 216 8 [(0, .ref 6), (1, .int a)] [.int (1 : Int32)] M _
        refine zs_if_neT (pc := 8) t216_8 li1 (by decide) ?_
        refine zs_aload_n (pc := 13) t216_13 rfl ?_
        refine zs_get (pc := 14) t216_14 (by decide) (zk1 (hs.k fk_zMc_6)) (hs.p rfl fv_zMc_6_2) ?_
        refine zs_aload_n (pc := 17) t216_17 rfl ?_
        refine zs_get (pc := 18) t216_18 (by decide) (zk1 (hs.k fk_zMc_6)) (hs.p rfl fv_zMc_6_0) ?_
        refine zs_invV (pc := 21) (k := 31) (as' := [.ref 7]) (st := []) t216_21 mf58 rfl rfl (Or.inl ⟨by decide, (zk1 (hs.k fk_zMc_31))⟩) ⟨by decide, by decide, Nat.le_of_ble_eq_true rfl, Nat.le_of_ble_eq_true rfl⟩ (X58_31_7 hs hI x0 x1 ?_) (fun _ _ q => q)
        intro w47M w47s w47I w47F w47x0
        show zGo X l 4 0 0 216 24 [(0, .ref 6), (1, .int a)] [] w47M _
        refine zs_aload_n (pc := 24) t216_24 rfl ?_
        refine zs_invV (pc := 25) (k := 6) (as' := []) (st := []) t216_25 mf59 rfl rfl (Or.inl ⟨by decide, (zk1 (w47s.k fk_zMc_6))⟩) ⟨by decide, by decide, Nat.le_of_ble_eq_true rfl, Nat.le_of_ble_eq_true rfl⟩ (zs_in (by decide) mf59 (Nat.le_of_ble_eq_true rfl) ?_) (fun _ _ q => q)
        show zGo X l 1 0 0 59 0 [(0, .ref 6)] [] w47M _
        refine zs_aload_n (pc := 0) t59_0 rfl ?_
        refine zs_get (pc := 1) t59_1 (by decide) (zk1 (w47s.k fk_zMc_6)) (w47s.p rfl fv_zMc_6_6) ?_
        refine zs_invV (pc := 4) (k := 164) (as' := []) (st := []) t59_4 mf60 rfl rfl (Or.inl ⟨by decide, (zk1 (w47s.k fk_zMc_164))⟩) ⟨by decide, by decide, Nat.le_of_ble_eq_true rfl, Nat.le_of_ble_eq_true rfl⟩ (zs_in (by decide) mf60 (Nat.le_of_ble_eq_true rfl) ?_) (fun _ _ q => q)
        show zGo X l 0 0 0 60 0 [(0, .ref 164)] [] w47M _
        refine zs_aload_n (pc := 0) t60_0 rfl ?_
        refine zs_iconst (pc := 1) t60_1 (v := 0) (by decide) ?_
        have w48 : zIv cLo cHi (zsI w47M 164 0 (0 : Int32)) := zIv.put w47I (show 0 ≤ (0 : Int32).toInt ∧ (0 : Int32).toInt ≤ 1 from ⟨by decide, by decide⟩)
        refine zs_putI (pc := 2) t60_2 (zk1 (w47s.k fk_zMc_164)) (by decide) ?_
        refine zs_vret (pc := 5) t60_5 mr60 ?_
        show zGo X l 1 0 0 59 7 [(0, .ref 6)] [] (zsI w47M 164 0 (0 : Int32)) _
        refine zs_aload_n (pc := 7) t59_7 rfl ?_
        refine zs_get (pc := 8) t59_8 (by decide) (zk1 (w47s.k fk_zMc_6)) (w47s.p rfl fv_zMc_6_7) ?_
        refine zs_invV (pc := 11) (k := 325) (as' := []) (st := []) t59_11 mf61 rfl rfl (Or.inl ⟨by decide, (zk1 (w47s.k fk_zMc_325))⟩) ⟨by decide, by decide, Nat.le_of_ble_eq_true rfl, Nat.le_of_ble_eq_true rfl⟩ (zs_in (by decide) mf61 (Nat.le_of_ble_eq_true rfl) ?_) (fun _ _ q => q)
        show zGo X l 0 0 0 61 0 [(0, .ref 325)] [] (zsI w47M 164 0 (0 : Int32)) _
        refine zs_aload_n (pc := 0) t61_0 rfl ?_
        refine zs_iconst (pc := 1) t61_1 (v := 0) (by decide) ?_
        have w49 : zIv cLo cHi (zsI (zsI w47M 164 0 (0 : Int32)) 325 0 (0 : Int32)) := zIv.put w48 (show 0 ≤ (0 : Int32).toInt ∧ (0 : Int32).toInt ≤ 1 from ⟨by decide, by decide⟩)
        refine zs_putI (pc := 2) t61_2 (zk1 (w47s.k fk_zMc_325)) (by decide) ?_
        refine zs_vret (pc := 5) t61_5 mr61 ?_
        show zGo X l 1 0 0 59 14 [(0, .ref 6)] [] (zsI (zsI w47M 164 0 (0 : Int32)) 325 0 (0 : Int32)) _
        refine zs_vret (pc := 14) t59_14 mr59 ?_
        show zGo X l 4 0 0 216 28 [(0, .ref 6), (1, .int a)] [] (zsI (zsI w47M 164 0 (0 : Int32)) 325 0 (0 : Int32)) _
        refine zs_aload_n (pc := 28) t216_28 rfl ?_
        refine zs_get (pc := 29) t216_29 (by decide) (zk1 (w47s.k fk_zMc_6)) (w47s.p rfl fv_zMc_6_2) ?_
        refine zs_iload_n (pc := 32) t216_32 rfl ?_
        refine zs_aload_n (pc := 33) t216_33 rfl ?_
        refine zs_get (pc := 34) t216_34 (by decide) (zk1 (w47s.k fk_zMc_6)) (w47s.p rfl fv_zMc_6_0) ?_
        refine zs_invV (pc := 37) (k := 31) (as' := [.int a, .ref 7]) (st := []) t216_37 mf218 rfl rfl (Or.inl ⟨by decide, (zk1 (w47s.k fk_zMc_31))⟩) ⟨by decide, by decide, Nat.le_of_ble_eq_true rfl, Nat.le_of_ble_eq_true rfl⟩ (X218_31_7 w47s w49 (zSo.fr x0 (zEq.tr (zEq.tr (zFr.eq w47F rfl) (zEq.put rfl)) (zEq.put rfl))) (zKC.fr x2 (zEq.tr (zEq.tr (zFr.eq w47F rfl) (zEq.put rfl)) (zEq.put rfl))) ?_) (fun _ _ q => q)
        intro w50M w50v w50s w50I w50F w50x0 w50a w50b
        show zGo X l 4 0 0 216 40 [(0, .ref 6), (1, .int a)] [.int w50v] w50M _
        rcases w50x0 with w51 | w51
        · skip
          have w51v := w51.1
          have w52 : (zI w50M 164 0).toInt = 0 := (congrArg Int32.toInt ((w50F 164 0 rfl).trans ((zIo (by decide)).trans zIs))).trans li0
          have w53 : (zI w50M 325 0).toInt = 0 := (congrArg Int32.toInt ((w50F 325 0 rfl).trans zIs)).trans li0
          have w54 : (zI M 34 w37n).toInt = T 1 := by rw [show w37n = 1 by omega]; exact g1
          have g9 := w51.2.1
          rw [show a.toInt.toNat = 1 by omega] at g9
          exact zs_iret (pc := 40) t216_40 mr216 (zfb01 (by omega)) (hQ _ _ w50s w50I (((((zFr.refl).trans (w47F.mono rfl)).put rfl).put rfl).trans (w50F.mono rfl)) (by omega) (absurd g9 (by omega)) (by omega) (by omega))
        · skip
          have w51v := w51.1
          have w55 : (zI w50M 164 0).toInt = 0 := (congrArg Int32.toInt ((w50F 164 0 rfl).trans ((zIo (by decide)).trans zIs))).trans li0
          have w56 : (zI w50M 325 0).toInt = 0 := (congrArg Int32.toInt ((w50F 325 0 rfl).trans zIs)).trans li0
          exact zs_iret (pc := 40) t216_40 mr216 (zfb01 (by omega)) (hQ _ _ w50s w50I (((((zFr.refl).trans (w47F.mono rfl)).put rfl).put rfl).trans (w50F.mono rfl)) (by omega) (Or.inr ⟨by omega, w51.2.1, w51.2.2.1, w51.2.2.2.1, w51.2.2.2.2, (zHC.fr w47x0 (zEq.tr (zEq.tr (zEq.put rfl) (zEq.put rfl)) (zFr.eq w50F rfl))), (zKC.fr x2 (zEq.tr (zEq.tr (zEq.tr (zFr.eq w47F rfl) (zEq.put rfl)) (zEq.put rfl)) (zFr.eq w50F rfl)))⟩) (by omega) (by omega))
