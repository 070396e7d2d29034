set_option maxHeartbeats 8000000 in
theorem P188 {X : zX} {l : Launch} {M : zM} {Q : Option Value → zM → Prop} {a b c d e : Int32} (hs : zSk zMc M) (hI : zIv cLo cHi M) {F : Nat → Int} (u0 : (zI M 166 10).toInt ≤ 1600000000) (u1 : 0 ≤ (zI M 166 10).toInt) (u2 : (zI M 242 10).toInt ≤ 1600000000) (u3 : 0 ≤ (zI M 242 10).toInt) (x0 : zSo M 7 F) (x1 : zWF F) (x2 : zKnA M F) (x3 : zSp M 166 174) (x4 : zSp M 242 250) (hQ : ∀ (M' : zM) (v : Int32), zSk zMc M' → zIv cLo cHi M' → zFr [(164, 165, none), (166, 178, none), (180, 180, none), (181, 240, none), (317, 324, none), (332, 334, none)] M M' → ((zI M' 166 10).toInt ≤ (zI M 166 10).toInt + 20000) → ((zI M 166 10).toInt ≤ (zI M' 166 10).toInt) → ((zI M' 242 10).toInt ≤ (zI M 242 10).toInt + 20000) → ((zI M 242 10).toInt ≤ (zI M' 242 10).toInt) → (zKnA M' F) → (zSp M' 166 174) → (zSp M' 242 250) → Q (some (.int v)) M') : zCall X l 7 0 0 188 [.ref 6, .int a, .int b, .int c, .int d, .int e] M Q := by
  have ga := zrg a
  have gb := zrg b
  have gc := zrg c
  have gd := zrg d
  have ge := zrg e
  refine zs_in (by decide) mf188 (Nat.le_of_ble_eq_true rfl) ?_
  show zGo X l 7 0 0 188 0 [(0, .ref 6), (1, .int a), (2, .int b), (3, .int c), (4, .int d), (5, .int e)] [] M _
  have f0 := x0.1
  have w1 := ib7_0 hI
  have w2 : (zI M 7 0).toInt = (zI M 7 0).toInt := (congrArg Int32.toInt rfl).trans rfl
  have w3 := ib7_3 hI
  have w4 : (zI M 7 3).toInt = (zI M 7 3).toInt := (congrArg Int32.toInt rfl).trans rfl
  have w5 := ib7_8 hI
  have w6 : (zI M 7 8).toInt = (zI M 7 8).toInt := (congrArg Int32.toInt rfl).trans rfl
  have f1 := x1.1
  have f3 := x1.2.2.2
  have f2 := (show (zI M 7 0).toInt = F 0 ∧ (zI M 7 3).toInt = F 1 ∧ (zI M 7 8).toInt = F 2 from ⟨x0.1.1, x0.1.2.1, x0.1.2.2.1⟩)
  refine zs_iload_n (pc := 0) t188_0 rfl ?_
  refine zs_iload_n (pc := 1) t188_1 rfl ?_
  refine zs_iload (pc := 2) t188_2 rfl ?_
  refine zs_invS (pc := 4) (as := [.int a, .int b, .int d]) (st := []) t188_4 (by decide) mf189 rfl rfl ⟨by decide, by decide, Nat.le_of_ble_eq_true rfl, Nat.le_of_ble_eq_true rfl⟩ (zs_in (by decide) mf189 (Nat.le_of_ble_eq_true rfl) ?_) (fun _ _ q => q)
  show zGo X l 1 0 0 189 0 [(0, .int a), (1, .int b), (2, .int d)] [] M _
  refine zs_iload_n (pc := 0) t189_0 rfl ?_
  refine zs_iconst (pc := 1) t189_1 (v := 1) (by decide) ?_
  refine zs_sipush (pc := 2) t189_2 (v := 200) (by decide) ?_
  refine zs_invS (pc := 5) (as := [.int a, .int (1 : Int32), .int (200 : Int32)]) (st := []) t189_5 (by decide) mf39 rfl rfl ⟨by decide, by decide, Nat.le_of_ble_eq_true rfl, Nat.le_of_ble_eq_true rfl⟩ (zs_in (by decide) mf39 (Nat.le_of_ble_eq_true rfl) ?_) (fun _ _ q => q)
  show zGo X l 0 0 0 39 0 [(0, .int a), (1, .int (1 : Int32)), (2, .int (200 : Int32))] [] M _
  refine zs_iload_n (pc := 0) t39_0 rfl ?_
  refine zs_iload_n (pc := 1) t39_1 rfl ?_
  by_cases w7 : a.toInt < 1
  · refine zs_icmp_ltT (pc := 2) t39_2 rfl li1 (by omega) ?_
    refine zs_iconst (pc := 14) t39_14 (v := 0) (by decide) ?_
    refine zs_iret (pc := 15) t39_15 mr39 (by decide) ?_
    show zGo X l 1 0 0 189 8 [(0, .int a), (1, .int b), (2, .int d)] [.int (0 : Int32)] M _
    refine zs_if_eqT (pc := 8) t189_8 li0 (by decide) ?_
    refine zs_iconst (pc := 36) t189_36 (v := 0) (by decide) ?_
    refine zs_iret (pc := 37) t189_37 mr189 (by decide) ?_
    show zGo X l 7 0 0 188 7 [(0, .ref 6), (1, .int a), (2, .int b), (3, .int c), (4, .int d), (5, .int e)] [.int (0 : Int32)] M _
    refine zs_if_eqT (pc := 7) t188_7 li0 (by decide) ?_
    refine zs_iconst (pc := 20) t188_20 (v := -1) (by decide) ?_
    have w8 := zrg (zI M 166 10)
    have w9 : (zI M 166 10).toInt = (zI M 166 10).toInt := (congrArg Int32.toInt rfl).trans rfl
    have w10 := zrg (zI M 242 10)
    have w11 : (zI M 242 10).toInt = (zI M 242 10).toInt := (congrArg Int32.toInt rfl).trans rfl
    have w12 := lin1
    exact zs_iret (pc := 21) t188_21 mr188 (by decide) (hQ _ _ hs hI (zFr.refl) (by omega) (by omega) (by omega) (by omega) x2 x3 x4)
  · refine zs_icmp_ltF (pc := 2) t39_2 rfl li1 (by omega) ?_
    refine zs_iload_n (pc := 5) t39_5 rfl ?_
    refine zs_iload_n (pc := 6) t39_6 rfl ?_
    by_cases w13 : 200 < a.toInt
    · refine zs_icmp_gtT (pc := 7) t39_7 rfl li200 (by omega) ?_
      refine zs_iconst (pc := 14) t39_14 (v := 0) (by decide) ?_
      refine zs_iret (pc := 15) t39_15 mr39 (by decide) ?_
      show zGo X l 1 0 0 189 8 [(0, .int a), (1, .int b), (2, .int d)] [.int (0 : Int32)] M _
      refine zs_if_eqT (pc := 8) t189_8 li0 (by decide) ?_
      refine zs_iconst (pc := 36) t189_36 (v := 0) (by decide) ?_
      refine zs_iret (pc := 37) t189_37 mr189 (by decide) ?_
      show zGo X l 7 0 0 188 7 [(0, .ref 6), (1, .int a), (2, .int b), (3, .int c), (4, .int d), (5, .int e)] [.int (0 : Int32)] M _
      refine zs_if_eqT (pc := 7) t188_7 li0 (by decide) ?_
      refine zs_iconst (pc := 20) t188_20 (v := -1) (by decide) ?_
      have w14 := zrg (zI M 166 10)
      have w15 : (zI M 166 10).toInt = (zI M 166 10).toInt := (congrArg Int32.toInt rfl).trans rfl
      have w16 := zrg (zI M 242 10)
      have w17 : (zI M 242 10).toInt = (zI M 242 10).toInt := (congrArg Int32.toInt rfl).trans rfl
      have w18 := lin1
      exact zs_iret (pc := 21) t188_21 mr188 (by decide) (hQ _ _ hs hI (zFr.refl) (by omega) (by omega) (by omega) (by omega) x2 x3 x4)
    · refine zs_icmp_gtF (pc := 7) t39_7 rfl li200 (by omega) ?_
      refine zs_iconst (pc := 10) t39_10 (v := 1) (by decide) ?_
      refine zs_goto (pc := 11) t39_11 ?_
      refine zs_iret (pc := 15) t39_15 mr39 (by decide) ?_
      show zGo X l 1 0 0 189 8 [(0, .int a), (1, .int b), (2, .int d)] [.int (1 : Int32)] M _
      refine zs_if_eqF (pc := 8) t189_8 li1 (by decide) ?_
      refine zs_iload_n (pc := 11) t189_11 rfl ?_
      refine zs_iconst (pc := 12) t189_12 (v := 1) (by decide) ?_
      refine zs_sipush (pc := 13) t189_13 (v := 999) (by decide) ?_
      refine zs_invS (pc := 16) (as := [.int b, .int (1 : Int32), .int (999 : Int32)]) (st := []) t189_16 (by decide) mf39 rfl rfl ⟨by decide, by decide, Nat.le_of_ble_eq_true rfl, Nat.le_of_ble_eq_true rfl⟩ (zs_in (by decide) mf39 (Nat.le_of_ble_eq_true rfl) ?_) (fun _ _ q => q)
      show zGo X l 0 0 0 39 0 [(0, .int b), (1, .int (1 : Int32)), (2, .int (999 : Int32))] [] M _
      refine zs_iload_n (pc := 0) t39_0 rfl ?_
      refine zs_iload_n (pc := 1) t39_1 rfl ?_
      by_cases w19 : b.toInt < 1
      · refine zs_icmp_ltT (pc := 2) t39_2 rfl li1 (by omega) ?_
        refine zs_iconst (pc := 14) t39_14 (v := 0) (by decide) ?_
        refine zs_iret (pc := 15) t39_15 mr39 (by decide) ?_
        show zGo X l 1 0 0 189 19 [(0, .int a), (1, .int b), (2, .int d)] [.int (0 : Int32)] M _
        refine zs_if_eqT (pc := 19) t189_19 li0 (by decide) ?_
        refine zs_iconst (pc := 36) t189_36 (v := 0) (by decide) ?_
        refine zs_iret (pc := 37) t189_37 mr189 (by decide) ?_
        show zGo X l 7 0 0 188 7 [(0, .ref 6), (1, .int a), (2, .int b), (3, .int c), (4, .int d), (5, .int e)] [.int (0 : Int32)] M _
        refine zs_if_eqT (pc := 7) t188_7 li0 (by decide) ?_
        refine zs_iconst (pc := 20) t188_20 (v := -1) (by decide) ?_
        have w20 := zrg (zI M 166 10)
        have w21 : (zI M 166 10).toInt = (zI M 166 10).toInt := (congrArg Int32.toInt rfl).trans rfl
        have w22 := zrg (zI M 242 10)
        have w23 : (zI M 242 10).toInt = (zI M 242 10).toInt := (congrArg Int32.toInt rfl).trans rfl
        have w24 := lin1
        exact zs_iret (pc := 21) t188_21 mr188 (by decide) (hQ _ _ hs hI (zFr.refl) (by omega) (by omega) (by omega) (by omega) x2 x3 x4)
      · refine zs_icmp_ltF (pc := 2) t39_2 rfl li1 (by omega) ?_
        refine zs_iload_n (pc := 5) t39_5 rfl ?_
        refine zs_iload_n (pc := 6) t39_6 rfl ?_
        by_cases w25 : 999 < b.toInt
        · refine zs_icmp_gtT (pc := 7) t39_7 rfl li999 (by omega) ?_
          refine zs_iconst (pc := 14) t39_14 (v := 0) (by decide) ?_
          refine zs_iret (pc := 15) t39_15 mr39 (by decide) ?_
          show zGo X l 1 0 0 189 19 [(0, .int a), (1, .int b), (2, .int d)] [.int (0 : Int32)] M _
          refine zs_if_eqT (pc := 19) t189_19 li0 (by decide) ?_
          refine zs_iconst (pc := 36) t189_36 (v := 0) (by decide) ?_
          refine zs_iret (pc := 37) t189_37 mr189 (by decide) ?_
          show zGo X l 7 0 0 188 7 [(0, .ref 6), (1, .int a), (2, .int b), (3, .int c), (4, .int d), (5, .int e)] [.int (0 : Int32)] M _
          refine zs_if_eqT (pc := 7) t188_7 li0 (by decide) ?_
          refine zs_iconst (pc := 20) t188_20 (v := -1) (by decide) ?_
          have w26 := zrg (zI M 166 10)
          have w27 : (zI M 166 10).toInt = (zI M 166 10).toInt := (congrArg Int32.toInt rfl).trans rfl
          have w28 := zrg (zI M 242 10)
          have w29 : (zI M 242 10).toInt = (zI M 242 10).toInt := (congrArg Int32.toInt rfl).trans rfl
          have w30 := lin1
          exact zs_iret (pc := 21) t188_21 mr188 (by decide) (hQ _ _ hs hI (zFr.refl) (by omega) (by omega) (by omega) (by omega) x2 x3 x4)
        · refine zs_icmp_gtF (pc := 7) t39_7 rfl li999 (by omega) ?_
          refine zs_iconst (pc := 10) t39_10 (v := 1) (by decide) ?_
          refine zs_goto (pc := 11) t39_11 ?_
          refine zs_iret (pc := 15) t39_15 mr39 (by decide) ?_
          show zGo X l 1 0 0 189 19 [(0, .int a), (1, .int b), (2, .int d)] [.int (1 : Int32)] M _
          refine zs_if_eqF (pc := 19) t189_19 li1 (by decide) ?_
          refine zs_iload_n (pc := 22) t189_22 rfl ?_
          refine zs_iconst (pc := 23) t189_23 (v := 0) (by decide) ?_
          refine zs_bipush (pc := 24) t189_24 (v := 50) (by decide) ?_
          refine zs_invS (pc := 26) (as := [.int d, .int (0 : Int32), .int (50 : Int32)]) (st := []) t189_26 (by decide) mf39 rfl rfl ⟨by decide, by decide, Nat.le_of_ble_eq_true rfl, Nat.le_of_ble_eq_true rfl⟩ (zs_in (by decide) mf39 (Nat.le_of_ble_eq_true rfl) ?_) (fun _ _ q => q)
          show zGo X l 0 0 0 39 0 [(0, .int d), (1, .int (0 : Int32)), (2, .int (50 : Int32))] [] M _
          refine zs_iload_n (pc := 0) t39_0 rfl ?_
          refine zs_iload_n (pc := 1) t39_1 rfl ?_
          by_cases w31 : d.toInt < 0
          · refine zs_icmp_ltT (pc := 2) t39_2 rfl li0 (by omega) ?_
            refine zs_iconst (pc := 14) t39_14 (v := 0) (by decide) ?_
            refine zs_iret (pc := 15) t39_15 mr39 (by decide) ?_
            show zGo X l 1 0 0 189 29 [(0, .int a), (1, .int b), (2, .int d)] [.int (0 : Int32)] M _
            refine zs_if_eqT (pc := 29) t189_29 li0 (by decide) ?_
            refine zs_iconst (pc := 36) t189_36 (v := 0) (by decide) ?_
            refine zs_iret (pc := 37) t189_37 mr189 (by decide) ?_
            show zGo X l 7 0 0 188 7 [(0, .ref 6), (1, .int a), (2, .int b), (3, .int c), (4, .int d), (5, .int e)] [.int (0 : Int32)] M _
            refine zs_if_eqT (pc := 7) t188_7 li0 (by decide) ?_
            refine zs_iconst (pc := 20) t188_20 (v := -1) (by decide) ?_
            have w32 := zrg (zI M 166 10)
            have w33 : (zI M 166 10).toInt = (zI M 166 10).toInt := (congrArg Int32.toInt rfl).trans rfl
            have w34 := zrg (zI M 242 10)
            have w35 : (zI M 242 10).toInt = (zI M 242 10).toInt := (congrArg Int32.toInt rfl).trans rfl
            have w36 := lin1
            exact zs_iret (pc := 21) t188_21 mr188 (by decide) (hQ _ _ hs hI (zFr.refl) (by omega) (by omega) (by omega) (by omega) x2 x3 x4)
          · refine zs_icmp_ltF (pc := 2) t39_2 rfl li0 (by omega) ?_
            refine zs_iload_n (pc := 5) t39_5 rfl ?_
            refine zs_iload_n (pc := 6) t39_6 rfl ?_
            by_cases w37 : 50 < d.toInt
            · refine zs_icmp_gtT (pc := 7) t39_7 rfl li50 (by omega) ?_
              refine zs_iconst (pc := 14) t39_14 (v := 0) (by decide) ?_
              refine zs_iret (pc := 15) t39_15 mr39 (by decide) ?_
              show zGo X l 1 0 0 189 29 [(0, .int a), (1, .int b), (2, .int d)] [.int (0 : Int32)] M _
              refine zs_if_eqT (pc := 29) t189_29 li0 (by decide) ?_
              refine zs_iconst (pc := 36) t189_36 (v := 0) (by decide) ?_
              refine zs_iret (pc := 37) t189_37 mr189 (by decide) ?_
              show zGo X l 7 0 0 188 7 [(0, .ref 6), (1, .int a), (2, .int b), (3, .int c), (4, .int d), (5, .int e)] [.int (0 : Int32)] M _
              refine zs_if_eqT (pc := 7) t188_7 li0 (by decide) ?_
              refine zs_iconst (pc := 20) t188_20 (v := -1) (by decide) ?_
              have w38 := zrg (zI M 166 10)
              have w39 : (zI M 166 10).toInt = (zI M 166 10).toInt := (congrArg Int32.toInt rfl).trans rfl
              have w40 := zrg (zI M 242 10)
              have w41 : (zI M 242 10).toInt = (zI M 242 10).toInt := (congrArg Int32.toInt rfl).trans rfl
              have w42 := lin1
              exact zs_iret (pc := 21) t188_21 mr188 (by decide) (hQ _ _ hs hI (zFr.refl) (by omega) (by omega) (by omega) (by omega) x2 x3 x4)
            · refine zs_icmp_gtF (pc := 7) t39_7 rfl li50 (by omega) ?_
              refine zs_iconst (pc := 10) t39_10 (v := 1) (by decide) ?_
              refine zs_goto (pc := 11) t39_11 ?_
              refine zs_iret (pc := 15) t39_15 mr39 (by decide) ?_
              show zGo X l 1 0 0 189 29 [(0, .int a), (1, .int b), (2, .int d)] [.int (1 : Int32)] M _
              refine zs_if_eqF (pc := 29) t189_29 li1 (by decide) ?_
              refine zs_iconst (pc := 32) t189_32 (v := 1) (by decide) ?_
              refine zs_goto (pc := 33) t189_33 ?_
              refine zs_iret (pc := 37) t189_37 mr189 (by decide) ?_
              show zGo X l 7 0 0 188 7 [(0, .ref 6), (1, .int a), (2, .int b), (3, .int c), (4, .int d), (5, .int e)] [.int (1 : Int32)] M _
              refine zs_if_eqF (pc := 7) t188_7 li1 (by decide) ?_
              refine zs_iload_n (pc := 10) t188_10 rfl ?_
              refine zs_iconst (pc := 11) t188_11 (v := 1) (by decide) ?_
              refine zs_bipush (pc := 12) t188_12 (v := 8) (by decide) ?_
              refine zs_invS (pc := 14) (as := [.int c, .int (1 : Int32), .int (8 : Int32)]) (st := []) t188_14 (by decide) mf39 rfl rfl ⟨by decide, by decide, Nat.le_of_ble_eq_true rfl, Nat.le_of_ble_eq_true rfl⟩ (zs_in (by decide) mf39 (Nat.le_of_ble_eq_true rfl) ?_) (fun _ _ q => q)
              show zGo X l 0 0 0 39 0 [(0, .int c), (1, .int (1 : Int32)), (2, .int (8 : Int32))] [] M _
              refine zs_iload_n (pc := 0) t39_0 rfl ?_
              refine zs_iload_n (pc := 1) t39_1 rfl ?_
              by_cases w43 : c.toInt < 1
              · refine zs_icmp_ltT (pc := 2) t39_2 rfl li1 (by omega) ?_
                refine zs_iconst (pc := 14) t39_14 (v := 0) (by decide) ?_
                refine zs_iret (pc := 15) t39_15 mr39 (by decide) ?_
                show zGo X l 7 0 0 188 17 [(0, .ref 6), (1, .int a), (2, .int b), (3, .int c), (4, .int d), (5, .int e)] [.int (0 : Int32)] M _
                refine zs_if_neF (pc := 17) t188_17 li0 (by decide) ?_
                refine zs_iconst (pc := 20) t188_20 (v := -1) (by decide) ?_
                have w44 := zrg (zI M 166 10)
                have w45 : (zI M 166 10).toInt = (zI M 166 10).toInt := (congrArg Int32.toInt rfl).trans rfl
                have w46 := zrg (zI M 242 10)
                have w47 : (zI M 242 10).toInt = (zI M 242 10).toInt := (congrArg Int32.toInt rfl).trans rfl
                have w48 := lin1
                exact zs_iret (pc := 21) t188_21 mr188 (by decide) (hQ _ _ hs hI (zFr.refl) (by omega) (by omega) (by omega) (by omega) x2 x3 x4)
              · refine zs_icmp_ltF (pc := 2) t39_2 rfl li1 (by omega) ?_
                refine zs_iload_n (pc := 5) t39_5 rfl ?_
                refine zs_iload_n (pc := 6) t39_6 rfl ?_
                by_cases w49 : 8 < c.toInt
                · refine zs_icmp_gtT (pc := 7) t39_7 rfl li8 (by omega) ?_
                  refine zs_iconst (pc := 14) t39_14 (v := 0) (by decide) ?_
                  refine zs_iret (pc := 15) t39_15 mr39 (by decide) ?_
                  show zGo X l 7 0 0 188 17 [(0, .ref 6), (1, .int a), (2, .int b), (3, .int c), (4, .int d), (5, .int e)] [.int (0 : Int32)] M _
                  refine zs_if_neF (pc := 17) t188_17 li0 (by decide) ?_
                  refine zs_iconst (pc := 20) t188_20 (v := -1) (by decide) ?_
                  have w50 := zrg (zI M 166 10)
                  have w51 : (zI M 166 10).toInt = (zI M 166 10).toInt := (congrArg Int32.toInt rfl).trans rfl
                  have w52 := zrg (zI M 242 10)
                  have w53 : (zI M 242 10).toInt = (zI M 242 10).toInt := (congrArg Int32.toInt rfl).trans rfl
                  have w54 := lin1
                  exact zs_iret (pc := 21) t188_21 mr188 (by decide) (hQ _ _ hs hI (zFr.refl) (by omega) (by omega) (by omega) (by omega) x2 x3 x4)
                · refine zs_icmp_gtF (pc := 7) t39_7 rfl li8 (by omega) ?_
                  refine zs_iconst (pc := 10) t39_10 (v := 1) (by decide) ?_
                  refine zs_goto (pc := 11) t39_11 ?_
                  refine zs_iret (pc := 15) t39_15 mr39 (by decide) ?_
                  show zGo X l 7 0 0 188 17 [(0, .ref 6), (1, .int a), (2, .int b), (3, .int c), (4, .int d), (5, .int e)] [.int (1 : Int32)] M _
                  refine zs_if_neT (pc := 17) t188_17 li1 (by decide) ?_
                  refine zs_aload_n (pc := 22) t188_22 rfl ?_
                  have w55 := zrg (zI M 166 10)
                  have w56 : (zI M 166 10).toInt = (zI M 166 10).toInt := (congrArg Int32.toInt rfl).trans rfl
                  have w57 := zrg (zI M 242 10)
                  have w58 : (zI M 242 10).toInt = (zI M 242 10).toInt := (congrArg Int32.toInt rfl).trans rfl
                  have w59 : (zI M 166 10).toInt = (zI M 166 10).toInt := (congrArg Int32.toInt rfl).trans rfl
                  have w60 : (zI M 242 10).toInt = (zI M 242 10).toInt := (congrArg Int32.toInt rfl).trans rfl
                  refine zs_invV (pc := 23) (k := 6) (as' := []) (st := []) t188_23 mf187 rfl rfl (Or.inl ⟨by decide, (zk1 (hs.k fk_zMc_6))⟩) ⟨by decide, by decide, Nat.le_of_ble_eq_true rfl, Nat.le_of_ble_eq_true rfl⟩ (P187 hs hI (by omega) (by omega) (by omega) (by omega) x0 x1 x2 x3 x4 ?_) (fun _ _ q => q)
                  intro w61M w61v w61s w61I w61F w61t0 w61t1 w61t2 w61t3 w61x0 w61x1 w61x2
                  have w61g := zrg w61v
                  have w62 := zrg (zI w61M 166 10)
                  show zGo X l 7 0 0 188 26 [(0, .ref 6), (1, .int a), (2, .int b), (3, .int c), (4, .int d), (5, .int e)] [.int w61v] w61M _
                  refine zs_aload_n (pc := 26) t188_26 rfl ?_
                  refine zs_get (pc := 27) t188_27 (by decide) (zk1 (w61s.k fk_zMc_6)) (w61s.p rfl fv_zMc_6_0) ?_
                  refine zs_bipush (pc := 30) t188_30 (v := 7) (by decide) ?_
                  refine zs_invV (pc := 32) (k := 7) (as' := [.int (7 : Int32)]) (st := [.int w61v]) t188_32 mf96 rfl rfl (Or.inl ⟨by decide, (zk1 (w61s.k fk_zMc_7))⟩) ⟨by decide, by decide, Nat.le_of_ble_eq_true rfl, Nat.le_of_ble_eq_true rfl⟩ (zs_in (by decide) mf96 (Nat.le_of_ble_eq_true rfl) ?_) (fun _ _ q => q)
                  show zGo X l 0 0 0 96 0 [(0, .ref 7), (1, .int (7 : Int32))] [] w61M _
                  refine zs_iload_n (pc := 0) t96_0 rfl ?_
                  refine zs_if_ltF (pc := 1) t96_1 li7 (by decide) ?_
                  refine zs_iload_n (pc := 4) t96_4 rfl ?_
                  refine zs_bipush (pc := 5) t96_5 (v := 9) (by decide) ?_
                  refine zs_icmp_geF (pc := 7) t96_7 li7 li9 (by decide) ?_
                  refine zs_aload_n (pc := 10) t96_10 rfl ?_
                  refine zs_get (pc := 11) t96_11 (by decide) (zk1 (w61s.k fk_zMc_7)) (w61s.p rfl fv_zMc_7_12) ?_
                  refine zs_iload_n (pc := 14) t96_14 rfl ?_
                  have w63 := ib17 hI 7
                  have w64 : (zI M 17 7).toInt = F 12 := x0.2.2.2.2.1 7 (by decide)
                  refine zs_iald (pc := 15) t96_15 (j := 7) (by decide) (zk1 (w61s.k fk_zMc_17)) li7 (zk2 (w61s.k fk_zMc_17) (by decide)) ((w61F 17 7 rfl).trans rfl) ?_
                  refine zs_goto (pc := 16) t96_16 ?_
                  refine zs_iret (pc := 20) t96_20 mr96 rfl ?_
                  show zGo X l 7 0 0 188 35 [(0, .ref 6), (1, .int a), (2, .int b), (3, .int c), (4, .int d), (5, .int e)] [.int (zI M 17 7), .int w61v] w61M _
                  refine zs_invS (pc := 35) (as := [.int w61v, .int (zI M 17 7)]) (st := []) t188_35 (by decide) mf190 rfl rfl ⟨by decide, by decide, Nat.le_of_ble_eq_true rfl, Nat.le_of_ble_eq_true rfl⟩ (zs_in (by decide) mf190 (Nat.le_of_ble_eq_true rfl) ?_) (fun _ _ q => q)
                  show zGo X l 1 0 0 190 0 [(0, .int w61v), (1, .int (zI M 17 7))] [] w61M _
                  refine zs_iload_n (pc := 0) t190_0 rfl ?_
                  refine zs_iconst (pc := 1) t190_1 (v := 1) (by decide) ?_
                  by_cases w65 : 1 ≤ (zI M 17 7).toInt
                  · refine zs_icmp_geT (pc := 2) t190_2 rfl li1 (by omega) ?_
                    refine zs_iconst (pc := 9) t190_9 (v := 1) (by decide) ?_
                    refine zs_iload_n (pc := 10) t190_10 rfl ?_
                    refine zs_iload_n (pc := 11) t190_11 rfl ?_
                    obtain ⟨w66v, w66⟩ : ∃ v, v = w61v + (zI M 17 7) := ⟨_, rfl⟩
                    have w66g := zrg w66v
                    refine zs_iadd (pc := 12) t190_12 (c := w66v) w66.symm ?_
                    refine zs_iconst (pc := 13) t190_13 (v := 1) (by decide) ?_
                    obtain ⟨w67v, w67⟩ : ∃ v, v = w66v - (1 : Int32) := ⟨_, rfl⟩
                    have w67g := zrg w67v
                    refine zs_isub (pc := 14) t190_14 (c := w67v) w67.symm ?_
                    refine zs_iload_n (pc := 15) t190_15 rfl ?_
                    obtain ⟨w68v, w68⟩ : ∃ v, w67v / (zI M 17 7) = v := ⟨_, rfl⟩
                    have w68g := zrg w68v
                    refine zs_idiv (pc := 16) t190_16 (znz rfl (by omega)) (c := w68v) w68 ?_
                    refine zs_invS (pc := 17) (as := [.int (1 : Int32), .int w68v]) (st := []) t190_17 (by decide) mf21 rfl rfl ⟨by decide, by decide, Nat.le_of_ble_eq_true rfl, Nat.le_of_ble_eq_true rfl⟩ (zs_in (by decide) mf21 (Nat.le_of_ble_eq_true rfl) ?_) (fun _ _ q => q)
                    show zGo X l 0 0 0 21 0 [(0, .int (1 : Int32)), (1, .int w68v)] [] w61M _
                    refine zs_iload_n (pc := 0) t21_0 rfl ?_
                    refine zs_iload_n (pc := 1) t21_1 rfl ?_
                    by_cases w69 : 1 < w68v.toInt
                    · refine zs_icmp_ltT (pc := 2) t21_2 li1 rfl (by omega) ?_
                      refine zs_iload_n (pc := 9) t21_9 rfl ?_
                      refine zs_iret (pc := 10) t21_10 mr21 rfl ?_
                      show zGo X l 1 0 0 190 20 [(0, .int w61v), (1, .int (zI M 17 7))] [.int w68v] w61M _
                      refine zs_iret (pc := 20) t190_20 mr190 rfl ?_
                      show zGo X l 7 0 0 188 38 [(0, .ref 6), (1, .int a), (2, .int b), (3, .int c), (4, .int d), (5, .int e)] [.int w68v] w61M _
                      refine zs_istore (pc := 38) t188_38 (ls' := [(6, .int w68v), (0, .ref 6), (1, .int a), (2, .int b), (3, .int c), (4, .int d), (5, .int e)]) (zml mf188 (by decide)) rfl ?_
                      refine zs_aload_n (pc := 40) t188_40 rfl ?_
                      refine zs_get (pc := 41) t188_41 (by decide) (zk1 (w61s.k fk_zMc_6)) (w61s.p rfl fv_zMc_6_8) ?_
                      refine zs_iload_n (pc := 44) t188_44 rfl ?_
                      refine zs_iload_n (pc := 45) t188_45 rfl ?_
                      refine zs_iload_n (pc := 46) t188_46 rfl ?_
                      refine zs_iload (pc := 47) t188_47 rfl ?_
                      refine zs_iload (pc := 49) t188_49 rfl ?_
                      refine zs_aload_n (pc := 51) t188_51 rfl ?_
                      refine zs_get (pc := 52) t188_52 (by decide) (zk1 (w61s.k fk_zMc_6)) (w61s.p rfl fv_zMc_6_0) ?_
                      refine zs_bipush (pc := 55) t188_55 (v := 8) (by decide) ?_
                      refine zs_invV (pc := 57) (k := 7) (as' := [.int (8 : Int32)]) (st := [.int w68v, .int d, .int c, .int b, .int a, .ref 332]) t188_57 mf96 rfl rfl (Or.inl ⟨by decide, (zk1 (w61s.k fk_zMc_7))⟩) ⟨by decide, by decide, Nat.le_of_ble_eq_true rfl, Nat.le_of_ble_eq_true rfl⟩ (zs_in (by decide) mf96 (Nat.le_of_ble_eq_true rfl) ?_) (fun _ _ q => q)
                      show zGo X l 0 0 0 96 0 [(0, .ref 7), (1, .int (8 : Int32))] [] w61M _
                      refine zs_iload_n (pc := 0) t96_0 rfl ?_
                      refine zs_if_ltF (pc := 1) t96_1 li8 (by decide) ?_
                      refine zs_iload_n (pc := 4) t96_4 rfl ?_
                      refine zs_bipush (pc := 5) t96_5 (v := 9) (by decide) ?_
                      refine zs_icmp_geF (pc := 7) t96_7 li8 li9 (by decide) ?_
                      refine zs_aload_n (pc := 10) t96_10 rfl ?_
                      refine zs_get (pc := 11) t96_11 (by decide) (zk1 (w61s.k fk_zMc_7)) (w61s.p rfl fv_zMc_7_12) ?_
                      refine zs_iload_n (pc := 14) t96_14 rfl ?_
                      have w70 := ib17 hI 8
                      have w71 : (zI M 17 8).toInt = F 13 := x0.2.2.2.2.1 8 (by decide)
                      refine zs_iald (pc := 15) t96_15 (j := 8) (by decide) (zk1 (w61s.k fk_zMc_17)) li8 (zk2 (w61s.k fk_zMc_17) (by decide)) ((w61F 17 8 rfl).trans rfl) ?_
                      refine zs_goto (pc := 16) t96_16 ?_
                      refine zs_iret (pc := 20) t96_20 mr96 rfl ?_
                      show zGo X l 7 0 0 188 60 [(6, .int w68v), (0, .ref 6), (1, .int a), (2, .int b), (3, .int c), (4, .int d), (5, .int e)] [.int (zI M 17 8), .int w68v, .int d, .int c, .int b, .int a, .ref 332] w61M _
                      refine zs_invV (pc := 60) (k := 332) (as' := [.int a, .int b, .int c, .int d, .int w68v, .int (zI M 17 8)]) (st := []) t188_60 mf191 rfl rfl (Or.inl ⟨by decide, (zk1 (w61s.k fk_zMc_332))⟩) ⟨by decide, by decide, Nat.le_of_ble_eq_true rfl, Nat.le_of_ble_eq_true rfl⟩ (C191_332 w61s w61I ⟨by omega, by omega⟩ ?_) (fun _ _ q => q)
                      intro w72M w72s w72I w72F
                      show zGo X l 7 0 0 188 63 [(6, .int w68v), (0, .ref 6), (1, .int a), (2, .int b), (3, .int c), (4, .int d), (5, .int e)] [] w72M _
                      refine zs_iload (pc := 63) t188_63 rfl ?_
                      by_cases w73 : e.toInt = 0
                      · refine zs_tswI (pc := 65) t188_65 ((rfl : e.toInt = e.toInt).trans w73) (by decide) rfl (pc2 := 96) rfl ?_
                        refine zs_aload_n (pc := 96) t188_96 rfl ?_
                        refine zs_get (pc := 97) t188_97 (by decide) (zk1 (w72s.k fk_zMc_6)) (w72s.p rfl fv_zMc_6_8) ?_
                        have w74 := zrg (zI w72M 332 0)
                        refine zs_get (pc := 100) t188_100 (by decide) (zk1 (w72s.k fk_zMc_332)) (zfvi rfl rfl) ?_
                        have w75 : (zI w72M 166 10).toInt = (zI w61M 166 10).toInt := (congrArg Int32.toInt ((w72F 166 10 rfl).trans rfl)).trans rfl
                        have w76 : (zI w72M 242 10).toInt = (zI M 242 10).toInt := (congrArg Int32.toInt ((w72F 242 10 rfl).trans ((w61F 242 10 rfl).trans rfl))).trans rfl
                        exact zs_iret (pc := 103) t188_103 mr188 rfl (hQ _ _ w72s w72I (((zFr.refl).trans (w61F.mono rfl)).trans (w72F.mono rfl)) (by omega) (by omega) (by omega) (by omega) (zKnA.fr w61x0 (w72F 164 0 rfl) (fun j q => (w72F 164 j rfl)) (w72F 165 2 rfl) (zTf.eq (fun k j q1 q2 => (w72F k j (zoC (by omega) rfl))))) (zSp.fr w61x1 (fun j => (w72F 174 j rfl)) (w72F 166 10 rfl)) (zSp.fr w61x2 (fun j => (w72F 250 j rfl)) (w72F 242 10 rfl)))
                      by_cases w77 : e.toInt = 1
                      · refine zs_tswI (pc := 65) t188_65 ((rfl : e.toInt = e.toInt).trans w77) (by decide) rfl (pc2 := 104) rfl ?_
                        refine zs_aload_n (pc := 104) t188_104 rfl ?_
                        refine zs_get (pc := 105) t188_105 (by decide) (zk1 (w72s.k fk_zMc_6)) (w72s.p rfl fv_zMc_6_8) ?_
                        have w78 := zrg (zI w72M 332 1)
                        refine zs_get (pc := 108) t188_108 (by decide) (zk1 (w72s.k fk_zMc_332)) (zfvi rfl rfl) ?_
                        have w79 : (zI w72M 166 10).toInt = (zI w61M 166 10).toInt := (congrArg Int32.toInt ((w72F 166 10 rfl).trans rfl)).trans rfl
                        have w80 : (zI w72M 242 10).toInt = (zI M 242 10).toInt := (congrArg Int32.toInt ((w72F 242 10 rfl).trans ((w61F 242 10 rfl).trans rfl))).trans rfl
                        exact zs_iret (pc := 111) t188_111 mr188 rfl (hQ _ _ w72s w72I (((zFr.refl).trans (w61F.mono rfl)).trans (w72F.mono rfl)) (by omega) (by omega) (by omega) (by omega) (zKnA.fr w61x0 (w72F 164 0 rfl) (fun j q => (w72F 164 j rfl)) (w72F 165 2 rfl) (zTf.eq (fun k j q1 q2 => (w72F k j (zoC (by omega) rfl))))) (zSp.fr w61x1 (fun j => (w72F 174 j rfl)) (w72F 166 10 rfl)) (zSp.fr w61x2 (fun j => (w72F 250 j rfl)) (w72F 242 10 rfl)))
                      by_cases w81 : e.toInt = 2
                      · refine zs_tswI (pc := 65) t188_65 ((rfl : e.toInt = e.toInt).trans w81) (by decide) rfl (pc2 := 112) rfl ?_
                        refine zs_aload_n (pc := 112) t188_112 rfl ?_
                        refine zs_get (pc := 113) t188_113 (by decide) (zk1 (w72s.k fk_zMc_6)) (w72s.p rfl fv_zMc_6_8) ?_
                        have w82 := zrg (zI w72M 332 2)
                        refine zs_get (pc := 116) t188_116 (by decide) (zk1 (w72s.k fk_zMc_332)) (zfvi rfl rfl) ?_
                        have w83 : (zI w72M 166 10).toInt = (zI w61M 166 10).toInt := (congrArg Int32.toInt ((w72F 166 10 rfl).trans rfl)).trans rfl
                        have w84 : (zI w72M 242 10).toInt = (zI M 242 10).toInt := (congrArg Int32.toInt ((w72F 242 10 rfl).trans ((w61F 242 10 rfl).trans rfl))).trans rfl
                        exact zs_iret (pc := 119) t188_119 mr188 rfl (hQ _ _ w72s w72I (((zFr.refl).trans (w61F.mono rfl)).trans (w72F.mono rfl)) (by omega) (by omega) (by omega) (by omega) (zKnA.fr w61x0 (w72F 164 0 rfl) (fun j q => (w72F 164 j rfl)) (w72F 165 2 rfl) (zTf.eq (fun k j q1 q2 => (w72F k j (zoC (by omega) rfl))))) (zSp.fr w61x1 (fun j => (w72F 174 j rfl)) (w72F 166 10 rfl)) (zSp.fr w61x2 (fun j => (w72F 250 j rfl)) (w72F 242 10 rfl)))
                      by_cases w85 : e.toInt = 3
                      · refine zs_tswI (pc := 65) t188_65 ((rfl : e.toInt = e.toInt).trans w85) (by decide) rfl (pc2 := 120) rfl ?_
                        refine zs_aload_n (pc := 120) t188_120 rfl ?_
                        refine zs_get (pc := 121) t188_121 (by decide) (zk1 (w72s.k fk_zMc_6)) (w72s.p rfl fv_zMc_6_8) ?_
                        have w86 := zrg (zI w72M 332 3)
                        refine zs_get (pc := 124) t188_124 (by decide) (zk1 (w72s.k fk_zMc_332)) (zfvi rfl rfl) ?_
                        have w87 : (zI w72M 166 10).toInt = (zI w61M 166 10).toInt := (congrArg Int32.toInt ((w72F 166 10 rfl).trans rfl)).trans rfl
                        have w88 : (zI w72M 242 10).toInt = (zI M 242 10).toInt := (congrArg Int32.toInt ((w72F 242 10 rfl).trans ((w61F 242 10 rfl).trans rfl))).trans rfl
                        exact zs_iret (pc := 127) t188_127 mr188 rfl (hQ _ _ w72s w72I (((zFr.refl).trans (w61F.mono rfl)).trans (w72F.mono rfl)) (by omega) (by omega) (by omega) (by omega) (zKnA.fr w61x0 (w72F 164 0 rfl) (fun j q => (w72F 164 j rfl)) (w72F 165 2 rfl) (zTf.eq (fun k j q1 q2 => (w72F k j (zoC (by omega) rfl))))) (zSp.fr w61x1 (fun j => (w72F 174 j rfl)) (w72F 166 10 rfl)) (zSp.fr w61x2 (fun j => (w72F 250 j rfl)) (w72F 242 10 rfl)))
                      refine zs_tswD (pc := 65) t188_65 rfl (by omega) (pc2 := 128) rfl ?_
                      refine zs_iconst (pc := 128) t188_128 (v := -1) (by decide) ?_
                      have w89 : (zI w72M 166 10).toInt = (zI w61M 166 10).toInt := (congrArg Int32.toInt ((w72F 166 10 rfl).trans rfl)).trans rfl
                      have w90 : (zI w72M 242 10).toInt = (zI M 242 10).toInt := (congrArg Int32.toInt ((w72F 242 10 rfl).trans ((w61F 242 10 rfl).trans rfl))).trans rfl
                      have w91 := lin1
                      exact zs_iret (pc := 129) t188_129 mr188 (by decide) (hQ _ _ w72s w72I (((zFr.refl).trans (w61F.mono rfl)).trans (w72F.mono rfl)) (by omega) (by omega) (by omega) (by omega) (zKnA.fr w61x0 (w72F 164 0 rfl) (fun j q => (w72F 164 j rfl)) (w72F 165 2 rfl) (zTf.eq (fun k j q1 q2 => (w72F k j (zoC (by omega) rfl))))) (zSp.fr w61x1 (fun j => (w72F 174 j rfl)) (w72F 166 10 rfl)) (zSp.fr w61x2 (fun j => (w72F 250 j rfl)) (w72F 242 10 rfl)))
                    · refine zs_icmp_ltF (pc := 2) t21_2 li1 rfl (by omega) ?_
                      refine zs_iload_n (pc := 5) t21_5 rfl ?_
                      refine zs_goto (pc := 6) t21_6 ?_
                      refine zs_iret (pc := 10) t21_10 mr21 (by decide) ?_
                      show zGo X l 1 0 0 190 20 [(0, .int w61v), (1, .int (zI M 17 7))] [.int (1 : Int32)] w61M _
                      refine zs_iret (pc := 20) t190_20 mr190 (by decide) ?_
                      show zGo X l 7 0 0 188 38 [(0, .ref 6), (1, .int a), (2, .int b), (3, .int c), (4, .int d), (5, .int e)] [.int (1 : Int32)] w61M _
                      refine zs_istore (pc := 38) t188_38 (ls' := [(6, .int (1 : Int32)), (0, .ref 6), (1, .int a), (2, .int b), (3, .int c), (4, .int d), (5, .int e)]) (zml mf188 (by decide)) rfl ?_
                      refine zs_aload_n (pc := 40) t188_40 rfl ?_
                      refine zs_get (pc := 41) t188_41 (by decide) (zk1 (w61s.k fk_zMc_6)) (w61s.p rfl fv_zMc_6_8) ?_
                      refine zs_iload_n (pc := 44) t188_44 rfl ?_
                      refine zs_iload_n (pc := 45) t188_45 rfl ?_
                      refine zs_iload_n (pc := 46) t188_46 rfl ?_
                      refine zs_iload (pc := 47) t188_47 rfl ?_
                      refine zs_iload (pc := 49) t188_49 rfl ?_
                      refine zs_aload_n (pc := 51) t188_51 rfl ?_
                      refine zs_get (pc := 52) t188_52 (by decide) (zk1 (w61s.k fk_zMc_6)) (w61s.p rfl fv_zMc_6_0) ?_
                      refine zs_bipush (pc := 55) t188_55 (v := 8) (by decide) ?_
                      refine zs_invV (pc := 57) (k := 7) (as' := [.int (8 : Int32)]) (st := [.int (1 : Int32), .int d, .int c, .int b, .int a, .ref 332]) t188_57 mf96 rfl rfl (Or.inl ⟨by decide, (zk1 (w61s.k fk_zMc_7))⟩) ⟨by decide, by decide, Nat.le_of_ble_eq_true rfl, Nat.le_of_ble_eq_true rfl⟩ (zs_in (by decide) mf96 (Nat.le_of_ble_eq_true rfl) ?_) (fun _ _ q => q)
                      show zGo X l 0 0 0 96 0 [(0, .ref 7), (1, .int (8 : Int32))] [] w61M _
                      refine zs_iload_n (pc := 0) t96_0 rfl ?_
                      refine zs_if_ltF (pc := 1) t96_1 li8 (by decide) ?_
                      refine zs_iload_n (pc := 4) t96_4 rfl ?_
                      refine zs_bipush (pc := 5) t96_5 (v := 9) (by decide) ?_
                      refine zs_icmp_geF (pc := 7) t96_7 li8 li9 (by decide) ?_
                      refine zs_aload_n (pc := 10) t96_10 rfl ?_
                      refine zs_get (pc := 11) t96_11 (by decide) (zk1 (w61s.k fk_zMc_7)) (w61s.p rfl fv_zMc_7_12) ?_
                      refine zs_iload_n (pc := 14) t96_14 rfl ?_
                      have w92 : (zI M 17 8).toInt = F 13 := x0.2.2.2.2.1 8 (by decide)
                      refine zs_iald (pc := 15) t96_15 (j := 8) (by decide) (zk1 (w61s.k fk_zMc_17)) li8 (zk2 (w61s.k fk_zMc_17) (by decide)) ((w61F 17 8 rfl).trans rfl) ?_
                      refine zs_goto (pc := 16) t96_16 ?_
                      refine zs_iret (pc := 20) t96_20 mr96 rfl ?_
                      show zGo X l 7 0 0 188 60 [(6, .int (1 : Int32)), (0, .ref 6), (1, .int a), (2, .int b), (3, .int c), (4, .int d), (5, .int e)] [.int (zI M 17 8), .int (1 : Int32), .int d, .int c, .int b, .int a, .ref 332] w61M _
                      refine zs_invV (pc := 60) (k := 332) (as' := [.int a, .int b, .int c, .int d, .int (1 : Int32), .int (zI M 17 8)]) (st := []) t188_60 mf191 rfl rfl (Or.inl ⟨by decide, (zk1 (w61s.k fk_zMc_332))⟩) ⟨by decide, by decide, Nat.le_of_ble_eq_true rfl, Nat.le_of_ble_eq_true rfl⟩ (C191_332 w61s w61I ⟨by omega, by omega⟩ ?_) (fun _ _ q => q)
                      intro w93M w93s w93I w93F
                      show zGo X l 7 0 0 188 63 [(6, .int (1 : Int32)), (0, .ref 6), (1, .int a), (2, .int b), (3, .int c), (4, .int d), (5, .int e)] [] w93M _
                      refine zs_iload (pc := 63) t188_63 rfl ?_
                      by_cases w94 : e.toInt = 0
                      · refine zs_tswI (pc := 65) t188_65 ((rfl : e.toInt = e.toInt).trans w94) (by decide) rfl (pc2 := 96) rfl ?_
                        refine zs_aload_n (pc := 96) t188_96 rfl ?_
                        refine zs_get (pc := 97) t188_97 (by decide) (zk1 (w93s.k fk_zMc_6)) (w93s.p rfl fv_zMc_6_8) ?_
                        have w95 := zrg (zI w93M 332 0)
                        refine zs_get (pc := 100) t188_100 (by decide) (zk1 (w93s.k fk_zMc_332)) (zfvi rfl rfl) ?_
                        have w96 : (zI w93M 166 10).toInt = (zI w61M 166 10).toInt := (congrArg Int32.toInt ((w93F 166 10 rfl).trans rfl)).trans rfl
                        have w97 : (zI w93M 242 10).toInt = (zI M 242 10).toInt := (congrArg Int32.toInt ((w93F 242 10 rfl).trans ((w61F 242 10 rfl).trans rfl))).trans rfl
                        exact zs_iret (pc := 103) t188_103 mr188 rfl (hQ _ _ w93s w93I (((zFr.refl).trans (w61F.mono rfl)).trans (w93F.mono rfl)) (by omega) (by omega) (by omega) (by omega) (zKnA.fr w61x0 (w93F 164 0 rfl) (fun j q => (w93F 164 j rfl)) (w93F 165 2 rfl) (zTf.eq (fun k j q1 q2 => (w93F k j (zoC (by omega) rfl))))) (zSp.fr w61x1 (fun j => (w93F 174 j rfl)) (w93F 166 10 rfl)) (zSp.fr w61x2 (fun j => (w93F 250 j rfl)) (w93F 242 10 rfl)))
                      by_cases w98 : e.toInt = 1
                      · refine zs_tswI (pc := 65) t188_65 ((rfl : e.toInt = e.toInt).trans w98) (by decide) rfl (pc2 := 104) rfl ?_
                        refine zs_aload_n (pc := 104) t188_104 rfl ?_
                        refine zs_get (pc := 105) t188_105 (by decide) (zk1 (w93s.k fk_zMc_6)) (w93s.p rfl fv_zMc_6_8) ?_
                        have w99 := zrg (zI w93M 332 1)
                        refine zs_get (pc := 108) t188_108 (by decide) (zk1 (w93s.k fk_zMc_332)) (zfvi rfl rfl) ?_
                        have w100 : (zI w93M 166 10).toInt = (zI w61M 166 10).toInt := (congrArg Int32.toInt ((w93F 166 10 rfl).trans rfl)).trans rfl
                        have w101 : (zI w93M 242 10).toInt = (zI M 242 10).toInt := (congrArg Int32.toInt ((w93F 242 10 rfl).trans ((w61F 242 10 rfl).trans rfl))).trans rfl
                        exact zs_iret (pc := 111) t188_111 mr188 rfl (hQ _ _ w93s w93I (((zFr.refl).trans (w61F.mono rfl)).trans (w93F.mono rfl)) (by omega) (by omega) (by omega) (by omega) (zKnA.fr w61x0 (w93F 164 0 rfl) (fun j q => (w93F 164 j rfl)) (w93F 165 2 rfl) (zTf.eq (fun k j q1 q2 => (w93F k j (zoC (by omega) rfl))))) (zSp.fr w61x1 (fun j => (w93F 174 j rfl)) (w93F 166 10 rfl)) (zSp.fr w61x2 (fun j => (w93F 250 j rfl)) (w93F 242 10 rfl)))
                      by_cases w102 : e.toInt = 2
                      · refine zs_tswI (pc := 65) t188_65 ((rfl : e.toInt = e.toInt).trans w102) (by decide) rfl (pc2 := 112) rfl ?_
                        refine zs_aload_n (pc := 112) t188_112 rfl ?_
                        refine zs_get (pc := 113) t188_113 (by decide) (zk1 (w93s.k fk_zMc_6)) (w93s.p rfl fv_zMc_6_8) ?_
                        have w103 := zrg (zI w93M 332 2)
                        refine zs_get (pc := 116) t188_116 (by decide) (zk1 (w93s.k fk_zMc_332)) (zfvi rfl rfl) ?_
                        have w104 : (zI w93M 166 10).toInt = (zI w61M 166 10).toInt := (congrArg Int32.toInt ((w93F 166 10 rfl).trans rfl)).trans rfl
                        have w105 : (zI w93M 242 10).toInt = (zI M 242 10).toInt := (congrArg Int32.toInt ((w93F 242 10 rfl).trans ((w61F 242 10 rfl).trans rfl))).trans rfl
                        exact zs_iret (pc := 119) t188_119 mr188 rfl (hQ _ _ w93s w93I (((zFr.refl).trans (w61F.mono rfl)).trans (w93F.mono rfl)) (by omega) (by omega) (by omega) (by omega) (zKnA.fr w61x0 (w93F 164 0 rfl) (fun j q => (w93F 164 j rfl)) (w93F 165 2 rfl) (zTf.eq (fun k j q1 q2 => (w93F k j (zoC (by omega) rfl))))) (zSp.fr w61x1 (fun j => (w93F 174 j rfl)) (w93F 166 10 rfl)) (zSp.fr w61x2 (fun j => (w93F 250 j rfl)) (w93F 242 10 rfl)))
                      by_cases w106 : e.toInt = 3
                      · refine zs_tswI (pc := 65) t188_65 ((rfl : e.toInt = e.toInt).trans w106) (by decide) rfl (pc2 := 120) rfl ?_
                        refine zs_aload_n (pc := 120) t188_120 rfl ?_
                        refine zs_get (pc := 121) t188_121 (by decide) (zk1 (w93s.k fk_zMc_6)) (w93s.p rfl fv_zMc_6_8) ?_
                        have w107 := zrg (zI w93M 332 3)
                        refine zs_get (pc := 124) t188_124 (by decide) (zk1 (w93s.k fk_zMc_332)) (zfvi rfl rfl) ?_
                        have w108 : (zI w93M 166 10).toInt = (zI w61M 166 10).toInt := (congrArg Int32.toInt ((w93F 166 10 rfl).trans rfl)).trans rfl
                        have w109 : (zI w93M 242 10).toInt = (zI M 242 10).toInt := (congrArg Int32.toInt ((w93F 242 10 rfl).trans ((w61F 242 10 rfl).trans rfl))).trans rfl
                        exact zs_iret (pc := 127) t188_127 mr188 rfl (hQ _ _ w93s w93I (((zFr.refl).trans (w61F.mono rfl)).trans (w93F.mono rfl)) (by omega) (by omega) (by omega) (by omega) (zKnA.fr w61x0 (w93F 164 0 rfl) (fun j q => (w93F 164 j rfl)) (w93F 165 2 rfl) (zTf.eq (fun k j q1 q2 => (w93F k j (zoC (by omega) rfl))))) (zSp.fr w61x1 (fun j => (w93F 174 j rfl)) (w93F 166 10 rfl)) (zSp.fr w61x2 (fun j => (w93F 250 j rfl)) (w93F 242 10 rfl)))
                      refine zs_tswD (pc := 65) t188_65 rfl (by omega) (pc2 := 128) rfl ?_
                      refine zs_iconst (pc := 128) t188_128 (v := -1) (by decide) ?_
                      have w110 : (zI w93M 166 10).toInt = (zI w61M 166 10).toInt := (congrArg Int32.toInt ((w93F 166 10 rfl).trans rfl)).trans rfl
                      have w111 : (zI w93M 242 10).toInt = (zI M 242 10).toInt := (congrArg Int32.toInt ((w93F 242 10 rfl).trans ((w61F 242 10 rfl).trans rfl))).trans rfl
                      have w112 := lin1
                      exact zs_iret (pc := 129) t188_129 mr188 (by decide) (hQ _ _ w93s w93I (((zFr.refl).trans (w61F.mono rfl)).trans (w93F.mono rfl)) (by omega) (by omega) (by omega) (by omega) (zKnA.fr w61x0 (w93F 164 0 rfl) (fun j q => (w93F 164 j rfl)) (w93F 165 2 rfl) (zTf.eq (fun k j q1 q2 => (w93F k j (zoC (by omega) rfl))))) (zSp.fr w61x1 (fun j => (w93F 174 j rfl)) (w93F 166 10 rfl)) (zSp.fr w61x2 (fun j => (w93F 250 j rfl)) (w93F 242 10 rfl)))
                  · refine zs_icmp_geF (pc := 2) t190_2 rfl li1 (by omega) ?_
                    refine zs_iconst (pc := 5) t190_5 (v := 1) (by decide) ?_
                    refine zs_goto (pc := 6) t190_6 ?_
                    refine zs_iret (pc := 20) t190_20 mr190 (by decide) ?_
                    show zGo X l 7 0 0 188 38 [(0, .ref 6), (1, .int a), (2, .int b), (3, .int c), (4, .int d), (5, .int e)] [.int (1 : Int32)] w61M _
                    refine zs_istore (pc := 38) t188_38 (ls' := [(6, .int (1 : Int32)), (0, .ref 6), (1, .int a), (2, .int b), (3, .int c), (4, .int d), (5, .int e)]) (zml mf188 (by decide)) rfl ?_
                    refine zs_aload_n (pc := 40) t188_40 rfl ?_
                    refine zs_get (pc := 41) t188_41 (by decide) (zk1 (w61s.k fk_zMc_6)) (w61s.p rfl fv_zMc_6_8) ?_
                    refine zs_iload_n (pc := 44) t188_44 rfl ?_
                    refine zs_iload_n (pc := 45) t188_45 rfl ?_
                    refine zs_iload_n (pc := 46) t188_46 rfl ?_
                    refine zs_iload (pc := 47) t188_47 rfl ?_
                    refine zs_iload (pc := 49) t188_49 rfl ?_
                    refine zs_aload_n (pc := 51) t188_51 rfl ?_
                    refine zs_get (pc := 52) t188_52 (by decide) (zk1 (w61s.k fk_zMc_6)) (w61s.p rfl fv_zMc_6_0) ?_
                    refine zs_bipush (pc := 55) t188_55 (v := 8) (by decide) ?_
                    refine zs_invV (pc := 57) (k := 7) (as' := [.int (8 : Int32)]) (st := [.int (1 : Int32), .int d, .int c, .int b, .int a, .ref 332]) t188_57 mf96 rfl rfl (Or.inl ⟨by decide, (zk1 (w61s.k fk_zMc_7))⟩) ⟨by decide, by decide, Nat.le_of_ble_eq_true rfl, Nat.le_of_ble_eq_true rfl⟩ (zs_in (by decide) mf96 (Nat.le_of_ble_eq_true rfl) ?_) (fun _ _ q => q)
                    show zGo X l 0 0 0 96 0 [(0, .ref 7), (1, .int (8 : Int32))] [] w61M _
                    refine zs_iload_n (pc := 0) t96_0 rfl ?_
                    refine zs_if_ltF (pc := 1) t96_1 li8 (by decide) ?_
                    refine zs_iload_n (pc := 4) t96_4 rfl ?_
                    refine zs_bipush (pc := 5) t96_5 (v := 9) (by decide) ?_
                    refine zs_icmp_geF (pc := 7) t96_7 li8 li9 (by decide) ?_
                    refine zs_aload_n (pc := 10) t96_10 rfl ?_
                    refine zs_get (pc := 11) t96_11 (by decide) (zk1 (w61s.k fk_zMc_7)) (w61s.p rfl fv_zMc_7_12) ?_
                    refine zs_iload_n (pc := 14) t96_14 rfl ?_
                    have w113 : (zI M 17 8).toInt = F 13 := x0.2.2.2.2.1 8 (by decide)
                    refine zs_iald (pc := 15) t96_15 (j := 8) (by decide) (zk1 (w61s.k fk_zMc_17)) li8 (zk2 (w61s.k fk_zMc_17) (by decide)) ((w61F 17 8 rfl).trans rfl) ?_
                    refine zs_goto (pc := 16) t96_16 ?_
                    refine zs_iret (pc := 20) t96_20 mr96 rfl ?_
                    show zGo X l 7 0 0 188 60 [(6, .int (1 : Int32)), (0, .ref 6), (1, .int a), (2, .int b), (3, .int c), (4, .int d), (5, .int e)] [.int (zI M 17 8), .int (1 : Int32), .int d, .int c, .int b, .int a, .ref 332] w61M _
                    refine zs_invV (pc := 60) (k := 332) (as' := [.int a, .int b, .int c, .int d, .int (1 : Int32), .int (zI M 17 8)]) (st := []) t188_60 mf191 rfl rfl (Or.inl ⟨by decide, (zk1 (w61s.k fk_zMc_332))⟩) ⟨by decide, by decide, Nat.le_of_ble_eq_true rfl, Nat.le_of_ble_eq_true rfl⟩ (C191_332 w61s w61I ⟨by omega, by omega⟩ ?_) (fun _ _ q => q)
                    intro w114M w114s w114I w114F
                    show zGo X l 7 0 0 188 63 [(6, .int (1 : Int32)), (0, .ref 6), (1, .int a), (2, .int b), (3, .int c), (4, .int d), (5, .int e)] [] w114M _
                    refine zs_iload (pc := 63) t188_63 rfl ?_
                    by_cases w115 : e.toInt = 0
                    · refine zs_tswI (pc := 65) t188_65 ((rfl : e.toInt = e.toInt).trans w115) (by decide) rfl (pc2 := 96) rfl ?_
                      refine zs_aload_n (pc := 96) t188_96 rfl ?_
                      refine zs_get (pc := 97) t188_97 (by decide) (zk1 (w114s.k fk_zMc_6)) (w114s.p rfl fv_zMc_6_8) ?_
                      have w116 := zrg (zI w114M 332 0)
                      refine zs_get (pc := 100) t188_100 (by decide) (zk1 (w114s.k fk_zMc_332)) (zfvi rfl rfl) ?_
                      have w117 : (zI w114M 166 10).toInt = (zI w61M 166 10).toInt := (congrArg Int32.toInt ((w114F 166 10 rfl).trans rfl)).trans rfl
                      have w118 : (zI w114M 242 10).toInt = (zI M 242 10).toInt := (congrArg Int32.toInt ((w114F 242 10 rfl).trans ((w61F 242 10 rfl).trans rfl))).trans rfl
                      exact zs_iret (pc := 103) t188_103 mr188 rfl (hQ _ _ w114s w114I (((zFr.refl).trans (w61F.mono rfl)).trans (w114F.mono rfl)) (by omega) (by omega) (by omega) (by omega) (zKnA.fr w61x0 (w114F 164 0 rfl) (fun j q => (w114F 164 j rfl)) (w114F 165 2 rfl) (zTf.eq (fun k j q1 q2 => (w114F k j (zoC (by omega) rfl))))) (zSp.fr w61x1 (fun j => (w114F 174 j rfl)) (w114F 166 10 rfl)) (zSp.fr w61x2 (fun j => (w114F 250 j rfl)) (w114F 242 10 rfl)))
                    by_cases w119 : e.toInt = 1
                    · refine zs_tswI (pc := 65) t188_65 ((rfl : e.toInt = e.toInt).trans w119) (by decide) rfl (pc2 := 104) rfl ?_
                      refine zs_aload_n (pc := 104) t188_104 rfl ?_
                      refine zs_get (pc := 105) t188_105 (by decide) (zk1 (w114s.k fk_zMc_6)) (w114s.p rfl fv_zMc_6_8) ?_
                      have w120 := zrg (zI w114M 332 1)
                      refine zs_get (pc := 108) t188_108 (by decide) (zk1 (w114s.k fk_zMc_332)) (zfvi rfl rfl) ?_
                      have w121 : (zI w114M 166 10).toInt = (zI w61M 166 10).toInt := (congrArg Int32.toInt ((w114F 166 10 rfl).trans rfl)).trans rfl
                      have w122 : (zI w114M 242 10).toInt = (zI M 242 10).toInt := (congrArg Int32.toInt ((w114F 242 10 rfl).trans ((w61F 242 10 rfl).trans rfl))).trans rfl
                      exact zs_iret (pc := 111) t188_111 mr188 rfl (hQ _ _ w114s w114I (((zFr.refl).trans (w61F.mono rfl)).trans (w114F.mono rfl)) (by omega) (by omega) (by omega) (by omega) (zKnA.fr w61x0 (w114F 164 0 rfl) (fun j q => (w114F 164 j rfl)) (w114F 165 2 rfl) (zTf.eq (fun k j q1 q2 => (w114F k j (zoC (by omega) rfl))))) (zSp.fr w61x1 (fun j => (w114F 174 j rfl)) (w114F 166 10 rfl)) (zSp.fr w61x2 (fun j => (w114F 250 j rfl)) (w114F 242 10 rfl)))
                    by_cases w123 : e.toInt = 2
                    · refine zs_tswI (pc := 65) t188_65 ((rfl : e.toInt = e.toInt).trans w123) (by decide) rfl (pc2 := 112) rfl ?_
                      refine zs_aload_n (pc := 112) t188_112 rfl ?_
                      refine zs_get (pc := 113) t188_113 (by decide) (zk1 (w114s.k fk_zMc_6)) (w114s.p rfl fv_zMc_6_8) ?_
                      have w124 := zrg (zI w114M 332 2)
                      refine zs_get (pc := 116) t188_116 (by decide) (zk1 (w114s.k fk_zMc_332)) (zfvi rfl rfl) ?_
                      have w125 : (zI w114M 166 10).toInt = (zI w61M 166 10).toInt := (congrArg Int32.toInt ((w114F 166 10 rfl).trans rfl)).trans rfl
                      have w126 : (zI w114M 242 10).toInt = (zI M 242 10).toInt := (congrArg Int32.toInt ((w114F 242 10 rfl).trans ((w61F 242 10 rfl).trans rfl))).trans rfl
                      exact zs_iret (pc := 119) t188_119 mr188 rfl (hQ _ _ w114s w114I (((zFr.refl).trans (w61F.mono rfl)).trans (w114F.mono rfl)) (by omega) (by omega) (by omega) (by omega) (zKnA.fr w61x0 (w114F 164 0 rfl) (fun j q => (w114F 164 j rfl)) (w114F 165 2 rfl) (zTf.eq (fun k j q1 q2 => (w114F k j (zoC (by omega) rfl))))) (zSp.fr w61x1 (fun j => (w114F 174 j rfl)) (w114F 166 10 rfl)) (zSp.fr w61x2 (fun j => (w114F 250 j rfl)) (w114F 242 10 rfl)))
                    by_cases w127 : e.toInt = 3
                    · refine zs_tswI (pc := 65) t188_65 ((rfl : e.toInt = e.toInt).trans w127) (by decide) rfl (pc2 := 120) rfl ?_
                      refine zs_aload_n (pc := 120) t188_120 rfl ?_
                      refine zs_get (pc := 121) t188_121 (by decide) (zk1 (w114s.k fk_zMc_6)) (w114s.p rfl fv_zMc_6_8) ?_
                      have w128 := zrg (zI w114M 332 3)
                      refine zs_get (pc := 124) t188_124 (by decide) (zk1 (w114s.k fk_zMc_332)) (zfvi rfl rfl) ?_
                      have w129 : (zI w114M 166 10).toInt = (zI w61M 166 10).toInt := (congrArg Int32.toInt ((w114F 166 10 rfl).trans rfl)).trans rfl
                      have w130 : (zI w114M 242 10).toInt = (zI M 242 10).toInt := (congrArg Int32.toInt ((w114F 242 10 rfl).trans ((w61F 242 10 rfl).trans rfl))).trans rfl
                      exact zs_iret (pc := 127) t188_127 mr188 rfl (hQ _ _ w114s w114I (((zFr.refl).trans (w61F.mono rfl)).trans (w114F.mono rfl)) (by omega) (by omega) (by omega) (by omega) (zKnA.fr w61x0 (w114F 164 0 rfl) (fun j q => (w114F 164 j rfl)) (w114F 165 2 rfl) (zTf.eq (fun k j q1 q2 => (w114F k j (zoC (by omega) rfl))))) (zSp.fr w61x1 (fun j => (w114F 174 j rfl)) (w114F 166 10 rfl)) (zSp.fr w61x2 (fun j => (w114F 250 j rfl)) (w114F 242 10 rfl)))
                    refine zs_tswD (pc := 65) t188_65 rfl (by omega) (pc2 := 128) rfl ?_
                    refine zs_iconst (pc := 128) t188_128 (v := -1) (by decide) ?_
                    have w131 : (zI w114M 166 10).toInt = (zI w61M 166 10).toInt := (congrArg Int32.toInt ((w114F 166 10 rfl).trans rfl)).trans rfl
                    have w132 : (zI w114M 242 10).toInt = (zI M 242 10).toInt := (congrArg Int32.toInt ((w114F 242 10 rfl).trans ((w61F 242 10 rfl).trans rfl))).trans rfl
                    have w133 := lin1
                    exact zs_iret (pc := 129) t188_129 mr188 (by decide) (hQ _ _ w114s w114I (((zFr.refl).trans (w61F.mono rfl)).trans (w114F.mono rfl)) (by omega) (by omega) (by omega) (by omega) (zKnA.fr w61x0 (w114F 164 0 rfl) (fun j q => (w114F 164 j rfl)) (w114F 165 2 rfl) (zTf.eq (fun k j q1 q2 => (w114F k j (zoC (by omega) rfl))))) (zSp.fr w61x1 (fun j => (w114F 174 j rfl)) (w114F 166 10 rfl)) (zSp.fr w61x2 (fun j => (w114F 250 j rfl)) (w114F 242 10 rfl)))
set_option maxHeartbeats 8000000 in
theorem P193 {X : zX} {l : Launch} {M : zM} {Q : Option Value → zM → Prop} {a b c : Int32} (hs : zSk zMc M) (hI : zIv cLo cHi M) {F : Nat → Int} (u0 : (zI M 166 10).toInt ≤ 1600000000) (u1 : 0 ≤ (zI M 166 10).toInt) (u2 : (zI M 242 10).toInt ≤ 1600000000) (u3 : 0 ≤ (zI M 242 10).toInt) (x0 : zSo M 7 F) (x1 : zWF F) (x2 : zKnA M F) (x3 : zSp M 166 174) (x4 : zSp M 242 250) (hQ : ∀ (M' : zM) (v : Int32), zSk zMc M' → zIv cLo cHi M' → zFr [(164, 165, none), (166, 178, none), (180, 180, none), (181, 240, none), (317, 324, none), (332, 334, none)] M M' → ((zI M' 166 10).toInt ≤ (zI M 166 10).toInt + 20000) → ((zI M 166 10).toInt ≤ (zI M' 166 10).toInt) → ((zI M' 242 10).toInt ≤ (zI M 242 10).toInt + 20000) → ((zI M 242 10).toInt ≤ (zI M' 242 10).toInt) → (zKnA M' F) → (zSp M' 166 174) → (zSp M' 242 250) → Q (some (.int v)) M') : zCall X l 7 0 0 193 [.ref 6, .int a, .int b, .int c] M Q := by
  have ga := zrg a
  have gb := zrg b
  have gc := zrg c
  refine zs_in (by decide) mf193 (Nat.le_of_ble_eq_true rfl) ?_
  show zGo X l 7 0 0 193 0 [(0, .ref 6), (1, .int a), (2, .int b), (3, .int c)] [] M _
  have f0 := x0.1
  have w1 := ib7_0 hI
  have w2 : (zI M 7 0).toInt = (zI M 7 0).toInt := (congrArg Int32.toInt rfl).trans rfl
  have w3 := ib7_3 hI
  have w4 : (zI M 7 3).toInt = (zI M 7 3).toInt := (congrArg Int32.toInt rfl).trans rfl
  have w5 := ib7_8 hI
  have w6 : (zI M 7 8).toInt = (zI M 7 8).toInt := (congrArg Int32.toInt rfl).trans rfl
  have f1 := x1.1
  have f3 := x1.2.2.2
  have f2 := (show (zI M 7 0).toInt = F 0 ∧ (zI M 7 3).toInt = F 1 ∧ (zI M 7 8).toInt = F 2 from ⟨x0.1.1, x0.1.2.1, x0.1.2.2.1⟩)
  refine zs_iload_n (pc := 0) t193_0 rfl ?_
  refine zs_iload_n (pc := 1) t193_1 rfl ?_
  refine zs_iload_n (pc := 2) t193_2 rfl ?_
  refine zs_invS (pc := 3) (as := [.int a, .int b, .int c]) (st := []) t193_3 (by decide) mf189 rfl rfl ⟨by decide, by decide, Nat.le_of_ble_eq_true rfl, Nat.le_of_ble_eq_true rfl⟩ (zs_in (by decide) mf189 (Nat.le_of_ble_eq_true rfl) ?_) (fun _ _ q => q)
  show zGo X l 1 0 0 189 0 [(0, .int a), (1, .int b), (2, .int c)] [] M _
  refine zs_iload_n (pc := 0) t189_0 rfl ?_
  refine zs_iconst (pc := 1) t189_1 (v := 1) (by decide) ?_
  refine zs_sipush (pc := 2) t189_2 (v := 200) (by decide) ?_
  refine zs_invS (pc := 5) (as := [.int a, .int (1 : Int32), .int (200 : Int32)]) (st := []) t189_5 (by decide) mf39 rfl rfl ⟨by decide, by decide, Nat.le_of_ble_eq_true rfl, Nat.le_of_ble_eq_true rfl⟩ (zs_in (by decide) mf39 (Nat.le_of_ble_eq_true rfl) ?_) (fun _ _ q => q)
  show zGo X l 0 0 0 39 0 [(0, .int a), (1, .int (1 : Int32)), (2, .int (200 : Int32))] [] M _
  refine zs_iload_n (pc := 0) t39_0 rfl ?_
  refine zs_iload_n (pc := 1) t39_1 rfl ?_
  by_cases w7 : a.toInt < 1
  · refine zs_icmp_ltT (pc := 2) t39_2 rfl li1 (by omega) ?_
    refine zs_iconst (pc := 14) t39_14 (v := 0) (by decide) ?_
    refine zs_iret (pc := 15) t39_15 mr39 (by decide) ?_
    show zGo X l 1 0 0 189 8 [(0, .int a), (1, .int b), (2, .int c)] [.int (0 : Int32)] M _
    refine zs_if_eqT (pc := 8) t189_8 li0 (by decide) ?_
    refine zs_iconst (pc := 36) t189_36 (v := 0) (by decide) ?_
    refine zs_iret (pc := 37) t189_37 mr189 (by decide) ?_
    show zGo X l 7 0 0 193 6 [(0, .ref 6), (1, .int a), (2, .int b), (3, .int c)] [.int (0 : Int32)] M _
    refine zs_if_neF (pc := 6) t193_6 li0 (by decide) ?_
    refine zs_iconst (pc := 9) t193_9 (v := -1) (by decide) ?_
    have w8 := zrg (zI M 166 10)
    have w9 : (zI M 166 10).toInt = (zI M 166 10).toInt := (congrArg Int32.toInt rfl).trans rfl
    have w10 := zrg (zI M 242 10)
    have w11 : (zI M 242 10).toInt = (zI M 242 10).toInt := (congrArg Int32.toInt rfl).trans rfl
    have w12 := lin1
    exact zs_iret (pc := 10) t193_10 mr193 (by decide) (hQ _ _ hs hI (zFr.refl) (by omega) (by omega) (by omega) (by omega) x2 x3 x4)
  · refine zs_icmp_ltF (pc := 2) t39_2 rfl li1 (by omega) ?_
    refine zs_iload_n (pc := 5) t39_5 rfl ?_
    refine zs_iload_n (pc := 6) t39_6 rfl ?_
    by_cases w13 : 200 < a.toInt
    · refine zs_icmp_gtT (pc := 7) t39_7 rfl li200 (by omega) ?_
      refine zs_iconst (pc := 14) t39_14 (v := 0) (by decide) ?_
      refine zs_iret (pc := 15) t39_15 mr39 (by decide) ?_
      show zGo X l 1 0 0 189 8 [(0, .int a), (1, .int b), (2, .int c)] [.int (0 : Int32)] M _
      refine zs_if_eqT (pc := 8) t189_8 li0 (by decide) ?_
      refine zs_iconst (pc := 36) t189_36 (v := 0) (by decide) ?_
      refine zs_iret (pc := 37) t189_37 mr189 (by decide) ?_
      show zGo X l 7 0 0 193 6 [(0, .ref 6), (1, .int a), (2, .int b), (3, .int c)] [.int (0 : Int32)] M _
      refine zs_if_neF (pc := 6) t193_6 li0 (by decide) ?_
      refine zs_iconst (pc := 9) t193_9 (v := -1) (by decide) ?_
      have w14 := zrg (zI M 166 10)
      have w15 : (zI M 166 10).toInt = (zI M 166 10).toInt := (congrArg Int32.toInt rfl).trans rfl
      have w16 := zrg (zI M 242 10)
      have w17 : (zI M 242 10).toInt = (zI M 242 10).toInt := (congrArg Int32.toInt rfl).trans rfl
      have w18 := lin1
      exact zs_iret (pc := 10) t193_10 mr193 (by decide) (hQ _ _ hs hI (zFr.refl) (by omega) (by omega) (by omega) (by omega) x2 x3 x4)
    · refine zs_icmp_gtF (pc := 7) t39_7 rfl li200 (by omega) ?_
      refine zs_iconst (pc := 10) t39_10 (v := 1) (by decide) ?_
      refine zs_goto (pc := 11) t39_11 ?_
      refine zs_iret (pc := 15) t39_15 mr39 (by decide) ?_
      show zGo X l 1 0 0 189 8 [(0, .int a), (1, .int b), (2, .int c)] [.int (1 : Int32)] M _
      refine zs_if_eqF (pc := 8) t189_8 li1 (by decide) ?_
      refine zs_iload_n (pc := 11) t189_11 rfl ?_
      refine zs_iconst (pc := 12) t189_12 (v := 1) (by decide) ?_
      refine zs_sipush (pc := 13) t189_13 (v := 999) (by decide) ?_
      refine zs_invS (pc := 16) (as := [.int b, .int (1 : Int32), .int (999 : Int32)]) (st := []) t189_16 (by decide) mf39 rfl rfl ⟨by decide, by decide, Nat.le_of_ble_eq_true rfl, Nat.le_of_ble_eq_true rfl⟩ (zs_in (by decide) mf39 (Nat.le_of_ble_eq_true rfl) ?_) (fun _ _ q => q)
      show zGo X l 0 0 0 39 0 [(0, .int b), (1, .int (1 : Int32)), (2, .int (999 : Int32))] [] M _
      refine zs_iload_n (pc := 0) t39_0 rfl ?_
      refine zs_iload_n (pc := 1) t39_1 rfl ?_
      by_cases w19 : b.toInt < 1
      · refine zs_icmp_ltT (pc := 2) t39_2 rfl li1 (by omega) ?_
        refine zs_iconst (pc := 14) t39_14 (v := 0) (by decide) ?_
        refine zs_iret (pc := 15) t39_15 mr39 (by decide) ?_
        show zGo X l 1 0 0 189 19 [(0, .int a), (1, .int b), (2, .int c)] [.int (0 : Int32)] M _
        refine zs_if_eqT (pc := 19) t189_19 li0 (by decide) ?_
        refine zs_iconst (pc := 36) t189_36 (v := 0) (by decide) ?_
        refine zs_iret (pc := 37) t189_37 mr189 (by decide) ?_
        show zGo X l 7 0 0 193 6 [(0, .ref 6), (1, .int a), (2, .int b), (3, .int c)] [.int (0 : Int32)] M _
        refine zs_if_neF (pc := 6) t193_6 li0 (by decide) ?_
        refine zs_iconst (pc := 9) t193_9 (v := -1) (by decide) ?_
        have w20 := zrg (zI M 166 10)
        have w21 : (zI M 166 10).toInt = (zI M 166 10).toInt := (congrArg Int32.toInt rfl).trans rfl
        have w22 := zrg (zI M 242 10)
        have w23 : (zI M 242 10).toInt = (zI M 242 10).toInt := (congrArg Int32.toInt rfl).trans rfl
        have w24 := lin1
        exact zs_iret (pc := 10) t193_10 mr193 (by decide) (hQ _ _ hs hI (zFr.refl) (by omega) (by omega) (by omega) (by omega) x2 x3 x4)
      · refine zs_icmp_ltF (pc := 2) t39_2 rfl li1 (by omega) ?_
        refine zs_iload_n (pc := 5) t39_5 rfl ?_
        refine zs_iload_n (pc := 6) t39_6 rfl ?_
        by_cases w25 : 999 < b.toInt
        · refine zs_icmp_gtT (pc := 7) t39_7 rfl li999 (by omega) ?_
          refine zs_iconst (pc := 14) t39_14 (v := 0) (by decide) ?_
          refine zs_iret (pc := 15) t39_15 mr39 (by decide) ?_
          show zGo X l 1 0 0 189 19 [(0, .int a), (1, .int b), (2, .int c)] [.int (0 : Int32)] M _
          refine zs_if_eqT (pc := 19) t189_19 li0 (by decide) ?_
          refine zs_iconst (pc := 36) t189_36 (v := 0) (by decide) ?_
          refine zs_iret (pc := 37) t189_37 mr189 (by decide) ?_
          show zGo X l 7 0 0 193 6 [(0, .ref 6), (1, .int a), (2, .int b), (3, .int c)] [.int (0 : Int32)] M _
          refine zs_if_neF (pc := 6) t193_6 li0 (by decide) ?_
          refine zs_iconst (pc := 9) t193_9 (v := -1) (by decide) ?_
          have w26 := zrg (zI M 166 10)
          have w27 : (zI M 166 10).toInt = (zI M 166 10).toInt := (congrArg Int32.toInt rfl).trans rfl
          have w28 := zrg (zI M 242 10)
          have w29 : (zI M 242 10).toInt = (zI M 242 10).toInt := (congrArg Int32.toInt rfl).trans rfl
          have w30 := lin1
          exact zs_iret (pc := 10) t193_10 mr193 (by decide) (hQ _ _ hs hI (zFr.refl) (by omega) (by omega) (by omega) (by omega) x2 x3 x4)
        · refine zs_icmp_gtF (pc := 7) t39_7 rfl li999 (by omega) ?_
          refine zs_iconst (pc := 10) t39_10 (v := 1) (by decide) ?_
          refine zs_goto (pc := 11) t39_11 ?_
          refine zs_iret (pc := 15) t39_15 mr39 (by decide) ?_
          show zGo X l 1 0 0 189 19 [(0, .int a), (1, .int b), (2, .int c)] [.int (1 : Int32)] M _
          refine zs_if_eqF (pc := 19) t189_19 li1 (by decide) ?_
          refine zs_iload_n (pc := 22) t189_22 rfl ?_
          refine zs_iconst (pc := 23) t189_23 (v := 0) (by decide) ?_
          refine zs_bipush (pc := 24) t189_24 (v := 50) (by decide) ?_
          refine zs_invS (pc := 26) (as := [.int c, .int (0 : Int32), .int (50 : Int32)]) (st := []) t189_26 (by decide) mf39 rfl rfl ⟨by decide, by decide, Nat.le_of_ble_eq_true rfl, Nat.le_of_ble_eq_true rfl⟩ (zs_in (by decide) mf39 (Nat.le_of_ble_eq_true rfl) ?_) (fun _ _ q => q)
          show zGo X l 0 0 0 39 0 [(0, .int c), (1, .int (0 : Int32)), (2, .int (50 : Int32))] [] M _
          refine zs_iload_n (pc := 0) t39_0 rfl ?_
          refine zs_iload_n (pc := 1) t39_1 rfl ?_
          by_cases w31 : c.toInt < 0
          · refine zs_icmp_ltT (pc := 2) t39_2 rfl li0 (by omega) ?_
            refine zs_iconst (pc := 14) t39_14 (v := 0) (by decide) ?_
            refine zs_iret (pc := 15) t39_15 mr39 (by decide) ?_
            show zGo X l 1 0 0 189 29 [(0, .int a), (1, .int b), (2, .int c)] [.int (0 : Int32)] M _
            refine zs_if_eqT (pc := 29) t189_29 li0 (by decide) ?_
            refine zs_iconst (pc := 36) t189_36 (v := 0) (by decide) ?_
            refine zs_iret (pc := 37) t189_37 mr189 (by decide) ?_
            show zGo X l 7 0 0 193 6 [(0, .ref 6), (1, .int a), (2, .int b), (3, .int c)] [.int (0 : Int32)] M _
            refine zs_if_neF (pc := 6) t193_6 li0 (by decide) ?_
            refine zs_iconst (pc := 9) t193_9 (v := -1) (by decide) ?_
            have w32 := zrg (zI M 166 10)
            have w33 : (zI M 166 10).toInt = (zI M 166 10).toInt := (congrArg Int32.toInt rfl).trans rfl
            have w34 := zrg (zI M 242 10)
            have w35 : (zI M 242 10).toInt = (zI M 242 10).toInt := (congrArg Int32.toInt rfl).trans rfl
            have w36 := lin1
            exact zs_iret (pc := 10) t193_10 mr193 (by decide) (hQ _ _ hs hI (zFr.refl) (by omega) (by omega) (by omega) (by omega) x2 x3 x4)
          · refine zs_icmp_ltF (pc := 2) t39_2 rfl li0 (by omega) ?_
            refine zs_iload_n (pc := 5) t39_5 rfl ?_
            refine zs_iload_n (pc := 6) t39_6 rfl ?_
            by_cases w37 : 50 < c.toInt
            · refine zs_icmp_gtT (pc := 7) t39_7 rfl li50 (by omega) ?_
              refine zs_iconst (pc := 14) t39_14 (v := 0) (by decide) ?_
              refine zs_iret (pc := 15) t39_15 mr39 (by decide) ?_
              show zGo X l 1 0 0 189 29 [(0, .int a), (1, .int b), (2, .int c)] [.int (0 : Int32)] M _
              refine zs_if_eqT (pc := 29) t189_29 li0 (by decide) ?_
              refine zs_iconst (pc := 36) t189_36 (v := 0) (by decide) ?_
              refine zs_iret (pc := 37) t189_37 mr189 (by decide) ?_
              show zGo X l 7 0 0 193 6 [(0, .ref 6), (1, .int a), (2, .int b), (3, .int c)] [.int (0 : Int32)] M _
              refine zs_if_neF (pc := 6) t193_6 li0 (by decide) ?_
              refine zs_iconst (pc := 9) t193_9 (v := -1) (by decide) ?_
              have w38 := zrg (zI M 166 10)
              have w39 : (zI M 166 10).toInt = (zI M 166 10).toInt := (congrArg Int32.toInt rfl).trans rfl
              have w40 := zrg (zI M 242 10)
              have w41 : (zI M 242 10).toInt = (zI M 242 10).toInt := (congrArg Int32.toInt rfl).trans rfl
              have w42 := lin1
              exact zs_iret (pc := 10) t193_10 mr193 (by decide) (hQ _ _ hs hI (zFr.refl) (by omega) (by omega) (by omega) (by omega) x2 x3 x4)
            · refine zs_icmp_gtF (pc := 7) t39_7 rfl li50 (by omega) ?_
              refine zs_iconst (pc := 10) t39_10 (v := 1) (by decide) ?_
              refine zs_goto (pc := 11) t39_11 ?_
              refine zs_iret (pc := 15) t39_15 mr39 (by decide) ?_
              show zGo X l 1 0 0 189 29 [(0, .int a), (1, .int b), (2, .int c)] [.int (1 : Int32)] M _
              refine zs_if_eqF (pc := 29) t189_29 li1 (by decide) ?_
              refine zs_iconst (pc := 32) t189_32 (v := 1) (by decide) ?_
              refine zs_goto (pc := 33) t189_33 ?_
              refine zs_iret (pc := 37) t189_37 mr189 (by decide) ?_
              show zGo X l 7 0 0 193 6 [(0, .ref 6), (1, .int a), (2, .int b), (3, .int c)] [.int (1 : Int32)] M _
              refine zs_if_neT (pc := 6) t193_6 li1 (by decide) ?_
              refine zs_aload_n (pc := 11) t193_11 rfl ?_
              have w43 := zrg (zI M 166 10)
              have w44 : (zI M 166 10).toInt = (zI M 166 10).toInt := (congrArg Int32.toInt rfl).trans rfl
              have w45 := zrg (zI M 242 10)
              have w46 : (zI M 242 10).toInt = (zI M 242 10).toInt := (congrArg Int32.toInt rfl).trans rfl
              have w47 : (zI M 166 10).toInt = (zI M 166 10).toInt := (congrArg Int32.toInt rfl).trans rfl
              have w48 : (zI M 242 10).toInt = (zI M 242 10).toInt := (congrArg Int32.toInt rfl).trans rfl
              refine zs_invV (pc := 12) (k := 6) (as' := []) (st := []) t193_12 mf187 rfl rfl (Or.inl ⟨by decide, (zk1 (hs.k fk_zMc_6))⟩) ⟨by decide, by decide, Nat.le_of_ble_eq_true rfl, Nat.le_of_ble_eq_true rfl⟩ (P187 hs hI (by omega) (by omega) (by omega) (by omega) x0 x1 x2 x3 x4 ?_) (fun _ _ q => q)
              intro w49M w49v w49s w49I w49F w49t0 w49t1 w49t2 w49t3 w49x0 w49x1 w49x2
              have w49g := zrg w49v
              have w50 := zrg (zI w49M 166 10)
              show zGo X l 7 0 0 193 15 [(0, .ref 6), (1, .int a), (2, .int b), (3, .int c)] [.int w49v] w49M _
              refine zs_aload_n (pc := 15) t193_15 rfl ?_
              refine zs_get (pc := 16) t193_16 (by decide) (zk1 (w49s.k fk_zMc_6)) (w49s.p rfl fv_zMc_6_0) ?_
              refine zs_bipush (pc := 19) t193_19 (v := 7) (by decide) ?_
              refine zs_invV (pc := 21) (k := 7) (as' := [.int (7 : Int32)]) (st := [.int w49v]) t193_21 mf96 rfl rfl (Or.inl ⟨by decide, (zk1 (w49s.k fk_zMc_7))⟩) ⟨by decide, by decide, Nat.le_of_ble_eq_true rfl, Nat.le_of_ble_eq_true rfl⟩ (zs_in (by decide) mf96 (Nat.le_of_ble_eq_true rfl) ?_) (fun _ _ q => q)
              show zGo X l 0 0 0 96 0 [(0, .ref 7), (1, .int (7 : Int32))] [] w49M _
              refine zs_iload_n (pc := 0) t96_0 rfl ?_
              refine zs_if_ltF (pc := 1) t96_1 li7 (by decide) ?_
              refine zs_iload_n (pc := 4) t96_4 rfl ?_
              refine zs_bipush (pc := 5) t96_5 (v := 9) (by decide) ?_
              refine zs_icmp_geF (pc := 7) t96_7 li7 li9 (by decide) ?_
              refine zs_aload_n (pc := 10) t96_10 rfl ?_
              refine zs_get (pc := 11) t96_11 (by decide) (zk1 (w49s.k fk_zMc_7)) (w49s.p rfl fv_zMc_7_12) ?_
              refine zs_iload_n (pc := 14) t96_14 rfl ?_
              have w51 := ib17 hI 7
              have w52 : (zI M 17 7).toInt = F 12 := x0.2.2.2.2.1 7 (by decide)
              refine zs_iald (pc := 15) t96_15 (j := 7) (by decide) (zk1 (w49s.k fk_zMc_17)) li7 (zk2 (w49s.k fk_zMc_17) (by decide)) ((w49F 17 7 rfl).trans rfl) ?_
              refine zs_goto (pc := 16) t96_16 ?_
              refine zs_iret (pc := 20) t96_20 mr96 rfl ?_
              show zGo X l 7 0 0 193 24 [(0, .ref 6), (1, .int a), (2, .int b), (3, .int c)] [.int (zI M 17 7), .int w49v] w49M _
              refine zs_invS (pc := 24) (as := [.int w49v, .int (zI M 17 7)]) (st := []) t193_24 (by decide) mf190 rfl rfl ⟨by decide, by decide, Nat.le_of_ble_eq_true rfl, Nat.le_of_ble_eq_true rfl⟩ (zs_in (by decide) mf190 (Nat.le_of_ble_eq_true rfl) ?_) (fun _ _ q => q)
              show zGo X l 1 0 0 190 0 [(0, .int w49v), (1, .int (zI M 17 7))] [] w49M _
              refine zs_iload_n (pc := 0) t190_0 rfl ?_
              refine zs_iconst (pc := 1) t190_1 (v := 1) (by decide) ?_
              by_cases w53 : 1 ≤ (zI M 17 7).toInt
              · refine zs_icmp_geT (pc := 2) t190_2 rfl li1 (by omega) ?_
                refine zs_iconst (pc := 9) t190_9 (v := 1) (by decide) ?_
                refine zs_iload_n (pc := 10) t190_10 rfl ?_
                refine zs_iload_n (pc := 11) t190_11 rfl ?_
                obtain ⟨w54v, w54⟩ : ∃ v, v = w49v + (zI M 17 7) := ⟨_, rfl⟩
                have w54g := zrg w54v
                refine zs_iadd (pc := 12) t190_12 (c := w54v) w54.symm ?_
                refine zs_iconst (pc := 13) t190_13 (v := 1) (by decide) ?_
                obtain ⟨w55v, w55⟩ : ∃ v, v = w54v - (1 : Int32) := ⟨_, rfl⟩
                have w55g := zrg w55v
                refine zs_isub (pc := 14) t190_14 (c := w55v) w55.symm ?_
                refine zs_iload_n (pc := 15) t190_15 rfl ?_
                obtain ⟨w56v, w56⟩ : ∃ v, w55v / (zI M 17 7) = v := ⟨_, rfl⟩
                have w56g := zrg w56v
                refine zs_idiv (pc := 16) t190_16 (znz rfl (by omega)) (c := w56v) w56 ?_
                refine zs_invS (pc := 17) (as := [.int (1 : Int32), .int w56v]) (st := []) t190_17 (by decide) mf21 rfl rfl ⟨by decide, by decide, Nat.le_of_ble_eq_true rfl, Nat.le_of_ble_eq_true rfl⟩ (zs_in (by decide) mf21 (Nat.le_of_ble_eq_true rfl) ?_) (fun _ _ q => q)
                show zGo X l 0 0 0 21 0 [(0, .int (1 : Int32)), (1, .int w56v)] [] w49M _
                refine zs_iload_n (pc := 0) t21_0 rfl ?_
                refine zs_iload_n (pc := 1) t21_1 rfl ?_
                by_cases w57 : 1 < w56v.toInt
                · refine zs_icmp_ltT (pc := 2) t21_2 li1 rfl (by omega) ?_
                  refine zs_iload_n (pc := 9) t21_9 rfl ?_
                  refine zs_iret (pc := 10) t21_10 mr21 rfl ?_
                  show zGo X l 1 0 0 190 20 [(0, .int w49v), (1, .int (zI M 17 7))] [.int w56v] w49M _
                  refine zs_iret (pc := 20) t190_20 mr190 rfl ?_
                  show zGo X l 7 0 0 193 27 [(0, .ref 6), (1, .int a), (2, .int b), (3, .int c)] [.int w56v] w49M _
                  refine zs_istore (pc := 27) t193_27 (ls' := [(4, .int w56v), (0, .ref 6), (1, .int a), (2, .int b), (3, .int c)]) (zml mf193 (by decide)) rfl ?_
                  refine zs_iconst (pc := 29) t193_29 (v := 1) (by decide) ?_
                  refine zs_istore (pc := 30) t193_30 (ls' := [(5, .int (1 : Int32)), (4, .int w56v), (0, .ref 6), (1, .int a), (2, .int b), (3, .int c)]) (zml mf193 (by decide)) rfl ?_
                  have w58L : ∀ (m : Nat) (w58x5 : Int32) (w58M : zM), (0 ≤ w58x5.toInt ∧ w58x5.toInt ≤ 9) → zSk zMc w58M → zIv cLo cHi w58M → zFr [(332, 334, none)] w49M w58M → 9 - w58x5.toInt ≤ (m : Int) → zGo X l 7 0 0 193 32 [(0, .ref 6), (1, .int a), (2, .int b), (3, .int c), (4, .int w56v), (5, .int w58x5)] [] w58M Q := by
                    intro m
                    induction m using Nat.strongRecOn with
                    | ind w58m w58ih =>
                      intro w58x5 w58M w58b5 w58s w58I w58F w58q
                      refine zs_iload (pc := 32) t193_32 rfl ?_
                      refine zs_bipush (pc := 34) t193_34 (v := 8) (by decide) ?_
                      by_cases w59 : 8 < w58x5.toInt
                      · refine zs_icmp_gtT (pc := 36) t193_36 rfl li8 (by omega) ?_
                        refine zs_bipush (pc := 91) t193_91 (v := -2) (by decide) ?_
                        have w60 : (zI w58M 166 10).toInt = (zI w49M 166 10).toInt := (congrArg Int32.toInt ((w58F 166 10 rfl).trans rfl)).trans rfl
                        have w61 : (zI w58M 242 10).toInt = (zI M 242 10).toInt := (congrArg Int32.toInt ((w58F 242 10 rfl).trans ((w49F 242 10 rfl).trans rfl))).trans rfl
                        have w62 := lin2
                        exact zs_iret (pc := 93) t193_93 mr193 (by decide) (hQ _ _ w58s w58I (((zFr.refl).trans (w49F.mono rfl)).trans (w58F.mono rfl)) (by omega) (by omega) (by omega) (by omega) (zKnA.fr w49x0 (w58F 164 0 rfl) (fun j q => (w58F 164 j rfl)) (w58F 165 2 rfl) (zTf.eq (fun k j q1 q2 => (w58F k j (zoC (by omega) rfl))))) (zSp.fr w49x1 (fun j => (w58F 174 j rfl)) (w58F 166 10 rfl)) (zSp.fr w49x2 (fun j => (w58F 250 j rfl)) (w58F 242 10 rfl)))
                      · refine zs_icmp_gtF (pc := 36) t193_36 rfl li8 (by omega) ?_
                        refine zs_aload_n (pc := 39) t193_39 rfl ?_
                        refine zs_get (pc := 40) t193_40 (by decide) (zk1 (w58s.k fk_zMc_6)) (w58s.p rfl fv_zMc_6_8) ?_
                        refine zs_iload_n (pc := 43) t193_43 rfl ?_
                        refine zs_iload_n (pc := 44) t193_44 rfl ?_
                        refine zs_iload (pc := 45) t193_45 rfl ?_
                        refine zs_iload_n (pc := 47) t193_47 rfl ?_
                        refine zs_iload (pc := 48) t193_48 rfl ?_
                        refine zs_aload_n (pc := 50) t193_50 rfl ?_
                        refine zs_get (pc := 51) t193_51 (by decide) (zk1 (w58s.k fk_zMc_6)) (w58s.p rfl fv_zMc_6_0) ?_
                        refine zs_bipush (pc := 54) t193_54 (v := 8) (by decide) ?_
                        refine zs_invV (pc := 56) (k := 7) (as' := [.int (8 : Int32)]) (st := [.int w56v, .int c, .int w58x5, .int b, .int a, .ref 332]) t193_56 mf96 rfl rfl (Or.inl ⟨by decide, (zk1 (w58s.k fk_zMc_7))⟩) ⟨by decide, by decide, Nat.le_of_ble_eq_true rfl, Nat.le_of_ble_eq_true rfl⟩ (zs_in (by decide) mf96 (Nat.le_of_ble_eq_true rfl) ?_) (fun _ _ q => q)
                        show zGo X l 0 0 0 96 0 [(0, .ref 7), (1, .int (8 : Int32))] [] w58M _
                        refine zs_iload_n (pc := 0) t96_0 rfl ?_
                        refine zs_if_ltF (pc := 1) t96_1 li8 (by decide) ?_
                        refine zs_iload_n (pc := 4) t96_4 rfl ?_
                        refine zs_bipush (pc := 5) t96_5 (v := 9) (by decide) ?_
                        refine zs_icmp_geF (pc := 7) t96_7 li8 li9 (by decide) ?_
                        refine zs_aload_n (pc := 10) t96_10 rfl ?_
                        refine zs_get (pc := 11) t96_11 (by decide) (zk1 (w58s.k fk_zMc_7)) (w58s.p rfl fv_zMc_7_12) ?_
                        refine zs_iload_n (pc := 14) t96_14 rfl ?_
                        have w63 := ib17 hI 8
                        have w64 : (zI M 17 8).toInt = F 13 := x0.2.2.2.2.1 8 (by decide)
                        refine zs_iald (pc := 15) t96_15 (j := 8) (by decide) (zk1 (w58s.k fk_zMc_17)) li8 (zk2 (w58s.k fk_zMc_17) (by decide)) ((w58F 17 8 rfl).trans ((w49F 17 8 rfl).trans rfl)) ?_
                        refine zs_goto (pc := 16) t96_16 ?_
                        refine zs_iret (pc := 20) t96_20 mr96 rfl ?_
                        show zGo X l 7 0 0 193 59 [(0, .ref 6), (1, .int a), (2, .int b), (3, .int c), (4, .int w56v), (5, .int w58x5)] [.int (zI M 17 8), .int w56v, .int c, .int w58x5, .int b, .int a, .ref 332] w58M _
                        refine zs_invV (pc := 59) (k := 332) (as' := [.int a, .int b, .int w58x5, .int c, .int w56v, .int (zI M 17 8)]) (st := []) t193_59 mf191 rfl rfl (Or.inl ⟨by decide, (zk1 (w58s.k fk_zMc_332))⟩) ⟨by decide, by decide, Nat.le_of_ble_eq_true rfl, Nat.le_of_ble_eq_true rfl⟩ (C191_332 w58s w58I ⟨by omega, by omega⟩ ?_) (fun _ _ q => q)
                        intro w65M w65s w65I w65F
                        show zGo X l 7 0 0 193 62 [(0, .ref 6), (1, .int a), (2, .int b), (3, .int c), (4, .int w56v), (5, .int w58x5)] [] w65M _
                        refine zs_aload_n (pc := 62) t193_62 rfl ?_
                        refine zs_get (pc := 63) t193_63 (by decide) (zk1 (w65s.k fk_zMc_6)) (w65s.p rfl fv_zMc_6_8) ?_
                        have w66 := zrg (zI w65M 332 0)
                        refine zs_get (pc := 66) t193_66 (by decide) (zk1 (w65s.k fk_zMc_332)) (zfvi rfl rfl) ?_
                        by_cases w67 : (zI w65M 332 0).toInt ≠ 0
                        · refine zs_if_neT (pc := 69) t193_69 rfl (by omega) ?_
                          obtain ⟨w68v, w68e, w68⟩ := ziadd (a := w58x5) (b := Int32.ofInt 1) rfl (show (Int32.ofInt 1).toInt = 1 by decide) (by omega) (by omega)
                          refine zs_iinc (pc := 85) t193_85 (ls' := [(5, .int w68v), (0, .ref 6), (1, .int a), (2, .int b), (3, .int c), (4, .int w56v)]) (zml mf193 (by decide)) rfl (c := w68v) w68e rfl ?_
                          refine zs_goto (pc := 88) t193_88 ?_
                          refine zGo.locals (ls' := [(0, .ref 6), (1, .int a), (2, .int b), (3, .int c), (4, .int w56v), (5, .int w68v)]) (by simp) ?_
                          have w69 := w68
                          exact w58ih (w58m - 1) (by omega) w68v w65M ⟨by omega, by omega⟩ w65s w65I (((zFr.refl).trans (w58F.mono rfl)).trans (w65F.mono rfl)) (by omega)
                        · refine zs_if_neF (pc := 69) t193_69 rfl (by omega) ?_
                          refine zs_aload_n (pc := 72) t193_72 rfl ?_
                          refine zs_get (pc := 73) t193_73 (by decide) (zk1 (w65s.k fk_zMc_6)) (w65s.p rfl fv_zMc_6_8) ?_
                          have w70 := zrg (zI w65M 332 1)
                          refine zs_get (pc := 76) t193_76 (by decide) (zk1 (w65s.k fk_zMc_332)) (zfvi rfl rfl) ?_
                          by_cases w71 : (zI w65M 332 1).toInt ≠ 0
                          · refine zs_if_neT (pc := 79) t193_79 rfl (by omega) ?_
                            obtain ⟨w72v, w72e, w72⟩ := ziadd (a := w58x5) (b := Int32.ofInt 1) rfl (show (Int32.ofInt 1).toInt = 1 by decide) (by omega) (by omega)
                            refine zs_iinc (pc := 85) t193_85 (ls' := [(5, .int w72v), (0, .ref 6), (1, .int a), (2, .int b), (3, .int c), (4, .int w56v)]) (zml mf193 (by decide)) rfl (c := w72v) w72e rfl ?_
                            refine zs_goto (pc := 88) t193_88 ?_
                            refine zGo.locals (ls' := [(0, .ref 6), (1, .int a), (2, .int b), (3, .int c), (4, .int w56v), (5, .int w72v)]) (by simp) ?_
                            have w73 := w72
                            exact w58ih (w58m - 1) (by omega) w72v w65M ⟨by omega, by omega⟩ w65s w65I (((zFr.refl).trans (w58F.mono rfl)).trans (w65F.mono rfl)) (by omega)
                          · refine zs_if_neF (pc := 79) t193_79 rfl (by omega) ?_
                            refine zs_iload (pc := 82) t193_82 rfl ?_
                            have w74 : (zI w65M 166 10).toInt = (zI w49M 166 10).toInt := (congrArg Int32.toInt ((w65F 166 10 rfl).trans ((w58F 166 10 rfl).trans rfl))).trans rfl
                            have w75 : (zI w65M 242 10).toInt = (zI M 242 10).toInt := (congrArg Int32.toInt ((w65F 242 10 rfl).trans ((w58F 242 10 rfl).trans ((w49F 242 10 rfl).trans rfl)))).trans rfl
                            exact zs_iret (pc := 84) t193_84 mr193 rfl (hQ _ _ w65s w65I ((((zFr.refl).trans (w49F.mono rfl)).trans (w58F.mono rfl)).trans (w65F.mono rfl)) (by omega) (by omega) (by omega) (by omega) (zKnA.fr w49x0 ((w65F 164 0 rfl).trans (w58F 164 0 rfl)) (fun j q => ((w65F 164 j rfl).trans (w58F 164 j rfl))) ((w65F 165 2 rfl).trans (w58F 165 2 rfl)) (zTf.eq (fun k j q1 q2 => ((w65F k j (zoC (by omega) rfl)).trans (w58F k j (zoC (by omega) rfl)))))) (zSp.fr w49x1 (fun j => ((w65F 174 j rfl).trans (w58F 174 j rfl))) ((w65F 166 10 rfl).trans (w58F 166 10 rfl))) (zSp.fr w49x2 (fun j => ((w65F 250 j rfl).trans (w58F 250 j rfl))) ((w65F 242 10 rfl).trans (w58F 242 10 rfl))))
                  refine zGo.locals (ls' := [(0, .ref 6), (1, .int a), (2, .int b), (3, .int c), (4, .int w56v), (5, .int (1 : Int32))]) (by simp) ?_
                  have w76 := li1
                  exact w58L ((9 - 1 : Int).toNat) (1 : Int32) w49M ⟨by decide, by decide⟩ w49s w49I zFr.refl (by omega)
                · refine zs_icmp_ltF (pc := 2) t21_2 li1 rfl (by omega) ?_
                  refine zs_iload_n (pc := 5) t21_5 rfl ?_
                  refine zs_goto (pc := 6) t21_6 ?_
                  refine zs_iret (pc := 10) t21_10 mr21 (by decide) ?_
                  show zGo X l 1 0 0 190 20 [(0, .int w49v), (1, .int (zI M 17 7))] [.int (1 : Int32)] w49M _
                  refine zs_iret (pc := 20) t190_20 mr190 (by decide) ?_
                  show zGo X l 7 0 0 193 27 [(0, .ref 6), (1, .int a), (2, .int b), (3, .int c)] [.int (1 : Int32)] w49M _
                  refine zs_istore (pc := 27) t193_27 (ls' := [(4, .int (1 : Int32)), (0, .ref 6), (1, .int a), (2, .int b), (3, .int c)]) (zml mf193 (by decide)) rfl ?_
                  refine zs_iconst (pc := 29) t193_29 (v := 1) (by decide) ?_
                  refine zs_istore (pc := 30) t193_30 (ls' := [(5, .int (1 : Int32)), (4, .int (1 : Int32)), (0, .ref 6), (1, .int a), (2, .int b), (3, .int c)]) (zml mf193 (by decide)) rfl ?_
                  have w77L : ∀ (m : Nat) (w77x5 : Int32) (w77M : zM), (0 ≤ w77x5.toInt ∧ w77x5.toInt ≤ 9) → zSk zMc w77M → zIv cLo cHi w77M → zFr [(332, 334, none)] w49M w77M → 9 - w77x5.toInt ≤ (m : Int) → zGo X l 7 0 0 193 32 [(0, .ref 6), (1, .int a), (2, .int b), (3, .int c), (4, .int (1 : Int32)), (5, .int w77x5)] [] w77M Q := by
                    intro m
                    induction m using Nat.strongRecOn with
                    | ind w77m w77ih =>
                      intro w77x5 w77M w77b5 w77s w77I w77F w77q
                      refine zs_iload (pc := 32) t193_32 rfl ?_
                      refine zs_bipush (pc := 34) t193_34 (v := 8) (by decide) ?_
                      by_cases w78 : 8 < w77x5.toInt
                      · refine zs_icmp_gtT (pc := 36) t193_36 rfl li8 (by omega) ?_
                        refine zs_bipush (pc := 91) t193_91 (v := -2) (by decide) ?_
                        have w79 : (zI w77M 166 10).toInt = (zI w49M 166 10).toInt := (congrArg Int32.toInt ((w77F 166 10 rfl).trans rfl)).trans rfl
                        have w80 : (zI w77M 242 10).toInt = (zI M 242 10).toInt := (congrArg Int32.toInt ((w77F 242 10 rfl).trans ((w49F 242 10 rfl).trans rfl))).trans rfl
                        have w81 := lin2
                        exact zs_iret (pc := 93) t193_93 mr193 (by decide) (hQ _ _ w77s w77I (((zFr.refl).trans (w49F.mono rfl)).trans (w77F.mono rfl)) (by omega) (by omega) (by omega) (by omega) (zKnA.fr w49x0 (w77F 164 0 rfl) (fun j q => (w77F 164 j rfl)) (w77F 165 2 rfl) (zTf.eq (fun k j q1 q2 => (w77F k j (zoC (by omega) rfl))))) (zSp.fr w49x1 (fun j => (w77F 174 j rfl)) (w77F 166 10 rfl)) (zSp.fr w49x2 (fun j => (w77F 250 j rfl)) (w77F 242 10 rfl)))
                      · refine zs_icmp_gtF (pc := 36) t193_36 rfl li8 (by omega) ?_
                        refine zs_aload_n (pc := 39) t193_39 rfl ?_
                        refine zs_get (pc := 40) t193_40 (by decide) (zk1 (w77s.k fk_zMc_6)) (w77s.p rfl fv_zMc_6_8) ?_
                        refine zs_iload_n (pc := 43) t193_43 rfl ?_
                        refine zs_iload_n (pc := 44) t193_44 rfl ?_
                        refine zs_iload (pc := 45) t193_45 rfl ?_
                        refine zs_iload_n (pc := 47) t193_47 rfl ?_
                        refine zs_iload (pc := 48) t193_48 rfl ?_
                        refine zs_aload_n (pc := 50) t193_50 rfl ?_
                        refine zs_get (pc := 51) t193_51 (by decide) (zk1 (w77s.k fk_zMc_6)) (w77s.p rfl fv_zMc_6_0) ?_
                        refine zs_bipush (pc := 54) t193_54 (v := 8) (by decide) ?_
                        refine zs_invV (pc := 56) (k := 7) (as' := [.int (8 : Int32)]) (st := [.int (1 : Int32), .int c, .int w77x5, .int b, .int a, .ref 332]) t193_56 mf96 rfl rfl (Or.inl ⟨by decide, (zk1 (w77s.k fk_zMc_7))⟩) ⟨by decide, by decide, Nat.le_of_ble_eq_true rfl, Nat.le_of_ble_eq_true rfl⟩ (zs_in (by decide) mf96 (Nat.le_of_ble_eq_true rfl) ?_) (fun _ _ q => q)
                        show zGo X l 0 0 0 96 0 [(0, .ref 7), (1, .int (8 : Int32))] [] w77M _
                        refine zs_iload_n (pc := 0) t96_0 rfl ?_
                        refine zs_if_ltF (pc := 1) t96_1 li8 (by decide) ?_
                        refine zs_iload_n (pc := 4) t96_4 rfl ?_
                        refine zs_bipush (pc := 5) t96_5 (v := 9) (by decide) ?_
                        refine zs_icmp_geF (pc := 7) t96_7 li8 li9 (by decide) ?_
                        refine zs_aload_n (pc := 10) t96_10 rfl ?_
                        refine zs_get (pc := 11) t96_11 (by decide) (zk1 (w77s.k fk_zMc_7)) (w77s.p rfl fv_zMc_7_12) ?_
                        refine zs_iload_n (pc := 14) t96_14 rfl ?_
                        have w82 : (zI M 17 8).toInt = F 13 := x0.2.2.2.2.1 8 (by decide)
                        refine zs_iald (pc := 15) t96_15 (j := 8) (by decide) (zk1 (w77s.k fk_zMc_17)) li8 (zk2 (w77s.k fk_zMc_17) (by decide)) ((w77F 17 8 rfl).trans ((w49F 17 8 rfl).trans rfl)) ?_
                        refine zs_goto (pc := 16) t96_16 ?_
                        refine zs_iret (pc := 20) t96_20 mr96 rfl ?_
                        show zGo X l 7 0 0 193 59 [(0, .ref 6), (1, .int a), (2, .int b), (3, .int c), (4, .int (1 : Int32)), (5, .int w77x5)] [.int (zI M 17 8), .int (1 : Int32), .int c, .int w77x5, .int b, .int a, .ref 332] w77M _
                        refine zs_invV (pc := 59) (k := 332) (as' := [.int a, .int b, .int w77x5, .int c, .int (1 : Int32), .int (zI M 17 8)]) (st := []) t193_59 mf191 rfl rfl (Or.inl ⟨by decide, (zk1 (w77s.k fk_zMc_332))⟩) ⟨by decide, by decide, Nat.le_of_ble_eq_true rfl, Nat.le_of_ble_eq_true rfl⟩ (C191_332 w77s w77I ⟨by omega, by omega⟩ ?_) (fun _ _ q => q)
                        intro w83M w83s w83I w83F
                        show zGo X l 7 0 0 193 62 [(0, .ref 6), (1, .int a), (2, .int b), (3, .int c), (4, .int (1 : Int32)), (5, .int w77x5)] [] w83M _
                        refine zs_aload_n (pc := 62) t193_62 rfl ?_
                        refine zs_get (pc := 63) t193_63 (by decide) (zk1 (w83s.k fk_zMc_6)) (w83s.p rfl fv_zMc_6_8) ?_
                        have w84 := zrg (zI w83M 332 0)
                        refine zs_get (pc := 66) t193_66 (by decide) (zk1 (w83s.k fk_zMc_332)) (zfvi rfl rfl) ?_
                        by_cases w85 : (zI w83M 332 0).toInt ≠ 0
                        · refine zs_if_neT (pc := 69) t193_69 rfl (by omega) ?_
                          obtain ⟨w86v, w86e, w86⟩ := ziadd (a := w77x5) (b := Int32.ofInt 1) rfl (show (Int32.ofInt 1).toInt = 1 by decide) (by omega) (by omega)
                          refine zs_iinc (pc := 85) t193_85 (ls' := [(5, .int w86v), (0, .ref 6), (1, .int a), (2, .int b), (3, .int c), (4, .int (1 : Int32))]) (zml mf193 (by decide)) rfl (c := w86v) w86e rfl ?_
                          refine zs_goto (pc := 88) t193_88 ?_
                          refine zGo.locals (ls' := [(0, .ref 6), (1, .int a), (2, .int b), (3, .int c), (4, .int (1 : Int32)), (5, .int w86v)]) (by simp) ?_
                          have w87 := w86
                          exact w77ih (w77m - 1) (by omega) w86v w83M ⟨by omega, by omega⟩ w83s w83I (((zFr.refl).trans (w77F.mono rfl)).trans (w83F.mono rfl)) (by omega)
                        · refine zs_if_neF (pc := 69) t193_69 rfl (by omega) ?_
                          refine zs_aload_n (pc := 72) t193_72 rfl ?_
                          refine zs_get (pc := 73) t193_73 (by decide) (zk1 (w83s.k fk_zMc_6)) (w83s.p rfl fv_zMc_6_8) ?_
                          have w88 := zrg (zI w83M 332 1)
                          refine zs_get (pc := 76) t193_76 (by decide) (zk1 (w83s.k fk_zMc_332)) (zfvi rfl rfl) ?_
                          by_cases w89 : (zI w83M 332 1).toInt ≠ 0
                          · refine zs_if_neT (pc := 79) t193_79 rfl (by omega) ?_
                            obtain ⟨w90v, w90e, w90⟩ := ziadd (a := w77x5) (b := Int32.ofInt 1) rfl (show (Int32.ofInt 1).toInt = 1 by decide) (by omega) (by omega)
                            refine zs_iinc (pc := 85) t193_85 (ls' := [(5, .int w90v), (0, .ref 6), (1, .int a), (2, .int b), (3, .int c), (4, .int (1 : Int32))]) (zml mf193 (by decide)) rfl (c := w90v) w90e rfl ?_
                            refine zs_goto (pc := 88) t193_88 ?_
                            refine zGo.locals (ls' := [(0, .ref 6), (1, .int a), (2, .int b), (3, .int c), (4, .int (1 : Int32)), (5, .int w90v)]) (by simp) ?_
                            have w91 := w90
                            exact w77ih (w77m - 1) (by omega) w90v w83M ⟨by omega, by omega⟩ w83s w83I (((zFr.refl).trans (w77F.mono rfl)).trans (w83F.mono rfl)) (by omega)
                          · refine zs_if_neF (pc := 79) t193_79 rfl (by omega) ?_
                            refine zs_iload (pc := 82) t193_82 rfl ?_
                            have w92 : (zI w83M 166 10).toInt = (zI w49M 166 10).toInt := (congrArg Int32.toInt ((w83F 166 10 rfl).trans ((w77F 166 10 rfl).trans rfl))).trans rfl
                            have w93 : (zI w83M 242 10).toInt = (zI M 242 10).toInt := (congrArg Int32.toInt ((w83F 242 10 rfl).trans ((w77F 242 10 rfl).trans ((w49F 242 10 rfl).trans rfl)))).trans rfl
                            exact zs_iret (pc := 84) t193_84 mr193 rfl (hQ _ _ w83s w83I ((((zFr.refl).trans (w49F.mono rfl)).trans (w77F.mono rfl)).trans (w83F.mono rfl)) (by omega) (by omega) (by omega) (by omega) (zKnA.fr w49x0 ((w83F 164 0 rfl).trans (w77F 164 0 rfl)) (fun j q => ((w83F 164 j rfl).trans (w77F 164 j rfl))) ((w83F 165 2 rfl).trans (w77F 165 2 rfl)) (zTf.eq (fun k j q1 q2 => ((w83F k j (zoC (by omega) rfl)).trans (w77F k j (zoC (by omega) rfl)))))) (zSp.fr w49x1 (fun j => ((w83F 174 j rfl).trans (w77F 174 j rfl))) ((w83F 166 10 rfl).trans (w77F 166 10 rfl))) (zSp.fr w49x2 (fun j => ((w83F 250 j rfl).trans (w77F 250 j rfl))) ((w83F 242 10 rfl).trans (w77F 242 10 rfl))))
                  refine zGo.locals (ls' := [(0, .ref 6), (1, .int a), (2, .int b), (3, .int c), (4, .int (1 : Int32)), (5, .int (1 : Int32))]) (by simp) ?_
                  have w94 := li1
                  exact w77L ((9 - 1 : Int).toNat) (1 : Int32) w49M ⟨by decide, by decide⟩ w49s w49I zFr.refl (by omega)
              · refine zs_icmp_geF (pc := 2) t190_2 rfl li1 (by omega) ?_
                refine zs_iconst (pc := 5) t190_5 (v := 1) (by decide) ?_
                refine zs_goto (pc := 6) t190_6 ?_
                refine zs_iret (pc := 20) t190_20 mr190 (by decide) ?_
                show zGo X l 7 0 0 193 27 [(0, .ref 6), (1, .int a), (2, .int b), (3, .int c)] [.int (1 : Int32)] w49M _
                refine zs_istore (pc := 27) t193_27 (ls' := [(4, .int (1 : Int32)), (0, .ref 6), (1, .int a), (2, .int b), (3, .int c)]) (zml mf193 (by decide)) rfl ?_
                refine zs_iconst (pc := 29) t193_29 (v := 1) (by decide) ?_
                refine zs_istore (pc := 30) t193_30 (ls' := [(5, .int (1 : Int32)), (4, .int (1 : Int32)), (0, .ref 6), (1, .int a), (2, .int b), (3, .int c)]) (zml mf193 (by decide)) rfl ?_
                have w95L : ∀ (m : Nat) (w95x5 : Int32) (w95M : zM), (0 ≤ w95x5.toInt ∧ w95x5.toInt ≤ 9) → zSk zMc w95M → zIv cLo cHi w95M → zFr [(332, 334, none)] w49M w95M → 9 - w95x5.toInt ≤ (m : Int) → zGo X l 7 0 0 193 32 [(0, .ref 6), (1, .int a), (2, .int b), (3, .int c), (4, .int (1 : Int32)), (5, .int w95x5)] [] w95M Q := by
                  intro m
                  induction m using Nat.strongRecOn with
                  | ind w95m w95ih =>
                    intro w95x5 w95M w95b5 w95s w95I w95F w95q
                    refine zs_iload (pc := 32) t193_32 rfl ?_
                    refine zs_bipush (pc := 34) t193_34 (v := 8) (by decide) ?_
                    by_cases w96 : 8 < w95x5.toInt
                    · refine zs_icmp_gtT (pc := 36) t193_36 rfl li8 (by omega) ?_
                      refine zs_bipush (pc := 91) t193_91 (v := -2) (by decide) ?_
                      have w97 : (zI w95M 166 10).toInt = (zI w49M 166 10).toInt := (congrArg Int32.toInt ((w95F 166 10 rfl).trans rfl)).trans rfl
                      have w98 : (zI w95M 242 10).toInt = (zI M 242 10).toInt := (congrArg Int32.toInt ((w95F 242 10 rfl).trans ((w49F 242 10 rfl).trans rfl))).trans rfl
                      have w99 := lin2
                      exact zs_iret (pc := 93) t193_93 mr193 (by decide) (hQ _ _ w95s w95I (((zFr.refl).trans (w49F.mono rfl)).trans (w95F.mono rfl)) (by omega) (by omega) (by omega) (by omega) (zKnA.fr w49x0 (w95F 164 0 rfl) (fun j q => (w95F 164 j rfl)) (w95F 165 2 rfl) (zTf.eq (fun k j q1 q2 => (w95F k j (zoC (by omega) rfl))))) (zSp.fr w49x1 (fun j => (w95F 174 j rfl)) (w95F 166 10 rfl)) (zSp.fr w49x2 (fun j => (w95F 250 j rfl)) (w95F 242 10 rfl)))
                    · refine zs_icmp_gtF (pc := 36) t193_36 rfl li8 (by omega) ?_
                      refine zs_aload_n (pc := 39) t193_39 rfl ?_
                      refine zs_get (pc := 40) t193_40 (by decide) (zk1 (w95s.k fk_zMc_6)) (w95s.p rfl fv_zMc_6_8) ?_
                      refine zs_iload_n (pc := 43) t193_43 rfl ?_
                      refine zs_iload_n (pc := 44) t193_44 rfl ?_
                      refine zs_iload (pc := 45) t193_45 rfl ?_
                      refine zs_iload_n (pc := 47) t193_47 rfl ?_
                      refine zs_iload (pc := 48) t193_48 rfl ?_
                      refine zs_aload_n (pc := 50) t193_50 rfl ?_
                      refine zs_get (pc := 51) t193_51 (by decide) (zk1 (w95s.k fk_zMc_6)) (w95s.p rfl fv_zMc_6_0) ?_
                      refine zs_bipush (pc := 54) t193_54 (v := 8) (by decide) ?_
                      refine zs_invV (pc := 56) (k := 7) (as' := [.int (8 : Int32)]) (st := [.int (1 : Int32), .int c, .int w95x5, .int b, .int a, .ref 332]) t193_56 mf96 rfl rfl (Or.inl ⟨by decide, (zk1 (w95s.k fk_zMc_7))⟩) ⟨by decide, by decide, Nat.le_of_ble_eq_true rfl, Nat.le_of_ble_eq_true rfl⟩ (zs_in (by decide) mf96 (Nat.le_of_ble_eq_true rfl) ?_) (fun _ _ q => q)
                      show zGo X l 0 0 0 96 0 [(0, .ref 7), (1, .int (8 : Int32))] [] w95M _
                      refine zs_iload_n (pc := 0) t96_0 rfl ?_
                      refine zs_if_ltF (pc := 1) t96_1 li8 (by decide) ?_
                      refine zs_iload_n (pc := 4) t96_4 rfl ?_
                      refine zs_bipush (pc := 5) t96_5 (v := 9) (by decide) ?_
                      refine zs_icmp_geF (pc := 7) t96_7 li8 li9 (by decide) ?_
                      refine zs_aload_n (pc := 10) t96_10 rfl ?_
                      refine zs_get (pc := 11) t96_11 (by decide) (zk1 (w95s.k fk_zMc_7)) (w95s.p rfl fv_zMc_7_12) ?_
                      refine zs_iload_n (pc := 14) t96_14 rfl ?_
                      have w100 : (zI M 17 8).toInt = F 13 := x0.2.2.2.2.1 8 (by decide)
                      refine zs_iald (pc := 15) t96_15 (j := 8) (by decide) (zk1 (w95s.k fk_zMc_17)) li8 (zk2 (w95s.k fk_zMc_17) (by decide)) ((w95F 17 8 rfl).trans ((w49F 17 8 rfl).trans rfl)) ?_
                      refine zs_goto (pc := 16) t96_16 ?_
                      refine zs_iret (pc := 20) t96_20 mr96 rfl ?_
                      show zGo X l 7 0 0 193 59 [(0, .ref 6), (1, .int a), (2, .int b), (3, .int c), (4, .int (1 : Int32)), (5, .int w95x5)] [.int (zI M 17 8), .int (1 : Int32), .int c, .int w95x5, .int b, .int a, .ref 332] w95M _
                      refine zs_invV (pc := 59) (k := 332) (as' := [.int a, .int b, .int w95x5, .int c, .int (1 : Int32), .int (zI M 17 8)]) (st := []) t193_59 mf191 rfl rfl (Or.inl ⟨by decide, (zk1 (w95s.k fk_zMc_332))⟩) ⟨by decide, by decide, Nat.le_of_ble_eq_true rfl, Nat.le_of_ble_eq_true rfl⟩ (C191_332 w95s w95I ⟨by omega, by omega⟩ ?_) (fun _ _ q => q)
                      intro w101M w101s w101I w101F
                      show zGo X l 7 0 0 193 62 [(0, .ref 6), (1, .int a), (2, .int b), (3, .int c), (4, .int (1 : Int32)), (5, .int w95x5)] [] w101M _
                      refine zs_aload_n (pc := 62) t193_62 rfl ?_
                      refine zs_get (pc := 63) t193_63 (by decide) (zk1 (w101s.k fk_zMc_6)) (w101s.p rfl fv_zMc_6_8) ?_
                      have w102 := zrg (zI w101M 332 0)
                      refine zs_get (pc := 66) t193_66 (by decide) (zk1 (w101s.k fk_zMc_332)) (zfvi rfl rfl) ?_
                      by_cases w103 : (zI w101M 332 0).toInt ≠ 0
                      · refine zs_if_neT (pc := 69) t193_69 rfl (by omega) ?_
                        obtain ⟨w104v, w104e, w104⟩ := ziadd (a := w95x5) (b := Int32.ofInt 1) rfl (show (Int32.ofInt 1).toInt = 1 by decide) (by omega) (by omega)
                        refine zs_iinc (pc := 85) t193_85 (ls' := [(5, .int w104v), (0, .ref 6), (1, .int a), (2, .int b), (3, .int c), (4, .int (1 : Int32))]) (zml mf193 (by decide)) rfl (c := w104v) w104e rfl ?_
                        refine zs_goto (pc := 88) t193_88 ?_
                        refine zGo.locals (ls' := [(0, .ref 6), (1, .int a), (2, .int b), (3, .int c), (4, .int (1 : Int32)), (5, .int w104v)]) (by simp) ?_
                        have w105 := w104
                        exact w95ih (w95m - 1) (by omega) w104v w101M ⟨by omega, by omega⟩ w101s w101I (((zFr.refl).trans (w95F.mono rfl)).trans (w101F.mono rfl)) (by omega)
                      · refine zs_if_neF (pc := 69) t193_69 rfl (by omega) ?_
                        refine zs_aload_n (pc := 72) t193_72 rfl ?_
                        refine zs_get (pc := 73) t193_73 (by decide) (zk1 (w101s.k fk_zMc_6)) (w101s.p rfl fv_zMc_6_8) ?_
                        have w106 := zrg (zI w101M 332 1)
                        refine zs_get (pc := 76) t193_76 (by decide) (zk1 (w101s.k fk_zMc_332)) (zfvi rfl rfl) ?_
                        by_cases w107 : (zI w101M 332 1).toInt ≠ 0
                        · refine zs_if_neT (pc := 79) t193_79 rfl (by omega) ?_
                          obtain ⟨w108v, w108e, w108⟩ := ziadd (a := w95x5) (b := Int32.ofInt 1) rfl (show (Int32.ofInt 1).toInt = 1 by decide) (by omega) (by omega)
                          refine zs_iinc (pc := 85) t193_85 (ls' := [(5, .int w108v), (0, .ref 6), (1, .int a), (2, .int b), (3, .int c), (4, .int (1 : Int32))]) (zml mf193 (by decide)) rfl (c := w108v) w108e rfl ?_
                          refine zs_goto (pc := 88) t193_88 ?_
                          refine zGo.locals (ls' := [(0, .ref 6), (1, .int a), (2, .int b), (3, .int c), (4, .int (1 : Int32)), (5, .int w108v)]) (by simp) ?_
                          have w109 := w108
                          exact w95ih (w95m - 1) (by omega) w108v w101M ⟨by omega, by omega⟩ w101s w101I (((zFr.refl).trans (w95F.mono rfl)).trans (w101F.mono rfl)) (by omega)
                        · refine zs_if_neF (pc := 79) t193_79 rfl (by omega) ?_
                          refine zs_iload (pc := 82) t193_82 rfl ?_
                          have w110 : (zI w101M 166 10).toInt = (zI w49M 166 10).toInt := (congrArg Int32.toInt ((w101F 166 10 rfl).trans ((w95F 166 10 rfl).trans rfl))).trans rfl
                          have w111 : (zI w101M 242 10).toInt = (zI M 242 10).toInt := (congrArg Int32.toInt ((w101F 242 10 rfl).trans ((w95F 242 10 rfl).trans ((w49F 242 10 rfl).trans rfl)))).trans rfl
                          exact zs_iret (pc := 84) t193_84 mr193 rfl (hQ _ _ w101s w101I ((((zFr.refl).trans (w49F.mono rfl)).trans (w95F.mono rfl)).trans (w101F.mono rfl)) (by omega) (by omega) (by omega) (by omega) (zKnA.fr w49x0 ((w101F 164 0 rfl).trans (w95F 164 0 rfl)) (fun j q => ((w101F 164 j rfl).trans (w95F 164 j rfl))) ((w101F 165 2 rfl).trans (w95F 165 2 rfl)) (zTf.eq (fun k j q1 q2 => ((w101F k j (zoC (by omega) rfl)).trans (w95F k j (zoC (by omega) rfl)))))) (zSp.fr w49x1 (fun j => ((w101F 174 j rfl).trans (w95F 174 j rfl))) ((w101F 166 10 rfl).trans (w95F 166 10 rfl))) (zSp.fr w49x2 (fun j => ((w101F 250 j rfl).trans (w95F 250 j rfl))) ((w101F 242 10 rfl).trans (w95F 242 10 rfl))))
                refine zGo.locals (ls' := [(0, .ref 6), (1, .int a), (2, .int b), (3, .int c), (4, .int (1 : Int32)), (5, .int (1 : Int32))]) (by simp) ?_
                have w112 := li1
                exact w95L ((9 - 1 : Int).toNat) (1 : Int32) w49M ⟨by decide, by decide⟩ w49s w49I zFr.refl (by omega)
theorem P194 {X : zX} {l : Launch} {M : zM} {Q : Option Value → zM → Prop} {a : Int32} (hs : zSk zMc M) (hI : zIv cLo cHi M) {F : Nat → Int} (u0 : (zI M 166 10).toInt ≤ 1600000000) (u1 : 0 ≤ (zI M 166 10).toInt) (u2 : (zI M 242 10).toInt ≤ 1600000000) (u3 : 0 ≤ (zI M 242 10).toInt) (x0 : zSo M 7 F) (x1 : zWF F) (x2 : zKnA M F) (x3 : zSp M 166 174) (x4 : zSp M 242 250) (hQ : ∀ (M' : zM) (v : Int32), zSk zMc M' → zIv cLo cHi M' → zFr [(164, 165, none), (166, 178, none), (180, 180, none), (181, 240, none), (317, 324, none), (241, 254, none), (256, 316, none)] M M' → ((zI M' 166 10).toInt ≤ (zI M 166 10).toInt + 20000) → ((zI M 166 10).toInt ≤ (zI M' 166 10).toInt) → ((zI M' 242 10).toInt ≤ (zI M 242 10).toInt + 20000) → ((zI M 242 10).toInt ≤ (zI M' 242 10).toInt) → (zKnA M' F) → (zSp M' 166 174) → (zSp M' 242 250) → Q (some (.int v)) M') : zCall X l 6 0 0 194 [.ref 6, .int a] M Q := by
  have ga := zrg a
  refine zs_in (by decide) mf194 (Nat.le_of_ble_eq_true rfl) ?_
  show zGo X l 6 0 0 194 0 [(0, .ref 6), (1, .int a)] [] M _
  have f0 := x0.1
  have w1 := ib7_0 hI
  have w2 : (zI M 7 0).toInt = (zI M 7 0).toInt := (congrArg Int32.toInt rfl).trans rfl
  have w3 := ib7_3 hI
  have w4 : (zI M 7 3).toInt = (zI M 7 3).toInt := (congrArg Int32.toInt rfl).trans rfl
  have w5 := ib7_8 hI
  have w6 : (zI M 7 8).toInt = (zI M 7 8).toInt := (congrArg Int32.toInt rfl).trans rfl
  have f1 := x1.1
  have f3 := x1.2.2.2
  have f2 := (show (zI M 7 0).toInt = F 0 ∧ (zI M 7 3).toInt = F 1 ∧ (zI M 7 8).toInt = F 2 from ⟨x0.1.1, x0.1.2.1, x0.1.2.2.1⟩)
  refine zs_aload_n (pc := 0) t194_0 rfl ?_
  refine zs_get (pc := 1) t194_1 (by decide) (zk1 (hs.k fk_zMc_6)) (hs.p rfl fv_zMc_6_0) ?_
  refine zs_iload_n (pc := 4) t194_4 rfl ?_
  refine zs_invV (pc := 5) (k := 7) (as' := [.int a]) (st := []) t194_5 mf41 rfl rfl (Or.inl ⟨by decide, (zk1 (hs.k fk_zMc_7))⟩) ⟨by decide, by decide, Nat.le_of_ble_eq_true rfl, Nat.le_of_ble_eq_true rfl⟩ (zs_in (by decide) mf41 (Nat.le_of_ble_eq_true rfl) ?_) (fun _ _ q => q)
  show zGo X l 0 0 0 41 0 [(0, .ref 7), (1, .int a)] [] M _
  refine zs_iload_n (pc := 0) t41_0 rfl ?_
  by_cases w7 : a.toInt < 0
  · refine zs_if_ltT (pc := 1) t41_1 rfl (by omega) ?_
    refine zs_iconst (pc := 16) t41_16 (v := 0) (by decide) ?_
    refine zs_iret (pc := 17) t41_17 mr41 (by decide) ?_
    show zGo X l 6 0 0 194 8 [(0, .ref 6), (1, .int a)] [.int (0 : Int32)] M _
    refine zs_if_eqT (pc := 8) t194_8 li0 (by decide) ?_
    refine zs_ldc (pc := 33) t194_33 (v := -100000) rfl (by decide) ?_
    have w8 := zrg (zI M 166 10)
    have w9 : (zI M 166 10).toInt = (zI M 166 10).toInt := (congrArg Int32.toInt rfl).trans rfl
    have w10 := zrg (zI M 242 10)
    have w11 : (zI M 242 10).toInt = (zI M 242 10).toInt := (congrArg Int32.toInt rfl).trans rfl
    have w12 := lin100000
    exact zs_iret (pc := 35) t194_35 mr194 (by decide) (hQ _ _ hs hI (zFr.refl) (by omega) (by omega) (by omega) (by omega) x2 x3 x4)
  · refine zs_if_ltF (pc := 1) t41_1 rfl (by omega) ?_
    refine zs_iload_n (pc := 4) t41_4 rfl ?_
    refine zs_aload_n (pc := 5) t41_5 rfl ?_
    refine zs_get (pc := 6) t41_6 (by decide) (zk1 (hs.k fk_zMc_7)) (zfvi rfl rfl) ?_
    by_cases w13 : (zI M 7 0).toInt ≤ a.toInt
    · refine zs_icmp_geT (pc := 9) t41_9 rfl rfl (by omega) ?_
      refine zs_iconst (pc := 16) t41_16 (v := 0) (by decide) ?_
      refine zs_iret (pc := 17) t41_17 mr41 (by decide) ?_
      show zGo X l 6 0 0 194 8 [(0, .ref 6), (1, .int a)] [.int (0 : Int32)] M _
      refine zs_if_eqT (pc := 8) t194_8 li0 (by decide) ?_
      refine zs_ldc (pc := 33) t194_33 (v := -100000) rfl (by decide) ?_
      have w14 := zrg (zI M 166 10)
      have w15 : (zI M 166 10).toInt = (zI M 166 10).toInt := (congrArg Int32.toInt rfl).trans rfl
      have w16 := zrg (zI M 242 10)
      have w17 : (zI M 242 10).toInt = (zI M 242 10).toInt := (congrArg Int32.toInt rfl).trans rfl
      have w18 := lin100000
      exact zs_iret (pc := 35) t194_35 mr194 (by decide) (hQ _ _ hs hI (zFr.refl) (by omega) (by omega) (by omega) (by omega) x2 x3 x4)
    · refine zs_icmp_geF (pc := 9) t41_9 rfl rfl (by omega) ?_
      refine zs_iconst (pc := 12) t41_12 (v := 1) (by decide) ?_
      refine zs_goto (pc := 13) t41_13 ?_
      refine zs_iret (pc := 17) t41_17 mr41 (by decide) ?_
      show zGo X l 6 0 0 194 8 [(0, .ref 6), (1, .int a)] [.int (1 : Int32)] M _
      refine zs_if_eqF (pc := 8) t194_8 li1 (by decide) ?_
      refine zs_aload_n (pc := 11) t194_11 rfl ?_
      refine zs_get (pc := 12) t194_12 (by decide) (zk1 (hs.k fk_zMc_6)) (hs.p rfl fv_zMc_6_6) ?_
      refine zs_aload_n (pc := 15) t194_15 rfl ?_
      refine zs_get (pc := 16) t194_16 (by decide) (zk1 (hs.k fk_zMc_6)) (hs.p rfl fv_zMc_6_0) ?_
      have w19 := zrg (zI M 166 10)
      have w20 : (zI M 166 10).toInt = (zI M 166 10).toInt := (congrArg Int32.toInt rfl).trans rfl
      have w21 : (zI M 166 10).toInt = (zI M 166 10).toInt := (congrArg Int32.toInt rfl).trans rfl
      refine zs_invV (pc := 19) (k := 164) (as' := [.ref 7]) (st := []) t194_19 mf105 rfl rfl (Or.inl ⟨by decide, (zk1 (hs.k fk_zMc_164))⟩) ⟨by decide, by decide, Nat.le_of_ble_eq_true rfl, Nat.le_of_ble_eq_true rfl⟩ (V105 hs hI (by omega) (by omega) x0 x1 x2 x3 ?_) (fun _ _ q => q)
      intro w22M w22s w22I w22F w22t0 w22t1 w22x0 w22x1 w22x2
      have w23 := zrg (zI w22M 166 10)
      show zGo X l 6 0 0 194 22 [(0, .ref 6), (1, .int a)] [.ref 164] w22M _
      refine zs_aload_n (pc := 22) t194_22 rfl ?_
      refine zs_get (pc := 23) t194_23 (by decide) (zk1 (w22s.k fk_zMc_6)) (w22s.p rfl fv_zMc_6_0) ?_
      refine zs_iload_n (pc := 26) t194_26 rfl ?_
      have w24 := zrg (zI M 242 10)
      have w25 : (zI w22M 242 10).toInt = (zI M 242 10).toInt := (congrArg Int32.toInt ((w22F 242 10 rfl).trans rfl)).trans rfl
      have w26 : (zI w22M 242 10).toInt = (zI M 242 10).toInt := (congrArg Int32.toInt ((w22F 242 10 rfl).trans rfl)).trans rfl
      refine zs_invV (pc := 27) (k := 164) (as' := [.ref 7, .int a]) (st := []) t194_27 mf195 rfl rfl (Or.inl ⟨by decide, (zk1 (w22s.k fk_zMc_164))⟩) ⟨by decide, by decide, Nat.le_of_ble_eq_true rfl, Nat.le_of_ble_eq_true rfl⟩ (V195 w22s w22I (by omega) (by omega) (zSo.fr x0 (zFr.eq w22F rfl)) x1 w22x0 (zSp.fr x4 (fun j => (w22F 250 j rfl)) (w22F 242 10 rfl)) ?_) (fun _ _ q => q)
      intro w27M w27v w27s w27I w27F w27t0 w27t1 w27x0 w27x1
      have w27g := zrg w27v
      have w28 := zrg (zI w27M 242 10)
      show zGo X l 6 0 0 194 30 [(0, .ref 6), (1, .int a)] [.int w27v] w27M _
      refine zs_goto (pc := 30) t194_30 ?_
      have w29 : (zI w27M 166 10).toInt = (zI w22M 166 10).toInt := (congrArg Int32.toInt ((w27F 166 10 rfl).trans rfl)).trans rfl
      have w30 : (zI w27M 242 10).toInt = (zI w27M 242 10).toInt := (congrArg Int32.toInt rfl).trans rfl
      exact zs_iret (pc := 35) t194_35 mr194 rfl (hQ _ _ w27s w27I (((zFr.refl).trans (w22F.mono rfl)).trans (w27F.mono rfl)) (by omega) (by omega) (by omega) (by omega) (fun _ => w27x0) (zSp.fr w22x1 (fun j => (w27F 174 j rfl)) (w27F 166 10 rfl)) w27x1)
