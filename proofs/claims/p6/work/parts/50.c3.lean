theorem T207_6 {X : zX} {l : Launch} {M : zM} {Q : Option Value → zM → Prop} {a b : Int32} (hs : zSk zMc M) (hI : zIv cLo cHi M) (hQ : ∀ (M' : zM) (v : Int32), zSk zMc M' → zIv cLo cHi M' → zFr [(161, 334, none)] M M' → (-2147483648) ≤ v.toInt → v.toInt ≤ 2147483647 → Q (some (.int v)) M') : zCall X l 6 0 0 207 [.ref 6, .int a, .int b] M Q := by
  have ga := zrg a
  have gb := zrg b
  refine zs_in (by decide) mf207 (Nat.le_of_ble_eq_true rfl) ?_
  show zGo X l 6 0 0 207 0 [(0, .ref 6), (1, .int a), (2, .int b)] [] M _
  refine zs_iload_n (pc := 0) t207_0 rfl ?_
  refine zs_iconst (pc := 1) t207_1 (v := 0) (by decide) ?_
  refine zs_bipush (pc := 2) t207_2 (v := 19) (by decide) ?_
  refine zs_invS (pc := 4) (as := [.int a, .int (0 : Int32), .int (19 : Int32)]) (st := []) t207_4 (by decide) mf39 rfl rfl ⟨by decide, by decide, Nat.le_of_ble_eq_true rfl, Nat.le_of_ble_eq_true rfl⟩ (zs_in (by decide) mf39 (Nat.le_of_ble_eq_true rfl) ?_) (fun _ _ q => q)
  show zGo X l 0 0 0 39 0 [(0, .int a), (1, .int (0 : Int32)), (2, .int (19 : Int32))] [] M _
  refine zs_iload_n (pc := 0) t39_0 rfl ?_
  refine zs_iload_n (pc := 1) t39_1 rfl ?_
  by_cases w1 : a.toInt < 0
  · refine zs_icmp_ltT (pc := 2) t39_2 rfl li0 (by omega) ?_
    refine zs_iconst (pc := 14) t39_14 (v := 0) (by decide) ?_
    refine zs_iret (pc := 15) t39_15 mr39 (by decide) ?_
    show zGo X l 6 0 0 207 7 [(0, .ref 6), (1, .int a), (2, .int b)] [.int (0 : Int32)] M _
    refine zs_if_eqT (pc := 7) t207_7 li0 (by decide) ?_
    refine zs_ldc (pc := 19) t207_19 (v := -100000) rfl (by decide) ?_
    exact zs_iret (pc := 21) t207_21 mr207 (by decide) (hQ _ _ hs hI (zFr.refl) (zrg _).1 (zrg _).2)
  · refine zs_icmp_ltF (pc := 2) t39_2 rfl li0 (by omega) ?_
    refine zs_iload_n (pc := 5) t39_5 rfl ?_
    refine zs_iload_n (pc := 6) t39_6 rfl ?_
    by_cases w2 : 19 < a.toInt
    · refine zs_icmp_gtT (pc := 7) t39_7 rfl li19 (by omega) ?_
      refine zs_iconst (pc := 14) t39_14 (v := 0) (by decide) ?_
      refine zs_iret (pc := 15) t39_15 mr39 (by decide) ?_
      show zGo X l 6 0 0 207 7 [(0, .ref 6), (1, .int a), (2, .int b)] [.int (0 : Int32)] M _
      refine zs_if_eqT (pc := 7) t207_7 li0 (by decide) ?_
      refine zs_ldc (pc := 19) t207_19 (v := -100000) rfl (by decide) ?_
      exact zs_iret (pc := 21) t207_21 mr207 (by decide) (hQ _ _ hs hI (zFr.refl) (zrg _).1 (zrg _).2)
    · refine zs_icmp_gtF (pc := 7) t39_7 rfl li19 (by omega) ?_
      refine zs_iconst (pc := 10) t39_10 (v := 1) (by decide) ?_
      refine zs_goto (pc := 11) t39_11 ?_
      refine zs_iret (pc := 15) t39_15 mr39 (by decide) ?_
      show zGo X l 6 0 0 207 7 [(0, .ref 6), (1, .int a), (2, .int b)] [.int (1 : Int32)] M _
      refine zs_if_eqF (pc := 7) t207_7 li1 (by decide) ?_
      refine zs_iload_n (pc := 10) t207_10 rfl ?_
      refine zs_iconst (pc := 11) t207_11 (v := 0) (by decide) ?_
      refine zs_iconst (pc := 12) t207_12 (v := 3) (by decide) ?_
      refine zs_invS (pc := 13) (as := [.int b, .int (0 : Int32), .int (3 : Int32)]) (st := []) t207_13 (by decide) mf39 rfl rfl ⟨by decide, by decide, Nat.le_of_ble_eq_true rfl, Nat.le_of_ble_eq_true rfl⟩ (zs_in (by decide) mf39 (Nat.le_of_ble_eq_true rfl) ?_) (fun _ _ q => q)
      show zGo X l 0 0 0 39 0 [(0, .int b), (1, .int (0 : Int32)), (2, .int (3 : Int32))] [] M _
      refine zs_iload_n (pc := 0) t39_0 rfl ?_
      refine zs_iload_n (pc := 1) t39_1 rfl ?_
      by_cases w3 : b.toInt < 0
      · refine zs_icmp_ltT (pc := 2) t39_2 rfl li0 (by omega) ?_
        refine zs_iconst (pc := 14) t39_14 (v := 0) (by decide) ?_
        refine zs_iret (pc := 15) t39_15 mr39 (by decide) ?_
        show zGo X l 6 0 0 207 16 [(0, .ref 6), (1, .int a), (2, .int b)] [.int (0 : Int32)] M _
        refine zs_if_neF (pc := 16) t207_16 li0 (by decide) ?_
        refine zs_ldc (pc := 19) t207_19 (v := -100000) rfl (by decide) ?_
        exact zs_iret (pc := 21) t207_21 mr207 (by decide) (hQ _ _ hs hI (zFr.refl) (zrg _).1 (zrg _).2)
      · refine zs_icmp_ltF (pc := 2) t39_2 rfl li0 (by omega) ?_
        refine zs_iload_n (pc := 5) t39_5 rfl ?_
        refine zs_iload_n (pc := 6) t39_6 rfl ?_
        by_cases w4 : 3 < b.toInt
        · refine zs_icmp_gtT (pc := 7) t39_7 rfl li3 (by omega) ?_
          refine zs_iconst (pc := 14) t39_14 (v := 0) (by decide) ?_
          refine zs_iret (pc := 15) t39_15 mr39 (by decide) ?_
          show zGo X l 6 0 0 207 16 [(0, .ref 6), (1, .int a), (2, .int b)] [.int (0 : Int32)] M _
          refine zs_if_neF (pc := 16) t207_16 li0 (by decide) ?_
          refine zs_ldc (pc := 19) t207_19 (v := -100000) rfl (by decide) ?_
          exact zs_iret (pc := 21) t207_21 mr207 (by decide) (hQ _ _ hs hI (zFr.refl) (zrg _).1 (zrg _).2)
        · refine zs_icmp_gtF (pc := 7) t39_7 rfl li3 (by omega) ?_
          refine zs_iconst (pc := 10) t39_10 (v := 1) (by decide) ?_
          refine zs_goto (pc := 11) t39_11 ?_
          refine zs_iret (pc := 15) t39_15 mr39 (by decide) ?_
          show zGo X l 6 0 0 207 16 [(0, .ref 6), (1, .int a), (2, .int b)] [.int (1 : Int32)] M _
          refine zs_if_neT (pc := 16) t207_16 li1 (by decide) ?_
          refine zs_aload_n (pc := 22) t207_22 rfl ?_
          refine zs_get (pc := 23) t207_23 (by decide) (zk1 (hs.k fk_zMc_6)) (hs.p rfl fv_zMc_6_7) ?_
          refine zs_aload_n (pc := 26) t207_26 rfl ?_
          refine zs_get (pc := 27) t207_27 (by decide) (zk1 (hs.k fk_zMc_6)) (hs.p rfl fv_zMc_6_0) ?_
          refine zs_aload_n (pc := 30) t207_30 rfl ?_
          refine zs_get (pc := 31) t207_31 (by decide) (zk1 (hs.k fk_zMc_6)) (hs.p rfl fv_zMc_6_6) ?_
          refine zs_aload_n (pc := 34) t207_34 rfl ?_
          refine zs_get (pc := 35) t207_35 (by decide) (zk1 (hs.k fk_zMc_6)) (hs.p rfl fv_zMc_6_0) ?_
          refine zs_invV (pc := 38) (k := 164) (as' := [.ref 7]) (st := [.ref 7, .ref 325]) t207_38 mf105 rfl rfl (Or.inl ⟨by decide, (zk1 (hs.k fk_zMc_164))⟩) ⟨by decide, by decide, Nat.le_of_ble_eq_true rfl, Nat.le_of_ble_eq_true rfl⟩ (C105_164_7 hs hI ?_) (fun _ _ q => q)
          intro w5M w5s w5I w5F
          show zGo X l 6 0 0 207 41 [(0, .ref 6), (1, .int a), (2, .int b)] [.ref 164, .ref 7, .ref 325] w5M _
          refine zs_invV (pc := 41) (k := 325) (as' := [.ref 7, .ref 164]) (st := []) t207_41 mf153 rfl rfl (Or.inl ⟨by decide, (zk1 (w5s.k fk_zMc_325))⟩) ⟨by decide, by decide, Nat.le_of_ble_eq_true rfl, Nat.le_of_ble_eq_true rfl⟩ (C153_325_7_164 w5s w5I ?_) (fun _ _ q => q)
          intro w6M w6s w6I w6F
          show zGo X l 6 0 0 207 44 [(0, .ref 6), (1, .int a), (2, .int b)] [.ref 325] w6M _
          refine zs_iload_n (pc := 44) t207_44 rfl ?_
          refine zs_iload_n (pc := 45) t207_45 rfl ?_
          refine zs_invV (pc := 46) (k := 325) (as' := [.int a, .int b]) (st := []) t207_46 mf208 rfl rfl (Or.inl ⟨by decide, (zk1 (w6s.k fk_zMc_325))⟩) ⟨by decide, by decide, Nat.le_of_ble_eq_true rfl, Nat.le_of_ble_eq_true rfl⟩ (C208_325 w6s w6I ⟨by omega, by omega⟩ ?_) (fun _ _ q => q)
          intro w7v w7a w7b
          show zGo X l 6 0 0 207 49 [(0, .ref 6), (1, .int a), (2, .int b)] [.int w7v] w6M _
          exact zs_iret (pc := 49) t207_49 mr207 rfl (hQ _ _ w6s w6I (((zFr.refl).trans (w5F.mono rfl)).trans (w6F.mono rfl)) (zrg _).1 (zrg _).2)
theorem T210_6 {X : zX} {l : Launch} {M : zM} {Q : Option Value → zM → Prop} {a b : Int32} (hs : zSk zMc M) (hI : zIv cLo cHi M) (hQ : ∀ (M' : zM) (v : Int32), zSk zMc M' → zIv cLo cHi M' → zFr [(161, 334, none)] M M' → (-2147483648) ≤ v.toInt → v.toInt ≤ 2147483647 → Q (some (.int v)) M') : zCall X l 2 0 0 210 [.ref 6, .int a, .int b] M Q := by
  have ga := zrg a
  have gb := zrg b
  refine zs_in (by decide) mf210 (Nat.le_of_ble_eq_true rfl) ?_
  show zGo X l 2 0 0 210 0 [(0, .ref 6), (1, .int a), (2, .int b)] [] M _
  refine zs_iload_n (pc := 0) t210_0 rfl ?_
  refine zs_iconst (pc := 1) t210_1 (v := 1) (by decide) ?_
  refine zs_sipush (pc := 2) t210_2 (v := 1000) (by decide) ?_
  refine zs_invS (pc := 5) (as := [.int a, .int (1 : Int32), .int (1000 : Int32)]) (st := []) t210_5 (by decide) mf39 rfl rfl ⟨by decide, by decide, Nat.le_of_ble_eq_true rfl, Nat.le_of_ble_eq_true rfl⟩ (zs_in (by decide) mf39 (Nat.le_of_ble_eq_true rfl) ?_) (fun _ _ q => q)
  show zGo X l 0 0 0 39 0 [(0, .int a), (1, .int (1 : Int32)), (2, .int (1000 : Int32))] [] M _
  refine zs_iload_n (pc := 0) t39_0 rfl ?_
  refine zs_iload_n (pc := 1) t39_1 rfl ?_
  by_cases w1 : a.toInt < 1
  · refine zs_icmp_ltT (pc := 2) t39_2 rfl li1 (by omega) ?_
    refine zs_iconst (pc := 14) t39_14 (v := 0) (by decide) ?_
    refine zs_iret (pc := 15) t39_15 mr39 (by decide) ?_
    show zGo X l 2 0 0 210 8 [(0, .ref 6), (1, .int a), (2, .int b)] [.int (0 : Int32)] M _
    refine zs_if_eqT (pc := 8) t210_8 li0 (by decide) ?_
    refine zs_iconst (pc := 20) t210_20 (v := -1) (by decide) ?_
    exact zs_iret (pc := 21) t210_21 mr210 (by decide) (hQ _ _ hs hI (zFr.refl) (zrg _).1 (zrg _).2)
  · refine zs_icmp_ltF (pc := 2) t39_2 rfl li1 (by omega) ?_
    refine zs_iload_n (pc := 5) t39_5 rfl ?_
    refine zs_iload_n (pc := 6) t39_6 rfl ?_
    by_cases w2 : 1000 < a.toInt
    · refine zs_icmp_gtT (pc := 7) t39_7 rfl li1000 (by omega) ?_
      refine zs_iconst (pc := 14) t39_14 (v := 0) (by decide) ?_
      refine zs_iret (pc := 15) t39_15 mr39 (by decide) ?_
      show zGo X l 2 0 0 210 8 [(0, .ref 6), (1, .int a), (2, .int b)] [.int (0 : Int32)] M _
      refine zs_if_eqT (pc := 8) t210_8 li0 (by decide) ?_
      refine zs_iconst (pc := 20) t210_20 (v := -1) (by decide) ?_
      exact zs_iret (pc := 21) t210_21 mr210 (by decide) (hQ _ _ hs hI (zFr.refl) (zrg _).1 (zrg _).2)
    · refine zs_icmp_gtF (pc := 7) t39_7 rfl li1000 (by omega) ?_
      refine zs_iconst (pc := 10) t39_10 (v := 1) (by decide) ?_
      refine zs_goto (pc := 11) t39_11 ?_
      refine zs_iret (pc := 15) t39_15 mr39 (by decide) ?_
      show zGo X l 2 0 0 210 8 [(0, .ref 6), (1, .int a), (2, .int b)] [.int (1 : Int32)] M _
      refine zs_if_eqF (pc := 8) t210_8 li1 (by decide) ?_
      refine zs_iload_n (pc := 11) t210_11 rfl ?_
      refine zs_iconst (pc := 12) t210_12 (v := 0) (by decide) ?_
      refine zs_iconst (pc := 13) t210_13 (v := 1) (by decide) ?_
      refine zs_invS (pc := 14) (as := [.int b, .int (0 : Int32), .int (1 : Int32)]) (st := []) t210_14 (by decide) mf39 rfl rfl ⟨by decide, by decide, Nat.le_of_ble_eq_true rfl, Nat.le_of_ble_eq_true rfl⟩ (zs_in (by decide) mf39 (Nat.le_of_ble_eq_true rfl) ?_) (fun _ _ q => q)
      show zGo X l 0 0 0 39 0 [(0, .int b), (1, .int (0 : Int32)), (2, .int (1 : Int32))] [] M _
      refine zs_iload_n (pc := 0) t39_0 rfl ?_
      refine zs_iload_n (pc := 1) t39_1 rfl ?_
      by_cases w3 : b.toInt < 0
      · refine zs_icmp_ltT (pc := 2) t39_2 rfl li0 (by omega) ?_
        refine zs_iconst (pc := 14) t39_14 (v := 0) (by decide) ?_
        refine zs_iret (pc := 15) t39_15 mr39 (by decide) ?_
        show zGo X l 2 0 0 210 17 [(0, .ref 6), (1, .int a), (2, .int b)] [.int (0 : Int32)] M _
        refine zs_if_neF (pc := 17) t210_17 li0 (by decide) ?_
        refine zs_iconst (pc := 20) t210_20 (v := -1) (by decide) ?_
        exact zs_iret (pc := 21) t210_21 mr210 (by decide) (hQ _ _ hs hI (zFr.refl) (zrg _).1 (zrg _).2)
      · refine zs_icmp_ltF (pc := 2) t39_2 rfl li0 (by omega) ?_
        refine zs_iload_n (pc := 5) t39_5 rfl ?_
        refine zs_iload_n (pc := 6) t39_6 rfl ?_
        by_cases w4 : 1 < b.toInt
        · refine zs_icmp_gtT (pc := 7) t39_7 rfl li1 (by omega) ?_
          refine zs_iconst (pc := 14) t39_14 (v := 0) (by decide) ?_
          refine zs_iret (pc := 15) t39_15 mr39 (by decide) ?_
          show zGo X l 2 0 0 210 17 [(0, .ref 6), (1, .int a), (2, .int b)] [.int (0 : Int32)] M _
          refine zs_if_neF (pc := 17) t210_17 li0 (by decide) ?_
          refine zs_iconst (pc := 20) t210_20 (v := -1) (by decide) ?_
          exact zs_iret (pc := 21) t210_21 mr210 (by decide) (hQ _ _ hs hI (zFr.refl) (zrg _).1 (zrg _).2)
        · refine zs_icmp_gtF (pc := 7) t39_7 rfl li1 (by omega) ?_
          refine zs_iconst (pc := 10) t39_10 (v := 1) (by decide) ?_
          refine zs_goto (pc := 11) t39_11 ?_
          refine zs_iret (pc := 15) t39_15 mr39 (by decide) ?_
          show zGo X l 2 0 0 210 17 [(0, .ref 6), (1, .int a), (2, .int b)] [.int (1 : Int32)] M _
          refine zs_if_neT (pc := 17) t210_17 li1 (by decide) ?_
          refine zs_iconst (pc := 22) t210_22 (v := 0) (by decide) ?_
          refine zs_istore_n (pc := 23) t210_23 (ls' := [(3, .int (0 : Int32)), (0, .ref 6), (1, .int a), (2, .int b)]) (zml mf210 (by decide)) rfl ?_
          refine zs_aload_n (pc := 24) t210_24 rfl ?_
          refine zs_get (pc := 25) t210_25 (by decide) (zk1 (hs.k fk_zMc_6)) (hs.p rfl fv_zMc_6_0) ?_
          refine zs_iconst (pc := 28) t210_28 (v := 0) (by decide) ?_
          refine zs_iload_n (pc := 29) t210_29 rfl ?_
          refine zs_iconst (pc := 30) t210_30 (v := 1) (by decide) ?_
          obtain ⟨w5v, w5e, w5⟩ := zisub (a := a) (b := (1 : Int32)) rfl li1 (by omega) (by omega)
          refine zs_isub (pc := 31) t210_31 (c := w5v) w5e ?_
          refine zs_invV (pc := 32) (k := 7) (as' := [.int (0 : Int32), .int w5v]) (st := []) t210_32 mf211 rfl rfl (Or.inl ⟨by decide, (zk1 (hs.k fk_zMc_7))⟩) ⟨by decide, by decide, Nat.le_of_ble_eq_true rfl, Nat.le_of_ble_eq_true rfl⟩ (C211_7 hs hI ?_) (fun _ _ q => q)
          intro w6v w6a w6b
          show zGo X l 2 0 0 210 35 [(3, .int (0 : Int32)), (0, .ref 6), (1, .int a), (2, .int b)] [.int w6v] M _
          refine zs_istore (pc := 35) t210_35 (ls' := [(4, .int w6v), (3, .int (0 : Int32)), (0, .ref 6), (1, .int a), (2, .int b)]) (zml mf210 (by decide)) rfl ?_
          refine zs_iconst (pc := 37) t210_37 (v := 0) (by decide) ?_
          refine zs_istore (pc := 38) t210_38 (ls' := [(5, .int (0 : Int32)), (4, .int w6v), (3, .int (0 : Int32)), (0, .ref 6), (1, .int a), (2, .int b)]) (zml mf210 (by decide)) rfl ?_
          have w7L : ∀ (m : Nat) (w7x3 : Int32) (w7x4 : Int32) (w7x5 : Int32), (0 ≤ w7x5.toInt ∧ w7x5.toInt ≤ 60) → 60 - w7x5.toInt ≤ (m : Int) → zGo X l 2 0 0 210 40 [(0, .ref 6), (1, .int a), (2, .int b), (3, .int w7x3), (4, .int w7x4), (5, .int w7x5)] [] M Q := by
            intro m
            induction m using Nat.strongRecOn with
            | ind w7m w7ih =>
              intro w7x3 w7x4 w7x5 w7b5 w7q
              have w7g3 := zrg w7x3
              have w7g4 := zrg w7x4
              refine zs_iload (pc := 40) t210_40 rfl ?_
              refine zs_aload_n (pc := 42) t210_42 rfl ?_
              refine zs_get (pc := 43) t210_43 (by decide) (zk1 (hs.k fk_zMc_6)) (hs.p rfl fv_zMc_6_0) ?_
              have w8 := ib7_3 hI
              refine zs_get (pc := 46) t210_46 (by decide) (zk1 (hs.k fk_zMc_7)) (zfvi rfl rfl) ?_
              by_cases w9 : (zI M 7 3).toInt ≤ w7x5.toInt
              · refine zs_icmp_geT (pc := 49) t210_49 rfl rfl (by omega) ?_
                refine zs_iload_n (pc := 126) t210_126 rfl ?_
                by_cases w10 : b.toInt ≠ 0
                · refine zs_if_neT (pc := 127) t210_127 rfl (by omega) ?_
                  refine zs_iload (pc := 134) t210_134 rfl ?_
                  exact zs_iret (pc := 136) t210_136 mr210 rfl (hQ _ _ hs hI (zFr.refl) (zrg _).1 (zrg _).2)
                · refine zs_if_neF (pc := 127) t210_127 rfl (by omega) ?_
                  refine zs_iload_n (pc := 130) t210_130 rfl ?_
                  refine zs_goto (pc := 131) t210_131 ?_
                  exact zs_iret (pc := 136) t210_136 mr210 rfl (hQ _ _ hs hI (zFr.refl) (zrg _).1 (zrg _).2)
              · refine zs_icmp_geF (pc := 49) t210_49 rfl rfl (by omega) ?_
                refine zs_aload_n (pc := 52) t210_52 rfl ?_
                refine zs_get (pc := 53) t210_53 (by decide) (zk1 (hs.k fk_zMc_6)) (hs.p rfl fv_zMc_6_0) ?_
                refine zs_get (pc := 56) t210_56 (by decide) (zk1 (hs.k fk_zMc_7)) (hs.p rfl fv_zMc_7_6) ?_
                refine zs_iload (pc := 59) t210_59 rfl ?_
                obtain ⟨w11n, w11⟩ : ∃ n : Nat, w7x5.toInt = (n : Int) := ⟨w7x5.toInt.toNat, by omega⟩
                have w12 := ib12 hI w11n
                refine zs_iald (pc := 61) t210_61 (j := w11n) (by decide) (zk1 (hs.k fk_zMc_12)) w11 (zk2 (hs.k fk_zMc_12) (by omega)) rfl ?_
                refine zs_iload_n (pc := 62) t210_62 rfl ?_
                obtain ⟨w13v, w13⟩ : ∃ v, v = (zI M 12 w11n) - a := ⟨_, rfl⟩
                have w13g := zrg w13v
                refine zs_isub (pc := 63) t210_63 (c := w13v) w13.symm ?_
                refine zs_iconst (pc := 64) t210_64 (v := 1) (by decide) ?_
                obtain ⟨w14v, w14⟩ : ∃ v, v = w13v + (1 : Int32) := ⟨_, rfl⟩
                have w14g := zrg w14v
                refine zs_iadd (pc := 65) t210_65 (c := w14v) w14.symm ?_
                refine zs_istore (pc := 66) t210_66 (ls' := [(6, .int w14v), (0, .ref 6), (1, .int a), (2, .int b), (3, .int w7x3), (4, .int w7x4), (5, .int w7x5)]) (zml mf210 (by decide)) rfl ?_
                refine zs_iload (pc := 68) t210_68 rfl ?_
                by_cases w15 : 0 < w14v.toInt
                · refine zs_if_gtT (pc := 70) t210_70 rfl (by omega) ?_
                  refine zs_aload_n (pc := 76) t210_76 rfl ?_
                  refine zs_get (pc := 77) t210_77 (by decide) (zk1 (hs.k fk_zMc_6)) (hs.p rfl fv_zMc_6_0) ?_
                  refine zs_iload (pc := 80) t210_80 rfl ?_
                  refine zs_iload (pc := 82) t210_82 rfl ?_
                  refine zs_iload_n (pc := 84) t210_84 rfl ?_
                  obtain ⟨w16v, w16⟩ : ∃ v, v = w14v + a := ⟨_, rfl⟩
                  have w16g := zrg w16v
                  refine zs_iadd (pc := 85) t210_85 (c := w16v) w16.symm ?_
                  refine zs_iconst (pc := 86) t210_86 (v := 1) (by decide) ?_
                  obtain ⟨w17v, w17⟩ : ∃ v, v = w16v - (1 : Int32) := ⟨_, rfl⟩
                  have w17g := zrg w17v
                  refine zs_isub (pc := 87) t210_87 (c := w17v) w17.symm ?_
                  refine zs_invV (pc := 88) (k := 7) (as' := [.int w14v, .int w17v]) (st := []) t210_88 mf211 rfl rfl (Or.inl ⟨by decide, (zk1 (hs.k fk_zMc_7))⟩) ⟨by decide, by decide, Nat.le_of_ble_eq_true rfl, Nat.le_of_ble_eq_true rfl⟩ (C211_7 hs hI ?_) (fun _ _ q => q)
                  intro w18v w18a w18b
                  show zGo X l 2 0 0 210 91 [(6, .int w14v), (0, .ref 6), (1, .int a), (2, .int b), (3, .int w7x3), (4, .int w7x4), (5, .int w7x5)] [.int w18v] M _
                  refine zs_istore (pc := 91) t210_91 (ls' := [(7, .int w18v), (6, .int w14v), (0, .ref 6), (1, .int a), (2, .int b), (3, .int w7x3), (4, .int w7x4), (5, .int w7x5)]) (zml mf210 (by decide)) rfl ?_
                  refine zs_iload (pc := 93) t210_93 rfl ?_
                  refine zs_iload (pc := 95) t210_95 rfl ?_
                  by_cases w19 : w7x4.toInt < w18v.toInt
                  · refine zs_icmp_gtT (pc := 97) t210_97 rfl rfl (by omega) ?_
                    refine zs_iload (pc := 113) t210_113 rfl ?_
                    refine zs_istore (pc := 115) t210_115 (ls' := [(4, .int w18v), (7, .int w18v), (6, .int w14v), (0, .ref 6), (1, .int a), (2, .int b), (3, .int w7x3), (5, .int w7x5)]) (zml mf210 (by decide)) rfl ?_
                    refine zs_iload (pc := 117) t210_117 rfl ?_
                    refine zs_istore_n (pc := 119) t210_119 (ls' := [(3, .int w14v), (4, .int w18v), (7, .int w18v), (6, .int w14v), (0, .ref 6), (1, .int a), (2, .int b), (5, .int w7x5)]) (zml mf210 (by decide)) rfl ?_
                    obtain ⟨w20v, w20e, w20⟩ := ziadd (a := w7x5) (b := Int32.ofInt 1) rfl (show (Int32.ofInt 1).toInt = 1 by decide) (by omega) (by omega)
                    refine zs_iinc (pc := 120) t210_120 (ls' := [(5, .int w20v), (3, .int w14v), (4, .int w18v), (7, .int w18v), (6, .int w14v), (0, .ref 6), (1, .int a), (2, .int b)]) (zml mf210 (by decide)) rfl (c := w20v) w20e rfl ?_
                    refine zs_goto (pc := 123) t210_123 ?_
                    refine zGo.locals (ls' := [(0, .ref 6), (1, .int a), (2, .int b), (3, .int w14v), (4, .int w18v), (5, .int w20v)]) (by simp) ?_
                    exact w7ih (w7m - 1) (by omega) w14v w18v w20v ⟨by omega, by omega⟩ (by omega)
                  · refine zs_icmp_gtF (pc := 97) t210_97 rfl rfl (by omega) ?_
                    refine zs_iload (pc := 100) t210_100 rfl ?_
                    refine zs_iload (pc := 102) t210_102 rfl ?_
                    by_cases w21 : w18v.toInt ≠ w7x4.toInt
                    · refine zs_icmp_neT (pc := 104) t210_104 rfl rfl (by omega) ?_
                      obtain ⟨w22v, w22e, w22⟩ := ziadd (a := w7x5) (b := Int32.ofInt 1) rfl (show (Int32.ofInt 1).toInt = 1 by decide) (by omega) (by omega)
                      refine zs_iinc (pc := 120) t210_120 (ls' := [(5, .int w22v), (7, .int w18v), (6, .int w14v), (0, .ref 6), (1, .int a), (2, .int b), (3, .int w7x3), (4, .int w7x4)]) (zml mf210 (by decide)) rfl (c := w22v) w22e rfl ?_
                      refine zs_goto (pc := 123) t210_123 ?_
                      refine zGo.locals (ls' := [(0, .ref 6), (1, .int a), (2, .int b), (3, .int w7x3), (4, .int w7x4), (5, .int w22v)]) (by simp) ?_
                      exact w7ih (w7m - 1) (by omega) w7x3 w7x4 w22v ⟨by omega, by omega⟩ (by omega)
                    · refine zs_icmp_neF (pc := 104) t210_104 rfl rfl (by omega) ?_
                      refine zs_iload (pc := 107) t210_107 rfl ?_
                      refine zs_iload_n (pc := 109) t210_109 rfl ?_
                      by_cases w23 : w7x3.toInt ≤ w14v.toInt
                      · refine zs_icmp_geT (pc := 110) t210_110 rfl rfl (by omega) ?_
                        obtain ⟨w24v, w24e, w24⟩ := ziadd (a := w7x5) (b := Int32.ofInt 1) rfl (show (Int32.ofInt 1).toInt = 1 by decide) (by omega) (by omega)
                        refine zs_iinc (pc := 120) t210_120 (ls' := [(5, .int w24v), (7, .int w18v), (6, .int w14v), (0, .ref 6), (1, .int a), (2, .int b), (3, .int w7x3), (4, .int w7x4)]) (zml mf210 (by decide)) rfl (c := w24v) w24e rfl ?_
                        refine zs_goto (pc := 123) t210_123 ?_
                        refine zGo.locals (ls' := [(0, .ref 6), (1, .int a), (2, .int b), (3, .int w7x3), (4, .int w7x4), (5, .int w24v)]) (by simp) ?_
                        exact w7ih (w7m - 1) (by omega) w7x3 w7x4 w24v ⟨by omega, by omega⟩ (by omega)
                      · refine zs_icmp_geF (pc := 110) t210_110 rfl rfl (by omega) ?_
                        refine zs_iload (pc := 113) t210_113 rfl ?_
                        refine zs_istore (pc := 115) t210_115 (ls' := [(4, .int w18v), (7, .int w18v), (6, .int w14v), (0, .ref 6), (1, .int a), (2, .int b), (3, .int w7x3), (5, .int w7x5)]) (zml mf210 (by decide)) rfl ?_
                        refine zs_iload (pc := 117) t210_117 rfl ?_
                        refine zs_istore_n (pc := 119) t210_119 (ls' := [(3, .int w14v), (4, .int w18v), (7, .int w18v), (6, .int w14v), (0, .ref 6), (1, .int a), (2, .int b), (5, .int w7x5)]) (zml mf210 (by decide)) rfl ?_
                        obtain ⟨w25v, w25e, w25⟩ := ziadd (a := w7x5) (b := Int32.ofInt 1) rfl (show (Int32.ofInt 1).toInt = 1 by decide) (by omega) (by omega)
                        refine zs_iinc (pc := 120) t210_120 (ls' := [(5, .int w25v), (3, .int w14v), (4, .int w18v), (7, .int w18v), (6, .int w14v), (0, .ref 6), (1, .int a), (2, .int b)]) (zml mf210 (by decide)) rfl (c := w25v) w25e rfl ?_
                        refine zs_goto (pc := 123) t210_123 ?_
                        refine zGo.locals (ls' := [(0, .ref 6), (1, .int a), (2, .int b), (3, .int w14v), (4, .int w18v), (5, .int w25v)]) (by simp) ?_
                        exact w7ih (w7m - 1) (by omega) w14v w18v w25v ⟨by omega, by omega⟩ (by omega)
                · refine zs_if_gtF (pc := 70) t210_70 rfl (by omega) ?_
                  refine zs_goto (pc := 73) t210_73 ?_
                  obtain ⟨w26v, w26e, w26⟩ := ziadd (a := w7x5) (b := Int32.ofInt 1) rfl (show (Int32.ofInt 1).toInt = 1 by decide) (by omega) (by omega)
                  refine zs_iinc (pc := 120) t210_120 (ls' := [(5, .int w26v), (6, .int w14v), (0, .ref 6), (1, .int a), (2, .int b), (3, .int w7x3), (4, .int w7x4)]) (zml mf210 (by decide)) rfl (c := w26v) w26e rfl ?_
                  refine zs_goto (pc := 123) t210_123 ?_
                  refine zGo.locals (ls' := [(0, .ref 6), (1, .int a), (2, .int b), (3, .int w7x3), (4, .int w7x4), (5, .int w26v)]) (by simp) ?_
                  exact w7ih (w7m - 1) (by omega) w7x3 w7x4 w26v ⟨by omega, by omega⟩ (by omega)
          refine zGo.locals (ls' := [(0, .ref 6), (1, .int a), (2, .int b), (3, .int (0 : Int32)), (4, .int w6v), (5, .int (0 : Int32))]) (by simp) ?_
          have w27 := li0
          have w28 := li0
          exact w7L ((60 - 0 : Int).toNat) (0 : Int32) w6v (0 : Int32) ⟨by decide, by decide⟩ (by omega)
theorem T223_6 {X : zX} {l : Launch} {M : zM} {Q : Option Value → zM → Prop} {a : Int32} (hs : zSk zMc M) (hI : zIv cLo cHi M) (hQ : ∀ (M' : zM) (v : Int32), zSk zMc M' → zIv cLo cHi M' → zFr [(161, 334, none)] M M' → (-2147483648) ≤ v.toInt → v.toInt ≤ 2147483647 → Q (some (.int v)) M') : zCall X l 0 0 0 223 [.ref 6, .int a] M Q := by
  have ga := zrg a
  refine zs_in (by decide) mf223 (Nat.le_of_ble_eq_true rfl) ?_
  show zGo X l 0 0 0 223 0 [(0, .ref 6), (1, .int a)] [] M _
  refine zs_iload_n (pc := 0) t223_0 rfl ?_
  by_cases w1 : a.toInt < 0
  · refine zs_if_ltT (pc := 1) t223_1 rfl (by omega) ?_
    refine zs_iconst (pc := 12) t223_12 (v := -1) (by decide) ?_
    refine zs_goto (pc := 13) t223_13 ?_
    exact zs_iret (pc := 26) t223_26 mr223 (by decide) (hQ _ _ hs hI (zFr.refl) (zrg _).1 (zrg _).2)
  · refine zs_if_ltF (pc := 1) t223_1 rfl (by omega) ?_
    refine zs_iload_n (pc := 4) t223_4 rfl ?_
    refine zs_aload_n (pc := 5) t223_5 rfl ?_
    have w2 := ib6_10 hI
    refine zs_get (pc := 6) t223_6 (by decide) (zk1 (hs.k fk_zMc_6)) (zfvi rfl rfl) ?_
    by_cases w3 : a.toInt < (zI M 6 10).toInt
    · refine zs_icmp_ltT (pc := 9) t223_9 rfl rfl (by omega) ?_
      refine zs_aload_n (pc := 16) t223_16 rfl ?_
      refine zs_get (pc := 17) t223_17 (by decide) (zk1 (hs.k fk_zMc_6)) (hs.p rfl fv_zMc_6_9) ?_
      refine zs_iload_n (pc := 20) t223_20 rfl ?_
      obtain ⟨w4n, w4⟩ : ∃ n : Nat, a.toInt = (n : Int) := ⟨a.toInt.toNat, by omega⟩
      have w5 := ib335 hI w4n
      refine zs_bald (pc := 21) t223_21 (j := w4n) (Or.inl (zk1 (hs.k fk_zMc_335))) w4 (zk2 (hs.k fk_zMc_335) (by omega)) rfl ?_
      refine zs_sipush (pc := 22) t223_22 (v := 255) (by decide) ?_
      obtain ⟨w6v, w6⟩ : ∃ v, (zI M 335 w4n) &&& (255 : Int32) = v := ⟨_, rfl⟩
      have w6g : 0 ≤ w6v.toInt ∧ w6v.toInt ≤ 255 := by rw [← w6]; exact zand li255 (by decide)
      refine zs_iand (pc := 25) t223_25 (c := w6v) w6 ?_
      exact zs_iret (pc := 26) t223_26 mr223 rfl (hQ _ _ hs hI (zFr.refl) (zrg _).1 (zrg _).2)
    · refine zs_icmp_ltF (pc := 9) t223_9 rfl rfl (by omega) ?_
      refine zs_iconst (pc := 12) t223_12 (v := -1) (by decide) ?_
      refine zs_goto (pc := 13) t223_13 ?_
      exact zs_iret (pc := 26) t223_26 mr223 (by decide) (hQ _ _ hs hI (zFr.refl) (zrg _).1 (zrg _).2)
theorem T173_6 {X : zX} {l : Launch} {M : zM} {Q : Option Value → zM → Prop} {a b : Int32} (hs : zSk zMc M) (hI : zIv cLo cHi M) (hQ : ∀ (M' : zM) (v : Int64), zSk zMc M' → zIv cLo cHi M' → zFr [(161, 334, none)] M M' → (-9223372036854775808) ≤ v.toInt → v.toInt ≤ 9223372036854775807 → Q (some (.long v)) M') : zCall X l 6 0 0 173 [.ref 6, .int a, .int b] M Q := by
  have ga := zrg a
  have gb := zrg b
  refine zs_in (by decide) mf173 (Nat.le_of_ble_eq_true rfl) ?_
  show zGo X l 6 0 0 173 0 [(0, .ref 6), (1, .int a), (2, .int b)] [] M _
  refine zs_aload_n (pc := 0) t173_0 rfl ?_
  refine zs_get (pc := 1) t173_1 (by decide) (zk1 (hs.k fk_zMc_6)) (hs.p rfl fv_zMc_6_6) ?_
  refine zs_aload_n (pc := 4) t173_4 rfl ?_
  refine zs_get (pc := 5) t173_5 (by decide) (zk1 (hs.k fk_zMc_6)) (hs.p rfl fv_zMc_6_0) ?_
  refine zs_invV (pc := 8) (k := 164) (as' := [.ref 7]) (st := []) t173_8 mf105 rfl rfl (Or.inl ⟨by decide, (zk1 (hs.k fk_zMc_164))⟩) ⟨by decide, by decide, Nat.le_of_ble_eq_true rfl, Nat.le_of_ble_eq_true rfl⟩ (C105_164_7 hs hI ?_) (fun _ _ q => q)
  intro w1M w1s w1I w1F
  show zGo X l 6 0 0 173 11 [(0, .ref 6), (1, .int a), (2, .int b)] [.ref 164] w1M _
  refine zs_iload_n (pc := 11) t173_11 rfl ?_
  refine zs_invV (pc := 12) (k := 164) (as' := [.int a]) (st := []) t173_12 mf163 rfl rfl (Or.inl ⟨by decide, (zk1 (w1s.k fk_zMc_164))⟩) ⟨by decide, by decide, Nat.le_of_ble_eq_true rfl, Nat.le_of_ble_eq_true rfl⟩ (zs_in (by decide) mf163 (Nat.le_of_ble_eq_true rfl) ?_) (fun _ _ q => q)
  show zGo X l 1 0 0 163 0 [(0, .ref 164), (1, .int a)] [] w1M _
  refine zs_iload_n (pc := 0) t163_0 rfl ?_
  refine zs_aload_n (pc := 1) t163_1 rfl ?_
  have w2 := ib164_4 w1I
  refine zs_get (pc := 2) t163_2 (by decide) (zk1 (w1s.k fk_zMc_164)) (zfvi rfl rfl) ?_
  by_cases w3 : (zI w1M 164 4).toInt ≤ a.toInt
  · refine zs_icmp_geT (pc := 5) t163_5 rfl rfl (by omega) ?_
    refine zs_aconst_null (pc := 19) t163_19 ?_
    refine zs_aret0 (pc := 20) t163_20 (by rw [mr163]; rfl) ?_
    show zGo X l 6 0 0 173 15 [(0, .ref 6), (1, .int a), (2, .int b)] [.null] w1M _
    refine zs_astore_n0 (pc := 15) t173_15 (ls' := [(3, .null), (0, .ref 6), (1, .int a), (2, .int b)]) (zml mf173 (by decide)) rfl ?_
    refine zs_aload_n0 (pc := 16) t173_16 rfl ?_
    refine zs_ifnonnullF (pc := 17) t173_17 ?_
    refine zs_ldc2_w (pc := 20) t173_20 (v := -1000000000000) (by decide) ?_
    exact zs_lret (pc := 23) t173_23 mr173 (hQ _ _ w1s w1I ((zFr.refl).trans (w1F.mono rfl)) (zrg64 _).1 (zrg64 _).2)
  · refine zs_icmp_geF (pc := 5) t163_5 rfl rfl (by omega) ?_
    refine zs_aload_n (pc := 8) t163_8 rfl ?_
    refine zs_get (pc := 9) t163_9 (by decide) (zk1 (w1s.k fk_zMc_164)) (w1s.p rfl fv_zMc_164_1) ?_
    refine zs_iload_n (pc := 12) t163_12 rfl ?_
    refine zs_invV (pc := 13) (k := 165) (as' := [.int a]) (st := []) t163_13 mf126 rfl rfl (Or.inl ⟨by decide, (zk1 (w1s.k fk_zMc_165))⟩) ⟨by decide, by decide, Nat.le_of_ble_eq_true rfl, Nat.le_of_ble_eq_true rfl⟩ (zs_in (by decide) mf126 (Nat.le_of_ble_eq_true rfl) ?_) (fun _ _ q => q)
    show zGo X l 0 0 0 126 0 [(0, .ref 165), (1, .int a)] [] w1M _
    refine zs_iload_n (pc := 0) t126_0 rfl ?_
    by_cases w4 : a.toInt < 0
    · refine zs_if_ltT (pc := 1) t126_1 rfl (by omega) ?_
      refine zs_aconst_null (pc := 21) t126_21 ?_
      refine zs_aret0 (pc := 22) t126_22 (by rw [mr126]; rfl) ?_
      show zGo X l 1 0 0 163 16 [(0, .ref 164), (1, .int a)] [.null] w1M _
      refine zs_goto (pc := 16) t163_16 ?_
      refine zs_aret0 (pc := 20) t163_20 (by rw [mr163]; rfl) ?_
      show zGo X l 6 0 0 173 15 [(0, .ref 6), (1, .int a), (2, .int b)] [.null] w1M _
      refine zs_astore_n0 (pc := 15) t173_15 (ls' := [(3, .null), (0, .ref 6), (1, .int a), (2, .int b)]) (zml mf173 (by decide)) rfl ?_
      refine zs_aload_n0 (pc := 16) t173_16 rfl ?_
      refine zs_ifnonnullF (pc := 17) t173_17 ?_
      refine zs_ldc2_w (pc := 20) t173_20 (v := -1000000000000) (by decide) ?_
      exact zs_lret (pc := 23) t173_23 mr173 (hQ _ _ w1s w1I ((zFr.refl).trans (w1F.mono rfl)) (zrg64 _).1 (zrg64 _).2)
    · refine zs_if_ltF (pc := 1) t126_1 rfl (by omega) ?_
      refine zs_iload_n (pc := 4) t126_4 rfl ?_
      refine zs_aload_n (pc := 5) t126_5 rfl ?_
      have w5 := ib165_2 w1I
      refine zs_get (pc := 6) t126_6 (by decide) (zk1 (w1s.k fk_zMc_165)) (zfvi rfl rfl) ?_
      by_cases w6 : (zI w1M 165 2).toInt ≤ a.toInt
      · refine zs_icmp_geT (pc := 9) t126_9 rfl rfl (by omega) ?_
        refine zs_aconst_null (pc := 21) t126_21 ?_
        refine zs_aret0 (pc := 22) t126_22 (by rw [mr126]; rfl) ?_
        show zGo X l 1 0 0 163 16 [(0, .ref 164), (1, .int a)] [.null] w1M _
        refine zs_goto (pc := 16) t163_16 ?_
        refine zs_aret0 (pc := 20) t163_20 (by rw [mr163]; rfl) ?_
        show zGo X l 6 0 0 173 15 [(0, .ref 6), (1, .int a), (2, .int b)] [.null] w1M _
        refine zs_astore_n0 (pc := 15) t173_15 (ls' := [(3, .null), (0, .ref 6), (1, .int a), (2, .int b)]) (zml mf173 (by decide)) rfl ?_
        refine zs_aload_n0 (pc := 16) t173_16 rfl ?_
        refine zs_ifnonnullF (pc := 17) t173_17 ?_
        refine zs_ldc2_w (pc := 20) t173_20 (v := -1000000000000) (by decide) ?_
        exact zs_lret (pc := 23) t173_23 mr173 (hQ _ _ w1s w1I ((zFr.refl).trans (w1F.mono rfl)) (zrg64 _).1 (zrg64 _).2)
      · refine zs_icmp_geF (pc := 9) t126_9 rfl rfl (by omega) ?_
        refine zs_aload_n (pc := 12) t126_12 rfl ?_
        refine zs_get (pc := 13) t126_13 (by decide) (zk1 (w1s.k fk_zMc_165)) (w1s.p rfl fv_zMc_165_1) ?_
        refine zs_iload_n (pc := 16) t126_16 rfl ?_
        obtain ⟨w7n, w7⟩ : ∃ n : Nat, a.toInt = (n : Int) := ⟨a.toInt.toNat, by omega⟩
        have w8 : w7n < 20 := by omega
        refine zs_aald (pc := 17) t126_17 (j := w7n) (Or.inr (zk1 (w1s.k fk_zMc_179))) w7 (zk2 (w1s.k fk_zMc_179) (by omega)) (w1s.a (fpT181 w7n w8)) ?_
        refine zs_goto (pc := 18) t126_18 ?_
        refine zs_aret (pc := 22) t126_22 (by rw [mr126]; rfl) ?_
        show zGo X l 1 0 0 163 16 [(0, .ref 164), (1, .int a)] [.ref (181 + 3 * w7n)] w1M _
        refine zs_goto (pc := 16) t163_16 ?_
        refine zs_aret (pc := 20) t163_20 (by rw [mr163]; rfl) ?_
        show zGo X l 6 0 0 173 15 [(0, .ref 6), (1, .int a), (2, .int b)] [.ref (181 + 3 * w7n)] w1M _
        refine zs_astore_n (pc := 15) t173_15 (ls' := [(3, .ref (181 + 3 * w7n)), (0, .ref 6), (1, .int a), (2, .int b)]) (zml mf173 (by decide)) rfl ?_
        refine zs_aload_n (pc := 16) t173_16 rfl ?_
        refine zs_ifnonnullT (pc := 17) t173_17 ?_
        refine zs_iload_n (pc := 24) t173_24 rfl ?_
        by_cases w9 : b.toInt = 0
        · refine zs_tswI (pc := 25) t173_25 ((rfl : b.toInt = b.toInt).trans w9) (by decide) rfl (pc2 := 64) rfl ?_
          refine zs_aload_n (pc := 64) t173_64 rfl ?_
          refine zs_get (pc := 65) t173_65 (by decide) (zk1 (w1s.k (fT181_0 w7n w8))) (zfvj rfl) ?_
          refine zs_aload_n (pc := 68) t173_68 rfl ?_
          refine zs_get (pc := 69) t173_69 (by decide) (zk1 (w1s.k (fT181_0 w7n w8))) (zfvj rfl) ?_
          refine zs_invS (pc := 72) (as := [.long (zJ w1M (181 + 3 * w7n) 9), .long (zJ w1M (181 + 3 * w7n) 8)]) (st := []) t173_72 (by decide) mf174 rfl rfl ⟨by decide, by decide, Nat.le_of_ble_eq_true rfl, Nat.le_of_ble_eq_true rfl⟩ (C174 w1s w1I ?_) (fun _ _ q => q)
          intro w10v w10a w10b
          show zGo X l 6 0 0 173 75 [(3, .ref (181 + 3 * w7n)), (0, .ref 6), (1, .int a), (2, .int b)] [.long w10v] w1M _
          exact zs_lret (pc := 75) t173_75 mr173 (hQ _ _ w1s w1I ((zFr.refl).trans (w1F.mono rfl)) (zrg64 _).1 (zrg64 _).2)
        by_cases w11 : b.toInt = 1
        · refine zs_tswI (pc := 25) t173_25 ((rfl : b.toInt = b.toInt).trans w11) (by decide) rfl (pc2 := 76) rfl ?_
          refine zs_aload_n (pc := 76) t173_76 rfl ?_
          refine zs_get (pc := 77) t173_77 (by decide) (zk1 (w1s.k (fT181_0 w7n w8))) (zfvj rfl) ?_
          refine zs_aload_n (pc := 80) t173_80 rfl ?_
          refine zs_get (pc := 81) t173_81 (by decide) (zk1 (w1s.k (fT181_0 w7n w8))) (zfvj rfl) ?_
          refine zs_invS (pc := 84) (as := [.long (zJ w1M (181 + 3 * w7n) 9), .long (zJ w1M (181 + 3 * w7n) 8)]) (st := []) t173_84 (by decide) mf176 rfl rfl ⟨by decide, by decide, Nat.le_of_ble_eq_true rfl, Nat.le_of_ble_eq_true rfl⟩ (C176 w1s w1I ?_) (fun _ _ q => q)
          intro w12v w12a w12b
          show zGo X l 6 0 0 173 87 [(3, .ref (181 + 3 * w7n)), (0, .ref 6), (1, .int a), (2, .int b)] [.long w12v] w1M _
          exact zs_lret (pc := 87) t173_87 mr173 (hQ _ _ w1s w1I ((zFr.refl).trans (w1F.mono rfl)) (zrg64 _).1 (zrg64 _).2)
        by_cases w13 : b.toInt = 2
        · refine zs_tswI (pc := 25) t173_25 ((rfl : b.toInt = b.toInt).trans w13) (by decide) rfl (pc2 := 88) rfl ?_
          refine zs_aload_n (pc := 88) t173_88 rfl ?_
          refine zs_get (pc := 89) t173_89 (by decide) (zk1 (w1s.k (fT181_0 w7n w8))) (zfvj rfl) ?_
          refine zs_aload_n (pc := 92) t173_92 rfl ?_
          refine zs_get (pc := 93) t173_93 (by decide) (zk1 (w1s.k (fT181_0 w7n w8))) (zfvj rfl) ?_
          refine zs_invS (pc := 96) (as := [.long (zJ w1M (181 + 3 * w7n) 10), .long (zJ w1M (181 + 3 * w7n) 8)]) (st := []) t173_96 (by decide) mf174 rfl rfl ⟨by decide, by decide, Nat.le_of_ble_eq_true rfl, Nat.le_of_ble_eq_true rfl⟩ (C174 w1s w1I ?_) (fun _ _ q => q)
          intro w14v w14a w14b
          show zGo X l 6 0 0 173 99 [(3, .ref (181 + 3 * w7n)), (0, .ref 6), (1, .int a), (2, .int b)] [.long w14v] w1M _
          exact zs_lret (pc := 99) t173_99 mr173 (hQ _ _ w1s w1I ((zFr.refl).trans (w1F.mono rfl)) (zrg64 _).1 (zrg64 _).2)
        by_cases w15 : b.toInt = 3
        · refine zs_tswI (pc := 25) t173_25 ((rfl : b.toInt = b.toInt).trans w15) (by decide) rfl (pc2 := 100) rfl ?_
          refine zs_aload_n (pc := 100) t173_100 rfl ?_
          refine zs_get (pc := 101) t173_101 (by decide) (zk1 (w1s.k (fT181_0 w7n w8))) (zfvj rfl) ?_
          refine zs_aload_n (pc := 104) t173_104 rfl ?_
          refine zs_get (pc := 105) t173_105 (by decide) (zk1 (w1s.k (fT181_0 w7n w8))) (zfvj rfl) ?_
          refine zs_invS (pc := 108) (as := [.long (zJ w1M (181 + 3 * w7n) 10), .long (zJ w1M (181 + 3 * w7n) 8)]) (st := []) t173_108 (by decide) mf176 rfl rfl ⟨by decide, by decide, Nat.le_of_ble_eq_true rfl, Nat.le_of_ble_eq_true rfl⟩ (C176 w1s w1I ?_) (fun _ _ q => q)
          intro w16v w16a w16b
          show zGo X l 6 0 0 173 111 [(3, .ref (181 + 3 * w7n)), (0, .ref 6), (1, .int a), (2, .int b)] [.long w16v] w1M _
          exact zs_lret (pc := 111) t173_111 mr173 (hQ _ _ w1s w1I ((zFr.refl).trans (w1F.mono rfl)) (zrg64 _).1 (zrg64 _).2)
        by_cases w17 : b.toInt = 4
        · refine zs_tswI (pc := 25) t173_25 ((rfl : b.toInt = b.toInt).trans w17) (by decide) rfl (pc2 := 112) rfl ?_
          refine zs_aload_n (pc := 112) t173_112 rfl ?_
          refine zs_get (pc := 113) t173_113 (by decide) (zk1 (w1s.k (fT181_0 w7n w8))) (zfvj rfl) ?_
          refine zs_aload_n (pc := 116) t173_116 rfl ?_
          refine zs_get (pc := 117) t173_117 (by decide) (zk1 (w1s.k (fT181_0 w7n w8))) (zfvj rfl) ?_
          refine zs_invS (pc := 120) (as := [.long (zJ w1M (181 + 3 * w7n) 11), .long (zJ w1M (181 + 3 * w7n) 8)]) (st := []) t173_120 (by decide) mf174 rfl rfl ⟨by decide, by decide, Nat.le_of_ble_eq_true rfl, Nat.le_of_ble_eq_true rfl⟩ (C174 w1s w1I ?_) (fun _ _ q => q)
          intro w18v w18a w18b
          show zGo X l 6 0 0 173 123 [(3, .ref (181 + 3 * w7n)), (0, .ref 6), (1, .int a), (2, .int b)] [.long w18v] w1M _
          exact zs_lret (pc := 123) t173_123 mr173 (hQ _ _ w1s w1I ((zFr.refl).trans (w1F.mono rfl)) (zrg64 _).1 (zrg64 _).2)
        by_cases w19 : b.toInt = 5
        · refine zs_tswI (pc := 25) t173_25 ((rfl : b.toInt = b.toInt).trans w19) (by decide) rfl (pc2 := 124) rfl ?_
          refine zs_aload_n (pc := 124) t173_124 rfl ?_
          refine zs_get (pc := 125) t173_125 (by decide) (zk1 (w1s.k (fT181_0 w7n w8))) (zfvj rfl) ?_
          refine zs_aload_n (pc := 128) t173_128 rfl ?_
          refine zs_get (pc := 129) t173_129 (by decide) (zk1 (w1s.k (fT181_0 w7n w8))) (zfvj rfl) ?_
          refine zs_invS (pc := 132) (as := [.long (zJ w1M (181 + 3 * w7n) 11), .long (zJ w1M (181 + 3 * w7n) 8)]) (st := []) t173_132 (by decide) mf176 rfl rfl ⟨by decide, by decide, Nat.le_of_ble_eq_true rfl, Nat.le_of_ble_eq_true rfl⟩ (C176 w1s w1I ?_) (fun _ _ q => q)
          intro w20v w20a w20b
          show zGo X l 6 0 0 173 135 [(3, .ref (181 + 3 * w7n)), (0, .ref 6), (1, .int a), (2, .int b)] [.long w20v] w1M _
          exact zs_lret (pc := 135) t173_135 mr173 (hQ _ _ w1s w1I ((zFr.refl).trans (w1F.mono rfl)) (zrg64 _).1 (zrg64 _).2)
        refine zs_tswD (pc := 25) t173_25 rfl (by omega) (pc2 := 136) rfl ?_
        refine zs_ldc2_w (pc := 136) t173_136 (v := -1000000000000) (by decide) ?_
        exact zs_lret (pc := 139) t173_139 mr173 (hQ _ _ w1s w1I ((zFr.refl).trans (w1F.mono rfl)) (zrg64 _).1 (zrg64 _).2)
theorem T200_6 {X : zX} {l : Launch} {M : zM} {Q : Option Value → zM → Prop} {a b c : Int32} (hs : zSk zMc M) (hI : zIv cLo cHi M) (hQ : ∀ (M' : zM) (v : Int64), zSk zMc M' → zIv cLo cHi M' → zFr [(161, 334, none)] M M' → (-9223372036854775808) ≤ v.toInt → v.toInt ≤ 9223372036854775807 → Q (some (.long v)) M') : zCall X l 6 0 0 200 [.ref 6, .int a, .int b, .int c] M Q := by
  have ga := zrg a
  have gb := zrg b
  have gc := zrg c
  refine zs_in (by decide) mf200 (Nat.le_of_ble_eq_true rfl) ?_
  show zGo X l 6 0 0 200 0 [(0, .ref 6), (1, .int a), (2, .int b), (3, .int c)] [] M _
  refine zs_aload_n (pc := 0) t200_0 rfl ?_
  refine zs_get (pc := 1) t200_1 (by decide) (zk1 (hs.k fk_zMc_6)) (hs.p rfl fv_zMc_6_6) ?_
  refine zs_aload_n (pc := 4) t200_4 rfl ?_
  refine zs_get (pc := 5) t200_5 (by decide) (zk1 (hs.k fk_zMc_6)) (hs.p rfl fv_zMc_6_0) ?_
  refine zs_invV (pc := 8) (k := 164) (as' := [.ref 7]) (st := []) t200_8 mf105 rfl rfl (Or.inl ⟨by decide, (zk1 (hs.k fk_zMc_164))⟩) ⟨by decide, by decide, Nat.le_of_ble_eq_true rfl, Nat.le_of_ble_eq_true rfl⟩ (C105_164_7 hs hI ?_) (fun _ _ q => q)
  intro w1M w1s w1I w1F
  show zGo X l 6 0 0 200 11 [(0, .ref 6), (1, .int a), (2, .int b), (3, .int c)] [.ref 164] w1M _
  refine zs_iload_n (pc := 11) t200_11 rfl ?_
  refine zs_invV (pc := 12) (k := 164) (as' := [.int a]) (st := []) t200_12 mf163 rfl rfl (Or.inl ⟨by decide, (zk1 (w1s.k fk_zMc_164))⟩) ⟨by decide, by decide, Nat.le_of_ble_eq_true rfl, Nat.le_of_ble_eq_true rfl⟩ (zs_in (by decide) mf163 (Nat.le_of_ble_eq_true rfl) ?_) (fun _ _ q => q)
  show zGo X l 1 0 0 163 0 [(0, .ref 164), (1, .int a)] [] w1M _
  refine zs_iload_n (pc := 0) t163_0 rfl ?_
  refine zs_aload_n (pc := 1) t163_1 rfl ?_
  have w2 := ib164_4 w1I
  refine zs_get (pc := 2) t163_2 (by decide) (zk1 (w1s.k fk_zMc_164)) (zfvi rfl rfl) ?_
  by_cases w3 : (zI w1M 164 4).toInt ≤ a.toInt
  · refine zs_icmp_geT (pc := 5) t163_5 rfl rfl (by omega) ?_
    refine zs_aconst_null (pc := 19) t163_19 ?_
    refine zs_aret0 (pc := 20) t163_20 (by rw [mr163]; rfl) ?_
    show zGo X l 6 0 0 200 15 [(0, .ref 6), (1, .int a), (2, .int b), (3, .int c)] [.null] w1M _
    refine zs_astore0 (pc := 15) t200_15 (ls' := [(4, .null), (0, .ref 6), (1, .int a), (2, .int b), (3, .int c)]) (zml mf200 (by decide)) rfl ?_
    refine zs_aload_n (pc := 17) t200_17 rfl ?_
    refine zs_get (pc := 18) t200_18 (by decide) (zk1 (w1s.k fk_zMc_6)) (w1s.p rfl fv_zMc_6_6) ?_
    refine zs_iload_n (pc := 21) t200_21 rfl ?_
    refine zs_invV (pc := 22) (k := 164) (as' := [.int b]) (st := []) t200_22 mf163 rfl rfl (Or.inl ⟨by decide, (zk1 (w1s.k fk_zMc_164))⟩) ⟨by decide, by decide, Nat.le_of_ble_eq_true rfl, Nat.le_of_ble_eq_true rfl⟩ (zs_in (by decide) mf163 (Nat.le_of_ble_eq_true rfl) ?_) (fun _ _ q => q)
    show zGo X l 1 0 0 163 0 [(0, .ref 164), (1, .int b)] [] w1M _
    refine zs_iload_n (pc := 0) t163_0 rfl ?_
    refine zs_aload_n (pc := 1) t163_1 rfl ?_
    refine zs_get (pc := 2) t163_2 (by decide) (zk1 (w1s.k fk_zMc_164)) (zfvi rfl rfl) ?_
    by_cases w4 : (zI w1M 164 4).toInt ≤ b.toInt
    · refine zs_icmp_geT (pc := 5) t163_5 rfl rfl (by omega) ?_
      refine zs_aconst_null (pc := 19) t163_19 ?_
      refine zs_aret0 (pc := 20) t163_20 (by rw [mr163]; rfl) ?_
      show zGo X l 6 0 0 200 25 [(4, .null), (0, .ref 6), (1, .int a), (2, .int b), (3, .int c)] [.null] w1M _
      refine zs_astore0 (pc := 25) t200_25 (ls' := [(5, .null), (4, .null), (0, .ref 6), (1, .int a), (2, .int b), (3, .int c)]) (zml mf200 (by decide)) rfl ?_
      refine zs_aload0 (pc := 27) t200_27 rfl ?_
      refine zs_ifnullT (pc := 29) t200_29 ?_
      refine zs_ldc2_w (pc := 51) t200_51 (v := -1000000000000) (by decide) ?_
      exact zs_lret (pc := 54) t200_54 mr200 (hQ _ _ w1s w1I ((zFr.refl).trans (w1F.mono rfl)) (zrg64 _).1 (zrg64 _).2)
    · refine zs_icmp_geF (pc := 5) t163_5 rfl rfl (by omega) ?_
      refine zs_aload_n (pc := 8) t163_8 rfl ?_
      refine zs_get (pc := 9) t163_9 (by decide) (zk1 (w1s.k fk_zMc_164)) (w1s.p rfl fv_zMc_164_1) ?_
      refine zs_iload_n (pc := 12) t163_12 rfl ?_
      refine zs_invV (pc := 13) (k := 165) (as' := [.int b]) (st := []) t163_13 mf126 rfl rfl (Or.inl ⟨by decide, (zk1 (w1s.k fk_zMc_165))⟩) ⟨by decide, by decide, Nat.le_of_ble_eq_true rfl, Nat.le_of_ble_eq_true rfl⟩ (zs_in (by decide) mf126 (Nat.le_of_ble_eq_true rfl) ?_) (fun _ _ q => q)
      show zGo X l 0 0 0 126 0 [(0, .ref 165), (1, .int b)] [] w1M _
      refine zs_iload_n (pc := 0) t126_0 rfl ?_
      by_cases w5 : b.toInt < 0
      · refine zs_if_ltT (pc := 1) t126_1 rfl (by omega) ?_
        refine zs_aconst_null (pc := 21) t126_21 ?_
        refine zs_aret0 (pc := 22) t126_22 (by rw [mr126]; rfl) ?_
        show zGo X l 1 0 0 163 16 [(0, .ref 164), (1, .int b)] [.null] w1M _
        refine zs_goto (pc := 16) t163_16 ?_
        refine zs_aret0 (pc := 20) t163_20 (by rw [mr163]; rfl) ?_
        show zGo X l 6 0 0 200 25 [(4, .null), (0, .ref 6), (1, .int a), (2, .int b), (3, .int c)] [.null] w1M _
        refine zs_astore0 (pc := 25) t200_25 (ls' := [(5, .null), (4, .null), (0, .ref 6), (1, .int a), (2, .int b), (3, .int c)]) (zml mf200 (by decide)) rfl ?_
        refine zs_aload0 (pc := 27) t200_27 rfl ?_
        refine zs_ifnullT (pc := 29) t200_29 ?_
        refine zs_ldc2_w (pc := 51) t200_51 (v := -1000000000000) (by decide) ?_
        exact zs_lret (pc := 54) t200_54 mr200 (hQ _ _ w1s w1I ((zFr.refl).trans (w1F.mono rfl)) (zrg64 _).1 (zrg64 _).2)
      · refine zs_if_ltF (pc := 1) t126_1 rfl (by omega) ?_
        refine zs_iload_n (pc := 4) t126_4 rfl ?_
        refine zs_aload_n (pc := 5) t126_5 rfl ?_
        have w6 := ib165_2 w1I
        refine zs_get (pc := 6) t126_6 (by decide) (zk1 (w1s.k fk_zMc_165)) (zfvi rfl rfl) ?_
        by_cases w7 : (zI w1M 165 2).toInt ≤ b.toInt
        · refine zs_icmp_geT (pc := 9) t126_9 rfl rfl (by omega) ?_
          refine zs_aconst_null (pc := 21) t126_21 ?_
          refine zs_aret0 (pc := 22) t126_22 (by rw [mr126]; rfl) ?_
          show zGo X l 1 0 0 163 16 [(0, .ref 164), (1, .int b)] [.null] w1M _
          refine zs_goto (pc := 16) t163_16 ?_
          refine zs_aret0 (pc := 20) t163_20 (by rw [mr163]; rfl) ?_
          show zGo X l 6 0 0 200 25 [(4, .null), (0, .ref 6), (1, .int a), (2, .int b), (3, .int c)] [.null] w1M _
          refine zs_astore0 (pc := 25) t200_25 (ls' := [(5, .null), (4, .null), (0, .ref 6), (1, .int a), (2, .int b), (3, .int c)]) (zml mf200 (by decide)) rfl ?_
          refine zs_aload0 (pc := 27) t200_27 rfl ?_
          refine zs_ifnullT (pc := 29) t200_29 ?_
          refine zs_ldc2_w (pc := 51) t200_51 (v := -1000000000000) (by decide) ?_
          exact zs_lret (pc := 54) t200_54 mr200 (hQ _ _ w1s w1I ((zFr.refl).trans (w1F.mono rfl)) (zrg64 _).1 (zrg64 _).2)
        · refine zs_icmp_geF (pc := 9) t126_9 rfl rfl (by omega) ?_
          refine zs_aload_n (pc := 12) t126_12 rfl ?_
          refine zs_get (pc := 13) t126_13 (by decide) (zk1 (w1s.k fk_zMc_165)) (w1s.p rfl fv_zMc_165_1) ?_
          refine zs_iload_n (pc := 16) t126_16 rfl ?_
          obtain ⟨w8n, w8⟩ : ∃ n : Nat, b.toInt = (n : Int) := ⟨b.toInt.toNat, by omega⟩
          have w9 : w8n < 20 := by omega
          refine zs_aald (pc := 17) t126_17 (j := w8n) (Or.inr (zk1 (w1s.k fk_zMc_179))) w8 (zk2 (w1s.k fk_zMc_179) (by omega)) (w1s.a (fpT181 w8n w9)) ?_
          refine zs_goto (pc := 18) t126_18 ?_
          refine zs_aret (pc := 22) t126_22 (by rw [mr126]; rfl) ?_
          show zGo X l 1 0 0 163 16 [(0, .ref 164), (1, .int b)] [.ref (181 + 3 * w8n)] w1M _
          refine zs_goto (pc := 16) t163_16 ?_
          refine zs_aret (pc := 20) t163_20 (by rw [mr163]; rfl) ?_
          show zGo X l 6 0 0 200 25 [(4, .null), (0, .ref 6), (1, .int a), (2, .int b), (3, .int c)] [.ref (181 + 3 * w8n)] w1M _
          refine zs_astore (pc := 25) t200_25 (ls' := [(5, .ref (181 + 3 * w8n)), (4, .null), (0, .ref 6), (1, .int a), (2, .int b), (3, .int c)]) (zml mf200 (by decide)) rfl ?_
          refine zs_aload0 (pc := 27) t200_27 rfl ?_
          refine zs_ifnullT (pc := 29) t200_29 ?_
          refine zs_ldc2_w (pc := 51) t200_51 (v := -1000000000000) (by decide) ?_
          exact zs_lret (pc := 54) t200_54 mr200 (hQ _ _ w1s w1I ((zFr.refl).trans (w1F.mono rfl)) (zrg64 _).1 (zrg64 _).2)
  · refine zs_icmp_geF (pc := 5) t163_5 rfl rfl (by omega) ?_
    refine zs_aload_n (pc := 8) t163_8 rfl ?_
    refine zs_get (pc := 9) t163_9 (by decide) (zk1 (w1s.k fk_zMc_164)) (w1s.p rfl fv_zMc_164_1) ?_
    refine zs_iload_n (pc := 12) t163_12 rfl ?_
    refine zs_invV (pc := 13) (k := 165) (as' := [.int a]) (st := []) t163_13 mf126 rfl rfl (Or.inl ⟨by decide, (zk1 (w1s.k fk_zMc_165))⟩) ⟨by decide, by decide, Nat.le_of_ble_eq_true rfl, Nat.le_of_ble_eq_true rfl⟩ (zs_in (by decide) mf126 (Nat.le_of_ble_eq_true rfl) ?_) (fun _ _ q => q)
    show zGo X l 0 0 0 126 0 [(0, .ref 165), (1, .int a)] [] w1M _
    refine zs_iload_n (pc := 0) t126_0 rfl ?_
    by_cases w10 : a.toInt < 0
    · refine zs_if_ltT (pc := 1) t126_1 rfl (by omega) ?_
      refine zs_aconst_null (pc := 21) t126_21 ?_
      refine zs_aret0 (pc := 22) t126_22 (by rw [mr126]; rfl) ?_
      show zGo X l 1 0 0 163 16 [(0, .ref 164), (1, .int a)] [.null] w1M _
      refine zs_goto (pc := 16) t163_16 ?_
      refine zs_aret0 (pc := 20) t163_20 (by rw [mr163]; rfl) ?_
      show zGo X l 6 0 0 200 15 [(0, .ref 6), (1, .int a), (2, .int b), (3, .int c)] [.null] w1M _
      refine zs_astore0 (pc := 15) t200_15 (ls' := [(4, .null), (0, .ref 6), (1, .int a), (2, .int b), (3, .int c)]) (zml mf200 (by decide)) rfl ?_
      refine zs_aload_n (pc := 17) t200_17 rfl ?_
      refine zs_get (pc := 18) t200_18 (by decide) (zk1 (w1s.k fk_zMc_6)) (w1s.p rfl fv_zMc_6_6) ?_
      refine zs_iload_n (pc := 21) t200_21 rfl ?_
      refine zs_invV (pc := 22) (k := 164) (as' := [.int b]) (st := []) t200_22 mf163 rfl rfl (Or.inl ⟨by decide, (zk1 (w1s.k fk_zMc_164))⟩) ⟨by decide, by decide, Nat.le_of_ble_eq_true rfl, Nat.le_of_ble_eq_true rfl⟩ (zs_in (by decide) mf163 (Nat.le_of_ble_eq_true rfl) ?_) (fun _ _ q => q)
      show zGo X l 1 0 0 163 0 [(0, .ref 164), (1, .int b)] [] w1M _
      refine zs_iload_n (pc := 0) t163_0 rfl ?_
      refine zs_aload_n (pc := 1) t163_1 rfl ?_
      refine zs_get (pc := 2) t163_2 (by decide) (zk1 (w1s.k fk_zMc_164)) (zfvi rfl rfl) ?_
      by_cases w11 : (zI w1M 164 4).toInt ≤ b.toInt
      · refine zs_icmp_geT (pc := 5) t163_5 rfl rfl (by omega) ?_
        refine zs_aconst_null (pc := 19) t163_19 ?_
        refine zs_aret0 (pc := 20) t163_20 (by rw [mr163]; rfl) ?_
        show zGo X l 6 0 0 200 25 [(4, .null), (0, .ref 6), (1, .int a), (2, .int b), (3, .int c)] [.null] w1M _
        refine zs_astore0 (pc := 25) t200_25 (ls' := [(5, .null), (4, .null), (0, .ref 6), (1, .int a), (2, .int b), (3, .int c)]) (zml mf200 (by decide)) rfl ?_
        refine zs_aload0 (pc := 27) t200_27 rfl ?_
        refine zs_ifnullT (pc := 29) t200_29 ?_
        refine zs_ldc2_w (pc := 51) t200_51 (v := -1000000000000) (by decide) ?_
        exact zs_lret (pc := 54) t200_54 mr200 (hQ _ _ w1s w1I ((zFr.refl).trans (w1F.mono rfl)) (zrg64 _).1 (zrg64 _).2)
      · refine zs_icmp_geF (pc := 5) t163_5 rfl rfl (by omega) ?_
        refine zs_aload_n (pc := 8) t163_8 rfl ?_
        refine zs_get (pc := 9) t163_9 (by decide) (zk1 (w1s.k fk_zMc_164)) (w1s.p rfl fv_zMc_164_1) ?_
        refine zs_iload_n (pc := 12) t163_12 rfl ?_
        refine zs_invV (pc := 13) (k := 165) (as' := [.int b]) (st := []) t163_13 mf126 rfl rfl (Or.inl ⟨by decide, (zk1 (w1s.k fk_zMc_165))⟩) ⟨by decide, by decide, Nat.le_of_ble_eq_true rfl, Nat.le_of_ble_eq_true rfl⟩ (zs_in (by decide) mf126 (Nat.le_of_ble_eq_true rfl) ?_) (fun _ _ q => q)
        show zGo X l 0 0 0 126 0 [(0, .ref 165), (1, .int b)] [] w1M _
        refine zs_iload_n (pc := 0) t126_0 rfl ?_
        by_cases w12 : b.toInt < 0
        · refine zs_if_ltT (pc := 1) t126_1 rfl (by omega) ?_
          refine zs_aconst_null (pc := 21) t126_21 ?_
          refine zs_aret0 (pc := 22) t126_22 (by rw [mr126]; rfl) ?_
          show zGo X l 1 0 0 163 16 [(0, .ref 164), (1, .int b)] [.null] w1M _
          refine zs_goto (pc := 16) t163_16 ?_
          refine zs_aret0 (pc := 20) t163_20 (by rw [mr163]; rfl) ?_
          show zGo X l 6 0 0 200 25 [(4, .null), (0, .ref 6), (1, .int a), (2, .int b), (3, .int c)] [.null] w1M _
          refine zs_astore0 (pc := 25) t200_25 (ls' := [(5, .null), (4, .null), (0, .ref 6), (1, .int a), (2, .int b), (3, .int c)]) (zml mf200 (by decide)) rfl ?_
          refine zs_aload0 (pc := 27) t200_27 rfl ?_
          refine zs_ifnullT (pc := 29) t200_29 ?_
          refine zs_ldc2_w (pc := 51) t200_51 (v := -1000000000000) (by decide) ?_
          exact zs_lret (pc := 54) t200_54 mr200 (hQ _ _ w1s w1I ((zFr.refl).trans (w1F.mono rfl)) (zrg64 _).1 (zrg64 _).2)
        · refine zs_if_ltF (pc := 1) t126_1 rfl (by omega) ?_
          refine zs_iload_n (pc := 4) t126_4 rfl ?_
          refine zs_aload_n (pc := 5) t126_5 rfl ?_
          have w13 := ib165_2 w1I
          refine zs_get (pc := 6) t126_6 (by decide) (zk1 (w1s.k fk_zMc_165)) (zfvi rfl rfl) ?_
          by_cases w14 : (zI w1M 165 2).toInt ≤ b.toInt
          · refine zs_icmp_geT (pc := 9) t126_9 rfl rfl (by omega) ?_
            refine zs_aconst_null (pc := 21) t126_21 ?_
            refine zs_aret0 (pc := 22) t126_22 (by rw [mr126]; rfl) ?_
            show zGo X l 1 0 0 163 16 [(0, .ref 164), (1, .int b)] [.null] w1M _
            refine zs_goto (pc := 16) t163_16 ?_
            refine zs_aret0 (pc := 20) t163_20 (by rw [mr163]; rfl) ?_
            show zGo X l 6 0 0 200 25 [(4, .null), (0, .ref 6), (1, .int a), (2, .int b), (3, .int c)] [.null] w1M _
            refine zs_astore0 (pc := 25) t200_25 (ls' := [(5, .null), (4, .null), (0, .ref 6), (1, .int a), (2, .int b), (3, .int c)]) (zml mf200 (by decide)) rfl ?_
            refine zs_aload0 (pc := 27) t200_27 rfl ?_
            refine zs_ifnullT (pc := 29) t200_29 ?_
            refine zs_ldc2_w (pc := 51) t200_51 (v := -1000000000000) (by decide) ?_
            exact zs_lret (pc := 54) t200_54 mr200 (hQ _ _ w1s w1I ((zFr.refl).trans (w1F.mono rfl)) (zrg64 _).1 (zrg64 _).2)
          · refine zs_icmp_geF (pc := 9) t126_9 rfl rfl (by omega) ?_
            refine zs_aload_n (pc := 12) t126_12 rfl ?_
            refine zs_get (pc := 13) t126_13 (by decide) (zk1 (w1s.k fk_zMc_165)) (w1s.p rfl fv_zMc_165_1) ?_
            refine zs_iload_n (pc := 16) t126_16 rfl ?_
            obtain ⟨w15n, w15⟩ : ∃ n : Nat, b.toInt = (n : Int) := ⟨b.toInt.toNat, by omega⟩
            have w16 : w15n < 20 := by omega
            refine zs_aald (pc := 17) t126_17 (j := w15n) (Or.inr (zk1 (w1s.k fk_zMc_179))) w15 (zk2 (w1s.k fk_zMc_179) (by omega)) (w1s.a (fpT181 w15n w16)) ?_
            refine zs_goto (pc := 18) t126_18 ?_
            refine zs_aret (pc := 22) t126_22 (by rw [mr126]; rfl) ?_
            show zGo X l 1 0 0 163 16 [(0, .ref 164), (1, .int b)] [.ref (181 + 3 * w15n)] w1M _
            refine zs_goto (pc := 16) t163_16 ?_
            refine zs_aret (pc := 20) t163_20 (by rw [mr163]; rfl) ?_
            show zGo X l 6 0 0 200 25 [(4, .null), (0, .ref 6), (1, .int a), (2, .int b), (3, .int c)] [.ref (181 + 3 * w15n)] w1M _
            refine zs_astore (pc := 25) t200_25 (ls' := [(5, .ref (181 + 3 * w15n)), (4, .null), (0, .ref 6), (1, .int a), (2, .int b), (3, .int c)]) (zml mf200 (by decide)) rfl ?_
            refine zs_aload0 (pc := 27) t200_27 rfl ?_
            refine zs_ifnullT (pc := 29) t200_29 ?_
            refine zs_ldc2_w (pc := 51) t200_51 (v := -1000000000000) (by decide) ?_
            exact zs_lret (pc := 54) t200_54 mr200 (hQ _ _ w1s w1I ((zFr.refl).trans (w1F.mono rfl)) (zrg64 _).1 (zrg64 _).2)
    · refine zs_if_ltF (pc := 1) t126_1 rfl (by omega) ?_
      refine zs_iload_n (pc := 4) t126_4 rfl ?_
      refine zs_aload_n (pc := 5) t126_5 rfl ?_
      have w17 := ib165_2 w1I
      refine zs_get (pc := 6) t126_6 (by decide) (zk1 (w1s.k fk_zMc_165)) (zfvi rfl rfl) ?_
      by_cases w18 : (zI w1M 165 2).toInt ≤ a.toInt
      · refine zs_icmp_geT (pc := 9) t126_9 rfl rfl (by omega) ?_
        refine zs_aconst_null (pc := 21) t126_21 ?_
        refine zs_aret0 (pc := 22) t126_22 (by rw [mr126]; rfl) ?_
        show zGo X l 1 0 0 163 16 [(0, .ref 164), (1, .int a)] [.null] w1M _
        refine zs_goto (pc := 16) t163_16 ?_
        refine zs_aret0 (pc := 20) t163_20 (by rw [mr163]; rfl) ?_
        show zGo X l 6 0 0 200 15 [(0, .ref 6), (1, .int a), (2, .int b), (3, .int c)] [.null] w1M _
        refine zs_astore0 (pc := 15) t200_15 (ls' := [(4, .null), (0, .ref 6), (1, .int a), (2, .int b), (3, .int c)]) (zml mf200 (by decide)) rfl ?_
        refine zs_aload_n (pc := 17) t200_17 rfl ?_
        refine zs_get (pc := 18) t200_18 (by decide) (zk1 (w1s.k fk_zMc_6)) (w1s.p rfl fv_zMc_6_6) ?_
        refine zs_iload_n (pc := 21) t200_21 rfl ?_
        refine zs_invV (pc := 22) (k := 164) (as' := [.int b]) (st := []) t200_22 mf163 rfl rfl (Or.inl ⟨by decide, (zk1 (w1s.k fk_zMc_164))⟩) ⟨by decide, by decide, Nat.le_of_ble_eq_true rfl, Nat.le_of_ble_eq_true rfl⟩ (zs_in (by decide) mf163 (Nat.le_of_ble_eq_true rfl) ?_) (fun _ _ q => q)
        show zGo X l 1 0 0 163 0 [(0, .ref 164), (1, .int b)] [] w1M _
        refine zs_iload_n (pc := 0) t163_0 rfl ?_
        refine zs_aload_n (pc := 1) t163_1 rfl ?_
        refine zs_get (pc := 2) t163_2 (by decide) (zk1 (w1s.k fk_zMc_164)) (zfvi rfl rfl) ?_
        by_cases w19 : (zI w1M 164 4).toInt ≤ b.toInt
        · refine zs_icmp_geT (pc := 5) t163_5 rfl rfl (by omega) ?_
          refine zs_aconst_null (pc := 19) t163_19 ?_
          refine zs_aret0 (pc := 20) t163_20 (by rw [mr163]; rfl) ?_
          show zGo X l 6 0 0 200 25 [(4, .null), (0, .ref 6), (1, .int a), (2, .int b), (3, .int c)] [.null] w1M _
          refine zs_astore0 (pc := 25) t200_25 (ls' := [(5, .null), (4, .null), (0, .ref 6), (1, .int a), (2, .int b), (3, .int c)]) (zml mf200 (by decide)) rfl ?_
          refine zs_aload0 (pc := 27) t200_27 rfl ?_
          refine zs_ifnullT (pc := 29) t200_29 ?_
          refine zs_ldc2_w (pc := 51) t200_51 (v := -1000000000000) (by decide) ?_
          exact zs_lret (pc := 54) t200_54 mr200 (hQ _ _ w1s w1I ((zFr.refl).trans (w1F.mono rfl)) (zrg64 _).1 (zrg64 _).2)
        · refine zs_icmp_geF (pc := 5) t163_5 rfl rfl (by omega) ?_
          refine zs_aload_n (pc := 8) t163_8 rfl ?_
          refine zs_get (pc := 9) t163_9 (by decide) (zk1 (w1s.k fk_zMc_164)) (w1s.p rfl fv_zMc_164_1) ?_
          refine zs_iload_n (pc := 12) t163_12 rfl ?_
          refine zs_invV (pc := 13) (k := 165) (as' := [.int b]) (st := []) t163_13 mf126 rfl rfl (Or.inl ⟨by decide, (zk1 (w1s.k fk_zMc_165))⟩) ⟨by decide, by decide, Nat.le_of_ble_eq_true rfl, Nat.le_of_ble_eq_true rfl⟩ (zs_in (by decide) mf126 (Nat.le_of_ble_eq_true rfl) ?_) (fun _ _ q => q)
          show zGo X l 0 0 0 126 0 [(0, .ref 165), (1, .int b)] [] w1M _
          refine zs_iload_n (pc := 0) t126_0 rfl ?_
          by_cases w20 : b.toInt < 0
          · refine zs_if_ltT (pc := 1) t126_1 rfl (by omega) ?_
            refine zs_aconst_null (pc := 21) t126_21 ?_
            refine zs_aret0 (pc := 22) t126_22 (by rw [mr126]; rfl) ?_
            show zGo X l 1 0 0 163 16 [(0, .ref 164), (1, .int b)] [.null] w1M _
            refine zs_goto (pc := 16) t163_16 ?_
            refine zs_aret0 (pc := 20) t163_20 (by rw [mr163]; rfl) ?_
            show zGo X l 6 0 0 200 25 [(4, .null), (0, .ref 6), (1, .int a), (2, .int b), (3, .int c)] [.null] w1M _
            refine zs_astore0 (pc := 25) t200_25 (ls' := [(5, .null), (4, .null), (0, .ref 6), (1, .int a), (2, .int b), (3, .int c)]) (zml mf200 (by decide)) rfl ?_
            refine zs_aload0 (pc := 27) t200_27 rfl ?_
            refine zs_ifnullT (pc := 29) t200_29 ?_
            refine zs_ldc2_w (pc := 51) t200_51 (v := -1000000000000) (by decide) ?_
            exact zs_lret (pc := 54) t200_54 mr200 (hQ _ _ w1s w1I ((zFr.refl).trans (w1F.mono rfl)) (zrg64 _).1 (zrg64 _).2)
          · refine zs_if_ltF (pc := 1) t126_1 rfl (by omega) ?_
            refine zs_iload_n (pc := 4) t126_4 rfl ?_
            refine zs_aload_n (pc := 5) t126_5 rfl ?_
            refine zs_get (pc := 6) t126_6 (by decide) (zk1 (w1s.k fk_zMc_165)) (zfvi rfl rfl) ?_
            by_cases w21 : (zI w1M 165 2).toInt ≤ b.toInt
            · refine zs_icmp_geT (pc := 9) t126_9 rfl rfl (by omega) ?_
              refine zs_aconst_null (pc := 21) t126_21 ?_
              refine zs_aret0 (pc := 22) t126_22 (by rw [mr126]; rfl) ?_
              show zGo X l 1 0 0 163 16 [(0, .ref 164), (1, .int b)] [.null] w1M _
              refine zs_goto (pc := 16) t163_16 ?_
              refine zs_aret0 (pc := 20) t163_20 (by rw [mr163]; rfl) ?_
              show zGo X l 6 0 0 200 25 [(4, .null), (0, .ref 6), (1, .int a), (2, .int b), (3, .int c)] [.null] w1M _
              refine zs_astore0 (pc := 25) t200_25 (ls' := [(5, .null), (4, .null), (0, .ref 6), (1, .int a), (2, .int b), (3, .int c)]) (zml mf200 (by decide)) rfl ?_
              refine zs_aload0 (pc := 27) t200_27 rfl ?_
              refine zs_ifnullT (pc := 29) t200_29 ?_
              refine zs_ldc2_w (pc := 51) t200_51 (v := -1000000000000) (by decide) ?_
              exact zs_lret (pc := 54) t200_54 mr200 (hQ _ _ w1s w1I ((zFr.refl).trans (w1F.mono rfl)) (zrg64 _).1 (zrg64 _).2)
            · refine zs_icmp_geF (pc := 9) t126_9 rfl rfl (by omega) ?_
              refine zs_aload_n (pc := 12) t126_12 rfl ?_
              refine zs_get (pc := 13) t126_13 (by decide) (zk1 (w1s.k fk_zMc_165)) (w1s.p rfl fv_zMc_165_1) ?_
              refine zs_iload_n (pc := 16) t126_16 rfl ?_
              obtain ⟨w22n, w22⟩ : ∃ n : Nat, b.toInt = (n : Int) := ⟨b.toInt.toNat, by omega⟩
              have w23 : w22n < 20 := by omega
              refine zs_aald (pc := 17) t126_17 (j := w22n) (Or.inr (zk1 (w1s.k fk_zMc_179))) w22 (zk2 (w1s.k fk_zMc_179) (by omega)) (w1s.a (fpT181 w22n w23)) ?_
              refine zs_goto (pc := 18) t126_18 ?_
              refine zs_aret (pc := 22) t126_22 (by rw [mr126]; rfl) ?_
              show zGo X l 1 0 0 163 16 [(0, .ref 164), (1, .int b)] [.ref (181 + 3 * w22n)] w1M _
              refine zs_goto (pc := 16) t163_16 ?_
              refine zs_aret (pc := 20) t163_20 (by rw [mr163]; rfl) ?_
              show zGo X l 6 0 0 200 25 [(4, .null), (0, .ref 6), (1, .int a), (2, .int b), (3, .int c)] [.ref (181 + 3 * w22n)] w1M _
              refine zs_astore (pc := 25) t200_25 (ls' := [(5, .ref (181 + 3 * w22n)), (4, .null), (0, .ref 6), (1, .int a), (2, .int b), (3, .int c)]) (zml mf200 (by decide)) rfl ?_
              refine zs_aload0 (pc := 27) t200_27 rfl ?_
              refine zs_ifnullT (pc := 29) t200_29 ?_
              refine zs_ldc2_w (pc := 51) t200_51 (v := -1000000000000) (by decide) ?_
              exact zs_lret (pc := 54) t200_54 mr200 (hQ _ _ w1s w1I ((zFr.refl).trans (w1F.mono rfl)) (zrg64 _).1 (zrg64 _).2)
      · refine zs_icmp_geF (pc := 9) t126_9 rfl rfl (by omega) ?_
        refine zs_aload_n (pc := 12) t126_12 rfl ?_
        refine zs_get (pc := 13) t126_13 (by decide) (zk1 (w1s.k fk_zMc_165)) (w1s.p rfl fv_zMc_165_1) ?_
        refine zs_iload_n (pc := 16) t126_16 rfl ?_
        obtain ⟨w24n, w24⟩ : ∃ n : Nat, a.toInt = (n : Int) := ⟨a.toInt.toNat, by omega⟩
        have w25 : w24n < 20 := by omega
        refine zs_aald (pc := 17) t126_17 (j := w24n) (Or.inr (zk1 (w1s.k fk_zMc_179))) w24 (zk2 (w1s.k fk_zMc_179) (by omega)) (w1s.a (fpT181 w24n w25)) ?_
        refine zs_goto (pc := 18) t126_18 ?_
        refine zs_aret (pc := 22) t126_22 (by rw [mr126]; rfl) ?_
        show zGo X l 1 0 0 163 16 [(0, .ref 164), (1, .int a)] [.ref (181 + 3 * w24n)] w1M _
        refine zs_goto (pc := 16) t163_16 ?_
        refine zs_aret (pc := 20) t163_20 (by rw [mr163]; rfl) ?_
        show zGo X l 6 0 0 200 15 [(0, .ref 6), (1, .int a), (2, .int b), (3, .int c)] [.ref (181 + 3 * w24n)] w1M _
        refine zs_astore (pc := 15) t200_15 (ls' := [(4, .ref (181 + 3 * w24n)), (0, .ref 6), (1, .int a), (2, .int b), (3, .int c)]) (zml mf200 (by decide)) rfl ?_
        refine zs_aload_n (pc := 17) t200_17 rfl ?_
        refine zs_get (pc := 18) t200_18 (by decide) (zk1 (w1s.k fk_zMc_6)) (w1s.p rfl fv_zMc_6_6) ?_
        refine zs_iload_n (pc := 21) t200_21 rfl ?_
        refine zs_invV (pc := 22) (k := 164) (as' := [.int b]) (st := []) t200_22 mf163 rfl rfl (Or.inl ⟨by decide, (zk1 (w1s.k fk_zMc_164))⟩) ⟨by decide, by decide, Nat.le_of_ble_eq_true rfl, Nat.le_of_ble_eq_true rfl⟩ (zs_in (by decide) mf163 (Nat.le_of_ble_eq_true rfl) ?_) (fun _ _ q => q)
        show zGo X l 1 0 0 163 0 [(0, .ref 164), (1, .int b)] [] w1M _
        refine zs_iload_n (pc := 0) t163_0 rfl ?_
        refine zs_aload_n (pc := 1) t163_1 rfl ?_
        refine zs_get (pc := 2) t163_2 (by decide) (zk1 (w1s.k fk_zMc_164)) (zfvi rfl rfl) ?_
        by_cases w26 : (zI w1M 164 4).toInt ≤ b.toInt
        · refine zs_icmp_geT (pc := 5) t163_5 rfl rfl (by omega) ?_
          refine zs_aconst_null (pc := 19) t163_19 ?_
          refine zs_aret0 (pc := 20) t163_20 (by rw [mr163]; rfl) ?_
          show zGo X l 6 0 0 200 25 [(4, .ref (181 + 3 * w24n)), (0, .ref 6), (1, .int a), (2, .int b), (3, .int c)] [.null] w1M _
          refine zs_astore0 (pc := 25) t200_25 (ls' := [(5, .null), (4, .ref (181 + 3 * w24n)), (0, .ref 6), (1, .int a), (2, .int b), (3, .int c)]) (zml mf200 (by decide)) rfl ?_
          refine zs_aload (pc := 27) t200_27 rfl ?_
          refine zs_ifnullF (pc := 29) t200_29 ?_
          refine zs_aload0 (pc := 32) t200_32 rfl ?_
          refine zs_ifnullT (pc := 34) t200_34 ?_
          refine zs_ldc2_w (pc := 51) t200_51 (v := -1000000000000) (by decide) ?_
          exact zs_lret (pc := 54) t200_54 mr200 (hQ _ _ w1s w1I ((zFr.refl).trans (w1F.mono rfl)) (zrg64 _).1 (zrg64 _).2)
        · refine zs_icmp_geF (pc := 5) t163_5 rfl rfl (by omega) ?_
          refine zs_aload_n (pc := 8) t163_8 rfl ?_
          refine zs_get (pc := 9) t163_9 (by decide) (zk1 (w1s.k fk_zMc_164)) (w1s.p rfl fv_zMc_164_1) ?_
          refine zs_iload_n (pc := 12) t163_12 rfl ?_
          refine zs_invV (pc := 13) (k := 165) (as' := [.int b]) (st := []) t163_13 mf126 rfl rfl (Or.inl ⟨by decide, (zk1 (w1s.k fk_zMc_165))⟩) ⟨by decide, by decide, Nat.le_of_ble_eq_true rfl, Nat.le_of_ble_eq_true rfl⟩ (zs_in (by decide) mf126 (Nat.le_of_ble_eq_true rfl) ?_) (fun _ _ q => q)
          show zGo X l 0 0 0 126 0 [(0, .ref 165), (1, .int b)] [] w1M _
          refine zs_iload_n (pc := 0) t126_0 rfl ?_
          by_cases w27 : b.toInt < 0
          · refine zs_if_ltT (pc := 1) t126_1 rfl (by omega) ?_
            refine zs_aconst_null (pc := 21) t126_21 ?_
            refine zs_aret0 (pc := 22) t126_22 (by rw [mr126]; rfl) ?_
            show zGo X l 1 0 0 163 16 [(0, .ref 164), (1, .int b)] [.null] w1M _
            refine zs_goto (pc := 16) t163_16 ?_
            refine zs_aret0 (pc := 20) t163_20 (by rw [mr163]; rfl) ?_
            show zGo X l 6 0 0 200 25 [(4, .ref (181 + 3 * w24n)), (0, .ref 6), (1, .int a), (2, .int b), (3, .int c)] [.null] w1M _
            refine zs_astore0 (pc := 25) t200_25 (ls' := [(5, .null), (4, .ref (181 + 3 * w24n)), (0, .ref 6), (1, .int a), (2, .int b), (3, .int c)]) (zml mf200 (by decide)) rfl ?_
            refine zs_aload (pc := 27) t200_27 rfl ?_
            refine zs_ifnullF (pc := 29) t200_29 ?_
            refine zs_aload0 (pc := 32) t200_32 rfl ?_
            refine zs_ifnullT (pc := 34) t200_34 ?_
            refine zs_ldc2_w (pc := 51) t200_51 (v := -1000000000000) (by decide) ?_
            exact zs_lret (pc := 54) t200_54 mr200 (hQ _ _ w1s w1I ((zFr.refl).trans (w1F.mono rfl)) (zrg64 _).1 (zrg64 _).2)
          · refine zs_if_ltF (pc := 1) t126_1 rfl (by omega) ?_
            refine zs_iload_n (pc := 4) t126_4 rfl ?_
            refine zs_aload_n (pc := 5) t126_5 rfl ?_
            refine zs_get (pc := 6) t126_6 (by decide) (zk1 (w1s.k fk_zMc_165)) (zfvi rfl rfl) ?_
            by_cases w28 : (zI w1M 165 2).toInt ≤ b.toInt
            · refine zs_icmp_geT (pc := 9) t126_9 rfl rfl (by omega) ?_
              refine zs_aconst_null (pc := 21) t126_21 ?_
              refine zs_aret0 (pc := 22) t126_22 (by rw [mr126]; rfl) ?_
              show zGo X l 1 0 0 163 16 [(0, .ref 164), (1, .int b)] [.null] w1M _
              refine zs_goto (pc := 16) t163_16 ?_
              refine zs_aret0 (pc := 20) t163_20 (by rw [mr163]; rfl) ?_
              show zGo X l 6 0 0 200 25 [(4, .ref (181 + 3 * w24n)), (0, .ref 6), (1, .int a), (2, .int b), (3, .int c)] [.null] w1M _
              refine zs_astore0 (pc := 25) t200_25 (ls' := [(5, .null), (4, .ref (181 + 3 * w24n)), (0, .ref 6), (1, .int a), (2, .int b), (3, .int c)]) (zml mf200 (by decide)) rfl ?_
              refine zs_aload (pc := 27) t200_27 rfl ?_
              refine zs_ifnullF (pc := 29) t200_29 ?_
              refine zs_aload0 (pc := 32) t200_32 rfl ?_
              refine zs_ifnullT (pc := 34) t200_34 ?_
              refine zs_ldc2_w (pc := 51) t200_51 (v := -1000000000000) (by decide) ?_
              exact zs_lret (pc := 54) t200_54 mr200 (hQ _ _ w1s w1I ((zFr.refl).trans (w1F.mono rfl)) (zrg64 _).1 (zrg64 _).2)
            · refine zs_icmp_geF (pc := 9) t126_9 rfl rfl (by omega) ?_
              refine zs_aload_n (pc := 12) t126_12 rfl ?_
              refine zs_get (pc := 13) t126_13 (by decide) (zk1 (w1s.k fk_zMc_165)) (w1s.p rfl fv_zMc_165_1) ?_
              refine zs_iload_n (pc := 16) t126_16 rfl ?_
              obtain ⟨w29n, w29⟩ : ∃ n : Nat, b.toInt = (n : Int) := ⟨b.toInt.toNat, by omega⟩
              have w30 : w29n < 20 := by omega
              refine zs_aald (pc := 17) t126_17 (j := w29n) (Or.inr (zk1 (w1s.k fk_zMc_179))) w29 (zk2 (w1s.k fk_zMc_179) (by omega)) (w1s.a (fpT181 w29n w30)) ?_
              refine zs_goto (pc := 18) t126_18 ?_
              refine zs_aret (pc := 22) t126_22 (by rw [mr126]; rfl) ?_
              show zGo X l 1 0 0 163 16 [(0, .ref 164), (1, .int b)] [.ref (181 + 3 * w29n)] w1M _
              refine zs_goto (pc := 16) t163_16 ?_
              refine zs_aret (pc := 20) t163_20 (by rw [mr163]; rfl) ?_
              show zGo X l 6 0 0 200 25 [(4, .ref (181 + 3 * w24n)), (0, .ref 6), (1, .int a), (2, .int b), (3, .int c)] [.ref (181 + 3 * w29n)] w1M _
              refine zs_astore (pc := 25) t200_25 (ls' := [(5, .ref (181 + 3 * w29n)), (4, .ref (181 + 3 * w24n)), (0, .ref 6), (1, .int a), (2, .int b), (3, .int c)]) (zml mf200 (by decide)) rfl ?_
              refine zs_aload (pc := 27) t200_27 rfl ?_
              refine zs_ifnullF (pc := 29) t200_29 ?_
              refine zs_aload (pc := 32) t200_32 rfl ?_
              refine zs_ifnullF (pc := 34) t200_34 ?_
              refine zs_iload_n (pc := 37) t200_37 rfl ?_
              refine zs_iload_n (pc := 38) t200_38 rfl ?_
              by_cases w31 : a.toInt = b.toInt
              · refine zs_icmp_eqT (pc := 39) t200_39 rfl rfl (by omega) ?_
                refine zs_ldc2_w (pc := 51) t200_51 (v := -1000000000000) (by decide) ?_
                exact zs_lret (pc := 54) t200_54 mr200 (hQ _ _ w1s w1I ((zFr.refl).trans (w1F.mono rfl)) (zrg64 _).1 (zrg64 _).2)
              · refine zs_icmp_eqF (pc := 39) t200_39 rfl rfl (by omega) ?_
                refine zs_iload_n (pc := 42) t200_42 rfl ?_
                refine zs_iconst (pc := 43) t200_43 (v := 0) (by decide) ?_
                refine zs_iconst (pc := 44) t200_44 (v := 1) (by decide) ?_
                refine zs_invS (pc := 45) (as := [.int c, .int (0 : Int32), .int (1 : Int32)]) (st := []) t200_45 (by decide) mf39 rfl rfl ⟨by decide, by decide, Nat.le_of_ble_eq_true rfl, Nat.le_of_ble_eq_true rfl⟩ (zs_in (by decide) mf39 (Nat.le_of_ble_eq_true rfl) ?_) (fun _ _ q => q)
                show zGo X l 0 0 0 39 0 [(0, .int c), (1, .int (0 : Int32)), (2, .int (1 : Int32))] [] w1M _
                refine zs_iload_n (pc := 0) t39_0 rfl ?_
                refine zs_iload_n (pc := 1) t39_1 rfl ?_
                by_cases w32 : c.toInt < 0
                · refine zs_icmp_ltT (pc := 2) t39_2 rfl li0 (by omega) ?_
                  refine zs_iconst (pc := 14) t39_14 (v := 0) (by decide) ?_
                  refine zs_iret (pc := 15) t39_15 mr39 (by decide) ?_
                  show zGo X l 6 0 0 200 48 [(5, .ref (181 + 3 * w29n)), (4, .ref (181 + 3 * w24n)), (0, .ref 6), (1, .int a), (2, .int b), (3, .int c)] [.int (0 : Int32)] w1M _
                  refine zs_if_neF (pc := 48) t200_48 li0 (by decide) ?_
                  refine zs_ldc2_w (pc := 51) t200_51 (v := -1000000000000) (by decide) ?_
                  exact zs_lret (pc := 54) t200_54 mr200 (hQ _ _ w1s w1I ((zFr.refl).trans (w1F.mono rfl)) (zrg64 _).1 (zrg64 _).2)
                · refine zs_icmp_ltF (pc := 2) t39_2 rfl li0 (by omega) ?_
                  refine zs_iload_n (pc := 5) t39_5 rfl ?_
                  refine zs_iload_n (pc := 6) t39_6 rfl ?_
                  by_cases w33 : 1 < c.toInt
                  · refine zs_icmp_gtT (pc := 7) t39_7 rfl li1 (by omega) ?_
                    refine zs_iconst (pc := 14) t39_14 (v := 0) (by decide) ?_
                    refine zs_iret (pc := 15) t39_15 mr39 (by decide) ?_
                    show zGo X l 6 0 0 200 48 [(5, .ref (181 + 3 * w29n)), (4, .ref (181 + 3 * w24n)), (0, .ref 6), (1, .int a), (2, .int b), (3, .int c)] [.int (0 : Int32)] w1M _
                    refine zs_if_neF (pc := 48) t200_48 li0 (by decide) ?_
                    refine zs_ldc2_w (pc := 51) t200_51 (v := -1000000000000) (by decide) ?_
                    exact zs_lret (pc := 54) t200_54 mr200 (hQ _ _ w1s w1I ((zFr.refl).trans (w1F.mono rfl)) (zrg64 _).1 (zrg64 _).2)
                  · refine zs_icmp_gtF (pc := 7) t39_7 rfl li1 (by omega) ?_
                    refine zs_iconst (pc := 10) t39_10 (v := 1) (by decide) ?_
                    refine zs_goto (pc := 11) t39_11 ?_
                    refine zs_iret (pc := 15) t39_15 mr39 (by decide) ?_
                    show zGo X l 6 0 0 200 48 [(5, .ref (181 + 3 * w29n)), (4, .ref (181 + 3 * w24n)), (0, .ref 6), (1, .int a), (2, .int b), (3, .int c)] [.int (1 : Int32)] w1M _
                    refine zs_if_neT (pc := 48) t200_48 li1 (by decide) ?_
                    refine zs_lconst (pc := 55) t200_55 (v := 1) (by decide) ?_
                    refine zs_aload (pc := 56) t200_56 rfl ?_
                    refine zs_get (pc := 58) t200_58 (by decide) (zk1 (w1s.k (fT181_0 w24n w25))) (zfvj rfl) ?_
                    refine zs_aload (pc := 61) t200_61 rfl ?_
                    refine zs_get (pc := 63) t200_63 (by decide) (zk1 (w1s.k (fT181_0 w29n w30))) (zfvj rfl) ?_
                    refine zs_invS (pc := 66) (as := [.long (zJ w1M (181 + 3 * w24n) 8), .long (zJ w1M (181 + 3 * w29n) 8)]) (st := [.long (1 : Int64)]) t200_66 (by decide) mf175 rfl rfl ⟨by decide, by decide, Nat.le_of_ble_eq_true rfl, Nat.le_of_ble_eq_true rfl⟩ (C175 w1s w1I ?_) (fun _ _ q => q)
                    intro w34v w34a w34b
                    show zGo X l 6 0 0 200 69 [(5, .ref (181 + 3 * w29n)), (4, .ref (181 + 3 * w24n)), (0, .ref 6), (1, .int a), (2, .int b), (3, .int c)] [.long w34v, .long (1 : Int64)] w1M _
                    refine zs_invS (pc := 69) (as := [.long (1 : Int64), .long w34v]) (st := []) t200_69 (by decide) mf134 rfl rfl ⟨by decide, by decide, Nat.le_of_ble_eq_true rfl, Nat.le_of_ble_eq_true rfl⟩ (zs_in (by decide) mf134 (Nat.le_of_ble_eq_true rfl) ?_) (fun _ _ q => q)
                    show zGo X l 0 0 0 134 0 [(0, .long (1 : Int64)), (2, .long w34v)] [] w1M _
                    refine zs_lload_n (pc := 0) t134_0 rfl ?_
                    refine zs_lload_n (pc := 1) t134_1 rfl ?_
                    by_cases w35 : 1 < w34v.toInt
                    · refine zs_lcmp (pc := 2) t134_2 (c := -1) (zlcL ll1 rfl (by omega)) ?_
                      refine zs_if_ltT (pc := 3) t134_3 lin1 (by decide) ?_
                      refine zs_lload_n (pc := 10) t134_10 rfl ?_
                      refine zs_lret (pc := 11) t134_11 mr134 ?_
                      show zGo X l 6 0 0 200 72 [(5, .ref (181 + 3 * w29n)), (4, .ref (181 + 3 * w24n)), (0, .ref 6), (1, .int a), (2, .int b), (3, .int c)] [.long w34v] w1M _
                      refine zs_lstore (pc := 72) t200_72 (ls' := [(6, .long w34v), (5, .ref (181 + 3 * w29n)), (4, .ref (181 + 3 * w24n)), (0, .ref 6), (1, .int a), (2, .int b), (3, .int c)]) (zml mf200 (by decide)) rfl ?_
                      refine zs_aload (pc := 74) t200_74 rfl ?_
                      refine zs_get (pc := 76) t200_76 (by decide) (zk1 (w1s.k (fT181_0 w24n w25))) (zfvj rfl) ?_
                      refine zs_lload (pc := 79) t200_79 rfl ?_
                      obtain ⟨w36v, w36⟩ : ∃ v, (zJ w1M (181 + 3 * w24n) 8) / w34v = v := ⟨_, rfl⟩
                      have w36g := zrg64 w36v
                      refine zs_ldiv (pc := 81) t200_81 (znz64 rfl (by omega)) (c := w36v) w36 ?_
                      refine zs_lstore (pc := 82) t200_82 (ls' := [(8, .long w36v), (6, .long w34v), (5, .ref (181 + 3 * w29n)), (4, .ref (181 + 3 * w24n)), (0, .ref 6), (1, .int a), (2, .int b), (3, .int c)]) (zml mf200 (by decide)) rfl ?_
                      refine zs_aload (pc := 84) t200_84 rfl ?_
                      refine zs_get (pc := 86) t200_86 (by decide) (zk1 (w1s.k (fT181_0 w29n w30))) (zfvj rfl) ?_
                      refine zs_lload (pc := 89) t200_89 rfl ?_
                      obtain ⟨w37v, w37⟩ : ∃ v, (zJ w1M (181 + 3 * w29n) 8) / w34v = v := ⟨_, rfl⟩
                      have w37g := zrg64 w37v
                      refine zs_ldiv (pc := 91) t200_91 (znz64 rfl (by omega)) (c := w37v) w37 ?_
                      refine zs_lstore (pc := 92) t200_92 (ls' := [(10, .long w37v), (8, .long w36v), (6, .long w34v), (5, .ref (181 + 3 * w29n)), (4, .ref (181 + 3 * w24n)), (0, .ref 6), (1, .int a), (2, .int b), (3, .int c)]) (zml mf200 (by decide)) rfl ?_
                      refine zs_aload (pc := 94) t200_94 rfl ?_
                      refine zs_get (pc := 96) t200_96 (by decide) (zk1 (w1s.k (fT181_0 w24n w25))) (zfvj rfl) ?_
                      refine zs_lload (pc := 99) t200_99 rfl ?_
                      obtain ⟨w38v, w38⟩ : ∃ v, (zJ w1M (181 + 3 * w24n) 10) * w37v = v := ⟨_, rfl⟩
                      have w38g := zrg64 w38v
                      refine zs_lmul (pc := 101) t200_101 (c := w38v) w38 ?_
                      refine zs_aload (pc := 102) t200_102 rfl ?_
                      refine zs_get (pc := 104) t200_104 (by decide) (zk1 (w1s.k (fT181_0 w29n w30))) (zfvj rfl) ?_
                      refine zs_lload (pc := 107) t200_107 rfl ?_
                      obtain ⟨w39v, w39⟩ : ∃ v, (zJ w1M (181 + 3 * w29n) 10) * w36v = v := ⟨_, rfl⟩
                      have w39g := zrg64 w39v
                      refine zs_lmul (pc := 109) t200_109 (c := w39v) w39 ?_
                      obtain ⟨w40v, w40⟩ : ∃ v, w38v - w39v = v := ⟨_, rfl⟩
                      have w40g := zrg64 w40v
                      refine zs_lsub (pc := 110) t200_110 (c := w40v) w40 ?_
                      refine zs_lstore (pc := 111) t200_111 (ls' := [(12, .long w40v), (10, .long w37v), (8, .long w36v), (6, .long w34v), (5, .ref (181 + 3 * w29n)), (4, .ref (181 + 3 * w24n)), (0, .ref 6), (1, .int a), (2, .int b), (3, .int c)]) (zml mf200 (by decide)) rfl ?_
                      refine zs_lload (pc := 113) t200_113 rfl ?_
                      refine zs_lconst (pc := 115) t200_115 (v := 0) (by decide) ?_
                      by_cases w41 : w40v.toInt < 0
                      · refine zs_lcmp (pc := 116) t200_116 (c := -1) (zlcL rfl ll0 (by omega)) ?_
                        refine zs_if_neT (pc := 117) t200_117 lin1 (by decide) ?_
                        refine zs_aload (pc := 124) t200_124 rfl ?_
                        refine zs_get (pc := 126) t200_126 (by decide) (zk1 (w1s.k (fT181_0 w29n w30))) (zfvj rfl) ?_
                        refine zs_lload (pc := 129) t200_129 rfl ?_
                        obtain ⟨w42v, w42⟩ : ∃ v, (zJ w1M (181 + 3 * w29n) 9) * w36v = v := ⟨_, rfl⟩
                        have w42g := zrg64 w42v
                        refine zs_lmul (pc := 131) t200_131 (c := w42v) w42 ?_
                        refine zs_aload (pc := 132) t200_132 rfl ?_
                        refine zs_get (pc := 134) t200_134 (by decide) (zk1 (w1s.k (fT181_0 w24n w25))) (zfvj rfl) ?_
                        refine zs_lload (pc := 137) t200_137 rfl ?_
                        obtain ⟨w43v, w43⟩ : ∃ v, (zJ w1M (181 + 3 * w24n) 9) * w37v = v := ⟨_, rfl⟩
                        have w43g := zrg64 w43v
                        refine zs_lmul (pc := 139) t200_139 (c := w43v) w43 ?_
                        obtain ⟨w44v, w44⟩ : ∃ v, w42v - w43v = v := ⟨_, rfl⟩
                        have w44g := zrg64 w44v
                        refine zs_lsub (pc := 140) t200_140 (c := w44v) w44 ?_
                        refine zs_lstore (pc := 141) t200_141 (ls' := [(14, .long w44v), (12, .long w40v), (10, .long w37v), (8, .long w36v), (6, .long w34v), (5, .ref (181 + 3 * w29n)), (4, .ref (181 + 3 * w24n)), (0, .ref 6), (1, .int a), (2, .int b), (3, .int c)]) (zml mf200 (by decide)) rfl ?_
                        refine zs_iload_n (pc := 143) t200_143 rfl ?_
                        by_cases w45 : c.toInt ≠ 0
                        · refine zs_if_neT (pc := 144) t200_144 rfl (by omega) ?_
                          refine zs_lload (pc := 157) t200_157 rfl ?_
                          refine zs_lload (pc := 159) t200_159 rfl ?_
                          refine zs_invS (pc := 161) (as := [.long w44v, .long w40v]) (st := []) t200_161 (by decide) mf176 rfl rfl ⟨by decide, by decide, Nat.le_of_ble_eq_true rfl, Nat.le_of_ble_eq_true rfl⟩ (C176 w1s w1I ?_) (fun _ _ q => q)
                          intro w46v w46a w46b
                          show zGo X l 6 0 0 200 164 [(14, .long w44v), (12, .long w40v), (10, .long w37v), (8, .long w36v), (6, .long w34v), (5, .ref (181 + 3 * w29n)), (4, .ref (181 + 3 * w24n)), (0, .ref 6), (1, .int a), (2, .int b), (3, .int c)] [.long w46v] w1M _
                          exact zs_lret (pc := 164) t200_164 mr200 (hQ _ _ w1s w1I ((zFr.refl).trans (w1F.mono rfl)) (zrg64 _).1 (zrg64 _).2)
                        · refine zs_if_neF (pc := 144) t200_144 rfl (by omega) ?_
                          refine zs_lload (pc := 147) t200_147 rfl ?_
                          refine zs_lload (pc := 149) t200_149 rfl ?_
                          refine zs_invS (pc := 151) (as := [.long w44v, .long w40v]) (st := []) t200_151 (by decide) mf174 rfl rfl ⟨by decide, by decide, Nat.le_of_ble_eq_true rfl, Nat.le_of_ble_eq_true rfl⟩ (C174 w1s w1I ?_) (fun _ _ q => q)
                          intro w47v w47a w47b
                          show zGo X l 6 0 0 200 154 [(14, .long w44v), (12, .long w40v), (10, .long w37v), (8, .long w36v), (6, .long w34v), (5, .ref (181 + 3 * w29n)), (4, .ref (181 + 3 * w24n)), (0, .ref 6), (1, .int a), (2, .int b), (3, .int c)] [.long w47v] w1M _
                          refine zs_goto (pc := 154) t200_154 ?_
                          exact zs_lret (pc := 164) t200_164 mr200 (hQ _ _ w1s w1I ((zFr.refl).trans (w1F.mono rfl)) (zrg64 _).1 (zrg64 _).2)
                      by_cases w48 : w40v.toInt = 0
                      · refine zs_lcmp (pc := 116) t200_116 (c := 0) (zlcE rfl ll0 (by omega)) ?_
                        refine zs_if_neF (pc := 117) t200_117 li0 (by decide) ?_
                        refine zs_ldc2_w (pc := 120) t200_120 (v := -2) (by decide) ?_
                        exact zs_lret (pc := 123) t200_123 mr200 (hQ _ _ w1s w1I ((zFr.refl).trans (w1F.mono rfl)) (zrg64 _).1 (zrg64 _).2)
                      refine zs_lcmp (pc := 116) t200_116 (c := 1) (zlcG rfl ll0 (by omega)) ?_
                      refine zs_if_neT (pc := 117) t200_117 li1 (by decide) ?_
                      refine zs_aload (pc := 124) t200_124 rfl ?_
                      refine zs_get (pc := 126) t200_126 (by decide) (zk1 (w1s.k (fT181_0 w29n w30))) (zfvj rfl) ?_
                      refine zs_lload (pc := 129) t200_129 rfl ?_
                      obtain ⟨w50v, w50⟩ : ∃ v, (zJ w1M (181 + 3 * w29n) 9) * w36v = v := ⟨_, rfl⟩
                      have w50g := zrg64 w50v
                      refine zs_lmul (pc := 131) t200_131 (c := w50v) w50 ?_
                      refine zs_aload (pc := 132) t200_132 rfl ?_
                      refine zs_get (pc := 134) t200_134 (by decide) (zk1 (w1s.k (fT181_0 w24n w25))) (zfvj rfl) ?_
                      refine zs_lload (pc := 137) t200_137 rfl ?_
                      obtain ⟨w51v, w51⟩ : ∃ v, (zJ w1M (181 + 3 * w24n) 9) * w37v = v := ⟨_, rfl⟩
                      have w51g := zrg64 w51v
                      refine zs_lmul (pc := 139) t200_139 (c := w51v) w51 ?_
                      obtain ⟨w52v, w52⟩ : ∃ v, w50v - w51v = v := ⟨_, rfl⟩
                      have w52g := zrg64 w52v
                      refine zs_lsub (pc := 140) t200_140 (c := w52v) w52 ?_
                      refine zs_lstore (pc := 141) t200_141 (ls' := [(14, .long w52v), (12, .long w40v), (10, .long w37v), (8, .long w36v), (6, .long w34v), (5, .ref (181 + 3 * w29n)), (4, .ref (181 + 3 * w24n)), (0, .ref 6), (1, .int a), (2, .int b), (3, .int c)]) (zml mf200 (by decide)) rfl ?_
                      refine zs_iload_n (pc := 143) t200_143 rfl ?_
                      by_cases w53 : c.toInt ≠ 0
                      · refine zs_if_neT (pc := 144) t200_144 rfl (by omega) ?_
                        refine zs_lload (pc := 157) t200_157 rfl ?_
                        refine zs_lload (pc := 159) t200_159 rfl ?_
                        refine zs_invS (pc := 161) (as := [.long w52v, .long w40v]) (st := []) t200_161 (by decide) mf176 rfl rfl ⟨by decide, by decide, Nat.le_of_ble_eq_true rfl, Nat.le_of_ble_eq_true rfl⟩ (C176 w1s w1I ?_) (fun _ _ q => q)
                        intro w54v w54a w54b
                        show zGo X l 6 0 0 200 164 [(14, .long w52v), (12, .long w40v), (10, .long w37v), (8, .long w36v), (6, .long w34v), (5, .ref (181 + 3 * w29n)), (4, .ref (181 + 3 * w24n)), (0, .ref 6), (1, .int a), (2, .int b), (3, .int c)] [.long w54v] w1M _
                        exact zs_lret (pc := 164) t200_164 mr200 (hQ _ _ w1s w1I ((zFr.refl).trans (w1F.mono rfl)) (zrg64 _).1 (zrg64 _).2)
                      · refine zs_if_neF (pc := 144) t200_144 rfl (by omega) ?_
                        refine zs_lload (pc := 147) t200_147 rfl ?_
                        refine zs_lload (pc := 149) t200_149 rfl ?_
                        refine zs_invS (pc := 151) (as := [.long w52v, .long w40v]) (st := []) t200_151 (by decide) mf174 rfl rfl ⟨by decide, by decide, Nat.le_of_ble_eq_true rfl, Nat.le_of_ble_eq_true rfl⟩ (C174 w1s w1I ?_) (fun _ _ q => q)
                        intro w55v w55a w55b
                        show zGo X l 6 0 0 200 154 [(14, .long w52v), (12, .long w40v), (10, .long w37v), (8, .long w36v), (6, .long w34v), (5, .ref (181 + 3 * w29n)), (4, .ref (181 + 3 * w24n)), (0, .ref 6), (1, .int a), (2, .int b), (3, .int c)] [.long w55v] w1M _
                        refine zs_goto (pc := 154) t200_154 ?_
                        exact zs_lret (pc := 164) t200_164 mr200 (hQ _ _ w1s w1I ((zFr.refl).trans (w1F.mono rfl)) (zrg64 _).1 (zrg64 _).2)
                    by_cases w56 : 1 = w34v.toInt
                    · refine zs_lcmp (pc := 2) t134_2 (c := 0) (zlcE ll1 rfl (by omega)) ?_
                      refine zs_if_ltF (pc := 3) t134_3 li0 (by decide) ?_
                      refine zs_lload_n (pc := 6) t134_6 rfl ?_
                      refine zs_goto (pc := 7) t134_7 ?_
                      refine zs_lret (pc := 11) t134_11 mr134 ?_
                      show zGo X l 6 0 0 200 72 [(5, .ref (181 + 3 * w29n)), (4, .ref (181 + 3 * w24n)), (0, .ref 6), (1, .int a), (2, .int b), (3, .int c)] [.long (1 : Int64)] w1M _
                      refine zs_lstore (pc := 72) t200_72 (ls' := [(6, .long (1 : Int64)), (5, .ref (181 + 3 * w29n)), (4, .ref (181 + 3 * w24n)), (0, .ref 6), (1, .int a), (2, .int b), (3, .int c)]) (zml mf200 (by decide)) rfl ?_
                      refine zs_aload (pc := 74) t200_74 rfl ?_
                      refine zs_get (pc := 76) t200_76 (by decide) (zk1 (w1s.k (fT181_0 w24n w25))) (zfvj rfl) ?_
                      refine zs_lload (pc := 79) t200_79 rfl ?_
                      obtain ⟨w57v, w57⟩ : ∃ v, (zJ w1M (181 + 3 * w24n) 8) / (1 : Int64) = v := ⟨_, rfl⟩
                      have w57g := zrg64 w57v
                      refine zs_ldiv (pc := 81) t200_81 (by decide) (c := w57v) w57 ?_
                      refine zs_lstore (pc := 82) t200_82 (ls' := [(8, .long w57v), (6, .long (1 : Int64)), (5, .ref (181 + 3 * w29n)), (4, .ref (181 + 3 * w24n)), (0, .ref 6), (1, .int a), (2, .int b), (3, .int c)]) (zml mf200 (by decide)) rfl ?_
                      refine zs_aload (pc := 84) t200_84 rfl ?_
                      refine zs_get (pc := 86) t200_86 (by decide) (zk1 (w1s.k (fT181_0 w29n w30))) (zfvj rfl) ?_
                      refine zs_lload (pc := 89) t200_89 rfl ?_
                      obtain ⟨w58v, w58⟩ : ∃ v, (zJ w1M (181 + 3 * w29n) 8) / (1 : Int64) = v := ⟨_, rfl⟩
                      have w58g := zrg64 w58v
                      refine zs_ldiv (pc := 91) t200_91 (by decide) (c := w58v) w58 ?_
                      refine zs_lstore (pc := 92) t200_92 (ls' := [(10, .long w58v), (8, .long w57v), (6, .long (1 : Int64)), (5, .ref (181 + 3 * w29n)), (4, .ref (181 + 3 * w24n)), (0, .ref 6), (1, .int a), (2, .int b), (3, .int c)]) (zml mf200 (by decide)) rfl ?_
                      refine zs_aload (pc := 94) t200_94 rfl ?_
                      refine zs_get (pc := 96) t200_96 (by decide) (zk1 (w1s.k (fT181_0 w24n w25))) (zfvj rfl) ?_
                      refine zs_lload (pc := 99) t200_99 rfl ?_
                      obtain ⟨w59v, w59⟩ : ∃ v, (zJ w1M (181 + 3 * w24n) 10) * w58v = v := ⟨_, rfl⟩
                      have w59g := zrg64 w59v
                      refine zs_lmul (pc := 101) t200_101 (c := w59v) w59 ?_
                      refine zs_aload (pc := 102) t200_102 rfl ?_
                      refine zs_get (pc := 104) t200_104 (by decide) (zk1 (w1s.k (fT181_0 w29n w30))) (zfvj rfl) ?_
                      refine zs_lload (pc := 107) t200_107 rfl ?_
                      obtain ⟨w60v, w60⟩ : ∃ v, (zJ w1M (181 + 3 * w29n) 10) * w57v = v := ⟨_, rfl⟩
                      have w60g := zrg64 w60v
                      refine zs_lmul (pc := 109) t200_109 (c := w60v) w60 ?_
                      obtain ⟨w61v, w61⟩ : ∃ v, w59v - w60v = v := ⟨_, rfl⟩
                      have w61g := zrg64 w61v
                      refine zs_lsub (pc := 110) t200_110 (c := w61v) w61 ?_
                      refine zs_lstore (pc := 111) t200_111 (ls' := [(12, .long w61v), (10, .long w58v), (8, .long w57v), (6, .long (1 : Int64)), (5, .ref (181 + 3 * w29n)), (4, .ref (181 + 3 * w24n)), (0, .ref 6), (1, .int a), (2, .int b), (3, .int c)]) (zml mf200 (by decide)) rfl ?_
                      refine zs_lload (pc := 113) t200_113 rfl ?_
                      refine zs_lconst (pc := 115) t200_115 (v := 0) (by decide) ?_
                      by_cases w62 : w61v.toInt < 0
                      · refine zs_lcmp (pc := 116) t200_116 (c := -1) (zlcL rfl ll0 (by omega)) ?_
                        refine zs_if_neT (pc := 117) t200_117 lin1 (by decide) ?_
                        refine zs_aload (pc := 124) t200_124 rfl ?_
                        refine zs_get (pc := 126) t200_126 (by decide) (zk1 (w1s.k (fT181_0 w29n w30))) (zfvj rfl) ?_
                        refine zs_lload (pc := 129) t200_129 rfl ?_
                        obtain ⟨w63v, w63⟩ : ∃ v, (zJ w1M (181 + 3 * w29n) 9) * w57v = v := ⟨_, rfl⟩
                        have w63g := zrg64 w63v
                        refine zs_lmul (pc := 131) t200_131 (c := w63v) w63 ?_
                        refine zs_aload (pc := 132) t200_132 rfl ?_
                        refine zs_get (pc := 134) t200_134 (by decide) (zk1 (w1s.k (fT181_0 w24n w25))) (zfvj rfl) ?_
                        refine zs_lload (pc := 137) t200_137 rfl ?_
                        obtain ⟨w64v, w64⟩ : ∃ v, (zJ w1M (181 + 3 * w24n) 9) * w58v = v := ⟨_, rfl⟩
                        have w64g := zrg64 w64v
                        refine zs_lmul (pc := 139) t200_139 (c := w64v) w64 ?_
                        obtain ⟨w65v, w65⟩ : ∃ v, w63v - w64v = v := ⟨_, rfl⟩
                        have w65g := zrg64 w65v
                        refine zs_lsub (pc := 140) t200_140 (c := w65v) w65 ?_
                        refine zs_lstore (pc := 141) t200_141 (ls' := [(14, .long w65v), (12, .long w61v), (10, .long w58v), (8, .long w57v), (6, .long (1 : Int64)), (5, .ref (181 + 3 * w29n)), (4, .ref (181 + 3 * w24n)), (0, .ref 6), (1, .int a), (2, .int b), (3, .int c)]) (zml mf200 (by decide)) rfl ?_
                        refine zs_iload_n (pc := 143) t200_143 rfl ?_
                        by_cases w66 : c.toInt ≠ 0
                        · refine zs_if_neT (pc := 144) t200_144 rfl (by omega) ?_
                          refine zs_lload (pc := 157) t200_157 rfl ?_
                          refine zs_lload (pc := 159) t200_159 rfl ?_
                          refine zs_invS (pc := 161) (as := [.long w65v, .long w61v]) (st := []) t200_161 (by decide) mf176 rfl rfl ⟨by decide, by decide, Nat.le_of_ble_eq_true rfl, Nat.le_of_ble_eq_true rfl⟩ (C176 w1s w1I ?_) (fun _ _ q => q)
                          intro w67v w67a w67b
                          show zGo X l 6 0 0 200 164 [(14, .long w65v), (12, .long w61v), (10, .long w58v), (8, .long w57v), (6, .long (1 : Int64)), (5, .ref (181 + 3 * w29n)), (4, .ref (181 + 3 * w24n)), (0, .ref 6), (1, .int a), (2, .int b), (3, .int c)] [.long w67v] w1M _
                          exact zs_lret (pc := 164) t200_164 mr200 (hQ _ _ w1s w1I ((zFr.refl).trans (w1F.mono rfl)) (zrg64 _).1 (zrg64 _).2)
                        · refine zs_if_neF (pc := 144) t200_144 rfl (by omega) ?_
                          refine zs_lload (pc := 147) t200_147 rfl ?_
                          refine zs_lload (pc := 149) t200_149 rfl ?_
                          refine zs_invS (pc := 151) (as := [.long w65v, .long w61v]) (st := []) t200_151 (by decide) mf174 rfl rfl ⟨by decide, by decide, Nat.le_of_ble_eq_true rfl, Nat.le_of_ble_eq_true rfl⟩ (C174 w1s w1I ?_) (fun _ _ q => q)
                          intro w68v w68a w68b
                          show zGo X l 6 0 0 200 154 [(14, .long w65v), (12, .long w61v), (10, .long w58v), (8, .long w57v), (6, .long (1 : Int64)), (5, .ref (181 + 3 * w29n)), (4, .ref (181 + 3 * w24n)), (0, .ref 6), (1, .int a), (2, .int b), (3, .int c)] [.long w68v] w1M _
                          refine zs_goto (pc := 154) t200_154 ?_
                          exact zs_lret (pc := 164) t200_164 mr200 (hQ _ _ w1s w1I ((zFr.refl).trans (w1F.mono rfl)) (zrg64 _).1 (zrg64 _).2)
                      by_cases w69 : w61v.toInt = 0
                      · refine zs_lcmp (pc := 116) t200_116 (c := 0) (zlcE rfl ll0 (by omega)) ?_
                        refine zs_if_neF (pc := 117) t200_117 li0 (by decide) ?_
                        refine zs_ldc2_w (pc := 120) t200_120 (v := -2) (by decide) ?_
                        exact zs_lret (pc := 123) t200_123 mr200 (hQ _ _ w1s w1I ((zFr.refl).trans (w1F.mono rfl)) (zrg64 _).1 (zrg64 _).2)
                      refine zs_lcmp (pc := 116) t200_116 (c := 1) (zlcG rfl ll0 (by omega)) ?_
                      refine zs_if_neT (pc := 117) t200_117 li1 (by decide) ?_
                      refine zs_aload (pc := 124) t200_124 rfl ?_
                      refine zs_get (pc := 126) t200_126 (by decide) (zk1 (w1s.k (fT181_0 w29n w30))) (zfvj rfl) ?_
                      refine zs_lload (pc := 129) t200_129 rfl ?_
                      obtain ⟨w71v, w71⟩ : ∃ v, (zJ w1M (181 + 3 * w29n) 9) * w57v = v := ⟨_, rfl⟩
                      have w71g := zrg64 w71v
                      refine zs_lmul (pc := 131) t200_131 (c := w71v) w71 ?_
                      refine zs_aload (pc := 132) t200_132 rfl ?_
                      refine zs_get (pc := 134) t200_134 (by decide) (zk1 (w1s.k (fT181_0 w24n w25))) (zfvj rfl) ?_
                      refine zs_lload (pc := 137) t200_137 rfl ?_
                      obtain ⟨w72v, w72⟩ : ∃ v, (zJ w1M (181 + 3 * w24n) 9) * w58v = v := ⟨_, rfl⟩
                      have w72g := zrg64 w72v
                      refine zs_lmul (pc := 139) t200_139 (c := w72v) w72 ?_
                      obtain ⟨w73v, w73⟩ : ∃ v, w71v - w72v = v := ⟨_, rfl⟩
                      have w73g := zrg64 w73v
                      refine zs_lsub (pc := 140) t200_140 (c := w73v) w73 ?_
                      refine zs_lstore (pc := 141) t200_141 (ls' := [(14, .long w73v), (12, .long w61v), (10, .long w58v), (8, .long w57v), (6, .long (1 : Int64)), (5, .ref (181 + 3 * w29n)), (4, .ref (181 + 3 * w24n)), (0, .ref 6), (1, .int a), (2, .int b), (3, .int c)]) (zml mf200 (by decide)) rfl ?_
                      refine zs_iload_n (pc := 143) t200_143 rfl ?_
                      by_cases w74 : c.toInt ≠ 0
                      · refine zs_if_neT (pc := 144) t200_144 rfl (by omega) ?_
                        refine zs_lload (pc := 157) t200_157 rfl ?_
                        refine zs_lload (pc := 159) t200_159 rfl ?_
                        refine zs_invS (pc := 161) (as := [.long w73v, .long w61v]) (st := []) t200_161 (by decide) mf176 rfl rfl ⟨by decide, by decide, Nat.le_of_ble_eq_true rfl, Nat.le_of_ble_eq_true rfl⟩ (C176 w1s w1I ?_) (fun _ _ q => q)
                        intro w75v w75a w75b
                        show zGo X l 6 0 0 200 164 [(14, .long w73v), (12, .long w61v), (10, .long w58v), (8, .long w57v), (6, .long (1 : Int64)), (5, .ref (181 + 3 * w29n)), (4, .ref (181 + 3 * w24n)), (0, .ref 6), (1, .int a), (2, .int b), (3, .int c)] [.long w75v] w1M _
                        exact zs_lret (pc := 164) t200_164 mr200 (hQ _ _ w1s w1I ((zFr.refl).trans (w1F.mono rfl)) (zrg64 _).1 (zrg64 _).2)
                      · refine zs_if_neF (pc := 144) t200_144 rfl (by omega) ?_
                        refine zs_lload (pc := 147) t200_147 rfl ?_
                        refine zs_lload (pc := 149) t200_149 rfl ?_
                        refine zs_invS (pc := 151) (as := [.long w73v, .long w61v]) (st := []) t200_151 (by decide) mf174 rfl rfl ⟨by decide, by decide, Nat.le_of_ble_eq_true rfl, Nat.le_of_ble_eq_true rfl⟩ (C174 w1s w1I ?_) (fun _ _ q => q)
                        intro w76v w76a w76b
                        show zGo X l 6 0 0 200 154 [(14, .long w73v), (12, .long w61v), (10, .long w58v), (8, .long w57v), (6, .long (1 : Int64)), (5, .ref (181 + 3 * w29n)), (4, .ref (181 + 3 * w24n)), (0, .ref 6), (1, .int a), (2, .int b), (3, .int c)] [.long w76v] w1M _
                        refine zs_goto (pc := 154) t200_154 ?_
                        exact zs_lret (pc := 164) t200_164 mr200 (hQ _ _ w1s w1I ((zFr.refl).trans (w1F.mono rfl)) (zrg64 _).1 (zrg64 _).2)
                    refine zs_lcmp (pc := 2) t134_2 (c := 1) (zlcG ll1 rfl (by omega)) ?_
                    refine zs_if_ltF (pc := 3) t134_3 li1 (by decide) ?_
                    refine zs_lload_n (pc := 6) t134_6 rfl ?_
                    refine zs_goto (pc := 7) t134_7 ?_
                    refine zs_lret (pc := 11) t134_11 mr134 ?_
                    show zGo X l 6 0 0 200 72 [(5, .ref (181 + 3 * w29n)), (4, .ref (181 + 3 * w24n)), (0, .ref 6), (1, .int a), (2, .int b), (3, .int c)] [.long (1 : Int64)] w1M _
                    refine zs_lstore (pc := 72) t200_72 (ls' := [(6, .long (1 : Int64)), (5, .ref (181 + 3 * w29n)), (4, .ref (181 + 3 * w24n)), (0, .ref 6), (1, .int a), (2, .int b), (3, .int c)]) (zml mf200 (by decide)) rfl ?_
                    refine zs_aload (pc := 74) t200_74 rfl ?_
                    refine zs_get (pc := 76) t200_76 (by decide) (zk1 (w1s.k (fT181_0 w24n w25))) (zfvj rfl) ?_
                    refine zs_lload (pc := 79) t200_79 rfl ?_
                    obtain ⟨w78v, w78⟩ : ∃ v, (zJ w1M (181 + 3 * w24n) 8) / (1 : Int64) = v := ⟨_, rfl⟩
                    have w78g := zrg64 w78v
                    refine zs_ldiv (pc := 81) t200_81 (by decide) (c := w78v) w78 ?_
                    refine zs_lstore (pc := 82) t200_82 (ls' := [(8, .long w78v), (6, .long (1 : Int64)), (5, .ref (181 + 3 * w29n)), (4, .ref (181 + 3 * w24n)), (0, .ref 6), (1, .int a), (2, .int b), (3, .int c)]) (zml mf200 (by decide)) rfl ?_
                    refine zs_aload (pc := 84) t200_84 rfl ?_
                    refine zs_get (pc := 86) t200_86 (by decide) (zk1 (w1s.k (fT181_0 w29n w30))) (zfvj rfl) ?_
                    refine zs_lload (pc := 89) t200_89 rfl ?_
                    obtain ⟨w79v, w79⟩ : ∃ v, (zJ w1M (181 + 3 * w29n) 8) / (1 : Int64) = v := ⟨_, rfl⟩
                    have w79g := zrg64 w79v
                    refine zs_ldiv (pc := 91) t200_91 (by decide) (c := w79v) w79 ?_
                    refine zs_lstore (pc := 92) t200_92 (ls' := [(10, .long w79v), (8, .long w78v), (6, .long (1 : Int64)), (5, .ref (181 + 3 * w29n)), (4, .ref (181 + 3 * w24n)), (0, .ref 6), (1, .int a), (2, .int b), (3, .int c)]) (zml mf200 (by decide)) rfl ?_
                    refine zs_aload (pc := 94) t200_94 rfl ?_
                    refine zs_get (pc := 96) t200_96 (by decide) (zk1 (w1s.k (fT181_0 w24n w25))) (zfvj rfl) ?_
                    refine zs_lload (pc := 99) t200_99 rfl ?_
                    obtain ⟨w80v, w80⟩ : ∃ v, (zJ w1M (181 + 3 * w24n) 10) * w79v = v := ⟨_, rfl⟩
                    have w80g := zrg64 w80v
                    refine zs_lmul (pc := 101) t200_101 (c := w80v) w80 ?_
                    refine zs_aload (pc := 102) t200_102 rfl ?_
                    refine zs_get (pc := 104) t200_104 (by decide) (zk1 (w1s.k (fT181_0 w29n w30))) (zfvj rfl) ?_
                    refine zs_lload (pc := 107) t200_107 rfl ?_
                    obtain ⟨w81v, w81⟩ : ∃ v, (zJ w1M (181 + 3 * w29n) 10) * w78v = v := ⟨_, rfl⟩
                    have w81g := zrg64 w81v
                    refine zs_lmul (pc := 109) t200_109 (c := w81v) w81 ?_
                    obtain ⟨w82v, w82⟩ : ∃ v, w80v - w81v = v := ⟨_, rfl⟩
                    have w82g := zrg64 w82v
                    refine zs_lsub (pc := 110) t200_110 (c := w82v) w82 ?_
                    refine zs_lstore (pc := 111) t200_111 (ls' := [(12, .long w82v), (10, .long w79v), (8, .long w78v), (6, .long (1 : Int64)), (5, .ref (181 + 3 * w29n)), (4, .ref (181 + 3 * w24n)), (0, .ref 6), (1, .int a), (2, .int b), (3, .int c)]) (zml mf200 (by decide)) rfl ?_
                    refine zs_lload (pc := 113) t200_113 rfl ?_
                    refine zs_lconst (pc := 115) t200_115 (v := 0) (by decide) ?_
                    by_cases w83 : w82v.toInt < 0
                    · refine zs_lcmp (pc := 116) t200_116 (c := -1) (zlcL rfl ll0 (by omega)) ?_
                      refine zs_if_neT (pc := 117) t200_117 lin1 (by decide) ?_
                      refine zs_aload (pc := 124) t200_124 rfl ?_
                      refine zs_get (pc := 126) t200_126 (by decide) (zk1 (w1s.k (fT181_0 w29n w30))) (zfvj rfl) ?_
                      refine zs_lload (pc := 129) t200_129 rfl ?_
                      obtain ⟨w84v, w84⟩ : ∃ v, (zJ w1M (181 + 3 * w29n) 9) * w78v = v := ⟨_, rfl⟩
                      have w84g := zrg64 w84v
                      refine zs_lmul (pc := 131) t200_131 (c := w84v) w84 ?_
                      refine zs_aload (pc := 132) t200_132 rfl ?_
                      refine zs_get (pc := 134) t200_134 (by decide) (zk1 (w1s.k (fT181_0 w24n w25))) (zfvj rfl) ?_
                      refine zs_lload (pc := 137) t200_137 rfl ?_
                      obtain ⟨w85v, w85⟩ : ∃ v, (zJ w1M (181 + 3 * w24n) 9) * w79v = v := ⟨_, rfl⟩
                      have w85g := zrg64 w85v
                      refine zs_lmul (pc := 139) t200_139 (c := w85v) w85 ?_
                      obtain ⟨w86v, w86⟩ : ∃ v, w84v - w85v = v := ⟨_, rfl⟩
                      have w86g := zrg64 w86v
                      refine zs_lsub (pc := 140) t200_140 (c := w86v) w86 ?_
                      refine zs_lstore (pc := 141) t200_141 (ls' := [(14, .long w86v), (12, .long w82v), (10, .long w79v), (8, .long w78v), (6, .long (1 : Int64)), (5, .ref (181 + 3 * w29n)), (4, .ref (181 + 3 * w24n)), (0, .ref 6), (1, .int a), (2, .int b), (3, .int c)]) (zml mf200 (by decide)) rfl ?_
                      refine zs_iload_n (pc := 143) t200_143 rfl ?_
                      by_cases w87 : c.toInt ≠ 0
                      · refine zs_if_neT (pc := 144) t200_144 rfl (by omega) ?_
                        refine zs_lload (pc := 157) t200_157 rfl ?_
                        refine zs_lload (pc := 159) t200_159 rfl ?_
                        refine zs_invS (pc := 161) (as := [.long w86v, .long w82v]) (st := []) t200_161 (by decide) mf176 rfl rfl ⟨by decide, by decide, Nat.le_of_ble_eq_true rfl, Nat.le_of_ble_eq_true rfl⟩ (C176 w1s w1I ?_) (fun _ _ q => q)
                        intro w88v w88a w88b
                        show zGo X l 6 0 0 200 164 [(14, .long w86v), (12, .long w82v), (10, .long w79v), (8, .long w78v), (6, .long (1 : Int64)), (5, .ref (181 + 3 * w29n)), (4, .ref (181 + 3 * w24n)), (0, .ref 6), (1, .int a), (2, .int b), (3, .int c)] [.long w88v] w1M _
                        exact zs_lret (pc := 164) t200_164 mr200 (hQ _ _ w1s w1I ((zFr.refl).trans (w1F.mono rfl)) (zrg64 _).1 (zrg64 _).2)
                      · refine zs_if_neF (pc := 144) t200_144 rfl (by omega) ?_
                        refine zs_lload (pc := 147) t200_147 rfl ?_
                        refine zs_lload (pc := 149) t200_149 rfl ?_
                        refine zs_invS (pc := 151) (as := [.long w86v, .long w82v]) (st := []) t200_151 (by decide) mf174 rfl rfl ⟨by decide, by decide, Nat.le_of_ble_eq_true rfl, Nat.le_of_ble_eq_true rfl⟩ (C174 w1s w1I ?_) (fun _ _ q => q)
                        intro w89v w89a w89b
                        show zGo X l 6 0 0 200 154 [(14, .long w86v), (12, .long w82v), (10, .long w79v), (8, .long w78v), (6, .long (1 : Int64)), (5, .ref (181 + 3 * w29n)), (4, .ref (181 + 3 * w24n)), (0, .ref 6), (1, .int a), (2, .int b), (3, .int c)] [.long w89v] w1M _
                        refine zs_goto (pc := 154) t200_154 ?_
                        exact zs_lret (pc := 164) t200_164 mr200 (hQ _ _ w1s w1I ((zFr.refl).trans (w1F.mono rfl)) (zrg64 _).1 (zrg64 _).2)
                    by_cases w90 : w82v.toInt = 0
                    · refine zs_lcmp (pc := 116) t200_116 (c := 0) (zlcE rfl ll0 (by omega)) ?_
                      refine zs_if_neF (pc := 117) t200_117 li0 (by decide) ?_
                      refine zs_ldc2_w (pc := 120) t200_120 (v := -2) (by decide) ?_
                      exact zs_lret (pc := 123) t200_123 mr200 (hQ _ _ w1s w1I ((zFr.refl).trans (w1F.mono rfl)) (zrg64 _).1 (zrg64 _).2)
                    refine zs_lcmp (pc := 116) t200_116 (c := 1) (zlcG rfl ll0 (by omega)) ?_
                    refine zs_if_neT (pc := 117) t200_117 li1 (by decide) ?_
                    refine zs_aload (pc := 124) t200_124 rfl ?_
                    refine zs_get (pc := 126) t200_126 (by decide) (zk1 (w1s.k (fT181_0 w29n w30))) (zfvj rfl) ?_
                    refine zs_lload (pc := 129) t200_129 rfl ?_
                    obtain ⟨w92v, w92⟩ : ∃ v, (zJ w1M (181 + 3 * w29n) 9) * w78v = v := ⟨_, rfl⟩
                    have w92g := zrg64 w92v
                    refine zs_lmul (pc := 131) t200_131 (c := w92v) w92 ?_
                    refine zs_aload (pc := 132) t200_132 rfl ?_
                    refine zs_get (pc := 134) t200_134 (by decide) (zk1 (w1s.k (fT181_0 w24n w25))) (zfvj rfl) ?_
                    refine zs_lload (pc := 137) t200_137 rfl ?_
                    obtain ⟨w93v, w93⟩ : ∃ v, (zJ w1M (181 + 3 * w24n) 9) * w79v = v := ⟨_, rfl⟩
                    have w93g := zrg64 w93v
                    refine zs_lmul (pc := 139) t200_139 (c := w93v) w93 ?_
                    obtain ⟨w94v, w94⟩ : ∃ v, w92v - w93v = v := ⟨_, rfl⟩
                    have w94g := zrg64 w94v
                    refine zs_lsub (pc := 140) t200_140 (c := w94v) w94 ?_
                    refine zs_lstore (pc := 141) t200_141 (ls' := [(14, .long w94v), (12, .long w82v), (10, .long w79v), (8, .long w78v), (6, .long (1 : Int64)), (5, .ref (181 + 3 * w29n)), (4, .ref (181 + 3 * w24n)), (0, .ref 6), (1, .int a), (2, .int b), (3, .int c)]) (zml mf200 (by decide)) rfl ?_
                    refine zs_iload_n (pc := 143) t200_143 rfl ?_
                    by_cases w95 : c.toInt ≠ 0
                    · refine zs_if_neT (pc := 144) t200_144 rfl (by omega) ?_
                      refine zs_lload (pc := 157) t200_157 rfl ?_
                      refine zs_lload (pc := 159) t200_159 rfl ?_
                      refine zs_invS (pc := 161) (as := [.long w94v, .long w82v]) (st := []) t200_161 (by decide) mf176 rfl rfl ⟨by decide, by decide, Nat.le_of_ble_eq_true rfl, Nat.le_of_ble_eq_true rfl⟩ (C176 w1s w1I ?_) (fun _ _ q => q)
                      intro w96v w96a w96b
                      show zGo X l 6 0 0 200 164 [(14, .long w94v), (12, .long w82v), (10, .long w79v), (8, .long w78v), (6, .long (1 : Int64)), (5, .ref (181 + 3 * w29n)), (4, .ref (181 + 3 * w24n)), (0, .ref 6), (1, .int a), (2, .int b), (3, .int c)] [.long w96v] w1M _
                      exact zs_lret (pc := 164) t200_164 mr200 (hQ _ _ w1s w1I ((zFr.refl).trans (w1F.mono rfl)) (zrg64 _).1 (zrg64 _).2)
                    · refine zs_if_neF (pc := 144) t200_144 rfl (by omega) ?_
                      refine zs_lload (pc := 147) t200_147 rfl ?_
                      refine zs_lload (pc := 149) t200_149 rfl ?_
                      refine zs_invS (pc := 151) (as := [.long w94v, .long w82v]) (st := []) t200_151 (by decide) mf174 rfl rfl ⟨by decide, by decide, Nat.le_of_ble_eq_true rfl, Nat.le_of_ble_eq_true rfl⟩ (C174 w1s w1I ?_) (fun _ _ q => q)
                      intro w97v w97a w97b
                      show zGo X l 6 0 0 200 154 [(14, .long w94v), (12, .long w82v), (10, .long w79v), (8, .long w78v), (6, .long (1 : Int64)), (5, .ref (181 + 3 * w29n)), (4, .ref (181 + 3 * w24n)), (0, .ref 6), (1, .int a), (2, .int b), (3, .int c)] [.long w97v] w1M _
                      refine zs_goto (pc := 154) t200_154 ?_
                      exact zs_lret (pc := 164) t200_164 mr200 (hQ _ _ w1s w1I ((zFr.refl).trans (w1F.mono rfl)) (zrg64 _).1 (zrg64 _).2)
