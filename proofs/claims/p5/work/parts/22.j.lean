theorem C147_6 {X : zX} {l : Launch} {M : zM} {Q : Option Value → zM → Prop} {a b c : Int32} (hs : zSk zMc M) (hI : zIv cLo cHi M) (hQ : ∀ (M' : zM) (v : Int32), zSk zMc M' → zIv cLo cHi M' → zFr [(6, 335, none)] M M' → (-2147483648) ≤ v.toInt → v.toInt ≤ 2147483647 → Q (some (.int v)) M') : zCall X l 2 0 0 147 [.ref 6, .int a, .int b, .int c] M Q := by
  have ga := zrg a
  have gb := zrg b
  have gc := zrg c
  refine zs_in (by decide) mf147 (Nat.le_of_ble_eq_true rfl) ?_
  show zGo X l 2 0 0 147 0 [(0, .ref 6), (1, .int a), (2, .int b), (3, .int c)] [] M _
  refine zs_aload_n (pc := 0) t147_0 rfl ?_
  refine zs_get (pc := 1) t147_1 (by decide) (zk1 (hs.k fk_zMc_6)) (hs.p rfl fv_zMc_6_0) ?_
  refine zs_iload_n (pc := 4) t147_4 rfl ?_
  refine zs_invV (pc := 5) (k := 7) (as' := [.int a]) (st := []) t147_5 mf41 rfl rfl (Or.inl ⟨by decide, (zk1 (hs.k fk_zMc_7))⟩) ⟨by decide, by decide, Nat.le_of_ble_eq_true rfl, Nat.le_of_ble_eq_true rfl⟩ (zs_in (by decide) mf41 (Nat.le_of_ble_eq_true rfl) ?_) (fun _ _ q => q)
  show zGo X l 0 0 0 41 0 [(0, .ref 7), (1, .int a)] [] M _
  refine zs_iload_n (pc := 0) t41_0 rfl ?_
  by_cases w1 : a.toInt < 0
  · refine zs_if_ltT (pc := 1) t41_1 rfl (by omega) ?_
    refine zs_iconst (pc := 16) t41_16 (v := 0) (by decide) ?_
    refine zs_iret (pc := 17) t41_17 mr41 (by decide) ?_
    show zGo X l 2 0 0 147 8 [(0, .ref 6), (1, .int a), (2, .int b), (3, .int c)] [.int (0 : Int32)] M _
    refine zs_if_eqT (pc := 8) t147_8 li0 (by decide) ?_
    refine zs_ldc (pc := 35) t147_35 (v := -100000) rfl (by decide) ?_
    exact zs_iret (pc := 37) t147_37 mr147 (by decide) (hQ _ _ hs hI (zFr.refl) (zrg _).1 (zrg _).2)
  · refine zs_if_ltF (pc := 1) t41_1 rfl (by omega) ?_
    refine zs_iload_n (pc := 4) t41_4 rfl ?_
    refine zs_aload_n (pc := 5) t41_5 rfl ?_
    have w2 := ib7_0 hI
    refine zs_get (pc := 6) t41_6 (by decide) (zk1 (hs.k fk_zMc_7)) (zfvi rfl rfl) ?_
    by_cases w3 : (zI M 7 0).toInt ≤ a.toInt
    · refine zs_icmp_geT (pc := 9) t41_9 rfl rfl (by omega) ?_
      refine zs_iconst (pc := 16) t41_16 (v := 0) (by decide) ?_
      refine zs_iret (pc := 17) t41_17 mr41 (by decide) ?_
      show zGo X l 2 0 0 147 8 [(0, .ref 6), (1, .int a), (2, .int b), (3, .int c)] [.int (0 : Int32)] M _
      refine zs_if_eqT (pc := 8) t147_8 li0 (by decide) ?_
      refine zs_ldc (pc := 35) t147_35 (v := -100000) rfl (by decide) ?_
      exact zs_iret (pc := 37) t147_37 mr147 (by decide) (hQ _ _ hs hI (zFr.refl) (zrg _).1 (zrg _).2)
    · refine zs_icmp_geF (pc := 9) t41_9 rfl rfl (by omega) ?_
      refine zs_iconst (pc := 12) t41_12 (v := 1) (by decide) ?_
      refine zs_goto (pc := 13) t41_13 ?_
      refine zs_iret (pc := 17) t41_17 mr41 (by decide) ?_
      show zGo X l 2 0 0 147 8 [(0, .ref 6), (1, .int a), (2, .int b), (3, .int c)] [.int (1 : Int32)] M _
      refine zs_if_eqF (pc := 8) t147_8 li1 (by decide) ?_
      refine zs_iload_n (pc := 11) t147_11 rfl ?_
      refine zs_bipush (pc := 12) t147_12 (v := -99) (by decide) ?_
      by_cases w4 : b.toInt < (-99)
      · refine zs_icmp_ltT (pc := 14) t147_14 rfl lin99 (by omega) ?_
        refine zs_ldc (pc := 35) t147_35 (v := -100000) rfl (by decide) ?_
        exact zs_iret (pc := 37) t147_37 mr147 (by decide) (hQ _ _ hs hI (zFr.refl) (zrg _).1 (zrg _).2)
      · refine zs_icmp_ltF (pc := 14) t147_14 rfl lin99 (by omega) ?_
        refine zs_iload_n (pc := 17) t147_17 rfl ?_
        refine zs_bipush (pc := 18) t147_18 (v := 99) (by decide) ?_
        by_cases w5 : 99 < b.toInt
        · refine zs_icmp_gtT (pc := 20) t147_20 rfl li99 (by omega) ?_
          refine zs_ldc (pc := 35) t147_35 (v := -100000) rfl (by decide) ?_
          exact zs_iret (pc := 37) t147_37 mr147 (by decide) (hQ _ _ hs hI (zFr.refl) (zrg _).1 (zrg _).2)
        · refine zs_icmp_gtF (pc := 20) t147_20 rfl li99 (by omega) ?_
          refine zs_iload_n (pc := 23) t147_23 rfl ?_
          refine zs_bipush (pc := 24) t147_24 (v := -99) (by decide) ?_
          by_cases w6 : c.toInt < (-99)
          · refine zs_icmp_ltT (pc := 26) t147_26 rfl lin99 (by omega) ?_
            refine zs_ldc (pc := 35) t147_35 (v := -100000) rfl (by decide) ?_
            exact zs_iret (pc := 37) t147_37 mr147 (by decide) (hQ _ _ hs hI (zFr.refl) (zrg _).1 (zrg _).2)
          · refine zs_icmp_ltF (pc := 26) t147_26 rfl lin99 (by omega) ?_
            refine zs_iload_n (pc := 29) t147_29 rfl ?_
            refine zs_bipush (pc := 30) t147_30 (v := 99) (by decide) ?_
            by_cases w7 : c.toInt ≤ 99
            · refine zs_icmp_leT (pc := 32) t147_32 rfl li99 (by omega) ?_
              refine zs_aload_n (pc := 38) t147_38 rfl ?_
              refine zs_get (pc := 39) t147_39 (by decide) (zk1 (hs.k fk_zMc_6)) (hs.p rfl fv_zMc_6_0) ?_
              refine zs_iload_n (pc := 42) t147_42 rfl ?_
              refine zs_iload_n (pc := 43) t147_43 rfl ?_
              refine zs_invV (pc := 44) (k := 7) (as' := [.int a, .int b]) (st := []) t147_44 mf53 rfl rfl (Or.inl ⟨by decide, (zk1 (hs.k fk_zMc_7))⟩) ⟨by decide, by decide, Nat.le_of_ble_eq_true rfl, Nat.le_of_ble_eq_true rfl⟩ (C53_7 hs hI ?_) (fun _ _ q => q)
              intro w8v w8a w8b
              show zGo X l 2 0 0 147 47 [(0, .ref 6), (1, .int a), (2, .int b), (3, .int c)] [.int w8v] M _
              refine zs_aload_n (pc := 47) t147_47 rfl ?_
              refine zs_get (pc := 48) t147_48 (by decide) (zk1 (hs.k fk_zMc_6)) (hs.p rfl fv_zMc_6_0) ?_
              refine zs_iload_n (pc := 51) t147_51 rfl ?_
              refine zs_iload_n (pc := 52) t147_52 rfl ?_
              refine zs_invV (pc := 53) (k := 7) (as' := [.int a, .int c]) (st := [.int w8v]) t147_53 mf55 rfl rfl (Or.inl ⟨by decide, (zk1 (hs.k fk_zMc_7))⟩) ⟨by decide, by decide, Nat.le_of_ble_eq_true rfl, Nat.le_of_ble_eq_true rfl⟩ (C55_7 hs hI ?_) (fun _ _ q => q)
              intro w9v w9a w9b
              show zGo X l 2 0 0 147 56 [(0, .ref 6), (1, .int a), (2, .int b), (3, .int c)] [.int w9v, .int w8v] M _
              obtain ⟨w10v, w10⟩ : ∃ v, v = w8v + w9v := ⟨_, rfl⟩
              have w10g := zrg w10v
              refine zs_iadd (pc := 56) t147_56 (c := w10v) w10.symm ?_
              exact zs_iret (pc := 57) t147_57 mr147 rfl (hQ _ _ hs hI (zFr.refl) (zrg _).1 (zrg _).2)
            · refine zs_icmp_leF (pc := 32) t147_32 rfl li99 (by omega) ?_
              refine zs_ldc (pc := 35) t147_35 (v := -100000) rfl (by decide) ?_
              exact zs_iret (pc := 37) t147_37 mr147 (by decide) (hQ _ _ hs hI (zFr.refl) (zrg _).1 (zrg _).2)
theorem C148_6 {X : zX} {l : Launch} {M : zM} {Q : Option Value → zM → Prop} {a b c : Int32} (hs : zSk zMc M) (hI : zIv cLo cHi M) (hQ : ∀ (M' : zM) (v : Int32), zSk zMc M' → zIv cLo cHi M' → zFr [(6, 335, none)] M M' → (-2147483648) ≤ v.toInt → v.toInt ≤ 2147483647 → Q (some (.int v)) M') : zCall X l 3 0 0 148 [.ref 6, .int a, .int b, .int c] M Q := by
  have ga := zrg a
  have gb := zrg b
  have gc := zrg c
  refine zs_in (by decide) mf148 (Nat.le_of_ble_eq_true rfl) ?_
  show zGo X l 3 0 0 148 0 [(0, .ref 6), (1, .int a), (2, .int b), (3, .int c)] [] M _
  refine zs_iload_n (pc := 0) t148_0 rfl ?_
  refine zs_aload_n (pc := 1) t148_1 rfl ?_
  refine zs_get (pc := 2) t148_2 (by decide) (zk1 (hs.k fk_zMc_6)) (hs.p rfl fv_zMc_6_0) ?_
  refine zs_iconst (pc := 5) t148_5 (v := 0) (by decide) ?_
  refine zs_invV (pc := 6) (k := 7) (as' := [.int (0 : Int32)]) (st := [.int a]) t148_6 mf96 rfl rfl (Or.inl ⟨by decide, (zk1 (hs.k fk_zMc_7))⟩) ⟨by decide, by decide, Nat.le_of_ble_eq_true rfl, Nat.le_of_ble_eq_true rfl⟩ (zs_in (by decide) mf96 (Nat.le_of_ble_eq_true rfl) ?_) (fun _ _ q => q)
  show zGo X l 0 0 0 96 0 [(0, .ref 7), (1, .int (0 : Int32))] [] M _
  refine zs_iload_n (pc := 0) t96_0 rfl ?_
  refine zs_if_ltF (pc := 1) t96_1 li0 (by decide) ?_
  refine zs_iload_n (pc := 4) t96_4 rfl ?_
  refine zs_bipush (pc := 5) t96_5 (v := 9) (by decide) ?_
  refine zs_icmp_geF (pc := 7) t96_7 li0 li9 (by decide) ?_
  refine zs_aload_n (pc := 10) t96_10 rfl ?_
  refine zs_get (pc := 11) t96_11 (by decide) (zk1 (hs.k fk_zMc_7)) (hs.p rfl fv_zMc_7_12) ?_
  refine zs_iload_n (pc := 14) t96_14 rfl ?_
  have w1 := ib17 hI 0
  refine zs_iald (pc := 15) t96_15 (j := 0) (by decide) (zk1 (hs.k fk_zMc_17)) li0 (zk2 (hs.k fk_zMc_17) (by decide)) rfl ?_
  refine zs_goto (pc := 16) t96_16 ?_
  refine zs_iret (pc := 20) t96_20 mr96 rfl ?_
  show zGo X l 3 0 0 148 9 [(0, .ref 6), (1, .int a), (2, .int b), (3, .int c)] [.int (zI M 17 0), .int a] M _
  obtain ⟨w2v, w2e⟩ : ∃ v, -(zI M 17 0) = v := ⟨_, rfl⟩
  have w2 : w2v.toInt = -(zI M 17 0).toInt := by rw [← w2e]; exact zneg rfl (by omega)
  refine zs_ineg (pc := 9) t148_9 (c := w2v) w2e ?_
  refine zs_aload_n (pc := 10) t148_10 rfl ?_
  refine zs_get (pc := 11) t148_11 (by decide) (zk1 (hs.k fk_zMc_6)) (hs.p rfl fv_zMc_6_0) ?_
  refine zs_iconst (pc := 14) t148_14 (v := 0) (by decide) ?_
  refine zs_invV (pc := 15) (k := 7) (as' := [.int (0 : Int32)]) (st := [.int w2v, .int a]) t148_15 mf96 rfl rfl (Or.inl ⟨by decide, (zk1 (hs.k fk_zMc_7))⟩) ⟨by decide, by decide, Nat.le_of_ble_eq_true rfl, Nat.le_of_ble_eq_true rfl⟩ (zs_in (by decide) mf96 (Nat.le_of_ble_eq_true rfl) ?_) (fun _ _ q => q)
  show zGo X l 0 0 0 96 0 [(0, .ref 7), (1, .int (0 : Int32))] [] M _
  refine zs_iload_n (pc := 0) t96_0 rfl ?_
  refine zs_if_ltF (pc := 1) t96_1 li0 (by decide) ?_
  refine zs_iload_n (pc := 4) t96_4 rfl ?_
  refine zs_bipush (pc := 5) t96_5 (v := 9) (by decide) ?_
  refine zs_icmp_geF (pc := 7) t96_7 li0 li9 (by decide) ?_
  refine zs_aload_n (pc := 10) t96_10 rfl ?_
  refine zs_get (pc := 11) t96_11 (by decide) (zk1 (hs.k fk_zMc_7)) (hs.p rfl fv_zMc_7_12) ?_
  refine zs_iload_n (pc := 14) t96_14 rfl ?_
  refine zs_iald (pc := 15) t96_15 (j := 0) (by decide) (zk1 (hs.k fk_zMc_17)) li0 (zk2 (hs.k fk_zMc_17) (by decide)) rfl ?_
  refine zs_goto (pc := 16) t96_16 ?_
  refine zs_iret (pc := 20) t96_20 mr96 rfl ?_
  show zGo X l 3 0 0 148 18 [(0, .ref 6), (1, .int a), (2, .int b), (3, .int c)] [.int (zI M 17 0), .int w2v, .int a] M _
  refine zs_invS (pc := 18) (as := [.int a, .int w2v, .int (zI M 17 0)]) (st := []) t148_18 (by decide) mf39 rfl rfl ⟨by decide, by decide, Nat.le_of_ble_eq_true rfl, Nat.le_of_ble_eq_true rfl⟩ (zs_in (by decide) mf39 (Nat.le_of_ble_eq_true rfl) ?_) (fun _ _ q => q)
  show zGo X l 0 0 0 39 0 [(0, .int a), (1, .int w2v), (2, .int (zI M 17 0))] [] M _
  refine zs_iload_n (pc := 0) t39_0 rfl ?_
  refine zs_iload_n (pc := 1) t39_1 rfl ?_
  by_cases w3 : a.toInt < (-(zI M 17 0).toInt)
  · refine zs_icmp_ltT (pc := 2) t39_2 rfl w2 (by omega) ?_
    refine zs_iconst (pc := 14) t39_14 (v := 0) (by decide) ?_
    refine zs_iret (pc := 15) t39_15 mr39 (by decide) ?_
    show zGo X l 3 0 0 148 21 [(0, .ref 6), (1, .int a), (2, .int b), (3, .int c)] [.int (0 : Int32)] M _
    refine zs_if_eqT (pc := 21) t148_21 li0 (by decide) ?_
    refine zs_iconst (pc := 48) t148_48 (v := -1) (by decide) ?_
    exact zs_iret (pc := 49) t148_49 mr148 (by decide) (hQ _ _ hs hI (zFr.refl) (zrg _).1 (zrg _).2)
  · refine zs_icmp_ltF (pc := 2) t39_2 rfl w2 (by omega) ?_
    refine zs_iload_n (pc := 5) t39_5 rfl ?_
    refine zs_iload_n (pc := 6) t39_6 rfl ?_
    by_cases w4 : (zI M 17 0).toInt < a.toInt
    · refine zs_icmp_gtT (pc := 7) t39_7 rfl rfl (by omega) ?_
      refine zs_iconst (pc := 14) t39_14 (v := 0) (by decide) ?_
      refine zs_iret (pc := 15) t39_15 mr39 (by decide) ?_
      show zGo X l 3 0 0 148 21 [(0, .ref 6), (1, .int a), (2, .int b), (3, .int c)] [.int (0 : Int32)] M _
      refine zs_if_eqT (pc := 21) t148_21 li0 (by decide) ?_
      refine zs_iconst (pc := 48) t148_48 (v := -1) (by decide) ?_
      exact zs_iret (pc := 49) t148_49 mr148 (by decide) (hQ _ _ hs hI (zFr.refl) (zrg _).1 (zrg _).2)
    · refine zs_icmp_gtF (pc := 7) t39_7 rfl rfl (by omega) ?_
      refine zs_iconst (pc := 10) t39_10 (v := 1) (by decide) ?_
      refine zs_goto (pc := 11) t39_11 ?_
      refine zs_iret (pc := 15) t39_15 mr39 (by decide) ?_
      show zGo X l 3 0 0 148 21 [(0, .ref 6), (1, .int a), (2, .int b), (3, .int c)] [.int (1 : Int32)] M _
      refine zs_if_eqF (pc := 21) t148_21 li1 (by decide) ?_
      refine zs_iload_n (pc := 24) t148_24 rfl ?_
      refine zs_aload_n (pc := 25) t148_25 rfl ?_
      refine zs_get (pc := 26) t148_26 (by decide) (zk1 (hs.k fk_zMc_6)) (hs.p rfl fv_zMc_6_0) ?_
      refine zs_iconst (pc := 29) t148_29 (v := 1) (by decide) ?_
      refine zs_invV (pc := 30) (k := 7) (as' := [.int (1 : Int32)]) (st := [.int b]) t148_30 mf96 rfl rfl (Or.inl ⟨by decide, (zk1 (hs.k fk_zMc_7))⟩) ⟨by decide, by decide, Nat.le_of_ble_eq_true rfl, Nat.le_of_ble_eq_true rfl⟩ (zs_in (by decide) mf96 (Nat.le_of_ble_eq_true rfl) ?_) (fun _ _ q => q)
      show zGo X l 0 0 0 96 0 [(0, .ref 7), (1, .int (1 : Int32))] [] M _
      refine zs_iload_n (pc := 0) t96_0 rfl ?_
      refine zs_if_ltF (pc := 1) t96_1 li1 (by decide) ?_
      refine zs_iload_n (pc := 4) t96_4 rfl ?_
      refine zs_bipush (pc := 5) t96_5 (v := 9) (by decide) ?_
      refine zs_icmp_geF (pc := 7) t96_7 li1 li9 (by decide) ?_
      refine zs_aload_n (pc := 10) t96_10 rfl ?_
      refine zs_get (pc := 11) t96_11 (by decide) (zk1 (hs.k fk_zMc_7)) (hs.p rfl fv_zMc_7_12) ?_
      refine zs_iload_n (pc := 14) t96_14 rfl ?_
      have w5 := ib17 hI 1
      refine zs_iald (pc := 15) t96_15 (j := 1) (by decide) (zk1 (hs.k fk_zMc_17)) li1 (zk2 (hs.k fk_zMc_17) (by decide)) rfl ?_
      refine zs_goto (pc := 16) t96_16 ?_
      refine zs_iret (pc := 20) t96_20 mr96 rfl ?_
      show zGo X l 3 0 0 148 33 [(0, .ref 6), (1, .int a), (2, .int b), (3, .int c)] [.int (zI M 17 1), .int b] M _
      obtain ⟨w6v, w6e⟩ : ∃ v, -(zI M 17 1) = v := ⟨_, rfl⟩
      have w6 : w6v.toInt = -(zI M 17 1).toInt := by rw [← w6e]; exact zneg rfl (by omega)
      refine zs_ineg (pc := 33) t148_33 (c := w6v) w6e ?_
      refine zs_aload_n (pc := 34) t148_34 rfl ?_
      refine zs_get (pc := 35) t148_35 (by decide) (zk1 (hs.k fk_zMc_6)) (hs.p rfl fv_zMc_6_0) ?_
      refine zs_iconst (pc := 38) t148_38 (v := 1) (by decide) ?_
      refine zs_invV (pc := 39) (k := 7) (as' := [.int (1 : Int32)]) (st := [.int w6v, .int b]) t148_39 mf96 rfl rfl (Or.inl ⟨by decide, (zk1 (hs.k fk_zMc_7))⟩) ⟨by decide, by decide, Nat.le_of_ble_eq_true rfl, Nat.le_of_ble_eq_true rfl⟩ (zs_in (by decide) mf96 (Nat.le_of_ble_eq_true rfl) ?_) (fun _ _ q => q)
      show zGo X l 0 0 0 96 0 [(0, .ref 7), (1, .int (1 : Int32))] [] M _
      refine zs_iload_n (pc := 0) t96_0 rfl ?_
      refine zs_if_ltF (pc := 1) t96_1 li1 (by decide) ?_
      refine zs_iload_n (pc := 4) t96_4 rfl ?_
      refine zs_bipush (pc := 5) t96_5 (v := 9) (by decide) ?_
      refine zs_icmp_geF (pc := 7) t96_7 li1 li9 (by decide) ?_
      refine zs_aload_n (pc := 10) t96_10 rfl ?_
      refine zs_get (pc := 11) t96_11 (by decide) (zk1 (hs.k fk_zMc_7)) (hs.p rfl fv_zMc_7_12) ?_
      refine zs_iload_n (pc := 14) t96_14 rfl ?_
      refine zs_iald (pc := 15) t96_15 (j := 1) (by decide) (zk1 (hs.k fk_zMc_17)) li1 (zk2 (hs.k fk_zMc_17) (by decide)) rfl ?_
      refine zs_goto (pc := 16) t96_16 ?_
      refine zs_iret (pc := 20) t96_20 mr96 rfl ?_
      show zGo X l 3 0 0 148 42 [(0, .ref 6), (1, .int a), (2, .int b), (3, .int c)] [.int (zI M 17 1), .int w6v, .int b] M _
      refine zs_invS (pc := 42) (as := [.int b, .int w6v, .int (zI M 17 1)]) (st := []) t148_42 (by decide) mf39 rfl rfl ⟨by decide, by decide, Nat.le_of_ble_eq_true rfl, Nat.le_of_ble_eq_true rfl⟩ (zs_in (by decide) mf39 (Nat.le_of_ble_eq_true rfl) ?_) (fun _ _ q => q)
      show zGo X l 0 0 0 39 0 [(0, .int b), (1, .int w6v), (2, .int (zI M 17 1))] [] M _
      refine zs_iload_n (pc := 0) t39_0 rfl ?_
      refine zs_iload_n (pc := 1) t39_1 rfl ?_
      by_cases w7 : b.toInt < (-(zI M 17 1).toInt)
      · refine zs_icmp_ltT (pc := 2) t39_2 rfl w6 (by omega) ?_
        refine zs_iconst (pc := 14) t39_14 (v := 0) (by decide) ?_
        refine zs_iret (pc := 15) t39_15 mr39 (by decide) ?_
        show zGo X l 3 0 0 148 45 [(0, .ref 6), (1, .int a), (2, .int b), (3, .int c)] [.int (0 : Int32)] M _
        refine zs_if_neF (pc := 45) t148_45 li0 (by decide) ?_
        refine zs_iconst (pc := 48) t148_48 (v := -1) (by decide) ?_
        exact zs_iret (pc := 49) t148_49 mr148 (by decide) (hQ _ _ hs hI (zFr.refl) (zrg _).1 (zrg _).2)
      · refine zs_icmp_ltF (pc := 2) t39_2 rfl w6 (by omega) ?_
        refine zs_iload_n (pc := 5) t39_5 rfl ?_
        refine zs_iload_n (pc := 6) t39_6 rfl ?_
        by_cases w8 : (zI M 17 1).toInt < b.toInt
        · refine zs_icmp_gtT (pc := 7) t39_7 rfl rfl (by omega) ?_
          refine zs_iconst (pc := 14) t39_14 (v := 0) (by decide) ?_
          refine zs_iret (pc := 15) t39_15 mr39 (by decide) ?_
          show zGo X l 3 0 0 148 45 [(0, .ref 6), (1, .int a), (2, .int b), (3, .int c)] [.int (0 : Int32)] M _
          refine zs_if_neF (pc := 45) t148_45 li0 (by decide) ?_
          refine zs_iconst (pc := 48) t148_48 (v := -1) (by decide) ?_
          exact zs_iret (pc := 49) t148_49 mr148 (by decide) (hQ _ _ hs hI (zFr.refl) (zrg _).1 (zrg _).2)
        · refine zs_icmp_gtF (pc := 7) t39_7 rfl rfl (by omega) ?_
          refine zs_iconst (pc := 10) t39_10 (v := 1) (by decide) ?_
          refine zs_goto (pc := 11) t39_11 ?_
          refine zs_iret (pc := 15) t39_15 mr39 (by decide) ?_
          show zGo X l 3 0 0 148 45 [(0, .ref 6), (1, .int a), (2, .int b), (3, .int c)] [.int (1 : Int32)] M _
          refine zs_if_neT (pc := 45) t148_45 li1 (by decide) ?_
          refine zs_aload_n (pc := 50) t148_50 rfl ?_
          refine zs_get (pc := 51) t148_51 (by decide) (zk1 (hs.k fk_zMc_6)) (hs.p rfl fv_zMc_6_0) ?_
          refine zs_iload_n (pc := 54) t148_54 rfl ?_
          refine zs_iload_n (pc := 55) t148_55 rfl ?_
          refine zs_iload_n (pc := 56) t148_56 rfl ?_
          refine zs_invV (pc := 57) (k := 7) (as' := [.int a, .int b, .int c]) (st := []) t148_57 mf149 rfl rfl (Or.inl ⟨by decide, (zk1 (hs.k fk_zMc_7))⟩) ⟨by decide, by decide, Nat.le_of_ble_eq_true rfl, Nat.le_of_ble_eq_true rfl⟩ (C149_7 hs hI ?_) (fun _ _ q => q)
          intro w9v w9a w9b
          show zGo X l 3 0 0 148 60 [(0, .ref 6), (1, .int a), (2, .int b), (3, .int c)] [.int w9v] M _
          exact zs_iret (pc := 60) t148_60 mr148 rfl (hQ _ _ hs hI (zFr.refl) (zrg _).1 (zrg _).2)
theorem C151_6 {X : zX} {l : Launch} {M : zM} {Q : Option Value → zM → Prop} {a : Int32} (hs : zSk zMc M) (hI : zIv cLo cHi M) (hQ : ∀ (M' : zM) (v : Int32), zSk zMc M' → zIv cLo cHi M' → zFr [(6, 335, none)] M M' → (-2147483648) ≤ v.toInt → v.toInt ≤ 2147483647 → Q (some (.int v)) M') : zCall X l 6 0 0 151 [.ref 6, .int a] M Q := by
  have ga := zrg a
  refine zs_in (by decide) mf151 (Nat.le_of_ble_eq_true rfl) ?_
  show zGo X l 6 0 0 151 0 [(0, .ref 6), (1, .int a)] [] M _
  refine zs_iload_n (pc := 0) t151_0 rfl ?_
  by_cases w1 : a.toInt = 103
  · refine zs_tswI (pc := 1) t151_1 ((rfl : a.toInt = a.toInt).trans w1) (by decide) rfl (pc2 := 118) rfl ?_
    refine zs_aload_n (pc := 118) t151_118 rfl ?_
    refine zs_get (pc := 119) t151_119 (by decide) (zk1 (hs.k fk_zMc_6)) (hs.p rfl fv_zMc_6_7) ?_
    refine zs_aload_n (pc := 122) t151_122 rfl ?_
    refine zs_get (pc := 123) t151_123 (by decide) (zk1 (hs.k fk_zMc_6)) (hs.p rfl fv_zMc_6_0) ?_
    refine zs_aload_n (pc := 126) t151_126 rfl ?_
    refine zs_get (pc := 127) t151_127 (by decide) (zk1 (hs.k fk_zMc_6)) (hs.p rfl fv_zMc_6_6) ?_
    refine zs_aload_n (pc := 130) t151_130 rfl ?_
    refine zs_get (pc := 131) t151_131 (by decide) (zk1 (hs.k fk_zMc_6)) (hs.p rfl fv_zMc_6_0) ?_
    refine zs_invV (pc := 134) (k := 164) (as' := [.ref 7]) (st := [.ref 7, .ref 325]) t151_134 mf105 rfl rfl (Or.inl ⟨by decide, (zk1 (hs.k fk_zMc_164))⟩) ⟨by decide, by decide, Nat.le_of_ble_eq_true rfl, Nat.le_of_ble_eq_true rfl⟩ (C105_164_7 hs hI ?_) (fun _ _ q => q)
    intro w2M w2s w2I w2F
    show zGo X l 6 0 0 151 137 [(0, .ref 6), (1, .int a)] [.ref 164, .ref 7, .ref 325] w2M _
    refine zs_invV (pc := 137) (k := 325) (as' := [.ref 7, .ref 164]) (st := []) t151_137 mf153 rfl rfl (Or.inl ⟨by decide, (zk1 (w2s.k fk_zMc_325))⟩) ⟨by decide, by decide, Nat.le_of_ble_eq_true rfl, Nat.le_of_ble_eq_true rfl⟩ (C153_325_7_164 w2s w2I ?_) (fun _ _ q => q)
    intro w3M w3s w3I w3F
    show zGo X l 6 0 0 151 140 [(0, .ref 6), (1, .int a)] [.ref 325] w3M _
    refine zs_invV (pc := 140) (k := 325) (as' := []) (st := []) t151_140 mf165 rfl rfl (Or.inl ⟨by decide, (zk1 (w3s.k fk_zMc_325))⟩) ⟨by decide, by decide, Nat.le_of_ble_eq_true rfl, Nat.le_of_ble_eq_true rfl⟩ (zs_in (by decide) mf165 (Nat.le_of_ble_eq_true rfl) ?_) (fun _ _ q => q)
    show zGo X l 0 0 0 165 0 [(0, .ref 325)] [] w3M _
    refine zs_aload_n (pc := 0) t165_0 rfl ?_
    have w4 := ib325_1 w3I
    refine zs_get (pc := 1) t165_1 (by decide) (zk1 (w3s.k fk_zMc_325)) (zfvi rfl rfl) ?_
    refine zs_iret (pc := 4) t165_4 mr165 rfl ?_
    show zGo X l 6 0 0 151 143 [(0, .ref 6), (1, .int a)] [.int (zI w3M 325 1)] w3M _
    exact zs_iret (pc := 143) t151_143 mr151 rfl (hQ _ _ w3s w3I (((zFr.refl).trans (w2F.mono rfl)).trans (w3F.mono rfl)) (zrg _).1 (zrg _).2)
  by_cases w5 : a.toInt = 104
  · refine zs_tswI (pc := 1) t151_1 ((rfl : a.toInt = a.toInt).trans w5) (by decide) rfl (pc2 := 95) rfl ?_
    refine zs_aload_n (pc := 95) t151_95 rfl ?_
    refine zs_get (pc := 96) t151_96 (by decide) (zk1 (hs.k fk_zMc_6)) (hs.p rfl fv_zMc_6_0) ?_
    refine zs_invV (pc := 99) (k := 7) (as' := []) (st := []) t151_99 mf92 rfl rfl (Or.inl ⟨by decide, (zk1 (hs.k fk_zMc_7))⟩) ⟨by decide, by decide, Nat.le_of_ble_eq_true rfl, Nat.le_of_ble_eq_true rfl⟩ (C92_7 hs hI ?_) (fun _ _ q => q)
    intro w6v w6a w6b
    show zGo X l 6 0 0 151 102 [(0, .ref 6), (1, .int a)] [.int w6v] M _
    exact zs_iret (pc := 102) t151_102 mr151 rfl (hQ _ _ hs hI (zFr.refl) (zrg _).1 (zrg _).2)
  by_cases w7 : a.toInt = 105
  · refine zs_tswI (pc := 1) t151_1 ((rfl : a.toInt = a.toInt).trans w7) (by decide) rfl (pc2 := 205) rfl ?_
    refine zs_iconst (pc := 205) t151_205 (v := -1) (by decide) ?_
    exact zs_iret (pc := 206) t151_206 mr151 (by decide) (hQ _ _ hs hI (zFr.refl) (zrg _).1 (zrg _).2)
  by_cases w8 : a.toInt = 106
  · refine zs_tswI (pc := 1) t151_1 ((rfl : a.toInt = a.toInt).trans w8) (by decide) rfl (pc2 := 205) rfl ?_
    refine zs_iconst (pc := 205) t151_205 (v := -1) (by decide) ?_
    exact zs_iret (pc := 206) t151_206 mr151 (by decide) (hQ _ _ hs hI (zFr.refl) (zrg _).1 (zrg _).2)
  by_cases w9 : a.toInt = 107
  · refine zs_tswI (pc := 1) t151_1 ((rfl : a.toInt = a.toInt).trans w9) (by decide) rfl (pc2 := 205) rfl ?_
    refine zs_iconst (pc := 205) t151_205 (v := -1) (by decide) ?_
    exact zs_iret (pc := 206) t151_206 mr151 (by decide) (hQ _ _ hs hI (zFr.refl) (zrg _).1 (zrg _).2)
  by_cases w10 : a.toInt = 108
  · refine zs_tswI (pc := 1) t151_1 ((rfl : a.toInt = a.toInt).trans w10) (by decide) rfl (pc2 := 159) rfl ?_
    refine zs_aload_n (pc := 159) t151_159 rfl ?_
    refine zs_get (pc := 160) t151_160 (by decide) (zk1 (hs.k fk_zMc_6)) (hs.p rfl fv_zMc_6_0) ?_
    refine zs_invV (pc := 163) (k := 7) (as' := []) (st := []) t151_163 mf100 rfl rfl (Or.inl ⟨by decide, (zk1 (hs.k fk_zMc_7))⟩) ⟨by decide, by decide, Nat.le_of_ble_eq_true rfl, Nat.le_of_ble_eq_true rfl⟩ (C100_7 hs hI ?_) (fun _ _ q => q)
    intro w11v w11a w11b
    show zGo X l 6 0 0 151 166 [(0, .ref 6), (1, .int a)] [.int w11v] M _
    exact zs_iret (pc := 166) t151_166 mr151 rfl (hQ _ _ hs hI (zFr.refl) (zrg _).1 (zrg _).2)
  by_cases w12 : a.toInt = 109
  · refine zs_tswI (pc := 1) t151_1 ((rfl : a.toInt = a.toInt).trans w12) (by decide) rfl (pc2 := 144) rfl ?_
    refine zs_aload_n (pc := 144) t151_144 rfl ?_
    refine zs_get (pc := 145) t151_145 (by decide) (zk1 (hs.k fk_zMc_6)) (hs.p rfl fv_zMc_6_6) ?_
    refine zs_aload_n (pc := 148) t151_148 rfl ?_
    refine zs_get (pc := 149) t151_149 (by decide) (zk1 (hs.k fk_zMc_6)) (hs.p rfl fv_zMc_6_0) ?_
    refine zs_invV (pc := 152) (k := 164) (as' := [.ref 7]) (st := []) t151_152 mf105 rfl rfl (Or.inl ⟨by decide, (zk1 (hs.k fk_zMc_164))⟩) ⟨by decide, by decide, Nat.le_of_ble_eq_true rfl, Nat.le_of_ble_eq_true rfl⟩ (C105_164_7 hs hI ?_) (fun _ _ q => q)
    intro w13M w13s w13I w13F
    show zGo X l 6 0 0 151 155 [(0, .ref 6), (1, .int a)] [.ref 164] w13M _
    refine zs_invV (pc := 155) (k := 164) (as' := []) (st := []) t151_155 mf166 rfl rfl (Or.inl ⟨by decide, (zk1 (w13s.k fk_zMc_164))⟩) ⟨by decide, by decide, Nat.le_of_ble_eq_true rfl, Nat.le_of_ble_eq_true rfl⟩ (zs_in (by decide) mf166 (Nat.le_of_ble_eq_true rfl) ?_) (fun _ _ q => q)
    show zGo X l 2 0 0 166 0 [(0, .ref 164)] [] w13M _
    refine zs_aload_n (pc := 0) t166_0 rfl ?_
    refine zs_iconst (pc := 1) t166_1 (v := 0) (by decide) ?_
    refine zs_invV (pc := 2) (k := 164) (as' := [.int (0 : Int32)]) (st := []) t166_2 mf163 rfl rfl (Or.inl ⟨by decide, (zk1 (w13s.k fk_zMc_164))⟩) ⟨by decide, by decide, Nat.le_of_ble_eq_true rfl, Nat.le_of_ble_eq_true rfl⟩ (zs_in (by decide) mf163 (Nat.le_of_ble_eq_true rfl) ?_) (fun _ _ q => q)
    show zGo X l 1 0 0 163 0 [(0, .ref 164), (1, .int (0 : Int32))] [] w13M _
    refine zs_iload_n (pc := 0) t163_0 rfl ?_
    refine zs_aload_n (pc := 1) t163_1 rfl ?_
    have w14 := ib164_4 w13I
    refine zs_get (pc := 2) t163_2 (by decide) (zk1 (w13s.k fk_zMc_164)) (zfvi rfl rfl) ?_
    by_cases w15 : (zI w13M 164 4).toInt ≤ 0
    · refine zs_icmp_geT (pc := 5) t163_5 li0 rfl (by omega) ?_
      refine zs_aconst_null (pc := 19) t163_19 ?_
      refine zs_aret0 (pc := 20) t163_20 (by rw [mr163]; rfl) ?_
      show zGo X l 2 0 0 166 5 [(0, .ref 164)] [.null] w13M _
      refine zs_astore_n0 (pc := 5) t166_5 (ls' := [(1, .null), (0, .ref 164)]) (zml mf166 (by decide)) rfl ?_
      refine zs_aload_n0 (pc := 6) t166_6 rfl ?_
      refine zs_ifnonnullF (pc := 7) t166_7 ?_
      refine zs_iconst (pc := 10) t166_10 (v := 0) (by decide) ?_
      refine zs_goto (pc := 11) t166_11 ?_
      refine zs_iret (pc := 18) t166_18 mr166 (by decide) ?_
      show zGo X l 6 0 0 151 158 [(0, .ref 6), (1, .int a)] [.int (0 : Int32)] w13M _
      exact zs_iret (pc := 158) t151_158 mr151 (by decide) (hQ _ _ w13s w13I ((zFr.refl).trans (w13F.mono rfl)) (zrg _).1 (zrg _).2)
    · refine zs_icmp_geF (pc := 5) t163_5 li0 rfl (by omega) ?_
      refine zs_aload_n (pc := 8) t163_8 rfl ?_
      refine zs_get (pc := 9) t163_9 (by decide) (zk1 (w13s.k fk_zMc_164)) (w13s.p rfl fv_zMc_164_1) ?_
      refine zs_iload_n (pc := 12) t163_12 rfl ?_
      refine zs_invV (pc := 13) (k := 165) (as' := [.int (0 : Int32)]) (st := []) t163_13 mf126 rfl rfl (Or.inl ⟨by decide, (zk1 (w13s.k fk_zMc_165))⟩) ⟨by decide, by decide, Nat.le_of_ble_eq_true rfl, Nat.le_of_ble_eq_true rfl⟩ (zs_in (by decide) mf126 (Nat.le_of_ble_eq_true rfl) ?_) (fun _ _ q => q)
      show zGo X l 0 0 0 126 0 [(0, .ref 165), (1, .int (0 : Int32))] [] w13M _
      refine zs_iload_n (pc := 0) t126_0 rfl ?_
      refine zs_if_ltF (pc := 1) t126_1 li0 (by decide) ?_
      refine zs_iload_n (pc := 4) t126_4 rfl ?_
      refine zs_aload_n (pc := 5) t126_5 rfl ?_
      have w16 := ib165_2 w13I
      refine zs_get (pc := 6) t126_6 (by decide) (zk1 (w13s.k fk_zMc_165)) (zfvi rfl rfl) ?_
      by_cases w17 : (zI w13M 165 2).toInt ≤ 0
      · refine zs_icmp_geT (pc := 9) t126_9 li0 rfl (by omega) ?_
        refine zs_aconst_null (pc := 21) t126_21 ?_
        refine zs_aret0 (pc := 22) t126_22 (by rw [mr126]; rfl) ?_
        show zGo X l 1 0 0 163 16 [(0, .ref 164), (1, .int (0 : Int32))] [.null] w13M _
        refine zs_goto (pc := 16) t163_16 ?_
        refine zs_aret0 (pc := 20) t163_20 (by rw [mr163]; rfl) ?_
        show zGo X l 2 0 0 166 5 [(0, .ref 164)] [.null] w13M _
        refine zs_astore_n0 (pc := 5) t166_5 (ls' := [(1, .null), (0, .ref 164)]) (zml mf166 (by decide)) rfl ?_
        refine zs_aload_n0 (pc := 6) t166_6 rfl ?_
        refine zs_ifnonnullF (pc := 7) t166_7 ?_
        refine zs_iconst (pc := 10) t166_10 (v := 0) (by decide) ?_
        refine zs_goto (pc := 11) t166_11 ?_
        refine zs_iret (pc := 18) t166_18 mr166 (by decide) ?_
        show zGo X l 6 0 0 151 158 [(0, .ref 6), (1, .int a)] [.int (0 : Int32)] w13M _
        exact zs_iret (pc := 158) t151_158 mr151 (by decide) (hQ _ _ w13s w13I ((zFr.refl).trans (w13F.mono rfl)) (zrg _).1 (zrg _).2)
      · refine zs_icmp_geF (pc := 9) t126_9 li0 rfl (by omega) ?_
        refine zs_aload_n (pc := 12) t126_12 rfl ?_
        refine zs_get (pc := 13) t126_13 (by decide) (zk1 (w13s.k fk_zMc_165)) (w13s.p rfl fv_zMc_165_1) ?_
        refine zs_iload_n (pc := 16) t126_16 rfl ?_
        have w18 : 0 < 20 := by omega
        refine zs_aald (pc := 17) t126_17 (j := 0) (Or.inr (zk1 (w13s.k fk_zMc_179))) li0 (zk2 (w13s.k fk_zMc_179) (by decide)) (w13s.a (fpT181 0 w18)) ?_
        refine zs_goto (pc := 18) t126_18 ?_
        refine zs_aret (pc := 22) t126_22 (by rw [mr126]; rfl) ?_
        show zGo X l 1 0 0 163 16 [(0, .ref 164), (1, .int (0 : Int32))] [.ref (181 + 3 * 0)] w13M _
        refine zs_goto (pc := 16) t163_16 ?_
        refine zs_aret (pc := 20) t163_20 (by rw [mr163]; rfl) ?_
        show zGo X l 2 0 0 166 5 [(0, .ref 164)] [.ref (181 + 3 * 0)] w13M _
        refine zs_astore_n (pc := 5) t166_5 (ls' := [(1, .ref (181 + 3 * 0)), (0, .ref 164)]) (zml mf166 (by decide)) rfl ?_
        refine zs_aload_n (pc := 6) t166_6 rfl ?_
        refine zs_ifnonnullT (pc := 7) t166_7 ?_
        refine zs_aload_n (pc := 14) t166_14 rfl ?_
        have w19 := ibT181_0_3 w13I w18
        refine zs_get (pc := 15) t166_15 (by decide) (zk1 (w13s.k (fT181_0 0 w18))) (zfvi rfl rfl) ?_
        refine zs_iret (pc := 18) t166_18 mr166 rfl ?_
        show zGo X l 6 0 0 151 158 [(0, .ref 6), (1, .int a)] [.int (zI w13M (181 + 3 * 0) 3)] w13M _
        exact zs_iret (pc := 158) t151_158 mr151 rfl (hQ _ _ w13s w13I ((zFr.refl).trans (w13F.mono rfl)) (zrg _).1 (zrg _).2)
  by_cases w20 : a.toInt = 110
  · refine zs_tswI (pc := 1) t151_1 ((rfl : a.toInt = a.toInt).trans w20) (by decide) rfl (pc2 := 80) rfl ?_
    refine zs_aload_n (pc := 80) t151_80 rfl ?_
    refine zs_get (pc := 81) t151_81 (by decide) (zk1 (hs.k fk_zMc_6)) (hs.p rfl fv_zMc_6_6) ?_
    refine zs_aload_n (pc := 84) t151_84 rfl ?_
    refine zs_get (pc := 85) t151_85 (by decide) (zk1 (hs.k fk_zMc_6)) (hs.p rfl fv_zMc_6_0) ?_
    refine zs_invV (pc := 88) (k := 164) (as' := [.ref 7]) (st := []) t151_88 mf105 rfl rfl (Or.inl ⟨by decide, (zk1 (hs.k fk_zMc_164))⟩) ⟨by decide, by decide, Nat.le_of_ble_eq_true rfl, Nat.le_of_ble_eq_true rfl⟩ (C105_164_7 hs hI ?_) (fun _ _ q => q)
    intro w21M w21s w21I w21F
    show zGo X l 6 0 0 151 91 [(0, .ref 6), (1, .int a)] [.ref 164] w21M _
    refine zs_invV (pc := 91) (k := 164) (as' := []) (st := []) t151_91 mf144 rfl rfl (Or.inl ⟨by decide, (zk1 (w21s.k fk_zMc_164))⟩) ⟨by decide, by decide, Nat.le_of_ble_eq_true rfl, Nat.le_of_ble_eq_true rfl⟩ (zs_in (by decide) mf144 (Nat.le_of_ble_eq_true rfl) ?_) (fun _ _ q => q)
    show zGo X l 0 0 0 144 0 [(0, .ref 164)] [] w21M _
    refine zs_aload_n (pc := 0) t144_0 rfl ?_
    have w22 := ib164_4 w21I
    refine zs_get (pc := 1) t144_1 (by decide) (zk1 (w21s.k fk_zMc_164)) (zfvi rfl rfl) ?_
    refine zs_iret (pc := 4) t144_4 mr144 rfl ?_
    show zGo X l 6 0 0 151 94 [(0, .ref 6), (1, .int a)] [.int (zI w21M 164 4)] w21M _
    exact zs_iret (pc := 94) t151_94 mr151 rfl (hQ _ _ w21s w21I ((zFr.refl).trans (w21F.mono rfl)) (zrg _).1 (zrg _).2)
  by_cases w23 : a.toInt = 111
  · refine zs_tswI (pc := 1) t151_1 ((rfl : a.toInt = a.toInt).trans w23) (by decide) rfl (pc2 := 190) rfl ?_
    refine zs_aload_n (pc := 190) t151_190 rfl ?_
    refine zs_get (pc := 191) t151_191 (by decide) (zk1 (hs.k fk_zMc_6)) (hs.p rfl fv_zMc_6_6) ?_
    refine zs_aload_n (pc := 194) t151_194 rfl ?_
    refine zs_get (pc := 195) t151_195 (by decide) (zk1 (hs.k fk_zMc_6)) (hs.p rfl fv_zMc_6_0) ?_
    refine zs_invV (pc := 198) (k := 164) (as' := [.ref 7]) (st := []) t151_198 mf105 rfl rfl (Or.inl ⟨by decide, (zk1 (hs.k fk_zMc_164))⟩) ⟨by decide, by decide, Nat.le_of_ble_eq_true rfl, Nat.le_of_ble_eq_true rfl⟩ (C105_164_7 hs hI ?_) (fun _ _ q => q)
    intro w24M w24s w24I w24F
    show zGo X l 6 0 0 151 201 [(0, .ref 6), (1, .int a)] [.ref 164] w24M _
    refine zs_invV (pc := 201) (k := 164) (as' := []) (st := []) t151_201 mf168 rfl rfl (Or.inl ⟨by decide, (zk1 (w24s.k fk_zMc_164))⟩) ⟨by decide, by decide, Nat.le_of_ble_eq_true rfl, Nat.le_of_ble_eq_true rfl⟩ (C168_164 w24s w24I ?_) (fun _ _ q => q)
    intro w25v w25a w25b
    show zGo X l 6 0 0 151 204 [(0, .ref 6), (1, .int a)] [.int w25v] w24M _
    exact zs_iret (pc := 204) t151_204 mr151 rfl (hQ _ _ w24s w24I ((zFr.refl).trans (w24F.mono rfl)) (zrg _).1 (zrg _).2)
  by_cases w26 : a.toInt = 112
  · refine zs_tswI (pc := 1) t151_1 ((rfl : a.toInt = a.toInt).trans w26) (by decide) rfl (pc2 := 205) rfl ?_
    refine zs_iconst (pc := 205) t151_205 (v := -1) (by decide) ?_
    exact zs_iret (pc := 206) t151_206 mr151 (by decide) (hQ _ _ hs hI (zFr.refl) (zrg _).1 (zrg _).2)
  by_cases w27 : a.toInt = 113
  · refine zs_tswI (pc := 1) t151_1 ((rfl : a.toInt = a.toInt).trans w27) (by decide) rfl (pc2 := 205) rfl ?_
    refine zs_iconst (pc := 205) t151_205 (v := -1) (by decide) ?_
    exact zs_iret (pc := 206) t151_206 mr151 (by decide) (hQ _ _ hs hI (zFr.refl) (zrg _).1 (zrg _).2)
  by_cases w28 : a.toInt = 114
  · refine zs_tswI (pc := 1) t151_1 ((rfl : a.toInt = a.toInt).trans w28) (by decide) rfl (pc2 := 205) rfl ?_
    refine zs_iconst (pc := 205) t151_205 (v := -1) (by decide) ?_
    exact zs_iret (pc := 206) t151_206 mr151 (by decide) (hQ _ _ hs hI (zFr.refl) (zrg _).1 (zrg _).2)
  by_cases w29 : a.toInt = 115
  · refine zs_tswI (pc := 1) t151_1 ((rfl : a.toInt = a.toInt).trans w29) (by decide) rfl (pc2 := 205) rfl ?_
    refine zs_iconst (pc := 205) t151_205 (v := -1) (by decide) ?_
    exact zs_iret (pc := 206) t151_206 mr151 (by decide) (hQ _ _ hs hI (zFr.refl) (zrg _).1 (zrg _).2)
  by_cases w30 : a.toInt = 116
  · refine zs_tswI (pc := 1) t151_1 ((rfl : a.toInt = a.toInt).trans w30) (by decide) rfl (pc2 := 205) rfl ?_
    refine zs_iconst (pc := 205) t151_205 (v := -1) (by decide) ?_
    exact zs_iret (pc := 206) t151_206 mr151 (by decide) (hQ _ _ hs hI (zFr.refl) (zrg _).1 (zrg _).2)
  by_cases w31 : a.toInt = 117
  · refine zs_tswI (pc := 1) t151_1 ((rfl : a.toInt = a.toInt).trans w31) (by decide) rfl (pc2 := 167) rfl ?_
    refine zs_aload_n (pc := 167) t151_167 rfl ?_
    refine zs_get (pc := 168) t151_168 (by decide) (zk1 (hs.k fk_zMc_6)) (hs.p rfl fv_zMc_6_0) ?_
    refine zs_invV (pc := 171) (k := 7) (as' := []) (st := []) t151_171 mf92 rfl rfl (Or.inl ⟨by decide, (zk1 (hs.k fk_zMc_7))⟩) ⟨by decide, by decide, Nat.le_of_ble_eq_true rfl, Nat.le_of_ble_eq_true rfl⟩ (C92_7 hs hI ?_) (fun _ _ q => q)
    intro w32v w32a w32b
    show zGo X l 6 0 0 151 174 [(0, .ref 6), (1, .int a)] [.int w32v] M _
    refine zs_aload_n (pc := 174) t151_174 rfl ?_
    refine zs_get (pc := 175) t151_175 (by decide) (zk1 (hs.k fk_zMc_6)) (hs.p rfl fv_zMc_6_6) ?_
    refine zs_aload_n (pc := 178) t151_178 rfl ?_
    refine zs_get (pc := 179) t151_179 (by decide) (zk1 (hs.k fk_zMc_6)) (hs.p rfl fv_zMc_6_0) ?_
    refine zs_invV (pc := 182) (k := 164) (as' := [.ref 7]) (st := [.int w32v]) t151_182 mf105 rfl rfl (Or.inl ⟨by decide, (zk1 (hs.k fk_zMc_164))⟩) ⟨by decide, by decide, Nat.le_of_ble_eq_true rfl, Nat.le_of_ble_eq_true rfl⟩ (C105_164_7 hs hI ?_) (fun _ _ q => q)
    intro w33M w33s w33I w33F
    show zGo X l 6 0 0 151 185 [(0, .ref 6), (1, .int a)] [.ref 164, .int w32v] w33M _
    refine zs_invV (pc := 185) (k := 164) (as' := []) (st := [.int w32v]) t151_185 mf167 rfl rfl (Or.inl ⟨by decide, (zk1 (w33s.k fk_zMc_164))⟩) ⟨by decide, by decide, Nat.le_of_ble_eq_true rfl, Nat.le_of_ble_eq_true rfl⟩ (C167_164 w33s w33I ?_) (fun _ _ q => q)
    intro w34v w34a w34b
    show zGo X l 6 0 0 151 188 [(0, .ref 6), (1, .int a)] [.int w34v, .int w32v] w33M _
    obtain ⟨w35v, w35⟩ : ∃ v, v = w32v - w34v := ⟨_, rfl⟩
    have w35g := zrg w35v
    refine zs_isub (pc := 188) t151_188 (c := w35v) w35.symm ?_
    exact zs_iret (pc := 189) t151_189 mr151 rfl (hQ _ _ w33s w33I ((zFr.refl).trans (w33F.mono rfl)) (zrg _).1 (zrg _).2)
  by_cases w36 : a.toInt = 118
  · refine zs_tswI (pc := 1) t151_1 ((rfl : a.toInt = a.toInt).trans w36) (by decide) rfl (pc2 := 103) rfl ?_
    refine zs_aload_n (pc := 103) t151_103 rfl ?_
    refine zs_get (pc := 104) t151_104 (by decide) (zk1 (hs.k fk_zMc_6)) (hs.p rfl fv_zMc_6_6) ?_
    refine zs_aload_n (pc := 107) t151_107 rfl ?_
    refine zs_get (pc := 108) t151_108 (by decide) (zk1 (hs.k fk_zMc_6)) (hs.p rfl fv_zMc_6_0) ?_
    refine zs_invV (pc := 111) (k := 164) (as' := [.ref 7]) (st := []) t151_111 mf105 rfl rfl (Or.inl ⟨by decide, (zk1 (hs.k fk_zMc_164))⟩) ⟨by decide, by decide, Nat.le_of_ble_eq_true rfl, Nat.le_of_ble_eq_true rfl⟩ (C105_164_7 hs hI ?_) (fun _ _ q => q)
    intro w37M w37s w37I w37F
    show zGo X l 6 0 0 151 114 [(0, .ref 6), (1, .int a)] [.ref 164] w37M _
    refine zs_invV (pc := 114) (k := 164) (as' := []) (st := []) t151_114 mf152 rfl rfl (Or.inl ⟨by decide, (zk1 (w37s.k fk_zMc_164))⟩) ⟨by decide, by decide, Nat.le_of_ble_eq_true rfl, Nat.le_of_ble_eq_true rfl⟩ (zs_in (by decide) mf152 (Nat.le_of_ble_eq_true rfl) ?_) (fun _ _ q => q)
    show zGo X l 0 0 0 152 0 [(0, .ref 164)] [] w37M _
    refine zs_aload_n (pc := 0) t152_0 rfl ?_
    have w38 := ib164_9 w37I
    refine zs_get (pc := 1) t152_1 (by decide) (zk1 (w37s.k fk_zMc_164)) (zfvi rfl rfl) ?_
    refine zs_iret (pc := 4) t152_4 mr152 rfl ?_
    show zGo X l 6 0 0 151 117 [(0, .ref 6), (1, .int a)] [.int (zI w37M 164 9)] w37M _
    exact zs_iret (pc := 117) t151_117 mr151 rfl (hQ _ _ w37s w37I ((zFr.refl).trans (w37F.mono rfl)) (zrg _).1 (zrg _).2)
  refine zs_tswD (pc := 1) t151_1 rfl (by omega) (pc2 := 205) rfl ?_
  refine zs_iconst (pc := 205) t151_205 (v := -1) (by decide) ?_
  exact zs_iret (pc := 206) t151_206 mr151 (by decide) (hQ _ _ hs hI (zFr.refl) (zrg _).1 (zrg _).2)
theorem C150_6 {X : zX} {l : Launch} {M : zM} {Q : Option Value → zM → Prop} {a : Int32} (hs : zSk zMc M) (hI : zIv cLo cHi M) (hQ : ∀ (M' : zM) (v : Int32), zSk zMc M' → zIv cLo cHi M' → zFr [(6, 335, none)] M M' → (-2147483648) ≤ v.toInt → v.toInt ≤ 2147483647 → Q (some (.int v)) M') : zCall X l 7 0 0 150 [.ref 6, .int a] M Q := by
  have ga := zrg a
  refine zs_in (by decide) mf150 (Nat.le_of_ble_eq_true rfl) ?_
  show zGo X l 7 0 0 150 0 [(0, .ref 6), (1, .int a)] [] M _
  refine zs_iload_n (pc := 0) t150_0 rfl ?_
  by_cases w1 : a.toInt = 0
  · refine zs_tswI (pc := 1) t150_1 ((rfl : a.toInt = a.toInt).trans w1) (by decide) rfl (pc2 := 40) rfl ?_
    refine zs_aload_n (pc := 40) t150_40 rfl ?_
    refine zs_bipush (pc := 41) t150_41 (v := 110) (by decide) ?_
    refine zs_invV (pc := 43) (k := 6) (as' := [.int (110 : Int32)]) (st := []) t150_43 mf151 rfl rfl (Or.inl ⟨by decide, (zk1 (hs.k fk_zMc_6))⟩) ⟨by decide, by decide, Nat.le_of_ble_eq_true rfl, Nat.le_of_ble_eq_true rfl⟩ (C151_6 hs hI ?_) (fun _ _ q => q)
    intro w2M w2v w2s w2I w2F w2a w2b
    show zGo X l 7 0 0 150 46 [(0, .ref 6), (1, .int a)] [.int w2v] w2M _
    exact zs_iret (pc := 46) t150_46 mr150 rfl (hQ _ _ w2s w2I ((zFr.refl).trans (w2F.mono rfl)) (zrg _).1 (zrg _).2)
  by_cases w3 : a.toInt = 1
  · refine zs_tswI (pc := 1) t150_1 ((rfl : a.toInt = a.toInt).trans w3) (by decide) rfl (pc2 := 47) rfl ?_
    refine zs_aload_n (pc := 47) t150_47 rfl ?_
    refine zs_bipush (pc := 48) t150_48 (v := 103) (by decide) ?_
    refine zs_invV (pc := 50) (k := 6) (as' := [.int (103 : Int32)]) (st := []) t150_50 mf151 rfl rfl (Or.inl ⟨by decide, (zk1 (hs.k fk_zMc_6))⟩) ⟨by decide, by decide, Nat.le_of_ble_eq_true rfl, Nat.le_of_ble_eq_true rfl⟩ (C151_6 hs hI ?_) (fun _ _ q => q)
    intro w4M w4v w4s w4I w4F w4a w4b
    show zGo X l 7 0 0 150 53 [(0, .ref 6), (1, .int a)] [.int w4v] w4M _
    exact zs_iret (pc := 53) t150_53 mr150 rfl (hQ _ _ w4s w4I ((zFr.refl).trans (w4F.mono rfl)) (zrg _).1 (zrg _).2)
  by_cases w5 : a.toInt = 2
  · refine zs_tswI (pc := 1) t150_1 ((rfl : a.toInt = a.toInt).trans w5) (by decide) rfl (pc2 := 54) rfl ?_
    refine zs_aload_n (pc := 54) t150_54 rfl ?_
    refine zs_bipush (pc := 55) t150_55 (v := 118) (by decide) ?_
    refine zs_invV (pc := 57) (k := 6) (as' := [.int (118 : Int32)]) (st := []) t150_57 mf151 rfl rfl (Or.inl ⟨by decide, (zk1 (hs.k fk_zMc_6))⟩) ⟨by decide, by decide, Nat.le_of_ble_eq_true rfl, Nat.le_of_ble_eq_true rfl⟩ (C151_6 hs hI ?_) (fun _ _ q => q)
    intro w6M w6v w6s w6I w6F w6a w6b
    show zGo X l 7 0 0 150 60 [(0, .ref 6), (1, .int a)] [.int w6v] w6M _
    exact zs_iret (pc := 60) t150_60 mr150 rfl (hQ _ _ w6s w6I ((zFr.refl).trans (w6F.mono rfl)) (zrg _).1 (zrg _).2)
  by_cases w7 : a.toInt = 3
  · refine zs_tswI (pc := 1) t150_1 ((rfl : a.toInt = a.toInt).trans w7) (by decide) rfl (pc2 := 61) rfl ?_
    refine zs_aload_n (pc := 61) t150_61 rfl ?_
    refine zs_bipush (pc := 62) t150_62 (v := 117) (by decide) ?_
    refine zs_invV (pc := 64) (k := 6) (as' := [.int (117 : Int32)]) (st := []) t150_64 mf151 rfl rfl (Or.inl ⟨by decide, (zk1 (hs.k fk_zMc_6))⟩) ⟨by decide, by decide, Nat.le_of_ble_eq_true rfl, Nat.le_of_ble_eq_true rfl⟩ (C151_6 hs hI ?_) (fun _ _ q => q)
    intro w8M w8v w8s w8I w8F w8a w8b
    show zGo X l 7 0 0 150 67 [(0, .ref 6), (1, .int a)] [.int w8v] w8M _
    exact zs_iret (pc := 67) t150_67 mr150 rfl (hQ _ _ w8s w8I ((zFr.refl).trans (w8F.mono rfl)) (zrg _).1 (zrg _).2)
  by_cases w9 : a.toInt = 4
  · refine zs_tswI (pc := 1) t150_1 ((rfl : a.toInt = a.toInt).trans w9) (by decide) rfl (pc2 := 68) rfl ?_
    refine zs_aload_n (pc := 68) t150_68 rfl ?_
    refine zs_bipush (pc := 69) t150_69 (v := 109) (by decide) ?_
    refine zs_invV (pc := 71) (k := 6) (as' := [.int (109 : Int32)]) (st := []) t150_71 mf151 rfl rfl (Or.inl ⟨by decide, (zk1 (hs.k fk_zMc_6))⟩) ⟨by decide, by decide, Nat.le_of_ble_eq_true rfl, Nat.le_of_ble_eq_true rfl⟩ (C151_6 hs hI ?_) (fun _ _ q => q)
    intro w10M w10v w10s w10I w10F w10a w10b
    show zGo X l 7 0 0 150 74 [(0, .ref 6), (1, .int a)] [.int w10v] w10M _
    exact zs_iret (pc := 74) t150_74 mr150 rfl (hQ _ _ w10s w10I ((zFr.refl).trans (w10F.mono rfl)) (zrg _).1 (zrg _).2)
  by_cases w11 : a.toInt = 5
  · refine zs_tswI (pc := 1) t150_1 ((rfl : a.toInt = a.toInt).trans w11) (by decide) rfl (pc2 := 75) rfl ?_
    refine zs_aload_n (pc := 75) t150_75 rfl ?_
    refine zs_bipush (pc := 76) t150_76 (v := 111) (by decide) ?_
    refine zs_invV (pc := 78) (k := 6) (as' := [.int (111 : Int32)]) (st := []) t150_78 mf151 rfl rfl (Or.inl ⟨by decide, (zk1 (hs.k fk_zMc_6))⟩) ⟨by decide, by decide, Nat.le_of_ble_eq_true rfl, Nat.le_of_ble_eq_true rfl⟩ (C151_6 hs hI ?_) (fun _ _ q => q)
    intro w12M w12v w12s w12I w12F w12a w12b
    show zGo X l 7 0 0 150 81 [(0, .ref 6), (1, .int a)] [.int w12v] w12M _
    exact zs_iret (pc := 81) t150_81 mr150 rfl (hQ _ _ w12s w12I ((zFr.refl).trans (w12F.mono rfl)) (zrg _).1 (zrg _).2)
  refine zs_tswD (pc := 1) t150_1 rfl (by omega) (pc2 := 82) rfl ?_
  refine zs_iconst (pc := 82) t150_82 (v := -1) (by decide) ?_
  exact zs_iret (pc := 83) t150_83 mr150 (by decide) (hQ _ _ hs hI (zFr.refl) (zrg _).1 (zrg _).2)
theorem C169_6 {X : zX} {l : Launch} {M : zM} {Q : Option Value → zM → Prop} {a b : Int32} (hs : zSk zMc M) (hI : zIv cLo cHi M) (hQ : ∀ (M' : zM) (v : Int32), zSk zMc M' → zIv cLo cHi M' → zFr [(6, 335, none)] M M' → (-2147483648) ≤ v.toInt → v.toInt ≤ 2147483647 → Q (some (.int v)) M') : zCall X l 6 0 0 169 [.ref 6, .int a, .int b] M Q := by
  have ga := zrg a
  have gb := zrg b
  refine zs_in (by decide) mf169 (Nat.le_of_ble_eq_true rfl) ?_
  show zGo X l 6 0 0 169 0 [(0, .ref 6), (1, .int a), (2, .int b)] [] M _
  refine zs_aload_n (pc := 0) t169_0 rfl ?_
  refine zs_get (pc := 1) t169_1 (by decide) (zk1 (hs.k fk_zMc_6)) (hs.p rfl fv_zMc_6_6) ?_
  refine zs_aload_n (pc := 4) t169_4 rfl ?_
  refine zs_get (pc := 5) t169_5 (by decide) (zk1 (hs.k fk_zMc_6)) (hs.p rfl fv_zMc_6_0) ?_
  refine zs_invV (pc := 8) (k := 164) (as' := [.ref 7]) (st := []) t169_8 mf105 rfl rfl (Or.inl ⟨by decide, (zk1 (hs.k fk_zMc_164))⟩) ⟨by decide, by decide, Nat.le_of_ble_eq_true rfl, Nat.le_of_ble_eq_true rfl⟩ (C105_164_7 hs hI ?_) (fun _ _ q => q)
  intro w1M w1s w1I w1F
  show zGo X l 6 0 0 169 11 [(0, .ref 6), (1, .int a), (2, .int b)] [.ref 164] w1M _
  refine zs_iload_n (pc := 11) t169_11 rfl ?_
  refine zs_invV (pc := 12) (k := 164) (as' := [.int a]) (st := []) t169_12 mf163 rfl rfl (Or.inl ⟨by decide, (zk1 (w1s.k fk_zMc_164))⟩) ⟨by decide, by decide, Nat.le_of_ble_eq_true rfl, Nat.le_of_ble_eq_true rfl⟩ (zs_in (by decide) mf163 (Nat.le_of_ble_eq_true rfl) ?_) (fun _ _ q => q)
  show zGo X l 1 0 0 163 0 [(0, .ref 164), (1, .int a)] [] w1M _
  refine zs_iload_n (pc := 0) t163_0 rfl ?_
  refine zs_aload_n (pc := 1) t163_1 rfl ?_
  have w2 := ib164_4 w1I
  refine zs_get (pc := 2) t163_2 (by decide) (zk1 (w1s.k fk_zMc_164)) (zfvi rfl rfl) ?_
  by_cases w3 : (zI w1M 164 4).toInt ≤ a.toInt
  · refine zs_icmp_geT (pc := 5) t163_5 rfl rfl (by omega) ?_
    refine zs_aconst_null (pc := 19) t163_19 ?_
    refine zs_aret0 (pc := 20) t163_20 (by rw [mr163]; rfl) ?_
    show zGo X l 6 0 0 169 15 [(0, .ref 6), (1, .int a), (2, .int b)] [.null] w1M _
    refine zs_astore_n0 (pc := 15) t169_15 (ls' := [(3, .null), (0, .ref 6), (1, .int a), (2, .int b)]) (zml mf169 (by decide)) rfl ?_
    refine zs_aload_n0 (pc := 16) t169_16 rfl ?_
    refine zs_ifnonnullF (pc := 17) t169_17 ?_
    refine zs_ldc (pc := 20) t169_20 (v := -100000) rfl (by decide) ?_
    exact zs_iret (pc := 22) t169_22 mr169 (by decide) (hQ _ _ w1s w1I ((zFr.refl).trans (w1F.mono rfl)) (zrg _).1 (zrg _).2)
  · refine zs_icmp_geF (pc := 5) t163_5 rfl rfl (by omega) ?_
    refine zs_aload_n (pc := 8) t163_8 rfl ?_
    refine zs_get (pc := 9) t163_9 (by decide) (zk1 (w1s.k fk_zMc_164)) (w1s.p rfl fv_zMc_164_1) ?_
    refine zs_iload_n (pc := 12) t163_12 rfl ?_
    refine zs_invV (pc := 13) (k := 165) (as' := [.int a]) (st := []) t163_13 mf126 rfl rfl (Or.inl ⟨by decide, (zk1 (w1s.k fk_zMc_165))⟩) ⟨by decide, by decide, Nat.le_of_ble_eq_true rfl, Nat.le_of_ble_eq_true rfl⟩ (zs_in (by decide) mf126 (Nat.le_of_ble_eq_true rfl) ?_) (fun _ _ q => q)
    show zGo X l 0 0 0 126 0 [(0, .ref 165), (1, .int a)] [] w1M _
    refine zs_iload_n (pc := 0) t126_0 rfl ?_
    by_cases w4 : a.toInt < 0
    · refine zs_if_ltT (pc := 1) t126_1 rfl (by omega) ?_
      refine zs_aconst_null (pc := 21) t126_21 ?_
      refine zs_aret0 (pc := 22) t126_22 (by rw [mr126]; rfl) ?_
      show zGo X l 1 0 0 163 16 [(0, .ref 164), (1, .int a)] [.null] w1M _
      refine zs_goto (pc := 16) t163_16 ?_
      refine zs_aret0 (pc := 20) t163_20 (by rw [mr163]; rfl) ?_
      show zGo X l 6 0 0 169 15 [(0, .ref 6), (1, .int a), (2, .int b)] [.null] w1M _
      refine zs_astore_n0 (pc := 15) t169_15 (ls' := [(3, .null), (0, .ref 6), (1, .int a), (2, .int b)]) (zml mf169 (by decide)) rfl ?_
      refine zs_aload_n0 (pc := 16) t169_16 rfl ?_
      refine zs_ifnonnullF (pc := 17) t169_17 ?_
      refine zs_ldc (pc := 20) t169_20 (v := -100000) rfl (by decide) ?_
      exact zs_iret (pc := 22) t169_22 mr169 (by decide) (hQ _ _ w1s w1I ((zFr.refl).trans (w1F.mono rfl)) (zrg _).1 (zrg _).2)
    · refine zs_if_ltF (pc := 1) t126_1 rfl (by omega) ?_
      refine zs_iload_n (pc := 4) t126_4 rfl ?_
      refine zs_aload_n (pc := 5) t126_5 rfl ?_
      have w5 := ib165_2 w1I
      refine zs_get (pc := 6) t126_6 (by decide) (zk1 (w1s.k fk_zMc_165)) (zfvi rfl rfl) ?_
      by_cases w6 : (zI w1M 165 2).toInt ≤ a.toInt
      · refine zs_icmp_geT (pc := 9) t126_9 rfl rfl (by omega) ?_
        refine zs_aconst_null (pc := 21) t126_21 ?_
        refine zs_aret0 (pc := 22) t126_22 (by rw [mr126]; rfl) ?_
        show zGo X l 1 0 0 163 16 [(0, .ref 164), (1, .int a)] [.null] w1M _
        refine zs_goto (pc := 16) t163_16 ?_
        refine zs_aret0 (pc := 20) t163_20 (by rw [mr163]; rfl) ?_
        show zGo X l 6 0 0 169 15 [(0, .ref 6), (1, .int a), (2, .int b)] [.null] w1M _
        refine zs_astore_n0 (pc := 15) t169_15 (ls' := [(3, .null), (0, .ref 6), (1, .int a), (2, .int b)]) (zml mf169 (by decide)) rfl ?_
        refine zs_aload_n0 (pc := 16) t169_16 rfl ?_
        refine zs_ifnonnullF (pc := 17) t169_17 ?_
        refine zs_ldc (pc := 20) t169_20 (v := -100000) rfl (by decide) ?_
        exact zs_iret (pc := 22) t169_22 mr169 (by decide) (hQ _ _ w1s w1I ((zFr.refl).trans (w1F.mono rfl)) (zrg _).1 (zrg _).2)
      · refine zs_icmp_geF (pc := 9) t126_9 rfl rfl (by omega) ?_
        refine zs_aload_n (pc := 12) t126_12 rfl ?_
        refine zs_get (pc := 13) t126_13 (by decide) (zk1 (w1s.k fk_zMc_165)) (w1s.p rfl fv_zMc_165_1) ?_
        refine zs_iload_n (pc := 16) t126_16 rfl ?_
        obtain ⟨w7n, w7⟩ : ∃ n : Nat, a.toInt = (n : Int) := ⟨a.toInt.toNat, by omega⟩
        have w8 : w7n < 20 := by omega
        refine zs_aald (pc := 17) t126_17 (j := w7n) (Or.inr (zk1 (w1s.k fk_zMc_179))) w7 (zk2 (w1s.k fk_zMc_179) (by omega)) (w1s.a (fpT181 w7n w8)) ?_
        refine zs_goto (pc := 18) t126_18 ?_
        refine zs_aret (pc := 22) t126_22 (by rw [mr126]; rfl) ?_
        show zGo X l 1 0 0 163 16 [(0, .ref 164), (1, .int a)] [.ref (181 + 3 * w7n)] w1M _
        refine zs_goto (pc := 16) t163_16 ?_
        refine zs_aret (pc := 20) t163_20 (by rw [mr163]; rfl) ?_
        show zGo X l 6 0 0 169 15 [(0, .ref 6), (1, .int a), (2, .int b)] [.ref (181 + 3 * w7n)] w1M _
        refine zs_astore_n (pc := 15) t169_15 (ls' := [(3, .ref (181 + 3 * w7n)), (0, .ref 6), (1, .int a), (2, .int b)]) (zml mf169 (by decide)) rfl ?_
        refine zs_aload_n (pc := 16) t169_16 rfl ?_
        refine zs_ifnonnullT (pc := 17) t169_17 ?_
        refine zs_iload_n (pc := 23) t169_23 rfl ?_
        by_cases w9 : b.toInt = 0
        · refine zs_tswI (pc := 24) t169_24 ((rfl : b.toInt = b.toInt).trans w9) (by decide) rfl (pc2 := 76) rfl ?_
          refine zs_aload_n (pc := 76) t169_76 rfl ?_
          have w10 := ibT181_0_0 w1I w8
          refine zs_get (pc := 77) t169_77 (by decide) (zk1 (w1s.k (fT181_0 w7n w8))) (zfvi rfl rfl) ?_
          exact zs_iret (pc := 80) t169_80 mr169 rfl (hQ _ _ w1s w1I ((zFr.refl).trans (w1F.mono rfl)) (zrg _).1 (zrg _).2)
        by_cases w11 : b.toInt = 1
        · refine zs_tswI (pc := 24) t169_24 ((rfl : b.toInt = b.toInt).trans w11) (by decide) rfl (pc2 := 81) rfl ?_
          refine zs_aload_n (pc := 81) t169_81 rfl ?_
          have w12 := ibT181_0_1 w1I w8
          refine zs_get (pc := 82) t169_82 (by decide) (zk1 (w1s.k (fT181_0 w7n w8))) (zfvi rfl rfl) ?_
          exact zs_iret (pc := 85) t169_85 mr169 rfl (hQ _ _ w1s w1I ((zFr.refl).trans (w1F.mono rfl)) (zrg _).1 (zrg _).2)
        by_cases w13 : b.toInt = 2
        · refine zs_tswI (pc := 24) t169_24 ((rfl : b.toInt = b.toInt).trans w13) (by decide) rfl (pc2 := 86) rfl ?_
          refine zs_aload_n (pc := 86) t169_86 rfl ?_
          have w14 := ibT181_0_2 w1I w8
          refine zs_get (pc := 87) t169_87 (by decide) (zk1 (w1s.k (fT181_0 w7n w8))) (zfvi rfl rfl) ?_
          exact zs_iret (pc := 90) t169_90 mr169 rfl (hQ _ _ w1s w1I ((zFr.refl).trans (w1F.mono rfl)) (zrg _).1 (zrg _).2)
        by_cases w15 : b.toInt = 3
        · refine zs_tswI (pc := 24) t169_24 ((rfl : b.toInt = b.toInt).trans w15) (by decide) rfl (pc2 := 91) rfl ?_
          refine zs_aload_n (pc := 91) t169_91 rfl ?_
          have w16 := ibT181_0_3 w1I w8
          refine zs_get (pc := 92) t169_92 (by decide) (zk1 (w1s.k (fT181_0 w7n w8))) (zfvi rfl rfl) ?_
          exact zs_iret (pc := 95) t169_95 mr169 rfl (hQ _ _ w1s w1I ((zFr.refl).trans (w1F.mono rfl)) (zrg _).1 (zrg _).2)
        by_cases w17 : b.toInt = 4
        · refine zs_tswI (pc := 24) t169_24 ((rfl : b.toInt = b.toInt).trans w17) (by decide) rfl (pc2 := 96) rfl ?_
          refine zs_aload_n (pc := 96) t169_96 rfl ?_
          have w18 := ibT181_0_4 w1I w8
          refine zs_get (pc := 97) t169_97 (by decide) (zk1 (w1s.k (fT181_0 w7n w8))) (zfvi rfl rfl) ?_
          exact zs_iret (pc := 100) t169_100 mr169 rfl (hQ _ _ w1s w1I ((zFr.refl).trans (w1F.mono rfl)) (zrg _).1 (zrg _).2)
        by_cases w19 : b.toInt = 5
        · refine zs_tswI (pc := 24) t169_24 ((rfl : b.toInt = b.toInt).trans w19) (by decide) rfl (pc2 := 101) rfl ?_
          refine zs_aload_n (pc := 101) t169_101 rfl ?_
          refine zs_invV (pc := 102) (k := (181 + 3 * w7n)) (as' := []) (st := []) t169_102 mf139 rfl rfl (Or.inl ⟨by decide, (zk1 (w1s.k (fT181_0 w7n w8)))⟩) ⟨by decide, by decide, Nat.le_of_ble_eq_true rfl, Nat.le_of_ble_eq_true rfl⟩ (zs_in (by decide) mf139 (Nat.le_of_ble_eq_true rfl) ?_) (fun _ _ q => q)
          show zGo X l 1 0 0 139 0 [(0, .ref (181 + 3 * w7n))] [] w1M _
          refine zs_aload_n (pc := 0) t139_0 rfl ?_
          refine zs_get (pc := 1) t139_1 (by decide) (zk1 (w1s.k (fT181_0 w7n w8))) (zfvj rfl) ?_
          refine zs_lconst (pc := 4) t139_4 (v := 1) (by decide) ?_
          refine zs_aload_n (pc := 5) t139_5 rfl ?_
          refine zs_get (pc := 6) t139_6 (by decide) (zk1 (w1s.k (fT181_0 w7n w8))) (zfvj rfl) ?_
          refine zs_invS (pc := 9) (as := [.long (1 : Int64), .long (zJ w1M (181 + 3 * w7n) 8)]) (st := [.long (zJ w1M (181 + 3 * w7n) 9)]) t139_9 (by decide) mf134 rfl rfl ⟨by decide, by decide, Nat.le_of_ble_eq_true rfl, Nat.le_of_ble_eq_true rfl⟩ (zs_in (by decide) mf134 (Nat.le_of_ble_eq_true rfl) ?_) (fun _ _ q => q)
          show zGo X l 0 0 0 134 0 [(0, .long (1 : Int64)), (2, .long (zJ w1M (181 + 3 * w7n) 8))] [] w1M _
          refine zs_lload_n (pc := 0) t134_0 rfl ?_
          refine zs_lload_n (pc := 1) t134_1 rfl ?_
          by_cases w20 : 1 < (zJ w1M (181 + 3 * w7n) 8).toInt
          · refine zs_lcmp (pc := 2) t134_2 (c := -1) (zlcL ll1 rfl (by omega)) ?_
            refine zs_if_ltT (pc := 3) t134_3 lin1 (by decide) ?_
            refine zs_lload_n (pc := 10) t134_10 rfl ?_
            refine zs_lret (pc := 11) t134_11 mr134 ?_
            show zGo X l 1 0 0 139 12 [(0, .ref (181 + 3 * w7n))] [.long (zJ w1M (181 + 3 * w7n) 8), .long (zJ w1M (181 + 3 * w7n) 9)] w1M _
            refine zs_invS (pc := 12) (as := [.long (zJ w1M (181 + 3 * w7n) 9), .long (zJ w1M (181 + 3 * w7n) 8)]) (st := []) t139_12 (by decide) mf140 rfl rfl ⟨by decide, by decide, Nat.le_of_ble_eq_true rfl, Nat.le_of_ble_eq_true rfl⟩ (zs_in (by decide) mf140 (Nat.le_of_ble_eq_true rfl) ?_) (fun _ _ q => q)
            show zGo X l 0 0 0 140 0 [(0, .long (zJ w1M (181 + 3 * w7n) 9)), (2, .long (zJ w1M (181 + 3 * w7n) 8))] [] w1M _
            refine zs_lload_n (pc := 0) t140_0 rfl ?_
            refine zs_lload_n (pc := 1) t140_1 rfl ?_
            obtain ⟨w21v, w21⟩ : ∃ v, (zJ w1M (181 + 3 * w7n) 9) / (zJ w1M (181 + 3 * w7n) 8) = v := ⟨_, rfl⟩
            have w21g := zrg64 w21v
            refine zs_ldiv (pc := 2) t140_2 (znz64 rfl (by omega)) (c := w21v) w21 ?_
            refine zs_lstore (pc := 3) t140_3 (ls' := [(4, .long w21v), (0, .long (zJ w1M (181 + 3 * w7n) 9)), (2, .long (zJ w1M (181 + 3 * w7n) 8))]) (zml mf140 (by decide)) rfl ?_
            refine zs_lload_n (pc := 5) t140_5 rfl ?_
            refine zs_lload_n (pc := 6) t140_6 rfl ?_
            obtain ⟨w22v, w22⟩ : ∃ v, (zJ w1M (181 + 3 * w7n) 9) ^^^ (zJ w1M (181 + 3 * w7n) 8) = v := ⟨_, rfl⟩
            have w22g := zrg64 w22v
            refine zs_lxor (pc := 7) t140_7 (c := w22v) w22 ?_
            refine zs_lconst (pc := 8) t140_8 (v := 0) (by decide) ?_
            by_cases w23 : w22v.toInt < 0
            · refine zs_lcmp (pc := 9) t140_9 (c := -1) (zlcL rfl ll0 (by omega)) ?_
              refine zs_if_geF (pc := 10) t140_10 lin1 (by decide) ?_
              refine zs_lload (pc := 13) t140_13 rfl ?_
              refine zs_lload_n (pc := 15) t140_15 rfl ?_
              obtain ⟨w24v, w24⟩ : ∃ v, w21v * (zJ w1M (181 + 3 * w7n) 8) = v := ⟨_, rfl⟩
              have w24g := zrg64 w24v
              refine zs_lmul (pc := 16) t140_16 (c := w24v) w24 ?_
              refine zs_lload_n (pc := 17) t140_17 rfl ?_
              by_cases w25 : w24v.toInt < (zJ w1M (181 + 3 * w7n) 9).toInt
              · refine zs_lcmp (pc := 18) t140_18 (c := -1) (zlcL rfl rfl (by omega)) ?_
                refine zs_if_eqF (pc := 19) t140_19 lin1 (by decide) ?_
                refine zs_lload (pc := 22) t140_22 rfl ?_
                refine zs_lconst (pc := 24) t140_24 (v := 1) (by decide) ?_
                obtain ⟨w26v, w26⟩ : ∃ v, w21v - (1 : Int64) = v := ⟨_, rfl⟩
                have w26g := zrg64 w26v
                refine zs_lsub (pc := 25) t140_25 (c := w26v) w26 ?_
                refine zs_lret (pc := 26) t140_26 mr140 ?_
                show zGo X l 1 0 0 139 15 [(0, .ref (181 + 3 * w7n))] [.long w26v] w1M _
                obtain ⟨w27v, w27⟩ : ∃ v, w26v.toInt32 = v := ⟨_, rfl⟩
                have w27g := zrg w27v
                refine zs_l2i (pc := 15) t139_15 (c := w27v) w27 ?_
                refine zs_iret (pc := 16) t139_16 mr139 rfl ?_
                show zGo X l 6 0 0 169 105 [(3, .ref (181 + 3 * w7n)), (0, .ref 6), (1, .int a), (2, .int b)] [.int w27v] w1M _
                exact zs_iret (pc := 105) t169_105 mr169 rfl (hQ _ _ w1s w1I ((zFr.refl).trans (w1F.mono rfl)) (zrg _).1 (zrg _).2)
              by_cases w28 : w24v.toInt = (zJ w1M (181 + 3 * w7n) 9).toInt
              · refine zs_lcmp (pc := 18) t140_18 (c := 0) (zlcE rfl rfl (by omega)) ?_
                refine zs_if_eqT (pc := 19) t140_19 li0 (by decide) ?_
                refine zs_lload (pc := 27) t140_27 rfl ?_
                refine zs_lret (pc := 29) t140_29 mr140 ?_
                show zGo X l 1 0 0 139 15 [(0, .ref (181 + 3 * w7n))] [.long w21v] w1M _
                obtain ⟨w29v, w29⟩ : ∃ v, w21v.toInt32 = v := ⟨_, rfl⟩
                have w29g := zrg w29v
                refine zs_l2i (pc := 15) t139_15 (c := w29v) w29 ?_
                refine zs_iret (pc := 16) t139_16 mr139 rfl ?_
                show zGo X l 6 0 0 169 105 [(3, .ref (181 + 3 * w7n)), (0, .ref 6), (1, .int a), (2, .int b)] [.int w29v] w1M _
                exact zs_iret (pc := 105) t169_105 mr169 rfl (hQ _ _ w1s w1I ((zFr.refl).trans (w1F.mono rfl)) (zrg _).1 (zrg _).2)
              refine zs_lcmp (pc := 18) t140_18 (c := 1) (zlcG rfl rfl (by omega)) ?_
              refine zs_if_eqF (pc := 19) t140_19 li1 (by decide) ?_
              refine zs_lload (pc := 22) t140_22 rfl ?_
              refine zs_lconst (pc := 24) t140_24 (v := 1) (by decide) ?_
              obtain ⟨w31v, w31⟩ : ∃ v, w21v - (1 : Int64) = v := ⟨_, rfl⟩
              have w31g := zrg64 w31v
              refine zs_lsub (pc := 25) t140_25 (c := w31v) w31 ?_
              refine zs_lret (pc := 26) t140_26 mr140 ?_
              show zGo X l 1 0 0 139 15 [(0, .ref (181 + 3 * w7n))] [.long w31v] w1M _
              obtain ⟨w32v, w32⟩ : ∃ v, w31v.toInt32 = v := ⟨_, rfl⟩
              have w32g := zrg w32v
              refine zs_l2i (pc := 15) t139_15 (c := w32v) w32 ?_
              refine zs_iret (pc := 16) t139_16 mr139 rfl ?_
              show zGo X l 6 0 0 169 105 [(3, .ref (181 + 3 * w7n)), (0, .ref 6), (1, .int a), (2, .int b)] [.int w32v] w1M _
              exact zs_iret (pc := 105) t169_105 mr169 rfl (hQ _ _ w1s w1I ((zFr.refl).trans (w1F.mono rfl)) (zrg _).1 (zrg _).2)
            by_cases w33 : w22v.toInt = 0
            · refine zs_lcmp (pc := 9) t140_9 (c := 0) (zlcE rfl ll0 (by omega)) ?_
              refine zs_if_geT (pc := 10) t140_10 li0 (by decide) ?_
              refine zs_lload (pc := 27) t140_27 rfl ?_
              refine zs_lret (pc := 29) t140_29 mr140 ?_
              show zGo X l 1 0 0 139 15 [(0, .ref (181 + 3 * w7n))] [.long w21v] w1M _
              obtain ⟨w34v, w34⟩ : ∃ v, w21v.toInt32 = v := ⟨_, rfl⟩
              have w34g := zrg w34v
              refine zs_l2i (pc := 15) t139_15 (c := w34v) w34 ?_
              refine zs_iret (pc := 16) t139_16 mr139 rfl ?_
              show zGo X l 6 0 0 169 105 [(3, .ref (181 + 3 * w7n)), (0, .ref 6), (1, .int a), (2, .int b)] [.int w34v] w1M _
              exact zs_iret (pc := 105) t169_105 mr169 rfl (hQ _ _ w1s w1I ((zFr.refl).trans (w1F.mono rfl)) (zrg _).1 (zrg _).2)
            refine zs_lcmp (pc := 9) t140_9 (c := 1) (zlcG rfl ll0 (by omega)) ?_
            refine zs_if_geT (pc := 10) t140_10 li1 (by decide) ?_
            refine zs_lload (pc := 27) t140_27 rfl ?_
            refine zs_lret (pc := 29) t140_29 mr140 ?_
            show zGo X l 1 0 0 139 15 [(0, .ref (181 + 3 * w7n))] [.long w21v] w1M _
            obtain ⟨w36v, w36⟩ : ∃ v, w21v.toInt32 = v := ⟨_, rfl⟩
            have w36g := zrg w36v
            refine zs_l2i (pc := 15) t139_15 (c := w36v) w36 ?_
            refine zs_iret (pc := 16) t139_16 mr139 rfl ?_
            show zGo X l 6 0 0 169 105 [(3, .ref (181 + 3 * w7n)), (0, .ref 6), (1, .int a), (2, .int b)] [.int w36v] w1M _
            exact zs_iret (pc := 105) t169_105 mr169 rfl (hQ _ _ w1s w1I ((zFr.refl).trans (w1F.mono rfl)) (zrg _).1 (zrg _).2)
          by_cases w37 : 1 = (zJ w1M (181 + 3 * w7n) 8).toInt
          · refine zs_lcmp (pc := 2) t134_2 (c := 0) (zlcE ll1 rfl (by omega)) ?_
            refine zs_if_ltF (pc := 3) t134_3 li0 (by decide) ?_
            refine zs_lload_n (pc := 6) t134_6 rfl ?_
            refine zs_goto (pc := 7) t134_7 ?_
            refine zs_lret (pc := 11) t134_11 mr134 ?_
            show zGo X l 1 0 0 139 12 [(0, .ref (181 + 3 * w7n))] [.long (1 : Int64), .long (zJ w1M (181 + 3 * w7n) 9)] w1M _
            refine zs_invS (pc := 12) (as := [.long (zJ w1M (181 + 3 * w7n) 9), .long (1 : Int64)]) (st := []) t139_12 (by decide) mf140 rfl rfl ⟨by decide, by decide, Nat.le_of_ble_eq_true rfl, Nat.le_of_ble_eq_true rfl⟩ (zs_in (by decide) mf140 (Nat.le_of_ble_eq_true rfl) ?_) (fun _ _ q => q)
            show zGo X l 0 0 0 140 0 [(0, .long (zJ w1M (181 + 3 * w7n) 9)), (2, .long (1 : Int64))] [] w1M _
            refine zs_lload_n (pc := 0) t140_0 rfl ?_
            refine zs_lload_n (pc := 1) t140_1 rfl ?_
            obtain ⟨w38v, w38⟩ : ∃ v, (zJ w1M (181 + 3 * w7n) 9) / (1 : Int64) = v := ⟨_, rfl⟩
            have w38g := zrg64 w38v
            refine zs_ldiv (pc := 2) t140_2 (by decide) (c := w38v) w38 ?_
            refine zs_lstore (pc := 3) t140_3 (ls' := [(4, .long w38v), (0, .long (zJ w1M (181 + 3 * w7n) 9)), (2, .long (1 : Int64))]) (zml mf140 (by decide)) rfl ?_
            refine zs_lload_n (pc := 5) t140_5 rfl ?_
            refine zs_lload_n (pc := 6) t140_6 rfl ?_
            obtain ⟨w39v, w39⟩ : ∃ v, (zJ w1M (181 + 3 * w7n) 9) ^^^ (1 : Int64) = v := ⟨_, rfl⟩
            have w39g := zrg64 w39v
            refine zs_lxor (pc := 7) t140_7 (c := w39v) w39 ?_
            refine zs_lconst (pc := 8) t140_8 (v := 0) (by decide) ?_
            by_cases w40 : w39v.toInt < 0
            · refine zs_lcmp (pc := 9) t140_9 (c := -1) (zlcL rfl ll0 (by omega)) ?_
              refine zs_if_geF (pc := 10) t140_10 lin1 (by decide) ?_
              refine zs_lload (pc := 13) t140_13 rfl ?_
              refine zs_lload_n (pc := 15) t140_15 rfl ?_
              obtain ⟨w41v, w41⟩ : ∃ v, w38v * (1 : Int64) = v := ⟨_, rfl⟩
              have w41g := zrg64 w41v
              refine zs_lmul (pc := 16) t140_16 (c := w41v) w41 ?_
              refine zs_lload_n (pc := 17) t140_17 rfl ?_
              by_cases w42 : w41v.toInt < (zJ w1M (181 + 3 * w7n) 9).toInt
              · refine zs_lcmp (pc := 18) t140_18 (c := -1) (zlcL rfl rfl (by omega)) ?_
                refine zs_if_eqF (pc := 19) t140_19 lin1 (by decide) ?_
                refine zs_lload (pc := 22) t140_22 rfl ?_
                refine zs_lconst (pc := 24) t140_24 (v := 1) (by decide) ?_
                obtain ⟨w43v, w43⟩ : ∃ v, w38v - (1 : Int64) = v := ⟨_, rfl⟩
                have w43g := zrg64 w43v
                refine zs_lsub (pc := 25) t140_25 (c := w43v) w43 ?_
                refine zs_lret (pc := 26) t140_26 mr140 ?_
                show zGo X l 1 0 0 139 15 [(0, .ref (181 + 3 * w7n))] [.long w43v] w1M _
                obtain ⟨w44v, w44⟩ : ∃ v, w43v.toInt32 = v := ⟨_, rfl⟩
                have w44g := zrg w44v
                refine zs_l2i (pc := 15) t139_15 (c := w44v) w44 ?_
                refine zs_iret (pc := 16) t139_16 mr139 rfl ?_
                show zGo X l 6 0 0 169 105 [(3, .ref (181 + 3 * w7n)), (0, .ref 6), (1, .int a), (2, .int b)] [.int w44v] w1M _
                exact zs_iret (pc := 105) t169_105 mr169 rfl (hQ _ _ w1s w1I ((zFr.refl).trans (w1F.mono rfl)) (zrg _).1 (zrg _).2)
              by_cases w45 : w41v.toInt = (zJ w1M (181 + 3 * w7n) 9).toInt
              · refine zs_lcmp (pc := 18) t140_18 (c := 0) (zlcE rfl rfl (by omega)) ?_
                refine zs_if_eqT (pc := 19) t140_19 li0 (by decide) ?_
                refine zs_lload (pc := 27) t140_27 rfl ?_
                refine zs_lret (pc := 29) t140_29 mr140 ?_
                show zGo X l 1 0 0 139 15 [(0, .ref (181 + 3 * w7n))] [.long w38v] w1M _
                obtain ⟨w46v, w46⟩ : ∃ v, w38v.toInt32 = v := ⟨_, rfl⟩
                have w46g := zrg w46v
                refine zs_l2i (pc := 15) t139_15 (c := w46v) w46 ?_
                refine zs_iret (pc := 16) t139_16 mr139 rfl ?_
                show zGo X l 6 0 0 169 105 [(3, .ref (181 + 3 * w7n)), (0, .ref 6), (1, .int a), (2, .int b)] [.int w46v] w1M _
                exact zs_iret (pc := 105) t169_105 mr169 rfl (hQ _ _ w1s w1I ((zFr.refl).trans (w1F.mono rfl)) (zrg _).1 (zrg _).2)
              refine zs_lcmp (pc := 18) t140_18 (c := 1) (zlcG rfl rfl (by omega)) ?_
              refine zs_if_eqF (pc := 19) t140_19 li1 (by decide) ?_
              refine zs_lload (pc := 22) t140_22 rfl ?_
              refine zs_lconst (pc := 24) t140_24 (v := 1) (by decide) ?_
              obtain ⟨w48v, w48⟩ : ∃ v, w38v - (1 : Int64) = v := ⟨_, rfl⟩
              have w48g := zrg64 w48v
              refine zs_lsub (pc := 25) t140_25 (c := w48v) w48 ?_
              refine zs_lret (pc := 26) t140_26 mr140 ?_
              show zGo X l 1 0 0 139 15 [(0, .ref (181 + 3 * w7n))] [.long w48v] w1M _
              obtain ⟨w49v, w49⟩ : ∃ v, w48v.toInt32 = v := ⟨_, rfl⟩
              have w49g := zrg w49v
              refine zs_l2i (pc := 15) t139_15 (c := w49v) w49 ?_
              refine zs_iret (pc := 16) t139_16 mr139 rfl ?_
              show zGo X l 6 0 0 169 105 [(3, .ref (181 + 3 * w7n)), (0, .ref 6), (1, .int a), (2, .int b)] [.int w49v] w1M _
              exact zs_iret (pc := 105) t169_105 mr169 rfl (hQ _ _ w1s w1I ((zFr.refl).trans (w1F.mono rfl)) (zrg _).1 (zrg _).2)
            by_cases w50 : w39v.toInt = 0
            · refine zs_lcmp (pc := 9) t140_9 (c := 0) (zlcE rfl ll0 (by omega)) ?_
              refine zs_if_geT (pc := 10) t140_10 li0 (by decide) ?_
              refine zs_lload (pc := 27) t140_27 rfl ?_
              refine zs_lret (pc := 29) t140_29 mr140 ?_
              show zGo X l 1 0 0 139 15 [(0, .ref (181 + 3 * w7n))] [.long w38v] w1M _
              obtain ⟨w51v, w51⟩ : ∃ v, w38v.toInt32 = v := ⟨_, rfl⟩
              have w51g := zrg w51v
              refine zs_l2i (pc := 15) t139_15 (c := w51v) w51 ?_
              refine zs_iret (pc := 16) t139_16 mr139 rfl ?_
              show zGo X l 6 0 0 169 105 [(3, .ref (181 + 3 * w7n)), (0, .ref 6), (1, .int a), (2, .int b)] [.int w51v] w1M _
              exact zs_iret (pc := 105) t169_105 mr169 rfl (hQ _ _ w1s w1I ((zFr.refl).trans (w1F.mono rfl)) (zrg _).1 (zrg _).2)
            refine zs_lcmp (pc := 9) t140_9 (c := 1) (zlcG rfl ll0 (by omega)) ?_
            refine zs_if_geT (pc := 10) t140_10 li1 (by decide) ?_
            refine zs_lload (pc := 27) t140_27 rfl ?_
            refine zs_lret (pc := 29) t140_29 mr140 ?_
            show zGo X l 1 0 0 139 15 [(0, .ref (181 + 3 * w7n))] [.long w38v] w1M _
            obtain ⟨w53v, w53⟩ : ∃ v, w38v.toInt32 = v := ⟨_, rfl⟩
            have w53g := zrg w53v
            refine zs_l2i (pc := 15) t139_15 (c := w53v) w53 ?_
            refine zs_iret (pc := 16) t139_16 mr139 rfl ?_
            show zGo X l 6 0 0 169 105 [(3, .ref (181 + 3 * w7n)), (0, .ref 6), (1, .int a), (2, .int b)] [.int w53v] w1M _
            exact zs_iret (pc := 105) t169_105 mr169 rfl (hQ _ _ w1s w1I ((zFr.refl).trans (w1F.mono rfl)) (zrg _).1 (zrg _).2)
          refine zs_lcmp (pc := 2) t134_2 (c := 1) (zlcG ll1 rfl (by omega)) ?_
          refine zs_if_ltF (pc := 3) t134_3 li1 (by decide) ?_
          refine zs_lload_n (pc := 6) t134_6 rfl ?_
          refine zs_goto (pc := 7) t134_7 ?_
          refine zs_lret (pc := 11) t134_11 mr134 ?_
          show zGo X l 1 0 0 139 12 [(0, .ref (181 + 3 * w7n))] [.long (1 : Int64), .long (zJ w1M (181 + 3 * w7n) 9)] w1M _
          refine zs_invS (pc := 12) (as := [.long (zJ w1M (181 + 3 * w7n) 9), .long (1 : Int64)]) (st := []) t139_12 (by decide) mf140 rfl rfl ⟨by decide, by decide, Nat.le_of_ble_eq_true rfl, Nat.le_of_ble_eq_true rfl⟩ (zs_in (by decide) mf140 (Nat.le_of_ble_eq_true rfl) ?_) (fun _ _ q => q)
          show zGo X l 0 0 0 140 0 [(0, .long (zJ w1M (181 + 3 * w7n) 9)), (2, .long (1 : Int64))] [] w1M _
          refine zs_lload_n (pc := 0) t140_0 rfl ?_
          refine zs_lload_n (pc := 1) t140_1 rfl ?_
          obtain ⟨w55v, w55⟩ : ∃ v, (zJ w1M (181 + 3 * w7n) 9) / (1 : Int64) = v := ⟨_, rfl⟩
          have w55g := zrg64 w55v
          refine zs_ldiv (pc := 2) t140_2 (by decide) (c := w55v) w55 ?_
          refine zs_lstore (pc := 3) t140_3 (ls' := [(4, .long w55v), (0, .long (zJ w1M (181 + 3 * w7n) 9)), (2, .long (1 : Int64))]) (zml mf140 (by decide)) rfl ?_
          refine zs_lload_n (pc := 5) t140_5 rfl ?_
          refine zs_lload_n (pc := 6) t140_6 rfl ?_
          obtain ⟨w56v, w56⟩ : ∃ v, (zJ w1M (181 + 3 * w7n) 9) ^^^ (1 : Int64) = v := ⟨_, rfl⟩
          have w56g := zrg64 w56v
          refine zs_lxor (pc := 7) t140_7 (c := w56v) w56 ?_
          refine zs_lconst (pc := 8) t140_8 (v := 0) (by decide) ?_
          by_cases w57 : w56v.toInt < 0
          · refine zs_lcmp (pc := 9) t140_9 (c := -1) (zlcL rfl ll0 (by omega)) ?_
            refine zs_if_geF (pc := 10) t140_10 lin1 (by decide) ?_
            refine zs_lload (pc := 13) t140_13 rfl ?_
            refine zs_lload_n (pc := 15) t140_15 rfl ?_
            obtain ⟨w58v, w58⟩ : ∃ v, w55v * (1 : Int64) = v := ⟨_, rfl⟩
            have w58g := zrg64 w58v
            refine zs_lmul (pc := 16) t140_16 (c := w58v) w58 ?_
            refine zs_lload_n (pc := 17) t140_17 rfl ?_
            by_cases w59 : w58v.toInt < (zJ w1M (181 + 3 * w7n) 9).toInt
            · refine zs_lcmp (pc := 18) t140_18 (c := -1) (zlcL rfl rfl (by omega)) ?_
              refine zs_if_eqF (pc := 19) t140_19 lin1 (by decide) ?_
              refine zs_lload (pc := 22) t140_22 rfl ?_
              refine zs_lconst (pc := 24) t140_24 (v := 1) (by decide) ?_
              obtain ⟨w60v, w60⟩ : ∃ v, w55v - (1 : Int64) = v := ⟨_, rfl⟩
              have w60g := zrg64 w60v
              refine zs_lsub (pc := 25) t140_25 (c := w60v) w60 ?_
              refine zs_lret (pc := 26) t140_26 mr140 ?_
              show zGo X l 1 0 0 139 15 [(0, .ref (181 + 3 * w7n))] [.long w60v] w1M _
              obtain ⟨w61v, w61⟩ : ∃ v, w60v.toInt32 = v := ⟨_, rfl⟩
              have w61g := zrg w61v
              refine zs_l2i (pc := 15) t139_15 (c := w61v) w61 ?_
              refine zs_iret (pc := 16) t139_16 mr139 rfl ?_
              show zGo X l 6 0 0 169 105 [(3, .ref (181 + 3 * w7n)), (0, .ref 6), (1, .int a), (2, .int b)] [.int w61v] w1M _
              exact zs_iret (pc := 105) t169_105 mr169 rfl (hQ _ _ w1s w1I ((zFr.refl).trans (w1F.mono rfl)) (zrg _).1 (zrg _).2)
            by_cases w62 : w58v.toInt = (zJ w1M (181 + 3 * w7n) 9).toInt
            · refine zs_lcmp (pc := 18) t140_18 (c := 0) (zlcE rfl rfl (by omega)) ?_
              refine zs_if_eqT (pc := 19) t140_19 li0 (by decide) ?_
              refine zs_lload (pc := 27) t140_27 rfl ?_
              refine zs_lret (pc := 29) t140_29 mr140 ?_
              show zGo X l 1 0 0 139 15 [(0, .ref (181 + 3 * w7n))] [.long w55v] w1M _
              obtain ⟨w63v, w63⟩ : ∃ v, w55v.toInt32 = v := ⟨_, rfl⟩
              have w63g := zrg w63v
              refine zs_l2i (pc := 15) t139_15 (c := w63v) w63 ?_
              refine zs_iret (pc := 16) t139_16 mr139 rfl ?_
              show zGo X l 6 0 0 169 105 [(3, .ref (181 + 3 * w7n)), (0, .ref 6), (1, .int a), (2, .int b)] [.int w63v] w1M _
              exact zs_iret (pc := 105) t169_105 mr169 rfl (hQ _ _ w1s w1I ((zFr.refl).trans (w1F.mono rfl)) (zrg _).1 (zrg _).2)
            refine zs_lcmp (pc := 18) t140_18 (c := 1) (zlcG rfl rfl (by omega)) ?_
            refine zs_if_eqF (pc := 19) t140_19 li1 (by decide) ?_
            refine zs_lload (pc := 22) t140_22 rfl ?_
            refine zs_lconst (pc := 24) t140_24 (v := 1) (by decide) ?_
            obtain ⟨w65v, w65⟩ : ∃ v, w55v - (1 : Int64) = v := ⟨_, rfl⟩
            have w65g := zrg64 w65v
            refine zs_lsub (pc := 25) t140_25 (c := w65v) w65 ?_
            refine zs_lret (pc := 26) t140_26 mr140 ?_
            show zGo X l 1 0 0 139 15 [(0, .ref (181 + 3 * w7n))] [.long w65v] w1M _
            obtain ⟨w66v, w66⟩ : ∃ v, w65v.toInt32 = v := ⟨_, rfl⟩
            have w66g := zrg w66v
            refine zs_l2i (pc := 15) t139_15 (c := w66v) w66 ?_
            refine zs_iret (pc := 16) t139_16 mr139 rfl ?_
            show zGo X l 6 0 0 169 105 [(3, .ref (181 + 3 * w7n)), (0, .ref 6), (1, .int a), (2, .int b)] [.int w66v] w1M _
            exact zs_iret (pc := 105) t169_105 mr169 rfl (hQ _ _ w1s w1I ((zFr.refl).trans (w1F.mono rfl)) (zrg _).1 (zrg _).2)
          by_cases w67 : w56v.toInt = 0
          · refine zs_lcmp (pc := 9) t140_9 (c := 0) (zlcE rfl ll0 (by omega)) ?_
            refine zs_if_geT (pc := 10) t140_10 li0 (by decide) ?_
            refine zs_lload (pc := 27) t140_27 rfl ?_
            refine zs_lret (pc := 29) t140_29 mr140 ?_
            show zGo X l 1 0 0 139 15 [(0, .ref (181 + 3 * w7n))] [.long w55v] w1M _
            obtain ⟨w68v, w68⟩ : ∃ v, w55v.toInt32 = v := ⟨_, rfl⟩
            have w68g := zrg w68v
            refine zs_l2i (pc := 15) t139_15 (c := w68v) w68 ?_
            refine zs_iret (pc := 16) t139_16 mr139 rfl ?_
            show zGo X l 6 0 0 169 105 [(3, .ref (181 + 3 * w7n)), (0, .ref 6), (1, .int a), (2, .int b)] [.int w68v] w1M _
            exact zs_iret (pc := 105) t169_105 mr169 rfl (hQ _ _ w1s w1I ((zFr.refl).trans (w1F.mono rfl)) (zrg _).1 (zrg _).2)
          refine zs_lcmp (pc := 9) t140_9 (c := 1) (zlcG rfl ll0 (by omega)) ?_
          refine zs_if_geT (pc := 10) t140_10 li1 (by decide) ?_
          refine zs_lload (pc := 27) t140_27 rfl ?_
          refine zs_lret (pc := 29) t140_29 mr140 ?_
          show zGo X l 1 0 0 139 15 [(0, .ref (181 + 3 * w7n))] [.long w55v] w1M _
          obtain ⟨w70v, w70⟩ : ∃ v, w55v.toInt32 = v := ⟨_, rfl⟩
          have w70g := zrg w70v
          refine zs_l2i (pc := 15) t139_15 (c := w70v) w70 ?_
          refine zs_iret (pc := 16) t139_16 mr139 rfl ?_
          show zGo X l 6 0 0 169 105 [(3, .ref (181 + 3 * w7n)), (0, .ref 6), (1, .int a), (2, .int b)] [.int w70v] w1M _
          exact zs_iret (pc := 105) t169_105 mr169 rfl (hQ _ _ w1s w1I ((zFr.refl).trans (w1F.mono rfl)) (zrg _).1 (zrg _).2)
        by_cases w71 : b.toInt = 6
        · refine zs_tswI (pc := 24) t169_24 ((rfl : b.toInt = b.toInt).trans w71) (by decide) rfl (pc2 := 106) rfl ?_
          refine zs_aload_n (pc := 106) t169_106 rfl ?_
          have w72 := ibT181_0_5 w1I w8
          refine zs_get (pc := 107) t169_107 (by decide) (zk1 (w1s.k (fT181_0 w7n w8))) (zfvi rfl rfl) ?_
          exact zs_iret (pc := 110) t169_110 mr169 rfl (hQ _ _ w1s w1I ((zFr.refl).trans (w1F.mono rfl)) (zrg _).1 (zrg _).2)
        by_cases w73 : b.toInt = 7
        · refine zs_tswI (pc := 24) t169_24 ((rfl : b.toInt = b.toInt).trans w73) (by decide) rfl (pc2 := 111) rfl ?_
          refine zs_aload_n (pc := 111) t169_111 rfl ?_
          refine zs_get (pc := 112) t169_112 (by decide) (zk1 (w1s.k fk_zMc_6)) (w1s.p rfl fv_zMc_6_6) ?_
          refine zs_iload_n (pc := 115) t169_115 rfl ?_
          refine zs_invV (pc := 116) (k := 164) (as' := [.int a]) (st := []) t169_116 mf170 rfl rfl (Or.inl ⟨by decide, (zk1 (w1s.k fk_zMc_164))⟩) ⟨by decide, by decide, Nat.le_of_ble_eq_true rfl, Nat.le_of_ble_eq_true rfl⟩ (zs_in (by decide) mf170 (Nat.le_of_ble_eq_true rfl) ?_) (fun _ _ q => q)
          show zGo X l 3 0 0 170 0 [(0, .ref 164), (1, .int a)] [] w1M _
          refine zs_aload_n (pc := 0) t170_0 rfl ?_
          refine zs_aload_n (pc := 1) t170_1 rfl ?_
          refine zs_iload_n (pc := 2) t170_2 rfl ?_
          refine zs_invV (pc := 3) (k := 164) (as' := [.int a]) (st := [.ref 164]) t170_3 mf171 rfl rfl (Or.inl ⟨by decide, (zk1 (w1s.k fk_zMc_164))⟩) ⟨by decide, by decide, Nat.le_of_ble_eq_true rfl, Nat.le_of_ble_eq_true rfl⟩ (C171_164 w1s w1I ?_) (fun _ _ q => q)
          intro w74v w74a w74b
          show zGo X l 3 0 0 170 6 [(0, .ref 164), (1, .int a)] [.int w74v, .ref 164] w1M _
          refine zs_iload_n (pc := 6) t170_6 rfl ?_
          refine zs_invV (pc := 7) (k := 164) (as' := [.int w74v, .int a]) (st := []) t170_7 mf146 rfl rfl (Or.inl ⟨by decide, (zk1 (w1s.k fk_zMc_164))⟩) ⟨by decide, by decide, Nat.le_of_ble_eq_true rfl, Nat.le_of_ble_eq_true rfl⟩ (C146_164 w1s w1I ?_) (fun _ _ q => q)
          intro w75v w75a w75b
          show zGo X l 3 0 0 170 10 [(0, .ref 164), (1, .int a)] [.int w75v] w1M _
          refine zs_iret (pc := 10) t170_10 mr170 rfl ?_
          show zGo X l 6 0 0 169 119 [(3, .ref (181 + 3 * w7n)), (0, .ref 6), (1, .int a), (2, .int b)] [.int w75v] w1M _
          exact zs_iret (pc := 119) t169_119 mr169 rfl (hQ _ _ w1s w1I ((zFr.refl).trans (w1F.mono rfl)) (zrg _).1 (zrg _).2)
        by_cases w76 : b.toInt = 8
        · refine zs_tswI (pc := 24) t169_24 ((rfl : b.toInt = b.toInt).trans w76) (by decide) rfl (pc2 := 120) rfl ?_
          refine zs_aload_n (pc := 120) t169_120 rfl ?_
          refine zs_get (pc := 121) t169_121 (by decide) (zk1 (w1s.k fk_zMc_6)) (w1s.p rfl fv_zMc_6_6) ?_
          refine zs_iload_n (pc := 124) t169_124 rfl ?_
          refine zs_invV (pc := 125) (k := 164) (as' := [.int a]) (st := []) t169_125 mf171 rfl rfl (Or.inl ⟨by decide, (zk1 (w1s.k fk_zMc_164))⟩) ⟨by decide, by decide, Nat.le_of_ble_eq_true rfl, Nat.le_of_ble_eq_true rfl⟩ (C171_164 w1s w1I ?_) (fun _ _ q => q)
          intro w77v w77a w77b
          show zGo X l 6 0 0 169 128 [(3, .ref (181 + 3 * w7n)), (0, .ref 6), (1, .int a), (2, .int b)] [.int w77v] w1M _
          exact zs_iret (pc := 128) t169_128 mr169 rfl (hQ _ _ w1s w1I ((zFr.refl).trans (w1F.mono rfl)) (zrg _).1 (zrg _).2)
        refine zs_tswD (pc := 24) t169_24 rfl (by omega) (pc2 := 129) rfl ?_
        refine zs_ldc (pc := 129) t169_129 (v := -100000) rfl (by decide) ?_
        exact zs_iret (pc := 131) t169_131 mr169 (by decide) (hQ _ _ w1s w1I ((zFr.refl).trans (w1F.mono rfl)) (zrg _).1 (zrg _).2)
theorem C172_6 {X : zX} {l : Launch} {M : zM} {Q : Option Value → zM → Prop} {a b : Int32} (hs : zSk zMc M) (hI : zIv cLo cHi M) (hQ : ∀ (M' : zM) (v : Int32), zSk zMc M' → zIv cLo cHi M' → zFr [(6, 335, none)] M M' → (-2147483648) ≤ v.toInt → v.toInt ≤ 2147483647 → Q (some (.int v)) M') : zCall X l 6 0 0 172 [.ref 6, .int a, .int b] M Q := by
  have ga := zrg a
  have gb := zrg b
  refine zs_in (by decide) mf172 (Nat.le_of_ble_eq_true rfl) ?_
  show zGo X l 6 0 0 172 0 [(0, .ref 6), (1, .int a), (2, .int b)] [] M _
  refine zs_aload_n (pc := 0) t172_0 rfl ?_
  refine zs_get (pc := 1) t172_1 (by decide) (zk1 (hs.k fk_zMc_6)) (hs.p rfl fv_zMc_6_6) ?_
  refine zs_aload_n (pc := 4) t172_4 rfl ?_
  refine zs_get (pc := 5) t172_5 (by decide) (zk1 (hs.k fk_zMc_6)) (hs.p rfl fv_zMc_6_0) ?_
  refine zs_invV (pc := 8) (k := 164) (as' := [.ref 7]) (st := []) t172_8 mf105 rfl rfl (Or.inl ⟨by decide, (zk1 (hs.k fk_zMc_164))⟩) ⟨by decide, by decide, Nat.le_of_ble_eq_true rfl, Nat.le_of_ble_eq_true rfl⟩ (C105_164_7 hs hI ?_) (fun _ _ q => q)
  intro w1M w1s w1I w1F
  show zGo X l 6 0 0 172 11 [(0, .ref 6), (1, .int a), (2, .int b)] [.ref 164] w1M _
  refine zs_iload_n (pc := 11) t172_11 rfl ?_
  refine zs_invV (pc := 12) (k := 164) (as' := [.int a]) (st := []) t172_12 mf163 rfl rfl (Or.inl ⟨by decide, (zk1 (w1s.k fk_zMc_164))⟩) ⟨by decide, by decide, Nat.le_of_ble_eq_true rfl, Nat.le_of_ble_eq_true rfl⟩ (zs_in (by decide) mf163 (Nat.le_of_ble_eq_true rfl) ?_) (fun _ _ q => q)
  show zGo X l 1 0 0 163 0 [(0, .ref 164), (1, .int a)] [] w1M _
  refine zs_iload_n (pc := 0) t163_0 rfl ?_
  refine zs_aload_n (pc := 1) t163_1 rfl ?_
  have w2 := ib164_4 w1I
  refine zs_get (pc := 2) t163_2 (by decide) (zk1 (w1s.k fk_zMc_164)) (zfvi rfl rfl) ?_
  by_cases w3 : (zI w1M 164 4).toInt ≤ a.toInt
  · refine zs_icmp_geT (pc := 5) t163_5 rfl rfl (by omega) ?_
    refine zs_aconst_null (pc := 19) t163_19 ?_
    refine zs_aret0 (pc := 20) t163_20 (by rw [mr163]; rfl) ?_
    show zGo X l 6 0 0 172 15 [(0, .ref 6), (1, .int a), (2, .int b)] [.null] w1M _
    refine zs_astore_n0 (pc := 15) t172_15 (ls' := [(3, .null), (0, .ref 6), (1, .int a), (2, .int b)]) (zml mf172 (by decide)) rfl ?_
    refine zs_aload_n0 (pc := 16) t172_16 rfl ?_
    refine zs_ifnullT (pc := 17) t172_17 ?_
    refine zs_iconst (pc := 31) t172_31 (v := -1) (by decide) ?_
    refine zs_goto (pc := 32) t172_32 ?_
    exact zs_iret (pc := 41) t172_41 mr172 (by decide) (hQ _ _ w1s w1I ((zFr.refl).trans (w1F.mono rfl)) (zrg _).1 (zrg _).2)
  · refine zs_icmp_geF (pc := 5) t163_5 rfl rfl (by omega) ?_
    refine zs_aload_n (pc := 8) t163_8 rfl ?_
    refine zs_get (pc := 9) t163_9 (by decide) (zk1 (w1s.k fk_zMc_164)) (w1s.p rfl fv_zMc_164_1) ?_
    refine zs_iload_n (pc := 12) t163_12 rfl ?_
    refine zs_invV (pc := 13) (k := 165) (as' := [.int a]) (st := []) t163_13 mf126 rfl rfl (Or.inl ⟨by decide, (zk1 (w1s.k fk_zMc_165))⟩) ⟨by decide, by decide, Nat.le_of_ble_eq_true rfl, Nat.le_of_ble_eq_true rfl⟩ (zs_in (by decide) mf126 (Nat.le_of_ble_eq_true rfl) ?_) (fun _ _ q => q)
    show zGo X l 0 0 0 126 0 [(0, .ref 165), (1, .int a)] [] w1M _
    refine zs_iload_n (pc := 0) t126_0 rfl ?_
    by_cases w4 : a.toInt < 0
    · refine zs_if_ltT (pc := 1) t126_1 rfl (by omega) ?_
      refine zs_aconst_null (pc := 21) t126_21 ?_
      refine zs_aret0 (pc := 22) t126_22 (by rw [mr126]; rfl) ?_
      show zGo X l 1 0 0 163 16 [(0, .ref 164), (1, .int a)] [.null] w1M _
      refine zs_goto (pc := 16) t163_16 ?_
      refine zs_aret0 (pc := 20) t163_20 (by rw [mr163]; rfl) ?_
      show zGo X l 6 0 0 172 15 [(0, .ref 6), (1, .int a), (2, .int b)] [.null] w1M _
      refine zs_astore_n0 (pc := 15) t172_15 (ls' := [(3, .null), (0, .ref 6), (1, .int a), (2, .int b)]) (zml mf172 (by decide)) rfl ?_
      refine zs_aload_n0 (pc := 16) t172_16 rfl ?_
      refine zs_ifnullT (pc := 17) t172_17 ?_
      refine zs_iconst (pc := 31) t172_31 (v := -1) (by decide) ?_
      refine zs_goto (pc := 32) t172_32 ?_
      exact zs_iret (pc := 41) t172_41 mr172 (by decide) (hQ _ _ w1s w1I ((zFr.refl).trans (w1F.mono rfl)) (zrg _).1 (zrg _).2)
    · refine zs_if_ltF (pc := 1) t126_1 rfl (by omega) ?_
      refine zs_iload_n (pc := 4) t126_4 rfl ?_
      refine zs_aload_n (pc := 5) t126_5 rfl ?_
      have w5 := ib165_2 w1I
      refine zs_get (pc := 6) t126_6 (by decide) (zk1 (w1s.k fk_zMc_165)) (zfvi rfl rfl) ?_
      by_cases w6 : (zI w1M 165 2).toInt ≤ a.toInt
      · refine zs_icmp_geT (pc := 9) t126_9 rfl rfl (by omega) ?_
        refine zs_aconst_null (pc := 21) t126_21 ?_
        refine zs_aret0 (pc := 22) t126_22 (by rw [mr126]; rfl) ?_
        show zGo X l 1 0 0 163 16 [(0, .ref 164), (1, .int a)] [.null] w1M _
        refine zs_goto (pc := 16) t163_16 ?_
        refine zs_aret0 (pc := 20) t163_20 (by rw [mr163]; rfl) ?_
        show zGo X l 6 0 0 172 15 [(0, .ref 6), (1, .int a), (2, .int b)] [.null] w1M _
        refine zs_astore_n0 (pc := 15) t172_15 (ls' := [(3, .null), (0, .ref 6), (1, .int a), (2, .int b)]) (zml mf172 (by decide)) rfl ?_
        refine zs_aload_n0 (pc := 16) t172_16 rfl ?_
        refine zs_ifnullT (pc := 17) t172_17 ?_
        refine zs_iconst (pc := 31) t172_31 (v := -1) (by decide) ?_
        refine zs_goto (pc := 32) t172_32 ?_
        exact zs_iret (pc := 41) t172_41 mr172 (by decide) (hQ _ _ w1s w1I ((zFr.refl).trans (w1F.mono rfl)) (zrg _).1 (zrg _).2)
      · refine zs_icmp_geF (pc := 9) t126_9 rfl rfl (by omega) ?_
        refine zs_aload_n (pc := 12) t126_12 rfl ?_
        refine zs_get (pc := 13) t126_13 (by decide) (zk1 (w1s.k fk_zMc_165)) (w1s.p rfl fv_zMc_165_1) ?_
        refine zs_iload_n (pc := 16) t126_16 rfl ?_
        obtain ⟨w7n, w7⟩ : ∃ n : Nat, a.toInt = (n : Int) := ⟨a.toInt.toNat, by omega⟩
        have w8 : w7n < 20 := by omega
        refine zs_aald (pc := 17) t126_17 (j := w7n) (Or.inr (zk1 (w1s.k fk_zMc_179))) w7 (zk2 (w1s.k fk_zMc_179) (by omega)) (w1s.a (fpT181 w7n w8)) ?_
        refine zs_goto (pc := 18) t126_18 ?_
        refine zs_aret (pc := 22) t126_22 (by rw [mr126]; rfl) ?_
        show zGo X l 1 0 0 163 16 [(0, .ref 164), (1, .int a)] [.ref (181 + 3 * w7n)] w1M _
        refine zs_goto (pc := 16) t163_16 ?_
        refine zs_aret (pc := 20) t163_20 (by rw [mr163]; rfl) ?_
        show zGo X l 6 0 0 172 15 [(0, .ref 6), (1, .int a), (2, .int b)] [.ref (181 + 3 * w7n)] w1M _
        refine zs_astore_n (pc := 15) t172_15 (ls' := [(3, .ref (181 + 3 * w7n)), (0, .ref 6), (1, .int a), (2, .int b)]) (zml mf172 (by decide)) rfl ?_
        refine zs_aload_n (pc := 16) t172_16 rfl ?_
        refine zs_ifnullF (pc := 17) t172_17 ?_
        refine zs_aload_n (pc := 20) t172_20 rfl ?_
        refine zs_get (pc := 21) t172_21 (by decide) (zk1 (w1s.k fk_zMc_6)) (w1s.p rfl fv_zMc_6_0) ?_
        refine zs_iload_n (pc := 24) t172_24 rfl ?_
        refine zs_invV (pc := 25) (k := 7) (as' := [.int b]) (st := []) t172_25 mf41 rfl rfl (Or.inl ⟨by decide, (zk1 (w1s.k fk_zMc_7))⟩) ⟨by decide, by decide, Nat.le_of_ble_eq_true rfl, Nat.le_of_ble_eq_true rfl⟩ (zs_in (by decide) mf41 (Nat.le_of_ble_eq_true rfl) ?_) (fun _ _ q => q)
        show zGo X l 0 0 0 41 0 [(0, .ref 7), (1, .int b)] [] w1M _
        refine zs_iload_n (pc := 0) t41_0 rfl ?_
        by_cases w9 : b.toInt < 0
        · refine zs_if_ltT (pc := 1) t41_1 rfl (by omega) ?_
          refine zs_iconst (pc := 16) t41_16 (v := 0) (by decide) ?_
          refine zs_iret (pc := 17) t41_17 mr41 (by decide) ?_
          show zGo X l 6 0 0 172 28 [(3, .ref (181 + 3 * w7n)), (0, .ref 6), (1, .int a), (2, .int b)] [.int (0 : Int32)] w1M _
          refine zs_if_neF (pc := 28) t172_28 li0 (by decide) ?_
          refine zs_iconst (pc := 31) t172_31 (v := -1) (by decide) ?_
          refine zs_goto (pc := 32) t172_32 ?_
          exact zs_iret (pc := 41) t172_41 mr172 (by decide) (hQ _ _ w1s w1I ((zFr.refl).trans (w1F.mono rfl)) (zrg _).1 (zrg _).2)
        · refine zs_if_ltF (pc := 1) t41_1 rfl (by omega) ?_
          refine zs_iload_n (pc := 4) t41_4 rfl ?_
          refine zs_aload_n (pc := 5) t41_5 rfl ?_
          have w10 := ib7_0 hI
          refine zs_get (pc := 6) t41_6 (by decide) (zk1 (w1s.k fk_zMc_7)) (zfvi rfl ((w1F 7 0 rfl).trans rfl)) ?_
          by_cases w11 : (zI M 7 0).toInt ≤ b.toInt
          · refine zs_icmp_geT (pc := 9) t41_9 rfl rfl (by omega) ?_
            refine zs_iconst (pc := 16) t41_16 (v := 0) (by decide) ?_
            refine zs_iret (pc := 17) t41_17 mr41 (by decide) ?_
            show zGo X l 6 0 0 172 28 [(3, .ref (181 + 3 * w7n)), (0, .ref 6), (1, .int a), (2, .int b)] [.int (0 : Int32)] w1M _
            refine zs_if_neF (pc := 28) t172_28 li0 (by decide) ?_
            refine zs_iconst (pc := 31) t172_31 (v := -1) (by decide) ?_
            refine zs_goto (pc := 32) t172_32 ?_
            exact zs_iret (pc := 41) t172_41 mr172 (by decide) (hQ _ _ w1s w1I ((zFr.refl).trans (w1F.mono rfl)) (zrg _).1 (zrg _).2)
          · refine zs_icmp_geF (pc := 9) t41_9 rfl rfl (by omega) ?_
            refine zs_iconst (pc := 12) t41_12 (v := 1) (by decide) ?_
            refine zs_goto (pc := 13) t41_13 ?_
            refine zs_iret (pc := 17) t41_17 mr41 (by decide) ?_
            show zGo X l 6 0 0 172 28 [(3, .ref (181 + 3 * w7n)), (0, .ref 6), (1, .int a), (2, .int b)] [.int (1 : Int32)] w1M _
            refine zs_if_neT (pc := 28) t172_28 li1 (by decide) ?_
            refine zs_aload_n (pc := 35) t172_35 rfl ?_
            refine zs_get (pc := 36) t172_36 (by decide) (zk1 (w1s.k (fT181_0 w7n w8))) (w1s.p rfl (fvT181_6 w7n w8)) ?_
            refine zs_iload_n (pc := 39) t172_39 rfl ?_
            obtain ⟨w12n, w12⟩ : ∃ n : Nat, b.toInt = (n : Int) := ⟨b.toInt.toNat, by omega⟩
            have w13 := ibT181_1 w1I w8 w12n
            refine zs_iald (pc := 40) t172_40 (j := w12n) (by omega) (zk1 (w1s.k (fT181_1 w7n w8))) w12 (zk2 (w1s.k (fT181_1 w7n w8)) (by omega)) rfl ?_
            exact zs_iret (pc := 41) t172_41 mr172 rfl (hQ _ _ w1s w1I ((zFr.refl).trans (w1F.mono rfl)) (zrg _).1 (zrg _).2)
theorem C177_6 {X : zX} {l : Launch} {M : zM} {Q : Option Value → zM → Prop} {a b : Int32} (hs : zSk zMc M) (hI : zIv cLo cHi M) (hQ : ∀ (M' : zM) (v : Int32), zSk zMc M' → zIv cLo cHi M' → zFr [(6, 335, none)] M M' → (-2147483648) ≤ v.toInt → v.toInt ≤ 2147483647 → Q (some (.int v)) M') : zCall X l 6 0 0 177 [.ref 6, .int a, .int b] M Q := by
  have ga := zrg a
  have gb := zrg b
  refine zs_in (by decide) mf177 (Nat.le_of_ble_eq_true rfl) ?_
  show zGo X l 6 0 0 177 0 [(0, .ref 6), (1, .int a), (2, .int b)] [] M _
  refine zs_iload_n (pc := 0) t177_0 rfl ?_
  by_cases w1 : a.toInt < 0
  · refine zs_if_ltT (pc := 1) t177_1 rfl (by omega) ?_
    refine zs_ldc (pc := 22) t177_22 (v := -100000) rfl (by decide) ?_
    exact zs_iret (pc := 24) t177_24 mr177 (by decide) (hQ _ _ hs hI (zFr.refl) (zrg _).1 (zrg _).2)
  · refine zs_if_ltF (pc := 1) t177_1 rfl (by omega) ?_
    refine zs_iload_n (pc := 4) t177_4 rfl ?_
    refine zs_aload_n (pc := 5) t177_5 rfl ?_
    refine zs_get (pc := 6) t177_6 (by decide) (zk1 (hs.k fk_zMc_6)) (hs.p rfl fv_zMc_6_6) ?_
    refine zs_aload_n (pc := 9) t177_9 rfl ?_
    refine zs_get (pc := 10) t177_10 (by decide) (zk1 (hs.k fk_zMc_6)) (hs.p rfl fv_zMc_6_0) ?_
    refine zs_invV (pc := 13) (k := 164) (as' := [.ref 7]) (st := [.int a]) t177_13 mf105 rfl rfl (Or.inl ⟨by decide, (zk1 (hs.k fk_zMc_164))⟩) ⟨by decide, by decide, Nat.le_of_ble_eq_true rfl, Nat.le_of_ble_eq_true rfl⟩ (C105_164_7 hs hI ?_) (fun _ _ q => q)
    intro w2M w2s w2I w2F
    show zGo X l 6 0 0 177 16 [(0, .ref 6), (1, .int a), (2, .int b)] [.ref 164, .int a] w2M _
    refine zs_invV (pc := 16) (k := 164) (as' := []) (st := [.int a]) t177_16 mf152 rfl rfl (Or.inl ⟨by decide, (zk1 (w2s.k fk_zMc_164))⟩) ⟨by decide, by decide, Nat.le_of_ble_eq_true rfl, Nat.le_of_ble_eq_true rfl⟩ (zs_in (by decide) mf152 (Nat.le_of_ble_eq_true rfl) ?_) (fun _ _ q => q)
    show zGo X l 0 0 0 152 0 [(0, .ref 164)] [] w2M _
    refine zs_aload_n (pc := 0) t152_0 rfl ?_
    have w3 := ib164_9 w2I
    refine zs_get (pc := 1) t152_1 (by decide) (zk1 (w2s.k fk_zMc_164)) (zfvi rfl rfl) ?_
    refine zs_iret (pc := 4) t152_4 mr152 rfl ?_
    show zGo X l 6 0 0 177 19 [(0, .ref 6), (1, .int a), (2, .int b)] [.int (zI w2M 164 9), .int a] w2M _
    by_cases w4 : a.toInt < (zI w2M 164 9).toInt
    · refine zs_icmp_ltT (pc := 19) t177_19 rfl rfl (by omega) ?_
      refine zs_iload_n (pc := 25) t177_25 rfl ?_
      by_cases w5 : b.toInt = 0
      · refine zs_lsw (pc := 26) t177_26 (off := 26) ((rfl : b.toInt = b.toInt).trans w5) rfl (pc2 := 52) rfl ?_
        refine zs_aload_n (pc := 52) t177_52 rfl ?_
        refine zs_get (pc := 53) t177_53 (by decide) (zk1 (w2s.k fk_zMc_6)) (w2s.p rfl fv_zMc_6_6) ?_
        refine zs_iload_n (pc := 56) t177_56 rfl ?_
        refine zs_invV (pc := 57) (k := 164) (as' := [.int a]) (st := []) t177_57 mf178 rfl rfl (Or.inl ⟨by decide, (zk1 (w2s.k fk_zMc_164))⟩) ⟨by decide, by decide, Nat.le_of_ble_eq_true rfl, Nat.le_of_ble_eq_true rfl⟩ (zs_in (by decide) mf178 (Nat.le_of_ble_eq_true rfl) ?_) (fun _ _ q => q)
        show zGo X l 0 0 0 178 0 [(0, .ref 164), (1, .int a)] [] w2M _
        refine zs_iload_n (pc := 0) t178_0 rfl ?_
        refine zs_if_ltF (pc := 1) t178_1 rfl (by omega) ?_
        refine zs_iload_n (pc := 4) t178_4 rfl ?_
        refine zs_aload_n (pc := 5) t178_5 rfl ?_
        refine zs_get (pc := 6) t178_6 (by decide) (zk1 (w2s.k fk_zMc_164)) (zfvi rfl rfl) ?_
        by_cases w6 : (zI w2M 164 9).toInt ≤ a.toInt
        · refine zs_icmp_geT (pc := 9) t178_9 rfl rfl (by omega) ?_
          refine zs_iconst (pc := 21) t178_21 (v := 0) (by decide) ?_
          refine zs_iret (pc := 22) t178_22 mr178 (by decide) ?_
          show zGo X l 6 0 0 177 60 [(0, .ref 6), (1, .int a), (2, .int b)] [.int (0 : Int32)] w2M _
          exact zs_iret (pc := 60) t177_60 mr177 (by decide) (hQ _ _ w2s w2I ((zFr.refl).trans (w2F.mono rfl)) (zrg _).1 (zrg _).2)
        · refine zs_icmp_geF (pc := 9) t178_9 rfl rfl (by omega) ?_
          refine zs_aload_n (pc := 12) t178_12 rfl ?_
          refine zs_get (pc := 13) t178_13 (by decide) (zk1 (w2s.k fk_zMc_164)) (w2s.p rfl fv_zMc_164_11) ?_
          refine zs_iload_n (pc := 16) t178_16 rfl ?_
          obtain ⟨w7n, w7⟩ : ∃ n : Nat, a.toInt = (n : Int) := ⟨a.toInt.toNat, by omega⟩
          have w8 := ib321 w2I w7n
          refine zs_iald (pc := 17) t178_17 (j := w7n) (by decide) (zk1 (w2s.k fk_zMc_321)) w7 (zk2 (w2s.k fk_zMc_321) (by omega)) rfl ?_
          refine zs_goto (pc := 18) t178_18 ?_
          refine zs_iret (pc := 22) t178_22 mr178 rfl ?_
          show zGo X l 6 0 0 177 60 [(0, .ref 6), (1, .int a), (2, .int b)] [.int (zI w2M 321 w7n)] w2M _
          exact zs_iret (pc := 60) t177_60 mr177 rfl (hQ _ _ w2s w2I ((zFr.refl).trans (w2F.mono rfl)) (zrg _).1 (zrg _).2)
      by_cases w9 : b.toInt = 1
      · refine zs_lsw (pc := 26) t177_26 (off := 35) ((rfl : b.toInt = b.toInt).trans w9) rfl (pc2 := 61) rfl ?_
        refine zs_aload_n (pc := 61) t177_61 rfl ?_
        refine zs_get (pc := 62) t177_62 (by decide) (zk1 (w2s.k fk_zMc_6)) (w2s.p rfl fv_zMc_6_6) ?_
        refine zs_iload_n (pc := 65) t177_65 rfl ?_
        refine zs_invV (pc := 66) (k := 164) (as' := [.int a]) (st := []) t177_66 mf179 rfl rfl (Or.inl ⟨by decide, (zk1 (w2s.k fk_zMc_164))⟩) ⟨by decide, by decide, Nat.le_of_ble_eq_true rfl, Nat.le_of_ble_eq_true rfl⟩ (zs_in (by decide) mf179 (Nat.le_of_ble_eq_true rfl) ?_) (fun _ _ q => q)
        show zGo X l 1 0 0 179 0 [(0, .ref 164), (1, .int a)] [] w2M _
        refine zs_aload_n (pc := 0) t179_0 rfl ?_
        refine zs_iload_n (pc := 1) t179_1 rfl ?_
        refine zs_invV (pc := 2) (k := 164) (as' := [.int a]) (st := []) t179_2 mf178 rfl rfl (Or.inl ⟨by decide, (zk1 (w2s.k fk_zMc_164))⟩) ⟨by decide, by decide, Nat.le_of_ble_eq_true rfl, Nat.le_of_ble_eq_true rfl⟩ (zs_in (by decide) mf178 (Nat.le_of_ble_eq_true rfl) ?_) (fun _ _ q => q)
        show zGo X l 0 0 0 178 0 [(0, .ref 164), (1, .int a)] [] w2M _
        refine zs_iload_n (pc := 0) t178_0 rfl ?_
        refine zs_if_ltF (pc := 1) t178_1 rfl (by omega) ?_
        refine zs_iload_n (pc := 4) t178_4 rfl ?_
        refine zs_aload_n (pc := 5) t178_5 rfl ?_
        refine zs_get (pc := 6) t178_6 (by decide) (zk1 (w2s.k fk_zMc_164)) (zfvi rfl rfl) ?_
        by_cases w10 : (zI w2M 164 9).toInt ≤ a.toInt
        · refine zs_icmp_geT (pc := 9) t178_9 rfl rfl (by omega) ?_
          refine zs_iconst (pc := 21) t178_21 (v := 0) (by decide) ?_
          refine zs_iret (pc := 22) t178_22 mr178 (by decide) ?_
          show zGo X l 1 0 0 179 5 [(0, .ref 164), (1, .int a)] [.int (0 : Int32)] w2M _
          refine zs_istore_n (pc := 5) t179_5 (ls' := [(2, .int (0 : Int32)), (0, .ref 164), (1, .int a)]) (zml mf179 (by decide)) rfl ?_
          refine zs_iload_n (pc := 6) t179_6 rfl ?_
          refine zs_if_neF (pc := 7) t179_7 li0 (by decide) ?_
          refine zs_iconst (pc := 10) t179_10 (v := 0) (by decide) ?_
          refine zs_goto (pc := 11) t179_11 ?_
          refine zs_iret (pc := 24) t179_24 mr179 (by decide) ?_
          show zGo X l 6 0 0 177 69 [(0, .ref 6), (1, .int a), (2, .int b)] [.int (0 : Int32)] w2M _
          exact zs_iret (pc := 69) t177_69 mr177 (by decide) (hQ _ _ w2s w2I ((zFr.refl).trans (w2F.mono rfl)) (zrg _).1 (zrg _).2)
        · refine zs_icmp_geF (pc := 9) t178_9 rfl rfl (by omega) ?_
          refine zs_aload_n (pc := 12) t178_12 rfl ?_
          refine zs_get (pc := 13) t178_13 (by decide) (zk1 (w2s.k fk_zMc_164)) (w2s.p rfl fv_zMc_164_11) ?_
          refine zs_iload_n (pc := 16) t178_16 rfl ?_
          obtain ⟨w11n, w11⟩ : ∃ n : Nat, a.toInt = (n : Int) := ⟨a.toInt.toNat, by omega⟩
          have w12 := ib321 w2I w11n
          refine zs_iald (pc := 17) t178_17 (j := w11n) (by decide) (zk1 (w2s.k fk_zMc_321)) w11 (zk2 (w2s.k fk_zMc_321) (by omega)) rfl ?_
          refine zs_goto (pc := 18) t178_18 ?_
          refine zs_iret (pc := 22) t178_22 mr178 rfl ?_
          show zGo X l 1 0 0 179 5 [(0, .ref 164), (1, .int a)] [.int (zI w2M 321 w11n)] w2M _
          refine zs_istore_n (pc := 5) t179_5 (ls' := [(2, .int (zI w2M 321 w11n)), (0, .ref 164), (1, .int a)]) (zml mf179 (by decide)) rfl ?_
          refine zs_iload_n (pc := 6) t179_6 rfl ?_
          by_cases w13 : (zI w2M 321 w11n).toInt ≠ 0
          · refine zs_if_neT (pc := 7) t179_7 rfl (by omega) ?_
            refine zs_aload_n (pc := 14) t179_14 rfl ?_
            refine zs_get (pc := 15) t179_15 (by decide) (zk1 (w2s.k fk_zMc_164)) (w2s.p rfl fv_zMc_164_12) ?_
            refine zs_iload_n (pc := 18) t179_18 rfl ?_
            have w14 := ib322 w2I w11n
            refine zs_iald (pc := 19) t179_19 (j := w11n) (by decide) (zk1 (w2s.k fk_zMc_322)) w11 (zk2 (w2s.k fk_zMc_322) (by omega)) rfl ?_
            refine zs_iload_n (pc := 20) t179_20 rfl ?_
            refine zs_invS (pc := 21) (as := [.int (zI w2M 322 w11n), .int (zI w2M 321 w11n)]) (st := []) t179_21 (by decide) mf54 rfl rfl ⟨by decide, by decide, Nat.le_of_ble_eq_true rfl, Nat.le_of_ble_eq_true rfl⟩ (zs_in (by decide) mf54 (Nat.le_of_ble_eq_true rfl) ?_) (fun _ _ q => q)
            show zGo X l 0 0 0 54 0 [(0, .int (zI w2M 322 w11n)), (1, .int (zI w2M 321 w11n))] [] w2M _
            refine zs_iload_n (pc := 0) t54_0 rfl ?_
            refine zs_iload_n (pc := 1) t54_1 rfl ?_
            obtain ⟨w15v, w15⟩ : ∃ v, (zI w2M 322 w11n) / (zI w2M 321 w11n) = v := ⟨_, rfl⟩
            have w15g := zrg w15v
            refine zs_idiv (pc := 2) t54_2 (znz rfl (by omega)) (c := w15v) w15 ?_
            refine zs_istore_n (pc := 3) t54_3 (ls' := [(2, .int w15v), (0, .int (zI w2M 322 w11n)), (1, .int (zI w2M 321 w11n))]) (zml mf54 (by decide)) rfl ?_
            refine zs_iload_n (pc := 4) t54_4 rfl ?_
            refine zs_iload_n (pc := 5) t54_5 rfl ?_
            obtain ⟨w16v, w16⟩ : ∃ v, (zI w2M 322 w11n) ^^^ (zI w2M 321 w11n) = v := ⟨_, rfl⟩
            have w16g := zrg w16v
            refine zs_ixor (pc := 6) t54_6 (c := w16v) w16 ?_
            by_cases w17 : 0 ≤ w16v.toInt
            · refine zs_if_geT (pc := 7) t54_7 rfl (by omega) ?_
              refine zs_iload_n (pc := 21) t54_21 rfl ?_
              refine zs_iret (pc := 22) t54_22 mr54 rfl ?_
              show zGo X l 1 0 0 179 24 [(2, .int (zI w2M 321 w11n)), (0, .ref 164), (1, .int a)] [.int w15v] w2M _
              refine zs_iret (pc := 24) t179_24 mr179 rfl ?_
              show zGo X l 6 0 0 177 69 [(0, .ref 6), (1, .int a), (2, .int b)] [.int w15v] w2M _
              exact zs_iret (pc := 69) t177_69 mr177 rfl (hQ _ _ w2s w2I ((zFr.refl).trans (w2F.mono rfl)) (zrg _).1 (zrg _).2)
            · refine zs_if_geF (pc := 7) t54_7 rfl (by omega) ?_
              refine zs_iload_n (pc := 10) t54_10 rfl ?_
              refine zs_iload_n (pc := 11) t54_11 rfl ?_
              obtain ⟨w18v, w18⟩ : ∃ v, w15v * (zI w2M 321 w11n) = v := ⟨_, rfl⟩
              have w18g := zrg w18v
              refine zs_imul (pc := 12) t54_12 (c := w18v) w18 ?_
              refine zs_iload_n (pc := 13) t54_13 rfl ?_
              by_cases w19 : w18v.toInt = (zI w2M 322 w11n).toInt
              · refine zs_icmp_eqT (pc := 14) t54_14 rfl rfl (by omega) ?_
                refine zs_iload_n (pc := 21) t54_21 rfl ?_
                refine zs_iret (pc := 22) t54_22 mr54 rfl ?_
                show zGo X l 1 0 0 179 24 [(2, .int (zI w2M 321 w11n)), (0, .ref 164), (1, .int a)] [.int w15v] w2M _
                refine zs_iret (pc := 24) t179_24 mr179 rfl ?_
                show zGo X l 6 0 0 177 69 [(0, .ref 6), (1, .int a), (2, .int b)] [.int w15v] w2M _
                exact zs_iret (pc := 69) t177_69 mr177 rfl (hQ _ _ w2s w2I ((zFr.refl).trans (w2F.mono rfl)) (zrg _).1 (zrg _).2)
              · refine zs_icmp_eqF (pc := 14) t54_14 rfl rfl (by omega) ?_
                refine zs_iload_n (pc := 17) t54_17 rfl ?_
                refine zs_iconst (pc := 18) t54_18 (v := 1) (by decide) ?_
                obtain ⟨w20v, w20⟩ : ∃ v, v = w15v - (1 : Int32) := ⟨_, rfl⟩
                have w20g := zrg w20v
                refine zs_isub (pc := 19) t54_19 (c := w20v) w20.symm ?_
                refine zs_iret (pc := 20) t54_20 mr54 rfl ?_
                show zGo X l 1 0 0 179 24 [(2, .int (zI w2M 321 w11n)), (0, .ref 164), (1, .int a)] [.int w20v] w2M _
                refine zs_iret (pc := 24) t179_24 mr179 rfl ?_
                show zGo X l 6 0 0 177 69 [(0, .ref 6), (1, .int a), (2, .int b)] [.int w20v] w2M _
                exact zs_iret (pc := 69) t177_69 mr177 rfl (hQ _ _ w2s w2I ((zFr.refl).trans (w2F.mono rfl)) (zrg _).1 (zrg _).2)
          · refine zs_if_neF (pc := 7) t179_7 rfl (by omega) ?_
            refine zs_iconst (pc := 10) t179_10 (v := 0) (by decide) ?_
            refine zs_goto (pc := 11) t179_11 ?_
            refine zs_iret (pc := 24) t179_24 mr179 (by decide) ?_
            show zGo X l 6 0 0 177 69 [(0, .ref 6), (1, .int a), (2, .int b)] [.int (0 : Int32)] w2M _
            exact zs_iret (pc := 69) t177_69 mr177 (by decide) (hQ _ _ w2s w2I ((zFr.refl).trans (w2F.mono rfl)) (zrg _).1 (zrg _).2)
      refine zs_lsw (pc := 26) t177_26 (off := 44) rfl (by unfold zlsel; repeat (first | rfl | (rw [if_neg (by omega)]; unfold zlsel))) (pc2 := 70) rfl ?_
      refine zs_ldc (pc := 70) t177_70 (v := -100000) rfl (by decide) ?_
      exact zs_iret (pc := 72) t177_72 mr177 (by decide) (hQ _ _ w2s w2I ((zFr.refl).trans (w2F.mono rfl)) (zrg _).1 (zrg _).2)
    · refine zs_icmp_ltF (pc := 19) t177_19 rfl rfl (by omega) ?_
      refine zs_ldc (pc := 22) t177_22 (v := -100000) rfl (by decide) ?_
      exact zs_iret (pc := 24) t177_24 mr177 (by decide) (hQ _ _ w2s w2I ((zFr.refl).trans (w2F.mono rfl)) (zrg _).1 (zrg _).2)
theorem C187_6 {X : zX} {l : Launch} {M : zM} {Q : Option Value → zM → Prop} (hs : zSk zMc M) (hI : zIv cLo cHi M) (hQ : ∀ (M' : zM) (v : Int32), zSk zMc M' → zIv cLo cHi M' → zFr [(6, 335, none)] M M' → (-2147483648) ≤ v.toInt → v.toInt ≤ 2147483647 → Q (some (.int v)) M') : zCall X l 6 0 0 187 [.ref 6] M Q := by
  refine zs_in (by decide) mf187 (Nat.le_of_ble_eq_true rfl) ?_
  show zGo X l 6 0 0 187 0 [(0, .ref 6)] [] M _
  refine zs_iconst (pc := 0) t187_0 (v := 2) (by decide) ?_
  refine zs_aload_n (pc := 1) t187_1 rfl ?_
  refine zs_get (pc := 2) t187_2 (by decide) (zk1 (hs.k fk_zMc_6)) (hs.p rfl fv_zMc_6_0) ?_
  refine zs_iconst (pc := 5) t187_5 (v := 0) (by decide) ?_
  refine zs_invV (pc := 6) (k := 7) (as' := [.int (0 : Int32)]) (st := [.int (2 : Int32)]) t187_6 mf96 rfl rfl (Or.inl ⟨by decide, (zk1 (hs.k fk_zMc_7))⟩) ⟨by decide, by decide, Nat.le_of_ble_eq_true rfl, Nat.le_of_ble_eq_true rfl⟩ (zs_in (by decide) mf96 (Nat.le_of_ble_eq_true rfl) ?_) (fun _ _ q => q)
  show zGo X l 0 0 0 96 0 [(0, .ref 7), (1, .int (0 : Int32))] [] M _
  refine zs_iload_n (pc := 0) t96_0 rfl ?_
  refine zs_if_ltF (pc := 1) t96_1 li0 (by decide) ?_
  refine zs_iload_n (pc := 4) t96_4 rfl ?_
  refine zs_bipush (pc := 5) t96_5 (v := 9) (by decide) ?_
  refine zs_icmp_geF (pc := 7) t96_7 li0 li9 (by decide) ?_
  refine zs_aload_n (pc := 10) t96_10 rfl ?_
  refine zs_get (pc := 11) t96_11 (by decide) (zk1 (hs.k fk_zMc_7)) (hs.p rfl fv_zMc_7_12) ?_
  refine zs_iload_n (pc := 14) t96_14 rfl ?_
  have w1 := ib17 hI 0
  refine zs_iald (pc := 15) t96_15 (j := 0) (by decide) (zk1 (hs.k fk_zMc_17)) li0 (zk2 (hs.k fk_zMc_17) (by decide)) rfl ?_
  refine zs_goto (pc := 16) t96_16 ?_
  refine zs_iret (pc := 20) t96_20 mr96 rfl ?_
  show zGo X l 6 0 0 187 9 [(0, .ref 6)] [.int (zI M 17 0), .int (2 : Int32)] M _
  obtain ⟨w2v, w2⟩ : ∃ v, (2 : Int32) * (zI M 17 0) = v := ⟨_, rfl⟩
  have w2g := zrg w2v
  refine zs_imul (pc := 9) t187_9 (c := w2v) w2 ?_
  refine zs_iconst (pc := 10) t187_10 (v := 1) (by decide) ?_
  obtain ⟨w3v, w3⟩ : ∃ v, v = w2v + (1 : Int32) := ⟨_, rfl⟩
  have w3g := zrg w3v
  refine zs_iadd (pc := 11) t187_11 (c := w3v) w3.symm ?_
  refine zs_istore_n (pc := 12) t187_12 (ls' := [(1, .int w3v), (0, .ref 6)]) (zml mf187 (by decide)) rfl ?_
  refine zs_iconst (pc := 13) t187_13 (v := 2) (by decide) ?_
  refine zs_aload_n (pc := 14) t187_14 rfl ?_
  refine zs_get (pc := 15) t187_15 (by decide) (zk1 (hs.k fk_zMc_6)) (hs.p rfl fv_zMc_6_0) ?_
  refine zs_iconst (pc := 18) t187_18 (v := 1) (by decide) ?_
  refine zs_invV (pc := 19) (k := 7) (as' := [.int (1 : Int32)]) (st := [.int (2 : Int32)]) t187_19 mf96 rfl rfl (Or.inl ⟨by decide, (zk1 (hs.k fk_zMc_7))⟩) ⟨by decide, by decide, Nat.le_of_ble_eq_true rfl, Nat.le_of_ble_eq_true rfl⟩ (zs_in (by decide) mf96 (Nat.le_of_ble_eq_true rfl) ?_) (fun _ _ q => q)
  show zGo X l 0 0 0 96 0 [(0, .ref 7), (1, .int (1 : Int32))] [] M _
  refine zs_iload_n (pc := 0) t96_0 rfl ?_
  refine zs_if_ltF (pc := 1) t96_1 li1 (by decide) ?_
  refine zs_iload_n (pc := 4) t96_4 rfl ?_
  refine zs_bipush (pc := 5) t96_5 (v := 9) (by decide) ?_
  refine zs_icmp_geF (pc := 7) t96_7 li1 li9 (by decide) ?_
  refine zs_aload_n (pc := 10) t96_10 rfl ?_
  refine zs_get (pc := 11) t96_11 (by decide) (zk1 (hs.k fk_zMc_7)) (hs.p rfl fv_zMc_7_12) ?_
  refine zs_iload_n (pc := 14) t96_14 rfl ?_
  have w4 := ib17 hI 1
  refine zs_iald (pc := 15) t96_15 (j := 1) (by decide) (zk1 (hs.k fk_zMc_17)) li1 (zk2 (hs.k fk_zMc_17) (by decide)) rfl ?_
  refine zs_goto (pc := 16) t96_16 ?_
  refine zs_iret (pc := 20) t96_20 mr96 rfl ?_
  show zGo X l 6 0 0 187 22 [(1, .int w3v), (0, .ref 6)] [.int (zI M 17 1), .int (2 : Int32)] M _
  obtain ⟨w5v, w5⟩ : ∃ v, (2 : Int32) * (zI M 17 1) = v := ⟨_, rfl⟩
  have w5g := zrg w5v
  refine zs_imul (pc := 22) t187_22 (c := w5v) w5 ?_
  refine zs_iconst (pc := 23) t187_23 (v := 1) (by decide) ?_
  obtain ⟨w6v, w6⟩ : ∃ v, v = w5v + (1 : Int32) := ⟨_, rfl⟩
  have w6g := zrg w6v
  refine zs_iadd (pc := 24) t187_24 (c := w6v) w6.symm ?_
  refine zs_istore_n (pc := 25) t187_25 (ls' := [(2, .int w6v), (1, .int w3v), (0, .ref 6)]) (zml mf187 (by decide)) rfl ?_
  refine zs_aload_n (pc := 26) t187_26 rfl ?_
  refine zs_get (pc := 27) t187_27 (by decide) (zk1 (hs.k fk_zMc_6)) (hs.p rfl fv_zMc_6_0) ?_
  refine zs_invV (pc := 30) (k := 7) (as' := []) (st := []) t187_30 mf92 rfl rfl (Or.inl ⟨by decide, (zk1 (hs.k fk_zMc_7))⟩) ⟨by decide, by decide, Nat.le_of_ble_eq_true rfl, Nat.le_of_ble_eq_true rfl⟩ (C92_7 hs hI ?_) (fun _ _ q => q)
  intro w7v w7a w7b
  show zGo X l 6 0 0 187 33 [(2, .int w6v), (1, .int w3v), (0, .ref 6)] [.int w7v] M _
  refine zs_iload_n (pc := 33) t187_33 rfl ?_
  obtain ⟨w8v, w8⟩ : ∃ v, w7v * w3v = v := ⟨_, rfl⟩
  have w8g := zrg w8v
  refine zs_imul (pc := 34) t187_34 (c := w8v) w8 ?_
  refine zs_iload_n (pc := 35) t187_35 rfl ?_
  obtain ⟨w9v, w9⟩ : ∃ v, w8v * w6v = v := ⟨_, rfl⟩
  have w9g := zrg w9v
  refine zs_imul (pc := 36) t187_36 (c := w9v) w9 ?_
  refine zs_bipush (pc := 37) t187_37 (v := 10) (by decide) ?_
  refine zs_aload_n (pc := 39) t187_39 rfl ?_
  refine zs_get (pc := 40) t187_40 (by decide) (zk1 (hs.k fk_zMc_6)) (hs.p rfl fv_zMc_6_6) ?_
  refine zs_aload_n (pc := 43) t187_43 rfl ?_
  refine zs_get (pc := 44) t187_44 (by decide) (zk1 (hs.k fk_zMc_6)) (hs.p rfl fv_zMc_6_0) ?_
  refine zs_invV (pc := 47) (k := 164) (as' := [.ref 7]) (st := [.int (10 : Int32), .int w9v]) t187_47 mf105 rfl rfl (Or.inl ⟨by decide, (zk1 (hs.k fk_zMc_164))⟩) ⟨by decide, by decide, Nat.le_of_ble_eq_true rfl, Nat.le_of_ble_eq_true rfl⟩ (C105_164_7 hs hI ?_) (fun _ _ q => q)
  intro w10M w10s w10I w10F
  show zGo X l 6 0 0 187 50 [(2, .int w6v), (1, .int w3v), (0, .ref 6)] [.ref 164, .int (10 : Int32), .int w9v] w10M _
  refine zs_invV (pc := 50) (k := 164) (as' := []) (st := [.int (10 : Int32), .int w9v]) t187_50 mf144 rfl rfl (Or.inl ⟨by decide, (zk1 (w10s.k fk_zMc_164))⟩) ⟨by decide, by decide, Nat.le_of_ble_eq_true rfl, Nat.le_of_ble_eq_true rfl⟩ (zs_in (by decide) mf144 (Nat.le_of_ble_eq_true rfl) ?_) (fun _ _ q => q)
  show zGo X l 0 0 0 144 0 [(0, .ref 164)] [] w10M _
  refine zs_aload_n (pc := 0) t144_0 rfl ?_
  have w11 := ib164_4 w10I
  refine zs_get (pc := 1) t144_1 (by decide) (zk1 (w10s.k fk_zMc_164)) (zfvi rfl rfl) ?_
  refine zs_iret (pc := 4) t144_4 mr144 rfl ?_
  show zGo X l 6 0 0 187 53 [(2, .int w6v), (1, .int w3v), (0, .ref 6)] [.int (zI w10M 164 4), .int (10 : Int32), .int w9v] w10M _
  obtain ⟨w12v, w12⟩ : ∃ v, (10 : Int32) * (zI w10M 164 4) = v := ⟨_, rfl⟩
  have w12g := zrg w12v
  refine zs_imul (pc := 53) t187_53 (c := w12v) w12 ?_
  obtain ⟨w13v, w13⟩ : ∃ v, v = w9v + w12v := ⟨_, rfl⟩
  have w13g := zrg w13v
  refine zs_iadd (pc := 54) t187_54 (c := w13v) w13.symm ?_
  exact zs_iret (pc := 55) t187_55 mr187 rfl (hQ _ _ w10s w10I ((zFr.refl).trans (w10F.mono rfl)) (zrg _).1 (zrg _).2)
theorem C188_6 {X : zX} {l : Launch} {M : zM} {Q : Option Value → zM → Prop} {a b c d e : Int32} (hs : zSk zMc M) (hI : zIv cLo cHi M) (hQ : ∀ (M' : zM) (v : Int32), zSk zMc M' → zIv cLo cHi M' → zFr [(6, 335, none)] M M' → (-2147483648) ≤ v.toInt → v.toInt ≤ 2147483647 → Q (some (.int v)) M') : zCall X l 7 0 0 188 [.ref 6, .int a, .int b, .int c, .int d, .int e] M Q := by
  have ga := zrg a
  have gb := zrg b
  have gc := zrg c
  have gd := zrg d
  have ge := zrg e
  refine zs_in (by decide) mf188 (Nat.le_of_ble_eq_true rfl) ?_
  show zGo X l 7 0 0 188 0 [(0, .ref 6), (1, .int a), (2, .int b), (3, .int c), (4, .int d), (5, .int e)] [] M _
  refine zs_iload_n (pc := 0) t188_0 rfl ?_
  refine zs_iload_n (pc := 1) t188_1 rfl ?_
  refine zs_iload (pc := 2) t188_2 rfl ?_
  refine zs_invS (pc := 4) (as := [.int a, .int b, .int d]) (st := []) t188_4 (by decide) mf189 rfl rfl ⟨by decide, by decide, Nat.le_of_ble_eq_true rfl, Nat.le_of_ble_eq_true rfl⟩ (zs_in (by decide) mf189 (Nat.le_of_ble_eq_true rfl) ?_) (fun _ _ q => q)
  show zGo X l 1 0 0 189 0 [(0, .int a), (1, .int b), (2, .int d)] [] M _
  refine zs_iload_n (pc := 0) t189_0 rfl ?_
  refine zs_iconst (pc := 1) t189_1 (v := 1) (by decide) ?_
  refine zs_sipush (pc := 2) t189_2 (v := 200) (by decide) ?_
  refine zs_invS (pc := 5) (as := [.int a, .int (1 : Int32), .int (200 : Int32)]) (st := []) t189_5 (by decide) mf39 rfl rfl ⟨by decide, by decide, Nat.le_of_ble_eq_true rfl, Nat.le_of_ble_eq_true rfl⟩ (zs_in (by decide) mf39 (Nat.le_of_ble_eq_true rfl) ?_) (fun _ _ q => q)
  show zGo X l 0 0 0 39 0 [(0, .int a), (1, .int (1 : Int32)), (2, .int (200 : Int32))] [] M _
  refine zs_iload_n (pc := 0) t39_0 rfl ?_
  refine zs_iload_n (pc := 1) t39_1 rfl ?_
  by_cases w1 : a.toInt < 1
  · refine zs_icmp_ltT (pc := 2) t39_2 rfl li1 (by omega) ?_
    refine zs_iconst (pc := 14) t39_14 (v := 0) (by decide) ?_
    refine zs_iret (pc := 15) t39_15 mr39 (by decide) ?_
    show zGo X l 1 0 0 189 8 [(0, .int a), (1, .int b), (2, .int d)] [.int (0 : Int32)] M _
    refine zs_if_eqT (pc := 8) t189_8 li0 (by decide) ?_
    refine zs_iconst (pc := 36) t189_36 (v := 0) (by decide) ?_
    refine zs_iret (pc := 37) t189_37 mr189 (by decide) ?_
    show zGo X l 7 0 0 188 7 [(0, .ref 6), (1, .int a), (2, .int b), (3, .int c), (4, .int d), (5, .int e)] [.int (0 : Int32)] M _
    refine zs_if_eqT (pc := 7) t188_7 li0 (by decide) ?_
    refine zs_iconst (pc := 20) t188_20 (v := -1) (by decide) ?_
    exact zs_iret (pc := 21) t188_21 mr188 (by decide) (hQ _ _ hs hI (zFr.refl) (zrg _).1 (zrg _).2)
  · refine zs_icmp_ltF (pc := 2) t39_2 rfl li1 (by omega) ?_
    refine zs_iload_n (pc := 5) t39_5 rfl ?_
    refine zs_iload_n (pc := 6) t39_6 rfl ?_
    by_cases w2 : 200 < a.toInt
    · refine zs_icmp_gtT (pc := 7) t39_7 rfl li200 (by omega) ?_
      refine zs_iconst (pc := 14) t39_14 (v := 0) (by decide) ?_
      refine zs_iret (pc := 15) t39_15 mr39 (by decide) ?_
      show zGo X l 1 0 0 189 8 [(0, .int a), (1, .int b), (2, .int d)] [.int (0 : Int32)] M _
      refine zs_if_eqT (pc := 8) t189_8 li0 (by decide) ?_
      refine zs_iconst (pc := 36) t189_36 (v := 0) (by decide) ?_
      refine zs_iret (pc := 37) t189_37 mr189 (by decide) ?_
      show zGo X l 7 0 0 188 7 [(0, .ref 6), (1, .int a), (2, .int b), (3, .int c), (4, .int d), (5, .int e)] [.int (0 : Int32)] M _
      refine zs_if_eqT (pc := 7) t188_7 li0 (by decide) ?_
      refine zs_iconst (pc := 20) t188_20 (v := -1) (by decide) ?_
      exact zs_iret (pc := 21) t188_21 mr188 (by decide) (hQ _ _ hs hI (zFr.refl) (zrg _).1 (zrg _).2)
    · refine zs_icmp_gtF (pc := 7) t39_7 rfl li200 (by omega) ?_
      refine zs_iconst (pc := 10) t39_10 (v := 1) (by decide) ?_
      refine zs_goto (pc := 11) t39_11 ?_
      refine zs_iret (pc := 15) t39_15 mr39 (by decide) ?_
      show zGo X l 1 0 0 189 8 [(0, .int a), (1, .int b), (2, .int d)] [.int (1 : Int32)] M _
      refine zs_if_eqF (pc := 8) t189_8 li1 (by decide) ?_
      refine zs_iload_n (pc := 11) t189_11 rfl ?_
      refine zs_iconst (pc := 12) t189_12 (v := 1) (by decide) ?_
      refine zs_sipush (pc := 13) t189_13 (v := 999) (by decide) ?_
      refine zs_invS (pc := 16) (as := [.int b, .int (1 : Int32), .int (999 : Int32)]) (st := []) t189_16 (by decide) mf39 rfl rfl ⟨by decide, by decide, Nat.le_of_ble_eq_true rfl, Nat.le_of_ble_eq_true rfl⟩ (zs_in (by decide) mf39 (Nat.le_of_ble_eq_true rfl) ?_) (fun _ _ q => q)
      show zGo X l 0 0 0 39 0 [(0, .int b), (1, .int (1 : Int32)), (2, .int (999 : Int32))] [] M _
      refine zs_iload_n (pc := 0) t39_0 rfl ?_
      refine zs_iload_n (pc := 1) t39_1 rfl ?_
      by_cases w3 : b.toInt < 1
      · refine zs_icmp_ltT (pc := 2) t39_2 rfl li1 (by omega) ?_
        refine zs_iconst (pc := 14) t39_14 (v := 0) (by decide) ?_
        refine zs_iret (pc := 15) t39_15 mr39 (by decide) ?_
        show zGo X l 1 0 0 189 19 [(0, .int a), (1, .int b), (2, .int d)] [.int (0 : Int32)] M _
        refine zs_if_eqT (pc := 19) t189_19 li0 (by decide) ?_
        refine zs_iconst (pc := 36) t189_36 (v := 0) (by decide) ?_
        refine zs_iret (pc := 37) t189_37 mr189 (by decide) ?_
        show zGo X l 7 0 0 188 7 [(0, .ref 6), (1, .int a), (2, .int b), (3, .int c), (4, .int d), (5, .int e)] [.int (0 : Int32)] M _
        refine zs_if_eqT (pc := 7) t188_7 li0 (by decide) ?_
        refine zs_iconst (pc := 20) t188_20 (v := -1) (by decide) ?_
        exact zs_iret (pc := 21) t188_21 mr188 (by decide) (hQ _ _ hs hI (zFr.refl) (zrg _).1 (zrg _).2)
      · refine zs_icmp_ltF (pc := 2) t39_2 rfl li1 (by omega) ?_
        refine zs_iload_n (pc := 5) t39_5 rfl ?_
        refine zs_iload_n (pc := 6) t39_6 rfl ?_
        by_cases w4 : 999 < b.toInt
        · refine zs_icmp_gtT (pc := 7) t39_7 rfl li999 (by omega) ?_
          refine zs_iconst (pc := 14) t39_14 (v := 0) (by decide) ?_
          refine zs_iret (pc := 15) t39_15 mr39 (by decide) ?_
          show zGo X l 1 0 0 189 19 [(0, .int a), (1, .int b), (2, .int d)] [.int (0 : Int32)] M _
          refine zs_if_eqT (pc := 19) t189_19 li0 (by decide) ?_
          refine zs_iconst (pc := 36) t189_36 (v := 0) (by decide) ?_
          refine zs_iret (pc := 37) t189_37 mr189 (by decide) ?_
          show zGo X l 7 0 0 188 7 [(0, .ref 6), (1, .int a), (2, .int b), (3, .int c), (4, .int d), (5, .int e)] [.int (0 : Int32)] M _
          refine zs_if_eqT (pc := 7) t188_7 li0 (by decide) ?_
          refine zs_iconst (pc := 20) t188_20 (v := -1) (by decide) ?_
          exact zs_iret (pc := 21) t188_21 mr188 (by decide) (hQ _ _ hs hI (zFr.refl) (zrg _).1 (zrg _).2)
        · refine zs_icmp_gtF (pc := 7) t39_7 rfl li999 (by omega) ?_
          refine zs_iconst (pc := 10) t39_10 (v := 1) (by decide) ?_
          refine zs_goto (pc := 11) t39_11 ?_
          refine zs_iret (pc := 15) t39_15 mr39 (by decide) ?_
          show zGo X l 1 0 0 189 19 [(0, .int a), (1, .int b), (2, .int d)] [.int (1 : Int32)] M _
          refine zs_if_eqF (pc := 19) t189_19 li1 (by decide) ?_
          refine zs_iload_n (pc := 22) t189_22 rfl ?_
          refine zs_iconst (pc := 23) t189_23 (v := 0) (by decide) ?_
          refine zs_bipush (pc := 24) t189_24 (v := 50) (by decide) ?_
          refine zs_invS (pc := 26) (as := [.int d, .int (0 : Int32), .int (50 : Int32)]) (st := []) t189_26 (by decide) mf39 rfl rfl ⟨by decide, by decide, Nat.le_of_ble_eq_true rfl, Nat.le_of_ble_eq_true rfl⟩ (zs_in (by decide) mf39 (Nat.le_of_ble_eq_true rfl) ?_) (fun _ _ q => q)
          show zGo X l 0 0 0 39 0 [(0, .int d), (1, .int (0 : Int32)), (2, .int (50 : Int32))] [] M _
          refine zs_iload_n (pc := 0) t39_0 rfl ?_
          refine zs_iload_n (pc := 1) t39_1 rfl ?_
          by_cases w5 : d.toInt < 0
          · refine zs_icmp_ltT (pc := 2) t39_2 rfl li0 (by omega) ?_
            refine zs_iconst (pc := 14) t39_14 (v := 0) (by decide) ?_
            refine zs_iret (pc := 15) t39_15 mr39 (by decide) ?_
            show zGo X l 1 0 0 189 29 [(0, .int a), (1, .int b), (2, .int d)] [.int (0 : Int32)] M _
            refine zs_if_eqT (pc := 29) t189_29 li0 (by decide) ?_
            refine zs_iconst (pc := 36) t189_36 (v := 0) (by decide) ?_
            refine zs_iret (pc := 37) t189_37 mr189 (by decide) ?_
            show zGo X l 7 0 0 188 7 [(0, .ref 6), (1, .int a), (2, .int b), (3, .int c), (4, .int d), (5, .int e)] [.int (0 : Int32)] M _
            refine zs_if_eqT (pc := 7) t188_7 li0 (by decide) ?_
            refine zs_iconst (pc := 20) t188_20 (v := -1) (by decide) ?_
            exact zs_iret (pc := 21) t188_21 mr188 (by decide) (hQ _ _ hs hI (zFr.refl) (zrg _).1 (zrg _).2)
          · refine zs_icmp_ltF (pc := 2) t39_2 rfl li0 (by omega) ?_
            refine zs_iload_n (pc := 5) t39_5 rfl ?_
            refine zs_iload_n (pc := 6) t39_6 rfl ?_
            by_cases w6 : 50 < d.toInt
            · refine zs_icmp_gtT (pc := 7) t39_7 rfl li50 (by omega) ?_
              refine zs_iconst (pc := 14) t39_14 (v := 0) (by decide) ?_
              refine zs_iret (pc := 15) t39_15 mr39 (by decide) ?_
              show zGo X l 1 0 0 189 29 [(0, .int a), (1, .int b), (2, .int d)] [.int (0 : Int32)] M _
              refine zs_if_eqT (pc := 29) t189_29 li0 (by decide) ?_
              refine zs_iconst (pc := 36) t189_36 (v := 0) (by decide) ?_
              refine zs_iret (pc := 37) t189_37 mr189 (by decide) ?_
              show zGo X l 7 0 0 188 7 [(0, .ref 6), (1, .int a), (2, .int b), (3, .int c), (4, .int d), (5, .int e)] [.int (0 : Int32)] M _
              refine zs_if_eqT (pc := 7) t188_7 li0 (by decide) ?_
              refine zs_iconst (pc := 20) t188_20 (v := -1) (by decide) ?_
              exact zs_iret (pc := 21) t188_21 mr188 (by decide) (hQ _ _ hs hI (zFr.refl) (zrg _).1 (zrg _).2)
            · refine zs_icmp_gtF (pc := 7) t39_7 rfl li50 (by omega) ?_
              refine zs_iconst (pc := 10) t39_10 (v := 1) (by decide) ?_
              refine zs_goto (pc := 11) t39_11 ?_
              refine zs_iret (pc := 15) t39_15 mr39 (by decide) ?_
              show zGo X l 1 0 0 189 29 [(0, .int a), (1, .int b), (2, .int d)] [.int (1 : Int32)] M _
              refine zs_if_eqF (pc := 29) t189_29 li1 (by decide) ?_
              refine zs_iconst (pc := 32) t189_32 (v := 1) (by decide) ?_
              refine zs_goto (pc := 33) t189_33 ?_
              refine zs_iret (pc := 37) t189_37 mr189 (by decide) ?_
              show zGo X l 7 0 0 188 7 [(0, .ref 6), (1, .int a), (2, .int b), (3, .int c), (4, .int d), (5, .int e)] [.int (1 : Int32)] M _
              refine zs_if_eqF (pc := 7) t188_7 li1 (by decide) ?_
              refine zs_iload_n (pc := 10) t188_10 rfl ?_
              refine zs_iconst (pc := 11) t188_11 (v := 1) (by decide) ?_
              refine zs_bipush (pc := 12) t188_12 (v := 8) (by decide) ?_
              refine zs_invS (pc := 14) (as := [.int c, .int (1 : Int32), .int (8 : Int32)]) (st := []) t188_14 (by decide) mf39 rfl rfl ⟨by decide, by decide, Nat.le_of_ble_eq_true rfl, Nat.le_of_ble_eq_true rfl⟩ (zs_in (by decide) mf39 (Nat.le_of_ble_eq_true rfl) ?_) (fun _ _ q => q)
              show zGo X l 0 0 0 39 0 [(0, .int c), (1, .int (1 : Int32)), (2, .int (8 : Int32))] [] M _
              refine zs_iload_n (pc := 0) t39_0 rfl ?_
              refine zs_iload_n (pc := 1) t39_1 rfl ?_
              by_cases w7 : c.toInt < 1
              · refine zs_icmp_ltT (pc := 2) t39_2 rfl li1 (by omega) ?_
                refine zs_iconst (pc := 14) t39_14 (v := 0) (by decide) ?_
                refine zs_iret (pc := 15) t39_15 mr39 (by decide) ?_
                show zGo X l 7 0 0 188 17 [(0, .ref 6), (1, .int a), (2, .int b), (3, .int c), (4, .int d), (5, .int e)] [.int (0 : Int32)] M _
                refine zs_if_neF (pc := 17) t188_17 li0 (by decide) ?_
                refine zs_iconst (pc := 20) t188_20 (v := -1) (by decide) ?_
                exact zs_iret (pc := 21) t188_21 mr188 (by decide) (hQ _ _ hs hI (zFr.refl) (zrg _).1 (zrg _).2)
              · refine zs_icmp_ltF (pc := 2) t39_2 rfl li1 (by omega) ?_
                refine zs_iload_n (pc := 5) t39_5 rfl ?_
                refine zs_iload_n (pc := 6) t39_6 rfl ?_
                by_cases w8 : 8 < c.toInt
                · refine zs_icmp_gtT (pc := 7) t39_7 rfl li8 (by omega) ?_
                  refine zs_iconst (pc := 14) t39_14 (v := 0) (by decide) ?_
                  refine zs_iret (pc := 15) t39_15 mr39 (by decide) ?_
                  show zGo X l 7 0 0 188 17 [(0, .ref 6), (1, .int a), (2, .int b), (3, .int c), (4, .int d), (5, .int e)] [.int (0 : Int32)] M _
                  refine zs_if_neF (pc := 17) t188_17 li0 (by decide) ?_
                  refine zs_iconst (pc := 20) t188_20 (v := -1) (by decide) ?_
                  exact zs_iret (pc := 21) t188_21 mr188 (by decide) (hQ _ _ hs hI (zFr.refl) (zrg _).1 (zrg _).2)
                · refine zs_icmp_gtF (pc := 7) t39_7 rfl li8 (by omega) ?_
                  refine zs_iconst (pc := 10) t39_10 (v := 1) (by decide) ?_
                  refine zs_goto (pc := 11) t39_11 ?_
                  refine zs_iret (pc := 15) t39_15 mr39 (by decide) ?_
                  show zGo X l 7 0 0 188 17 [(0, .ref 6), (1, .int a), (2, .int b), (3, .int c), (4, .int d), (5, .int e)] [.int (1 : Int32)] M _
                  refine zs_if_neT (pc := 17) t188_17 li1 (by decide) ?_
                  refine zs_aload_n (pc := 22) t188_22 rfl ?_
                  refine zs_invV (pc := 23) (k := 6) (as' := []) (st := []) t188_23 mf187 rfl rfl (Or.inl ⟨by decide, (zk1 (hs.k fk_zMc_6))⟩) ⟨by decide, by decide, Nat.le_of_ble_eq_true rfl, Nat.le_of_ble_eq_true rfl⟩ (C187_6 hs hI ?_) (fun _ _ q => q)
                  intro w9M w9v w9s w9I w9F w9a w9b
                  show zGo X l 7 0 0 188 26 [(0, .ref 6), (1, .int a), (2, .int b), (3, .int c), (4, .int d), (5, .int e)] [.int w9v] w9M _
                  refine zs_aload_n (pc := 26) t188_26 rfl ?_
                  refine zs_get (pc := 27) t188_27 (by decide) (zk1 (w9s.k fk_zMc_6)) (w9s.p rfl fv_zMc_6_0) ?_
                  refine zs_bipush (pc := 30) t188_30 (v := 7) (by decide) ?_
                  refine zs_invV (pc := 32) (k := 7) (as' := [.int (7 : Int32)]) (st := [.int w9v]) t188_32 mf96 rfl rfl (Or.inl ⟨by decide, (zk1 (w9s.k fk_zMc_7))⟩) ⟨by decide, by decide, Nat.le_of_ble_eq_true rfl, Nat.le_of_ble_eq_true rfl⟩ (zs_in (by decide) mf96 (Nat.le_of_ble_eq_true rfl) ?_) (fun _ _ q => q)
                  show zGo X l 0 0 0 96 0 [(0, .ref 7), (1, .int (7 : Int32))] [] w9M _
                  refine zs_iload_n (pc := 0) t96_0 rfl ?_
                  refine zs_if_ltF (pc := 1) t96_1 li7 (by decide) ?_
                  refine zs_iload_n (pc := 4) t96_4 rfl ?_
                  refine zs_bipush (pc := 5) t96_5 (v := 9) (by decide) ?_
                  refine zs_icmp_geF (pc := 7) t96_7 li7 li9 (by decide) ?_
                  refine zs_aload_n (pc := 10) t96_10 rfl ?_
                  refine zs_get (pc := 11) t96_11 (by decide) (zk1 (w9s.k fk_zMc_7)) (w9s.p rfl fv_zMc_7_12) ?_
                  refine zs_iload_n (pc := 14) t96_14 rfl ?_
                  have w10 := ib17 w9I 7
                  refine zs_iald (pc := 15) t96_15 (j := 7) (by decide) (zk1 (w9s.k fk_zMc_17)) li7 (zk2 (w9s.k fk_zMc_17) (by decide)) rfl ?_
                  refine zs_goto (pc := 16) t96_16 ?_
                  refine zs_iret (pc := 20) t96_20 mr96 rfl ?_
                  show zGo X l 7 0 0 188 35 [(0, .ref 6), (1, .int a), (2, .int b), (3, .int c), (4, .int d), (5, .int e)] [.int (zI w9M 17 7), .int w9v] w9M _
                  refine zs_invS (pc := 35) (as := [.int w9v, .int (zI w9M 17 7)]) (st := []) t188_35 (by decide) mf190 rfl rfl ⟨by decide, by decide, Nat.le_of_ble_eq_true rfl, Nat.le_of_ble_eq_true rfl⟩ (zs_in (by decide) mf190 (Nat.le_of_ble_eq_true rfl) ?_) (fun _ _ q => q)
                  show zGo X l 1 0 0 190 0 [(0, .int w9v), (1, .int (zI w9M 17 7))] [] w9M _
                  refine zs_iload_n (pc := 0) t190_0 rfl ?_
                  refine zs_iconst (pc := 1) t190_1 (v := 1) (by decide) ?_
                  by_cases w11 : 1 ≤ (zI w9M 17 7).toInt
                  · refine zs_icmp_geT (pc := 2) t190_2 rfl li1 (by omega) ?_
                    refine zs_iconst (pc := 9) t190_9 (v := 1) (by decide) ?_
                    refine zs_iload_n (pc := 10) t190_10 rfl ?_
                    refine zs_iload_n (pc := 11) t190_11 rfl ?_
                    obtain ⟨w12v, w12⟩ : ∃ v, v = w9v + (zI w9M 17 7) := ⟨_, rfl⟩
                    have w12g := zrg w12v
                    refine zs_iadd (pc := 12) t190_12 (c := w12v) w12.symm ?_
                    refine zs_iconst (pc := 13) t190_13 (v := 1) (by decide) ?_
                    obtain ⟨w13v, w13⟩ : ∃ v, v = w12v - (1 : Int32) := ⟨_, rfl⟩
                    have w13g := zrg w13v
                    refine zs_isub (pc := 14) t190_14 (c := w13v) w13.symm ?_
                    refine zs_iload_n (pc := 15) t190_15 rfl ?_
                    obtain ⟨w14v, w14⟩ : ∃ v, w13v / (zI w9M 17 7) = v := ⟨_, rfl⟩
                    have w14g := zrg w14v
                    refine zs_idiv (pc := 16) t190_16 (znz rfl (by omega)) (c := w14v) w14 ?_
                    refine zs_invS (pc := 17) (as := [.int (1 : Int32), .int w14v]) (st := []) t190_17 (by decide) mf21 rfl rfl ⟨by decide, by decide, Nat.le_of_ble_eq_true rfl, Nat.le_of_ble_eq_true rfl⟩ (zs_in (by decide) mf21 (Nat.le_of_ble_eq_true rfl) ?_) (fun _ _ q => q)
                    show zGo X l 0 0 0 21 0 [(0, .int (1 : Int32)), (1, .int w14v)] [] w9M _
                    refine zs_iload_n (pc := 0) t21_0 rfl ?_
                    refine zs_iload_n (pc := 1) t21_1 rfl ?_
                    by_cases w15 : 1 < w14v.toInt
                    · refine zs_icmp_ltT (pc := 2) t21_2 li1 rfl (by omega) ?_
                      refine zs_iload_n (pc := 9) t21_9 rfl ?_
                      refine zs_iret (pc := 10) t21_10 mr21 rfl ?_
                      show zGo X l 1 0 0 190 20 [(0, .int w9v), (1, .int (zI w9M 17 7))] [.int w14v] w9M _
                      refine zs_iret (pc := 20) t190_20 mr190 rfl ?_
                      show zGo X l 7 0 0 188 38 [(0, .ref 6), (1, .int a), (2, .int b), (3, .int c), (4, .int d), (5, .int e)] [.int w14v] w9M _
                      refine zs_istore (pc := 38) t188_38 (ls' := [(6, .int w14v), (0, .ref 6), (1, .int a), (2, .int b), (3, .int c), (4, .int d), (5, .int e)]) (zml mf188 (by decide)) rfl ?_
                      refine zs_aload_n (pc := 40) t188_40 rfl ?_
                      refine zs_get (pc := 41) t188_41 (by decide) (zk1 (w9s.k fk_zMc_6)) (w9s.p rfl fv_zMc_6_8) ?_
                      refine zs_iload_n (pc := 44) t188_44 rfl ?_
                      refine zs_iload_n (pc := 45) t188_45 rfl ?_
                      refine zs_iload_n (pc := 46) t188_46 rfl ?_
                      refine zs_iload (pc := 47) t188_47 rfl ?_
                      refine zs_iload (pc := 49) t188_49 rfl ?_
                      refine zs_aload_n (pc := 51) t188_51 rfl ?_
                      refine zs_get (pc := 52) t188_52 (by decide) (zk1 (w9s.k fk_zMc_6)) (w9s.p rfl fv_zMc_6_0) ?_
                      refine zs_bipush (pc := 55) t188_55 (v := 8) (by decide) ?_
                      refine zs_invV (pc := 57) (k := 7) (as' := [.int (8 : Int32)]) (st := [.int w14v, .int d, .int c, .int b, .int a, .ref 332]) t188_57 mf96 rfl rfl (Or.inl ⟨by decide, (zk1 (w9s.k fk_zMc_7))⟩) ⟨by decide, by decide, Nat.le_of_ble_eq_true rfl, Nat.le_of_ble_eq_true rfl⟩ (zs_in (by decide) mf96 (Nat.le_of_ble_eq_true rfl) ?_) (fun _ _ q => q)
                      show zGo X l 0 0 0 96 0 [(0, .ref 7), (1, .int (8 : Int32))] [] w9M _
                      refine zs_iload_n (pc := 0) t96_0 rfl ?_
                      refine zs_if_ltF (pc := 1) t96_1 li8 (by decide) ?_
                      refine zs_iload_n (pc := 4) t96_4 rfl ?_
                      refine zs_bipush (pc := 5) t96_5 (v := 9) (by decide) ?_
                      refine zs_icmp_geF (pc := 7) t96_7 li8 li9 (by decide) ?_
                      refine zs_aload_n (pc := 10) t96_10 rfl ?_
                      refine zs_get (pc := 11) t96_11 (by decide) (zk1 (w9s.k fk_zMc_7)) (w9s.p rfl fv_zMc_7_12) ?_
                      refine zs_iload_n (pc := 14) t96_14 rfl ?_
                      have w16 := ib17 w9I 8
                      refine zs_iald (pc := 15) t96_15 (j := 8) (by decide) (zk1 (w9s.k fk_zMc_17)) li8 (zk2 (w9s.k fk_zMc_17) (by decide)) rfl ?_
                      refine zs_goto (pc := 16) t96_16 ?_
                      refine zs_iret (pc := 20) t96_20 mr96 rfl ?_
                      show zGo X l 7 0 0 188 60 [(6, .int w14v), (0, .ref 6), (1, .int a), (2, .int b), (3, .int c), (4, .int d), (5, .int e)] [.int (zI w9M 17 8), .int w14v, .int d, .int c, .int b, .int a, .ref 332] w9M _
                      refine zs_invV (pc := 60) (k := 332) (as' := [.int a, .int b, .int c, .int d, .int w14v, .int (zI w9M 17 8)]) (st := []) t188_60 mf191 rfl rfl (Or.inl ⟨by decide, (zk1 (w9s.k fk_zMc_332))⟩) ⟨by decide, by decide, Nat.le_of_ble_eq_true rfl, Nat.le_of_ble_eq_true rfl⟩ (C191_332 w9s w9I ⟨by omega, by omega⟩ ?_) (fun _ _ q => q)
                      intro w17M w17s w17I w17F
                      show zGo X l 7 0 0 188 63 [(6, .int w14v), (0, .ref 6), (1, .int a), (2, .int b), (3, .int c), (4, .int d), (5, .int e)] [] w17M _
                      refine zs_iload (pc := 63) t188_63 rfl ?_
                      by_cases w18 : e.toInt = 0
                      · refine zs_tswI (pc := 65) t188_65 ((rfl : e.toInt = e.toInt).trans w18) (by decide) rfl (pc2 := 96) rfl ?_
                        refine zs_aload_n (pc := 96) t188_96 rfl ?_
                        refine zs_get (pc := 97) t188_97 (by decide) (zk1 (w17s.k fk_zMc_6)) (w17s.p rfl fv_zMc_6_8) ?_
                        have w19 := ib332_0 w17I
                        refine zs_get (pc := 100) t188_100 (by decide) (zk1 (w17s.k fk_zMc_332)) (zfvi rfl rfl) ?_
                        exact zs_iret (pc := 103) t188_103 mr188 rfl (hQ _ _ w17s w17I (((zFr.refl).trans (w9F.mono rfl)).trans (w17F.mono rfl)) (zrg _).1 (zrg _).2)
                      by_cases w20 : e.toInt = 1
                      · refine zs_tswI (pc := 65) t188_65 ((rfl : e.toInt = e.toInt).trans w20) (by decide) rfl (pc2 := 104) rfl ?_
                        refine zs_aload_n (pc := 104) t188_104 rfl ?_
                        refine zs_get (pc := 105) t188_105 (by decide) (zk1 (w17s.k fk_zMc_6)) (w17s.p rfl fv_zMc_6_8) ?_
                        have w21 := ib332_1 w17I
                        refine zs_get (pc := 108) t188_108 (by decide) (zk1 (w17s.k fk_zMc_332)) (zfvi rfl rfl) ?_
                        exact zs_iret (pc := 111) t188_111 mr188 rfl (hQ _ _ w17s w17I (((zFr.refl).trans (w9F.mono rfl)).trans (w17F.mono rfl)) (zrg _).1 (zrg _).2)
                      by_cases w22 : e.toInt = 2
                      · refine zs_tswI (pc := 65) t188_65 ((rfl : e.toInt = e.toInt).trans w22) (by decide) rfl (pc2 := 112) rfl ?_
                        refine zs_aload_n (pc := 112) t188_112 rfl ?_
                        refine zs_get (pc := 113) t188_113 (by decide) (zk1 (w17s.k fk_zMc_6)) (w17s.p rfl fv_zMc_6_8) ?_
                        have w23 := ib332_2 w17I
                        refine zs_get (pc := 116) t188_116 (by decide) (zk1 (w17s.k fk_zMc_332)) (zfvi rfl rfl) ?_
                        exact zs_iret (pc := 119) t188_119 mr188 rfl (hQ _ _ w17s w17I (((zFr.refl).trans (w9F.mono rfl)).trans (w17F.mono rfl)) (zrg _).1 (zrg _).2)
                      by_cases w24 : e.toInt = 3
                      · refine zs_tswI (pc := 65) t188_65 ((rfl : e.toInt = e.toInt).trans w24) (by decide) rfl (pc2 := 120) rfl ?_
                        refine zs_aload_n (pc := 120) t188_120 rfl ?_
                        refine zs_get (pc := 121) t188_121 (by decide) (zk1 (w17s.k fk_zMc_6)) (w17s.p rfl fv_zMc_6_8) ?_
                        have w25 := ib332_3 w17I
                        refine zs_get (pc := 124) t188_124 (by decide) (zk1 (w17s.k fk_zMc_332)) (zfvi rfl rfl) ?_
                        exact zs_iret (pc := 127) t188_127 mr188 rfl (hQ _ _ w17s w17I (((zFr.refl).trans (w9F.mono rfl)).trans (w17F.mono rfl)) (zrg _).1 (zrg _).2)
                      refine zs_tswD (pc := 65) t188_65 rfl (by omega) (pc2 := 128) rfl ?_
                      refine zs_iconst (pc := 128) t188_128 (v := -1) (by decide) ?_
                      exact zs_iret (pc := 129) t188_129 mr188 (by decide) (hQ _ _ w17s w17I (((zFr.refl).trans (w9F.mono rfl)).trans (w17F.mono rfl)) (zrg _).1 (zrg _).2)
                    · refine zs_icmp_ltF (pc := 2) t21_2 li1 rfl (by omega) ?_
                      refine zs_iload_n (pc := 5) t21_5 rfl ?_
                      refine zs_goto (pc := 6) t21_6 ?_
                      refine zs_iret (pc := 10) t21_10 mr21 (by decide) ?_
                      show zGo X l 1 0 0 190 20 [(0, .int w9v), (1, .int (zI w9M 17 7))] [.int (1 : Int32)] w9M _
                      refine zs_iret (pc := 20) t190_20 mr190 (by decide) ?_
                      show zGo X l 7 0 0 188 38 [(0, .ref 6), (1, .int a), (2, .int b), (3, .int c), (4, .int d), (5, .int e)] [.int (1 : Int32)] w9M _
                      refine zs_istore (pc := 38) t188_38 (ls' := [(6, .int (1 : Int32)), (0, .ref 6), (1, .int a), (2, .int b), (3, .int c), (4, .int d), (5, .int e)]) (zml mf188 (by decide)) rfl ?_
                      refine zs_aload_n (pc := 40) t188_40 rfl ?_
                      refine zs_get (pc := 41) t188_41 (by decide) (zk1 (w9s.k fk_zMc_6)) (w9s.p rfl fv_zMc_6_8) ?_
                      refine zs_iload_n (pc := 44) t188_44 rfl ?_
                      refine zs_iload_n (pc := 45) t188_45 rfl ?_
                      refine zs_iload_n (pc := 46) t188_46 rfl ?_
                      refine zs_iload (pc := 47) t188_47 rfl ?_
                      refine zs_iload (pc := 49) t188_49 rfl ?_
                      refine zs_aload_n (pc := 51) t188_51 rfl ?_
                      refine zs_get (pc := 52) t188_52 (by decide) (zk1 (w9s.k fk_zMc_6)) (w9s.p rfl fv_zMc_6_0) ?_
                      refine zs_bipush (pc := 55) t188_55 (v := 8) (by decide) ?_
                      refine zs_invV (pc := 57) (k := 7) (as' := [.int (8 : Int32)]) (st := [.int (1 : Int32), .int d, .int c, .int b, .int a, .ref 332]) t188_57 mf96 rfl rfl (Or.inl ⟨by decide, (zk1 (w9s.k fk_zMc_7))⟩) ⟨by decide, by decide, Nat.le_of_ble_eq_true rfl, Nat.le_of_ble_eq_true rfl⟩ (zs_in (by decide) mf96 (Nat.le_of_ble_eq_true rfl) ?_) (fun _ _ q => q)
                      show zGo X l 0 0 0 96 0 [(0, .ref 7), (1, .int (8 : Int32))] [] w9M _
                      refine zs_iload_n (pc := 0) t96_0 rfl ?_
                      refine zs_if_ltF (pc := 1) t96_1 li8 (by decide) ?_
                      refine zs_iload_n (pc := 4) t96_4 rfl ?_
                      refine zs_bipush (pc := 5) t96_5 (v := 9) (by decide) ?_
                      refine zs_icmp_geF (pc := 7) t96_7 li8 li9 (by decide) ?_
                      refine zs_aload_n (pc := 10) t96_10 rfl ?_
                      refine zs_get (pc := 11) t96_11 (by decide) (zk1 (w9s.k fk_zMc_7)) (w9s.p rfl fv_zMc_7_12) ?_
                      refine zs_iload_n (pc := 14) t96_14 rfl ?_
                      have w26 := ib17 w9I 8
                      refine zs_iald (pc := 15) t96_15 (j := 8) (by decide) (zk1 (w9s.k fk_zMc_17)) li8 (zk2 (w9s.k fk_zMc_17) (by decide)) rfl ?_
                      refine zs_goto (pc := 16) t96_16 ?_
                      refine zs_iret (pc := 20) t96_20 mr96 rfl ?_
                      show zGo X l 7 0 0 188 60 [(6, .int (1 : Int32)), (0, .ref 6), (1, .int a), (2, .int b), (3, .int c), (4, .int d), (5, .int e)] [.int (zI w9M 17 8), .int (1 : Int32), .int d, .int c, .int b, .int a, .ref 332] w9M _
                      refine zs_invV (pc := 60) (k := 332) (as' := [.int a, .int b, .int c, .int d, .int (1 : Int32), .int (zI w9M 17 8)]) (st := []) t188_60 mf191 rfl rfl (Or.inl ⟨by decide, (zk1 (w9s.k fk_zMc_332))⟩) ⟨by decide, by decide, Nat.le_of_ble_eq_true rfl, Nat.le_of_ble_eq_true rfl⟩ (C191_332 w9s w9I ⟨by omega, by omega⟩ ?_) (fun _ _ q => q)
                      intro w27M w27s w27I w27F
                      show zGo X l 7 0 0 188 63 [(6, .int (1 : Int32)), (0, .ref 6), (1, .int a), (2, .int b), (3, .int c), (4, .int d), (5, .int e)] [] w27M _
                      refine zs_iload (pc := 63) t188_63 rfl ?_
                      by_cases w28 : e.toInt = 0
                      · refine zs_tswI (pc := 65) t188_65 ((rfl : e.toInt = e.toInt).trans w28) (by decide) rfl (pc2 := 96) rfl ?_
                        refine zs_aload_n (pc := 96) t188_96 rfl ?_
                        refine zs_get (pc := 97) t188_97 (by decide) (zk1 (w27s.k fk_zMc_6)) (w27s.p rfl fv_zMc_6_8) ?_
                        have w29 := ib332_0 w27I
                        refine zs_get (pc := 100) t188_100 (by decide) (zk1 (w27s.k fk_zMc_332)) (zfvi rfl rfl) ?_
                        exact zs_iret (pc := 103) t188_103 mr188 rfl (hQ _ _ w27s w27I (((zFr.refl).trans (w9F.mono rfl)).trans (w27F.mono rfl)) (zrg _).1 (zrg _).2)
                      by_cases w30 : e.toInt = 1
                      · refine zs_tswI (pc := 65) t188_65 ((rfl : e.toInt = e.toInt).trans w30) (by decide) rfl (pc2 := 104) rfl ?_
                        refine zs_aload_n (pc := 104) t188_104 rfl ?_
                        refine zs_get (pc := 105) t188_105 (by decide) (zk1 (w27s.k fk_zMc_6)) (w27s.p rfl fv_zMc_6_8) ?_
                        have w31 := ib332_1 w27I
                        refine zs_get (pc := 108) t188_108 (by decide) (zk1 (w27s.k fk_zMc_332)) (zfvi rfl rfl) ?_
                        exact zs_iret (pc := 111) t188_111 mr188 rfl (hQ _ _ w27s w27I (((zFr.refl).trans (w9F.mono rfl)).trans (w27F.mono rfl)) (zrg _).1 (zrg _).2)
                      by_cases w32 : e.toInt = 2
                      · refine zs_tswI (pc := 65) t188_65 ((rfl : e.toInt = e.toInt).trans w32) (by decide) rfl (pc2 := 112) rfl ?_
                        refine zs_aload_n (pc := 112) t188_112 rfl ?_
                        refine zs_get (pc := 113) t188_113 (by decide) (zk1 (w27s.k fk_zMc_6)) (w27s.p rfl fv_zMc_6_8) ?_
                        have w33 := ib332_2 w27I
                        refine zs_get (pc := 116) t188_116 (by decide) (zk1 (w27s.k fk_zMc_332)) (zfvi rfl rfl) ?_
                        exact zs_iret (pc := 119) t188_119 mr188 rfl (hQ _ _ w27s w27I (((zFr.refl).trans (w9F.mono rfl)).trans (w27F.mono rfl)) (zrg _).1 (zrg _).2)
                      by_cases w34 : e.toInt = 3
                      · refine zs_tswI (pc := 65) t188_65 ((rfl : e.toInt = e.toInt).trans w34) (by decide) rfl (pc2 := 120) rfl ?_
                        refine zs_aload_n (pc := 120) t188_120 rfl ?_
                        refine zs_get (pc := 121) t188_121 (by decide) (zk1 (w27s.k fk_zMc_6)) (w27s.p rfl fv_zMc_6_8) ?_
                        have w35 := ib332_3 w27I
                        refine zs_get (pc := 124) t188_124 (by decide) (zk1 (w27s.k fk_zMc_332)) (zfvi rfl rfl) ?_
                        exact zs_iret (pc := 127) t188_127 mr188 rfl (hQ _ _ w27s w27I (((zFr.refl).trans (w9F.mono rfl)).trans (w27F.mono rfl)) (zrg _).1 (zrg _).2)
                      refine zs_tswD (pc := 65) t188_65 rfl (by omega) (pc2 := 128) rfl ?_
                      refine zs_iconst (pc := 128) t188_128 (v := -1) (by decide) ?_
                      exact zs_iret (pc := 129) t188_129 mr188 (by decide) (hQ _ _ w27s w27I (((zFr.refl).trans (w9F.mono rfl)).trans (w27F.mono rfl)) (zrg _).1 (zrg _).2)
                  · refine zs_icmp_geF (pc := 2) t190_2 rfl li1 (by omega) ?_
                    refine zs_iconst (pc := 5) t190_5 (v := 1) (by decide) ?_
                    refine zs_goto (pc := 6) t190_6 ?_
                    refine zs_iret (pc := 20) t190_20 mr190 (by decide) ?_
                    show zGo X l 7 0 0 188 38 [(0, .ref 6), (1, .int a), (2, .int b), (3, .int c), (4, .int d), (5, .int e)] [.int (1 : Int32)] w9M _
                    refine zs_istore (pc := 38) t188_38 (ls' := [(6, .int (1 : Int32)), (0, .ref 6), (1, .int a), (2, .int b), (3, .int c), (4, .int d), (5, .int e)]) (zml mf188 (by decide)) rfl ?_
                    refine zs_aload_n (pc := 40) t188_40 rfl ?_
                    refine zs_get (pc := 41) t188_41 (by decide) (zk1 (w9s.k fk_zMc_6)) (w9s.p rfl fv_zMc_6_8) ?_
                    refine zs_iload_n (pc := 44) t188_44 rfl ?_
                    refine zs_iload_n (pc := 45) t188_45 rfl ?_
                    refine zs_iload_n (pc := 46) t188_46 rfl ?_
                    refine zs_iload (pc := 47) t188_47 rfl ?_
                    refine zs_iload (pc := 49) t188_49 rfl ?_
                    refine zs_aload_n (pc := 51) t188_51 rfl ?_
                    refine zs_get (pc := 52) t188_52 (by decide) (zk1 (w9s.k fk_zMc_6)) (w9s.p rfl fv_zMc_6_0) ?_
                    refine zs_bipush (pc := 55) t188_55 (v := 8) (by decide) ?_
                    refine zs_invV (pc := 57) (k := 7) (as' := [.int (8 : Int32)]) (st := [.int (1 : Int32), .int d, .int c, .int b, .int a, .ref 332]) t188_57 mf96 rfl rfl (Or.inl ⟨by decide, (zk1 (w9s.k fk_zMc_7))⟩) ⟨by decide, by decide, Nat.le_of_ble_eq_true rfl, Nat.le_of_ble_eq_true rfl⟩ (zs_in (by decide) mf96 (Nat.le_of_ble_eq_true rfl) ?_) (fun _ _ q => q)
                    show zGo X l 0 0 0 96 0 [(0, .ref 7), (1, .int (8 : Int32))] [] w9M _
                    refine zs_iload_n (pc := 0) t96_0 rfl ?_
                    refine zs_if_ltF (pc := 1) t96_1 li8 (by decide) ?_
                    refine zs_iload_n (pc := 4) t96_4 rfl ?_
                    refine zs_bipush (pc := 5) t96_5 (v := 9) (by decide) ?_
                    refine zs_icmp_geF (pc := 7) t96_7 li8 li9 (by decide) ?_
                    refine zs_aload_n (pc := 10) t96_10 rfl ?_
                    refine zs_get (pc := 11) t96_11 (by decide) (zk1 (w9s.k fk_zMc_7)) (w9s.p rfl fv_zMc_7_12) ?_
                    refine zs_iload_n (pc := 14) t96_14 rfl ?_
                    have w36 := ib17 w9I 8
                    refine zs_iald (pc := 15) t96_15 (j := 8) (by decide) (zk1 (w9s.k fk_zMc_17)) li8 (zk2 (w9s.k fk_zMc_17) (by decide)) rfl ?_
                    refine zs_goto (pc := 16) t96_16 ?_
                    refine zs_iret (pc := 20) t96_20 mr96 rfl ?_
                    show zGo X l 7 0 0 188 60 [(6, .int (1 : Int32)), (0, .ref 6), (1, .int a), (2, .int b), (3, .int c), (4, .int d), (5, .int e)] [.int (zI w9M 17 8), .int (1 : Int32), .int d, .int c, .int b, .int a, .ref 332] w9M _
                    refine zs_invV (pc := 60) (k := 332) (as' := [.int a, .int b, .int c, .int d, .int (1 : Int32), .int (zI w9M 17 8)]) (st := []) t188_60 mf191 rfl rfl (Or.inl ⟨by decide, (zk1 (w9s.k fk_zMc_332))⟩) ⟨by decide, by decide, Nat.le_of_ble_eq_true rfl, Nat.le_of_ble_eq_true rfl⟩ (C191_332 w9s w9I ⟨by omega, by omega⟩ ?_) (fun _ _ q => q)
                    intro w37M w37s w37I w37F
                    show zGo X l 7 0 0 188 63 [(6, .int (1 : Int32)), (0, .ref 6), (1, .int a), (2, .int b), (3, .int c), (4, .int d), (5, .int e)] [] w37M _
                    refine zs_iload (pc := 63) t188_63 rfl ?_
                    by_cases w38 : e.toInt = 0
                    · refine zs_tswI (pc := 65) t188_65 ((rfl : e.toInt = e.toInt).trans w38) (by decide) rfl (pc2 := 96) rfl ?_
                      refine zs_aload_n (pc := 96) t188_96 rfl ?_
                      refine zs_get (pc := 97) t188_97 (by decide) (zk1 (w37s.k fk_zMc_6)) (w37s.p rfl fv_zMc_6_8) ?_
                      have w39 := ib332_0 w37I
                      refine zs_get (pc := 100) t188_100 (by decide) (zk1 (w37s.k fk_zMc_332)) (zfvi rfl rfl) ?_
                      exact zs_iret (pc := 103) t188_103 mr188 rfl (hQ _ _ w37s w37I (((zFr.refl).trans (w9F.mono rfl)).trans (w37F.mono rfl)) (zrg _).1 (zrg _).2)
                    by_cases w40 : e.toInt = 1
                    · refine zs_tswI (pc := 65) t188_65 ((rfl : e.toInt = e.toInt).trans w40) (by decide) rfl (pc2 := 104) rfl ?_
                      refine zs_aload_n (pc := 104) t188_104 rfl ?_
                      refine zs_get (pc := 105) t188_105 (by decide) (zk1 (w37s.k fk_zMc_6)) (w37s.p rfl fv_zMc_6_8) ?_
                      have w41 := ib332_1 w37I
                      refine zs_get (pc := 108) t188_108 (by decide) (zk1 (w37s.k fk_zMc_332)) (zfvi rfl rfl) ?_
                      exact zs_iret (pc := 111) t188_111 mr188 rfl (hQ _ _ w37s w37I (((zFr.refl).trans (w9F.mono rfl)).trans (w37F.mono rfl)) (zrg _).1 (zrg _).2)
                    by_cases w42 : e.toInt = 2
                    · refine zs_tswI (pc := 65) t188_65 ((rfl : e.toInt = e.toInt).trans w42) (by decide) rfl (pc2 := 112) rfl ?_
                      refine zs_aload_n (pc := 112) t188_112 rfl ?_
                      refine zs_get (pc := 113) t188_113 (by decide) (zk1 (w37s.k fk_zMc_6)) (w37s.p rfl fv_zMc_6_8) ?_
                      have w43 := ib332_2 w37I
                      refine zs_get (pc := 116) t188_116 (by decide) (zk1 (w37s.k fk_zMc_332)) (zfvi rfl rfl) ?_
                      exact zs_iret (pc := 119) t188_119 mr188 rfl (hQ _ _ w37s w37I (((zFr.refl).trans (w9F.mono rfl)).trans (w37F.mono rfl)) (zrg _).1 (zrg _).2)
                    by_cases w44 : e.toInt = 3
                    · refine zs_tswI (pc := 65) t188_65 ((rfl : e.toInt = e.toInt).trans w44) (by decide) rfl (pc2 := 120) rfl ?_
                      refine zs_aload_n (pc := 120) t188_120 rfl ?_
                      refine zs_get (pc := 121) t188_121 (by decide) (zk1 (w37s.k fk_zMc_6)) (w37s.p rfl fv_zMc_6_8) ?_
                      have w45 := ib332_3 w37I
                      refine zs_get (pc := 124) t188_124 (by decide) (zk1 (w37s.k fk_zMc_332)) (zfvi rfl rfl) ?_
                      exact zs_iret (pc := 127) t188_127 mr188 rfl (hQ _ _ w37s w37I (((zFr.refl).trans (w9F.mono rfl)).trans (w37F.mono rfl)) (zrg _).1 (zrg _).2)
                    refine zs_tswD (pc := 65) t188_65 rfl (by omega) (pc2 := 128) rfl ?_
                    refine zs_iconst (pc := 128) t188_128 (v := -1) (by decide) ?_
                    exact zs_iret (pc := 129) t188_129 mr188 (by decide) (hQ _ _ w37s w37I (((zFr.refl).trans (w9F.mono rfl)).trans (w37F.mono rfl)) (zrg _).1 (zrg _).2)
