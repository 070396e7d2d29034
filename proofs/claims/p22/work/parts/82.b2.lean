theorem O148 {X : zX} {l : Launch} {M : zM} {Q : Option Value → zM → Prop} {a b c : Int32} (hs : zSk zMc M) (hI : zIv cLo cHi M) {F : Nat → Int} (x0 : zSo M 7 F) (x1 : zWF F) (hQ : ∀ v : Int32, (zVtP F a.toInt b.toInt c.toInt v.toInt) → Q (some (.int v)) M) : zCall X l 3 0 0 148 [.ref 6, .int a, .int b, .int c] M Q := by
  have ga := zrg a
  have gb := zrg b
  have gc := zrg c
  refine zs_in (by decide) mf148 (Nat.le_of_ble_eq_true rfl) ?_
  show zGo X l 3 0 0 148 0 [(0, .ref 6), (1, .int a), (2, .int b), (3, .int c)] [] M _
  have f0 := x0.1
  have w1 := ib7_0 hI
  have w2 : (zI M 7 0).toInt = (zI M 7 0).toInt := (congrArg Int32.toInt rfl).trans rfl
  have w3 := ib7_3 hI
  have w4 : (zI M 7 3).toInt = (zI M 7 3).toInt := (congrArg Int32.toInt rfl).trans rfl
  have w5 := ib7_8 hI
  have w6 : (zI M 7 8).toInt = (zI M 7 8).toInt := (congrArg Int32.toInt rfl).trans rfl
  have f1 := x1.1
  have f3 := x1.2.2.2
  have f2 := (show (zI M 7 0).toInt = F 0 ∧ (zI M 7 3).toInt = F 1 ∧ (zI M 7 8).toInt = F 2 from ⟨x0.1.1, x0.1.2.1, x0.1.2.2.1⟩)
  refine zs_iload_n (pc := 0) t148_0 rfl ?_
  refine zs_aload_n (pc := 1) t148_1 rfl ?_
  refine zs_get (pc := 2) t148_2 (by decide) (zk1 (hs.k fk_zMc_6)) (hs.p rfl fv_zMc_6_0) ?_
  refine zs_iconst (pc := 5) t148_5 (v := 0) (by decide) ?_
  refine zs_invV (pc := 6) (k := 7) (as' := [.int (0 : Int32)]) (st := [.int a]) t148_6 mf96 rfl rfl (Or.inl ⟨by decide, (zk1 (hs.k fk_zMc_7))⟩) ⟨by decide, by decide, Nat.le_of_ble_eq_true rfl, Nat.le_of_ble_eq_true rfl⟩ (zs_in (by decide) mf96 (Nat.le_of_ble_eq_true rfl) ?_) (fun _ _ q => q)
  show zGo X l 0 0 0 96 0 [(0, .ref 7), (1, .int (0 : Int32))] [] M _
  refine zs_iload_n (pc := 0) t96_0 rfl ?_
  refine zs_if_ltF (pc := 1) t96_1 li0 (by decide) ?_
  refine zs_iload_n (pc := 4) t96_4 rfl ?_
  refine zs_bipush (pc := 5) t96_5 (v := 9) (by decide) ?_
  refine zs_icmp_geF (pc := 7) t96_7 li0 li9 (by decide) ?_
  refine zs_aload_n (pc := 10) t96_10 rfl ?_
  refine zs_get (pc := 11) t96_11 (by decide) (zk1 (hs.k fk_zMc_7)) (hs.p rfl fv_zMc_7_12) ?_
  refine zs_iload_n (pc := 14) t96_14 rfl ?_
  have w7 := ib17 hI 0
  have w8 : (zI M 17 0).toInt = F 5 := x0.2.2.2.2.1 0 (by decide)
  refine zs_iald (pc := 15) t96_15 (j := 0) (by decide) (zk1 (hs.k fk_zMc_17)) li0 (zk2 (hs.k fk_zMc_17) (by decide)) rfl ?_
  refine zs_goto (pc := 16) t96_16 ?_
  refine zs_iret (pc := 20) t96_20 mr96 rfl ?_
  show zGo X l 3 0 0 148 9 [(0, .ref 6), (1, .int a), (2, .int b), (3, .int c)] [.int (zI M 17 0), .int a] M _
  obtain ⟨w9v, w9e⟩ : ∃ v, -(zI M 17 0) = v := ⟨_, rfl⟩
  have w9 : w9v.toInt = -(zI M 17 0).toInt := by rw [← w9e]; exact zneg rfl (by omega)
  refine zs_ineg (pc := 9) t148_9 (c := w9v) w9e ?_
  refine zs_aload_n (pc := 10) t148_10 rfl ?_
  refine zs_get (pc := 11) t148_11 (by decide) (zk1 (hs.k fk_zMc_6)) (hs.p rfl fv_zMc_6_0) ?_
  refine zs_iconst (pc := 14) t148_14 (v := 0) (by decide) ?_
  refine zs_invV (pc := 15) (k := 7) (as' := [.int (0 : Int32)]) (st := [.int w9v, .int a]) t148_15 mf96 rfl rfl (Or.inl ⟨by decide, (zk1 (hs.k fk_zMc_7))⟩) ⟨by decide, by decide, Nat.le_of_ble_eq_true rfl, Nat.le_of_ble_eq_true rfl⟩ (zs_in (by decide) mf96 (Nat.le_of_ble_eq_true rfl) ?_) (fun _ _ q => q)
  show zGo X l 0 0 0 96 0 [(0, .ref 7), (1, .int (0 : Int32))] [] M _
  refine zs_iload_n (pc := 0) t96_0 rfl ?_
  refine zs_if_ltF (pc := 1) t96_1 li0 (by decide) ?_
  refine zs_iload_n (pc := 4) t96_4 rfl ?_
  refine zs_bipush (pc := 5) t96_5 (v := 9) (by decide) ?_
  refine zs_icmp_geF (pc := 7) t96_7 li0 li9 (by decide) ?_
  refine zs_aload_n (pc := 10) t96_10 rfl ?_
  refine zs_get (pc := 11) t96_11 (by decide) (zk1 (hs.k fk_zMc_7)) (hs.p rfl fv_zMc_7_12) ?_
  refine zs_iload_n (pc := 14) t96_14 rfl ?_
  have w10 : (zI M 17 0).toInt = F 5 := x0.2.2.2.2.1 0 (by decide)
  refine zs_iald (pc := 15) t96_15 (j := 0) (by decide) (zk1 (hs.k fk_zMc_17)) li0 (zk2 (hs.k fk_zMc_17) (by decide)) rfl ?_
  refine zs_goto (pc := 16) t96_16 ?_
  refine zs_iret (pc := 20) t96_20 mr96 rfl ?_
  show zGo X l 3 0 0 148 18 [(0, .ref 6), (1, .int a), (2, .int b), (3, .int c)] [.int (zI M 17 0), .int w9v, .int a] M _
  refine zs_invS (pc := 18) (as := [.int a, .int w9v, .int (zI M 17 0)]) (st := []) t148_18 (by decide) mf39 rfl rfl ⟨by decide, by decide, Nat.le_of_ble_eq_true rfl, Nat.le_of_ble_eq_true rfl⟩ (zs_in (by decide) mf39 (Nat.le_of_ble_eq_true rfl) ?_) (fun _ _ q => q)
  show zGo X l 0 0 0 39 0 [(0, .int a), (1, .int w9v), (2, .int (zI M 17 0))] [] M _
  refine zs_iload_n (pc := 0) t39_0 rfl ?_
  refine zs_iload_n (pc := 1) t39_1 rfl ?_
  by_cases w11 : a.toInt < (-(zI M 17 0).toInt)
  · refine zs_icmp_ltT (pc := 2) t39_2 rfl w9 (by omega) ?_
    refine zs_iconst (pc := 14) t39_14 (v := 0) (by decide) ?_
    refine zs_iret (pc := 15) t39_15 mr39 (by decide) ?_
    show zGo X l 3 0 0 148 21 [(0, .ref 6), (1, .int a), (2, .int b), (3, .int c)] [.int (0 : Int32)] M _
    refine zs_if_eqT (pc := 21) t148_21 li0 (by decide) ?_
    refine zs_iconst (pc := 48) t148_48 (v := -1) (by decide) ?_
    have w12 : (-1 : Int32).toInt = (-1) := lin1
    exact zs_iret (pc := 49) t148_49 mr148 (by decide) (hQ _ (Or.inl ⟨by omega, by omega⟩))
  · refine zs_icmp_ltF (pc := 2) t39_2 rfl w9 (by omega) ?_
    refine zs_iload_n (pc := 5) t39_5 rfl ?_
    refine zs_iload_n (pc := 6) t39_6 rfl ?_
    by_cases w13 : (zI M 17 0).toInt < a.toInt
    · refine zs_icmp_gtT (pc := 7) t39_7 rfl rfl (by omega) ?_
      refine zs_iconst (pc := 14) t39_14 (v := 0) (by decide) ?_
      refine zs_iret (pc := 15) t39_15 mr39 (by decide) ?_
      show zGo X l 3 0 0 148 21 [(0, .ref 6), (1, .int a), (2, .int b), (3, .int c)] [.int (0 : Int32)] M _
      refine zs_if_eqT (pc := 21) t148_21 li0 (by decide) ?_
      refine zs_iconst (pc := 48) t148_48 (v := -1) (by decide) ?_
      have w14 : (-1 : Int32).toInt = (-1) := lin1
      exact zs_iret (pc := 49) t148_49 mr148 (by decide) (hQ _ (Or.inl ⟨by omega, by omega⟩))
    · refine zs_icmp_gtF (pc := 7) t39_7 rfl rfl (by omega) ?_
      refine zs_iconst (pc := 10) t39_10 (v := 1) (by decide) ?_
      refine zs_goto (pc := 11) t39_11 ?_
      refine zs_iret (pc := 15) t39_15 mr39 (by decide) ?_
      show zGo X l 3 0 0 148 21 [(0, .ref 6), (1, .int a), (2, .int b), (3, .int c)] [.int (1 : Int32)] M _
      refine zs_if_eqF (pc := 21) t148_21 li1 (by decide) ?_
      refine zs_iload_n (pc := 24) t148_24 rfl ?_
      refine zs_aload_n (pc := 25) t148_25 rfl ?_
      refine zs_get (pc := 26) t148_26 (by decide) (zk1 (hs.k fk_zMc_6)) (hs.p rfl fv_zMc_6_0) ?_
      refine zs_iconst (pc := 29) t148_29 (v := 1) (by decide) ?_
      refine zs_invV (pc := 30) (k := 7) (as' := [.int (1 : Int32)]) (st := [.int b]) t148_30 mf96 rfl rfl (Or.inl ⟨by decide, (zk1 (hs.k fk_zMc_7))⟩) ⟨by decide, by decide, Nat.le_of_ble_eq_true rfl, Nat.le_of_ble_eq_true rfl⟩ (zs_in (by decide) mf96 (Nat.le_of_ble_eq_true rfl) ?_) (fun _ _ q => q)
      show zGo X l 0 0 0 96 0 [(0, .ref 7), (1, .int (1 : Int32))] [] M _
      refine zs_iload_n (pc := 0) t96_0 rfl ?_
      refine zs_if_ltF (pc := 1) t96_1 li1 (by decide) ?_
      refine zs_iload_n (pc := 4) t96_4 rfl ?_
      refine zs_bipush (pc := 5) t96_5 (v := 9) (by decide) ?_
      refine zs_icmp_geF (pc := 7) t96_7 li1 li9 (by decide) ?_
      refine zs_aload_n (pc := 10) t96_10 rfl ?_
      refine zs_get (pc := 11) t96_11 (by decide) (zk1 (hs.k fk_zMc_7)) (hs.p rfl fv_zMc_7_12) ?_
      refine zs_iload_n (pc := 14) t96_14 rfl ?_
      have w15 := ib17 hI 1
      have w16 : (zI M 17 1).toInt = F 6 := x0.2.2.2.2.1 1 (by decide)
      refine zs_iald (pc := 15) t96_15 (j := 1) (by decide) (zk1 (hs.k fk_zMc_17)) li1 (zk2 (hs.k fk_zMc_17) (by decide)) rfl ?_
      refine zs_goto (pc := 16) t96_16 ?_
      refine zs_iret (pc := 20) t96_20 mr96 rfl ?_
      show zGo X l 3 0 0 148 33 [(0, .ref 6), (1, .int a), (2, .int b), (3, .int c)] [.int (zI M 17 1), .int b] M _
      obtain ⟨w17v, w17e⟩ : ∃ v, -(zI M 17 1) = v := ⟨_, rfl⟩
      have w17 : w17v.toInt = -(zI M 17 1).toInt := by rw [← w17e]; exact zneg rfl (by omega)
      refine zs_ineg (pc := 33) t148_33 (c := w17v) w17e ?_
      refine zs_aload_n (pc := 34) t148_34 rfl ?_
      refine zs_get (pc := 35) t148_35 (by decide) (zk1 (hs.k fk_zMc_6)) (hs.p rfl fv_zMc_6_0) ?_
      refine zs_iconst (pc := 38) t148_38 (v := 1) (by decide) ?_
      refine zs_invV (pc := 39) (k := 7) (as' := [.int (1 : Int32)]) (st := [.int w17v, .int b]) t148_39 mf96 rfl rfl (Or.inl ⟨by decide, (zk1 (hs.k fk_zMc_7))⟩) ⟨by decide, by decide, Nat.le_of_ble_eq_true rfl, Nat.le_of_ble_eq_true rfl⟩ (zs_in (by decide) mf96 (Nat.le_of_ble_eq_true rfl) ?_) (fun _ _ q => q)
      show zGo X l 0 0 0 96 0 [(0, .ref 7), (1, .int (1 : Int32))] [] M _
      refine zs_iload_n (pc := 0) t96_0 rfl ?_
      refine zs_if_ltF (pc := 1) t96_1 li1 (by decide) ?_
      refine zs_iload_n (pc := 4) t96_4 rfl ?_
      refine zs_bipush (pc := 5) t96_5 (v := 9) (by decide) ?_
      refine zs_icmp_geF (pc := 7) t96_7 li1 li9 (by decide) ?_
      refine zs_aload_n (pc := 10) t96_10 rfl ?_
      refine zs_get (pc := 11) t96_11 (by decide) (zk1 (hs.k fk_zMc_7)) (hs.p rfl fv_zMc_7_12) ?_
      refine zs_iload_n (pc := 14) t96_14 rfl ?_
      have w18 : (zI M 17 1).toInt = F 6 := x0.2.2.2.2.1 1 (by decide)
      refine zs_iald (pc := 15) t96_15 (j := 1) (by decide) (zk1 (hs.k fk_zMc_17)) li1 (zk2 (hs.k fk_zMc_17) (by decide)) rfl ?_
      refine zs_goto (pc := 16) t96_16 ?_
      refine zs_iret (pc := 20) t96_20 mr96 rfl ?_
      show zGo X l 3 0 0 148 42 [(0, .ref 6), (1, .int a), (2, .int b), (3, .int c)] [.int (zI M 17 1), .int w17v, .int b] M _
      refine zs_invS (pc := 42) (as := [.int b, .int w17v, .int (zI M 17 1)]) (st := []) t148_42 (by decide) mf39 rfl rfl ⟨by decide, by decide, Nat.le_of_ble_eq_true rfl, Nat.le_of_ble_eq_true rfl⟩ (zs_in (by decide) mf39 (Nat.le_of_ble_eq_true rfl) ?_) (fun _ _ q => q)
      show zGo X l 0 0 0 39 0 [(0, .int b), (1, .int w17v), (2, .int (zI M 17 1))] [] M _
      refine zs_iload_n (pc := 0) t39_0 rfl ?_
      refine zs_iload_n (pc := 1) t39_1 rfl ?_
      by_cases w19 : b.toInt < (-(zI M 17 1).toInt)
      · refine zs_icmp_ltT (pc := 2) t39_2 rfl w17 (by omega) ?_
        refine zs_iconst (pc := 14) t39_14 (v := 0) (by decide) ?_
        refine zs_iret (pc := 15) t39_15 mr39 (by decide) ?_
        show zGo X l 3 0 0 148 45 [(0, .ref 6), (1, .int a), (2, .int b), (3, .int c)] [.int (0 : Int32)] M _
        refine zs_if_neF (pc := 45) t148_45 li0 (by decide) ?_
        refine zs_iconst (pc := 48) t148_48 (v := -1) (by decide) ?_
        have w20 : (-1 : Int32).toInt = (-1) := lin1
        exact zs_iret (pc := 49) t148_49 mr148 (by decide) (hQ _ (Or.inl ⟨by omega, by omega⟩))
      · refine zs_icmp_ltF (pc := 2) t39_2 rfl w17 (by omega) ?_
        refine zs_iload_n (pc := 5) t39_5 rfl ?_
        refine zs_iload_n (pc := 6) t39_6 rfl ?_
        by_cases w21 : (zI M 17 1).toInt < b.toInt
        · refine zs_icmp_gtT (pc := 7) t39_7 rfl rfl (by omega) ?_
          refine zs_iconst (pc := 14) t39_14 (v := 0) (by decide) ?_
          refine zs_iret (pc := 15) t39_15 mr39 (by decide) ?_
          show zGo X l 3 0 0 148 45 [(0, .ref 6), (1, .int a), (2, .int b), (3, .int c)] [.int (0 : Int32)] M _
          refine zs_if_neF (pc := 45) t148_45 li0 (by decide) ?_
          refine zs_iconst (pc := 48) t148_48 (v := -1) (by decide) ?_
          have w22 : (-1 : Int32).toInt = (-1) := lin1
          exact zs_iret (pc := 49) t148_49 mr148 (by decide) (hQ _ (Or.inl ⟨by omega, by omega⟩))
        · refine zs_icmp_gtF (pc := 7) t39_7 rfl rfl (by omega) ?_
          refine zs_iconst (pc := 10) t39_10 (v := 1) (by decide) ?_
          refine zs_goto (pc := 11) t39_11 ?_
          refine zs_iret (pc := 15) t39_15 mr39 (by decide) ?_
          show zGo X l 3 0 0 148 45 [(0, .ref 6), (1, .int a), (2, .int b), (3, .int c)] [.int (1 : Int32)] M _
          refine zs_if_neT (pc := 45) t148_45 li1 (by decide) ?_
          refine zs_aload_n (pc := 50) t148_50 rfl ?_
          refine zs_get (pc := 51) t148_51 (by decide) (zk1 (hs.k fk_zMc_6)) (hs.p rfl fv_zMc_6_0) ?_
          refine zs_iload_n (pc := 54) t148_54 rfl ?_
          refine zs_iload_n (pc := 55) t148_55 rfl ?_
          refine zs_iload_n (pc := 56) t148_56 rfl ?_
          refine zs_invV (pc := 57) (k := 7) (as' := [.int a, .int b, .int c]) (st := []) t148_57 mf149 rfl rfl (Or.inl ⟨by decide, (zk1 (hs.k fk_zMc_7))⟩) ⟨by decide, by decide, Nat.le_of_ble_eq_true rfl, Nat.le_of_ble_eq_true rfl⟩ (X149_7 hs hI ⟨by omega, by omega⟩ ⟨by omega, by omega⟩ x0 x1 ?_) (fun _ _ q => q)
          intro w23v w23x0
          have w23g := zrg w23v
          show zGo X l 3 0 0 148 60 [(0, .ref 6), (1, .int a), (2, .int b), (3, .int c)] [.int w23v] M _
          exact zs_iret (pc := 60) t148_60 mr148 rfl (hQ _ (by obtain ⟨m, hm, hv⟩ := w23x0 (F 1).toNat (by omega); exact zVtP.mk (by omega) (by omega) (by omega) (by omega) hm (by omega) (fun h => by rw [hv]; exact h.c)))
