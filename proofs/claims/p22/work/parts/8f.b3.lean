theorem P196 {X : zX} {l : Launch} {M : zM} {Q : Option Value → zM → Prop} {a : Int32} (hs : zSk zMc M) (hI : zIv cLo cHi M) {F : Nat → Int} (u0 : (zI M 166 10).toInt ≤ 1600000000) (u1 : 0 ≤ (zI M 166 10).toInt) (u2 : (zI M 242 10).toInt ≤ 1600000000) (u3 : 0 ≤ (zI M 242 10).toInt) (x0 : zSo M 7 F) (x1 : zWF F) (x2 : zKnA M F) (x3 : zSp M 166 174) (x4 : zSp M 242 250) (hQ : ∀ (M' : zM) (v : Int32), zSk zMc M' → zIv cLo cHi M' → zFr [(164, 165, none), (166, 178, none), (180, 180, none), (181, 240, none), (317, 324, none)] M M' → ((zI M' 166 10).toInt ≤ (zI M 166 10).toInt + 20000) → ((zI M 166 10).toInt ≤ (zI M' 166 10).toInt) → ((zI M' 242 10).toInt ≤ (zI M 242 10).toInt + 20000) → ((zI M 242 10).toInt ≤ (zI M' 242 10).toInt) → (zKnA M' F) → (zSp M' 166 174) → (zSp M' 242 250) → Q (some (.int v)) M') : zCall X l 6 0 0 196 [.ref 6, .int a] M Q := by
  have ga := zrg a
  refine zs_in (by decide) mf196 (Nat.le_of_ble_eq_true rfl) ?_
  show zGo X l 6 0 0 196 0 [(0, .ref 6), (1, .int a)] [] M _
  have f0 := x0.1
  have w1 := ib7_0 hI
  have w2 : (zI M 7 0).toInt = (zI M 7 0).toInt := (congrArg Int32.toInt rfl).trans rfl
  have w3 := ib7_3 hI
  have w4 : (zI M 7 3).toInt = (zI M 7 3).toInt := (congrArg Int32.toInt rfl).trans rfl
  have w5 := ib7_8 hI
  have w6 : (zI M 7 8).toInt = (zI M 7 8).toInt := (congrArg Int32.toInt rfl).trans rfl
  have f1 := x1.1
  have f3 := x1.2.2.2
  have f2 := (show (zI M 7 0).toInt = F 0 ∧ (zI M 7 3).toInt = F 1 ∧ (zI M 7 8).toInt = F 2 from ⟨x0.1.1, x0.1.2.1, x0.1.2.2.1⟩)
  refine zs_iload_n (pc := 0) t196_0 rfl ?_
  refine zs_iconst (pc := 1) t196_1 (v := 0) (by decide) ?_
  refine zs_iconst (pc := 2) t196_2 (v := 2) (by decide) ?_
  refine zs_invS (pc := 3) (as := [.int a, .int (0 : Int32), .int (2 : Int32)]) (st := []) t196_3 (by decide) mf39 rfl rfl ⟨by decide, by decide, Nat.le_of_ble_eq_true rfl, Nat.le_of_ble_eq_true rfl⟩ (zs_in (by decide) mf39 (Nat.le_of_ble_eq_true rfl) ?_) (fun _ _ q => q)
  show zGo X l 0 0 0 39 0 [(0, .int a), (1, .int (0 : Int32)), (2, .int (2 : Int32))] [] M _
  refine zs_iload_n (pc := 0) t39_0 rfl ?_
  refine zs_iload_n (pc := 1) t39_1 rfl ?_
  by_cases w7 : a.toInt < 0
  · refine zs_icmp_ltT (pc := 2) t39_2 rfl li0 (by omega) ?_
    refine zs_iconst (pc := 14) t39_14 (v := 0) (by decide) ?_
    refine zs_iret (pc := 15) t39_15 mr39 (by decide) ?_
    show zGo X l 6 0 0 196 6 [(0, .ref 6), (1, .int a)] [.int (0 : Int32)] M _
    refine zs_if_neF (pc := 6) t196_6 li0 (by decide) ?_
    refine zs_iconst (pc := 9) t196_9 (v := -1) (by decide) ?_
    have w8 := zrg (zI M 166 10)
    have w9 : (zI M 166 10).toInt = (zI M 166 10).toInt := (congrArg Int32.toInt rfl).trans rfl
    have w10 := zrg (zI M 242 10)
    have w11 : (zI M 242 10).toInt = (zI M 242 10).toInt := (congrArg Int32.toInt rfl).trans rfl
    have w12 := lin1
    exact zs_iret (pc := 10) t196_10 mr196 (by decide) (hQ _ _ hs hI (zFr.refl) (by omega) (by omega) (by omega) (by omega) x2 x3 x4)
  · refine zs_icmp_ltF (pc := 2) t39_2 rfl li0 (by omega) ?_
    refine zs_iload_n (pc := 5) t39_5 rfl ?_
    refine zs_iload_n (pc := 6) t39_6 rfl ?_
    by_cases w13 : 2 < a.toInt
    · refine zs_icmp_gtT (pc := 7) t39_7 rfl li2 (by omega) ?_
      refine zs_iconst (pc := 14) t39_14 (v := 0) (by decide) ?_
      refine zs_iret (pc := 15) t39_15 mr39 (by decide) ?_
      show zGo X l 6 0 0 196 6 [(0, .ref 6), (1, .int a)] [.int (0 : Int32)] M _
      refine zs_if_neF (pc := 6) t196_6 li0 (by decide) ?_
      refine zs_iconst (pc := 9) t196_9 (v := -1) (by decide) ?_
      have w14 := zrg (zI M 166 10)
      have w15 : (zI M 166 10).toInt = (zI M 166 10).toInt := (congrArg Int32.toInt rfl).trans rfl
      have w16 := zrg (zI M 242 10)
      have w17 : (zI M 242 10).toInt = (zI M 242 10).toInt := (congrArg Int32.toInt rfl).trans rfl
      have w18 := lin1
      exact zs_iret (pc := 10) t196_10 mr196 (by decide) (hQ _ _ hs hI (zFr.refl) (by omega) (by omega) (by omega) (by omega) x2 x3 x4)
    · refine zs_icmp_gtF (pc := 7) t39_7 rfl li2 (by omega) ?_
      refine zs_iconst (pc := 10) t39_10 (v := 1) (by decide) ?_
      refine zs_goto (pc := 11) t39_11 ?_
      refine zs_iret (pc := 15) t39_15 mr39 (by decide) ?_
      show zGo X l 6 0 0 196 6 [(0, .ref 6), (1, .int a)] [.int (1 : Int32)] M _
      refine zs_if_neT (pc := 6) t196_6 li1 (by decide) ?_
      refine zs_aload_n (pc := 11) t196_11 rfl ?_
      refine zs_get (pc := 12) t196_12 (by decide) (zk1 (hs.k fk_zMc_6)) (hs.p rfl fv_zMc_6_6) ?_
      refine zs_aload_n (pc := 15) t196_15 rfl ?_
      refine zs_get (pc := 16) t196_16 (by decide) (zk1 (hs.k fk_zMc_6)) (hs.p rfl fv_zMc_6_0) ?_
      have w19 := zrg (zI M 166 10)
      have w20 : (zI M 166 10).toInt = (zI M 166 10).toInt := (congrArg Int32.toInt rfl).trans rfl
      have w21 : (zI M 166 10).toInt = (zI M 166 10).toInt := (congrArg Int32.toInt rfl).trans rfl
      refine zs_invV (pc := 19) (k := 164) (as' := [.ref 7]) (st := []) t196_19 mf105 rfl rfl (Or.inl ⟨by decide, (zk1 (hs.k fk_zMc_164))⟩) ⟨by decide, by decide, Nat.le_of_ble_eq_true rfl, Nat.le_of_ble_eq_true rfl⟩ (V105 hs hI (by omega) (by omega) x0 x1 x2 x3 ?_) (fun _ _ q => q)
      intro w22M w22s w22I w22F w22t0 w22t1 w22x0 w22x1 w22x2
      have w23 := zrg (zI w22M 166 10)
      show zGo X l 6 0 0 196 22 [(0, .ref 6), (1, .int a)] [.ref 164] w22M _
      refine zs_invV (pc := 22) (k := 164) (as' := []) (st := []) t196_22 mf197 rfl rfl (Or.inl ⟨by decide, (zk1 (w22s.k fk_zMc_164))⟩) ⟨by decide, by decide, Nat.le_of_ble_eq_true rfl, Nat.le_of_ble_eq_true rfl⟩ (C197_164 w22s w22I ?_) (fun _ _ q => q)
      intro w24v w24a w24b
      show zGo X l 6 0 0 196 25 [(0, .ref 6), (1, .int a)] [.int w24v] w22M _
      refine zs_istore_n (pc := 25) t196_25 (ls' := [(2, .int w24v), (0, .ref 6), (1, .int a)]) (zml mf196 (by decide)) rfl ?_
      refine zs_iload_n (pc := 26) t196_26 rfl ?_
      by_cases w25 : a.toInt ≠ 0
      · refine zs_if_neT (pc := 27) t196_27 rfl (by omega) ?_
        refine zs_iload_n (pc := 32) t196_32 rfl ?_
        refine zs_iconst (pc := 33) t196_33 (v := 1) (by decide) ?_
        by_cases w26 : a.toInt ≠ 1
        · refine zs_icmp_neT (pc := 34) t196_34 rfl li1 (by omega) ?_
          refine zs_aload_n (pc := 48) t196_48 rfl ?_
          refine zs_get (pc := 49) t196_49 (by decide) (zk1 (w22s.k fk_zMc_6)) (w22s.p rfl fv_zMc_6_6) ?_
          refine zs_iload_n (pc := 52) t196_52 rfl ?_
          refine zs_invV (pc := 53) (k := 164) (as' := [.int w24v]) (st := []) t196_53 mf199 rfl rfl (Or.inl ⟨by decide, (zk1 (w22s.k fk_zMc_164))⟩) ⟨by decide, by decide, Nat.le_of_ble_eq_true rfl, Nat.le_of_ble_eq_true rfl⟩ (C199_164 w22s w22I ?_) (fun _ _ q => q)
          intro w27v w27a w27b
          show zGo X l 6 0 0 196 56 [(2, .int w24v), (0, .ref 6), (1, .int a)] [.int w27v] w22M _
          have w28 : (zI w22M 166 10).toInt = (zI w22M 166 10).toInt := (congrArg Int32.toInt rfl).trans rfl
          have w29 := zrg (zI M 242 10)
          have w30 : (zI w22M 242 10).toInt = (zI M 242 10).toInt := (congrArg Int32.toInt ((w22F 242 10 rfl).trans rfl)).trans rfl
          exact zs_iret (pc := 56) t196_56 mr196 rfl (hQ _ _ w22s w22I ((zFr.refl).trans (w22F.mono rfl)) (by omega) (by omega) (by omega) (by omega) (fun _ => w22x0) w22x1 (zSp.fr x4 (fun j => (w22F 250 j rfl)) (w22F 242 10 rfl)))
        · refine zs_icmp_neF (pc := 34) t196_34 rfl li1 (by omega) ?_
          refine zs_aload_n (pc := 37) t196_37 rfl ?_
          refine zs_get (pc := 38) t196_38 (by decide) (zk1 (w22s.k fk_zMc_6)) (w22s.p rfl fv_zMc_6_6) ?_
          refine zs_iload_n (pc := 41) t196_41 rfl ?_
          refine zs_invV (pc := 42) (k := 164) (as' := [.int w24v]) (st := []) t196_42 mf198 rfl rfl (Or.inl ⟨by decide, (zk1 (w22s.k fk_zMc_164))⟩) ⟨by decide, by decide, Nat.le_of_ble_eq_true rfl, Nat.le_of_ble_eq_true rfl⟩ (C198_164 w22s w22I ?_) (fun _ _ q => q)
          intro w31v w31a w31b
          show zGo X l 6 0 0 196 45 [(2, .int w24v), (0, .ref 6), (1, .int a)] [.int w31v] w22M _
          refine zs_goto (pc := 45) t196_45 ?_
          have w32 : (zI w22M 166 10).toInt = (zI w22M 166 10).toInt := (congrArg Int32.toInt rfl).trans rfl
          have w33 : (zI w22M 242 10).toInt = (zI M 242 10).toInt := (congrArg Int32.toInt ((w22F 242 10 rfl).trans rfl)).trans rfl
          exact zs_iret (pc := 56) t196_56 mr196 rfl (hQ _ _ w22s w22I ((zFr.refl).trans (w22F.mono rfl)) (by omega) (by omega) (by omega) (by omega) (fun _ => w22x0) w22x1 (zSp.fr x4 (fun j => (w22F 250 j rfl)) (w22F 242 10 rfl)))
      · refine zs_if_neF (pc := 27) t196_27 rfl (by omega) ?_
        refine zs_iload_n (pc := 30) t196_30 rfl ?_
        have w34 : (zI w22M 166 10).toInt = (zI w22M 166 10).toInt := (congrArg Int32.toInt rfl).trans rfl
        have w35 : (zI w22M 242 10).toInt = (zI M 242 10).toInt := (congrArg Int32.toInt ((w22F 242 10 rfl).trans rfl)).trans rfl
        exact zs_iret (pc := 31) t196_31 mr196 rfl (hQ _ _ w22s w22I ((zFr.refl).trans (w22F.mono rfl)) (by omega) (by omega) (by omega) (by omega) (fun _ => w22x0) w22x1 (zSp.fr x4 (fun j => (w22F 250 j rfl)) (w22F 242 10 rfl)))
set_option maxHeartbeats 8000000 in
theorem P200 {X : zX} {l : Launch} {M : zM} {Q : Option Value → zM → Prop} {a b c : Int32} (hs : zSk zMc M) (hI : zIv cLo cHi M) {F : Nat → Int} (u0 : (zI M 166 10).toInt ≤ 1600000000) (u1 : 0 ≤ (zI M 166 10).toInt) (u2 : (zI M 242 10).toInt ≤ 1600000000) (u3 : 0 ≤ (zI M 242 10).toInt) (x0 : zSo M 7 F) (x1 : zWF F) (x2 : zKnA M F) (x3 : zSp M 166 174) (x4 : zSp M 242 250) (hQ : ∀ (M' : zM) (v : Int64), zSk zMc M' → zIv cLo cHi M' → zFr [(164, 165, none), (166, 178, none), (180, 180, none), (181, 240, none), (317, 324, none)] M M' → ((zI M' 166 10).toInt ≤ (zI M 166 10).toInt + 20000) → ((zI M 166 10).toInt ≤ (zI M' 166 10).toInt) → ((zI M' 242 10).toInt ≤ (zI M 242 10).toInt + 20000) → ((zI M 242 10).toInt ≤ (zI M' 242 10).toInt) → (zKnA M' F) → (zSp M' 166 174) → (zSp M' 242 250) → Q (some (.long v)) M') : zCall X l 6 0 0 200 [.ref 6, .int a, .int b, .int c] M Q := by
  have ga := zrg a
  have gb := zrg b
  have gc := zrg c
  refine zs_in (by decide) mf200 (Nat.le_of_ble_eq_true rfl) ?_
  show zGo X l 6 0 0 200 0 [(0, .ref 6), (1, .int a), (2, .int b), (3, .int c)] [] M _
  have f0 := x0.1
  have w1 := ib7_0 hI
  have w2 : (zI M 7 0).toInt = (zI M 7 0).toInt := (congrArg Int32.toInt rfl).trans rfl
  have w3 := ib7_3 hI
  have w4 : (zI M 7 3).toInt = (zI M 7 3).toInt := (congrArg Int32.toInt rfl).trans rfl
  have w5 := ib7_8 hI
  have w6 : (zI M 7 8).toInt = (zI M 7 8).toInt := (congrArg Int32.toInt rfl).trans rfl
  have f1 := x1.1
  have f3 := x1.2.2.2
  have f2 := (show (zI M 7 0).toInt = F 0 ∧ (zI M 7 3).toInt = F 1 ∧ (zI M 7 8).toInt = F 2 from ⟨x0.1.1, x0.1.2.1, x0.1.2.2.1⟩)
  refine zs_aload_n (pc := 0) t200_0 rfl ?_
  refine zs_get (pc := 1) t200_1 (by decide) (zk1 (hs.k fk_zMc_6)) (hs.p rfl fv_zMc_6_6) ?_
  refine zs_aload_n (pc := 4) t200_4 rfl ?_
  refine zs_get (pc := 5) t200_5 (by decide) (zk1 (hs.k fk_zMc_6)) (hs.p rfl fv_zMc_6_0) ?_
  have w7 := zrg (zI M 166 10)
  have w8 : (zI M 166 10).toInt = (zI M 166 10).toInt := (congrArg Int32.toInt rfl).trans rfl
  have w9 : (zI M 166 10).toInt = (zI M 166 10).toInt := (congrArg Int32.toInt rfl).trans rfl
  refine zs_invV (pc := 8) (k := 164) (as' := [.ref 7]) (st := []) t200_8 mf105 rfl rfl (Or.inl ⟨by decide, (zk1 (hs.k fk_zMc_164))⟩) ⟨by decide, by decide, Nat.le_of_ble_eq_true rfl, Nat.le_of_ble_eq_true rfl⟩ (V105 hs hI (by omega) (by omega) x0 x1 x2 x3 ?_) (fun _ _ q => q)
  intro w10M w10s w10I w10F w10t0 w10t1 w10x0 w10x1 w10x2
  have w11 := zrg (zI w10M 166 10)
  show zGo X l 6 0 0 200 11 [(0, .ref 6), (1, .int a), (2, .int b), (3, .int c)] [.ref 164] w10M _
  refine zs_iload_n (pc := 11) t200_11 rfl ?_
  refine zs_invV (pc := 12) (k := 164) (as' := [.int a]) (st := []) t200_12 mf163 rfl rfl (Or.inl ⟨by decide, (zk1 (w10s.k fk_zMc_164))⟩) ⟨by decide, by decide, Nat.le_of_ble_eq_true rfl, Nat.le_of_ble_eq_true rfl⟩ (zs_in (by decide) mf163 (Nat.le_of_ble_eq_true rfl) ?_) (fun _ _ q => q)
  show zGo X l 1 0 0 163 0 [(0, .ref 164), (1, .int a)] [] w10M _
  refine zs_iload_n (pc := 0) t163_0 rfl ?_
  refine zs_aload_n (pc := 1) t163_1 rfl ?_
  have w12 := ib164_4 w10I
  refine zs_get (pc := 2) t163_2 (by decide) (zk1 (w10s.k fk_zMc_164)) (zfvi rfl rfl) ?_
  by_cases w13 : (zI w10M 164 4).toInt ≤ a.toInt
  · refine zs_icmp_geT (pc := 5) t163_5 rfl rfl (by omega) ?_
    refine zs_aconst_null (pc := 19) t163_19 ?_
    refine zs_aret0 (pc := 20) t163_20 (by rw [mr163]; rfl) ?_
    show zGo X l 6 0 0 200 15 [(0, .ref 6), (1, .int a), (2, .int b), (3, .int c)] [.null] w10M _
    refine zs_astore0 (pc := 15) t200_15 (ls' := [(4, .null), (0, .ref 6), (1, .int a), (2, .int b), (3, .int c)]) (zml mf200 (by decide)) rfl ?_
    refine zs_aload_n (pc := 17) t200_17 rfl ?_
    refine zs_get (pc := 18) t200_18 (by decide) (zk1 (w10s.k fk_zMc_6)) (w10s.p rfl fv_zMc_6_6) ?_
    refine zs_iload_n (pc := 21) t200_21 rfl ?_
    refine zs_invV (pc := 22) (k := 164) (as' := [.int b]) (st := []) t200_22 mf163 rfl rfl (Or.inl ⟨by decide, (zk1 (w10s.k fk_zMc_164))⟩) ⟨by decide, by decide, Nat.le_of_ble_eq_true rfl, Nat.le_of_ble_eq_true rfl⟩ (zs_in (by decide) mf163 (Nat.le_of_ble_eq_true rfl) ?_) (fun _ _ q => q)
    show zGo X l 1 0 0 163 0 [(0, .ref 164), (1, .int b)] [] w10M _
    refine zs_iload_n (pc := 0) t163_0 rfl ?_
    refine zs_aload_n (pc := 1) t163_1 rfl ?_
    refine zs_get (pc := 2) t163_2 (by decide) (zk1 (w10s.k fk_zMc_164)) (zfvi rfl rfl) ?_
    by_cases w14 : (zI w10M 164 4).toInt ≤ b.toInt
    · refine zs_icmp_geT (pc := 5) t163_5 rfl rfl (by omega) ?_
      refine zs_aconst_null (pc := 19) t163_19 ?_
      refine zs_aret0 (pc := 20) t163_20 (by rw [mr163]; rfl) ?_
      show zGo X l 6 0 0 200 25 [(4, .null), (0, .ref 6), (1, .int a), (2, .int b), (3, .int c)] [.null] w10M _
      refine zs_astore0 (pc := 25) t200_25 (ls' := [(5, .null), (4, .null), (0, .ref 6), (1, .int a), (2, .int b), (3, .int c)]) (zml mf200 (by decide)) rfl ?_
      refine zs_aload0 (pc := 27) t200_27 rfl ?_
      refine zs_ifnullT (pc := 29) t200_29 ?_
      refine zs_ldc2_w (pc := 51) t200_51 (v := -1000000000000) (by decide) ?_
      have w15 : (zI w10M 166 10).toInt = (zI w10M 166 10).toInt := (congrArg Int32.toInt rfl).trans rfl
      have w16 := zrg (zI M 242 10)
      have w17 : (zI w10M 242 10).toInt = (zI M 242 10).toInt := (congrArg Int32.toInt ((w10F 242 10 rfl).trans rfl)).trans rfl
      have w18 := lln1000000000000
      exact zs_lret (pc := 54) t200_54 mr200 (hQ _ _ w10s w10I ((zFr.refl).trans (w10F.mono rfl)) (by omega) (by omega) (by omega) (by omega) (fun _ => w10x0) w10x1 (zSp.fr x4 (fun j => (w10F 250 j rfl)) (w10F 242 10 rfl)))
    · refine zs_icmp_geF (pc := 5) t163_5 rfl rfl (by omega) ?_
      refine zs_aload_n (pc := 8) t163_8 rfl ?_
      refine zs_get (pc := 9) t163_9 (by decide) (zk1 (w10s.k fk_zMc_164)) (w10s.p rfl fv_zMc_164_1) ?_
      refine zs_iload_n (pc := 12) t163_12 rfl ?_
      refine zs_invV (pc := 13) (k := 165) (as' := [.int b]) (st := []) t163_13 mf126 rfl rfl (Or.inl ⟨by decide, (zk1 (w10s.k fk_zMc_165))⟩) ⟨by decide, by decide, Nat.le_of_ble_eq_true rfl, Nat.le_of_ble_eq_true rfl⟩ (zs_in (by decide) mf126 (Nat.le_of_ble_eq_true rfl) ?_) (fun _ _ q => q)
      show zGo X l 0 0 0 126 0 [(0, .ref 165), (1, .int b)] [] w10M _
      refine zs_iload_n (pc := 0) t126_0 rfl ?_
      by_cases w19 : b.toInt < 0
      · refine zs_if_ltT (pc := 1) t126_1 rfl (by omega) ?_
        refine zs_aconst_null (pc := 21) t126_21 ?_
        refine zs_aret0 (pc := 22) t126_22 (by rw [mr126]; rfl) ?_
        show zGo X l 1 0 0 163 16 [(0, .ref 164), (1, .int b)] [.null] w10M _
        refine zs_goto (pc := 16) t163_16 ?_
        refine zs_aret0 (pc := 20) t163_20 (by rw [mr163]; rfl) ?_
        show zGo X l 6 0 0 200 25 [(4, .null), (0, .ref 6), (1, .int a), (2, .int b), (3, .int c)] [.null] w10M _
        refine zs_astore0 (pc := 25) t200_25 (ls' := [(5, .null), (4, .null), (0, .ref 6), (1, .int a), (2, .int b), (3, .int c)]) (zml mf200 (by decide)) rfl ?_
        refine zs_aload0 (pc := 27) t200_27 rfl ?_
        refine zs_ifnullT (pc := 29) t200_29 ?_
        refine zs_ldc2_w (pc := 51) t200_51 (v := -1000000000000) (by decide) ?_
        have w20 : (zI w10M 166 10).toInt = (zI w10M 166 10).toInt := (congrArg Int32.toInt rfl).trans rfl
        have w21 : (zI w10M 242 10).toInt = (zI M 242 10).toInt := (congrArg Int32.toInt ((w10F 242 10 rfl).trans rfl)).trans rfl
        have w22 := lln1000000000000
        exact zs_lret (pc := 54) t200_54 mr200 (hQ _ _ w10s w10I ((zFr.refl).trans (w10F.mono rfl)) (by omega) (by omega) (by omega) (by omega) (fun _ => w10x0) w10x1 (zSp.fr x4 (fun j => (w10F 250 j rfl)) (w10F 242 10 rfl)))
      · refine zs_if_ltF (pc := 1) t126_1 rfl (by omega) ?_
        refine zs_iload_n (pc := 4) t126_4 rfl ?_
        refine zs_aload_n (pc := 5) t126_5 rfl ?_
        have w23 := ib165_2 w10I
        refine zs_get (pc := 6) t126_6 (by decide) (zk1 (w10s.k fk_zMc_165)) (zfvi rfl rfl) ?_
        by_cases w24 : (zI w10M 165 2).toInt ≤ b.toInt
        · refine zs_icmp_geT (pc := 9) t126_9 rfl rfl (by omega) ?_
          refine zs_aconst_null (pc := 21) t126_21 ?_
          refine zs_aret0 (pc := 22) t126_22 (by rw [mr126]; rfl) ?_
          show zGo X l 1 0 0 163 16 [(0, .ref 164), (1, .int b)] [.null] w10M _
          refine zs_goto (pc := 16) t163_16 ?_
          refine zs_aret0 (pc := 20) t163_20 (by rw [mr163]; rfl) ?_
          show zGo X l 6 0 0 200 25 [(4, .null), (0, .ref 6), (1, .int a), (2, .int b), (3, .int c)] [.null] w10M _
          refine zs_astore0 (pc := 25) t200_25 (ls' := [(5, .null), (4, .null), (0, .ref 6), (1, .int a), (2, .int b), (3, .int c)]) (zml mf200 (by decide)) rfl ?_
          refine zs_aload0 (pc := 27) t200_27 rfl ?_
          refine zs_ifnullT (pc := 29) t200_29 ?_
          refine zs_ldc2_w (pc := 51) t200_51 (v := -1000000000000) (by decide) ?_
          have w25 : (zI w10M 166 10).toInt = (zI w10M 166 10).toInt := (congrArg Int32.toInt rfl).trans rfl
          have w26 : (zI w10M 242 10).toInt = (zI M 242 10).toInt := (congrArg Int32.toInt ((w10F 242 10 rfl).trans rfl)).trans rfl
          have w27 := lln1000000000000
          exact zs_lret (pc := 54) t200_54 mr200 (hQ _ _ w10s w10I ((zFr.refl).trans (w10F.mono rfl)) (by omega) (by omega) (by omega) (by omega) (fun _ => w10x0) w10x1 (zSp.fr x4 (fun j => (w10F 250 j rfl)) (w10F 242 10 rfl)))
        · refine zs_icmp_geF (pc := 9) t126_9 rfl rfl (by omega) ?_
          refine zs_aload_n (pc := 12) t126_12 rfl ?_
          refine zs_get (pc := 13) t126_13 (by decide) (zk1 (w10s.k fk_zMc_165)) (w10s.p rfl fv_zMc_165_1) ?_
          refine zs_iload_n (pc := 16) t126_16 rfl ?_
          obtain ⟨w28n, w28⟩ : ∃ n : Nat, b.toInt = (n : Int) := ⟨(b.toInt).toNat, by omega⟩
          have w29 : w28n < 20 := by omega
          refine zs_aald (pc := 17) t126_17 (j := w28n) (Or.inr (zk1 (w10s.k fk_zMc_179))) (show b.toInt = ((w28n : Nat) : Int) by omega) (zk2 (w10s.k fk_zMc_179) (by omega)) (w10s.a (fpT181 w28n w29)) ?_
          refine zs_goto (pc := 18) t126_18 ?_
          refine zs_aret (pc := 22) t126_22 (by rw [mr126]; rfl) ?_
          show zGo X l 1 0 0 163 16 [(0, .ref 164), (1, .int b)] [.ref (181 + 3 * w28n)] w10M _
          refine zs_goto (pc := 16) t163_16 ?_
          refine zs_aret (pc := 20) t163_20 (by rw [mr163]; rfl) ?_
          show zGo X l 6 0 0 200 25 [(4, .null), (0, .ref 6), (1, .int a), (2, .int b), (3, .int c)] [.ref (181 + 3 * w28n)] w10M _
          refine zs_astore (pc := 25) t200_25 (ls' := [(5, .ref (181 + 3 * w28n)), (4, .null), (0, .ref 6), (1, .int a), (2, .int b), (3, .int c)]) (zml mf200 (by decide)) rfl ?_
          refine zs_aload0 (pc := 27) t200_27 rfl ?_
          refine zs_ifnullT (pc := 29) t200_29 ?_
          refine zs_ldc2_w (pc := 51) t200_51 (v := -1000000000000) (by decide) ?_
          have w30 : (zI w10M 166 10).toInt = (zI w10M 166 10).toInt := (congrArg Int32.toInt rfl).trans rfl
          have w31 : (zI w10M 242 10).toInt = (zI M 242 10).toInt := (congrArg Int32.toInt ((w10F 242 10 rfl).trans rfl)).trans rfl
          have w32 := lln1000000000000
          exact zs_lret (pc := 54) t200_54 mr200 (hQ _ _ w10s w10I ((zFr.refl).trans (w10F.mono rfl)) (by omega) (by omega) (by omega) (by omega) (fun _ => w10x0) w10x1 (zSp.fr x4 (fun j => (w10F 250 j rfl)) (w10F 242 10 rfl)))
  · refine zs_icmp_geF (pc := 5) t163_5 rfl rfl (by omega) ?_
    refine zs_aload_n (pc := 8) t163_8 rfl ?_
    refine zs_get (pc := 9) t163_9 (by decide) (zk1 (w10s.k fk_zMc_164)) (w10s.p rfl fv_zMc_164_1) ?_
    refine zs_iload_n (pc := 12) t163_12 rfl ?_
    refine zs_invV (pc := 13) (k := 165) (as' := [.int a]) (st := []) t163_13 mf126 rfl rfl (Or.inl ⟨by decide, (zk1 (w10s.k fk_zMc_165))⟩) ⟨by decide, by decide, Nat.le_of_ble_eq_true rfl, Nat.le_of_ble_eq_true rfl⟩ (zs_in (by decide) mf126 (Nat.le_of_ble_eq_true rfl) ?_) (fun _ _ q => q)
    show zGo X l 0 0 0 126 0 [(0, .ref 165), (1, .int a)] [] w10M _
    refine zs_iload_n (pc := 0) t126_0 rfl ?_
    by_cases w33 : a.toInt < 0
    · refine zs_if_ltT (pc := 1) t126_1 rfl (by omega) ?_
      refine zs_aconst_null (pc := 21) t126_21 ?_
      refine zs_aret0 (pc := 22) t126_22 (by rw [mr126]; rfl) ?_
      show zGo X l 1 0 0 163 16 [(0, .ref 164), (1, .int a)] [.null] w10M _
      refine zs_goto (pc := 16) t163_16 ?_
      refine zs_aret0 (pc := 20) t163_20 (by rw [mr163]; rfl) ?_
      show zGo X l 6 0 0 200 15 [(0, .ref 6), (1, .int a), (2, .int b), (3, .int c)] [.null] w10M _
      refine zs_astore0 (pc := 15) t200_15 (ls' := [(4, .null), (0, .ref 6), (1, .int a), (2, .int b), (3, .int c)]) (zml mf200 (by decide)) rfl ?_
      refine zs_aload_n (pc := 17) t200_17 rfl ?_
      refine zs_get (pc := 18) t200_18 (by decide) (zk1 (w10s.k fk_zMc_6)) (w10s.p rfl fv_zMc_6_6) ?_
      refine zs_iload_n (pc := 21) t200_21 rfl ?_
      refine zs_invV (pc := 22) (k := 164) (as' := [.int b]) (st := []) t200_22 mf163 rfl rfl (Or.inl ⟨by decide, (zk1 (w10s.k fk_zMc_164))⟩) ⟨by decide, by decide, Nat.le_of_ble_eq_true rfl, Nat.le_of_ble_eq_true rfl⟩ (zs_in (by decide) mf163 (Nat.le_of_ble_eq_true rfl) ?_) (fun _ _ q => q)
      show zGo X l 1 0 0 163 0 [(0, .ref 164), (1, .int b)] [] w10M _
      refine zs_iload_n (pc := 0) t163_0 rfl ?_
      refine zs_aload_n (pc := 1) t163_1 rfl ?_
      refine zs_get (pc := 2) t163_2 (by decide) (zk1 (w10s.k fk_zMc_164)) (zfvi rfl rfl) ?_
      by_cases w34 : (zI w10M 164 4).toInt ≤ b.toInt
      · refine zs_icmp_geT (pc := 5) t163_5 rfl rfl (by omega) ?_
        refine zs_aconst_null (pc := 19) t163_19 ?_
        refine zs_aret0 (pc := 20) t163_20 (by rw [mr163]; rfl) ?_
        show zGo X l 6 0 0 200 25 [(4, .null), (0, .ref 6), (1, .int a), (2, .int b), (3, .int c)] [.null] w10M _
        refine zs_astore0 (pc := 25) t200_25 (ls' := [(5, .null), (4, .null), (0, .ref 6), (1, .int a), (2, .int b), (3, .int c)]) (zml mf200 (by decide)) rfl ?_
        refine zs_aload0 (pc := 27) t200_27 rfl ?_
        refine zs_ifnullT (pc := 29) t200_29 ?_
        refine zs_ldc2_w (pc := 51) t200_51 (v := -1000000000000) (by decide) ?_
        have w35 : (zI w10M 166 10).toInt = (zI w10M 166 10).toInt := (congrArg Int32.toInt rfl).trans rfl
        have w36 : (zI w10M 242 10).toInt = (zI M 242 10).toInt := (congrArg Int32.toInt ((w10F 242 10 rfl).trans rfl)).trans rfl
        have w37 := lln1000000000000
        exact zs_lret (pc := 54) t200_54 mr200 (hQ _ _ w10s w10I ((zFr.refl).trans (w10F.mono rfl)) (by omega) (by omega) (by omega) (by omega) (fun _ => w10x0) w10x1 (zSp.fr x4 (fun j => (w10F 250 j rfl)) (w10F 242 10 rfl)))
      · refine zs_icmp_geF (pc := 5) t163_5 rfl rfl (by omega) ?_
        refine zs_aload_n (pc := 8) t163_8 rfl ?_
        refine zs_get (pc := 9) t163_9 (by decide) (zk1 (w10s.k fk_zMc_164)) (w10s.p rfl fv_zMc_164_1) ?_
        refine zs_iload_n (pc := 12) t163_12 rfl ?_
        refine zs_invV (pc := 13) (k := 165) (as' := [.int b]) (st := []) t163_13 mf126 rfl rfl (Or.inl ⟨by decide, (zk1 (w10s.k fk_zMc_165))⟩) ⟨by decide, by decide, Nat.le_of_ble_eq_true rfl, Nat.le_of_ble_eq_true rfl⟩ (zs_in (by decide) mf126 (Nat.le_of_ble_eq_true rfl) ?_) (fun _ _ q => q)
        show zGo X l 0 0 0 126 0 [(0, .ref 165), (1, .int b)] [] w10M _
        refine zs_iload_n (pc := 0) t126_0 rfl ?_
        by_cases w38 : b.toInt < 0
        · refine zs_if_ltT (pc := 1) t126_1 rfl (by omega) ?_
          refine zs_aconst_null (pc := 21) t126_21 ?_
          refine zs_aret0 (pc := 22) t126_22 (by rw [mr126]; rfl) ?_
          show zGo X l 1 0 0 163 16 [(0, .ref 164), (1, .int b)] [.null] w10M _
          refine zs_goto (pc := 16) t163_16 ?_
          refine zs_aret0 (pc := 20) t163_20 (by rw [mr163]; rfl) ?_
          show zGo X l 6 0 0 200 25 [(4, .null), (0, .ref 6), (1, .int a), (2, .int b), (3, .int c)] [.null] w10M _
          refine zs_astore0 (pc := 25) t200_25 (ls' := [(5, .null), (4, .null), (0, .ref 6), (1, .int a), (2, .int b), (3, .int c)]) (zml mf200 (by decide)) rfl ?_
          refine zs_aload0 (pc := 27) t200_27 rfl ?_
          refine zs_ifnullT (pc := 29) t200_29 ?_
          refine zs_ldc2_w (pc := 51) t200_51 (v := -1000000000000) (by decide) ?_
          have w39 : (zI w10M 166 10).toInt = (zI w10M 166 10).toInt := (congrArg Int32.toInt rfl).trans rfl
          have w40 : (zI w10M 242 10).toInt = (zI M 242 10).toInt := (congrArg Int32.toInt ((w10F 242 10 rfl).trans rfl)).trans rfl
          have w41 := lln1000000000000
          exact zs_lret (pc := 54) t200_54 mr200 (hQ _ _ w10s w10I ((zFr.refl).trans (w10F.mono rfl)) (by omega) (by omega) (by omega) (by omega) (fun _ => w10x0) w10x1 (zSp.fr x4 (fun j => (w10F 250 j rfl)) (w10F 242 10 rfl)))
        · refine zs_if_ltF (pc := 1) t126_1 rfl (by omega) ?_
          refine zs_iload_n (pc := 4) t126_4 rfl ?_
          refine zs_aload_n (pc := 5) t126_5 rfl ?_
          have w42 := ib165_2 w10I
          refine zs_get (pc := 6) t126_6 (by decide) (zk1 (w10s.k fk_zMc_165)) (zfvi rfl rfl) ?_
          by_cases w43 : (zI w10M 165 2).toInt ≤ b.toInt
          · refine zs_icmp_geT (pc := 9) t126_9 rfl rfl (by omega) ?_
            refine zs_aconst_null (pc := 21) t126_21 ?_
            refine zs_aret0 (pc := 22) t126_22 (by rw [mr126]; rfl) ?_
            show zGo X l 1 0 0 163 16 [(0, .ref 164), (1, .int b)] [.null] w10M _
            refine zs_goto (pc := 16) t163_16 ?_
            refine zs_aret0 (pc := 20) t163_20 (by rw [mr163]; rfl) ?_
            show zGo X l 6 0 0 200 25 [(4, .null), (0, .ref 6), (1, .int a), (2, .int b), (3, .int c)] [.null] w10M _
            refine zs_astore0 (pc := 25) t200_25 (ls' := [(5, .null), (4, .null), (0, .ref 6), (1, .int a), (2, .int b), (3, .int c)]) (zml mf200 (by decide)) rfl ?_
            refine zs_aload0 (pc := 27) t200_27 rfl ?_
            refine zs_ifnullT (pc := 29) t200_29 ?_
            refine zs_ldc2_w (pc := 51) t200_51 (v := -1000000000000) (by decide) ?_
            have w44 : (zI w10M 166 10).toInt = (zI w10M 166 10).toInt := (congrArg Int32.toInt rfl).trans rfl
            have w45 : (zI w10M 242 10).toInt = (zI M 242 10).toInt := (congrArg Int32.toInt ((w10F 242 10 rfl).trans rfl)).trans rfl
            have w46 := lln1000000000000
            exact zs_lret (pc := 54) t200_54 mr200 (hQ _ _ w10s w10I ((zFr.refl).trans (w10F.mono rfl)) (by omega) (by omega) (by omega) (by omega) (fun _ => w10x0) w10x1 (zSp.fr x4 (fun j => (w10F 250 j rfl)) (w10F 242 10 rfl)))
          · refine zs_icmp_geF (pc := 9) t126_9 rfl rfl (by omega) ?_
            refine zs_aload_n (pc := 12) t126_12 rfl ?_
            refine zs_get (pc := 13) t126_13 (by decide) (zk1 (w10s.k fk_zMc_165)) (w10s.p rfl fv_zMc_165_1) ?_
            refine zs_iload_n (pc := 16) t126_16 rfl ?_
            obtain ⟨w47n, w47⟩ : ∃ n : Nat, b.toInt = (n : Int) := ⟨(b.toInt).toNat, by omega⟩
            have w48 : w47n < 20 := by omega
            refine zs_aald (pc := 17) t126_17 (j := w47n) (Or.inr (zk1 (w10s.k fk_zMc_179))) (show b.toInt = ((w47n : Nat) : Int) by omega) (zk2 (w10s.k fk_zMc_179) (by omega)) (w10s.a (fpT181 w47n w48)) ?_
            refine zs_goto (pc := 18) t126_18 ?_
            refine zs_aret (pc := 22) t126_22 (by rw [mr126]; rfl) ?_
            show zGo X l 1 0 0 163 16 [(0, .ref 164), (1, .int b)] [.ref (181 + 3 * w47n)] w10M _
            refine zs_goto (pc := 16) t163_16 ?_
            refine zs_aret (pc := 20) t163_20 (by rw [mr163]; rfl) ?_
            show zGo X l 6 0 0 200 25 [(4, .null), (0, .ref 6), (1, .int a), (2, .int b), (3, .int c)] [.ref (181 + 3 * w47n)] w10M _
            refine zs_astore (pc := 25) t200_25 (ls' := [(5, .ref (181 + 3 * w47n)), (4, .null), (0, .ref 6), (1, .int a), (2, .int b), (3, .int c)]) (zml mf200 (by decide)) rfl ?_
            refine zs_aload0 (pc := 27) t200_27 rfl ?_
            refine zs_ifnullT (pc := 29) t200_29 ?_
            refine zs_ldc2_w (pc := 51) t200_51 (v := -1000000000000) (by decide) ?_
            have w49 : (zI w10M 166 10).toInt = (zI w10M 166 10).toInt := (congrArg Int32.toInt rfl).trans rfl
            have w50 : (zI w10M 242 10).toInt = (zI M 242 10).toInt := (congrArg Int32.toInt ((w10F 242 10 rfl).trans rfl)).trans rfl
            have w51 := lln1000000000000
            exact zs_lret (pc := 54) t200_54 mr200 (hQ _ _ w10s w10I ((zFr.refl).trans (w10F.mono rfl)) (by omega) (by omega) (by omega) (by omega) (fun _ => w10x0) w10x1 (zSp.fr x4 (fun j => (w10F 250 j rfl)) (w10F 242 10 rfl)))
    · refine zs_if_ltF (pc := 1) t126_1 rfl (by omega) ?_
      refine zs_iload_n (pc := 4) t126_4 rfl ?_
      refine zs_aload_n (pc := 5) t126_5 rfl ?_
      have w52 := ib165_2 w10I
      refine zs_get (pc := 6) t126_6 (by decide) (zk1 (w10s.k fk_zMc_165)) (zfvi rfl rfl) ?_
      by_cases w53 : (zI w10M 165 2).toInt ≤ a.toInt
      · refine zs_icmp_geT (pc := 9) t126_9 rfl rfl (by omega) ?_
        refine zs_aconst_null (pc := 21) t126_21 ?_
        refine zs_aret0 (pc := 22) t126_22 (by rw [mr126]; rfl) ?_
        show zGo X l 1 0 0 163 16 [(0, .ref 164), (1, .int a)] [.null] w10M _
        refine zs_goto (pc := 16) t163_16 ?_
        refine zs_aret0 (pc := 20) t163_20 (by rw [mr163]; rfl) ?_
        show zGo X l 6 0 0 200 15 [(0, .ref 6), (1, .int a), (2, .int b), (3, .int c)] [.null] w10M _
        refine zs_astore0 (pc := 15) t200_15 (ls' := [(4, .null), (0, .ref 6), (1, .int a), (2, .int b), (3, .int c)]) (zml mf200 (by decide)) rfl ?_
        refine zs_aload_n (pc := 17) t200_17 rfl ?_
        refine zs_get (pc := 18) t200_18 (by decide) (zk1 (w10s.k fk_zMc_6)) (w10s.p rfl fv_zMc_6_6) ?_
        refine zs_iload_n (pc := 21) t200_21 rfl ?_
        refine zs_invV (pc := 22) (k := 164) (as' := [.int b]) (st := []) t200_22 mf163 rfl rfl (Or.inl ⟨by decide, (zk1 (w10s.k fk_zMc_164))⟩) ⟨by decide, by decide, Nat.le_of_ble_eq_true rfl, Nat.le_of_ble_eq_true rfl⟩ (zs_in (by decide) mf163 (Nat.le_of_ble_eq_true rfl) ?_) (fun _ _ q => q)
        show zGo X l 1 0 0 163 0 [(0, .ref 164), (1, .int b)] [] w10M _
        refine zs_iload_n (pc := 0) t163_0 rfl ?_
        refine zs_aload_n (pc := 1) t163_1 rfl ?_
        refine zs_get (pc := 2) t163_2 (by decide) (zk1 (w10s.k fk_zMc_164)) (zfvi rfl rfl) ?_
        by_cases w54 : (zI w10M 164 4).toInt ≤ b.toInt
        · refine zs_icmp_geT (pc := 5) t163_5 rfl rfl (by omega) ?_
          refine zs_aconst_null (pc := 19) t163_19 ?_
          refine zs_aret0 (pc := 20) t163_20 (by rw [mr163]; rfl) ?_
          show zGo X l 6 0 0 200 25 [(4, .null), (0, .ref 6), (1, .int a), (2, .int b), (3, .int c)] [.null] w10M _
          refine zs_astore0 (pc := 25) t200_25 (ls' := [(5, .null), (4, .null), (0, .ref 6), (1, .int a), (2, .int b), (3, .int c)]) (zml mf200 (by decide)) rfl ?_
          refine zs_aload0 (pc := 27) t200_27 rfl ?_
          refine zs_ifnullT (pc := 29) t200_29 ?_
          refine zs_ldc2_w (pc := 51) t200_51 (v := -1000000000000) (by decide) ?_
          have w55 : (zI w10M 166 10).toInt = (zI w10M 166 10).toInt := (congrArg Int32.toInt rfl).trans rfl
          have w56 : (zI w10M 242 10).toInt = (zI M 242 10).toInt := (congrArg Int32.toInt ((w10F 242 10 rfl).trans rfl)).trans rfl
          have w57 := lln1000000000000
          exact zs_lret (pc := 54) t200_54 mr200 (hQ _ _ w10s w10I ((zFr.refl).trans (w10F.mono rfl)) (by omega) (by omega) (by omega) (by omega) (fun _ => w10x0) w10x1 (zSp.fr x4 (fun j => (w10F 250 j rfl)) (w10F 242 10 rfl)))
        · refine zs_icmp_geF (pc := 5) t163_5 rfl rfl (by omega) ?_
          refine zs_aload_n (pc := 8) t163_8 rfl ?_
          refine zs_get (pc := 9) t163_9 (by decide) (zk1 (w10s.k fk_zMc_164)) (w10s.p rfl fv_zMc_164_1) ?_
          refine zs_iload_n (pc := 12) t163_12 rfl ?_
          refine zs_invV (pc := 13) (k := 165) (as' := [.int b]) (st := []) t163_13 mf126 rfl rfl (Or.inl ⟨by decide, (zk1 (w10s.k fk_zMc_165))⟩) ⟨by decide, by decide, Nat.le_of_ble_eq_true rfl, Nat.le_of_ble_eq_true rfl⟩ (zs_in (by decide) mf126 (Nat.le_of_ble_eq_true rfl) ?_) (fun _ _ q => q)
          show zGo X l 0 0 0 126 0 [(0, .ref 165), (1, .int b)] [] w10M _
          refine zs_iload_n (pc := 0) t126_0 rfl ?_
          by_cases w58 : b.toInt < 0
          · refine zs_if_ltT (pc := 1) t126_1 rfl (by omega) ?_
            refine zs_aconst_null (pc := 21) t126_21 ?_
            refine zs_aret0 (pc := 22) t126_22 (by rw [mr126]; rfl) ?_
            show zGo X l 1 0 0 163 16 [(0, .ref 164), (1, .int b)] [.null] w10M _
            refine zs_goto (pc := 16) t163_16 ?_
            refine zs_aret0 (pc := 20) t163_20 (by rw [mr163]; rfl) ?_
            show zGo X l 6 0 0 200 25 [(4, .null), (0, .ref 6), (1, .int a), (2, .int b), (3, .int c)] [.null] w10M _
            refine zs_astore0 (pc := 25) t200_25 (ls' := [(5, .null), (4, .null), (0, .ref 6), (1, .int a), (2, .int b), (3, .int c)]) (zml mf200 (by decide)) rfl ?_
            refine zs_aload0 (pc := 27) t200_27 rfl ?_
            refine zs_ifnullT (pc := 29) t200_29 ?_
            refine zs_ldc2_w (pc := 51) t200_51 (v := -1000000000000) (by decide) ?_
            have w59 : (zI w10M 166 10).toInt = (zI w10M 166 10).toInt := (congrArg Int32.toInt rfl).trans rfl
            have w60 : (zI w10M 242 10).toInt = (zI M 242 10).toInt := (congrArg Int32.toInt ((w10F 242 10 rfl).trans rfl)).trans rfl
            have w61 := lln1000000000000
            exact zs_lret (pc := 54) t200_54 mr200 (hQ _ _ w10s w10I ((zFr.refl).trans (w10F.mono rfl)) (by omega) (by omega) (by omega) (by omega) (fun _ => w10x0) w10x1 (zSp.fr x4 (fun j => (w10F 250 j rfl)) (w10F 242 10 rfl)))
          · refine zs_if_ltF (pc := 1) t126_1 rfl (by omega) ?_
            refine zs_iload_n (pc := 4) t126_4 rfl ?_
            refine zs_aload_n (pc := 5) t126_5 rfl ?_
            refine zs_get (pc := 6) t126_6 (by decide) (zk1 (w10s.k fk_zMc_165)) (zfvi rfl rfl) ?_
            by_cases w62 : (zI w10M 165 2).toInt ≤ b.toInt
            · refine zs_icmp_geT (pc := 9) t126_9 rfl rfl (by omega) ?_
              refine zs_aconst_null (pc := 21) t126_21 ?_
              refine zs_aret0 (pc := 22) t126_22 (by rw [mr126]; rfl) ?_
              show zGo X l 1 0 0 163 16 [(0, .ref 164), (1, .int b)] [.null] w10M _
              refine zs_goto (pc := 16) t163_16 ?_
              refine zs_aret0 (pc := 20) t163_20 (by rw [mr163]; rfl) ?_
              show zGo X l 6 0 0 200 25 [(4, .null), (0, .ref 6), (1, .int a), (2, .int b), (3, .int c)] [.null] w10M _
              refine zs_astore0 (pc := 25) t200_25 (ls' := [(5, .null), (4, .null), (0, .ref 6), (1, .int a), (2, .int b), (3, .int c)]) (zml mf200 (by decide)) rfl ?_
              refine zs_aload0 (pc := 27) t200_27 rfl ?_
              refine zs_ifnullT (pc := 29) t200_29 ?_
              refine zs_ldc2_w (pc := 51) t200_51 (v := -1000000000000) (by decide) ?_
              have w63 : (zI w10M 166 10).toInt = (zI w10M 166 10).toInt := (congrArg Int32.toInt rfl).trans rfl
              have w64 : (zI w10M 242 10).toInt = (zI M 242 10).toInt := (congrArg Int32.toInt ((w10F 242 10 rfl).trans rfl)).trans rfl
              have w65 := lln1000000000000
              exact zs_lret (pc := 54) t200_54 mr200 (hQ _ _ w10s w10I ((zFr.refl).trans (w10F.mono rfl)) (by omega) (by omega) (by omega) (by omega) (fun _ => w10x0) w10x1 (zSp.fr x4 (fun j => (w10F 250 j rfl)) (w10F 242 10 rfl)))
            · refine zs_icmp_geF (pc := 9) t126_9 rfl rfl (by omega) ?_
              refine zs_aload_n (pc := 12) t126_12 rfl ?_
              refine zs_get (pc := 13) t126_13 (by decide) (zk1 (w10s.k fk_zMc_165)) (w10s.p rfl fv_zMc_165_1) ?_
              refine zs_iload_n (pc := 16) t126_16 rfl ?_
              obtain ⟨w66n, w66⟩ : ∃ n : Nat, b.toInt = (n : Int) := ⟨(b.toInt).toNat, by omega⟩
              have w67 : w66n < 20 := by omega
              refine zs_aald (pc := 17) t126_17 (j := w66n) (Or.inr (zk1 (w10s.k fk_zMc_179))) (show b.toInt = ((w66n : Nat) : Int) by omega) (zk2 (w10s.k fk_zMc_179) (by omega)) (w10s.a (fpT181 w66n w67)) ?_
              refine zs_goto (pc := 18) t126_18 ?_
              refine zs_aret (pc := 22) t126_22 (by rw [mr126]; rfl) ?_
              show zGo X l 1 0 0 163 16 [(0, .ref 164), (1, .int b)] [.ref (181 + 3 * w66n)] w10M _
              refine zs_goto (pc := 16) t163_16 ?_
              refine zs_aret (pc := 20) t163_20 (by rw [mr163]; rfl) ?_
              show zGo X l 6 0 0 200 25 [(4, .null), (0, .ref 6), (1, .int a), (2, .int b), (3, .int c)] [.ref (181 + 3 * w66n)] w10M _
              refine zs_astore (pc := 25) t200_25 (ls' := [(5, .ref (181 + 3 * w66n)), (4, .null), (0, .ref 6), (1, .int a), (2, .int b), (3, .int c)]) (zml mf200 (by decide)) rfl ?_
              refine zs_aload0 (pc := 27) t200_27 rfl ?_
              refine zs_ifnullT (pc := 29) t200_29 ?_
              refine zs_ldc2_w (pc := 51) t200_51 (v := -1000000000000) (by decide) ?_
              have w68 : (zI w10M 166 10).toInt = (zI w10M 166 10).toInt := (congrArg Int32.toInt rfl).trans rfl
              have w69 : (zI w10M 242 10).toInt = (zI M 242 10).toInt := (congrArg Int32.toInt ((w10F 242 10 rfl).trans rfl)).trans rfl
              have w70 := lln1000000000000
              exact zs_lret (pc := 54) t200_54 mr200 (hQ _ _ w10s w10I ((zFr.refl).trans (w10F.mono rfl)) (by omega) (by omega) (by omega) (by omega) (fun _ => w10x0) w10x1 (zSp.fr x4 (fun j => (w10F 250 j rfl)) (w10F 242 10 rfl)))
      · refine zs_icmp_geF (pc := 9) t126_9 rfl rfl (by omega) ?_
        refine zs_aload_n (pc := 12) t126_12 rfl ?_
        refine zs_get (pc := 13) t126_13 (by decide) (zk1 (w10s.k fk_zMc_165)) (w10s.p rfl fv_zMc_165_1) ?_
        refine zs_iload_n (pc := 16) t126_16 rfl ?_
        obtain ⟨w71n, w71⟩ : ∃ n : Nat, a.toInt = (n : Int) := ⟨(a.toInt).toNat, by omega⟩
        have w72 : w71n < 20 := by omega
        refine zs_aald (pc := 17) t126_17 (j := w71n) (Or.inr (zk1 (w10s.k fk_zMc_179))) (show a.toInt = ((w71n : Nat) : Int) by omega) (zk2 (w10s.k fk_zMc_179) (by omega)) (w10s.a (fpT181 w71n w72)) ?_
        refine zs_goto (pc := 18) t126_18 ?_
        refine zs_aret (pc := 22) t126_22 (by rw [mr126]; rfl) ?_
        show zGo X l 1 0 0 163 16 [(0, .ref 164), (1, .int a)] [.ref (181 + 3 * w71n)] w10M _
        refine zs_goto (pc := 16) t163_16 ?_
        refine zs_aret (pc := 20) t163_20 (by rw [mr163]; rfl) ?_
        show zGo X l 6 0 0 200 15 [(0, .ref 6), (1, .int a), (2, .int b), (3, .int c)] [.ref (181 + 3 * w71n)] w10M _
        refine zs_astore (pc := 15) t200_15 (ls' := [(4, .ref (181 + 3 * w71n)), (0, .ref 6), (1, .int a), (2, .int b), (3, .int c)]) (zml mf200 (by decide)) rfl ?_
        refine zs_aload_n (pc := 17) t200_17 rfl ?_
        refine zs_get (pc := 18) t200_18 (by decide) (zk1 (w10s.k fk_zMc_6)) (w10s.p rfl fv_zMc_6_6) ?_
        refine zs_iload_n (pc := 21) t200_21 rfl ?_
        refine zs_invV (pc := 22) (k := 164) (as' := [.int b]) (st := []) t200_22 mf163 rfl rfl (Or.inl ⟨by decide, (zk1 (w10s.k fk_zMc_164))⟩) ⟨by decide, by decide, Nat.le_of_ble_eq_true rfl, Nat.le_of_ble_eq_true rfl⟩ (zs_in (by decide) mf163 (Nat.le_of_ble_eq_true rfl) ?_) (fun _ _ q => q)
        show zGo X l 1 0 0 163 0 [(0, .ref 164), (1, .int b)] [] w10M _
        refine zs_iload_n (pc := 0) t163_0 rfl ?_
        refine zs_aload_n (pc := 1) t163_1 rfl ?_
        refine zs_get (pc := 2) t163_2 (by decide) (zk1 (w10s.k fk_zMc_164)) (zfvi rfl rfl) ?_
        by_cases w73 : (zI w10M 164 4).toInt ≤ b.toInt
        · refine zs_icmp_geT (pc := 5) t163_5 rfl rfl (by omega) ?_
          refine zs_aconst_null (pc := 19) t163_19 ?_
          refine zs_aret0 (pc := 20) t163_20 (by rw [mr163]; rfl) ?_
          show zGo X l 6 0 0 200 25 [(4, .ref (181 + 3 * w71n)), (0, .ref 6), (1, .int a), (2, .int b), (3, .int c)] [.null] w10M _
          refine zs_astore0 (pc := 25) t200_25 (ls' := [(5, .null), (4, .ref (181 + 3 * w71n)), (0, .ref 6), (1, .int a), (2, .int b), (3, .int c)]) (zml mf200 (by decide)) rfl ?_
          refine zs_aload (pc := 27) t200_27 rfl ?_
          refine zs_ifnullF (pc := 29) t200_29 ?_
          refine zs_aload0 (pc := 32) t200_32 rfl ?_
          refine zs_ifnullT (pc := 34) t200_34 ?_
          refine zs_ldc2_w (pc := 51) t200_51 (v := -1000000000000) (by decide) ?_
          have w74 : (zI w10M 166 10).toInt = (zI w10M 166 10).toInt := (congrArg Int32.toInt rfl).trans rfl
          have w75 : (zI w10M 242 10).toInt = (zI M 242 10).toInt := (congrArg Int32.toInt ((w10F 242 10 rfl).trans rfl)).trans rfl
          have w76 := lln1000000000000
          exact zs_lret (pc := 54) t200_54 mr200 (hQ _ _ w10s w10I ((zFr.refl).trans (w10F.mono rfl)) (by omega) (by omega) (by omega) (by omega) (fun _ => w10x0) w10x1 (zSp.fr x4 (fun j => (w10F 250 j rfl)) (w10F 242 10 rfl)))
        · refine zs_icmp_geF (pc := 5) t163_5 rfl rfl (by omega) ?_
          refine zs_aload_n (pc := 8) t163_8 rfl ?_
          refine zs_get (pc := 9) t163_9 (by decide) (zk1 (w10s.k fk_zMc_164)) (w10s.p rfl fv_zMc_164_1) ?_
          refine zs_iload_n (pc := 12) t163_12 rfl ?_
          refine zs_invV (pc := 13) (k := 165) (as' := [.int b]) (st := []) t163_13 mf126 rfl rfl (Or.inl ⟨by decide, (zk1 (w10s.k fk_zMc_165))⟩) ⟨by decide, by decide, Nat.le_of_ble_eq_true rfl, Nat.le_of_ble_eq_true rfl⟩ (zs_in (by decide) mf126 (Nat.le_of_ble_eq_true rfl) ?_) (fun _ _ q => q)
          show zGo X l 0 0 0 126 0 [(0, .ref 165), (1, .int b)] [] w10M _
          refine zs_iload_n (pc := 0) t126_0 rfl ?_
          by_cases w77 : b.toInt < 0
          · refine zs_if_ltT (pc := 1) t126_1 rfl (by omega) ?_
            refine zs_aconst_null (pc := 21) t126_21 ?_
            refine zs_aret0 (pc := 22) t126_22 (by rw [mr126]; rfl) ?_
            show zGo X l 1 0 0 163 16 [(0, .ref 164), (1, .int b)] [.null] w10M _
            refine zs_goto (pc := 16) t163_16 ?_
            refine zs_aret0 (pc := 20) t163_20 (by rw [mr163]; rfl) ?_
            show zGo X l 6 0 0 200 25 [(4, .ref (181 + 3 * w71n)), (0, .ref 6), (1, .int a), (2, .int b), (3, .int c)] [.null] w10M _
            refine zs_astore0 (pc := 25) t200_25 (ls' := [(5, .null), (4, .ref (181 + 3 * w71n)), (0, .ref 6), (1, .int a), (2, .int b), (3, .int c)]) (zml mf200 (by decide)) rfl ?_
            refine zs_aload (pc := 27) t200_27 rfl ?_
            refine zs_ifnullF (pc := 29) t200_29 ?_
            refine zs_aload0 (pc := 32) t200_32 rfl ?_
            refine zs_ifnullT (pc := 34) t200_34 ?_
            refine zs_ldc2_w (pc := 51) t200_51 (v := -1000000000000) (by decide) ?_
            have w78 : (zI w10M 166 10).toInt = (zI w10M 166 10).toInt := (congrArg Int32.toInt rfl).trans rfl
            have w79 : (zI w10M 242 10).toInt = (zI M 242 10).toInt := (congrArg Int32.toInt ((w10F 242 10 rfl).trans rfl)).trans rfl
            have w80 := lln1000000000000
            exact zs_lret (pc := 54) t200_54 mr200 (hQ _ _ w10s w10I ((zFr.refl).trans (w10F.mono rfl)) (by omega) (by omega) (by omega) (by omega) (fun _ => w10x0) w10x1 (zSp.fr x4 (fun j => (w10F 250 j rfl)) (w10F 242 10 rfl)))
          · refine zs_if_ltF (pc := 1) t126_1 rfl (by omega) ?_
            refine zs_iload_n (pc := 4) t126_4 rfl ?_
            refine zs_aload_n (pc := 5) t126_5 rfl ?_
            refine zs_get (pc := 6) t126_6 (by decide) (zk1 (w10s.k fk_zMc_165)) (zfvi rfl rfl) ?_
            by_cases w81 : (zI w10M 165 2).toInt ≤ b.toInt
            · refine zs_icmp_geT (pc := 9) t126_9 rfl rfl (by omega) ?_
              refine zs_aconst_null (pc := 21) t126_21 ?_
              refine zs_aret0 (pc := 22) t126_22 (by rw [mr126]; rfl) ?_
              show zGo X l 1 0 0 163 16 [(0, .ref 164), (1, .int b)] [.null] w10M _
              refine zs_goto (pc := 16) t163_16 ?_
              refine zs_aret0 (pc := 20) t163_20 (by rw [mr163]; rfl) ?_
              show zGo X l 6 0 0 200 25 [(4, .ref (181 + 3 * w71n)), (0, .ref 6), (1, .int a), (2, .int b), (3, .int c)] [.null] w10M _
              refine zs_astore0 (pc := 25) t200_25 (ls' := [(5, .null), (4, .ref (181 + 3 * w71n)), (0, .ref 6), (1, .int a), (2, .int b), (3, .int c)]) (zml mf200 (by decide)) rfl ?_
              refine zs_aload (pc := 27) t200_27 rfl ?_
              refine zs_ifnullF (pc := 29) t200_29 ?_
              refine zs_aload0 (pc := 32) t200_32 rfl ?_
              refine zs_ifnullT (pc := 34) t200_34 ?_
              refine zs_ldc2_w (pc := 51) t200_51 (v := -1000000000000) (by decide) ?_
              have w82 : (zI w10M 166 10).toInt = (zI w10M 166 10).toInt := (congrArg Int32.toInt rfl).trans rfl
              have w83 : (zI w10M 242 10).toInt = (zI M 242 10).toInt := (congrArg Int32.toInt ((w10F 242 10 rfl).trans rfl)).trans rfl
              have w84 := lln1000000000000
              exact zs_lret (pc := 54) t200_54 mr200 (hQ _ _ w10s w10I ((zFr.refl).trans (w10F.mono rfl)) (by omega) (by omega) (by omega) (by omega) (fun _ => w10x0) w10x1 (zSp.fr x4 (fun j => (w10F 250 j rfl)) (w10F 242 10 rfl)))
            · refine zs_icmp_geF (pc := 9) t126_9 rfl rfl (by omega) ?_
              refine zs_aload_n (pc := 12) t126_12 rfl ?_
              refine zs_get (pc := 13) t126_13 (by decide) (zk1 (w10s.k fk_zMc_165)) (w10s.p rfl fv_zMc_165_1) ?_
              refine zs_iload_n (pc := 16) t126_16 rfl ?_
              obtain ⟨w85n, w85⟩ : ∃ n : Nat, b.toInt = (n : Int) := ⟨(b.toInt).toNat, by omega⟩
              have w86 : w85n < 20 := by omega
              refine zs_aald (pc := 17) t126_17 (j := w85n) (Or.inr (zk1 (w10s.k fk_zMc_179))) (show b.toInt = ((w85n : Nat) : Int) by omega) (zk2 (w10s.k fk_zMc_179) (by omega)) (w10s.a (fpT181 w85n w86)) ?_
              refine zs_goto (pc := 18) t126_18 ?_
              refine zs_aret (pc := 22) t126_22 (by rw [mr126]; rfl) ?_
              show zGo X l 1 0 0 163 16 [(0, .ref 164), (1, .int b)] [.ref (181 + 3 * w85n)] w10M _
              refine zs_goto (pc := 16) t163_16 ?_
              refine zs_aret (pc := 20) t163_20 (by rw [mr163]; rfl) ?_
              show zGo X l 6 0 0 200 25 [(4, .ref (181 + 3 * w71n)), (0, .ref 6), (1, .int a), (2, .int b), (3, .int c)] [.ref (181 + 3 * w85n)] w10M _
              refine zs_astore (pc := 25) t200_25 (ls' := [(5, .ref (181 + 3 * w85n)), (4, .ref (181 + 3 * w71n)), (0, .ref 6), (1, .int a), (2, .int b), (3, .int c)]) (zml mf200 (by decide)) rfl ?_
              refine zs_aload (pc := 27) t200_27 rfl ?_
              refine zs_ifnullF (pc := 29) t200_29 ?_
              refine zs_aload (pc := 32) t200_32 rfl ?_
              refine zs_ifnullF (pc := 34) t200_34 ?_
              refine zs_iload_n (pc := 37) t200_37 rfl ?_
              refine zs_iload_n (pc := 38) t200_38 rfl ?_
              by_cases w87 : a.toInt = b.toInt
              · refine zs_icmp_eqT (pc := 39) t200_39 rfl rfl (by omega) ?_
                refine zs_ldc2_w (pc := 51) t200_51 (v := -1000000000000) (by decide) ?_
                have w88 : (zI w10M 166 10).toInt = (zI w10M 166 10).toInt := (congrArg Int32.toInt rfl).trans rfl
                have w89 : (zI w10M 242 10).toInt = (zI M 242 10).toInt := (congrArg Int32.toInt ((w10F 242 10 rfl).trans rfl)).trans rfl
                have w90 := lln1000000000000
                exact zs_lret (pc := 54) t200_54 mr200 (hQ _ _ w10s w10I ((zFr.refl).trans (w10F.mono rfl)) (by omega) (by omega) (by omega) (by omega) (fun _ => w10x0) w10x1 (zSp.fr x4 (fun j => (w10F 250 j rfl)) (w10F 242 10 rfl)))
              · refine zs_icmp_eqF (pc := 39) t200_39 rfl rfl (by omega) ?_
                refine zs_iload_n (pc := 42) t200_42 rfl ?_
                refine zs_iconst (pc := 43) t200_43 (v := 0) (by decide) ?_
                refine zs_iconst (pc := 44) t200_44 (v := 1) (by decide) ?_
                refine zs_invS (pc := 45) (as := [.int c, .int (0 : Int32), .int (1 : Int32)]) (st := []) t200_45 (by decide) mf39 rfl rfl ⟨by decide, by decide, Nat.le_of_ble_eq_true rfl, Nat.le_of_ble_eq_true rfl⟩ (zs_in (by decide) mf39 (Nat.le_of_ble_eq_true rfl) ?_) (fun _ _ q => q)
                show zGo X l 0 0 0 39 0 [(0, .int c), (1, .int (0 : Int32)), (2, .int (1 : Int32))] [] w10M _
                refine zs_iload_n (pc := 0) t39_0 rfl ?_
                refine zs_iload_n (pc := 1) t39_1 rfl ?_
                by_cases w91 : c.toInt < 0
                · refine zs_icmp_ltT (pc := 2) t39_2 rfl li0 (by omega) ?_
                  refine zs_iconst (pc := 14) t39_14 (v := 0) (by decide) ?_
                  refine zs_iret (pc := 15) t39_15 mr39 (by decide) ?_
                  show zGo X l 6 0 0 200 48 [(5, .ref (181 + 3 * w85n)), (4, .ref (181 + 3 * w71n)), (0, .ref 6), (1, .int a), (2, .int b), (3, .int c)] [.int (0 : Int32)] w10M _
                  refine zs_if_neF (pc := 48) t200_48 li0 (by decide) ?_
                  refine zs_ldc2_w (pc := 51) t200_51 (v := -1000000000000) (by decide) ?_
                  have w92 : (zI w10M 166 10).toInt = (zI w10M 166 10).toInt := (congrArg Int32.toInt rfl).trans rfl
                  have w93 : (zI w10M 242 10).toInt = (zI M 242 10).toInt := (congrArg Int32.toInt ((w10F 242 10 rfl).trans rfl)).trans rfl
                  have w94 := lln1000000000000
                  exact zs_lret (pc := 54) t200_54 mr200 (hQ _ _ w10s w10I ((zFr.refl).trans (w10F.mono rfl)) (by omega) (by omega) (by omega) (by omega) (fun _ => w10x0) w10x1 (zSp.fr x4 (fun j => (w10F 250 j rfl)) (w10F 242 10 rfl)))
                · refine zs_icmp_ltF (pc := 2) t39_2 rfl li0 (by omega) ?_
                  refine zs_iload_n (pc := 5) t39_5 rfl ?_
                  refine zs_iload_n (pc := 6) t39_6 rfl ?_
                  by_cases w95 : 1 < c.toInt
                  · refine zs_icmp_gtT (pc := 7) t39_7 rfl li1 (by omega) ?_
                    refine zs_iconst (pc := 14) t39_14 (v := 0) (by decide) ?_
                    refine zs_iret (pc := 15) t39_15 mr39 (by decide) ?_
                    show zGo X l 6 0 0 200 48 [(5, .ref (181 + 3 * w85n)), (4, .ref (181 + 3 * w71n)), (0, .ref 6), (1, .int a), (2, .int b), (3, .int c)] [.int (0 : Int32)] w10M _
                    refine zs_if_neF (pc := 48) t200_48 li0 (by decide) ?_
                    refine zs_ldc2_w (pc := 51) t200_51 (v := -1000000000000) (by decide) ?_
                    have w96 : (zI w10M 166 10).toInt = (zI w10M 166 10).toInt := (congrArg Int32.toInt rfl).trans rfl
                    have w97 : (zI w10M 242 10).toInt = (zI M 242 10).toInt := (congrArg Int32.toInt ((w10F 242 10 rfl).trans rfl)).trans rfl
                    have w98 := lln1000000000000
                    exact zs_lret (pc := 54) t200_54 mr200 (hQ _ _ w10s w10I ((zFr.refl).trans (w10F.mono rfl)) (by omega) (by omega) (by omega) (by omega) (fun _ => w10x0) w10x1 (zSp.fr x4 (fun j => (w10F 250 j rfl)) (w10F 242 10 rfl)))
                  · refine zs_icmp_gtF (pc := 7) t39_7 rfl li1 (by omega) ?_
                    refine zs_iconst (pc := 10) t39_10 (v := 1) (by decide) ?_
                    refine zs_goto (pc := 11) t39_11 ?_
                    refine zs_iret (pc := 15) t39_15 mr39 (by decide) ?_
                    show zGo X l 6 0 0 200 48 [(5, .ref (181 + 3 * w85n)), (4, .ref (181 + 3 * w71n)), (0, .ref 6), (1, .int a), (2, .int b), (3, .int c)] [.int (1 : Int32)] w10M _
                    refine zs_if_neT (pc := 48) t200_48 li1 (by decide) ?_
                    refine zs_lconst (pc := 55) t200_55 (v := 1) (by decide) ?_
                    refine zs_aload (pc := 56) t200_56 rfl ?_
                    have w99 := zrg64 (zJ w10M (181 + 3 * w71n) 8)
                    refine zs_get (pc := 58) t200_58 (by decide) (zk1 (w10s.k (fT181_0 w71n w72))) (zfvj rfl) ?_
                    refine zs_aload (pc := 61) t200_61 rfl ?_
                    have w100 := zrg64 (zJ w10M (181 + 3 * w85n) 8)
                    refine zs_get (pc := 63) t200_63 (by decide) (zk1 (w10s.k (fT181_0 w85n w86))) (zfvj rfl) ?_
                    refine zs_invS (pc := 66) (as := [.long (zJ w10M (181 + 3 * w71n) 8), .long (zJ w10M (181 + 3 * w85n) 8)]) (st := [.long (1 : Int64)]) t200_66 (by decide) mf175 rfl rfl ⟨by decide, by decide, Nat.le_of_ble_eq_true rfl, Nat.le_of_ble_eq_true rfl⟩ (C175 w10s w10I ?_) (fun _ _ q => q)
                    intro w101v w101a w101b
                    show zGo X l 6 0 0 200 69 [(5, .ref (181 + 3 * w85n)), (4, .ref (181 + 3 * w71n)), (0, .ref 6), (1, .int a), (2, .int b), (3, .int c)] [.long w101v, .long (1 : Int64)] w10M _
                    have w102 : (1 : Int64).toInt = 1 := ll1
                    refine zs_invS (pc := 69) (as := [.long (1 : Int64), .long w101v]) (st := []) t200_69 (by decide) mf134 rfl rfl ⟨by decide, by decide, Nat.le_of_ble_eq_true rfl, Nat.le_of_ble_eq_true rfl⟩ (V134 w10s w10I ?_) (fun _ _ q => q)
                    intro w103v w103x0
                    have w103g := zrg64 w103v
                    have w103g1 : 1 ≤ w103v.toInt := by rw [w103x0]; exact mxL.ge
                    show zGo X l 6 0 0 200 72 [(5, .ref (181 + 3 * w85n)), (4, .ref (181 + 3 * w71n)), (0, .ref 6), (1, .int a), (2, .int b), (3, .int c)] [.long w103v] w10M _
                    refine zs_lstore (pc := 72) t200_72 (ls' := [(6, .long w103v), (5, .ref (181 + 3 * w85n)), (4, .ref (181 + 3 * w71n)), (0, .ref 6), (1, .int a), (2, .int b), (3, .int c)]) (zml mf200 (by decide)) rfl ?_
                    refine zs_aload (pc := 74) t200_74 rfl ?_
                    have w104 := zrg64 (zJ w10M (181 + 3 * w71n) 8)
                    refine zs_get (pc := 76) t200_76 (by decide) (zk1 (w10s.k (fT181_0 w71n w72))) (zfvj rfl) ?_
                    refine zs_lload (pc := 79) t200_79 rfl ?_
                    obtain ⟨w105v, w105⟩ : ∃ v, (zJ w10M (181 + 3 * w71n) 8) / w103v = v := ⟨_, rfl⟩
                    have w105g := zrg64 w105v
                    refine zs_ldiv (pc := 81) t200_81 (znz64 rfl (by omega)) (c := w105v) w105 ?_
                    refine zs_lstore (pc := 82) t200_82 (ls' := [(8, .long w105v), (6, .long w103v), (5, .ref (181 + 3 * w85n)), (4, .ref (181 + 3 * w71n)), (0, .ref 6), (1, .int a), (2, .int b), (3, .int c)]) (zml mf200 (by decide)) rfl ?_
                    refine zs_aload (pc := 84) t200_84 rfl ?_
                    have w106 := zrg64 (zJ w10M (181 + 3 * w85n) 8)
                    refine zs_get (pc := 86) t200_86 (by decide) (zk1 (w10s.k (fT181_0 w85n w86))) (zfvj rfl) ?_
                    refine zs_lload (pc := 89) t200_89 rfl ?_
                    obtain ⟨w107v, w107⟩ : ∃ v, (zJ w10M (181 + 3 * w85n) 8) / w103v = v := ⟨_, rfl⟩
                    have w107g := zrg64 w107v
                    refine zs_ldiv (pc := 91) t200_91 (znz64 rfl (by omega)) (c := w107v) w107 ?_
                    refine zs_lstore (pc := 92) t200_92 (ls' := [(10, .long w107v), (8, .long w105v), (6, .long w103v), (5, .ref (181 + 3 * w85n)), (4, .ref (181 + 3 * w71n)), (0, .ref 6), (1, .int a), (2, .int b), (3, .int c)]) (zml mf200 (by decide)) rfl ?_
                    refine zs_aload (pc := 94) t200_94 rfl ?_
                    have w108 := zrg64 (zJ w10M (181 + 3 * w71n) 10)
                    refine zs_get (pc := 96) t200_96 (by decide) (zk1 (w10s.k (fT181_0 w71n w72))) (zfvj rfl) ?_
                    refine zs_lload (pc := 99) t200_99 rfl ?_
                    obtain ⟨w109v, w109⟩ : ∃ v, (zJ w10M (181 + 3 * w71n) 10) * w107v = v := ⟨_, rfl⟩
                    have w109g := zrg64 w109v
                    refine zs_lmul (pc := 101) t200_101 (c := w109v) w109 ?_
                    refine zs_aload (pc := 102) t200_102 rfl ?_
                    have w110 := zrg64 (zJ w10M (181 + 3 * w85n) 10)
                    refine zs_get (pc := 104) t200_104 (by decide) (zk1 (w10s.k (fT181_0 w85n w86))) (zfvj rfl) ?_
                    refine zs_lload (pc := 107) t200_107 rfl ?_
                    obtain ⟨w111v, w111⟩ : ∃ v, (zJ w10M (181 + 3 * w85n) 10) * w105v = v := ⟨_, rfl⟩
                    have w111g := zrg64 w111v
                    refine zs_lmul (pc := 109) t200_109 (c := w111v) w111 ?_
                    obtain ⟨w112v, w112⟩ : ∃ v, w109v - w111v = v := ⟨_, rfl⟩
                    have w112g := zrg64 w112v
                    refine zs_lsub (pc := 110) t200_110 (c := w112v) w112 ?_
                    refine zs_lstore (pc := 111) t200_111 (ls' := [(12, .long w112v), (10, .long w107v), (8, .long w105v), (6, .long w103v), (5, .ref (181 + 3 * w85n)), (4, .ref (181 + 3 * w71n)), (0, .ref 6), (1, .int a), (2, .int b), (3, .int c)]) (zml mf200 (by decide)) rfl ?_
                    refine zs_lload (pc := 113) t200_113 rfl ?_
                    refine zs_lconst (pc := 115) t200_115 (v := 0) (by decide) ?_
                    by_cases w113 : w112v.toInt < 0
                    · refine zs_lcmp (pc := 116) t200_116 (c := -1) (zlcL rfl ll0 (by omega)) ?_
                      refine zs_if_neT (pc := 117) t200_117 lin1 (by decide) ?_
                      refine zs_aload (pc := 124) t200_124 rfl ?_
                      have w114 := zrg64 (zJ w10M (181 + 3 * w85n) 9)
                      refine zs_get (pc := 126) t200_126 (by decide) (zk1 (w10s.k (fT181_0 w85n w86))) (zfvj rfl) ?_
                      refine zs_lload (pc := 129) t200_129 rfl ?_
                      obtain ⟨w115v, w115⟩ : ∃ v, (zJ w10M (181 + 3 * w85n) 9) * w105v = v := ⟨_, rfl⟩
                      have w115g := zrg64 w115v
                      refine zs_lmul (pc := 131) t200_131 (c := w115v) w115 ?_
                      refine zs_aload (pc := 132) t200_132 rfl ?_
                      have w116 := zrg64 (zJ w10M (181 + 3 * w71n) 9)
                      refine zs_get (pc := 134) t200_134 (by decide) (zk1 (w10s.k (fT181_0 w71n w72))) (zfvj rfl) ?_
                      refine zs_lload (pc := 137) t200_137 rfl ?_
                      obtain ⟨w117v, w117⟩ : ∃ v, (zJ w10M (181 + 3 * w71n) 9) * w107v = v := ⟨_, rfl⟩
                      have w117g := zrg64 w117v
                      refine zs_lmul (pc := 139) t200_139 (c := w117v) w117 ?_
                      obtain ⟨w118v, w118⟩ : ∃ v, w115v - w117v = v := ⟨_, rfl⟩
                      have w118g := zrg64 w118v
                      refine zs_lsub (pc := 140) t200_140 (c := w118v) w118 ?_
                      refine zs_lstore (pc := 141) t200_141 (ls' := [(14, .long w118v), (12, .long w112v), (10, .long w107v), (8, .long w105v), (6, .long w103v), (5, .ref (181 + 3 * w85n)), (4, .ref (181 + 3 * w71n)), (0, .ref 6), (1, .int a), (2, .int b), (3, .int c)]) (zml mf200 (by decide)) rfl ?_
                      refine zs_iload_n (pc := 143) t200_143 rfl ?_
                      by_cases w119 : c.toInt ≠ 0
                      · refine zs_if_neT (pc := 144) t200_144 rfl (by omega) ?_
                        refine zs_lload (pc := 157) t200_157 rfl ?_
                        refine zs_lload (pc := 159) t200_159 rfl ?_
                        refine zs_invS (pc := 161) (as := [.long w118v, .long w112v]) (st := []) t200_161 (by decide) mf176 rfl rfl ⟨by decide, by decide, Nat.le_of_ble_eq_true rfl, Nat.le_of_ble_eq_true rfl⟩ (C176 w10s w10I ?_) (fun _ _ q => q)
                        intro w120v w120a w120b
                        show zGo X l 6 0 0 200 164 [(14, .long w118v), (12, .long w112v), (10, .long w107v), (8, .long w105v), (6, .long w103v), (5, .ref (181 + 3 * w85n)), (4, .ref (181 + 3 * w71n)), (0, .ref 6), (1, .int a), (2, .int b), (3, .int c)] [.long w120v] w10M _
                        have w121 : (zI w10M 166 10).toInt = (zI w10M 166 10).toInt := (congrArg Int32.toInt rfl).trans rfl
                        have w122 : (zI w10M 242 10).toInt = (zI M 242 10).toInt := (congrArg Int32.toInt ((w10F 242 10 rfl).trans rfl)).trans rfl
                        exact zs_lret (pc := 164) t200_164 mr200 (hQ _ _ w10s w10I ((zFr.refl).trans (w10F.mono rfl)) (by omega) (by omega) (by omega) (by omega) (fun _ => w10x0) w10x1 (zSp.fr x4 (fun j => (w10F 250 j rfl)) (w10F 242 10 rfl)))
                      · refine zs_if_neF (pc := 144) t200_144 rfl (by omega) ?_
                        refine zs_lload (pc := 147) t200_147 rfl ?_
                        refine zs_lload (pc := 149) t200_149 rfl ?_
                        refine zs_invS (pc := 151) (as := [.long w118v, .long w112v]) (st := []) t200_151 (by decide) mf174 rfl rfl ⟨by decide, by decide, Nat.le_of_ble_eq_true rfl, Nat.le_of_ble_eq_true rfl⟩ (C174 w10s w10I ?_) (fun _ _ q => q)
                        intro w123v w123a w123b
                        show zGo X l 6 0 0 200 154 [(14, .long w118v), (12, .long w112v), (10, .long w107v), (8, .long w105v), (6, .long w103v), (5, .ref (181 + 3 * w85n)), (4, .ref (181 + 3 * w71n)), (0, .ref 6), (1, .int a), (2, .int b), (3, .int c)] [.long w123v] w10M _
                        refine zs_goto (pc := 154) t200_154 ?_
                        have w124 : (zI w10M 166 10).toInt = (zI w10M 166 10).toInt := (congrArg Int32.toInt rfl).trans rfl
                        have w125 : (zI w10M 242 10).toInt = (zI M 242 10).toInt := (congrArg Int32.toInt ((w10F 242 10 rfl).trans rfl)).trans rfl
                        exact zs_lret (pc := 164) t200_164 mr200 (hQ _ _ w10s w10I ((zFr.refl).trans (w10F.mono rfl)) (by omega) (by omega) (by omega) (by omega) (fun _ => w10x0) w10x1 (zSp.fr x4 (fun j => (w10F 250 j rfl)) (w10F 242 10 rfl)))
                    by_cases w126 : w112v.toInt = 0
                    · refine zs_lcmp (pc := 116) t200_116 (c := 0) (zlcE rfl ll0 (by omega)) ?_
                      refine zs_if_neF (pc := 117) t200_117 li0 (by decide) ?_
                      refine zs_ldc2_w (pc := 120) t200_120 (v := -2) (by decide) ?_
                      have w127 : (zI w10M 166 10).toInt = (zI w10M 166 10).toInt := (congrArg Int32.toInt rfl).trans rfl
                      have w128 : (zI w10M 242 10).toInt = (zI M 242 10).toInt := (congrArg Int32.toInt ((w10F 242 10 rfl).trans rfl)).trans rfl
                      have w129 := lln2
                      exact zs_lret (pc := 123) t200_123 mr200 (hQ _ _ w10s w10I ((zFr.refl).trans (w10F.mono rfl)) (by omega) (by omega) (by omega) (by omega) (fun _ => w10x0) w10x1 (zSp.fr x4 (fun j => (w10F 250 j rfl)) (w10F 242 10 rfl)))
                    refine zs_lcmp (pc := 116) t200_116 (c := 1) (zlcG rfl ll0 (by omega)) ?_
                    refine zs_if_neT (pc := 117) t200_117 li1 (by decide) ?_
                    refine zs_aload (pc := 124) t200_124 rfl ?_
                    have w131 := zrg64 (zJ w10M (181 + 3 * w85n) 9)
                    refine zs_get (pc := 126) t200_126 (by decide) (zk1 (w10s.k (fT181_0 w85n w86))) (zfvj rfl) ?_
                    refine zs_lload (pc := 129) t200_129 rfl ?_
                    obtain ⟨w132v, w132⟩ : ∃ v, (zJ w10M (181 + 3 * w85n) 9) * w105v = v := ⟨_, rfl⟩
                    have w132g := zrg64 w132v
                    refine zs_lmul (pc := 131) t200_131 (c := w132v) w132 ?_
                    refine zs_aload (pc := 132) t200_132 rfl ?_
                    have w133 := zrg64 (zJ w10M (181 + 3 * w71n) 9)
                    refine zs_get (pc := 134) t200_134 (by decide) (zk1 (w10s.k (fT181_0 w71n w72))) (zfvj rfl) ?_
                    refine zs_lload (pc := 137) t200_137 rfl ?_
                    obtain ⟨w134v, w134⟩ : ∃ v, (zJ w10M (181 + 3 * w71n) 9) * w107v = v := ⟨_, rfl⟩
                    have w134g := zrg64 w134v
                    refine zs_lmul (pc := 139) t200_139 (c := w134v) w134 ?_
                    obtain ⟨w135v, w135⟩ : ∃ v, w132v - w134v = v := ⟨_, rfl⟩
                    have w135g := zrg64 w135v
                    refine zs_lsub (pc := 140) t200_140 (c := w135v) w135 ?_
                    refine zs_lstore (pc := 141) t200_141 (ls' := [(14, .long w135v), (12, .long w112v), (10, .long w107v), (8, .long w105v), (6, .long w103v), (5, .ref (181 + 3 * w85n)), (4, .ref (181 + 3 * w71n)), (0, .ref 6), (1, .int a), (2, .int b), (3, .int c)]) (zml mf200 (by decide)) rfl ?_
                    refine zs_iload_n (pc := 143) t200_143 rfl ?_
                    by_cases w136 : c.toInt ≠ 0
                    · refine zs_if_neT (pc := 144) t200_144 rfl (by omega) ?_
                      refine zs_lload (pc := 157) t200_157 rfl ?_
                      refine zs_lload (pc := 159) t200_159 rfl ?_
                      refine zs_invS (pc := 161) (as := [.long w135v, .long w112v]) (st := []) t200_161 (by decide) mf176 rfl rfl ⟨by decide, by decide, Nat.le_of_ble_eq_true rfl, Nat.le_of_ble_eq_true rfl⟩ (C176 w10s w10I ?_) (fun _ _ q => q)
                      intro w137v w137a w137b
                      show zGo X l 6 0 0 200 164 [(14, .long w135v), (12, .long w112v), (10, .long w107v), (8, .long w105v), (6, .long w103v), (5, .ref (181 + 3 * w85n)), (4, .ref (181 + 3 * w71n)), (0, .ref 6), (1, .int a), (2, .int b), (3, .int c)] [.long w137v] w10M _
                      have w138 : (zI w10M 166 10).toInt = (zI w10M 166 10).toInt := (congrArg Int32.toInt rfl).trans rfl
                      have w139 : (zI w10M 242 10).toInt = (zI M 242 10).toInt := (congrArg Int32.toInt ((w10F 242 10 rfl).trans rfl)).trans rfl
                      exact zs_lret (pc := 164) t200_164 mr200 (hQ _ _ w10s w10I ((zFr.refl).trans (w10F.mono rfl)) (by omega) (by omega) (by omega) (by omega) (fun _ => w10x0) w10x1 (zSp.fr x4 (fun j => (w10F 250 j rfl)) (w10F 242 10 rfl)))
                    · refine zs_if_neF (pc := 144) t200_144 rfl (by omega) ?_
                      refine zs_lload (pc := 147) t200_147 rfl ?_
                      refine zs_lload (pc := 149) t200_149 rfl ?_
                      refine zs_invS (pc := 151) (as := [.long w135v, .long w112v]) (st := []) t200_151 (by decide) mf174 rfl rfl ⟨by decide, by decide, Nat.le_of_ble_eq_true rfl, Nat.le_of_ble_eq_true rfl⟩ (C174 w10s w10I ?_) (fun _ _ q => q)
                      intro w140v w140a w140b
                      show zGo X l 6 0 0 200 154 [(14, .long w135v), (12, .long w112v), (10, .long w107v), (8, .long w105v), (6, .long w103v), (5, .ref (181 + 3 * w85n)), (4, .ref (181 + 3 * w71n)), (0, .ref 6), (1, .int a), (2, .int b), (3, .int c)] [.long w140v] w10M _
                      refine zs_goto (pc := 154) t200_154 ?_
                      have w141 : (zI w10M 166 10).toInt = (zI w10M 166 10).toInt := (congrArg Int32.toInt rfl).trans rfl
                      have w142 : (zI w10M 242 10).toInt = (zI M 242 10).toInt := (congrArg Int32.toInt ((w10F 242 10 rfl).trans rfl)).trans rfl
                      exact zs_lret (pc := 164) t200_164 mr200 (hQ _ _ w10s w10I ((zFr.refl).trans (w10F.mono rfl)) (by omega) (by omega) (by omega) (by omega) (fun _ => w10x0) w10x1 (zSp.fr x4 (fun j => (w10F 250 j rfl)) (w10F 242 10 rfl)))
theorem P201 {X : zX} {l : Launch} {M : zM} {Q : Option Value → zM → Prop} {a b : Int32} (hs : zSk zMc M) (hI : zIv cLo cHi M) {F : Nat → Int} (u0 : (zI M 166 10).toInt ≤ 1600000000) (u1 : 0 ≤ (zI M 166 10).toInt) (u2 : (zI M 242 10).toInt ≤ 1600000000) (u3 : 0 ≤ (zI M 242 10).toInt) (x0 : zSo M 7 F) (x1 : zWF F) (x2 : zKnA M F) (x3 : zSp M 166 174) (x4 : zSp M 242 250) (hQ : ∀ (M' : zM) (v : Int32), zSk zMc M' → zIv cLo cHi M' → zFr [(164, 165, none), (166, 178, none), (180, 180, none), (181, 240, none), (317, 324, none)] M M' → ((zI M' 166 10).toInt ≤ (zI M 166 10).toInt + 20000) → ((zI M 166 10).toInt ≤ (zI M' 166 10).toInt) → ((zI M' 242 10).toInt ≤ (zI M 242 10).toInt + 20000) → ((zI M 242 10).toInt ≤ (zI M' 242 10).toInt) → (zKnA M' F) → (zSp M' 166 174) → (zSp M' 242 250) → Q (some (.int v)) M') : zCall X l 6 0 0 201 [.ref 6, .int a, .int b] M Q := by
  have ga := zrg a
  have gb := zrg b
  refine zs_in (by decide) mf201 (Nat.le_of_ble_eq_true rfl) ?_
  show zGo X l 6 0 0 201 0 [(0, .ref 6), (1, .int a), (2, .int b)] [] M _
  have f0 := x0.1
  have w1 := ib7_0 hI
  have w2 : (zI M 7 0).toInt = (zI M 7 0).toInt := (congrArg Int32.toInt rfl).trans rfl
  have w3 := ib7_3 hI
  have w4 : (zI M 7 3).toInt = (zI M 7 3).toInt := (congrArg Int32.toInt rfl).trans rfl
  have w5 := ib7_8 hI
  have w6 : (zI M 7 8).toInt = (zI M 7 8).toInt := (congrArg Int32.toInt rfl).trans rfl
  have f1 := x1.1
  have f3 := x1.2.2.2
  have f2 := (show (zI M 7 0).toInt = F 0 ∧ (zI M 7 3).toInt = F 1 ∧ (zI M 7 8).toInt = F 2 from ⟨x0.1.1, x0.1.2.1, x0.1.2.2.1⟩)
  refine zs_aload_n (pc := 0) t201_0 rfl ?_
  refine zs_get (pc := 1) t201_1 (by decide) (zk1 (hs.k fk_zMc_6)) (hs.p rfl fv_zMc_6_6) ?_
  refine zs_aload_n (pc := 4) t201_4 rfl ?_
  refine zs_get (pc := 5) t201_5 (by decide) (zk1 (hs.k fk_zMc_6)) (hs.p rfl fv_zMc_6_0) ?_
  have w7 := zrg (zI M 166 10)
  have w8 : (zI M 166 10).toInt = (zI M 166 10).toInt := (congrArg Int32.toInt rfl).trans rfl
  have w9 : (zI M 166 10).toInt = (zI M 166 10).toInt := (congrArg Int32.toInt rfl).trans rfl
  refine zs_invV (pc := 8) (k := 164) (as' := [.ref 7]) (st := []) t201_8 mf105 rfl rfl (Or.inl ⟨by decide, (zk1 (hs.k fk_zMc_164))⟩) ⟨by decide, by decide, Nat.le_of_ble_eq_true rfl, Nat.le_of_ble_eq_true rfl⟩ (V105 hs hI (by omega) (by omega) x0 x1 x2 x3 ?_) (fun _ _ q => q)
  intro w10M w10s w10I w10F w10t0 w10t1 w10x0 w10x1 w10x2
  have w11 := zrg (zI w10M 166 10)
  show zGo X l 6 0 0 201 11 [(0, .ref 6), (1, .int a), (2, .int b)] [.ref 164] w10M _
  refine zs_iload_n (pc := 11) t201_11 rfl ?_
  refine zs_invV (pc := 12) (k := 164) (as' := [.int a]) (st := []) t201_12 mf163 rfl rfl (Or.inl ⟨by decide, (zk1 (w10s.k fk_zMc_164))⟩) ⟨by decide, by decide, Nat.le_of_ble_eq_true rfl, Nat.le_of_ble_eq_true rfl⟩ (zs_in (by decide) mf163 (Nat.le_of_ble_eq_true rfl) ?_) (fun _ _ q => q)
  show zGo X l 1 0 0 163 0 [(0, .ref 164), (1, .int a)] [] w10M _
  refine zs_iload_n (pc := 0) t163_0 rfl ?_
  refine zs_aload_n (pc := 1) t163_1 rfl ?_
  have w12 := ib164_4 w10I
  refine zs_get (pc := 2) t163_2 (by decide) (zk1 (w10s.k fk_zMc_164)) (zfvi rfl rfl) ?_
  by_cases w13 : (zI w10M 164 4).toInt ≤ a.toInt
  · refine zs_icmp_geT (pc := 5) t163_5 rfl rfl (by omega) ?_
    refine zs_aconst_null (pc := 19) t163_19 ?_
    refine zs_aret0 (pc := 20) t163_20 (by rw [mr163]; rfl) ?_
    show zGo X l 6 0 0 201 15 [(0, .ref 6), (1, .int a), (2, .int b)] [.null] w10M _
    refine zs_astore_n0 (pc := 15) t201_15 (ls' := [(3, .null), (0, .ref 6), (1, .int a), (2, .int b)]) (zml mf201 (by decide)) rfl ?_
    refine zs_aload_n0 (pc := 16) t201_16 rfl ?_
    refine zs_ifnullT (pc := 17) t201_17 ?_
    refine zs_ldc (pc := 31) t201_31 (v := -100000) rfl (by decide) ?_
    refine zs_goto (pc := 33) t201_33 ?_
    have w14 : (zI w10M 166 10).toInt = (zI w10M 166 10).toInt := (congrArg Int32.toInt rfl).trans rfl
    have w15 := zrg (zI M 242 10)
    have w16 : (zI w10M 242 10).toInt = (zI M 242 10).toInt := (congrArg Int32.toInt ((w10F 242 10 rfl).trans rfl)).trans rfl
    have w17 := lin100000
    exact zs_iret (pc := 45) t201_45 mr201 (by decide) (hQ _ _ w10s w10I ((zFr.refl).trans (w10F.mono rfl)) (by omega) (by omega) (by omega) (by omega) (fun _ => w10x0) w10x1 (zSp.fr x4 (fun j => (w10F 250 j rfl)) (w10F 242 10 rfl)))
  · refine zs_icmp_geF (pc := 5) t163_5 rfl rfl (by omega) ?_
    refine zs_aload_n (pc := 8) t163_8 rfl ?_
    refine zs_get (pc := 9) t163_9 (by decide) (zk1 (w10s.k fk_zMc_164)) (w10s.p rfl fv_zMc_164_1) ?_
    refine zs_iload_n (pc := 12) t163_12 rfl ?_
    refine zs_invV (pc := 13) (k := 165) (as' := [.int a]) (st := []) t163_13 mf126 rfl rfl (Or.inl ⟨by decide, (zk1 (w10s.k fk_zMc_165))⟩) ⟨by decide, by decide, Nat.le_of_ble_eq_true rfl, Nat.le_of_ble_eq_true rfl⟩ (zs_in (by decide) mf126 (Nat.le_of_ble_eq_true rfl) ?_) (fun _ _ q => q)
    show zGo X l 0 0 0 126 0 [(0, .ref 165), (1, .int a)] [] w10M _
    refine zs_iload_n (pc := 0) t126_0 rfl ?_
    by_cases w18 : a.toInt < 0
    · refine zs_if_ltT (pc := 1) t126_1 rfl (by omega) ?_
      refine zs_aconst_null (pc := 21) t126_21 ?_
      refine zs_aret0 (pc := 22) t126_22 (by rw [mr126]; rfl) ?_
      show zGo X l 1 0 0 163 16 [(0, .ref 164), (1, .int a)] [.null] w10M _
      refine zs_goto (pc := 16) t163_16 ?_
      refine zs_aret0 (pc := 20) t163_20 (by rw [mr163]; rfl) ?_
      show zGo X l 6 0 0 201 15 [(0, .ref 6), (1, .int a), (2, .int b)] [.null] w10M _
      refine zs_astore_n0 (pc := 15) t201_15 (ls' := [(3, .null), (0, .ref 6), (1, .int a), (2, .int b)]) (zml mf201 (by decide)) rfl ?_
      refine zs_aload_n0 (pc := 16) t201_16 rfl ?_
      refine zs_ifnullT (pc := 17) t201_17 ?_
      refine zs_ldc (pc := 31) t201_31 (v := -100000) rfl (by decide) ?_
      refine zs_goto (pc := 33) t201_33 ?_
      have w19 : (zI w10M 166 10).toInt = (zI w10M 166 10).toInt := (congrArg Int32.toInt rfl).trans rfl
      have w20 : (zI w10M 242 10).toInt = (zI M 242 10).toInt := (congrArg Int32.toInt ((w10F 242 10 rfl).trans rfl)).trans rfl
      have w21 := lin100000
      exact zs_iret (pc := 45) t201_45 mr201 (by decide) (hQ _ _ w10s w10I ((zFr.refl).trans (w10F.mono rfl)) (by omega) (by omega) (by omega) (by omega) (fun _ => w10x0) w10x1 (zSp.fr x4 (fun j => (w10F 250 j rfl)) (w10F 242 10 rfl)))
    · refine zs_if_ltF (pc := 1) t126_1 rfl (by omega) ?_
      refine zs_iload_n (pc := 4) t126_4 rfl ?_
      refine zs_aload_n (pc := 5) t126_5 rfl ?_
      have w22 := ib165_2 w10I
      refine zs_get (pc := 6) t126_6 (by decide) (zk1 (w10s.k fk_zMc_165)) (zfvi rfl rfl) ?_
      by_cases w23 : (zI w10M 165 2).toInt ≤ a.toInt
      · refine zs_icmp_geT (pc := 9) t126_9 rfl rfl (by omega) ?_
        refine zs_aconst_null (pc := 21) t126_21 ?_
        refine zs_aret0 (pc := 22) t126_22 (by rw [mr126]; rfl) ?_
        show zGo X l 1 0 0 163 16 [(0, .ref 164), (1, .int a)] [.null] w10M _
        refine zs_goto (pc := 16) t163_16 ?_
        refine zs_aret0 (pc := 20) t163_20 (by rw [mr163]; rfl) ?_
        show zGo X l 6 0 0 201 15 [(0, .ref 6), (1, .int a), (2, .int b)] [.null] w10M _
        refine zs_astore_n0 (pc := 15) t201_15 (ls' := [(3, .null), (0, .ref 6), (1, .int a), (2, .int b)]) (zml mf201 (by decide)) rfl ?_
        refine zs_aload_n0 (pc := 16) t201_16 rfl ?_
        refine zs_ifnullT (pc := 17) t201_17 ?_
        refine zs_ldc (pc := 31) t201_31 (v := -100000) rfl (by decide) ?_
        refine zs_goto (pc := 33) t201_33 ?_
        have w24 : (zI w10M 166 10).toInt = (zI w10M 166 10).toInt := (congrArg Int32.toInt rfl).trans rfl
        have w25 : (zI w10M 242 10).toInt = (zI M 242 10).toInt := (congrArg Int32.toInt ((w10F 242 10 rfl).trans rfl)).trans rfl
        have w26 := lin100000
        exact zs_iret (pc := 45) t201_45 mr201 (by decide) (hQ _ _ w10s w10I ((zFr.refl).trans (w10F.mono rfl)) (by omega) (by omega) (by omega) (by omega) (fun _ => w10x0) w10x1 (zSp.fr x4 (fun j => (w10F 250 j rfl)) (w10F 242 10 rfl)))
      · refine zs_icmp_geF (pc := 9) t126_9 rfl rfl (by omega) ?_
        refine zs_aload_n (pc := 12) t126_12 rfl ?_
        refine zs_get (pc := 13) t126_13 (by decide) (zk1 (w10s.k fk_zMc_165)) (w10s.p rfl fv_zMc_165_1) ?_
        refine zs_iload_n (pc := 16) t126_16 rfl ?_
        obtain ⟨w27n, w27⟩ : ∃ n : Nat, a.toInt = (n : Int) := ⟨(a.toInt).toNat, by omega⟩
        have w28 : w27n < 20 := by omega
        refine zs_aald (pc := 17) t126_17 (j := w27n) (Or.inr (zk1 (w10s.k fk_zMc_179))) (show a.toInt = ((w27n : Nat) : Int) by omega) (zk2 (w10s.k fk_zMc_179) (by omega)) (w10s.a (fpT181 w27n w28)) ?_
        refine zs_goto (pc := 18) t126_18 ?_
        refine zs_aret (pc := 22) t126_22 (by rw [mr126]; rfl) ?_
        show zGo X l 1 0 0 163 16 [(0, .ref 164), (1, .int a)] [.ref (181 + 3 * w27n)] w10M _
        refine zs_goto (pc := 16) t163_16 ?_
        refine zs_aret (pc := 20) t163_20 (by rw [mr163]; rfl) ?_
        show zGo X l 6 0 0 201 15 [(0, .ref 6), (1, .int a), (2, .int b)] [.ref (181 + 3 * w27n)] w10M _
        refine zs_astore_n (pc := 15) t201_15 (ls' := [(3, .ref (181 + 3 * w27n)), (0, .ref 6), (1, .int a), (2, .int b)]) (zml mf201 (by decide)) rfl ?_
        refine zs_aload_n (pc := 16) t201_16 rfl ?_
        refine zs_ifnullF (pc := 17) t201_17 ?_
        refine zs_aload_n (pc := 20) t201_20 rfl ?_
        refine zs_get (pc := 21) t201_21 (by decide) (zk1 (w10s.k fk_zMc_6)) (w10s.p rfl fv_zMc_6_0) ?_
        refine zs_iload_n (pc := 24) t201_24 rfl ?_
        refine zs_invV (pc := 25) (k := 7) (as' := [.int b]) (st := []) t201_25 mf41 rfl rfl (Or.inl ⟨by decide, (zk1 (w10s.k fk_zMc_7))⟩) ⟨by decide, by decide, Nat.le_of_ble_eq_true rfl, Nat.le_of_ble_eq_true rfl⟩ (zs_in (by decide) mf41 (Nat.le_of_ble_eq_true rfl) ?_) (fun _ _ q => q)
        show zGo X l 0 0 0 41 0 [(0, .ref 7), (1, .int b)] [] w10M _
        refine zs_iload_n (pc := 0) t41_0 rfl ?_
        by_cases w29 : b.toInt < 0
        · refine zs_if_ltT (pc := 1) t41_1 rfl (by omega) ?_
          refine zs_iconst (pc := 16) t41_16 (v := 0) (by decide) ?_
          refine zs_iret (pc := 17) t41_17 mr41 (by decide) ?_
          show zGo X l 6 0 0 201 28 [(3, .ref (181 + 3 * w27n)), (0, .ref 6), (1, .int a), (2, .int b)] [.int (0 : Int32)] w10M _
          refine zs_if_neF (pc := 28) t201_28 li0 (by decide) ?_
          refine zs_ldc (pc := 31) t201_31 (v := -100000) rfl (by decide) ?_
          refine zs_goto (pc := 33) t201_33 ?_
          have w30 : (zI w10M 166 10).toInt = (zI w10M 166 10).toInt := (congrArg Int32.toInt rfl).trans rfl
          have w31 : (zI w10M 242 10).toInt = (zI M 242 10).toInt := (congrArg Int32.toInt ((w10F 242 10 rfl).trans rfl)).trans rfl
          have w32 := lin100000
          exact zs_iret (pc := 45) t201_45 mr201 (by decide) (hQ _ _ w10s w10I ((zFr.refl).trans (w10F.mono rfl)) (by omega) (by omega) (by omega) (by omega) (fun _ => w10x0) w10x1 (zSp.fr x4 (fun j => (w10F 250 j rfl)) (w10F 242 10 rfl)))
        · refine zs_if_ltF (pc := 1) t41_1 rfl (by omega) ?_
          refine zs_iload_n (pc := 4) t41_4 rfl ?_
          refine zs_aload_n (pc := 5) t41_5 rfl ?_
          refine zs_get (pc := 6) t41_6 (by decide) (zk1 (w10s.k fk_zMc_7)) (zfvi rfl ((w10F 7 0 rfl).trans rfl)) ?_
          by_cases w33 : (zI M 7 0).toInt ≤ b.toInt
          · refine zs_icmp_geT (pc := 9) t41_9 rfl rfl (by omega) ?_
            refine zs_iconst (pc := 16) t41_16 (v := 0) (by decide) ?_
            refine zs_iret (pc := 17) t41_17 mr41 (by decide) ?_
            show zGo X l 6 0 0 201 28 [(3, .ref (181 + 3 * w27n)), (0, .ref 6), (1, .int a), (2, .int b)] [.int (0 : Int32)] w10M _
            refine zs_if_neF (pc := 28) t201_28 li0 (by decide) ?_
            refine zs_ldc (pc := 31) t201_31 (v := -100000) rfl (by decide) ?_
            refine zs_goto (pc := 33) t201_33 ?_
            have w34 : (zI w10M 166 10).toInt = (zI w10M 166 10).toInt := (congrArg Int32.toInt rfl).trans rfl
            have w35 : (zI w10M 242 10).toInt = (zI M 242 10).toInt := (congrArg Int32.toInt ((w10F 242 10 rfl).trans rfl)).trans rfl
            have w36 := lin100000
            exact zs_iret (pc := 45) t201_45 mr201 (by decide) (hQ _ _ w10s w10I ((zFr.refl).trans (w10F.mono rfl)) (by omega) (by omega) (by omega) (by omega) (fun _ => w10x0) w10x1 (zSp.fr x4 (fun j => (w10F 250 j rfl)) (w10F 242 10 rfl)))
          · refine zs_icmp_geF (pc := 9) t41_9 rfl rfl (by omega) ?_
            refine zs_iconst (pc := 12) t41_12 (v := 1) (by decide) ?_
            refine zs_goto (pc := 13) t41_13 ?_
            refine zs_iret (pc := 17) t41_17 mr41 (by decide) ?_
            show zGo X l 6 0 0 201 28 [(3, .ref (181 + 3 * w27n)), (0, .ref 6), (1, .int a), (2, .int b)] [.int (1 : Int32)] w10M _
            refine zs_if_neT (pc := 28) t201_28 li1 (by decide) ?_
            refine zs_aload_n (pc := 36) t201_36 rfl ?_
            refine zs_aload_n (pc := 37) t201_37 rfl ?_
            refine zs_get (pc := 38) t201_38 (by decide) (zk1 (w10s.k fk_zMc_6)) (w10s.p rfl fv_zMc_6_0) ?_
            refine zs_iload_n (pc := 41) t201_41 rfl ?_
            refine zs_invV (pc := 42) (k := (181 + 3 * w27n)) (as' := [.ref 7, .int b]) (st := []) t201_42 mf202 rfl rfl (Or.inl ⟨by decide, (zk1 (w10s.k (fT181_0 w27n w28)))⟩) ⟨by decide, by decide, Nat.le_of_ble_eq_true rfl, Nat.le_of_ble_eq_true rfl⟩ (zs_in (by decide) mf202 (Nat.le_of_ble_eq_true rfl) ?_) (fun _ _ q => q)
            show zGo X l 2 0 0 202 0 [(0, .ref (181 + 3 * w27n)), (1, .ref 7), (2, .int b)] [] w10M _
            refine zs_aload_n (pc := 0) t202_0 rfl ?_
            refine zs_iload_n (pc := 1) t202_1 rfl ?_
            refine zs_invV (pc := 2) (k := 7) (as' := [.int b]) (st := []) t202_2 mf41 rfl rfl (Or.inl ⟨by decide, (zk1 (w10s.k fk_zMc_7))⟩) ⟨by decide, by decide, Nat.le_of_ble_eq_true rfl, Nat.le_of_ble_eq_true rfl⟩ (zs_in (by decide) mf41 (Nat.le_of_ble_eq_true rfl) ?_) (fun _ _ q => q)
            show zGo X l 0 0 0 41 0 [(0, .ref 7), (1, .int b)] [] w10M _
            refine zs_iload_n (pc := 0) t41_0 rfl ?_
            refine zs_if_ltF (pc := 1) t41_1 rfl (by omega) ?_
            refine zs_iload_n (pc := 4) t41_4 rfl ?_
            refine zs_aload_n (pc := 5) t41_5 rfl ?_
            refine zs_get (pc := 6) t41_6 (by decide) (zk1 (w10s.k fk_zMc_7)) (zfvi rfl ((w10F 7 0 rfl).trans rfl)) ?_
            by_cases w37 : (zI M 7 0).toInt ≤ b.toInt
            · refine zs_icmp_geT (pc := 9) t41_9 rfl rfl (by omega) ?_
              refine zs_iconst (pc := 16) t41_16 (v := 0) (by decide) ?_
              refine zs_iret (pc := 17) t41_17 mr41 (by decide) ?_
              show zGo X l 2 0 0 202 5 [(0, .ref (181 + 3 * w27n)), (1, .ref 7), (2, .int b)] [.int (0 : Int32)] w10M _
              refine zs_if_neF (pc := 5) t202_5 li0 (by decide) ?_
              refine zs_iconst (pc := 8) t202_8 (v := 0) (by decide) ?_
              refine zs_iret (pc := 9) t202_9 mr202 (by decide) ?_
              show zGo X l 6 0 0 201 45 [(3, .ref (181 + 3 * w27n)), (0, .ref 6), (1, .int a), (2, .int b)] [.int (0 : Int32)] w10M _
              have w38 : (zI w10M 166 10).toInt = (zI w10M 166 10).toInt := (congrArg Int32.toInt rfl).trans rfl
              have w39 : (zI w10M 242 10).toInt = (zI M 242 10).toInt := (congrArg Int32.toInt ((w10F 242 10 rfl).trans rfl)).trans rfl
              have w40 := li0
              exact zs_iret (pc := 45) t201_45 mr201 (by decide) (hQ _ _ w10s w10I ((zFr.refl).trans (w10F.mono rfl)) (by omega) (by omega) (by omega) (by omega) (fun _ => w10x0) w10x1 (zSp.fr x4 (fun j => (w10F 250 j rfl)) (w10F 242 10 rfl)))
            · refine zs_icmp_geF (pc := 9) t41_9 rfl rfl (by omega) ?_
              refine zs_iconst (pc := 12) t41_12 (v := 1) (by decide) ?_
              refine zs_goto (pc := 13) t41_13 ?_
              refine zs_iret (pc := 17) t41_17 mr41 (by decide) ?_
              show zGo X l 2 0 0 202 5 [(0, .ref (181 + 3 * w27n)), (1, .ref 7), (2, .int b)] [.int (1 : Int32)] w10M _
              refine zs_if_neT (pc := 5) t202_5 li1 (by decide) ?_
              refine zs_aload_n (pc := 10) t202_10 rfl ?_
              have w41 := zrg64 (zJ w10M (181 + 3 * w27n) 9)
              refine zs_get (pc := 11) t202_11 (by decide) (zk1 (w10s.k (fT181_0 w27n w28))) (zfvj rfl) ?_
              refine zs_aload_n (pc := 14) t202_14 rfl ?_
              have w42 := zrg64 (zJ w10M (181 + 3 * w27n) 10)
              refine zs_get (pc := 15) t202_15 (by decide) (zk1 (w10s.k (fT181_0 w27n w28))) (zfvj rfl) ?_
              refine zs_aload_n (pc := 18) t202_18 rfl ?_
              refine zs_get (pc := 19) t202_19 (by decide) (zk1 (w10s.k fk_zMc_7)) (w10s.p rfl fv_zMc_7_1) ?_
              refine zs_iload_n (pc := 22) t202_22 rfl ?_
              obtain ⟨w43n, w43⟩ : ∃ n : Nat, b.toInt = (n : Int) := ⟨(b.toInt).toNat, by omega⟩
              have w44 := zrg (zI M 8 w43n)
              have w45 : (zI M 8 w43n).toInt = F (14 + 2 * w43n) ∧ (zI M 9 w43n).toInt = F (15 + 2 * w43n) := x0.2.1 w43n (by omega)
              have w46 := x1.2.1 w43n (by omega)
              refine zs_iald (pc := 23) t202_23 (j := w43n) (by decide) (zk1 (w10s.k fk_zMc_8)) (show b.toInt = ((w43n : Nat) : Int) by omega) (zk2 (w10s.k fk_zMc_8) (by omega)) ((w10F 8 w43n rfl).trans rfl) ?_
              refine zs_i2l (pc := 24) t202_24 rfl ?_
              obtain ⟨w47v, w47⟩ : ∃ v, (zJ w10M (181 + 3 * w27n) 10) * (zI M 8 w43n).toInt64 = v := ⟨_, rfl⟩
              have w47g := zrg64 w47v
              refine zs_lmul (pc := 25) t202_25 (c := w47v) w47 ?_
              obtain ⟨w48v, w48⟩ : ∃ v, (zJ w10M (181 + 3 * w27n) 9) + w47v = v := ⟨_, rfl⟩
              have w48g := zrg64 w48v
              refine zs_ladd (pc := 26) t202_26 (c := w48v) w48 ?_
              refine zs_lstore_n (pc := 27) t202_27 (ls' := [(3, .long w48v), (0, .ref (181 + 3 * w27n)), (1, .ref 7), (2, .int b)]) (zml mf202 (by decide)) rfl ?_
              refine zs_lload_n (pc := 28) t202_28 rfl ?_
              refine zs_lconst (pc := 29) t202_29 (v := 1) (by decide) ?_
              refine zs_aload_n (pc := 30) t202_30 rfl ?_
              have w49 := zrg64 (zJ w10M (181 + 3 * w27n) 8)
              refine zs_get (pc := 31) t202_31 (by decide) (zk1 (w10s.k (fT181_0 w27n w28))) (zfvj rfl) ?_
              have w50 : (1 : Int64).toInt = 1 := ll1
              refine zs_invS (pc := 34) (as := [.long (1 : Int64), .long (zJ w10M (181 + 3 * w27n) 8)]) (st := [.long w48v]) t202_34 (by decide) mf134 rfl rfl ⟨by decide, by decide, Nat.le_of_ble_eq_true rfl, Nat.le_of_ble_eq_true rfl⟩ (V134 w10s w10I ?_) (fun _ _ q => q)
              intro w51v w51x0
              have w51g := zrg64 w51v
              have w51g1 : 1 ≤ w51v.toInt := by rw [w51x0]; exact mxL.ge
              show zGo X l 2 0 0 202 37 [(3, .long w48v), (0, .ref (181 + 3 * w27n)), (1, .ref 7), (2, .int b)] [.long w51v, .long w48v] w10M _
              refine zs_invS (pc := 37) (as := [.long w48v, .long w51v]) (st := []) t202_37 (by decide) mf140 rfl rfl ⟨by decide, by decide, Nat.le_of_ble_eq_true rfl, Nat.le_of_ble_eq_true rfl⟩ (V140 w10s w10I ⟨by omega, by omega⟩ ?_) (fun _ _ q => q)
              intro w52v w52x0
              have w52g := zrg64 w52v
              show zGo X l 2 0 0 202 40 [(3, .long w48v), (0, .ref (181 + 3 * w27n)), (1, .ref 7), (2, .int b)] [.long w52v] w10M _
              obtain ⟨w53v, w53⟩ : ∃ v, w52v.toInt32 = v := ⟨_, rfl⟩
              have w53g := zrg w53v
              refine zs_l2i (pc := 40) t202_40 (c := w53v) w53 ?_
              refine zs_aload_n (pc := 41) t202_41 rfl ?_
              refine zs_iload_n (pc := 42) t202_42 rfl ?_
              refine zs_aload_n (pc := 43) t202_43 rfl ?_
              have w54 := ibT181_0_0 w10I w28
              refine zs_get (pc := 44) t202_44 (by decide) (zk1 (w10s.k (fT181_0 w27n w28))) (zfvi rfl rfl) ?_
              refine zs_invV (pc := 47) (k := 7) (as' := [.int b, .int (zI w10M (181 + 3 * w27n) 0)]) (st := [.int w53v]) t202_47 mf55 rfl rfl (Or.inl ⟨by decide, (zk1 (w10s.k fk_zMc_7))⟩) ⟨by decide, by decide, Nat.le_of_ble_eq_true rfl, Nat.le_of_ble_eq_true rfl⟩ (X55_7 w10s w10I (zSo.fr x0 (zFr.eq w10F rfl)) x1 ?_) (fun _ _ q => q)
              intro w55v w55x0
              have w55g := zrg w55v
              show zGo X l 2 0 0 202 50 [(3, .long w48v), (0, .ref (181 + 3 * w27n)), (1, .ref 7), (2, .int b)] [.int w55v, .int w53v] w10M _
              obtain ⟨w56v, w56⟩ : ∃ v, v = w53v + w55v := ⟨_, rfl⟩
              have w56g := zrg w56v
              refine zs_iadd (pc := 50) t202_50 (c := w56v) w56.symm ?_
              refine zs_iret (pc := 51) t202_51 mr202 rfl ?_
              show zGo X l 6 0 0 201 45 [(3, .ref (181 + 3 * w27n)), (0, .ref 6), (1, .int a), (2, .int b)] [.int w56v] w10M _
              have w57 : (zI w10M 166 10).toInt = (zI w10M 166 10).toInt := (congrArg Int32.toInt rfl).trans rfl
              have w58 : (zI w10M 242 10).toInt = (zI M 242 10).toInt := (congrArg Int32.toInt ((w10F 242 10 rfl).trans rfl)).trans rfl
              exact zs_iret (pc := 45) t201_45 mr201 rfl (hQ _ _ w10s w10I ((zFr.refl).trans (w10F.mono rfl)) (by omega) (by omega) (by omega) (by omega) (fun _ => w10x0) w10x1 (zSp.fr x4 (fun j => (w10F 250 j rfl)) (w10F 242 10 rfl)))
theorem P203 {X : zX} {l : Launch} {M : zM} {Q : Option Value → zM → Prop} {a : Int32} (hs : zSk zMc M) (hI : zIv cLo cHi M) {F : Nat → Int} (u0 : (zI M 166 10).toInt ≤ 1600000000) (u1 : 0 ≤ (zI M 166 10).toInt) (u2 : (zI M 242 10).toInt ≤ 1600000000) (u3 : 0 ≤ (zI M 242 10).toInt) (x0 : zSo M 7 F) (x1 : zWF F) (x2 : zKnA M F) (x3 : zSp M 166 174) (x4 : zSp M 242 250) (hQ : ∀ (M' : zM) (v : Int32), zSk zMc M' → zIv cLo cHi M' → zFr [(164, 165, none), (166, 178, none), (180, 180, none), (181, 240, none), (317, 324, none)] M M' → ((zI M' 166 10).toInt ≤ (zI M 166 10).toInt + 20000) → ((zI M 166 10).toInt ≤ (zI M' 166 10).toInt) → ((zI M' 242 10).toInt ≤ (zI M 242 10).toInt + 20000) → ((zI M 242 10).toInt ≤ (zI M' 242 10).toInt) → (zKnA M' F) → (zSp M' 166 174) → (zSp M' 242 250) → Q (some (.int v)) M') : zCall X l 6 0 0 203 [.ref 6, .int a] M Q := by
  have ga := zrg a
  refine zs_in (by decide) mf203 (Nat.le_of_ble_eq_true rfl) ?_
  show zGo X l 6 0 0 203 0 [(0, .ref 6), (1, .int a)] [] M _
  have f0 := x0.1
  have w1 := ib7_0 hI
  have w2 : (zI M 7 0).toInt = (zI M 7 0).toInt := (congrArg Int32.toInt rfl).trans rfl
  have w3 := ib7_3 hI
  have w4 : (zI M 7 3).toInt = (zI M 7 3).toInt := (congrArg Int32.toInt rfl).trans rfl
  have w5 := ib7_8 hI
  have w6 : (zI M 7 8).toInt = (zI M 7 8).toInt := (congrArg Int32.toInt rfl).trans rfl
  have f1 := x1.1
  have f3 := x1.2.2.2
  have f2 := (show (zI M 7 0).toInt = F 0 ∧ (zI M 7 3).toInt = F 1 ∧ (zI M 7 8).toInt = F 2 from ⟨x0.1.1, x0.1.2.1, x0.1.2.2.1⟩)
  refine zs_aload_n (pc := 0) t203_0 rfl ?_
  refine zs_get (pc := 1) t203_1 (by decide) (zk1 (hs.k fk_zMc_6)) (hs.p rfl fv_zMc_6_6) ?_
  refine zs_aload_n (pc := 4) t203_4 rfl ?_
  refine zs_get (pc := 5) t203_5 (by decide) (zk1 (hs.k fk_zMc_6)) (hs.p rfl fv_zMc_6_0) ?_
  have w7 := zrg (zI M 166 10)
  have w8 : (zI M 166 10).toInt = (zI M 166 10).toInt := (congrArg Int32.toInt rfl).trans rfl
  have w9 : (zI M 166 10).toInt = (zI M 166 10).toInt := (congrArg Int32.toInt rfl).trans rfl
  refine zs_invV (pc := 8) (k := 164) (as' := [.ref 7]) (st := []) t203_8 mf105 rfl rfl (Or.inl ⟨by decide, (zk1 (hs.k fk_zMc_164))⟩) ⟨by decide, by decide, Nat.le_of_ble_eq_true rfl, Nat.le_of_ble_eq_true rfl⟩ (V105 hs hI (by omega) (by omega) x0 x1 x2 x3 ?_) (fun _ _ q => q)
  intro w10M w10s w10I w10F w10t0 w10t1 w10x0 w10x1 w10x2
  have w11 := zrg (zI w10M 166 10)
  show zGo X l 6 0 0 203 11 [(0, .ref 6), (1, .int a)] [.ref 164] w10M _
  refine zs_iload_n (pc := 11) t203_11 rfl ?_
  refine zs_invV (pc := 12) (k := 164) (as' := [.int a]) (st := []) t203_12 mf163 rfl rfl (Or.inl ⟨by decide, (zk1 (w10s.k fk_zMc_164))⟩) ⟨by decide, by decide, Nat.le_of_ble_eq_true rfl, Nat.le_of_ble_eq_true rfl⟩ (zs_in (by decide) mf163 (Nat.le_of_ble_eq_true rfl) ?_) (fun _ _ q => q)
  show zGo X l 1 0 0 163 0 [(0, .ref 164), (1, .int a)] [] w10M _
  refine zs_iload_n (pc := 0) t163_0 rfl ?_
  refine zs_aload_n (pc := 1) t163_1 rfl ?_
  have w12 := ib164_4 w10I
  refine zs_get (pc := 2) t163_2 (by decide) (zk1 (w10s.k fk_zMc_164)) (zfvi rfl rfl) ?_
  by_cases w13 : (zI w10M 164 4).toInt ≤ a.toInt
  · refine zs_icmp_geT (pc := 5) t163_5 rfl rfl (by omega) ?_
    refine zs_aconst_null (pc := 19) t163_19 ?_
    refine zs_aret0 (pc := 20) t163_20 (by rw [mr163]; rfl) ?_
    show zGo X l 6 0 0 203 15 [(0, .ref 6), (1, .int a)] [.null] w10M _
    refine zs_astore_n0 (pc := 15) t203_15 (ls' := [(2, .null), (0, .ref 6), (1, .int a)]) (zml mf203 (by decide)) rfl ?_
    refine zs_aload_n0 (pc := 16) t203_16 rfl ?_
    refine zs_ifnonnullF (pc := 17) t203_17 ?_
    refine zs_iconst (pc := 20) t203_20 (v := -1) (by decide) ?_
    have w14 : (zI w10M 166 10).toInt = (zI w10M 166 10).toInt := (congrArg Int32.toInt rfl).trans rfl
    have w15 := zrg (zI M 242 10)
    have w16 : (zI w10M 242 10).toInt = (zI M 242 10).toInt := (congrArg Int32.toInt ((w10F 242 10 rfl).trans rfl)).trans rfl
    have w17 := lin1
    exact zs_iret (pc := 21) t203_21 mr203 (by decide) (hQ _ _ w10s w10I ((zFr.refl).trans (w10F.mono rfl)) (by omega) (by omega) (by omega) (by omega) (fun _ => w10x0) w10x1 (zSp.fr x4 (fun j => (w10F 250 j rfl)) (w10F 242 10 rfl)))
  · refine zs_icmp_geF (pc := 5) t163_5 rfl rfl (by omega) ?_
    refine zs_aload_n (pc := 8) t163_8 rfl ?_
    refine zs_get (pc := 9) t163_9 (by decide) (zk1 (w10s.k fk_zMc_164)) (w10s.p rfl fv_zMc_164_1) ?_
    refine zs_iload_n (pc := 12) t163_12 rfl ?_
    refine zs_invV (pc := 13) (k := 165) (as' := [.int a]) (st := []) t163_13 mf126 rfl rfl (Or.inl ⟨by decide, (zk1 (w10s.k fk_zMc_165))⟩) ⟨by decide, by decide, Nat.le_of_ble_eq_true rfl, Nat.le_of_ble_eq_true rfl⟩ (zs_in (by decide) mf126 (Nat.le_of_ble_eq_true rfl) ?_) (fun _ _ q => q)
    show zGo X l 0 0 0 126 0 [(0, .ref 165), (1, .int a)] [] w10M _
    refine zs_iload_n (pc := 0) t126_0 rfl ?_
    by_cases w18 : a.toInt < 0
    · refine zs_if_ltT (pc := 1) t126_1 rfl (by omega) ?_
      refine zs_aconst_null (pc := 21) t126_21 ?_
      refine zs_aret0 (pc := 22) t126_22 (by rw [mr126]; rfl) ?_
      show zGo X l 1 0 0 163 16 [(0, .ref 164), (1, .int a)] [.null] w10M _
      refine zs_goto (pc := 16) t163_16 ?_
      refine zs_aret0 (pc := 20) t163_20 (by rw [mr163]; rfl) ?_
      show zGo X l 6 0 0 203 15 [(0, .ref 6), (1, .int a)] [.null] w10M _
      refine zs_astore_n0 (pc := 15) t203_15 (ls' := [(2, .null), (0, .ref 6), (1, .int a)]) (zml mf203 (by decide)) rfl ?_
      refine zs_aload_n0 (pc := 16) t203_16 rfl ?_
      refine zs_ifnonnullF (pc := 17) t203_17 ?_
      refine zs_iconst (pc := 20) t203_20 (v := -1) (by decide) ?_
      have w19 : (zI w10M 166 10).toInt = (zI w10M 166 10).toInt := (congrArg Int32.toInt rfl).trans rfl
      have w20 : (zI w10M 242 10).toInt = (zI M 242 10).toInt := (congrArg Int32.toInt ((w10F 242 10 rfl).trans rfl)).trans rfl
      have w21 := lin1
      exact zs_iret (pc := 21) t203_21 mr203 (by decide) (hQ _ _ w10s w10I ((zFr.refl).trans (w10F.mono rfl)) (by omega) (by omega) (by omega) (by omega) (fun _ => w10x0) w10x1 (zSp.fr x4 (fun j => (w10F 250 j rfl)) (w10F 242 10 rfl)))
    · refine zs_if_ltF (pc := 1) t126_1 rfl (by omega) ?_
      refine zs_iload_n (pc := 4) t126_4 rfl ?_
      refine zs_aload_n (pc := 5) t126_5 rfl ?_
      have w22 := ib165_2 w10I
      refine zs_get (pc := 6) t126_6 (by decide) (zk1 (w10s.k fk_zMc_165)) (zfvi rfl rfl) ?_
      by_cases w23 : (zI w10M 165 2).toInt ≤ a.toInt
      · refine zs_icmp_geT (pc := 9) t126_9 rfl rfl (by omega) ?_
        refine zs_aconst_null (pc := 21) t126_21 ?_
        refine zs_aret0 (pc := 22) t126_22 (by rw [mr126]; rfl) ?_
        show zGo X l 1 0 0 163 16 [(0, .ref 164), (1, .int a)] [.null] w10M _
        refine zs_goto (pc := 16) t163_16 ?_
        refine zs_aret0 (pc := 20) t163_20 (by rw [mr163]; rfl) ?_
        show zGo X l 6 0 0 203 15 [(0, .ref 6), (1, .int a)] [.null] w10M _
        refine zs_astore_n0 (pc := 15) t203_15 (ls' := [(2, .null), (0, .ref 6), (1, .int a)]) (zml mf203 (by decide)) rfl ?_
        refine zs_aload_n0 (pc := 16) t203_16 rfl ?_
        refine zs_ifnonnullF (pc := 17) t203_17 ?_
        refine zs_iconst (pc := 20) t203_20 (v := -1) (by decide) ?_
        have w24 : (zI w10M 166 10).toInt = (zI w10M 166 10).toInt := (congrArg Int32.toInt rfl).trans rfl
        have w25 : (zI w10M 242 10).toInt = (zI M 242 10).toInt := (congrArg Int32.toInt ((w10F 242 10 rfl).trans rfl)).trans rfl
        have w26 := lin1
        exact zs_iret (pc := 21) t203_21 mr203 (by decide) (hQ _ _ w10s w10I ((zFr.refl).trans (w10F.mono rfl)) (by omega) (by omega) (by omega) (by omega) (fun _ => w10x0) w10x1 (zSp.fr x4 (fun j => (w10F 250 j rfl)) (w10F 242 10 rfl)))
      · refine zs_icmp_geF (pc := 9) t126_9 rfl rfl (by omega) ?_
        refine zs_aload_n (pc := 12) t126_12 rfl ?_
        refine zs_get (pc := 13) t126_13 (by decide) (zk1 (w10s.k fk_zMc_165)) (w10s.p rfl fv_zMc_165_1) ?_
        refine zs_iload_n (pc := 16) t126_16 rfl ?_
        obtain ⟨w27n, w27⟩ : ∃ n : Nat, a.toInt = (n : Int) := ⟨(a.toInt).toNat, by omega⟩
        have w28 : w27n < 20 := by omega
        refine zs_aald (pc := 17) t126_17 (j := w27n) (Or.inr (zk1 (w10s.k fk_zMc_179))) (show a.toInt = ((w27n : Nat) : Int) by omega) (zk2 (w10s.k fk_zMc_179) (by omega)) (w10s.a (fpT181 w27n w28)) ?_
        refine zs_goto (pc := 18) t126_18 ?_
        refine zs_aret (pc := 22) t126_22 (by rw [mr126]; rfl) ?_
        show zGo X l 1 0 0 163 16 [(0, .ref 164), (1, .int a)] [.ref (181 + 3 * w27n)] w10M _
        refine zs_goto (pc := 16) t163_16 ?_
        refine zs_aret (pc := 20) t163_20 (by rw [mr163]; rfl) ?_
        show zGo X l 6 0 0 203 15 [(0, .ref 6), (1, .int a)] [.ref (181 + 3 * w27n)] w10M _
        refine zs_astore_n (pc := 15) t203_15 (ls' := [(2, .ref (181 + 3 * w27n)), (0, .ref 6), (1, .int a)]) (zml mf203 (by decide)) rfl ?_
        refine zs_aload_n (pc := 16) t203_16 rfl ?_
        refine zs_ifnonnullT (pc := 17) t203_17 ?_
        refine zs_iconst (pc := 22) t203_22 (v := 0) (by decide) ?_
        refine zs_istore_n (pc := 23) t203_23 (ls' := [(3, .int (0 : Int32)), (2, .ref (181 + 3 * w27n)), (0, .ref 6), (1, .int a)]) (zml mf203 (by decide)) rfl ?_
        refine zs_iconst (pc := 24) t203_24 (v := 0) (by decide) ?_
        refine zs_istore (pc := 25) t203_25 (ls' := [(4, .int (0 : Int32)), (3, .int (0 : Int32)), (2, .ref (181 + 3 * w27n)), (0, .ref 6), (1, .int a)]) (zml mf203 (by decide)) rfl ?_
        have w29L : ∀ (m : Nat) (w29x3 : Int32) (w29x4 : Int32), (0 ≤ w29x4.toInt ∧ w29x4.toInt ≤ 8) → 8 - w29x4.toInt ≤ (m : Int) → zGo X l 6 0 0 203 27 [(0, .ref 6), (1, .int a), (2, .ref (181 + 3 * w27n)), (3, .int w29x3), (4, .int w29x4)] [] w10M Q := by
          intro m
          induction m using Nat.strongRecOn with
          | ind w29m w29ih =>
            intro w29x3 w29x4 w29b4 w29q
            have w29g3 := zrg w29x3
            refine zs_iload (pc := 27) t203_27 rfl ?_
            refine zs_aload_n (pc := 29) t203_29 rfl ?_
            refine zs_get (pc := 30) t203_30 (by decide) (zk1 (w10s.k fk_zMc_6)) (w10s.p rfl fv_zMc_6_0) ?_
            refine zs_get (pc := 33) t203_33 (by decide) (zk1 (w10s.k fk_zMc_7)) (zfvi rfl ((w10F 7 0 rfl).trans rfl)) ?_
            by_cases w30 : (zI M 7 0).toInt ≤ w29x4.toInt
            · refine zs_icmp_geT (pc := 36) t203_36 rfl rfl (by omega) ?_
              refine zs_iload_n (pc := 71) t203_71 rfl ?_
              have w31 : (zI w10M 166 10).toInt = (zI w10M 166 10).toInt := (congrArg Int32.toInt rfl).trans rfl
              have w32 : (zI w10M 242 10).toInt = (zI M 242 10).toInt := (congrArg Int32.toInt ((w10F 242 10 rfl).trans rfl)).trans rfl
              exact zs_iret (pc := 72) t203_72 mr203 rfl (hQ _ _ w10s w10I ((zFr.refl).trans (w10F.mono rfl)) (by omega) (by omega) (by omega) (by omega) (fun _ => w10x0) w10x1 (zSp.fr x4 (fun j => (w10F 250 j rfl)) (w10F 242 10 rfl)))
            · refine zs_icmp_geF (pc := 36) t203_36 rfl rfl (by omega) ?_
              refine zs_aload_n (pc := 39) t203_39 rfl ?_
              refine zs_get (pc := 40) t203_40 (by decide) (zk1 (w10s.k fk_zMc_6)) (w10s.p rfl fv_zMc_6_0) ?_
              refine zs_get (pc := 43) t203_43 (by decide) (zk1 (w10s.k fk_zMc_7)) (w10s.p rfl fv_zMc_7_2) ?_
              refine zs_iload (pc := 46) t203_46 rfl ?_
              obtain ⟨w33n, w33⟩ : ∃ n : Nat, w29x4.toInt = (n : Int) := ⟨(w29x4.toInt).toNat, by omega⟩
              have w34 := ib9 hI w33n
              have w35 : (zI M 8 w33n).toInt = F (14 + 2 * w33n) ∧ (zI M 9 w33n).toInt = F (15 + 2 * w33n) := x0.2.1 w33n (by omega)
              have w36 := x1.2.1 w33n (by omega)
              refine zs_bald (pc := 48) t203_48 (j := w33n) (Or.inr (zk1 (w10s.k fk_zMc_9))) (show w29x4.toInt = ((w33n : Nat) : Int) by omega) (zk2 (w10s.k fk_zMc_9) (by omega)) ((w10F 9 w33n rfl).trans rfl) ?_
              by_cases w37 : (zI M 9 w33n).toInt = 0
              · refine zs_if_eqT (pc := 49) t203_49 rfl (by omega) ?_
                obtain ⟨w38v, w38e, w38⟩ := ziadd (a := w29x4) (b := Int32.ofInt 1) rfl (show (Int32.ofInt 1).toInt = 1 by decide) (by omega) (by omega)
                refine zs_iinc (pc := 65) t203_65 (ls' := [(4, .int w38v), (0, .ref 6), (1, .int a), (2, .ref (181 + 3 * w27n)), (3, .int w29x3)]) (zml mf203 (by decide)) rfl (c := w38v) w38e rfl ?_
                refine zs_goto (pc := 68) t203_68 ?_
                refine zGo.locals (ls' := [(0, .ref 6), (1, .int a), (2, .ref (181 + 3 * w27n)), (3, .int w29x3), (4, .int w38v)]) (by simp) ?_
                have w39 := w38
                exact w29ih (w29m - 1) (by omega) w29x3 w38v ⟨by omega, by omega⟩ (by omega)
              · refine zs_if_eqF (pc := 49) t203_49 rfl (by omega) ?_
                refine zs_aload_n (pc := 52) t203_52 rfl ?_
                refine zs_get (pc := 53) t203_53 (by decide) (zk1 (w10s.k (fT181_0 w27n w28))) (w10s.p rfl (fvT181_6 w27n w28)) ?_
                refine zs_iload (pc := 56) t203_56 rfl ?_
                have w40 := ibT181_1 w10I w28 w33n
                refine zs_iald (pc := 58) t203_58 (j := w33n) (by omega) (zk1 (w10s.k (fT181_1 w27n w28))) (show w29x4.toInt = ((w33n : Nat) : Int) by omega) (zk2 (w10s.k (fT181_1 w27n w28)) (by omega)) rfl ?_
                by_cases w41 : 0 ≤ (zI w10M (181 + 3 * w27n + 1) w33n).toInt
                · refine zs_if_geT (pc := 59) t203_59 rfl (by omega) ?_
                  obtain ⟨w42v, w42e, w42⟩ := ziadd (a := w29x4) (b := Int32.ofInt 1) rfl (show (Int32.ofInt 1).toInt = 1 by decide) (by omega) (by omega)
                  refine zs_iinc (pc := 65) t203_65 (ls' := [(4, .int w42v), (0, .ref 6), (1, .int a), (2, .ref (181 + 3 * w27n)), (3, .int w29x3)]) (zml mf203 (by decide)) rfl (c := w42v) w42e rfl ?_
                  refine zs_goto (pc := 68) t203_68 ?_
                  refine zGo.locals (ls' := [(0, .ref 6), (1, .int a), (2, .ref (181 + 3 * w27n)), (3, .int w29x3), (4, .int w42v)]) (by simp) ?_
                  have w43 := w42
                  exact w29ih (w29m - 1) (by omega) w29x3 w42v ⟨by omega, by omega⟩ (by omega)
                · refine zs_if_geF (pc := 59) t203_59 rfl (by omega) ?_
                  obtain ⟨w44v, w44e⟩ : ∃ v, w29x3 + Int32.ofInt 1 = v := ⟨_, rfl⟩
                  have w44 := zrg w44v
                  refine zs_iinc (pc := 62) t203_62 (ls' := [(3, .int w44v), (0, .ref 6), (1, .int a), (2, .ref (181 + 3 * w27n)), (4, .int w29x4)]) (zml mf203 (by decide)) rfl (c := w44v) w44e rfl ?_
                  obtain ⟨w45v, w45e, w45⟩ := ziadd (a := w29x4) (b := Int32.ofInt 1) rfl (show (Int32.ofInt 1).toInt = 1 by decide) (by omega) (by omega)
                  refine zs_iinc (pc := 65) t203_65 (ls' := [(4, .int w45v), (3, .int w44v), (0, .ref 6), (1, .int a), (2, .ref (181 + 3 * w27n))]) (zml mf203 (by decide)) rfl (c := w45v) w45e rfl ?_
                  refine zs_goto (pc := 68) t203_68 ?_
                  refine zGo.locals (ls' := [(0, .ref 6), (1, .int a), (2, .ref (181 + 3 * w27n)), (3, .int w44v), (4, .int w45v)]) (by simp) ?_
                  have w46 := w45
                  exact w29ih (w29m - 1) (by omega) w44v w45v ⟨by omega, by omega⟩ (by omega)
        refine zGo.locals (ls' := [(0, .ref 6), (1, .int a), (2, .ref (181 + 3 * w27n)), (3, .int (0 : Int32)), (4, .int (0 : Int32))]) (by simp) ?_
        have w47 := li0
        have w48 := li0
        exact w29L ((8 - 0 : Int).toNat) (0 : Int32) (0 : Int32) ⟨by decide, by decide⟩ (by omega)
