theorem C113 {X : zX} {l : Launch} {M : zM} {Q : Option Value → zM → Prop} {a : Int32} (hs : zSk zMc M) (hI : zIv cLo cHi M) (hQ : ∀ v : Int32, (-2147483648) ≤ v.toInt → v.toInt ≤ 2147483647 → Q (some (.int v)) M) : zCall X l 0 0 0 113 [.int a] M Q := by
  have ga := zrg a
  refine zs_in (by decide) mf113 (Nat.le_of_ble_eq_true rfl) ?_
  show zGo X l 0 0 0 113 0 [(0, .int a)] [] M _
  refine zs_iload_n (pc := 0) t113_0 rfl ?_
  refine zs_iload_n (pc := 1) t113_1 rfl ?_
  refine zs_iconst (pc := 2) t113_2 (v := 1) (by decide) ?_
  obtain ⟨w1v, w1⟩ : ∃ v, (a.toUInt32 >>> ((1 : Int32).toUInt32 &&& Int32.toUInt32 31)).toInt32 = v := ⟨_, rfl⟩
  have w1g := zrg w1v
  refine zs_iushr (pc := 3) t113_3 (c := w1v) w1 ?_
  refine zs_ldc_w (pc := 4) t113_4 (v := 1431655765) rfl (by decide) ?_
  obtain ⟨w2v, w2⟩ : ∃ v, w1v &&& (1431655765 : Int32) = v := ⟨_, rfl⟩
  have w2g : 0 ≤ w2v.toInt ∧ w2v.toInt ≤ 1431655765 := by rw [← w2]; exact zand li1431655765 (by decide)
  refine zs_iand (pc := 7) t113_7 (c := w2v) w2 ?_
  obtain ⟨w3v, w3⟩ : ∃ v, v = a - w2v := ⟨_, rfl⟩
  have w3g := zrg w3v
  refine zs_isub (pc := 8) t113_8 (c := w3v) w3.symm ?_
  refine zs_istore_n (pc := 9) t113_9 (ls' := [(0, .int w3v)]) (zml mf113 (by decide)) rfl ?_
  refine zs_iload_n (pc := 10) t113_10 rfl ?_
  refine zs_ldc_w (pc := 11) t113_11 (v := 858993459) rfl (by decide) ?_
  obtain ⟨w4v, w4⟩ : ∃ v, w3v &&& (858993459 : Int32) = v := ⟨_, rfl⟩
  have w4g : 0 ≤ w4v.toInt ∧ w4v.toInt ≤ 858993459 := by rw [← w4]; exact zand li858993459 (by decide)
  refine zs_iand (pc := 14) t113_14 (c := w4v) w4 ?_
  refine zs_iload_n (pc := 15) t113_15 rfl ?_
  refine zs_iconst (pc := 16) t113_16 (v := 2) (by decide) ?_
  obtain ⟨w5v, w5⟩ : ∃ v, (w3v.toUInt32 >>> ((2 : Int32).toUInt32 &&& Int32.toUInt32 31)).toInt32 = v := ⟨_, rfl⟩
  have w5g := zrg w5v
  refine zs_iushr (pc := 17) t113_17 (c := w5v) w5 ?_
  refine zs_ldc_w (pc := 18) t113_18 (v := 858993459) rfl (by decide) ?_
  obtain ⟨w6v, w6⟩ : ∃ v, w5v &&& (858993459 : Int32) = v := ⟨_, rfl⟩
  have w6g : 0 ≤ w6v.toInt ∧ w6v.toInt ≤ 858993459 := by rw [← w6]; exact zand li858993459 (by decide)
  refine zs_iand (pc := 21) t113_21 (c := w6v) w6 ?_
  obtain ⟨w7v, w7e, w7⟩ := ziadd (a := w4v) (b := w6v) rfl rfl (by omega) (by omega)
  refine zs_iadd (pc := 22) t113_22 (c := w7v) w7e ?_
  refine zs_istore_n (pc := 23) t113_23 (ls' := [(0, .int w7v)]) (zml mf113 (by decide)) rfl ?_
  refine zs_iload_n (pc := 24) t113_24 rfl ?_
  refine zs_iload_n (pc := 25) t113_25 rfl ?_
  refine zs_iconst (pc := 26) t113_26 (v := 4) (by decide) ?_
  obtain ⟨w8v, w8⟩ : ∃ v, (w7v.toUInt32 >>> ((4 : Int32).toUInt32 &&& Int32.toUInt32 31)).toInt32 = v := ⟨_, rfl⟩
  have w8g := zrg w8v
  refine zs_iushr (pc := 27) t113_27 (c := w8v) w8 ?_
  obtain ⟨w9v, w9⟩ : ∃ v, v = w7v + w8v := ⟨_, rfl⟩
  have w9g := zrg w9v
  refine zs_iadd (pc := 28) t113_28 (c := w9v) w9.symm ?_
  refine zs_ldc_w (pc := 29) t113_29 (v := 252645135) rfl (by decide) ?_
  obtain ⟨w10v, w10⟩ : ∃ v, w9v &&& (252645135 : Int32) = v := ⟨_, rfl⟩
  have w10g : 0 ≤ w10v.toInt ∧ w10v.toInt ≤ 252645135 := by rw [← w10]; exact zand li252645135 (by decide)
  refine zs_iand (pc := 32) t113_32 (c := w10v) w10 ?_
  refine zs_istore_n (pc := 33) t113_33 (ls' := [(0, .int w10v)]) (zml mf113 (by decide)) rfl ?_
  refine zs_iload_n (pc := 34) t113_34 rfl ?_
  refine zs_iload_n (pc := 35) t113_35 rfl ?_
  refine zs_bipush (pc := 36) t113_36 (v := 8) (by decide) ?_
  obtain ⟨w11v, w11⟩ : ∃ v, (w10v.toUInt32 >>> ((8 : Int32).toUInt32 &&& Int32.toUInt32 31)).toInt32 = v := ⟨_, rfl⟩
  have w11g := zrg w11v
  refine zs_iushr (pc := 38) t113_38 (c := w11v) w11 ?_
  obtain ⟨w12v, w12⟩ : ∃ v, v = w10v + w11v := ⟨_, rfl⟩
  have w12g := zrg w12v
  refine zs_iadd (pc := 39) t113_39 (c := w12v) w12.symm ?_
  refine zs_istore_n (pc := 40) t113_40 (ls' := [(0, .int w12v)]) (zml mf113 (by decide)) rfl ?_
  refine zs_iload_n (pc := 41) t113_41 rfl ?_
  refine zs_iload_n (pc := 42) t113_42 rfl ?_
  refine zs_bipush (pc := 43) t113_43 (v := 16) (by decide) ?_
  obtain ⟨w13v, w13⟩ : ∃ v, (w12v.toUInt32 >>> ((16 : Int32).toUInt32 &&& Int32.toUInt32 31)).toInt32 = v := ⟨_, rfl⟩
  have w13g := zrg w13v
  refine zs_iushr (pc := 45) t113_45 (c := w13v) w13 ?_
  obtain ⟨w14v, w14⟩ : ∃ v, v = w12v + w13v := ⟨_, rfl⟩
  have w14g := zrg w14v
  refine zs_iadd (pc := 46) t113_46 (c := w14v) w14.symm ?_
  refine zs_istore_n (pc := 47) t113_47 (ls' := [(0, .int w14v)]) (zml mf113 (by decide)) rfl ?_
  refine zs_iload_n (pc := 48) t113_48 rfl ?_
  refine zs_bipush (pc := 49) t113_49 (v := 63) (by decide) ?_
  obtain ⟨w15v, w15⟩ : ∃ v, w14v &&& (63 : Int32) = v := ⟨_, rfl⟩
  have w15g : 0 ≤ w15v.toInt ∧ w15v.toInt ≤ 63 := by rw [← w15]; exact zand li63 (by decide)
  refine zs_iand (pc := 51) t113_51 (c := w15v) w15 ?_
  exact zs_iret (pc := 52) t113_52 mr113 rfl (hQ _ (zrg _).1 (zrg _).2)
theorem C149_7 {X : zX} {l : Launch} {M : zM} {Q : Option Value → zM → Prop} {a b c : Int32} (hs : zSk zMc M) (hI : zIv cLo cHi M) (hQ : ∀ v : Int32, (-2147483648) ≤ v.toInt → v.toInt ≤ 2147483647 → Q (some (.int v)) M) : zCall X l 2 0 0 149 [.ref 7, .int a, .int b, .int c] M Q := by
  have ga := zrg a
  have gb := zrg b
  have gc := zrg c
  refine zs_in (by decide) mf149 (Nat.le_of_ble_eq_true rfl) ?_
  show zGo X l 2 0 0 149 0 [(0, .ref 7), (1, .int a), (2, .int b), (3, .int c)] [] M _
  refine zs_iconst (pc := 0) t149_0 (v := 1) (by decide) ?_
  refine zs_aload_n (pc := 1) t149_1 rfl ?_
  refine zs_get (pc := 2) t149_2 (by decide) (zk1 (hs.k fk_zMc_7)) (hs.p rfl fv_zMc_7_12) ?_
  refine zs_iconst (pc := 5) t149_5 (v := 2) (by decide) ?_
  have w1 := ib17 hI 2
  refine zs_iald (pc := 6) t149_6 (j := 2) (by decide) (zk1 (hs.k fk_zMc_17)) li2 (zk2 (hs.k fk_zMc_17) (by decide)) rfl ?_
  refine zs_invS (pc := 7) (as := [.int (1 : Int32), .int (zI M 17 2)]) (st := []) t149_7 (by decide) mf21 rfl rfl ⟨by decide, by decide, Nat.le_of_ble_eq_true rfl, Nat.le_of_ble_eq_true rfl⟩ (zs_in (by decide) mf21 (Nat.le_of_ble_eq_true rfl) ?_) (fun _ _ q => q)
  show zGo X l 0 0 0 21 0 [(0, .int (1 : Int32)), (1, .int (zI M 17 2))] [] M _
  refine zs_iload_n (pc := 0) t21_0 rfl ?_
  refine zs_iload_n (pc := 1) t21_1 rfl ?_
  by_cases w2 : 1 < (zI M 17 2).toInt
  · refine zs_icmp_ltT (pc := 2) t21_2 li1 rfl (by omega) ?_
    refine zs_iload_n (pc := 9) t21_9 rfl ?_
    refine zs_iret (pc := 10) t21_10 mr21 rfl ?_
    show zGo X l 2 0 0 149 10 [(0, .ref 7), (1, .int a), (2, .int b), (3, .int c)] [.int (zI M 17 2)] M _
    refine zs_istore (pc := 10) t149_10 (ls' := [(4, .int (zI M 17 2)), (0, .ref 7), (1, .int a), (2, .int b), (3, .int c)]) (zml mf149 (by decide)) rfl ?_
    refine zs_iconst (pc := 12) t149_12 (v := 0) (by decide) ?_
    refine zs_istore (pc := 13) t149_13 (ls' := [(5, .int (0 : Int32)), (4, .int (zI M 17 2)), (0, .ref 7), (1, .int a), (2, .int b), (3, .int c)]) (zml mf149 (by decide)) rfl ?_
    refine zs_iconst (pc := 15) t149_15 (v := 0) (by decide) ?_
    refine zs_istore (pc := 16) t149_16 (ls' := [(6, .int (0 : Int32)), (5, .int (0 : Int32)), (4, .int (zI M 17 2)), (0, .ref 7), (1, .int a), (2, .int b), (3, .int c)]) (zml mf149 (by decide)) rfl ?_
    have w3L : ∀ (m : Nat) (w3x5 : Int32) (w3x6 : Int32), (0 ≤ w3x6.toInt ∧ w3x6.toInt ≤ 60) → 60 - w3x6.toInt ≤ (m : Int) → zGo X l 2 0 0 149 18 [(0, .ref 7), (1, .int a), (2, .int b), (3, .int c), (4, .int (zI M 17 2)), (5, .int w3x5), (6, .int w3x6)] [] M Q := by
      intro m
      induction m using Nat.strongRecOn with
      | ind w3m w3ih =>
        intro w3x5 w3x6 w3b6 w3q
        have w3g5 := zrg w3x5
        refine zs_iload (pc := 18) t149_18 rfl ?_
        refine zs_aload_n (pc := 20) t149_20 rfl ?_
        have w4 := ib7_3 hI
        refine zs_get (pc := 21) t149_21 (by decide) (zk1 (hs.k fk_zMc_7)) (zfvi rfl rfl) ?_
        by_cases w5 : (zI M 7 3).toInt ≤ w3x6.toInt
        · refine zs_icmp_geT (pc := 24) t149_24 rfl rfl (by omega) ?_
          refine zs_iload (pc := 96) t149_96 rfl ?_
          refine zs_invS (pc := 98) (as := [.int w3x5]) (st := []) t149_98 (by decide) mf113 rfl rfl ⟨by decide, by decide, Nat.le_of_ble_eq_true rfl, Nat.le_of_ble_eq_true rfl⟩ (C113 hs hI ?_) (fun _ _ q => q)
          intro w6v w6a w6b
          show zGo X l 2 0 0 149 101 [(0, .ref 7), (1, .int a), (2, .int b), (3, .int c), (4, .int (zI M 17 2)), (5, .int w3x5), (6, .int w3x6)] [.int w6v] M _
          exact zs_iret (pc := 101) t149_101 mr149 rfl (hQ _ (zrg _).1 (zrg _).2)
        · refine zs_icmp_geF (pc := 24) t149_24 rfl rfl (by omega) ?_
          refine zs_aload_n (pc := 27) t149_27 rfl ?_
          refine zs_get (pc := 28) t149_28 (by decide) (zk1 (hs.k fk_zMc_7)) (hs.p rfl fv_zMc_7_4) ?_
          refine zs_iload (pc := 31) t149_31 rfl ?_
          obtain ⟨w7n, w7⟩ : ∃ n : Nat, w3x6.toInt = (n : Int) := ⟨w3x6.toInt.toNat, by omega⟩
          have w8 := ib10 hI w7n
          refine zs_iald (pc := 33) t149_33 (j := w7n) (by decide) (zk1 (hs.k fk_zMc_10)) w7 (zk2 (hs.k fk_zMc_10) (by omega)) rfl ?_
          refine zs_istore (pc := 34) t149_34 (ls' := [(7, .int (zI M 10 w7n)), (0, .ref 7), (1, .int a), (2, .int b), (3, .int c), (4, .int (zI M 17 2)), (5, .int w3x5), (6, .int w3x6)]) (zml mf149 (by decide)) rfl ?_
          refine zs_aload_n (pc := 36) t149_36 rfl ?_
          refine zs_get (pc := 37) t149_37 (by decide) (zk1 (hs.k fk_zMc_7)) (hs.p rfl fv_zMc_7_5) ?_
          refine zs_iload (pc := 40) t149_40 rfl ?_
          have w9 := ib11 hI w7n
          refine zs_iald (pc := 42) t149_42 (j := w7n) (by decide) (zk1 (hs.k fk_zMc_11)) w7 (zk2 (hs.k fk_zMc_11) (by omega)) rfl ?_
          refine zs_aload_n (pc := 43) t149_43 rfl ?_
          refine zs_iload (pc := 44) t149_44 rfl ?_
          refine zs_iload_n (pc := 46) t149_46 rfl ?_
          refine zs_invV (pc := 47) (k := 7) (as' := [.int (zI M 10 w7n), .int b]) (st := [.int (zI M 11 w7n)]) t149_47 mf53 rfl rfl (Or.inl ⟨by decide, (zk1 (hs.k fk_zMc_7))⟩) ⟨by decide, by decide, Nat.le_of_ble_eq_true rfl, Nat.le_of_ble_eq_true rfl⟩ (C53_7 hs hI ?_) (fun _ _ q => q)
          intro w10v w10a w10b
          show zGo X l 2 0 0 149 50 [(7, .int (zI M 10 w7n)), (0, .ref 7), (1, .int a), (2, .int b), (3, .int c), (4, .int (zI M 17 2)), (5, .int w3x5), (6, .int w3x6)] [.int w10v, .int (zI M 11 w7n)] M _
          obtain ⟨w11v, w11⟩ : ∃ v, v = (zI M 11 w7n) - w10v := ⟨_, rfl⟩
          have w11g := zrg w11v
          refine zs_isub (pc := 50) t149_50 (c := w11v) w11.symm ?_
          refine zs_aload_n (pc := 51) t149_51 rfl ?_
          refine zs_iload (pc := 52) t149_52 rfl ?_
          refine zs_iload_n (pc := 54) t149_54 rfl ?_
          refine zs_invV (pc := 55) (k := 7) (as' := [.int (zI M 10 w7n), .int a]) (st := [.int w11v]) t149_55 mf55 rfl rfl (Or.inl ⟨by decide, (zk1 (hs.k fk_zMc_7))⟩) ⟨by decide, by decide, Nat.le_of_ble_eq_true rfl, Nat.le_of_ble_eq_true rfl⟩ (C55_7 hs hI ?_) (fun _ _ q => q)
          intro w12v w12a w12b
          show zGo X l 2 0 0 149 58 [(7, .int (zI M 10 w7n)), (0, .ref 7), (1, .int a), (2, .int b), (3, .int c), (4, .int (zI M 17 2)), (5, .int w3x5), (6, .int w3x6)] [.int w12v, .int w11v] M _
          obtain ⟨w13v, w13⟩ : ∃ v, v = w11v - w12v := ⟨_, rfl⟩
          have w13g := zrg w13v
          refine zs_isub (pc := 58) t149_58 (c := w13v) w13.symm ?_
          refine zs_istore (pc := 59) t149_59 (ls' := [(8, .int w13v), (7, .int (zI M 10 w7n)), (0, .ref 7), (1, .int a), (2, .int b), (3, .int c), (4, .int (zI M 17 2)), (5, .int w3x5), (6, .int w3x6)]) (zml mf149 (by decide)) rfl ?_
          refine zs_aload_n (pc := 61) t149_61 rfl ?_
          refine zs_iload (pc := 62) t149_62 rfl ?_
          refine zs_invV (pc := 64) (k := 7) (as' := [.int w3x6]) (st := []) t149_64 mf93 rfl rfl (Or.inl ⟨by decide, (zk1 (hs.k fk_zMc_7))⟩) ⟨by decide, by decide, Nat.le_of_ble_eq_true rfl, Nat.le_of_ble_eq_true rfl⟩ (zs_in (by decide) mf93 (Nat.le_of_ble_eq_true rfl) ?_) (fun _ _ q => q)
          show zGo X l 1 0 0 93 0 [(0, .ref 7), (1, .int w3x6)] [] M _
          refine zs_aload_n (pc := 0) t93_0 rfl ?_
          refine zs_iload_n (pc := 1) t93_1 rfl ?_
          refine zs_invV (pc := 2) (k := 7) (as' := [.int w3x6]) (st := []) t93_2 mf91 rfl rfl (Or.inl ⟨by decide, (zk1 (hs.k fk_zMc_7))⟩) ⟨by decide, by decide, Nat.le_of_ble_eq_true rfl, Nat.le_of_ble_eq_true rfl⟩ (zs_in (by decide) mf91 (Nat.le_of_ble_eq_true rfl) ?_) (fun _ _ q => q)
          show zGo X l 0 0 0 91 0 [(0, .ref 7), (1, .int w3x6)] [] M _
          refine zs_iload_n (pc := 0) t91_0 rfl ?_
          refine zs_if_ltF (pc := 1) t91_1 rfl (by omega) ?_
          refine zs_iload_n (pc := 4) t91_4 rfl ?_
          refine zs_aload_n (pc := 5) t91_5 rfl ?_
          refine zs_get (pc := 6) t91_6 (by decide) (zk1 (hs.k fk_zMc_7)) (zfvi rfl rfl) ?_
          by_cases w14 : (zI M 7 3).toInt ≤ w3x6.toInt
          · refine zs_icmp_geT (pc := 9) t91_9 rfl rfl (by omega) ?_
            refine zs_iconst (pc := 16) t91_16 (v := 0) (by decide) ?_
            refine zs_iret (pc := 17) t91_17 mr91 (by decide) ?_
            show zGo X l 1 0 0 93 5 [(0, .ref 7), (1, .int w3x6)] [.int (0 : Int32)] M _
            refine zs_if_eqT (pc := 5) t93_5 li0 (by decide) ?_
            refine zs_iconst (pc := 51) t93_51 (v := 0) (by decide) ?_
            refine zs_iret (pc := 52) t93_52 mr93 (by decide) ?_
            show zGo X l 2 0 0 149 67 [(8, .int w13v), (7, .int (zI M 10 w7n)), (0, .ref 7), (1, .int a), (2, .int b), (3, .int c), (4, .int (zI M 17 2)), (5, .int w3x5), (6, .int w3x6)] [.int (0 : Int32)] M _
            refine zs_if_eqT (pc := 67) t149_67 li0 (by decide) ?_
            obtain ⟨w15v, w15e, w15⟩ := ziadd (a := w3x6) (b := Int32.ofInt 1) rfl (show (Int32.ofInt 1).toInt = 1 by decide) (by omega) (by omega)
            refine zs_iinc (pc := 90) t149_90 (ls' := [(6, .int w15v), (8, .int w13v), (7, .int (zI M 10 w7n)), (0, .ref 7), (1, .int a), (2, .int b), (3, .int c), (4, .int (zI M 17 2)), (5, .int w3x5)]) (zml mf149 (by decide)) rfl (c := w15v) w15e rfl ?_
            refine zs_goto (pc := 93) t149_93 ?_
            refine zGo.locals (ls' := [(0, .ref 7), (1, .int a), (2, .int b), (3, .int c), (4, .int (zI M 17 2)), (5, .int w3x5), (6, .int w15v)]) (by simp) ?_
            exact w3ih (w3m - 1) (by omega) w3x5 w15v ⟨by omega, by omega⟩ (by omega)
          · refine zs_icmp_geF (pc := 9) t91_9 rfl rfl (by omega) ?_
            refine zs_iconst (pc := 12) t91_12 (v := 1) (by decide) ?_
            refine zs_goto (pc := 13) t91_13 ?_
            refine zs_iret (pc := 17) t91_17 mr91 (by decide) ?_
            show zGo X l 1 0 0 93 5 [(0, .ref 7), (1, .int w3x6)] [.int (1 : Int32)] M _
            refine zs_if_eqF (pc := 5) t93_5 li1 (by decide) ?_
            refine zs_aload_n (pc := 8) t93_8 rfl ?_
            refine zs_get (pc := 9) t93_9 (by decide) (zk1 (hs.k fk_zMc_7)) (hs.p rfl fv_zMc_7_2) ?_
            refine zs_aload_n (pc := 12) t93_12 rfl ?_
            refine zs_get (pc := 13) t93_13 (by decide) (zk1 (hs.k fk_zMc_7)) (hs.p rfl fv_zMc_7_4) ?_
            refine zs_iload_n (pc := 16) t93_16 rfl ?_
            refine zs_iald (pc := 17) t93_17 (j := w7n) (by decide) (zk1 (hs.k fk_zMc_10)) w7 (zk2 (hs.k fk_zMc_10) (by omega)) rfl ?_
            obtain ⟨w16n, w16⟩ : ∃ n : Nat, (zI M 10 w7n).toInt = (n : Int) := ⟨(zI M 10 w7n).toInt.toNat, by omega⟩
            have w17 := ib9 hI w16n
            refine zs_bald (pc := 18) t93_18 (j := w16n) (Or.inr (zk1 (hs.k fk_zMc_9))) w16 (zk2 (hs.k fk_zMc_9) (by omega)) rfl ?_
            by_cases w18 : (zI M 9 w16n).toInt = 0
            · refine zs_if_eqT (pc := 19) t93_19 rfl (by omega) ?_
              refine zs_iconst (pc := 51) t93_51 (v := 0) (by decide) ?_
              refine zs_iret (pc := 52) t93_52 mr93 (by decide) ?_
              show zGo X l 2 0 0 149 67 [(8, .int w13v), (7, .int (zI M 10 w7n)), (0, .ref 7), (1, .int a), (2, .int b), (3, .int c), (4, .int (zI M 17 2)), (5, .int w3x5), (6, .int w3x6)] [.int (0 : Int32)] M _
              refine zs_if_eqT (pc := 67) t149_67 li0 (by decide) ?_
              obtain ⟨w19v, w19e, w19⟩ := ziadd (a := w3x6) (b := Int32.ofInt 1) rfl (show (Int32.ofInt 1).toInt = 1 by decide) (by omega) (by omega)
              refine zs_iinc (pc := 90) t149_90 (ls' := [(6, .int w19v), (8, .int w13v), (7, .int (zI M 10 w7n)), (0, .ref 7), (1, .int a), (2, .int b), (3, .int c), (4, .int (zI M 17 2)), (5, .int w3x5)]) (zml mf149 (by decide)) rfl (c := w19v) w19e rfl ?_
              refine zs_goto (pc := 93) t149_93 ?_
              refine zGo.locals (ls' := [(0, .ref 7), (1, .int a), (2, .int b), (3, .int c), (4, .int (zI M 17 2)), (5, .int w3x5), (6, .int w19v)]) (by simp) ?_
              exact w3ih (w3m - 1) (by omega) w3x5 w19v ⟨by omega, by omega⟩ (by omega)
            · refine zs_if_eqF (pc := 19) t93_19 rfl (by omega) ?_
              refine zs_aload_n (pc := 22) t93_22 rfl ?_
              refine zs_get (pc := 23) t93_23 (by decide) (zk1 (hs.k fk_zMc_7)) (hs.p rfl fv_zMc_7_6) ?_
              refine zs_iload_n (pc := 26) t93_26 rfl ?_
              have w20 := ib12 hI w7n
              refine zs_iald (pc := 27) t93_27 (j := w7n) (by decide) (zk1 (hs.k fk_zMc_12)) w7 (zk2 (hs.k fk_zMc_12) (by omega)) rfl ?_
              refine zs_aload_n (pc := 28) t93_28 rfl ?_
              refine zs_get (pc := 29) t93_29 (by decide) (zk1 (hs.k fk_zMc_7)) (hs.p rfl fv_zMc_7_12) ?_
              refine zs_iconst (pc := 32) t93_32 (v := 5) (by decide) ?_
              have w21 := ib17 hI 5
              refine zs_iald (pc := 33) t93_33 (j := 5) (by decide) (zk1 (hs.k fk_zMc_17)) li5 (zk2 (hs.k fk_zMc_17) (by decide)) rfl ?_
              refine zs_aload_n (pc := 34) t93_34 rfl ?_
              refine zs_get (pc := 35) t93_35 (by decide) (zk1 (hs.k fk_zMc_7)) (hs.p rfl fv_zMc_7_12) ?_
              refine zs_bipush (pc := 38) t93_38 (v := 6) (by decide) ?_
              have w22 := ib17 hI 6
              refine zs_iald (pc := 40) t93_40 (j := 6) (by decide) (zk1 (hs.k fk_zMc_17)) li6 (zk2 (hs.k fk_zMc_17) (by decide)) rfl ?_
              refine zs_invS (pc := 41) (as := [.int (zI M 12 w7n), .int (zI M 17 5), .int (zI M 17 6)]) (st := []) t93_41 (by decide) mf39 rfl rfl ⟨by decide, by decide, Nat.le_of_ble_eq_true rfl, Nat.le_of_ble_eq_true rfl⟩ (zs_in (by decide) mf39 (Nat.le_of_ble_eq_true rfl) ?_) (fun _ _ q => q)
              show zGo X l 0 0 0 39 0 [(0, .int (zI M 12 w7n)), (1, .int (zI M 17 5)), (2, .int (zI M 17 6))] [] M _
              refine zs_iload_n (pc := 0) t39_0 rfl ?_
              refine zs_iload_n (pc := 1) t39_1 rfl ?_
              by_cases w23 : (zI M 12 w7n).toInt < (zI M 17 5).toInt
              · refine zs_icmp_ltT (pc := 2) t39_2 rfl rfl (by omega) ?_
                refine zs_iconst (pc := 14) t39_14 (v := 0) (by decide) ?_
                refine zs_iret (pc := 15) t39_15 mr39 (by decide) ?_
                show zGo X l 1 0 0 93 44 [(0, .ref 7), (1, .int w3x6)] [.int (0 : Int32)] M _
                refine zs_if_eqT (pc := 44) t93_44 li0 (by decide) ?_
                refine zs_iconst (pc := 51) t93_51 (v := 0) (by decide) ?_
                refine zs_iret (pc := 52) t93_52 mr93 (by decide) ?_
                show zGo X l 2 0 0 149 67 [(8, .int w13v), (7, .int (zI M 10 w7n)), (0, .ref 7), (1, .int a), (2, .int b), (3, .int c), (4, .int (zI M 17 2)), (5, .int w3x5), (6, .int w3x6)] [.int (0 : Int32)] M _
                refine zs_if_eqT (pc := 67) t149_67 li0 (by decide) ?_
                obtain ⟨w24v, w24e, w24⟩ := ziadd (a := w3x6) (b := Int32.ofInt 1) rfl (show (Int32.ofInt 1).toInt = 1 by decide) (by omega) (by omega)
                refine zs_iinc (pc := 90) t149_90 (ls' := [(6, .int w24v), (8, .int w13v), (7, .int (zI M 10 w7n)), (0, .ref 7), (1, .int a), (2, .int b), (3, .int c), (4, .int (zI M 17 2)), (5, .int w3x5)]) (zml mf149 (by decide)) rfl (c := w24v) w24e rfl ?_
                refine zs_goto (pc := 93) t149_93 ?_
                refine zGo.locals (ls' := [(0, .ref 7), (1, .int a), (2, .int b), (3, .int c), (4, .int (zI M 17 2)), (5, .int w3x5), (6, .int w24v)]) (by simp) ?_
                exact w3ih (w3m - 1) (by omega) w3x5 w24v ⟨by omega, by omega⟩ (by omega)
              · refine zs_icmp_ltF (pc := 2) t39_2 rfl rfl (by omega) ?_
                refine zs_iload_n (pc := 5) t39_5 rfl ?_
                refine zs_iload_n (pc := 6) t39_6 rfl ?_
                by_cases w25 : (zI M 17 6).toInt < (zI M 12 w7n).toInt
                · refine zs_icmp_gtT (pc := 7) t39_7 rfl rfl (by omega) ?_
                  refine zs_iconst (pc := 14) t39_14 (v := 0) (by decide) ?_
                  refine zs_iret (pc := 15) t39_15 mr39 (by decide) ?_
                  show zGo X l 1 0 0 93 44 [(0, .ref 7), (1, .int w3x6)] [.int (0 : Int32)] M _
                  refine zs_if_eqT (pc := 44) t93_44 li0 (by decide) ?_
                  refine zs_iconst (pc := 51) t93_51 (v := 0) (by decide) ?_
                  refine zs_iret (pc := 52) t93_52 mr93 (by decide) ?_
                  show zGo X l 2 0 0 149 67 [(8, .int w13v), (7, .int (zI M 10 w7n)), (0, .ref 7), (1, .int a), (2, .int b), (3, .int c), (4, .int (zI M 17 2)), (5, .int w3x5), (6, .int w3x6)] [.int (0 : Int32)] M _
                  refine zs_if_eqT (pc := 67) t149_67 li0 (by decide) ?_
                  obtain ⟨w26v, w26e, w26⟩ := ziadd (a := w3x6) (b := Int32.ofInt 1) rfl (show (Int32.ofInt 1).toInt = 1 by decide) (by omega) (by omega)
                  refine zs_iinc (pc := 90) t149_90 (ls' := [(6, .int w26v), (8, .int w13v), (7, .int (zI M 10 w7n)), (0, .ref 7), (1, .int a), (2, .int b), (3, .int c), (4, .int (zI M 17 2)), (5, .int w3x5)]) (zml mf149 (by decide)) rfl (c := w26v) w26e rfl ?_
                  refine zs_goto (pc := 93) t149_93 ?_
                  refine zGo.locals (ls' := [(0, .ref 7), (1, .int a), (2, .int b), (3, .int c), (4, .int (zI M 17 2)), (5, .int w3x5), (6, .int w26v)]) (by simp) ?_
                  exact w3ih (w3m - 1) (by omega) w3x5 w26v ⟨by omega, by omega⟩ (by omega)
                · refine zs_icmp_gtF (pc := 7) t39_7 rfl rfl (by omega) ?_
                  refine zs_iconst (pc := 10) t39_10 (v := 1) (by decide) ?_
                  refine zs_goto (pc := 11) t39_11 ?_
                  refine zs_iret (pc := 15) t39_15 mr39 (by decide) ?_
                  show zGo X l 1 0 0 93 44 [(0, .ref 7), (1, .int w3x6)] [.int (1 : Int32)] M _
                  refine zs_if_eqF (pc := 44) t93_44 li1 (by decide) ?_
                  refine zs_iconst (pc := 47) t93_47 (v := 1) (by decide) ?_
                  refine zs_goto (pc := 48) t93_48 ?_
                  refine zs_iret (pc := 52) t93_52 mr93 (by decide) ?_
                  show zGo X l 2 0 0 149 67 [(8, .int w13v), (7, .int (zI M 10 w7n)), (0, .ref 7), (1, .int a), (2, .int b), (3, .int c), (4, .int (zI M 17 2)), (5, .int w3x5), (6, .int w3x6)] [.int (1 : Int32)] M _
                  refine zs_if_eqF (pc := 67) t149_67 li1 (by decide) ?_
                  refine zs_iload (pc := 70) t149_70 rfl ?_
                  refine zs_iload (pc := 72) t149_72 rfl ?_
                  refine zs_invS (pc := 74) (as := [.int w13v, .int (zI M 17 2)]) (st := []) t149_74 (by decide) mf54 rfl rfl ⟨by decide, by decide, Nat.le_of_ble_eq_true rfl, Nat.le_of_ble_eq_true rfl⟩ (zs_in (by decide) mf54 (Nat.le_of_ble_eq_true rfl) ?_) (fun _ _ q => q)
                  show zGo X l 0 0 0 54 0 [(0, .int w13v), (1, .int (zI M 17 2))] [] M _
                  refine zs_iload_n (pc := 0) t54_0 rfl ?_
                  refine zs_iload_n (pc := 1) t54_1 rfl ?_
                  obtain ⟨w27v, w27⟩ : ∃ v, w13v / (zI M 17 2) = v := ⟨_, rfl⟩
                  have w27g := zrg w27v
                  refine zs_idiv (pc := 2) t54_2 (znz rfl (by omega)) (c := w27v) w27 ?_
                  refine zs_istore_n (pc := 3) t54_3 (ls' := [(2, .int w27v), (0, .int w13v), (1, .int (zI M 17 2))]) (zml mf54 (by decide)) rfl ?_
                  refine zs_iload_n (pc := 4) t54_4 rfl ?_
                  refine zs_iload_n (pc := 5) t54_5 rfl ?_
                  obtain ⟨w28v, w28⟩ : ∃ v, w13v ^^^ (zI M 17 2) = v := ⟨_, rfl⟩
                  have w28g := zrg w28v
                  refine zs_ixor (pc := 6) t54_6 (c := w28v) w28 ?_
                  by_cases w29 : 0 ≤ w28v.toInt
                  · refine zs_if_geT (pc := 7) t54_7 rfl (by omega) ?_
                    refine zs_iload_n (pc := 21) t54_21 rfl ?_
                    refine zs_iret (pc := 22) t54_22 mr54 rfl ?_
                    show zGo X l 2 0 0 149 77 [(8, .int w13v), (7, .int (zI M 10 w7n)), (0, .ref 7), (1, .int a), (2, .int b), (3, .int c), (4, .int (zI M 17 2)), (5, .int w3x5), (6, .int w3x6)] [.int w27v] M _
                    refine zs_iload_n (pc := 77) t149_77 rfl ?_
                    by_cases w30 : w27v.toInt ≠ c.toInt
                    · refine zs_icmp_neT (pc := 78) t149_78 rfl rfl (by omega) ?_
                      obtain ⟨w31v, w31e, w31⟩ := ziadd (a := w3x6) (b := Int32.ofInt 1) rfl (show (Int32.ofInt 1).toInt = 1 by decide) (by omega) (by omega)
                      refine zs_iinc (pc := 90) t149_90 (ls' := [(6, .int w31v), (8, .int w13v), (7, .int (zI M 10 w7n)), (0, .ref 7), (1, .int a), (2, .int b), (3, .int c), (4, .int (zI M 17 2)), (5, .int w3x5)]) (zml mf149 (by decide)) rfl (c := w31v) w31e rfl ?_
                      refine zs_goto (pc := 93) t149_93 ?_
                      refine zGo.locals (ls' := [(0, .ref 7), (1, .int a), (2, .int b), (3, .int c), (4, .int (zI M 17 2)), (5, .int w3x5), (6, .int w31v)]) (by simp) ?_
                      exact w3ih (w3m - 1) (by omega) w3x5 w31v ⟨by omega, by omega⟩ (by omega)
                    · refine zs_icmp_neF (pc := 78) t149_78 rfl rfl (by omega) ?_
                      refine zs_iload (pc := 81) t149_81 rfl ?_
                      refine zs_iconst (pc := 83) t149_83 (v := 1) (by decide) ?_
                      refine zs_iload (pc := 84) t149_84 rfl ?_
                      obtain ⟨w32v, w32⟩ : ∃ v, (1 : Int32) <<< ((zI M 10 w7n) &&& 31) = v := ⟨_, rfl⟩
                      have w32g := zrg w32v
                      refine zs_ishl (pc := 86) t149_86 (c := w32v) w32 ?_
                      obtain ⟨w33v, w33⟩ : ∃ v, w3x5 ||| w32v = v := ⟨_, rfl⟩
                      have w33g := zrg w33v
                      refine zs_ior (pc := 87) t149_87 (c := w33v) w33 ?_
                      refine zs_istore (pc := 88) t149_88 (ls' := [(5, .int w33v), (8, .int w13v), (7, .int (zI M 10 w7n)), (0, .ref 7), (1, .int a), (2, .int b), (3, .int c), (4, .int (zI M 17 2)), (6, .int w3x6)]) (zml mf149 (by decide)) rfl ?_
                      obtain ⟨w34v, w34e, w34⟩ := ziadd (a := w3x6) (b := Int32.ofInt 1) rfl (show (Int32.ofInt 1).toInt = 1 by decide) (by omega) (by omega)
                      refine zs_iinc (pc := 90) t149_90 (ls' := [(6, .int w34v), (5, .int w33v), (8, .int w13v), (7, .int (zI M 10 w7n)), (0, .ref 7), (1, .int a), (2, .int b), (3, .int c), (4, .int (zI M 17 2))]) (zml mf149 (by decide)) rfl (c := w34v) w34e rfl ?_
                      refine zs_goto (pc := 93) t149_93 ?_
                      refine zGo.locals (ls' := [(0, .ref 7), (1, .int a), (2, .int b), (3, .int c), (4, .int (zI M 17 2)), (5, .int w33v), (6, .int w34v)]) (by simp) ?_
                      exact w3ih (w3m - 1) (by omega) w33v w34v ⟨by omega, by omega⟩ (by omega)
                  · refine zs_if_geF (pc := 7) t54_7 rfl (by omega) ?_
                    refine zs_iload_n (pc := 10) t54_10 rfl ?_
                    refine zs_iload_n (pc := 11) t54_11 rfl ?_
                    obtain ⟨w35v, w35⟩ : ∃ v, w27v * (zI M 17 2) = v := ⟨_, rfl⟩
                    have w35g := zrg w35v
                    refine zs_imul (pc := 12) t54_12 (c := w35v) w35 ?_
                    refine zs_iload_n (pc := 13) t54_13 rfl ?_
                    by_cases w36 : w35v.toInt = w13v.toInt
                    · refine zs_icmp_eqT (pc := 14) t54_14 rfl rfl (by omega) ?_
                      refine zs_iload_n (pc := 21) t54_21 rfl ?_
                      refine zs_iret (pc := 22) t54_22 mr54 rfl ?_
                      show zGo X l 2 0 0 149 77 [(8, .int w13v), (7, .int (zI M 10 w7n)), (0, .ref 7), (1, .int a), (2, .int b), (3, .int c), (4, .int (zI M 17 2)), (5, .int w3x5), (6, .int w3x6)] [.int w27v] M _
                      refine zs_iload_n (pc := 77) t149_77 rfl ?_
                      by_cases w37 : w27v.toInt ≠ c.toInt
                      · refine zs_icmp_neT (pc := 78) t149_78 rfl rfl (by omega) ?_
                        obtain ⟨w38v, w38e, w38⟩ := ziadd (a := w3x6) (b := Int32.ofInt 1) rfl (show (Int32.ofInt 1).toInt = 1 by decide) (by omega) (by omega)
                        refine zs_iinc (pc := 90) t149_90 (ls' := [(6, .int w38v), (8, .int w13v), (7, .int (zI M 10 w7n)), (0, .ref 7), (1, .int a), (2, .int b), (3, .int c), (4, .int (zI M 17 2)), (5, .int w3x5)]) (zml mf149 (by decide)) rfl (c := w38v) w38e rfl ?_
                        refine zs_goto (pc := 93) t149_93 ?_
                        refine zGo.locals (ls' := [(0, .ref 7), (1, .int a), (2, .int b), (3, .int c), (4, .int (zI M 17 2)), (5, .int w3x5), (6, .int w38v)]) (by simp) ?_
                        exact w3ih (w3m - 1) (by omega) w3x5 w38v ⟨by omega, by omega⟩ (by omega)
                      · refine zs_icmp_neF (pc := 78) t149_78 rfl rfl (by omega) ?_
                        refine zs_iload (pc := 81) t149_81 rfl ?_
                        refine zs_iconst (pc := 83) t149_83 (v := 1) (by decide) ?_
                        refine zs_iload (pc := 84) t149_84 rfl ?_
                        obtain ⟨w39v, w39⟩ : ∃ v, (1 : Int32) <<< ((zI M 10 w7n) &&& 31) = v := ⟨_, rfl⟩
                        have w39g := zrg w39v
                        refine zs_ishl (pc := 86) t149_86 (c := w39v) w39 ?_
                        obtain ⟨w40v, w40⟩ : ∃ v, w3x5 ||| w39v = v := ⟨_, rfl⟩
                        have w40g := zrg w40v
                        refine zs_ior (pc := 87) t149_87 (c := w40v) w40 ?_
                        refine zs_istore (pc := 88) t149_88 (ls' := [(5, .int w40v), (8, .int w13v), (7, .int (zI M 10 w7n)), (0, .ref 7), (1, .int a), (2, .int b), (3, .int c), (4, .int (zI M 17 2)), (6, .int w3x6)]) (zml mf149 (by decide)) rfl ?_
                        obtain ⟨w41v, w41e, w41⟩ := ziadd (a := w3x6) (b := Int32.ofInt 1) rfl (show (Int32.ofInt 1).toInt = 1 by decide) (by omega) (by omega)
                        refine zs_iinc (pc := 90) t149_90 (ls' := [(6, .int w41v), (5, .int w40v), (8, .int w13v), (7, .int (zI M 10 w7n)), (0, .ref 7), (1, .int a), (2, .int b), (3, .int c), (4, .int (zI M 17 2))]) (zml mf149 (by decide)) rfl (c := w41v) w41e rfl ?_
                        refine zs_goto (pc := 93) t149_93 ?_
                        refine zGo.locals (ls' := [(0, .ref 7), (1, .int a), (2, .int b), (3, .int c), (4, .int (zI M 17 2)), (5, .int w40v), (6, .int w41v)]) (by simp) ?_
                        exact w3ih (w3m - 1) (by omega) w40v w41v ⟨by omega, by omega⟩ (by omega)
                    · refine zs_icmp_eqF (pc := 14) t54_14 rfl rfl (by omega) ?_
                      refine zs_iload_n (pc := 17) t54_17 rfl ?_
                      refine zs_iconst (pc := 18) t54_18 (v := 1) (by decide) ?_
                      obtain ⟨w42v, w42⟩ : ∃ v, v = w27v - (1 : Int32) := ⟨_, rfl⟩
                      have w42g := zrg w42v
                      refine zs_isub (pc := 19) t54_19 (c := w42v) w42.symm ?_
                      refine zs_iret (pc := 20) t54_20 mr54 rfl ?_
                      show zGo X l 2 0 0 149 77 [(8, .int w13v), (7, .int (zI M 10 w7n)), (0, .ref 7), (1, .int a), (2, .int b), (3, .int c), (4, .int (zI M 17 2)), (5, .int w3x5), (6, .int w3x6)] [.int w42v] M _
                      refine zs_iload_n (pc := 77) t149_77 rfl ?_
                      by_cases w43 : w42v.toInt ≠ c.toInt
                      · refine zs_icmp_neT (pc := 78) t149_78 rfl rfl (by omega) ?_
                        obtain ⟨w44v, w44e, w44⟩ := ziadd (a := w3x6) (b := Int32.ofInt 1) rfl (show (Int32.ofInt 1).toInt = 1 by decide) (by omega) (by omega)
                        refine zs_iinc (pc := 90) t149_90 (ls' := [(6, .int w44v), (8, .int w13v), (7, .int (zI M 10 w7n)), (0, .ref 7), (1, .int a), (2, .int b), (3, .int c), (4, .int (zI M 17 2)), (5, .int w3x5)]) (zml mf149 (by decide)) rfl (c := w44v) w44e rfl ?_
                        refine zs_goto (pc := 93) t149_93 ?_
                        refine zGo.locals (ls' := [(0, .ref 7), (1, .int a), (2, .int b), (3, .int c), (4, .int (zI M 17 2)), (5, .int w3x5), (6, .int w44v)]) (by simp) ?_
                        exact w3ih (w3m - 1) (by omega) w3x5 w44v ⟨by omega, by omega⟩ (by omega)
                      · refine zs_icmp_neF (pc := 78) t149_78 rfl rfl (by omega) ?_
                        refine zs_iload (pc := 81) t149_81 rfl ?_
                        refine zs_iconst (pc := 83) t149_83 (v := 1) (by decide) ?_
                        refine zs_iload (pc := 84) t149_84 rfl ?_
                        obtain ⟨w45v, w45⟩ : ∃ v, (1 : Int32) <<< ((zI M 10 w7n) &&& 31) = v := ⟨_, rfl⟩
                        have w45g := zrg w45v
                        refine zs_ishl (pc := 86) t149_86 (c := w45v) w45 ?_
                        obtain ⟨w46v, w46⟩ : ∃ v, w3x5 ||| w45v = v := ⟨_, rfl⟩
                        have w46g := zrg w46v
                        refine zs_ior (pc := 87) t149_87 (c := w46v) w46 ?_
                        refine zs_istore (pc := 88) t149_88 (ls' := [(5, .int w46v), (8, .int w13v), (7, .int (zI M 10 w7n)), (0, .ref 7), (1, .int a), (2, .int b), (3, .int c), (4, .int (zI M 17 2)), (6, .int w3x6)]) (zml mf149 (by decide)) rfl ?_
                        obtain ⟨w47v, w47e, w47⟩ := ziadd (a := w3x6) (b := Int32.ofInt 1) rfl (show (Int32.ofInt 1).toInt = 1 by decide) (by omega) (by omega)
                        refine zs_iinc (pc := 90) t149_90 (ls' := [(6, .int w47v), (5, .int w46v), (8, .int w13v), (7, .int (zI M 10 w7n)), (0, .ref 7), (1, .int a), (2, .int b), (3, .int c), (4, .int (zI M 17 2))]) (zml mf149 (by decide)) rfl (c := w47v) w47e rfl ?_
                        refine zs_goto (pc := 93) t149_93 ?_
                        refine zGo.locals (ls' := [(0, .ref 7), (1, .int a), (2, .int b), (3, .int c), (4, .int (zI M 17 2)), (5, .int w46v), (6, .int w47v)]) (by simp) ?_
                        exact w3ih (w3m - 1) (by omega) w46v w47v ⟨by omega, by omega⟩ (by omega)
    refine zGo.locals (ls' := [(0, .ref 7), (1, .int a), (2, .int b), (3, .int c), (4, .int (zI M 17 2)), (5, .int (0 : Int32)), (6, .int (0 : Int32))]) (by simp) ?_
    have w48 := li0
    have w49 := li0
    exact w3L ((60 - 0 : Int).toNat) (0 : Int32) (0 : Int32) ⟨by decide, by decide⟩ (by omega)
  · refine zs_icmp_ltF (pc := 2) t21_2 li1 rfl (by omega) ?_
    refine zs_iload_n (pc := 5) t21_5 rfl ?_
    refine zs_goto (pc := 6) t21_6 ?_
    refine zs_iret (pc := 10) t21_10 mr21 (by decide) ?_
    show zGo X l 2 0 0 149 10 [(0, .ref 7), (1, .int a), (2, .int b), (3, .int c)] [.int (1 : Int32)] M _
    refine zs_istore (pc := 10) t149_10 (ls' := [(4, .int (1 : Int32)), (0, .ref 7), (1, .int a), (2, .int b), (3, .int c)]) (zml mf149 (by decide)) rfl ?_
    refine zs_iconst (pc := 12) t149_12 (v := 0) (by decide) ?_
    refine zs_istore (pc := 13) t149_13 (ls' := [(5, .int (0 : Int32)), (4, .int (1 : Int32)), (0, .ref 7), (1, .int a), (2, .int b), (3, .int c)]) (zml mf149 (by decide)) rfl ?_
    refine zs_iconst (pc := 15) t149_15 (v := 0) (by decide) ?_
    refine zs_istore (pc := 16) t149_16 (ls' := [(6, .int (0 : Int32)), (5, .int (0 : Int32)), (4, .int (1 : Int32)), (0, .ref 7), (1, .int a), (2, .int b), (3, .int c)]) (zml mf149 (by decide)) rfl ?_
    have w50L : ∀ (m : Nat) (w50x5 : Int32) (w50x6 : Int32), (0 ≤ w50x6.toInt ∧ w50x6.toInt ≤ 60) → 60 - w50x6.toInt ≤ (m : Int) → zGo X l 2 0 0 149 18 [(0, .ref 7), (1, .int a), (2, .int b), (3, .int c), (4, .int (1 : Int32)), (5, .int w50x5), (6, .int w50x6)] [] M Q := by
      intro m
      induction m using Nat.strongRecOn with
      | ind w50m w50ih =>
        intro w50x5 w50x6 w50b6 w50q
        have w50g5 := zrg w50x5
        refine zs_iload (pc := 18) t149_18 rfl ?_
        refine zs_aload_n (pc := 20) t149_20 rfl ?_
        have w51 := ib7_3 hI
        refine zs_get (pc := 21) t149_21 (by decide) (zk1 (hs.k fk_zMc_7)) (zfvi rfl rfl) ?_
        by_cases w52 : (zI M 7 3).toInt ≤ w50x6.toInt
        · refine zs_icmp_geT (pc := 24) t149_24 rfl rfl (by omega) ?_
          refine zs_iload (pc := 96) t149_96 rfl ?_
          refine zs_invS (pc := 98) (as := [.int w50x5]) (st := []) t149_98 (by decide) mf113 rfl rfl ⟨by decide, by decide, Nat.le_of_ble_eq_true rfl, Nat.le_of_ble_eq_true rfl⟩ (C113 hs hI ?_) (fun _ _ q => q)
          intro w53v w53a w53b
          show zGo X l 2 0 0 149 101 [(0, .ref 7), (1, .int a), (2, .int b), (3, .int c), (4, .int (1 : Int32)), (5, .int w50x5), (6, .int w50x6)] [.int w53v] M _
          exact zs_iret (pc := 101) t149_101 mr149 rfl (hQ _ (zrg _).1 (zrg _).2)
        · refine zs_icmp_geF (pc := 24) t149_24 rfl rfl (by omega) ?_
          refine zs_aload_n (pc := 27) t149_27 rfl ?_
          refine zs_get (pc := 28) t149_28 (by decide) (zk1 (hs.k fk_zMc_7)) (hs.p rfl fv_zMc_7_4) ?_
          refine zs_iload (pc := 31) t149_31 rfl ?_
          obtain ⟨w54n, w54⟩ : ∃ n : Nat, w50x6.toInt = (n : Int) := ⟨w50x6.toInt.toNat, by omega⟩
          have w55 := ib10 hI w54n
          refine zs_iald (pc := 33) t149_33 (j := w54n) (by decide) (zk1 (hs.k fk_zMc_10)) w54 (zk2 (hs.k fk_zMc_10) (by omega)) rfl ?_
          refine zs_istore (pc := 34) t149_34 (ls' := [(7, .int (zI M 10 w54n)), (0, .ref 7), (1, .int a), (2, .int b), (3, .int c), (4, .int (1 : Int32)), (5, .int w50x5), (6, .int w50x6)]) (zml mf149 (by decide)) rfl ?_
          refine zs_aload_n (pc := 36) t149_36 rfl ?_
          refine zs_get (pc := 37) t149_37 (by decide) (zk1 (hs.k fk_zMc_7)) (hs.p rfl fv_zMc_7_5) ?_
          refine zs_iload (pc := 40) t149_40 rfl ?_
          have w56 := ib11 hI w54n
          refine zs_iald (pc := 42) t149_42 (j := w54n) (by decide) (zk1 (hs.k fk_zMc_11)) w54 (zk2 (hs.k fk_zMc_11) (by omega)) rfl ?_
          refine zs_aload_n (pc := 43) t149_43 rfl ?_
          refine zs_iload (pc := 44) t149_44 rfl ?_
          refine zs_iload_n (pc := 46) t149_46 rfl ?_
          refine zs_invV (pc := 47) (k := 7) (as' := [.int (zI M 10 w54n), .int b]) (st := [.int (zI M 11 w54n)]) t149_47 mf53 rfl rfl (Or.inl ⟨by decide, (zk1 (hs.k fk_zMc_7))⟩) ⟨by decide, by decide, Nat.le_of_ble_eq_true rfl, Nat.le_of_ble_eq_true rfl⟩ (C53_7 hs hI ?_) (fun _ _ q => q)
          intro w57v w57a w57b
          show zGo X l 2 0 0 149 50 [(7, .int (zI M 10 w54n)), (0, .ref 7), (1, .int a), (2, .int b), (3, .int c), (4, .int (1 : Int32)), (5, .int w50x5), (6, .int w50x6)] [.int w57v, .int (zI M 11 w54n)] M _
          obtain ⟨w58v, w58⟩ : ∃ v, v = (zI M 11 w54n) - w57v := ⟨_, rfl⟩
          have w58g := zrg w58v
          refine zs_isub (pc := 50) t149_50 (c := w58v) w58.symm ?_
          refine zs_aload_n (pc := 51) t149_51 rfl ?_
          refine zs_iload (pc := 52) t149_52 rfl ?_
          refine zs_iload_n (pc := 54) t149_54 rfl ?_
          refine zs_invV (pc := 55) (k := 7) (as' := [.int (zI M 10 w54n), .int a]) (st := [.int w58v]) t149_55 mf55 rfl rfl (Or.inl ⟨by decide, (zk1 (hs.k fk_zMc_7))⟩) ⟨by decide, by decide, Nat.le_of_ble_eq_true rfl, Nat.le_of_ble_eq_true rfl⟩ (C55_7 hs hI ?_) (fun _ _ q => q)
          intro w59v w59a w59b
          show zGo X l 2 0 0 149 58 [(7, .int (zI M 10 w54n)), (0, .ref 7), (1, .int a), (2, .int b), (3, .int c), (4, .int (1 : Int32)), (5, .int w50x5), (6, .int w50x6)] [.int w59v, .int w58v] M _
          obtain ⟨w60v, w60⟩ : ∃ v, v = w58v - w59v := ⟨_, rfl⟩
          have w60g := zrg w60v
          refine zs_isub (pc := 58) t149_58 (c := w60v) w60.symm ?_
          refine zs_istore (pc := 59) t149_59 (ls' := [(8, .int w60v), (7, .int (zI M 10 w54n)), (0, .ref 7), (1, .int a), (2, .int b), (3, .int c), (4, .int (1 : Int32)), (5, .int w50x5), (6, .int w50x6)]) (zml mf149 (by decide)) rfl ?_
          refine zs_aload_n (pc := 61) t149_61 rfl ?_
          refine zs_iload (pc := 62) t149_62 rfl ?_
          refine zs_invV (pc := 64) (k := 7) (as' := [.int w50x6]) (st := []) t149_64 mf93 rfl rfl (Or.inl ⟨by decide, (zk1 (hs.k fk_zMc_7))⟩) ⟨by decide, by decide, Nat.le_of_ble_eq_true rfl, Nat.le_of_ble_eq_true rfl⟩ (zs_in (by decide) mf93 (Nat.le_of_ble_eq_true rfl) ?_) (fun _ _ q => q)
          show zGo X l 1 0 0 93 0 [(0, .ref 7), (1, .int w50x6)] [] M _
          refine zs_aload_n (pc := 0) t93_0 rfl ?_
          refine zs_iload_n (pc := 1) t93_1 rfl ?_
          refine zs_invV (pc := 2) (k := 7) (as' := [.int w50x6]) (st := []) t93_2 mf91 rfl rfl (Or.inl ⟨by decide, (zk1 (hs.k fk_zMc_7))⟩) ⟨by decide, by decide, Nat.le_of_ble_eq_true rfl, Nat.le_of_ble_eq_true rfl⟩ (zs_in (by decide) mf91 (Nat.le_of_ble_eq_true rfl) ?_) (fun _ _ q => q)
          show zGo X l 0 0 0 91 0 [(0, .ref 7), (1, .int w50x6)] [] M _
          refine zs_iload_n (pc := 0) t91_0 rfl ?_
          refine zs_if_ltF (pc := 1) t91_1 rfl (by omega) ?_
          refine zs_iload_n (pc := 4) t91_4 rfl ?_
          refine zs_aload_n (pc := 5) t91_5 rfl ?_
          refine zs_get (pc := 6) t91_6 (by decide) (zk1 (hs.k fk_zMc_7)) (zfvi rfl rfl) ?_
          by_cases w61 : (zI M 7 3).toInt ≤ w50x6.toInt
          · refine zs_icmp_geT (pc := 9) t91_9 rfl rfl (by omega) ?_
            refine zs_iconst (pc := 16) t91_16 (v := 0) (by decide) ?_
            refine zs_iret (pc := 17) t91_17 mr91 (by decide) ?_
            show zGo X l 1 0 0 93 5 [(0, .ref 7), (1, .int w50x6)] [.int (0 : Int32)] M _
            refine zs_if_eqT (pc := 5) t93_5 li0 (by decide) ?_
            refine zs_iconst (pc := 51) t93_51 (v := 0) (by decide) ?_
            refine zs_iret (pc := 52) t93_52 mr93 (by decide) ?_
            show zGo X l 2 0 0 149 67 [(8, .int w60v), (7, .int (zI M 10 w54n)), (0, .ref 7), (1, .int a), (2, .int b), (3, .int c), (4, .int (1 : Int32)), (5, .int w50x5), (6, .int w50x6)] [.int (0 : Int32)] M _
            refine zs_if_eqT (pc := 67) t149_67 li0 (by decide) ?_
            obtain ⟨w62v, w62e, w62⟩ := ziadd (a := w50x6) (b := Int32.ofInt 1) rfl (show (Int32.ofInt 1).toInt = 1 by decide) (by omega) (by omega)
            refine zs_iinc (pc := 90) t149_90 (ls' := [(6, .int w62v), (8, .int w60v), (7, .int (zI M 10 w54n)), (0, .ref 7), (1, .int a), (2, .int b), (3, .int c), (4, .int (1 : Int32)), (5, .int w50x5)]) (zml mf149 (by decide)) rfl (c := w62v) w62e rfl ?_
            refine zs_goto (pc := 93) t149_93 ?_
            refine zGo.locals (ls' := [(0, .ref 7), (1, .int a), (2, .int b), (3, .int c), (4, .int (1 : Int32)), (5, .int w50x5), (6, .int w62v)]) (by simp) ?_
            exact w50ih (w50m - 1) (by omega) w50x5 w62v ⟨by omega, by omega⟩ (by omega)
          · refine zs_icmp_geF (pc := 9) t91_9 rfl rfl (by omega) ?_
            refine zs_iconst (pc := 12) t91_12 (v := 1) (by decide) ?_
            refine zs_goto (pc := 13) t91_13 ?_
            refine zs_iret (pc := 17) t91_17 mr91 (by decide) ?_
            show zGo X l 1 0 0 93 5 [(0, .ref 7), (1, .int w50x6)] [.int (1 : Int32)] M _
            refine zs_if_eqF (pc := 5) t93_5 li1 (by decide) ?_
            refine zs_aload_n (pc := 8) t93_8 rfl ?_
            refine zs_get (pc := 9) t93_9 (by decide) (zk1 (hs.k fk_zMc_7)) (hs.p rfl fv_zMc_7_2) ?_
            refine zs_aload_n (pc := 12) t93_12 rfl ?_
            refine zs_get (pc := 13) t93_13 (by decide) (zk1 (hs.k fk_zMc_7)) (hs.p rfl fv_zMc_7_4) ?_
            refine zs_iload_n (pc := 16) t93_16 rfl ?_
            refine zs_iald (pc := 17) t93_17 (j := w54n) (by decide) (zk1 (hs.k fk_zMc_10)) w54 (zk2 (hs.k fk_zMc_10) (by omega)) rfl ?_
            obtain ⟨w63n, w63⟩ : ∃ n : Nat, (zI M 10 w54n).toInt = (n : Int) := ⟨(zI M 10 w54n).toInt.toNat, by omega⟩
            have w64 := ib9 hI w63n
            refine zs_bald (pc := 18) t93_18 (j := w63n) (Or.inr (zk1 (hs.k fk_zMc_9))) w63 (zk2 (hs.k fk_zMc_9) (by omega)) rfl ?_
            by_cases w65 : (zI M 9 w63n).toInt = 0
            · refine zs_if_eqT (pc := 19) t93_19 rfl (by omega) ?_
              refine zs_iconst (pc := 51) t93_51 (v := 0) (by decide) ?_
              refine zs_iret (pc := 52) t93_52 mr93 (by decide) ?_
              show zGo X l 2 0 0 149 67 [(8, .int w60v), (7, .int (zI M 10 w54n)), (0, .ref 7), (1, .int a), (2, .int b), (3, .int c), (4, .int (1 : Int32)), (5, .int w50x5), (6, .int w50x6)] [.int (0 : Int32)] M _
              refine zs_if_eqT (pc := 67) t149_67 li0 (by decide) ?_
              obtain ⟨w66v, w66e, w66⟩ := ziadd (a := w50x6) (b := Int32.ofInt 1) rfl (show (Int32.ofInt 1).toInt = 1 by decide) (by omega) (by omega)
              refine zs_iinc (pc := 90) t149_90 (ls' := [(6, .int w66v), (8, .int w60v), (7, .int (zI M 10 w54n)), (0, .ref 7), (1, .int a), (2, .int b), (3, .int c), (4, .int (1 : Int32)), (5, .int w50x5)]) (zml mf149 (by decide)) rfl (c := w66v) w66e rfl ?_
              refine zs_goto (pc := 93) t149_93 ?_
              refine zGo.locals (ls' := [(0, .ref 7), (1, .int a), (2, .int b), (3, .int c), (4, .int (1 : Int32)), (5, .int w50x5), (6, .int w66v)]) (by simp) ?_
              exact w50ih (w50m - 1) (by omega) w50x5 w66v ⟨by omega, by omega⟩ (by omega)
            · refine zs_if_eqF (pc := 19) t93_19 rfl (by omega) ?_
              refine zs_aload_n (pc := 22) t93_22 rfl ?_
              refine zs_get (pc := 23) t93_23 (by decide) (zk1 (hs.k fk_zMc_7)) (hs.p rfl fv_zMc_7_6) ?_
              refine zs_iload_n (pc := 26) t93_26 rfl ?_
              have w67 := ib12 hI w54n
              refine zs_iald (pc := 27) t93_27 (j := w54n) (by decide) (zk1 (hs.k fk_zMc_12)) w54 (zk2 (hs.k fk_zMc_12) (by omega)) rfl ?_
              refine zs_aload_n (pc := 28) t93_28 rfl ?_
              refine zs_get (pc := 29) t93_29 (by decide) (zk1 (hs.k fk_zMc_7)) (hs.p rfl fv_zMc_7_12) ?_
              refine zs_iconst (pc := 32) t93_32 (v := 5) (by decide) ?_
              have w68 := ib17 hI 5
              refine zs_iald (pc := 33) t93_33 (j := 5) (by decide) (zk1 (hs.k fk_zMc_17)) li5 (zk2 (hs.k fk_zMc_17) (by decide)) rfl ?_
              refine zs_aload_n (pc := 34) t93_34 rfl ?_
              refine zs_get (pc := 35) t93_35 (by decide) (zk1 (hs.k fk_zMc_7)) (hs.p rfl fv_zMc_7_12) ?_
              refine zs_bipush (pc := 38) t93_38 (v := 6) (by decide) ?_
              have w69 := ib17 hI 6
              refine zs_iald (pc := 40) t93_40 (j := 6) (by decide) (zk1 (hs.k fk_zMc_17)) li6 (zk2 (hs.k fk_zMc_17) (by decide)) rfl ?_
              refine zs_invS (pc := 41) (as := [.int (zI M 12 w54n), .int (zI M 17 5), .int (zI M 17 6)]) (st := []) t93_41 (by decide) mf39 rfl rfl ⟨by decide, by decide, Nat.le_of_ble_eq_true rfl, Nat.le_of_ble_eq_true rfl⟩ (zs_in (by decide) mf39 (Nat.le_of_ble_eq_true rfl) ?_) (fun _ _ q => q)
              show zGo X l 0 0 0 39 0 [(0, .int (zI M 12 w54n)), (1, .int (zI M 17 5)), (2, .int (zI M 17 6))] [] M _
              refine zs_iload_n (pc := 0) t39_0 rfl ?_
              refine zs_iload_n (pc := 1) t39_1 rfl ?_
              by_cases w70 : (zI M 12 w54n).toInt < (zI M 17 5).toInt
              · refine zs_icmp_ltT (pc := 2) t39_2 rfl rfl (by omega) ?_
                refine zs_iconst (pc := 14) t39_14 (v := 0) (by decide) ?_
                refine zs_iret (pc := 15) t39_15 mr39 (by decide) ?_
                show zGo X l 1 0 0 93 44 [(0, .ref 7), (1, .int w50x6)] [.int (0 : Int32)] M _
                refine zs_if_eqT (pc := 44) t93_44 li0 (by decide) ?_
                refine zs_iconst (pc := 51) t93_51 (v := 0) (by decide) ?_
                refine zs_iret (pc := 52) t93_52 mr93 (by decide) ?_
                show zGo X l 2 0 0 149 67 [(8, .int w60v), (7, .int (zI M 10 w54n)), (0, .ref 7), (1, .int a), (2, .int b), (3, .int c), (4, .int (1 : Int32)), (5, .int w50x5), (6, .int w50x6)] [.int (0 : Int32)] M _
                refine zs_if_eqT (pc := 67) t149_67 li0 (by decide) ?_
                obtain ⟨w71v, w71e, w71⟩ := ziadd (a := w50x6) (b := Int32.ofInt 1) rfl (show (Int32.ofInt 1).toInt = 1 by decide) (by omega) (by omega)
                refine zs_iinc (pc := 90) t149_90 (ls' := [(6, .int w71v), (8, .int w60v), (7, .int (zI M 10 w54n)), (0, .ref 7), (1, .int a), (2, .int b), (3, .int c), (4, .int (1 : Int32)), (5, .int w50x5)]) (zml mf149 (by decide)) rfl (c := w71v) w71e rfl ?_
                refine zs_goto (pc := 93) t149_93 ?_
                refine zGo.locals (ls' := [(0, .ref 7), (1, .int a), (2, .int b), (3, .int c), (4, .int (1 : Int32)), (5, .int w50x5), (6, .int w71v)]) (by simp) ?_
                exact w50ih (w50m - 1) (by omega) w50x5 w71v ⟨by omega, by omega⟩ (by omega)
              · refine zs_icmp_ltF (pc := 2) t39_2 rfl rfl (by omega) ?_
                refine zs_iload_n (pc := 5) t39_5 rfl ?_
                refine zs_iload_n (pc := 6) t39_6 rfl ?_
                by_cases w72 : (zI M 17 6).toInt < (zI M 12 w54n).toInt
                · refine zs_icmp_gtT (pc := 7) t39_7 rfl rfl (by omega) ?_
                  refine zs_iconst (pc := 14) t39_14 (v := 0) (by decide) ?_
                  refine zs_iret (pc := 15) t39_15 mr39 (by decide) ?_
                  show zGo X l 1 0 0 93 44 [(0, .ref 7), (1, .int w50x6)] [.int (0 : Int32)] M _
                  refine zs_if_eqT (pc := 44) t93_44 li0 (by decide) ?_
                  refine zs_iconst (pc := 51) t93_51 (v := 0) (by decide) ?_
                  refine zs_iret (pc := 52) t93_52 mr93 (by decide) ?_
                  show zGo X l 2 0 0 149 67 [(8, .int w60v), (7, .int (zI M 10 w54n)), (0, .ref 7), (1, .int a), (2, .int b), (3, .int c), (4, .int (1 : Int32)), (5, .int w50x5), (6, .int w50x6)] [.int (0 : Int32)] M _
                  refine zs_if_eqT (pc := 67) t149_67 li0 (by decide) ?_
                  obtain ⟨w73v, w73e, w73⟩ := ziadd (a := w50x6) (b := Int32.ofInt 1) rfl (show (Int32.ofInt 1).toInt = 1 by decide) (by omega) (by omega)
                  refine zs_iinc (pc := 90) t149_90 (ls' := [(6, .int w73v), (8, .int w60v), (7, .int (zI M 10 w54n)), (0, .ref 7), (1, .int a), (2, .int b), (3, .int c), (4, .int (1 : Int32)), (5, .int w50x5)]) (zml mf149 (by decide)) rfl (c := w73v) w73e rfl ?_
                  refine zs_goto (pc := 93) t149_93 ?_
                  refine zGo.locals (ls' := [(0, .ref 7), (1, .int a), (2, .int b), (3, .int c), (4, .int (1 : Int32)), (5, .int w50x5), (6, .int w73v)]) (by simp) ?_
                  exact w50ih (w50m - 1) (by omega) w50x5 w73v ⟨by omega, by omega⟩ (by omega)
                · refine zs_icmp_gtF (pc := 7) t39_7 rfl rfl (by omega) ?_
                  refine zs_iconst (pc := 10) t39_10 (v := 1) (by decide) ?_
                  refine zs_goto (pc := 11) t39_11 ?_
                  refine zs_iret (pc := 15) t39_15 mr39 (by decide) ?_
                  show zGo X l 1 0 0 93 44 [(0, .ref 7), (1, .int w50x6)] [.int (1 : Int32)] M _
                  refine zs_if_eqF (pc := 44) t93_44 li1 (by decide) ?_
                  refine zs_iconst (pc := 47) t93_47 (v := 1) (by decide) ?_
                  refine zs_goto (pc := 48) t93_48 ?_
                  refine zs_iret (pc := 52) t93_52 mr93 (by decide) ?_
                  show zGo X l 2 0 0 149 67 [(8, .int w60v), (7, .int (zI M 10 w54n)), (0, .ref 7), (1, .int a), (2, .int b), (3, .int c), (4, .int (1 : Int32)), (5, .int w50x5), (6, .int w50x6)] [.int (1 : Int32)] M _
                  refine zs_if_eqF (pc := 67) t149_67 li1 (by decide) ?_
                  refine zs_iload (pc := 70) t149_70 rfl ?_
                  refine zs_iload (pc := 72) t149_72 rfl ?_
                  refine zs_invS (pc := 74) (as := [.int w60v, .int (1 : Int32)]) (st := []) t149_74 (by decide) mf54 rfl rfl ⟨by decide, by decide, Nat.le_of_ble_eq_true rfl, Nat.le_of_ble_eq_true rfl⟩ (zs_in (by decide) mf54 (Nat.le_of_ble_eq_true rfl) ?_) (fun _ _ q => q)
                  show zGo X l 0 0 0 54 0 [(0, .int w60v), (1, .int (1 : Int32))] [] M _
                  refine zs_iload_n (pc := 0) t54_0 rfl ?_
                  refine zs_iload_n (pc := 1) t54_1 rfl ?_
                  obtain ⟨w74v, w74⟩ : ∃ v, w60v / (1 : Int32) = v := ⟨_, rfl⟩
                  have w74g := zrg w74v
                  refine zs_idiv (pc := 2) t54_2 (by decide) (c := w74v) w74 ?_
                  refine zs_istore_n (pc := 3) t54_3 (ls' := [(2, .int w74v), (0, .int w60v), (1, .int (1 : Int32))]) (zml mf54 (by decide)) rfl ?_
                  refine zs_iload_n (pc := 4) t54_4 rfl ?_
                  refine zs_iload_n (pc := 5) t54_5 rfl ?_
                  obtain ⟨w75v, w75⟩ : ∃ v, w60v ^^^ (1 : Int32) = v := ⟨_, rfl⟩
                  have w75g := zrg w75v
                  refine zs_ixor (pc := 6) t54_6 (c := w75v) w75 ?_
                  by_cases w76 : 0 ≤ w75v.toInt
                  · refine zs_if_geT (pc := 7) t54_7 rfl (by omega) ?_
                    refine zs_iload_n (pc := 21) t54_21 rfl ?_
                    refine zs_iret (pc := 22) t54_22 mr54 rfl ?_
                    show zGo X l 2 0 0 149 77 [(8, .int w60v), (7, .int (zI M 10 w54n)), (0, .ref 7), (1, .int a), (2, .int b), (3, .int c), (4, .int (1 : Int32)), (5, .int w50x5), (6, .int w50x6)] [.int w74v] M _
                    refine zs_iload_n (pc := 77) t149_77 rfl ?_
                    by_cases w77 : w74v.toInt ≠ c.toInt
                    · refine zs_icmp_neT (pc := 78) t149_78 rfl rfl (by omega) ?_
                      obtain ⟨w78v, w78e, w78⟩ := ziadd (a := w50x6) (b := Int32.ofInt 1) rfl (show (Int32.ofInt 1).toInt = 1 by decide) (by omega) (by omega)
                      refine zs_iinc (pc := 90) t149_90 (ls' := [(6, .int w78v), (8, .int w60v), (7, .int (zI M 10 w54n)), (0, .ref 7), (1, .int a), (2, .int b), (3, .int c), (4, .int (1 : Int32)), (5, .int w50x5)]) (zml mf149 (by decide)) rfl (c := w78v) w78e rfl ?_
                      refine zs_goto (pc := 93) t149_93 ?_
                      refine zGo.locals (ls' := [(0, .ref 7), (1, .int a), (2, .int b), (3, .int c), (4, .int (1 : Int32)), (5, .int w50x5), (6, .int w78v)]) (by simp) ?_
                      exact w50ih (w50m - 1) (by omega) w50x5 w78v ⟨by omega, by omega⟩ (by omega)
                    · refine zs_icmp_neF (pc := 78) t149_78 rfl rfl (by omega) ?_
                      refine zs_iload (pc := 81) t149_81 rfl ?_
                      refine zs_iconst (pc := 83) t149_83 (v := 1) (by decide) ?_
                      refine zs_iload (pc := 84) t149_84 rfl ?_
                      obtain ⟨w79v, w79⟩ : ∃ v, (1 : Int32) <<< ((zI M 10 w54n) &&& 31) = v := ⟨_, rfl⟩
                      have w79g := zrg w79v
                      refine zs_ishl (pc := 86) t149_86 (c := w79v) w79 ?_
                      obtain ⟨w80v, w80⟩ : ∃ v, w50x5 ||| w79v = v := ⟨_, rfl⟩
                      have w80g := zrg w80v
                      refine zs_ior (pc := 87) t149_87 (c := w80v) w80 ?_
                      refine zs_istore (pc := 88) t149_88 (ls' := [(5, .int w80v), (8, .int w60v), (7, .int (zI M 10 w54n)), (0, .ref 7), (1, .int a), (2, .int b), (3, .int c), (4, .int (1 : Int32)), (6, .int w50x6)]) (zml mf149 (by decide)) rfl ?_
                      obtain ⟨w81v, w81e, w81⟩ := ziadd (a := w50x6) (b := Int32.ofInt 1) rfl (show (Int32.ofInt 1).toInt = 1 by decide) (by omega) (by omega)
                      refine zs_iinc (pc := 90) t149_90 (ls' := [(6, .int w81v), (5, .int w80v), (8, .int w60v), (7, .int (zI M 10 w54n)), (0, .ref 7), (1, .int a), (2, .int b), (3, .int c), (4, .int (1 : Int32))]) (zml mf149 (by decide)) rfl (c := w81v) w81e rfl ?_
                      refine zs_goto (pc := 93) t149_93 ?_
                      refine zGo.locals (ls' := [(0, .ref 7), (1, .int a), (2, .int b), (3, .int c), (4, .int (1 : Int32)), (5, .int w80v), (6, .int w81v)]) (by simp) ?_
                      exact w50ih (w50m - 1) (by omega) w80v w81v ⟨by omega, by omega⟩ (by omega)
                  · refine zs_if_geF (pc := 7) t54_7 rfl (by omega) ?_
                    refine zs_iload_n (pc := 10) t54_10 rfl ?_
                    refine zs_iload_n (pc := 11) t54_11 rfl ?_
                    obtain ⟨w82v, w82⟩ : ∃ v, w74v * (1 : Int32) = v := ⟨_, rfl⟩
                    have w82g := zrg w82v
                    refine zs_imul (pc := 12) t54_12 (c := w82v) w82 ?_
                    refine zs_iload_n (pc := 13) t54_13 rfl ?_
                    by_cases w83 : w82v.toInt = w60v.toInt
                    · refine zs_icmp_eqT (pc := 14) t54_14 rfl rfl (by omega) ?_
                      refine zs_iload_n (pc := 21) t54_21 rfl ?_
                      refine zs_iret (pc := 22) t54_22 mr54 rfl ?_
                      show zGo X l 2 0 0 149 77 [(8, .int w60v), (7, .int (zI M 10 w54n)), (0, .ref 7), (1, .int a), (2, .int b), (3, .int c), (4, .int (1 : Int32)), (5, .int w50x5), (6, .int w50x6)] [.int w74v] M _
                      refine zs_iload_n (pc := 77) t149_77 rfl ?_
                      by_cases w84 : w74v.toInt ≠ c.toInt
                      · refine zs_icmp_neT (pc := 78) t149_78 rfl rfl (by omega) ?_
                        obtain ⟨w85v, w85e, w85⟩ := ziadd (a := w50x6) (b := Int32.ofInt 1) rfl (show (Int32.ofInt 1).toInt = 1 by decide) (by omega) (by omega)
                        refine zs_iinc (pc := 90) t149_90 (ls' := [(6, .int w85v), (8, .int w60v), (7, .int (zI M 10 w54n)), (0, .ref 7), (1, .int a), (2, .int b), (3, .int c), (4, .int (1 : Int32)), (5, .int w50x5)]) (zml mf149 (by decide)) rfl (c := w85v) w85e rfl ?_
                        refine zs_goto (pc := 93) t149_93 ?_
                        refine zGo.locals (ls' := [(0, .ref 7), (1, .int a), (2, .int b), (3, .int c), (4, .int (1 : Int32)), (5, .int w50x5), (6, .int w85v)]) (by simp) ?_
                        exact w50ih (w50m - 1) (by omega) w50x5 w85v ⟨by omega, by omega⟩ (by omega)
                      · refine zs_icmp_neF (pc := 78) t149_78 rfl rfl (by omega) ?_
                        refine zs_iload (pc := 81) t149_81 rfl ?_
                        refine zs_iconst (pc := 83) t149_83 (v := 1) (by decide) ?_
                        refine zs_iload (pc := 84) t149_84 rfl ?_
                        obtain ⟨w86v, w86⟩ : ∃ v, (1 : Int32) <<< ((zI M 10 w54n) &&& 31) = v := ⟨_, rfl⟩
                        have w86g := zrg w86v
                        refine zs_ishl (pc := 86) t149_86 (c := w86v) w86 ?_
                        obtain ⟨w87v, w87⟩ : ∃ v, w50x5 ||| w86v = v := ⟨_, rfl⟩
                        have w87g := zrg w87v
                        refine zs_ior (pc := 87) t149_87 (c := w87v) w87 ?_
                        refine zs_istore (pc := 88) t149_88 (ls' := [(5, .int w87v), (8, .int w60v), (7, .int (zI M 10 w54n)), (0, .ref 7), (1, .int a), (2, .int b), (3, .int c), (4, .int (1 : Int32)), (6, .int w50x6)]) (zml mf149 (by decide)) rfl ?_
                        obtain ⟨w88v, w88e, w88⟩ := ziadd (a := w50x6) (b := Int32.ofInt 1) rfl (show (Int32.ofInt 1).toInt = 1 by decide) (by omega) (by omega)
                        refine zs_iinc (pc := 90) t149_90 (ls' := [(6, .int w88v), (5, .int w87v), (8, .int w60v), (7, .int (zI M 10 w54n)), (0, .ref 7), (1, .int a), (2, .int b), (3, .int c), (4, .int (1 : Int32))]) (zml mf149 (by decide)) rfl (c := w88v) w88e rfl ?_
                        refine zs_goto (pc := 93) t149_93 ?_
                        refine zGo.locals (ls' := [(0, .ref 7), (1, .int a), (2, .int b), (3, .int c), (4, .int (1 : Int32)), (5, .int w87v), (6, .int w88v)]) (by simp) ?_
                        exact w50ih (w50m - 1) (by omega) w87v w88v ⟨by omega, by omega⟩ (by omega)
                    · refine zs_icmp_eqF (pc := 14) t54_14 rfl rfl (by omega) ?_
                      refine zs_iload_n (pc := 17) t54_17 rfl ?_
                      refine zs_iconst (pc := 18) t54_18 (v := 1) (by decide) ?_
                      obtain ⟨w89v, w89⟩ : ∃ v, v = w74v - (1 : Int32) := ⟨_, rfl⟩
                      have w89g := zrg w89v
                      refine zs_isub (pc := 19) t54_19 (c := w89v) w89.symm ?_
                      refine zs_iret (pc := 20) t54_20 mr54 rfl ?_
                      show zGo X l 2 0 0 149 77 [(8, .int w60v), (7, .int (zI M 10 w54n)), (0, .ref 7), (1, .int a), (2, .int b), (3, .int c), (4, .int (1 : Int32)), (5, .int w50x5), (6, .int w50x6)] [.int w89v] M _
                      refine zs_iload_n (pc := 77) t149_77 rfl ?_
                      by_cases w90 : w89v.toInt ≠ c.toInt
                      · refine zs_icmp_neT (pc := 78) t149_78 rfl rfl (by omega) ?_
                        obtain ⟨w91v, w91e, w91⟩ := ziadd (a := w50x6) (b := Int32.ofInt 1) rfl (show (Int32.ofInt 1).toInt = 1 by decide) (by omega) (by omega)
                        refine zs_iinc (pc := 90) t149_90 (ls' := [(6, .int w91v), (8, .int w60v), (7, .int (zI M 10 w54n)), (0, .ref 7), (1, .int a), (2, .int b), (3, .int c), (4, .int (1 : Int32)), (5, .int w50x5)]) (zml mf149 (by decide)) rfl (c := w91v) w91e rfl ?_
                        refine zs_goto (pc := 93) t149_93 ?_
                        refine zGo.locals (ls' := [(0, .ref 7), (1, .int a), (2, .int b), (3, .int c), (4, .int (1 : Int32)), (5, .int w50x5), (6, .int w91v)]) (by simp) ?_
                        exact w50ih (w50m - 1) (by omega) w50x5 w91v ⟨by omega, by omega⟩ (by omega)
                      · refine zs_icmp_neF (pc := 78) t149_78 rfl rfl (by omega) ?_
                        refine zs_iload (pc := 81) t149_81 rfl ?_
                        refine zs_iconst (pc := 83) t149_83 (v := 1) (by decide) ?_
                        refine zs_iload (pc := 84) t149_84 rfl ?_
                        obtain ⟨w92v, w92⟩ : ∃ v, (1 : Int32) <<< ((zI M 10 w54n) &&& 31) = v := ⟨_, rfl⟩
                        have w92g := zrg w92v
                        refine zs_ishl (pc := 86) t149_86 (c := w92v) w92 ?_
                        obtain ⟨w93v, w93⟩ : ∃ v, w50x5 ||| w92v = v := ⟨_, rfl⟩
                        have w93g := zrg w93v
                        refine zs_ior (pc := 87) t149_87 (c := w93v) w93 ?_
                        refine zs_istore (pc := 88) t149_88 (ls' := [(5, .int w93v), (8, .int w60v), (7, .int (zI M 10 w54n)), (0, .ref 7), (1, .int a), (2, .int b), (3, .int c), (4, .int (1 : Int32)), (6, .int w50x6)]) (zml mf149 (by decide)) rfl ?_
                        obtain ⟨w94v, w94e, w94⟩ := ziadd (a := w50x6) (b := Int32.ofInt 1) rfl (show (Int32.ofInt 1).toInt = 1 by decide) (by omega) (by omega)
                        refine zs_iinc (pc := 90) t149_90 (ls' := [(6, .int w94v), (5, .int w93v), (8, .int w60v), (7, .int (zI M 10 w54n)), (0, .ref 7), (1, .int a), (2, .int b), (3, .int c), (4, .int (1 : Int32))]) (zml mf149 (by decide)) rfl (c := w94v) w94e rfl ?_
                        refine zs_goto (pc := 93) t149_93 ?_
                        refine zGo.locals (ls' := [(0, .ref 7), (1, .int a), (2, .int b), (3, .int c), (4, .int (1 : Int32)), (5, .int w93v), (6, .int w94v)]) (by simp) ?_
                        exact w50ih (w50m - 1) (by omega) w93v w94v ⟨by omega, by omega⟩ (by omega)
    refine zGo.locals (ls' := [(0, .ref 7), (1, .int a), (2, .int b), (3, .int c), (4, .int (1 : Int32)), (5, .int (0 : Int32)), (6, .int (0 : Int32))]) (by simp) ?_
    have w95 := li0
    have w96 := li0
    exact w50L ((60 - 0 : Int).toNat) (0 : Int32) (0 : Int32) ⟨by decide, by decide⟩ (by omega)
