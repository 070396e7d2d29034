theorem T18_6 {X : zX} {l : Launch} {M : zM} {Q : Option Value → zM → Prop} {a : Int32} (hs : zSk zMc M) (hI : zIv cLo cHi M) (hQ : ∀ (M' : zM) (v : Int32), zSk zMc M' → zIv cLo cHi M' → zFr [(155, 155, some 1)] M M' → ((v.toInt = a.toInt ∧ 0 ≤ a.toInt ∧ a.toInt ≤ (zI M 155 1).toInt ∧ (zI M' 155 1).toInt = a.toInt) ∨ (v.toInt = -1 ∧ (a.toInt < 0 ∨ (zI M 155 1).toInt < a.toInt) ∧ (zI M' 155 1).toInt = (zI M 155 1).toInt)) → (-2147483648) ≤ v.toInt → v.toInt ≤ 2147483647 → Q (some (.int v)) M') : zCall X l 2 0 0 18 [.ref 6, .int a] M Q := by
  have ga := zrg a
  refine zs_in (by decide) mf18 (Nat.le_of_ble_eq_true rfl) ?_
  show zGo X l 2 0 0 18 0 [(0, .ref 6), (1, .int a)] [] M _
  refine zs_iload_n (pc := 0) t18_0 rfl ?_
  by_cases w1 : a.toInt < 0
  · refine zs_if_ltT (pc := 1) t18_1 rfl (by omega) ?_
    refine zs_iconst (pc := 15) t18_15 (v := -1) (by decide) ?_
    have w2 := ib155_1 hI
    have w3 : (zI M 155 1).toInt = (zI M 155 1).toInt := (congrArg Int32.toInt rfl).trans rfl
    have w4 : (-1 : Int32).toInt = (-1) := lin1
    exact zs_iret (pc := 16) t18_16 mr18 (by decide) (hQ _ _ hs hI (zFr.refl) (by omega) (zrg _).1 (zrg _).2)
  · refine zs_if_ltF (pc := 1) t18_1 rfl (by omega) ?_
    refine zs_iload_n (pc := 4) t18_4 rfl ?_
    refine zs_aload_n (pc := 5) t18_5 rfl ?_
    refine zs_get (pc := 6) t18_6 (by decide) (zk1 (hs.k fk_zMc_6)) (hs.p rfl fv_zMc_6_3) ?_
    refine zs_invV (pc := 9) (k := 155) (as' := []) (st := [.int a]) t18_9 mf17 rfl rfl (Or.inl ⟨by decide, (zk1 (hs.k fk_zMc_155))⟩) ⟨by decide, by decide, Nat.le_of_ble_eq_true rfl, Nat.le_of_ble_eq_true rfl⟩ (zs_in (by decide) mf17 (Nat.le_of_ble_eq_true rfl) ?_) (fun _ _ q => q)
    show zGo X l 0 0 0 17 0 [(0, .ref 155)] [] M _
    refine zs_aload_n (pc := 0) t17_0 rfl ?_
    have w5 := ib155_1 hI
    refine zs_get (pc := 1) t17_1 (by decide) (zk1 (hs.k fk_zMc_155)) (zfvi rfl rfl) ?_
    refine zs_iret (pc := 4) t17_4 mr17 rfl ?_
    show zGo X l 2 0 0 18 12 [(0, .ref 6), (1, .int a)] [.int (zI M 155 1), .int a] M _
    by_cases w6 : a.toInt ≤ (zI M 155 1).toInt
    · refine zs_icmp_leT (pc := 12) t18_12 rfl rfl (by omega) ?_
      refine zs_aload_n (pc := 17) t18_17 rfl ?_
      refine zs_get (pc := 18) t18_18 (by decide) (zk1 (hs.k fk_zMc_6)) (hs.p rfl fv_zMc_6_3) ?_
      refine zs_iload_n (pc := 21) t18_21 rfl ?_
      refine zs_invV (pc := 22) (k := 155) (as' := [.int a]) (st := []) t18_22 mf19 rfl rfl (Or.inl ⟨by decide, (zk1 (hs.k fk_zMc_155))⟩) ⟨by decide, by decide, Nat.le_of_ble_eq_true rfl, Nat.le_of_ble_eq_true rfl⟩ (zs_in (by decide) mf19 (Nat.le_of_ble_eq_true rfl) ?_) (fun _ _ q => q)
      show zGo X l 1 0 0 19 0 [(0, .ref 155), (1, .int a)] [] M _
      refine zs_aload_n (pc := 0) t19_0 rfl ?_
      refine zs_iconst (pc := 1) t19_1 (v := 0) (by decide) ?_
      refine zs_iload_n (pc := 2) t19_2 rfl ?_
      refine zs_aload_n (pc := 3) t19_3 rfl ?_
      refine zs_get (pc := 4) t19_4 (by decide) (zk1 (hs.k fk_zMc_155)) (zfvi rfl rfl) ?_
      refine zs_invS (pc := 7) (as := [.int a, .int (zI M 155 1)]) (st := [.int (0 : Int32), .ref 155]) t19_7 (by decide) mf20 rfl rfl ⟨by decide, by decide, Nat.le_of_ble_eq_true rfl, Nat.le_of_ble_eq_true rfl⟩ (zs_in (by decide) mf20 (Nat.le_of_ble_eq_true rfl) ?_) (fun _ _ q => q)
      show zGo X l 0 0 0 20 0 [(0, .int a), (1, .int (zI M 155 1))] [] M _
      refine zs_iload_n (pc := 0) t20_0 rfl ?_
      refine zs_iload_n (pc := 1) t20_1 rfl ?_
      by_cases w7 : (zI M 155 1).toInt < a.toInt
      · refine zs_icmp_gtT (pc := 2) t20_2 rfl rfl (by omega) ?_
        refine zs_iload_n (pc := 9) t20_9 rfl ?_
        refine zs_iret (pc := 10) t20_10 mr20 rfl ?_
        show zGo X l 1 0 0 19 10 [(0, .ref 155), (1, .int a)] [.int (zI M 155 1), .int (0 : Int32), .ref 155] M _
        refine zs_invS (pc := 10) (as := [.int (0 : Int32), .int (zI M 155 1)]) (st := [.ref 155]) t19_10 (by decide) mf21 rfl rfl ⟨by decide, by decide, Nat.le_of_ble_eq_true rfl, Nat.le_of_ble_eq_true rfl⟩ (zs_in (by decide) mf21 (Nat.le_of_ble_eq_true rfl) ?_) (fun _ _ q => q)
        show zGo X l 0 0 0 21 0 [(0, .int (0 : Int32)), (1, .int (zI M 155 1))] [] M _
        refine zs_iload_n (pc := 0) t21_0 rfl ?_
        refine zs_iload_n (pc := 1) t21_1 rfl ?_
        by_cases w8 : 0 < (zI M 155 1).toInt
        · refine zs_icmp_ltT (pc := 2) t21_2 li0 rfl (by omega) ?_
          refine zs_iload_n (pc := 9) t21_9 rfl ?_
          refine zs_iret (pc := 10) t21_10 mr21 rfl ?_
          show zGo X l 1 0 0 19 13 [(0, .ref 155), (1, .int a)] [.int (zI M 155 1), .ref 155] M _
          have w9 : zIv cLo cHi (zsI M 155 1 (zI M 155 1)) := zIv.put hI (show 0 ≤ (zI M 155 1).toInt ∧ (zI M 155 1).toInt ≤ 500 from ⟨by omega, by omega⟩)
          refine zs_putI (pc := 13) t19_13 (zk1 (hs.k fk_zMc_155)) rfl ?_
          refine zs_vret (pc := 16) t19_16 mr19 ?_
          show zGo X l 2 0 0 18 25 [(0, .ref 6), (1, .int a)] [] (zsI M 155 1 (zI M 155 1)) _
          refine zs_iload_n (pc := 25) t18_25 rfl ?_
          have w10 : (zI (zsI M 155 1 (zI M 155 1)) 155 1).toInt = (zI M 155 1).toInt := (congrArg Int32.toInt zIs).trans rfl
          exact zs_iret (pc := 26) t18_26 mr18 rfl (hQ _ _ hs w9 ((zFr.refl).put rfl) (by omega) (zrg _).1 (zrg _).2)
        · refine zs_icmp_ltF (pc := 2) t21_2 li0 rfl (by omega) ?_
          refine zs_iload_n (pc := 5) t21_5 rfl ?_
          refine zs_goto (pc := 6) t21_6 ?_
          refine zs_iret (pc := 10) t21_10 mr21 (by decide) ?_
          show zGo X l 1 0 0 19 13 [(0, .ref 155), (1, .int a)] [.int (0 : Int32), .ref 155] M _
          have w11 : zIv cLo cHi (zsI M 155 1 (0 : Int32)) := zIv.put hI (show 0 ≤ (0 : Int32).toInt ∧ (0 : Int32).toInt ≤ 500 from ⟨by decide, by decide⟩)
          refine zs_putI (pc := 13) t19_13 (zk1 (hs.k fk_zMc_155)) rfl ?_
          refine zs_vret (pc := 16) t19_16 mr19 ?_
          show zGo X l 2 0 0 18 25 [(0, .ref 6), (1, .int a)] [] (zsI M 155 1 (0 : Int32)) _
          refine zs_iload_n (pc := 25) t18_25 rfl ?_
          have w12 : (zI (zsI M 155 1 (0 : Int32)) 155 1).toInt = 0 := (congrArg Int32.toInt zIs).trans li0
          exact zs_iret (pc := 26) t18_26 mr18 rfl (hQ _ _ hs w11 ((zFr.refl).put rfl) (by omega) (zrg _).1 (zrg _).2)
      · refine zs_icmp_gtF (pc := 2) t20_2 rfl rfl (by omega) ?_
        refine zs_iload_n (pc := 5) t20_5 rfl ?_
        refine zs_goto (pc := 6) t20_6 ?_
        refine zs_iret (pc := 10) t20_10 mr20 rfl ?_
        show zGo X l 1 0 0 19 10 [(0, .ref 155), (1, .int a)] [.int a, .int (0 : Int32), .ref 155] M _
        refine zs_invS (pc := 10) (as := [.int (0 : Int32), .int a]) (st := [.ref 155]) t19_10 (by decide) mf21 rfl rfl ⟨by decide, by decide, Nat.le_of_ble_eq_true rfl, Nat.le_of_ble_eq_true rfl⟩ (zs_in (by decide) mf21 (Nat.le_of_ble_eq_true rfl) ?_) (fun _ _ q => q)
        show zGo X l 0 0 0 21 0 [(0, .int (0 : Int32)), (1, .int a)] [] M _
        refine zs_iload_n (pc := 0) t21_0 rfl ?_
        refine zs_iload_n (pc := 1) t21_1 rfl ?_
        by_cases w13 : 0 < a.toInt
        · refine zs_icmp_ltT (pc := 2) t21_2 li0 rfl (by omega) ?_
          refine zs_iload_n (pc := 9) t21_9 rfl ?_
          refine zs_iret (pc := 10) t21_10 mr21 rfl ?_
          show zGo X l 1 0 0 19 13 [(0, .ref 155), (1, .int a)] [.int a, .ref 155] M _
          have w14 : zIv cLo cHi (zsI M 155 1 a) := zIv.put hI (show 0 ≤ a.toInt ∧ a.toInt ≤ 500 from ⟨by omega, by omega⟩)
          refine zs_putI (pc := 13) t19_13 (zk1 (hs.k fk_zMc_155)) rfl ?_
          refine zs_vret (pc := 16) t19_16 mr19 ?_
          show zGo X l 2 0 0 18 25 [(0, .ref 6), (1, .int a)] [] (zsI M 155 1 a) _
          refine zs_iload_n (pc := 25) t18_25 rfl ?_
          have w15 : (zI (zsI M 155 1 a) 155 1).toInt = a.toInt := (congrArg Int32.toInt zIs).trans rfl
          exact zs_iret (pc := 26) t18_26 mr18 rfl (hQ _ _ hs w14 ((zFr.refl).put rfl) (by omega) (zrg _).1 (zrg _).2)
        · refine zs_icmp_ltF (pc := 2) t21_2 li0 rfl (by omega) ?_
          refine zs_iload_n (pc := 5) t21_5 rfl ?_
          refine zs_goto (pc := 6) t21_6 ?_
          refine zs_iret (pc := 10) t21_10 mr21 (by decide) ?_
          show zGo X l 1 0 0 19 13 [(0, .ref 155), (1, .int a)] [.int (0 : Int32), .ref 155] M _
          have w16 : zIv cLo cHi (zsI M 155 1 (0 : Int32)) := zIv.put hI (show 0 ≤ (0 : Int32).toInt ∧ (0 : Int32).toInt ≤ 500 from ⟨by decide, by decide⟩)
          refine zs_putI (pc := 13) t19_13 (zk1 (hs.k fk_zMc_155)) rfl ?_
          refine zs_vret (pc := 16) t19_16 mr19 ?_
          show zGo X l 2 0 0 18 25 [(0, .ref 6), (1, .int a)] [] (zsI M 155 1 (0 : Int32)) _
          refine zs_iload_n (pc := 25) t18_25 rfl ?_
          have w17 : (zI (zsI M 155 1 (0 : Int32)) 155 1).toInt = 0 := (congrArg Int32.toInt zIs).trans li0
          exact zs_iret (pc := 26) t18_26 mr18 rfl (hQ _ _ hs w16 ((zFr.refl).put rfl) (by omega) (zrg _).1 (zrg _).2)
    · refine zs_icmp_leF (pc := 12) t18_12 rfl rfl (by omega) ?_
      refine zs_iconst (pc := 15) t18_15 (v := -1) (by decide) ?_
      have w18 : (zI M 155 1).toInt = (zI M 155 1).toInt := (congrArg Int32.toInt rfl).trans rfl
      have w19 : (-1 : Int32).toInt = (-1) := lin1
      exact zs_iret (pc := 16) t18_16 mr18 (by decide) (hQ _ _ hs hI (zFr.refl) (by omega) (zrg _).1 (zrg _).2)
