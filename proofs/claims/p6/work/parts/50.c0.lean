theorem T18_6 {X : zX} {l : Launch} {M : zM} {Q : Option Value → zM → Prop} {a : Int32} (hs : zSk zMc M) (hI : zIv cLo cHi M) (hQ : ∀ (M' : zM) (v : Int32), zSk zMc M' → zIv cLo cHi M' → zFr [(155, 155, some 1)] M M' → ((v.toInt = a.toInt ∧ 0 ≤ a.toInt ∧ a.toInt ≤ (zI M 155 1).toInt ∧ (zI M' 155 1).toInt = a.toInt) ∨ (v.toInt = -1 ∧ (a.toInt < 0 ∨ (zI M 155 1).toInt < a.toInt) ∧ (zI M' 155 1).toInt = (zI M 155 1).toInt)) → (-2147483648) ≤ v.toInt → v.toInt ≤ 2147483647 → Q (some (.int v)) M') : zCall X l 2 0 0 18 [.ref 6, .int a] M Q := by
  have ga := zrg a
  refine zs_in (by decide) mf18 (Nat.le_of_ble_eq_true rfl) ?_
  show zGo X l 2 0 0 18 0 [(0, .ref 6), (1, .int a)] [] M _
  refine zs_iload_n (pc := 0) t18_0 rfl ?_
  by_cases w1 : a.toInt < 0
  · refine zs_if_ltT (pc := 1) t18_1 rfl (by omega) ?_
    refine zs_iconst (pc := 15) t18_15 (v := -1) (by decide) ?_
    have w2 := ib155_1 hI
    have w3 : (zI M 155 1).toInt = (zI M 155 1).toInt := (congrArg Int32.toInt rfl).trans rfl
    have w4 : (-1 : Int32).toInt = (-1) := lin1
    exact zs_iret (pc := 16) t18_16 mr18 (by decide) (hQ _ _ hs hI (zFr.refl) (by omega) (zrg _).1 (zrg _).2)
  · refine zs_if_ltF (pc := 1) t18_1 rfl (by omega) ?_
    refine zs_iload_n (pc := 4) t18_4 rfl ?_
    refine zs_aload_n (pc := 5) t18_5 rfl ?_
    refine zs_get (pc := 6) t18_6 (by decide) (zk1 (hs.k fk_zMc_6)) (hs.p rfl fv_zMc_6_3) ?_
    refine zs_invV (pc := 9) (k := 155) (as' := []) (st := [.int a]) t18_9 mf17 rfl rfl (Or.inl ⟨by decide, (zk1 (hs.k fk_zMc_155))⟩) ⟨by decide, by decide, Nat.le_of_ble_eq_true rfl, Nat.le_of_ble_eq_true rfl⟩ (zs_in (by decide) mf17 (Nat.le_of_ble_eq_true rfl) ?_) (fun _ _ q => q)
    show zGo X l 0 0 0 17 0 [(0, .ref 155)] [] M _
    refine zs_aload_n (pc := 0) t17_0 rfl ?_
    have w5 := ib155_1 hI
    refine zs_get (pc := 1) t17_1 (by decide) (zk1 (hs.k fk_zMc_155)) (zfvi rfl rfl) ?_
    refine zs_iret (pc := 4) t17_4 mr17 rfl ?_
    show zGo X l 2 0 0 18 12 [(0, .ref 6), (1, .int a)] [.int (zI M 155 1), .int a] M _
    by_cases w6 : a.toInt ≤ (zI M 155 1).toInt
    · refine zs_icmp_leT (pc := 12) t18_12 rfl rfl (by omega) ?_
      refine zs_aload_n (pc := 17) t18_17 rfl ?_
      refine zs_get (pc := 18) t18_18 (by decide) (zk1 (hs.k fk_zMc_6)) (hs.p rfl fv_zMc_6_3) ?_
      refine zs_iload_n (pc := 21) t18_21 rfl ?_
      refine zs_invV (pc := 22) (k := 155) (as' := [.int a]) (st := []) t18_22 mf19 rfl rfl (Or.inl ⟨by decide, (zk1 (hs.k fk_zMc_155))⟩) ⟨by decide, by decide, Nat.le_of_ble_eq_true rfl, Nat.le_of_ble_eq_true rfl⟩ (zs_in (by decide) mf19 (Nat.le_of_ble_eq_true rfl) ?_) (fun _ _ q => q)
      show zGo X l 1 0 0 19 0 [(0, .ref 155), (1, .int a)] [] M _
      refine zs_aload_n (pc := 0) t19_0 rfl ?_
      refine zs_iconst (pc := 1) t19_1 (v := 0) (by decide) ?_
      refine zs_iload_n (pc := 2) t19_2 rfl ?_
      refine zs_aload_n (pc := 3) t19_3 rfl ?_
      refine zs_get (pc := 4) t19_4 (by decide) (zk1 (hs.k fk_zMc_155)) (zfvi rfl rfl) ?_
      refine zs_invS (pc := 7) (as := [.int a, .int (zI M 155 1)]) (st := [.int (0 : Int32), .ref 155]) t19_7 (by decide) mf20 rfl rfl ⟨by decide, by decide, Nat.le_of_ble_eq_true rfl, Nat.le_of_ble_eq_true rfl⟩ (zs_in (by decide) mf20 (Nat.le_of_ble_eq_true rfl) ?_) (fun _ _ q => q)
      show zGo X l 0 0 0 20 0 [(0, .int a), (1, .int (zI M 155 1))] [] M _
      refine zs_iload_n (pc := 0) t20_0 rfl ?_
      refine zs_iload_n (pc := 1) t20_1 rfl ?_
      by_cases w7 : (zI M 155 1).toInt < a.toInt
      · refine zs_icmp_gtT (pc := 2) t20_2 rfl rfl (by omega) ?_
        refine zs_iload_n (pc := 9) t20_9 rfl ?_
        refine zs_iret (pc := 10) t20_10 mr20 rfl ?_
        show zGo X l 1 0 0 19 10 [(0, .ref 155), (1, .int a)] [.int (zI M 155 1), .int (0 : Int32), .ref 155] M _
        refine zs_invS (pc := 10) (as := [.int (0 : Int32), .int (zI M 155 1)]) (st := [.ref 155]) t19_10 (by decide) mf21 rfl rfl ⟨by decide, by decide, Nat.le_of_ble_eq_true rfl, Nat.le_of_ble_eq_true rfl⟩ (zs_in (by decide) mf21 (Nat.le_of_ble_eq_true rfl) ?_) (fun _ _ q => q)
        show zGo X l 0 0 0 21 0 [(0, .int (0 : Int32)), (1, .int (zI M 155 1))] [] M _
        refine zs_iload_n (pc := 0) t21_0 rfl ?_
        refine zs_iload_n (pc := 1) t21_1 rfl ?_
        by_cases w8 : 0 < (zI M 155 1).toInt
        · refine zs_icmp_ltT (pc := 2) t21_2 li0 rfl (by omega) ?_
          refine zs_iload_n (pc := 9) t21_9 rfl ?_
          refine zs_iret (pc := 10) t21_10 mr21 rfl ?_
          show zGo X l 1 0 0 19 13 [(0, .ref 155), (1, .int a)] [.int (zI M 155 1), .ref 155] M _
          have w9 : zIv cLo cHi (zsI M 155 1 (zI M 155 1)) := zIv.put hI (show 0 ≤ (zI M 155 1).toInt ∧ (zI M 155 1).toInt ≤ 500 from ⟨by omega, by omega⟩)
          refine zs_putI (pc := 13) t19_13 (zk1 (hs.k fk_zMc_155)) rfl ?_
          refine zs_vret (pc := 16) t19_16 mr19 ?_
          show zGo X l 2 0 0 18 25 [(0, .ref 6), (1, .int a)] [] (zsI M 155 1 (zI M 155 1)) _
          refine zs_iload_n (pc := 25) t18_25 rfl ?_
          have w10 : (zI (zsI M 155 1 (zI M 155 1)) 155 1).toInt = (zI M 155 1).toInt := (congrArg Int32.toInt zIs).trans rfl
          exact zs_iret (pc := 26) t18_26 mr18 rfl (hQ _ _ hs w9 ((zFr.refl).put rfl) (by omega) (zrg _).1 (zrg _).2)
        · refine zs_icmp_ltF (pc := 2) t21_2 li0 rfl (by omega) ?_
          refine zs_iload_n (pc := 5) t21_5 rfl ?_
          refine zs_goto (pc := 6) t21_6 ?_
          refine zs_iret (pc := 10) t21_10 mr21 (by decide) ?_
          show zGo X l 1 0 0 19 13 [(0, .ref 155), (1, .int a)] [.int (0 : Int32), .ref 155] M _
          have w11 : zIv cLo cHi (zsI M 155 1 (0 : Int32)) := zIv.put hI (show 0 ≤ (0 : Int32).toInt ∧ (0 : Int32).toInt ≤ 500 from ⟨by decide, by decide⟩)
          refine zs_putI (pc := 13) t19_13 (zk1 (hs.k fk_zMc_155)) rfl ?_
          refine zs_vret (pc := 16) t19_16 mr19 ?_
          show zGo X l 2 0 0 18 25 [(0, .ref 6), (1, .int a)] [] (zsI M 155 1 (0 : Int32)) _
          refine zs_iload_n (pc := 25) t18_25 rfl ?_
          have w12 : (zI (zsI M 155 1 (0 : Int32)) 155 1).toInt = 0 := (congrArg Int32.toInt zIs).trans li0
          exact zs_iret (pc := 26) t18_26 mr18 rfl (hQ _ _ hs w11 ((zFr.refl).put rfl) (by omega) (zrg _).1 (zrg _).2)
      · refine zs_icmp_gtF (pc := 2) t20_2 rfl rfl (by omega) ?_
        refine zs_iload_n (pc := 5) t20_5 rfl ?_
        refine zs_goto (pc := 6) t20_6 ?_
        refine zs_iret (pc := 10) t20_10 mr20 rfl ?_
        show zGo X l 1 0 0 19 10 [(0, .ref 155), (1, .int a)] [.int a, .int (0 : Int32), .ref 155] M _
        refine zs_invS (pc := 10) (as := [.int (0 : Int32), .int a]) (st := [.ref 155]) t19_10 (by decide) mf21 rfl rfl ⟨by decide, by decide, Nat.le_of_ble_eq_true rfl, Nat.le_of_ble_eq_true rfl⟩ (zs_in (by decide) mf21 (Nat.le_of_ble_eq_true rfl) ?_) (fun _ _ q => q)
        show zGo X l 0 0 0 21 0 [(0, .int (0 : Int32)), (1, .int a)] [] M _
        refine zs_iload_n (pc := 0) t21_0 rfl ?_
        refine zs_iload_n (pc := 1) t21_1 rfl ?_
        by_cases w13 : 0 < a.toInt
        · refine zs_icmp_ltT (pc := 2) t21_2 li0 rfl (by omega) ?_
          refine zs_iload_n (pc := 9) t21_9 rfl ?_
          refine zs_iret (pc := 10) t21_10 mr21 rfl ?_
          show zGo X l 1 0 0 19 13 [(0, .ref 155), (1, .int a)] [.int a, .ref 155] M _
          have w14 : zIv cLo cHi (zsI M 155 1 a) := zIv.put hI (show 0 ≤ a.toInt ∧ a.toInt ≤ 500 from ⟨by omega, by omega⟩)
          refine zs_putI (pc := 13) t19_13 (zk1 (hs.k fk_zMc_155)) rfl ?_
          refine zs_vret (pc := 16) t19_16 mr19 ?_
          show zGo X l 2 0 0 18 25 [(0, .ref 6), (1, .int a)] [] (zsI M 155 1 a) _
          refine zs_iload_n (pc := 25) t18_25 rfl ?_
          have w15 : (zI (zsI M 155 1 a) 155 1).toInt = a.toInt := (congrArg Int32.toInt zIs).trans rfl
          exact zs_iret (pc := 26) t18_26 mr18 rfl (hQ _ _ hs w14 ((zFr.refl).put rfl) (by omega) (zrg _).1 (zrg _).2)
        · refine zs_icmp_ltF (pc := 2) t21_2 li0 rfl (by omega) ?_
          refine zs_iload_n (pc := 5) t21_5 rfl ?_
          refine zs_goto (pc := 6) t21_6 ?_
          refine zs_iret (pc := 10) t21_10 mr21 (by decide) ?_
          show zGo X l 1 0 0 19 13 [(0, .ref 155), (1, .int a)] [.int (0 : Int32), .ref 155] M _
          have w16 : zIv cLo cHi (zsI M 155 1 (0 : Int32)) := zIv.put hI (show 0 ≤ (0 : Int32).toInt ∧ (0 : Int32).toInt ≤ 500 from ⟨by decide, by decide⟩)
          refine zs_putI (pc := 13) t19_13 (zk1 (hs.k fk_zMc_155)) rfl ?_
          refine zs_vret (pc := 16) t19_16 mr19 ?_
          show zGo X l 2 0 0 18 25 [(0, .ref 6), (1, .int a)] [] (zsI M 155 1 (0 : Int32)) _
          refine zs_iload_n (pc := 25) t18_25 rfl ?_
          have w17 : (zI (zsI M 155 1 (0 : Int32)) 155 1).toInt = 0 := (congrArg Int32.toInt zIs).trans li0
          exact zs_iret (pc := 26) t18_26 mr18 rfl (hQ _ _ hs w16 ((zFr.refl).put rfl) (by omega) (zrg _).1 (zrg _).2)
    · refine zs_icmp_leF (pc := 12) t18_12 rfl rfl (by omega) ?_
      refine zs_iconst (pc := 15) t18_15 (v := -1) (by decide) ?_
      have w18 : (zI M 155 1).toInt = (zI M 155 1).toInt := (congrArg Int32.toInt rfl).trans rfl
      have w19 : (-1 : Int32).toInt = (-1) := lin1
      exact zs_iret (pc := 16) t18_16 mr18 (by decide) (hQ _ _ hs hI (zFr.refl) (by omega) (zrg _).1 (zrg _).2)
theorem T97_6 {X : zX} {l : Launch} {M : zM} {Q : Option Value → zM → Prop} (hs : zSk zMc M) (hI : zIv cLo cHi M) (hQ : ∀ (M' : zM) (v : Int32), zSk zMc M' → zIv cLo cHi M' → zFr [(161, 334, none)] M M' → (-2147483648) ≤ v.toInt → v.toInt ≤ 2147483647 → Q (some (.int v)) M') : zCall X l 0 0 0 97 [.ref 6] M Q := by
  refine zs_in (by decide) mf97 (Nat.le_of_ble_eq_true rfl) ?_
  show zGo X l 0 0 0 97 0 [(0, .ref 6)] [] M _
  refine zs_aload_n (pc := 0) t97_0 rfl ?_
  have w1 := ib6_11 hI
  refine zs_get (pc := 1) t97_1 (by decide) (zk1 (hs.k fk_zMc_6)) (zfvi rfl rfl) ?_
  exact zs_iret (pc := 4) t97_4 mr97 rfl (hQ _ _ hs hI (zFr.refl) (zrg _).1 (zrg _).2)
theorem T98_6 {X : zX} {l : Launch} {M : zM} {Q : Option Value → zM → Prop} (hs : zSk zMc M) (hI : zIv cLo cHi M) (hQ : ∀ (M' : zM) (v : Int32), zSk zMc M' → zIv cLo cHi M' → zFr [(161, 334, none)] M M' → (-2147483648) ≤ v.toInt → v.toInt ≤ 2147483647 → Q (some (.int v)) M') : zCall X l 0 0 0 98 [.ref 6] M Q := by
  refine zs_in (by decide) mf98 (Nat.le_of_ble_eq_true rfl) ?_
  show zGo X l 0 0 0 98 0 [(0, .ref 6)] [] M _
  refine zs_aload_n (pc := 0) t98_0 rfl ?_
  have w1 := ib6_12 hI
  refine zs_get (pc := 1) t98_1 (by decide) (zk1 (hs.k fk_zMc_6)) (zfvi rfl rfl) ?_
  exact zs_iret (pc := 4) t98_4 mr98 rfl (hQ _ _ hs hI (zFr.refl) (zrg _).1 (zrg _).2)
theorem T99_6 {X : zX} {l : Launch} {M : zM} {Q : Option Value → zM → Prop} {a : Int32} (hs : zSk zMc M) (hI : zIv cLo cHi M) (hQ : ∀ (M' : zM) (v : Int32), zSk zMc M' → zIv cLo cHi M' → zFr [(161, 334, none)] M M' → (-2147483648) ≤ v.toInt → v.toInt ≤ 2147483647 → Q (some (.int v)) M') : zCall X l 3 0 0 99 [.ref 6, .int a] M Q := by
  have ga := zrg a
  refine zs_in (by decide) mf99 (Nat.le_of_ble_eq_true rfl) ?_
  show zGo X l 3 0 0 99 0 [(0, .ref 6), (1, .int a)] [] M _
  refine zs_iload_n (pc := 0) t99_0 rfl ?_
  refine zs_iconst (pc := 1) t99_1 (v := 5) (by decide) ?_
  by_cases w1 : a.toInt < 5
  · refine zs_icmp_ltT (pc := 2) t99_2 rfl li5 (by omega) ?_
    refine zs_iload_n (pc := 22) t99_22 rfl ?_
    by_cases w2 : a.toInt = 0
    · refine zs_tswI (pc := 23) t99_23 ((rfl : a.toInt = a.toInt).trans w2) (by decide) rfl (pc2 := 100) rfl ?_
      refine zs_aload_n (pc := 100) t99_100 rfl ?_
      refine zs_get (pc := 101) t99_101 (by decide) (zk1 (hs.k fk_zMc_6)) (hs.p rfl fv_zMc_6_0) ?_
      have w3 := ib7_0 hI
      refine zs_get (pc := 104) t99_104 (by decide) (zk1 (hs.k fk_zMc_7)) (zfvi rfl rfl) ?_
      exact zs_iret (pc := 107) t99_107 mr99 rfl (hQ _ _ hs hI (zFr.refl) (zrg _).1 (zrg _).2)
    by_cases w4 : a.toInt = 1
    · refine zs_tswI (pc := 23) t99_23 ((rfl : a.toInt = a.toInt).trans w4) (by decide) rfl (pc2 := 108) rfl ?_
      refine zs_aload_n (pc := 108) t99_108 rfl ?_
      refine zs_get (pc := 109) t99_109 (by decide) (zk1 (hs.k fk_zMc_6)) (hs.p rfl fv_zMc_6_0) ?_
      refine zs_invV (pc := 112) (k := 7) (as' := []) (st := []) t99_112 mf100 rfl rfl (Or.inl ⟨by decide, (zk1 (hs.k fk_zMc_7))⟩) ⟨by decide, by decide, Nat.le_of_ble_eq_true rfl, Nat.le_of_ble_eq_true rfl⟩ (C100_7 hs hI ?_) (fun _ _ q => q)
      intro w5v w5a w5b
      show zGo X l 3 0 0 99 115 [(0, .ref 6), (1, .int a)] [.int w5v] M _
      exact zs_iret (pc := 115) t99_115 mr99 rfl (hQ _ _ hs hI (zFr.refl) (zrg _).1 (zrg _).2)
    by_cases w6 : a.toInt = 2
    · refine zs_tswI (pc := 23) t99_23 ((rfl : a.toInt = a.toInt).trans w6) (by decide) rfl (pc2 := 116) rfl ?_
      refine zs_aload_n (pc := 116) t99_116 rfl ?_
      refine zs_get (pc := 117) t99_117 (by decide) (zk1 (hs.k fk_zMc_6)) (hs.p rfl fv_zMc_6_0) ?_
      have w7 := ib7_3 hI
      refine zs_get (pc := 120) t99_120 (by decide) (zk1 (hs.k fk_zMc_7)) (zfvi rfl rfl) ?_
      exact zs_iret (pc := 123) t99_123 mr99 rfl (hQ _ _ hs hI (zFr.refl) (zrg _).1 (zrg _).2)
    by_cases w8 : a.toInt = 3
    · refine zs_tswI (pc := 23) t99_23 ((rfl : a.toInt = a.toInt).trans w8) (by decide) rfl (pc2 := 124) rfl ?_
      refine zs_aload_n (pc := 124) t99_124 rfl ?_
      refine zs_get (pc := 125) t99_125 (by decide) (zk1 (hs.k fk_zMc_6)) (hs.p rfl fv_zMc_6_0) ?_
      refine zs_invV (pc := 128) (k := 7) (as' := []) (st := []) t99_128 mf92 rfl rfl (Or.inl ⟨by decide, (zk1 (hs.k fk_zMc_7))⟩) ⟨by decide, by decide, Nat.le_of_ble_eq_true rfl, Nat.le_of_ble_eq_true rfl⟩ (C92_7 hs hI ?_) (fun _ _ q => q)
      intro w9v w9a w9b
      show zGo X l 3 0 0 99 131 [(0, .ref 6), (1, .int a)] [.int w9v] M _
      exact zs_iret (pc := 131) t99_131 mr99 rfl (hQ _ _ hs hI (zFr.refl) (zrg _).1 (zrg _).2)
    by_cases w10 : a.toInt = 4
    · refine zs_tswI (pc := 23) t99_23 ((rfl : a.toInt = a.toInt).trans w10) (by decide) rfl (pc2 := 132) rfl ?_
      refine zs_aload_n (pc := 132) t99_132 rfl ?_
      refine zs_get (pc := 133) t99_133 (by decide) (zk1 (hs.k fk_zMc_6)) (hs.p rfl fv_zMc_6_0) ?_
      have w11 := ib7_8 hI
      refine zs_get (pc := 136) t99_136 (by decide) (zk1 (hs.k fk_zMc_7)) (zfvi rfl rfl) ?_
      exact zs_iret (pc := 139) t99_139 mr99 rfl (hQ _ _ hs hI (zFr.refl) (zrg _).1 (zrg _).2)
    refine zs_tswD (pc := 23) t99_23 rfl (by omega) (pc2 := 156) rfl ?_
    refine zs_iconst (pc := 156) t99_156 (v := -1) (by decide) ?_
    exact zs_iret (pc := 157) t99_157 mr99 (by decide) (hQ _ _ hs hI (zFr.refl) (zrg _).1 (zrg _).2)
  · refine zs_icmp_ltF (pc := 2) t99_2 rfl li5 (by omega) ?_
    refine zs_iload_n (pc := 5) t99_5 rfl ?_
    refine zs_bipush (pc := 6) t99_6 (v := 14) (by decide) ?_
    by_cases w12 : 14 ≤ a.toInt
    · refine zs_icmp_geT (pc := 8) t99_8 rfl li14 (by omega) ?_
      refine zs_iload_n (pc := 22) t99_22 rfl ?_
      by_cases w13 : a.toInt = 14
      · refine zs_tswI (pc := 23) t99_23 ((rfl : a.toInt = a.toInt).trans w13) (by decide) rfl (pc2 := 140) rfl ?_
        refine zs_aload_n (pc := 140) t99_140 rfl ?_
        refine zs_get (pc := 141) t99_141 (by decide) (zk1 (hs.k fk_zMc_6)) (hs.p rfl fv_zMc_6_2) ?_
        refine zs_invV (pc := 144) (k := 31) (as' := []) (st := []) t99_144 mf101 rfl rfl (Or.inl ⟨by decide, (zk1 (hs.k fk_zMc_31))⟩) ⟨by decide, by decide, Nat.le_of_ble_eq_true rfl, Nat.le_of_ble_eq_true rfl⟩ (zs_in (by decide) mf101 (Nat.le_of_ble_eq_true rfl) ?_) (fun _ _ q => q)
        show zGo X l 0 0 0 101 0 [(0, .ref 31)] [] M _
        refine zs_aload_n (pc := 0) t101_0 rfl ?_
        have w14 := ib31_2 hI
        refine zs_get (pc := 1) t101_1 (by decide) (zk1 (hs.k fk_zMc_31)) (zfvi rfl rfl) ?_
        refine zs_iret (pc := 4) t101_4 mr101 rfl ?_
        show zGo X l 3 0 0 99 147 [(0, .ref 6), (1, .int a)] [.int (zI M 31 2)] M _
        exact zs_iret (pc := 147) t99_147 mr99 rfl (hQ _ _ hs hI (zFr.refl) (zrg _).1 (zrg _).2)
      by_cases w15 : a.toInt = 15
      · refine zs_tswI (pc := 23) t99_23 ((rfl : a.toInt = a.toInt).trans w15) (by decide) rfl (pc2 := 148) rfl ?_
        refine zs_aload_n (pc := 148) t99_148 rfl ?_
        refine zs_get (pc := 149) t99_149 (by decide) (zk1 (hs.k fk_zMc_6)) (hs.p rfl fv_zMc_6_3) ?_
        refine zs_invV (pc := 152) (k := 155) (as' := []) (st := []) t99_152 mf17 rfl rfl (Or.inl ⟨by decide, (zk1 (hs.k fk_zMc_155))⟩) ⟨by decide, by decide, Nat.le_of_ble_eq_true rfl, Nat.le_of_ble_eq_true rfl⟩ (zs_in (by decide) mf17 (Nat.le_of_ble_eq_true rfl) ?_) (fun _ _ q => q)
        show zGo X l 0 0 0 17 0 [(0, .ref 155)] [] M _
        refine zs_aload_n (pc := 0) t17_0 rfl ?_
        have w16 := ib155_1 hI
        refine zs_get (pc := 1) t17_1 (by decide) (zk1 (hs.k fk_zMc_155)) (zfvi rfl rfl) ?_
        refine zs_iret (pc := 4) t17_4 mr17 rfl ?_
        show zGo X l 3 0 0 99 155 [(0, .ref 6), (1, .int a)] [.int (zI M 155 1)] M _
        exact zs_iret (pc := 155) t99_155 mr99 rfl (hQ _ _ hs hI (zFr.refl) (zrg _).1 (zrg _).2)
      refine zs_tswD (pc := 23) t99_23 rfl (by omega) (pc2 := 156) rfl ?_
      refine zs_iconst (pc := 156) t99_156 (v := -1) (by decide) ?_
      exact zs_iret (pc := 157) t99_157 mr99 (by decide) (hQ _ _ hs hI (zFr.refl) (zrg _).1 (zrg _).2)
    · refine zs_icmp_geF (pc := 8) t99_8 rfl li14 (by omega) ?_
      refine zs_aload_n (pc := 11) t99_11 rfl ?_
      refine zs_get (pc := 12) t99_12 (by decide) (zk1 (hs.k fk_zMc_6)) (hs.p rfl fv_zMc_6_0) ?_
      refine zs_iload_n (pc := 15) t99_15 rfl ?_
      refine zs_iconst (pc := 16) t99_16 (v := 5) (by decide) ?_
      obtain ⟨w17v, w17e, w17⟩ := zisub (a := a) (b := (5 : Int32)) rfl li5 (by omega) (by omega)
      refine zs_isub (pc := 17) t99_17 (c := w17v) w17e ?_
      refine zs_invV (pc := 18) (k := 7) (as' := [.int w17v]) (st := []) t99_18 mf96 rfl rfl (Or.inl ⟨by decide, (zk1 (hs.k fk_zMc_7))⟩) ⟨by decide, by decide, Nat.le_of_ble_eq_true rfl, Nat.le_of_ble_eq_true rfl⟩ (zs_in (by decide) mf96 (Nat.le_of_ble_eq_true rfl) ?_) (fun _ _ q => q)
      show zGo X l 0 0 0 96 0 [(0, .ref 7), (1, .int w17v)] [] M _
      refine zs_iload_n (pc := 0) t96_0 rfl ?_
      refine zs_if_ltF (pc := 1) t96_1 w17 (by omega) ?_
      refine zs_iload_n (pc := 4) t96_4 rfl ?_
      refine zs_bipush (pc := 5) t96_5 (v := 9) (by decide) ?_
      refine zs_icmp_geF (pc := 7) t96_7 w17 li9 (by omega) ?_
      refine zs_aload_n (pc := 10) t96_10 rfl ?_
      refine zs_get (pc := 11) t96_11 (by decide) (zk1 (hs.k fk_zMc_7)) (hs.p rfl fv_zMc_7_12) ?_
      refine zs_iload_n (pc := 14) t96_14 rfl ?_
      obtain ⟨w18n, w18⟩ : ∃ n : Nat, w17v.toInt = (n : Int) := ⟨w17v.toInt.toNat, by omega⟩
      have w19 := ib17 hI w18n
      refine zs_iald (pc := 15) t96_15 (j := w18n) (by decide) (zk1 (hs.k fk_zMc_17)) w18 (zk2 (hs.k fk_zMc_17) (by omega)) rfl ?_
      refine zs_goto (pc := 16) t96_16 ?_
      refine zs_iret (pc := 20) t96_20 mr96 rfl ?_
      show zGo X l 3 0 0 99 21 [(0, .ref 6), (1, .int a)] [.int (zI M 17 w18n)] M _
      exact zs_iret (pc := 21) t99_21 mr99 rfl (hQ _ _ hs hI (zFr.refl) (zrg _).1 (zrg _).2)
theorem T102_6 {X : zX} {l : Launch} {M : zM} {Q : Option Value → zM → Prop} {a b : Int32} (hs : zSk zMc M) (hI : zIv cLo cHi M) (hQ : ∀ (M' : zM) (v : Int32), zSk zMc M' → zIv cLo cHi M' → zFr [(161, 334, none)] M M' → (-2147483648) ≤ v.toInt → v.toInt ≤ 2147483647 → Q (some (.int v)) M') : zCall X l 3 0 0 102 [.ref 6, .int a, .int b] M Q := by
  have ga := zrg a
  have gb := zrg b
  refine zs_in (by decide) mf102 (Nat.le_of_ble_eq_true rfl) ?_
  show zGo X l 3 0 0 102 0 [(0, .ref 6), (1, .int a), (2, .int b)] [] M _
  refine zs_aload_n (pc := 0) t102_0 rfl ?_
  refine zs_get (pc := 1) t102_1 (by decide) (zk1 (hs.k fk_zMc_6)) (hs.p rfl fv_zMc_6_0) ?_
  refine zs_iload_n (pc := 4) t102_4 rfl ?_
  refine zs_invV (pc := 5) (k := 7) (as' := [.int a]) (st := []) t102_5 mf41 rfl rfl (Or.inl ⟨by decide, (zk1 (hs.k fk_zMc_7))⟩) ⟨by decide, by decide, Nat.le_of_ble_eq_true rfl, Nat.le_of_ble_eq_true rfl⟩ (zs_in (by decide) mf41 (Nat.le_of_ble_eq_true rfl) ?_) (fun _ _ q => q)
  show zGo X l 0 0 0 41 0 [(0, .ref 7), (1, .int a)] [] M _
  refine zs_iload_n (pc := 0) t41_0 rfl ?_
  by_cases w1 : a.toInt < 0
  · refine zs_if_ltT (pc := 1) t41_1 rfl (by omega) ?_
    refine zs_iconst (pc := 16) t41_16 (v := 0) (by decide) ?_
    refine zs_iret (pc := 17) t41_17 mr41 (by decide) ?_
    show zGo X l 3 0 0 102 8 [(0, .ref 6), (1, .int a), (2, .int b)] [.int (0 : Int32)] M _
    refine zs_if_neF (pc := 8) t102_8 li0 (by decide) ?_
    refine zs_iconst (pc := 11) t102_11 (v := -1) (by decide) ?_
    exact zs_iret (pc := 12) t102_12 mr102 (by decide) (hQ _ _ hs hI (zFr.refl) (zrg _).1 (zrg _).2)
  · refine zs_if_ltF (pc := 1) t41_1 rfl (by omega) ?_
    refine zs_iload_n (pc := 4) t41_4 rfl ?_
    refine zs_aload_n (pc := 5) t41_5 rfl ?_
    have w2 := ib7_0 hI
    refine zs_get (pc := 6) t41_6 (by decide) (zk1 (hs.k fk_zMc_7)) (zfvi rfl rfl) ?_
    by_cases w3 : (zI M 7 0).toInt ≤ a.toInt
    · refine zs_icmp_geT (pc := 9) t41_9 rfl rfl (by omega) ?_
      refine zs_iconst (pc := 16) t41_16 (v := 0) (by decide) ?_
      refine zs_iret (pc := 17) t41_17 mr41 (by decide) ?_
      show zGo X l 3 0 0 102 8 [(0, .ref 6), (1, .int a), (2, .int b)] [.int (0 : Int32)] M _
      refine zs_if_neF (pc := 8) t102_8 li0 (by decide) ?_
      refine zs_iconst (pc := 11) t102_11 (v := -1) (by decide) ?_
      exact zs_iret (pc := 12) t102_12 mr102 (by decide) (hQ _ _ hs hI (zFr.refl) (zrg _).1 (zrg _).2)
    · refine zs_icmp_geF (pc := 9) t41_9 rfl rfl (by omega) ?_
      refine zs_iconst (pc := 12) t41_12 (v := 1) (by decide) ?_
      refine zs_goto (pc := 13) t41_13 ?_
      refine zs_iret (pc := 17) t41_17 mr41 (by decide) ?_
      show zGo X l 3 0 0 102 8 [(0, .ref 6), (1, .int a), (2, .int b)] [.int (1 : Int32)] M _
      refine zs_if_neT (pc := 8) t102_8 li1 (by decide) ?_
      refine zs_iload_n (pc := 13) t102_13 rfl ?_
      by_cases w4 : b.toInt = 0
      · refine zs_tswI (pc := 14) t102_14 ((rfl : b.toInt = b.toInt).trans w4) (by decide) rfl (pc2 := 40) rfl ?_
        refine zs_aload_n (pc := 40) t102_40 rfl ?_
        refine zs_get (pc := 41) t102_41 (by decide) (zk1 (hs.k fk_zMc_6)) (hs.p rfl fv_zMc_6_0) ?_
        refine zs_get (pc := 44) t102_44 (by decide) (zk1 (hs.k fk_zMc_7)) (hs.p rfl fv_zMc_7_1) ?_
        refine zs_iload_n (pc := 47) t102_47 rfl ?_
        obtain ⟨w5n, w5⟩ : ∃ n : Nat, a.toInt = (n : Int) := ⟨a.toInt.toNat, by omega⟩
        have w6 := ib8 hI w5n
        refine zs_iald (pc := 48) t102_48 (j := w5n) (by decide) (zk1 (hs.k fk_zMc_8)) w5 (zk2 (hs.k fk_zMc_8) (by omega)) rfl ?_
        exact zs_iret (pc := 49) t102_49 mr102 rfl (hQ _ _ hs hI (zFr.refl) (zrg _).1 (zrg _).2)
      by_cases w7 : b.toInt = 1
      · refine zs_tswI (pc := 14) t102_14 ((rfl : b.toInt = b.toInt).trans w7) (by decide) rfl (pc2 := 50) rfl ?_
        refine zs_aload_n (pc := 50) t102_50 rfl ?_
        refine zs_get (pc := 51) t102_51 (by decide) (zk1 (hs.k fk_zMc_6)) (hs.p rfl fv_zMc_6_0) ?_
        refine zs_get (pc := 54) t102_54 (by decide) (zk1 (hs.k fk_zMc_7)) (hs.p rfl fv_zMc_7_2) ?_
        refine zs_iload_n (pc := 57) t102_57 rfl ?_
        obtain ⟨w8n, w8⟩ : ∃ n : Nat, a.toInt = (n : Int) := ⟨a.toInt.toNat, by omega⟩
        have w9 := ib9 hI w8n
        refine zs_bald (pc := 58) t102_58 (j := w8n) (Or.inr (zk1 (hs.k fk_zMc_9))) w8 (zk2 (hs.k fk_zMc_9) (by omega)) rfl ?_
        by_cases w10 : (zI M 9 w8n).toInt = 0
        · refine zs_if_eqT (pc := 59) t102_59 rfl (by omega) ?_
          refine zs_iconst (pc := 66) t102_66 (v := 0) (by decide) ?_
          exact zs_iret (pc := 67) t102_67 mr102 (by decide) (hQ _ _ hs hI (zFr.refl) (zrg _).1 (zrg _).2)
        · refine zs_if_eqF (pc := 59) t102_59 rfl (by omega) ?_
          refine zs_iconst (pc := 62) t102_62 (v := 1) (by decide) ?_
          refine zs_goto (pc := 63) t102_63 ?_
          exact zs_iret (pc := 67) t102_67 mr102 (by decide) (hQ _ _ hs hI (zFr.refl) (zrg _).1 (zrg _).2)
      by_cases w11 : b.toInt = 2
      · refine zs_tswI (pc := 14) t102_14 ((rfl : b.toInt = b.toInt).trans w11) (by decide) rfl (pc2 := 68) rfl ?_
        refine zs_aload_n (pc := 68) t102_68 rfl ?_
        refine zs_get (pc := 69) t102_69 (by decide) (zk1 (hs.k fk_zMc_6)) (hs.p rfl fv_zMc_6_0) ?_
        refine zs_iload_n (pc := 72) t102_72 rfl ?_
        refine zs_invV (pc := 73) (k := 7) (as' := [.int a]) (st := []) t102_73 mf103 rfl rfl (Or.inl ⟨by decide, (zk1 (hs.k fk_zMc_7))⟩) ⟨by decide, by decide, Nat.le_of_ble_eq_true rfl, Nat.le_of_ble_eq_true rfl⟩ (C103_7 hs hI ?_) (fun _ _ q => q)
        intro w12v w12a w12b
        show zGo X l 3 0 0 102 76 [(0, .ref 6), (1, .int a), (2, .int b)] [.int w12v] M _
        exact zs_iret (pc := 76) t102_76 mr102 rfl (hQ _ _ hs hI (zFr.refl) (zrg _).1 (zrg _).2)
      refine zs_tswD (pc := 14) t102_14 rfl (by omega) (pc2 := 77) rfl ?_
      refine zs_iconst (pc := 77) t102_77 (v := -1) (by decide) ?_
      exact zs_iret (pc := 78) t102_78 mr102 (by decide) (hQ _ _ hs hI (zFr.refl) (zrg _).1 (zrg _).2)
theorem T104_6 {X : zX} {l : Launch} {M : zM} {Q : Option Value → zM → Prop} {a b : Int32} (hs : zSk zMc M) (hI : zIv cLo cHi M) (hQ : ∀ (M' : zM) (v : Int32), zSk zMc M' → zIv cLo cHi M' → zFr [(161, 334, none)] M M' → (-2147483648) ≤ v.toInt → v.toInt ≤ 2147483647 → Q (some (.int v)) M') : zCall X l 6 0 0 104 [.ref 6, .int a, .int b] M Q := by
  have ga := zrg a
  have gb := zrg b
  refine zs_in (by decide) mf104 (Nat.le_of_ble_eq_true rfl) ?_
  show zGo X l 6 0 0 104 0 [(0, .ref 6), (1, .int a), (2, .int b)] [] M _
  refine zs_aload_n (pc := 0) t104_0 rfl ?_
  refine zs_get (pc := 1) t104_1 (by decide) (zk1 (hs.k fk_zMc_6)) (hs.p rfl fv_zMc_6_0) ?_
  refine zs_iload_n (pc := 4) t104_4 rfl ?_
  refine zs_invV (pc := 5) (k := 7) (as' := [.int a]) (st := []) t104_5 mf91 rfl rfl (Or.inl ⟨by decide, (zk1 (hs.k fk_zMc_7))⟩) ⟨by decide, by decide, Nat.le_of_ble_eq_true rfl, Nat.le_of_ble_eq_true rfl⟩ (zs_in (by decide) mf91 (Nat.le_of_ble_eq_true rfl) ?_) (fun _ _ q => q)
  show zGo X l 0 0 0 91 0 [(0, .ref 7), (1, .int a)] [] M _
  refine zs_iload_n (pc := 0) t91_0 rfl ?_
  by_cases w1 : a.toInt < 0
  · refine zs_if_ltT (pc := 1) t91_1 rfl (by omega) ?_
    refine zs_iconst (pc := 16) t91_16 (v := 0) (by decide) ?_
    refine zs_iret (pc := 17) t91_17 mr91 (by decide) ?_
    show zGo X l 6 0 0 104 8 [(0, .ref 6), (1, .int a), (2, .int b)] [.int (0 : Int32)] M _
    refine zs_if_neF (pc := 8) t104_8 li0 (by decide) ?_
    refine zs_ldc (pc := 11) t104_11 (v := -100000) rfl (by decide) ?_
    exact zs_iret (pc := 13) t104_13 mr104 (by decide) (hQ _ _ hs hI (zFr.refl) (zrg _).1 (zrg _).2)
  · refine zs_if_ltF (pc := 1) t91_1 rfl (by omega) ?_
    refine zs_iload_n (pc := 4) t91_4 rfl ?_
    refine zs_aload_n (pc := 5) t91_5 rfl ?_
    have w2 := ib7_3 hI
    refine zs_get (pc := 6) t91_6 (by decide) (zk1 (hs.k fk_zMc_7)) (zfvi rfl rfl) ?_
    by_cases w3 : (zI M 7 3).toInt ≤ a.toInt
    · refine zs_icmp_geT (pc := 9) t91_9 rfl rfl (by omega) ?_
      refine zs_iconst (pc := 16) t91_16 (v := 0) (by decide) ?_
      refine zs_iret (pc := 17) t91_17 mr91 (by decide) ?_
      show zGo X l 6 0 0 104 8 [(0, .ref 6), (1, .int a), (2, .int b)] [.int (0 : Int32)] M _
      refine zs_if_neF (pc := 8) t104_8 li0 (by decide) ?_
      refine zs_ldc (pc := 11) t104_11 (v := -100000) rfl (by decide) ?_
      exact zs_iret (pc := 13) t104_13 mr104 (by decide) (hQ _ _ hs hI (zFr.refl) (zrg _).1 (zrg _).2)
    · refine zs_icmp_geF (pc := 9) t91_9 rfl rfl (by omega) ?_
      refine zs_iconst (pc := 12) t91_12 (v := 1) (by decide) ?_
      refine zs_goto (pc := 13) t91_13 ?_
      refine zs_iret (pc := 17) t91_17 mr91 (by decide) ?_
      show zGo X l 6 0 0 104 8 [(0, .ref 6), (1, .int a), (2, .int b)] [.int (1 : Int32)] M _
      refine zs_if_neT (pc := 8) t104_8 li1 (by decide) ?_
      refine zs_iload_n (pc := 14) t104_14 rfl ?_
      by_cases w4 : b.toInt = 0
      · refine zs_tswI (pc := 15) t104_15 ((rfl : b.toInt = b.toInt).trans w4) (by decide) rfl (pc2 := 52) rfl ?_
        refine zs_aload_n (pc := 52) t104_52 rfl ?_
        refine zs_get (pc := 53) t104_53 (by decide) (zk1 (hs.k fk_zMc_6)) (hs.p rfl fv_zMc_6_0) ?_
        refine zs_get (pc := 56) t104_56 (by decide) (zk1 (hs.k fk_zMc_7)) (hs.p rfl fv_zMc_7_4) ?_
        refine zs_iload_n (pc := 59) t104_59 rfl ?_
        obtain ⟨w5n, w5⟩ : ∃ n : Nat, a.toInt = (n : Int) := ⟨a.toInt.toNat, by omega⟩
        have w6 := ib10 hI w5n
        refine zs_iald (pc := 60) t104_60 (j := w5n) (by decide) (zk1 (hs.k fk_zMc_10)) w5 (zk2 (hs.k fk_zMc_10) (by omega)) rfl ?_
        exact zs_iret (pc := 61) t104_61 mr104 rfl (hQ _ _ hs hI (zFr.refl) (zrg _).1 (zrg _).2)
      by_cases w7 : b.toInt = 1
      · refine zs_tswI (pc := 15) t104_15 ((rfl : b.toInt = b.toInt).trans w7) (by decide) rfl (pc2 := 62) rfl ?_
        refine zs_aload_n (pc := 62) t104_62 rfl ?_
        refine zs_get (pc := 63) t104_63 (by decide) (zk1 (hs.k fk_zMc_6)) (hs.p rfl fv_zMc_6_0) ?_
        refine zs_get (pc := 66) t104_66 (by decide) (zk1 (hs.k fk_zMc_7)) (hs.p rfl fv_zMc_7_5) ?_
        refine zs_iload_n (pc := 69) t104_69 rfl ?_
        obtain ⟨w8n, w8⟩ : ∃ n : Nat, a.toInt = (n : Int) := ⟨a.toInt.toNat, by omega⟩
        have w9 := ib11 hI w8n
        refine zs_iald (pc := 70) t104_70 (j := w8n) (by decide) (zk1 (hs.k fk_zMc_11)) w8 (zk2 (hs.k fk_zMc_11) (by omega)) rfl ?_
        exact zs_iret (pc := 71) t104_71 mr104 rfl (hQ _ _ hs hI (zFr.refl) (zrg _).1 (zrg _).2)
      by_cases w10 : b.toInt = 2
      · refine zs_tswI (pc := 15) t104_15 ((rfl : b.toInt = b.toInt).trans w10) (by decide) rfl (pc2 := 72) rfl ?_
        refine zs_aload_n (pc := 72) t104_72 rfl ?_
        refine zs_get (pc := 73) t104_73 (by decide) (zk1 (hs.k fk_zMc_6)) (hs.p rfl fv_zMc_6_0) ?_
        refine zs_get (pc := 76) t104_76 (by decide) (zk1 (hs.k fk_zMc_7)) (hs.p rfl fv_zMc_7_6) ?_
        refine zs_iload_n (pc := 79) t104_79 rfl ?_
        obtain ⟨w11n, w11⟩ : ∃ n : Nat, a.toInt = (n : Int) := ⟨a.toInt.toNat, by omega⟩
        have w12 := ib12 hI w11n
        refine zs_iald (pc := 80) t104_80 (j := w11n) (by decide) (zk1 (hs.k fk_zMc_12)) w11 (zk2 (hs.k fk_zMc_12) (by omega)) rfl ?_
        exact zs_iret (pc := 81) t104_81 mr104 rfl (hQ _ _ hs hI (zFr.refl) (zrg _).1 (zrg _).2)
      by_cases w13 : b.toInt = 3
      · refine zs_tswI (pc := 15) t104_15 ((rfl : b.toInt = b.toInt).trans w13) (by decide) rfl (pc2 := 82) rfl ?_
        refine zs_aload_n (pc := 82) t104_82 rfl ?_
        refine zs_get (pc := 83) t104_83 (by decide) (zk1 (hs.k fk_zMc_6)) (hs.p rfl fv_zMc_6_0) ?_
        refine zs_get (pc := 86) t104_86 (by decide) (zk1 (hs.k fk_zMc_7)) (hs.p rfl fv_zMc_7_7) ?_
        refine zs_iload_n (pc := 89) t104_89 rfl ?_
        obtain ⟨w14n, w14⟩ : ∃ n : Nat, a.toInt = (n : Int) := ⟨a.toInt.toNat, by omega⟩
        have w15 := ib13 hI w14n
        refine zs_iald (pc := 90) t104_90 (j := w14n) (by decide) (zk1 (hs.k fk_zMc_13)) w14 (zk2 (hs.k fk_zMc_13) (by omega)) rfl ?_
        exact zs_iret (pc := 91) t104_91 mr104 rfl (hQ _ _ hs hI (zFr.refl) (zrg _).1 (zrg _).2)
      by_cases w16 : b.toInt = 4
      · refine zs_tswI (pc := 15) t104_15 ((rfl : b.toInt = b.toInt).trans w16) (by decide) rfl (pc2 := 92) rfl ?_
        refine zs_aload_n (pc := 92) t104_92 rfl ?_
        refine zs_get (pc := 93) t104_93 (by decide) (zk1 (hs.k fk_zMc_6)) (hs.p rfl fv_zMc_6_0) ?_
        refine zs_iload_n (pc := 96) t104_96 rfl ?_
        refine zs_invV (pc := 97) (k := 7) (as' := [.int a]) (st := []) t104_97 mf93 rfl rfl (Or.inl ⟨by decide, (zk1 (hs.k fk_zMc_7))⟩) ⟨by decide, by decide, Nat.le_of_ble_eq_true rfl, Nat.le_of_ble_eq_true rfl⟩ (zs_in (by decide) mf93 (Nat.le_of_ble_eq_true rfl) ?_) (fun _ _ q => q)
        show zGo X l 1 0 0 93 0 [(0, .ref 7), (1, .int a)] [] M _
        refine zs_aload_n (pc := 0) t93_0 rfl ?_
        refine zs_iload_n (pc := 1) t93_1 rfl ?_
        refine zs_invV (pc := 2) (k := 7) (as' := [.int a]) (st := []) t93_2 mf91 rfl rfl (Or.inl ⟨by decide, (zk1 (hs.k fk_zMc_7))⟩) ⟨by decide, by decide, Nat.le_of_ble_eq_true rfl, Nat.le_of_ble_eq_true rfl⟩ (zs_in (by decide) mf91 (Nat.le_of_ble_eq_true rfl) ?_) (fun _ _ q => q)
        show zGo X l 0 0 0 91 0 [(0, .ref 7), (1, .int a)] [] M _
        refine zs_iload_n (pc := 0) t91_0 rfl ?_
        refine zs_if_ltF (pc := 1) t91_1 rfl (by omega) ?_
        refine zs_iload_n (pc := 4) t91_4 rfl ?_
        refine zs_aload_n (pc := 5) t91_5 rfl ?_
        refine zs_get (pc := 6) t91_6 (by decide) (zk1 (hs.k fk_zMc_7)) (zfvi rfl rfl) ?_
        by_cases w17 : (zI M 7 3).toInt ≤ a.toInt
        · refine zs_icmp_geT (pc := 9) t91_9 rfl rfl (by omega) ?_
          refine zs_iconst (pc := 16) t91_16 (v := 0) (by decide) ?_
          refine zs_iret (pc := 17) t91_17 mr91 (by decide) ?_
          show zGo X l 1 0 0 93 5 [(0, .ref 7), (1, .int a)] [.int (0 : Int32)] M _
          refine zs_if_eqT (pc := 5) t93_5 li0 (by decide) ?_
          refine zs_iconst (pc := 51) t93_51 (v := 0) (by decide) ?_
          refine zs_iret (pc := 52) t93_52 mr93 (by decide) ?_
          show zGo X l 6 0 0 104 100 [(0, .ref 6), (1, .int a), (2, .int b)] [.int (0 : Int32)] M _
          refine zs_if_eqT (pc := 100) t104_100 li0 (by decide) ?_
          refine zs_iconst (pc := 107) t104_107 (v := 0) (by decide) ?_
          exact zs_iret (pc := 108) t104_108 mr104 (by decide) (hQ _ _ hs hI (zFr.refl) (zrg _).1 (zrg _).2)
        · refine zs_icmp_geF (pc := 9) t91_9 rfl rfl (by omega) ?_
          refine zs_iconst (pc := 12) t91_12 (v := 1) (by decide) ?_
          refine zs_goto (pc := 13) t91_13 ?_
          refine zs_iret (pc := 17) t91_17 mr91 (by decide) ?_
          show zGo X l 1 0 0 93 5 [(0, .ref 7), (1, .int a)] [.int (1 : Int32)] M _
          refine zs_if_eqF (pc := 5) t93_5 li1 (by decide) ?_
          refine zs_aload_n (pc := 8) t93_8 rfl ?_
          refine zs_get (pc := 9) t93_9 (by decide) (zk1 (hs.k fk_zMc_7)) (hs.p rfl fv_zMc_7_2) ?_
          refine zs_aload_n (pc := 12) t93_12 rfl ?_
          refine zs_get (pc := 13) t93_13 (by decide) (zk1 (hs.k fk_zMc_7)) (hs.p rfl fv_zMc_7_4) ?_
          refine zs_iload_n (pc := 16) t93_16 rfl ?_
          obtain ⟨w18n, w18⟩ : ∃ n : Nat, a.toInt = (n : Int) := ⟨a.toInt.toNat, by omega⟩
          have w19 := ib10 hI w18n
          refine zs_iald (pc := 17) t93_17 (j := w18n) (by decide) (zk1 (hs.k fk_zMc_10)) w18 (zk2 (hs.k fk_zMc_10) (by omega)) rfl ?_
          obtain ⟨w20n, w20⟩ : ∃ n : Nat, (zI M 10 w18n).toInt = (n : Int) := ⟨(zI M 10 w18n).toInt.toNat, by omega⟩
          have w21 := ib9 hI w20n
          refine zs_bald (pc := 18) t93_18 (j := w20n) (Or.inr (zk1 (hs.k fk_zMc_9))) w20 (zk2 (hs.k fk_zMc_9) (by omega)) rfl ?_
          by_cases w22 : (zI M 9 w20n).toInt = 0
          · refine zs_if_eqT (pc := 19) t93_19 rfl (by omega) ?_
            refine zs_iconst (pc := 51) t93_51 (v := 0) (by decide) ?_
            refine zs_iret (pc := 52) t93_52 mr93 (by decide) ?_
            show zGo X l 6 0 0 104 100 [(0, .ref 6), (1, .int a), (2, .int b)] [.int (0 : Int32)] M _
            refine zs_if_eqT (pc := 100) t104_100 li0 (by decide) ?_
            refine zs_iconst (pc := 107) t104_107 (v := 0) (by decide) ?_
            exact zs_iret (pc := 108) t104_108 mr104 (by decide) (hQ _ _ hs hI (zFr.refl) (zrg _).1 (zrg _).2)
          · refine zs_if_eqF (pc := 19) t93_19 rfl (by omega) ?_
            refine zs_aload_n (pc := 22) t93_22 rfl ?_
            refine zs_get (pc := 23) t93_23 (by decide) (zk1 (hs.k fk_zMc_7)) (hs.p rfl fv_zMc_7_6) ?_
            refine zs_iload_n (pc := 26) t93_26 rfl ?_
            have w23 := ib12 hI w18n
            refine zs_iald (pc := 27) t93_27 (j := w18n) (by decide) (zk1 (hs.k fk_zMc_12)) w18 (zk2 (hs.k fk_zMc_12) (by omega)) rfl ?_
            refine zs_aload_n (pc := 28) t93_28 rfl ?_
            refine zs_get (pc := 29) t93_29 (by decide) (zk1 (hs.k fk_zMc_7)) (hs.p rfl fv_zMc_7_12) ?_
            refine zs_iconst (pc := 32) t93_32 (v := 5) (by decide) ?_
            have w24 := ib17 hI 5
            refine zs_iald (pc := 33) t93_33 (j := 5) (by decide) (zk1 (hs.k fk_zMc_17)) li5 (zk2 (hs.k fk_zMc_17) (by decide)) rfl ?_
            refine zs_aload_n (pc := 34) t93_34 rfl ?_
            refine zs_get (pc := 35) t93_35 (by decide) (zk1 (hs.k fk_zMc_7)) (hs.p rfl fv_zMc_7_12) ?_
            refine zs_bipush (pc := 38) t93_38 (v := 6) (by decide) ?_
            have w25 := ib17 hI 6
            refine zs_iald (pc := 40) t93_40 (j := 6) (by decide) (zk1 (hs.k fk_zMc_17)) li6 (zk2 (hs.k fk_zMc_17) (by decide)) rfl ?_
            refine zs_invS (pc := 41) (as := [.int (zI M 12 w18n), .int (zI M 17 5), .int (zI M 17 6)]) (st := []) t93_41 (by decide) mf39 rfl rfl ⟨by decide, by decide, Nat.le_of_ble_eq_true rfl, Nat.le_of_ble_eq_true rfl⟩ (zs_in (by decide) mf39 (Nat.le_of_ble_eq_true rfl) ?_) (fun _ _ q => q)
            show zGo X l 0 0 0 39 0 [(0, .int (zI M 12 w18n)), (1, .int (zI M 17 5)), (2, .int (zI M 17 6))] [] M _
            refine zs_iload_n (pc := 0) t39_0 rfl ?_
            refine zs_iload_n (pc := 1) t39_1 rfl ?_
            by_cases w26 : (zI M 12 w18n).toInt < (zI M 17 5).toInt
            · refine zs_icmp_ltT (pc := 2) t39_2 rfl rfl (by omega) ?_
              refine zs_iconst (pc := 14) t39_14 (v := 0) (by decide) ?_
              refine zs_iret (pc := 15) t39_15 mr39 (by decide) ?_
              show zGo X l 1 0 0 93 44 [(0, .ref 7), (1, .int a)] [.int (0 : Int32)] M _
              refine zs_if_eqT (pc := 44) t93_44 li0 (by decide) ?_
              refine zs_iconst (pc := 51) t93_51 (v := 0) (by decide) ?_
              refine zs_iret (pc := 52) t93_52 mr93 (by decide) ?_
              show zGo X l 6 0 0 104 100 [(0, .ref 6), (1, .int a), (2, .int b)] [.int (0 : Int32)] M _
              refine zs_if_eqT (pc := 100) t104_100 li0 (by decide) ?_
              refine zs_iconst (pc := 107) t104_107 (v := 0) (by decide) ?_
              exact zs_iret (pc := 108) t104_108 mr104 (by decide) (hQ _ _ hs hI (zFr.refl) (zrg _).1 (zrg _).2)
            · refine zs_icmp_ltF (pc := 2) t39_2 rfl rfl (by omega) ?_
              refine zs_iload_n (pc := 5) t39_5 rfl ?_
              refine zs_iload_n (pc := 6) t39_6 rfl ?_
              by_cases w27 : (zI M 17 6).toInt < (zI M 12 w18n).toInt
              · refine zs_icmp_gtT (pc := 7) t39_7 rfl rfl (by omega) ?_
                refine zs_iconst (pc := 14) t39_14 (v := 0) (by decide) ?_
                refine zs_iret (pc := 15) t39_15 mr39 (by decide) ?_
                show zGo X l 1 0 0 93 44 [(0, .ref 7), (1, .int a)] [.int (0 : Int32)] M _
                refine zs_if_eqT (pc := 44) t93_44 li0 (by decide) ?_
                refine zs_iconst (pc := 51) t93_51 (v := 0) (by decide) ?_
                refine zs_iret (pc := 52) t93_52 mr93 (by decide) ?_
                show zGo X l 6 0 0 104 100 [(0, .ref 6), (1, .int a), (2, .int b)] [.int (0 : Int32)] M _
                refine zs_if_eqT (pc := 100) t104_100 li0 (by decide) ?_
                refine zs_iconst (pc := 107) t104_107 (v := 0) (by decide) ?_
                exact zs_iret (pc := 108) t104_108 mr104 (by decide) (hQ _ _ hs hI (zFr.refl) (zrg _).1 (zrg _).2)
              · refine zs_icmp_gtF (pc := 7) t39_7 rfl rfl (by omega) ?_
                refine zs_iconst (pc := 10) t39_10 (v := 1) (by decide) ?_
                refine zs_goto (pc := 11) t39_11 ?_
                refine zs_iret (pc := 15) t39_15 mr39 (by decide) ?_
                show zGo X l 1 0 0 93 44 [(0, .ref 7), (1, .int a)] [.int (1 : Int32)] M _
                refine zs_if_eqF (pc := 44) t93_44 li1 (by decide) ?_
                refine zs_iconst (pc := 47) t93_47 (v := 1) (by decide) ?_
                refine zs_goto (pc := 48) t93_48 ?_
                refine zs_iret (pc := 52) t93_52 mr93 (by decide) ?_
                show zGo X l 6 0 0 104 100 [(0, .ref 6), (1, .int a), (2, .int b)] [.int (1 : Int32)] M _
                refine zs_if_eqF (pc := 100) t104_100 li1 (by decide) ?_
                refine zs_iconst (pc := 103) t104_103 (v := 1) (by decide) ?_
                refine zs_goto (pc := 104) t104_104 ?_
                exact zs_iret (pc := 108) t104_108 mr104 (by decide) (hQ _ _ hs hI (zFr.refl) (zrg _).1 (zrg _).2)
      by_cases w28 : b.toInt = 5
      · refine zs_tswI (pc := 15) t104_15 ((rfl : b.toInt = b.toInt).trans w28) (by decide) rfl (pc2 := 109) rfl ?_
        refine zs_aload_n (pc := 109) t104_109 rfl ?_
        refine zs_get (pc := 110) t104_110 (by decide) (zk1 (hs.k fk_zMc_6)) (hs.p rfl fv_zMc_6_6) ?_
        refine zs_aload_n (pc := 113) t104_113 rfl ?_
        refine zs_get (pc := 114) t104_114 (by decide) (zk1 (hs.k fk_zMc_6)) (hs.p rfl fv_zMc_6_0) ?_
        refine zs_invV (pc := 117) (k := 164) (as' := [.ref 7]) (st := []) t104_117 mf105 rfl rfl (Or.inl ⟨by decide, (zk1 (hs.k fk_zMc_164))⟩) ⟨by decide, by decide, Nat.le_of_ble_eq_true rfl, Nat.le_of_ble_eq_true rfl⟩ (C105_164_7 hs hI ?_) (fun _ _ q => q)
        intro w29M w29s w29I w29F
        show zGo X l 6 0 0 104 120 [(0, .ref 6), (1, .int a), (2, .int b)] [.ref 164] w29M _
        refine zs_iload_n (pc := 120) t104_120 rfl ?_
        refine zs_invV (pc := 121) (k := 164) (as' := [.int a]) (st := []) t104_121 mf142 rfl rfl (Or.inl ⟨by decide, (zk1 (w29s.k fk_zMc_164))⟩) ⟨by decide, by decide, Nat.le_of_ble_eq_true rfl, Nat.le_of_ble_eq_true rfl⟩ (zs_in (by decide) mf142 (Nat.le_of_ble_eq_true rfl) ?_) (fun _ _ q => q)
        show zGo X l 0 0 0 142 0 [(0, .ref 164), (1, .int a)] [] w29M _
        refine zs_iload_n (pc := 0) t142_0 rfl ?_
        refine zs_if_ltF (pc := 1) t142_1 rfl (by omega) ?_
        refine zs_iload_n (pc := 4) t142_4 rfl ?_
        refine zs_bipush (pc := 5) t142_5 (v := 60) (by decide) ?_
        refine zs_icmp_geF (pc := 7) t142_7 rfl li60 (by omega) ?_
        refine zs_aload_n (pc := 10) t142_10 rfl ?_
        refine zs_get (pc := 11) t142_11 (by decide) (zk1 (w29s.k fk_zMc_164)) (w29s.p rfl fv_zMc_164_6) ?_
        refine zs_iload_n (pc := 14) t142_14 rfl ?_
        obtain ⟨w30n, w30⟩ : ∃ n : Nat, a.toInt = (n : Int) := ⟨a.toInt.toNat, by omega⟩
        have w31 := ib317 w29I w30n
        refine zs_iald (pc := 15) t142_15 (j := w30n) (by decide) (zk1 (w29s.k fk_zMc_317)) w30 (zk2 (w29s.k fk_zMc_317) (by omega)) rfl ?_
        refine zs_goto (pc := 16) t142_16 ?_
        refine zs_iret (pc := 21) t142_21 mr142 rfl ?_
        show zGo X l 6 0 0 104 124 [(0, .ref 6), (1, .int a), (2, .int b)] [.int (zI w29M 317 w30n)] w29M _
        exact zs_iret (pc := 124) t104_124 mr104 rfl (hQ _ _ w29s w29I ((zFr.refl).trans (w29F.mono rfl)) (zrg _).1 (zrg _).2)
      refine zs_tswD (pc := 15) t104_15 rfl (by omega) (pc2 := 125) rfl ?_
      refine zs_ldc (pc := 125) t104_125 (v := -100000) rfl (by decide) ?_
      exact zs_iret (pc := 127) t104_127 mr104 (by decide) (hQ _ _ hs hI (zFr.refl) (zrg _).1 (zrg _).2)
theorem T143_6 {X : zX} {l : Launch} {M : zM} {Q : Option Value → zM → Prop} {a b : Int32} (hs : zSk zMc M) (hI : zIv cLo cHi M) (hQ : ∀ (M' : zM) (v : Int32), zSk zMc M' → zIv cLo cHi M' → zFr [(161, 334, none)] M M' → (-2147483648) ≤ v.toInt → v.toInt ≤ 2147483647 → Q (some (.int v)) M') : zCall X l 6 0 0 143 [.ref 6, .int a, .int b] M Q := by
  have ga := zrg a
  have gb := zrg b
  refine zs_in (by decide) mf143 (Nat.le_of_ble_eq_true rfl) ?_
  show zGo X l 6 0 0 143 0 [(0, .ref 6), (1, .int a), (2, .int b)] [] M _
  refine zs_aload_n (pc := 0) t143_0 rfl ?_
  refine zs_get (pc := 1) t143_1 (by decide) (zk1 (hs.k fk_zMc_6)) (hs.p rfl fv_zMc_6_0) ?_
  refine zs_iload_n (pc := 4) t143_4 rfl ?_
  refine zs_invV (pc := 5) (k := 7) (as' := [.int a]) (st := []) t143_5 mf130 rfl rfl (Or.inl ⟨by decide, (zk1 (hs.k fk_zMc_7))⟩) ⟨by decide, by decide, Nat.le_of_ble_eq_true rfl, Nat.le_of_ble_eq_true rfl⟩ (zs_in (by decide) mf130 (Nat.le_of_ble_eq_true rfl) ?_) (fun _ _ q => q)
  show zGo X l 0 0 0 130 0 [(0, .ref 7), (1, .int a)] [] M _
  refine zs_iload_n (pc := 0) t130_0 rfl ?_
  by_cases w1 : a.toInt < 0
  · refine zs_if_ltT (pc := 1) t130_1 rfl (by omega) ?_
    refine zs_iconst (pc := 16) t130_16 (v := 0) (by decide) ?_
    refine zs_iret (pc := 17) t130_17 mr130 (by decide) ?_
    show zGo X l 6 0 0 143 8 [(0, .ref 6), (1, .int a), (2, .int b)] [.int (0 : Int32)] M _
    refine zs_if_neF (pc := 8) t143_8 li0 (by decide) ?_
    refine zs_ldc (pc := 11) t143_11 (v := -100000) rfl (by decide) ?_
    exact zs_iret (pc := 13) t143_13 mr143 (by decide) (hQ _ _ hs hI (zFr.refl) (zrg _).1 (zrg _).2)
  · refine zs_if_ltF (pc := 1) t130_1 rfl (by omega) ?_
    refine zs_iload_n (pc := 4) t130_4 rfl ?_
    refine zs_aload_n (pc := 5) t130_5 rfl ?_
    have w2 := ib7_8 hI
    refine zs_get (pc := 6) t130_6 (by decide) (zk1 (hs.k fk_zMc_7)) (zfvi rfl rfl) ?_
    by_cases w3 : (zI M 7 8).toInt ≤ a.toInt
    · refine zs_icmp_geT (pc := 9) t130_9 rfl rfl (by omega) ?_
      refine zs_iconst (pc := 16) t130_16 (v := 0) (by decide) ?_
      refine zs_iret (pc := 17) t130_17 mr130 (by decide) ?_
      show zGo X l 6 0 0 143 8 [(0, .ref 6), (1, .int a), (2, .int b)] [.int (0 : Int32)] M _
      refine zs_if_neF (pc := 8) t143_8 li0 (by decide) ?_
      refine zs_ldc (pc := 11) t143_11 (v := -100000) rfl (by decide) ?_
      exact zs_iret (pc := 13) t143_13 mr143 (by decide) (hQ _ _ hs hI (zFr.refl) (zrg _).1 (zrg _).2)
    · refine zs_icmp_geF (pc := 9) t130_9 rfl rfl (by omega) ?_
      refine zs_iconst (pc := 12) t130_12 (v := 1) (by decide) ?_
      refine zs_goto (pc := 13) t130_13 ?_
      refine zs_iret (pc := 17) t130_17 mr130 (by decide) ?_
      show zGo X l 6 0 0 143 8 [(0, .ref 6), (1, .int a), (2, .int b)] [.int (1 : Int32)] M _
      refine zs_if_neT (pc := 8) t143_8 li1 (by decide) ?_
      refine zs_iload_n (pc := 14) t143_14 rfl ?_
      by_cases w4 : b.toInt = 0
      · refine zs_tswI (pc := 15) t143_15 ((rfl : b.toInt = b.toInt).trans w4) (by decide) rfl (pc2 := 48) rfl ?_
        refine zs_aload_n (pc := 48) t143_48 rfl ?_
        refine zs_get (pc := 49) t143_49 (by decide) (zk1 (hs.k fk_zMc_6)) (hs.p rfl fv_zMc_6_0) ?_
        refine zs_get (pc := 52) t143_52 (by decide) (zk1 (hs.k fk_zMc_7)) (hs.p rfl fv_zMc_7_9) ?_
        refine zs_iload_n (pc := 55) t143_55 rfl ?_
        obtain ⟨w5n, w5⟩ : ∃ n : Nat, a.toInt = (n : Int) := ⟨a.toInt.toNat, by omega⟩
        have w6 := ib14 hI w5n
        refine zs_iald (pc := 56) t143_56 (j := w5n) (by decide) (zk1 (hs.k fk_zMc_14)) w5 (zk2 (hs.k fk_zMc_14) (by omega)) rfl ?_
        exact zs_iret (pc := 57) t143_57 mr143 rfl (hQ _ _ hs hI (zFr.refl) (zrg _).1 (zrg _).2)
      by_cases w7 : b.toInt = 1
      · refine zs_tswI (pc := 15) t143_15 ((rfl : b.toInt = b.toInt).trans w7) (by decide) rfl (pc2 := 58) rfl ?_
        refine zs_aload_n (pc := 58) t143_58 rfl ?_
        refine zs_get (pc := 59) t143_59 (by decide) (zk1 (hs.k fk_zMc_6)) (hs.p rfl fv_zMc_6_0) ?_
        refine zs_get (pc := 62) t143_62 (by decide) (zk1 (hs.k fk_zMc_7)) (hs.p rfl fv_zMc_7_10) ?_
        refine zs_iload_n (pc := 65) t143_65 rfl ?_
        obtain ⟨w8n, w8⟩ : ∃ n : Nat, a.toInt = (n : Int) := ⟨a.toInt.toNat, by omega⟩
        have w9 := ib15 hI w8n
        refine zs_iald (pc := 66) t143_66 (j := w8n) (by decide) (zk1 (hs.k fk_zMc_15)) w8 (zk2 (hs.k fk_zMc_15) (by omega)) rfl ?_
        exact zs_iret (pc := 67) t143_67 mr143 rfl (hQ _ _ hs hI (zFr.refl) (zrg _).1 (zrg _).2)
      by_cases w10 : b.toInt = 2
      · refine zs_tswI (pc := 15) t143_15 ((rfl : b.toInt = b.toInt).trans w10) (by decide) rfl (pc2 := 68) rfl ?_
        refine zs_aload_n (pc := 68) t143_68 rfl ?_
        refine zs_get (pc := 69) t143_69 (by decide) (zk1 (hs.k fk_zMc_6)) (hs.p rfl fv_zMc_6_0) ?_
        refine zs_get (pc := 72) t143_72 (by decide) (zk1 (hs.k fk_zMc_7)) (hs.p rfl fv_zMc_7_11) ?_
        refine zs_iload_n (pc := 75) t143_75 rfl ?_
        obtain ⟨w11n, w11⟩ : ∃ n : Nat, a.toInt = (n : Int) := ⟨a.toInt.toNat, by omega⟩
        have w12 := ib16 hI w11n
        refine zs_iald (pc := 76) t143_76 (j := w11n) (by decide) (zk1 (hs.k fk_zMc_16)) w11 (zk2 (hs.k fk_zMc_16) (by omega)) rfl ?_
        exact zs_iret (pc := 77) t143_77 mr143 rfl (hQ _ _ hs hI (zFr.refl) (zrg _).1 (zrg _).2)
      by_cases w13 : b.toInt = 3
      · refine zs_tswI (pc := 15) t143_15 ((rfl : b.toInt = b.toInt).trans w13) (by decide) rfl (pc2 := 78) rfl ?_
        refine zs_aload_n (pc := 78) t143_78 rfl ?_
        refine zs_get (pc := 79) t143_79 (by decide) (zk1 (hs.k fk_zMc_6)) (hs.p rfl fv_zMc_6_0) ?_
        refine zs_iload_n (pc := 82) t143_82 rfl ?_
        refine zs_invV (pc := 83) (k := 7) (as' := [.int a]) (st := []) t143_83 mf128 rfl rfl (Or.inl ⟨by decide, (zk1 (hs.k fk_zMc_7))⟩) ⟨by decide, by decide, Nat.le_of_ble_eq_true rfl, Nat.le_of_ble_eq_true rfl⟩ (C128_7 hs hI ?_) (fun _ _ q => q)
        intro w14v w14a w14b
        show zGo X l 6 0 0 143 86 [(0, .ref 6), (1, .int a), (2, .int b)] [.int w14v] M _
        exact zs_iret (pc := 86) t143_86 mr143 rfl (hQ _ _ hs hI (zFr.refl) (zrg _).1 (zrg _).2)
      by_cases w15 : b.toInt = 4
      · refine zs_tswI (pc := 15) t143_15 ((rfl : b.toInt = b.toInt).trans w15) (by decide) rfl (pc2 := 87) rfl ?_
        refine zs_aload_n (pc := 87) t143_87 rfl ?_
        refine zs_get (pc := 88) t143_88 (by decide) (zk1 (hs.k fk_zMc_6)) (hs.p rfl fv_zMc_6_6) ?_
        refine zs_aload_n (pc := 91) t143_91 rfl ?_
        refine zs_get (pc := 92) t143_92 (by decide) (zk1 (hs.k fk_zMc_6)) (hs.p rfl fv_zMc_6_0) ?_
        refine zs_invV (pc := 95) (k := 164) (as' := [.ref 7]) (st := []) t143_95 mf105 rfl rfl (Or.inl ⟨by decide, (zk1 (hs.k fk_zMc_164))⟩) ⟨by decide, by decide, Nat.le_of_ble_eq_true rfl, Nat.le_of_ble_eq_true rfl⟩ (C105_164_7 hs hI ?_) (fun _ _ q => q)
        intro w16M w16s w16I w16F
        show zGo X l 6 0 0 143 98 [(0, .ref 6), (1, .int a), (2, .int b)] [.ref 164] w16M _
        refine zs_iload_n (pc := 98) t143_98 rfl ?_
        refine zs_aload_n (pc := 99) t143_99 rfl ?_
        refine zs_get (pc := 100) t143_100 (by decide) (zk1 (w16s.k fk_zMc_6)) (w16s.p rfl fv_zMc_6_6) ?_
        refine zs_invV (pc := 103) (k := 164) (as' := []) (st := [.int a, .ref 164]) t143_103 mf144 rfl rfl (Or.inl ⟨by decide, (zk1 (w16s.k fk_zMc_164))⟩) ⟨by decide, by decide, Nat.le_of_ble_eq_true rfl, Nat.le_of_ble_eq_true rfl⟩ (zs_in (by decide) mf144 (Nat.le_of_ble_eq_true rfl) ?_) (fun _ _ q => q)
        show zGo X l 0 0 0 144 0 [(0, .ref 164)] [] w16M _
        refine zs_aload_n (pc := 0) t144_0 rfl ?_
        have w17 := ib164_4 w16I
        refine zs_get (pc := 1) t144_1 (by decide) (zk1 (w16s.k fk_zMc_164)) (zfvi rfl rfl) ?_
        refine zs_iret (pc := 4) t144_4 mr144 rfl ?_
        show zGo X l 6 0 0 143 106 [(0, .ref 6), (1, .int a), (2, .int b)] [.int (zI w16M 164 4), .int a, .ref 164] w16M _
        refine zs_invV (pc := 106) (k := 164) (as' := [.int a, .int (zI w16M 164 4)]) (st := []) t143_106 mf145 rfl rfl (Or.inl ⟨by decide, (zk1 (w16s.k fk_zMc_164))⟩) ⟨by decide, by decide, Nat.le_of_ble_eq_true rfl, Nat.le_of_ble_eq_true rfl⟩ (C145_164 w16s w16I ⟨by omega, by omega⟩ ?_) (fun _ _ q => q)
        intro w18v w18a w18b
        show zGo X l 6 0 0 143 109 [(0, .ref 6), (1, .int a), (2, .int b)] [.int w18v] w16M _
        exact zs_iret (pc := 109) t143_109 mr143 rfl (hQ _ _ w16s w16I ((zFr.refl).trans (w16F.mono rfl)) (zrg _).1 (zrg _).2)
      refine zs_tswD (pc := 15) t143_15 rfl (by omega) (pc2 := 110) rfl ?_
      refine zs_ldc (pc := 110) t143_110 (v := -100000) rfl (by decide) ?_
      exact zs_iret (pc := 112) t143_112 mr143 (by decide) (hQ _ _ hs hI (zFr.refl) (zrg _).1 (zrg _).2)
theorem T147_6 {X : zX} {l : Launch} {M : zM} {Q : Option Value → zM → Prop} {a b c : Int32} (hs : zSk zMc M) (hI : zIv cLo cHi M) (hQ : ∀ (M' : zM) (v : Int32), zSk zMc M' → zIv cLo cHi M' → zFr [(161, 334, none)] M M' → (-2147483648) ≤ v.toInt → v.toInt ≤ 2147483647 → Q (some (.int v)) M') : zCall X l 2 0 0 147 [.ref 6, .int a, .int b, .int c] M Q := by
  have ga := zrg a
  have gb := zrg b
  have gc := zrg c
  refine zs_in (by decide) mf147 (Nat.le_of_ble_eq_true rfl) ?_
  show zGo X l 2 0 0 147 0 [(0, .ref 6), (1, .int a), (2, .int b), (3, .int c)] [] M _
  refine zs_aload_n (pc := 0) t147_0 rfl ?_
  refine zs_get (pc := 1) t147_1 (by decide) (zk1 (hs.k fk_zMc_6)) (hs.p rfl fv_zMc_6_0) ?_
  refine zs_iload_n (pc := 4) t147_4 rfl ?_
  refine zs_invV (pc := 5) (k := 7) (as' := [.int a]) (st := []) t147_5 mf41 rfl rfl (Or.inl ⟨by decide, (zk1 (hs.k fk_zMc_7))⟩) ⟨by decide, by decide, Nat.le_of_ble_eq_true rfl, Nat.le_of_ble_eq_true rfl⟩ (zs_in (by decide) mf41 (Nat.le_of_ble_eq_true rfl) ?_) (fun _ _ q => q)
  show zGo X l 0 0 0 41 0 [(0, .ref 7), (1, .int a)] [] M _
  refine zs_iload_n (pc := 0) t41_0 rfl ?_
  by_cases w1 : a.toInt < 0
  · refine zs_if_ltT (pc := 1) t41_1 rfl (by omega) ?_
    refine zs_iconst (pc := 16) t41_16 (v := 0) (by decide) ?_
    refine zs_iret (pc := 17) t41_17 mr41 (by decide) ?_
    show zGo X l 2 0 0 147 8 [(0, .ref 6), (1, .int a), (2, .int b), (3, .int c)] [.int (0 : Int32)] M _
    refine zs_if_eqT (pc := 8) t147_8 li0 (by decide) ?_
    refine zs_ldc (pc := 35) t147_35 (v := -100000) rfl (by decide) ?_
    exact zs_iret (pc := 37) t147_37 mr147 (by decide) (hQ _ _ hs hI (zFr.refl) (zrg _).1 (zrg _).2)
  · refine zs_if_ltF (pc := 1) t41_1 rfl (by omega) ?_
    refine zs_iload_n (pc := 4) t41_4 rfl ?_
    refine zs_aload_n (pc := 5) t41_5 rfl ?_
    have w2 := ib7_0 hI
    refine zs_get (pc := 6) t41_6 (by decide) (zk1 (hs.k fk_zMc_7)) (zfvi rfl rfl) ?_
    by_cases w3 : (zI M 7 0).toInt ≤ a.toInt
    · refine zs_icmp_geT (pc := 9) t41_9 rfl rfl (by omega) ?_
      refine zs_iconst (pc := 16) t41_16 (v := 0) (by decide) ?_
      refine zs_iret (pc := 17) t41_17 mr41 (by decide) ?_
      show zGo X l 2 0 0 147 8 [(0, .ref 6), (1, .int a), (2, .int b), (3, .int c)] [.int (0 : Int32)] M _
      refine zs_if_eqT (pc := 8) t147_8 li0 (by decide) ?_
      refine zs_ldc (pc := 35) t147_35 (v := -100000) rfl (by decide) ?_
      exact zs_iret (pc := 37) t147_37 mr147 (by decide) (hQ _ _ hs hI (zFr.refl) (zrg _).1 (zrg _).2)
    · refine zs_icmp_geF (pc := 9) t41_9 rfl rfl (by omega) ?_
      refine zs_iconst (pc := 12) t41_12 (v := 1) (by decide) ?_
      refine zs_goto (pc := 13) t41_13 ?_
      refine zs_iret (pc := 17) t41_17 mr41 (by decide) ?_
      show zGo X l 2 0 0 147 8 [(0, .ref 6), (1, .int a), (2, .int b), (3, .int c)] [.int (1 : Int32)] M _
      refine zs_if_eqF (pc := 8) t147_8 li1 (by decide) ?_
      refine zs_iload_n (pc := 11) t147_11 rfl ?_
      refine zs_bipush (pc := 12) t147_12 (v := -99) (by decide) ?_
      by_cases w4 : b.toInt < (-99)
      · refine zs_icmp_ltT (pc := 14) t147_14 rfl lin99 (by omega) ?_
        refine zs_ldc (pc := 35) t147_35 (v := -100000) rfl (by decide) ?_
        exact zs_iret (pc := 37) t147_37 mr147 (by decide) (hQ _ _ hs hI (zFr.refl) (zrg _).1 (zrg _).2)
      · refine zs_icmp_ltF (pc := 14) t147_14 rfl lin99 (by omega) ?_
        refine zs_iload_n (pc := 17) t147_17 rfl ?_
        refine zs_bipush (pc := 18) t147_18 (v := 99) (by decide) ?_
        by_cases w5 : 99 < b.toInt
        · refine zs_icmp_gtT (pc := 20) t147_20 rfl li99 (by omega) ?_
          refine zs_ldc (pc := 35) t147_35 (v := -100000) rfl (by decide) ?_
          exact zs_iret (pc := 37) t147_37 mr147 (by decide) (hQ _ _ hs hI (zFr.refl) (zrg _).1 (zrg _).2)
        · refine zs_icmp_gtF (pc := 20) t147_20 rfl li99 (by omega) ?_
          refine zs_iload_n (pc := 23) t147_23 rfl ?_
          refine zs_bipush (pc := 24) t147_24 (v := -99) (by decide) ?_
          by_cases w6 : c.toInt < (-99)
          · refine zs_icmp_ltT (pc := 26) t147_26 rfl lin99 (by omega) ?_
            refine zs_ldc (pc := 35) t147_35 (v := -100000) rfl (by decide) ?_
            exact zs_iret (pc := 37) t147_37 mr147 (by decide) (hQ _ _ hs hI (zFr.refl) (zrg _).1 (zrg _).2)
          · refine zs_icmp_ltF (pc := 26) t147_26 rfl lin99 (by omega) ?_
            refine zs_iload_n (pc := 29) t147_29 rfl ?_
            refine zs_bipush (pc := 30) t147_30 (v := 99) (by decide) ?_
            by_cases w7 : c.toInt ≤ 99
            · refine zs_icmp_leT (pc := 32) t147_32 rfl li99 (by omega) ?_
              refine zs_aload_n (pc := 38) t147_38 rfl ?_
              refine zs_get (pc := 39) t147_39 (by decide) (zk1 (hs.k fk_zMc_6)) (hs.p rfl fv_zMc_6_0) ?_
              refine zs_iload_n (pc := 42) t147_42 rfl ?_
              refine zs_iload_n (pc := 43) t147_43 rfl ?_
              refine zs_invV (pc := 44) (k := 7) (as' := [.int a, .int b]) (st := []) t147_44 mf53 rfl rfl (Or.inl ⟨by decide, (zk1 (hs.k fk_zMc_7))⟩) ⟨by decide, by decide, Nat.le_of_ble_eq_true rfl, Nat.le_of_ble_eq_true rfl⟩ (C53_7 hs hI ?_) (fun _ _ q => q)
              intro w8v w8a w8b
              show zGo X l 2 0 0 147 47 [(0, .ref 6), (1, .int a), (2, .int b), (3, .int c)] [.int w8v] M _
              refine zs_aload_n (pc := 47) t147_47 rfl ?_
              refine zs_get (pc := 48) t147_48 (by decide) (zk1 (hs.k fk_zMc_6)) (hs.p rfl fv_zMc_6_0) ?_
              refine zs_iload_n (pc := 51) t147_51 rfl ?_
              refine zs_iload_n (pc := 52) t147_52 rfl ?_
              refine zs_invV (pc := 53) (k := 7) (as' := [.int a, .int c]) (st := [.int w8v]) t147_53 mf55 rfl rfl (Or.inl ⟨by decide, (zk1 (hs.k fk_zMc_7))⟩) ⟨by decide, by decide, Nat.le_of_ble_eq_true rfl, Nat.le_of_ble_eq_true rfl⟩ (C55_7 hs hI ?_) (fun _ _ q => q)
              intro w9v w9a w9b
              show zGo X l 2 0 0 147 56 [(0, .ref 6), (1, .int a), (2, .int b), (3, .int c)] [.int w9v, .int w8v] M _
              obtain ⟨w10v, w10⟩ : ∃ v, v = w8v + w9v := ⟨_, rfl⟩
              have w10g := zrg w10v
              refine zs_iadd (pc := 56) t147_56 (c := w10v) w10.symm ?_
              exact zs_iret (pc := 57) t147_57 mr147 rfl (hQ _ _ hs hI (zFr.refl) (zrg _).1 (zrg _).2)
            · refine zs_icmp_leF (pc := 32) t147_32 rfl li99 (by omega) ?_
              refine zs_ldc (pc := 35) t147_35 (v := -100000) rfl (by decide) ?_
              exact zs_iret (pc := 37) t147_37 mr147 (by decide) (hQ _ _ hs hI (zFr.refl) (zrg _).1 (zrg _).2)
theorem T148_6 {X : zX} {l : Launch} {M : zM} {Q : Option Value → zM → Prop} {a b c : Int32} (hs : zSk zMc M) (hI : zIv cLo cHi M) (hQ : ∀ (M' : zM) (v : Int32), zSk zMc M' → zIv cLo cHi M' → zFr [(161, 334, none)] M M' → (-2147483648) ≤ v.toInt → v.toInt ≤ 2147483647 → Q (some (.int v)) M') : zCall X l 3 0 0 148 [.ref 6, .int a, .int b, .int c] M Q := by
  have ga := zrg a
  have gb := zrg b
  have gc := zrg c
  refine zs_in (by decide) mf148 (Nat.le_of_ble_eq_true rfl) ?_
  show zGo X l 3 0 0 148 0 [(0, .ref 6), (1, .int a), (2, .int b), (3, .int c)] [] M _
  refine zs_iload_n (pc := 0) t148_0 rfl ?_
  refine zs_aload_n (pc := 1) t148_1 rfl ?_
  refine zs_get (pc := 2) t148_2 (by decide) (zk1 (hs.k fk_zMc_6)) (hs.p rfl fv_zMc_6_0) ?_
  refine zs_iconst (pc := 5) t148_5 (v := 0) (by decide) ?_
  refine zs_invV (pc := 6) (k := 7) (as' := [.int (0 : Int32)]) (st := [.int a]) t148_6 mf96 rfl rfl (Or.inl ⟨by decide, (zk1 (hs.k fk_zMc_7))⟩) ⟨by decide, by decide, Nat.le_of_ble_eq_true rfl, Nat.le_of_ble_eq_true rfl⟩ (zs_in (by decide) mf96 (Nat.le_of_ble_eq_true rfl) ?_) (fun _ _ q => q)
  show zGo X l 0 0 0 96 0 [(0, .ref 7), (1, .int (0 : Int32))] [] M _
  refine zs_iload_n (pc := 0) t96_0 rfl ?_
  refine zs_if_ltF (pc := 1) t96_1 li0 (by decide) ?_
  refine zs_iload_n (pc := 4) t96_4 rfl ?_
  refine zs_bipush (pc := 5) t96_5 (v := 9) (by decide) ?_
  refine zs_icmp_geF (pc := 7) t96_7 li0 li9 (by decide) ?_
  refine zs_aload_n (pc := 10) t96_10 rfl ?_
  refine zs_get (pc := 11) t96_11 (by decide) (zk1 (hs.k fk_zMc_7)) (hs.p rfl fv_zMc_7_12) ?_
  refine zs_iload_n (pc := 14) t96_14 rfl ?_
  have w1 := ib17 hI 0
  refine zs_iald (pc := 15) t96_15 (j := 0) (by decide) (zk1 (hs.k fk_zMc_17)) li0 (zk2 (hs.k fk_zMc_17) (by decide)) rfl ?_
  refine zs_goto (pc := 16) t96_16 ?_
  refine zs_iret (pc := 20) t96_20 mr96 rfl ?_
  show zGo X l 3 0 0 148 9 [(0, .ref 6), (1, .int a), (2, .int b), (3, .int c)] [.int (zI M 17 0), .int a] M _
  obtain ⟨w2v, w2e⟩ : ∃ v, -(zI M 17 0) = v := ⟨_, rfl⟩
  have w2 : w2v.toInt = -(zI M 17 0).toInt := by rw [← w2e]; exact zneg rfl (by omega)
  refine zs_ineg (pc := 9) t148_9 (c := w2v) w2e ?_
  refine zs_aload_n (pc := 10) t148_10 rfl ?_
  refine zs_get (pc := 11) t148_11 (by decide) (zk1 (hs.k fk_zMc_6)) (hs.p rfl fv_zMc_6_0) ?_
  refine zs_iconst (pc := 14) t148_14 (v := 0) (by decide) ?_
  refine zs_invV (pc := 15) (k := 7) (as' := [.int (0 : Int32)]) (st := [.int w2v, .int a]) t148_15 mf96 rfl rfl (Or.inl ⟨by decide, (zk1 (hs.k fk_zMc_7))⟩) ⟨by decide, by decide, Nat.le_of_ble_eq_true rfl, Nat.le_of_ble_eq_true rfl⟩ (zs_in (by decide) mf96 (Nat.le_of_ble_eq_true rfl) ?_) (fun _ _ q => q)
  show zGo X l 0 0 0 96 0 [(0, .ref 7), (1, .int (0 : Int32))] [] M _
  refine zs_iload_n (pc := 0) t96_0 rfl ?_
  refine zs_if_ltF (pc := 1) t96_1 li0 (by decide) ?_
  refine zs_iload_n (pc := 4) t96_4 rfl ?_
  refine zs_bipush (pc := 5) t96_5 (v := 9) (by decide) ?_
  refine zs_icmp_geF (pc := 7) t96_7 li0 li9 (by decide) ?_
  refine zs_aload_n (pc := 10) t96_10 rfl ?_
  refine zs_get (pc := 11) t96_11 (by decide) (zk1 (hs.k fk_zMc_7)) (hs.p rfl fv_zMc_7_12) ?_
  refine zs_iload_n (pc := 14) t96_14 rfl ?_
  refine zs_iald (pc := 15) t96_15 (j := 0) (by decide) (zk1 (hs.k fk_zMc_17)) li0 (zk2 (hs.k fk_zMc_17) (by decide)) rfl ?_
  refine zs_goto (pc := 16) t96_16 ?_
  refine zs_iret (pc := 20) t96_20 mr96 rfl ?_
  show zGo X l 3 0 0 148 18 [(0, .ref 6), (1, .int a), (2, .int b), (3, .int c)] [.int (zI M 17 0), .int w2v, .int a] M _
  refine zs_invS (pc := 18) (as := [.int a, .int w2v, .int (zI M 17 0)]) (st := []) t148_18 (by decide) mf39 rfl rfl ⟨by decide, by decide, Nat.le_of_ble_eq_true rfl, Nat.le_of_ble_eq_true rfl⟩ (zs_in (by decide) mf39 (Nat.le_of_ble_eq_true rfl) ?_) (fun _ _ q => q)
  show zGo X l 0 0 0 39 0 [(0, .int a), (1, .int w2v), (2, .int (zI M 17 0))] [] M _
  refine zs_iload_n (pc := 0) t39_0 rfl ?_
  refine zs_iload_n (pc := 1) t39_1 rfl ?_
  by_cases w3 : a.toInt < (-(zI M 17 0).toInt)
  · refine zs_icmp_ltT (pc := 2) t39_2 rfl w2 (by omega) ?_
    refine zs_iconst (pc := 14) t39_14 (v := 0) (by decide) ?_
    refine zs_iret (pc := 15) t39_15 mr39 (by decide) ?_
    show zGo X l 3 0 0 148 21 [(0, .ref 6), (1, .int a), (2, .int b), (3, .int c)] [.int (0 : Int32)] M _
    refine zs_if_eqT (pc := 21) t148_21 li0 (by decide) ?_
    refine zs_iconst (pc := 48) t148_48 (v := -1) (by decide) ?_
    exact zs_iret (pc := 49) t148_49 mr148 (by decide) (hQ _ _ hs hI (zFr.refl) (zrg _).1 (zrg _).2)
  · refine zs_icmp_ltF (pc := 2) t39_2 rfl w2 (by omega) ?_
    refine zs_iload_n (pc := 5) t39_5 rfl ?_
    refine zs_iload_n (pc := 6) t39_6 rfl ?_
    by_cases w4 : (zI M 17 0).toInt < a.toInt
    · refine zs_icmp_gtT (pc := 7) t39_7 rfl rfl (by omega) ?_
      refine zs_iconst (pc := 14) t39_14 (v := 0) (by decide) ?_
      refine zs_iret (pc := 15) t39_15 mr39 (by decide) ?_
      show zGo X l 3 0 0 148 21 [(0, .ref 6), (1, .int a), (2, .int b), (3, .int c)] [.int (0 : Int32)] M _
      refine zs_if_eqT (pc := 21) t148_21 li0 (by decide) ?_
      refine zs_iconst (pc := 48) t148_48 (v := -1) (by decide) ?_
      exact zs_iret (pc := 49) t148_49 mr148 (by decide) (hQ _ _ hs hI (zFr.refl) (zrg _).1 (zrg _).2)
    · refine zs_icmp_gtF (pc := 7) t39_7 rfl rfl (by omega) ?_
      refine zs_iconst (pc := 10) t39_10 (v := 1) (by decide) ?_
      refine zs_goto (pc := 11) t39_11 ?_
      refine zs_iret (pc := 15) t39_15 mr39 (by decide) ?_
      show zGo X l 3 0 0 148 21 [(0, .ref 6), (1, .int a), (2, .int b), (3, .int c)] [.int (1 : Int32)] M _
      refine zs_if_eqF (pc := 21) t148_21 li1 (by decide) ?_
      refine zs_iload_n (pc := 24) t148_24 rfl ?_
      refine zs_aload_n (pc := 25) t148_25 rfl ?_
      refine zs_get (pc := 26) t148_26 (by decide) (zk1 (hs.k fk_zMc_6)) (hs.p rfl fv_zMc_6_0) ?_
      refine zs_iconst (pc := 29) t148_29 (v := 1) (by decide) ?_
      refine zs_invV (pc := 30) (k := 7) (as' := [.int (1 : Int32)]) (st := [.int b]) t148_30 mf96 rfl rfl (Or.inl ⟨by decide, (zk1 (hs.k fk_zMc_7))⟩) ⟨by decide, by decide, Nat.le_of_ble_eq_true rfl, Nat.le_of_ble_eq_true rfl⟩ (zs_in (by decide) mf96 (Nat.le_of_ble_eq_true rfl) ?_) (fun _ _ q => q)
      show zGo X l 0 0 0 96 0 [(0, .ref 7), (1, .int (1 : Int32))] [] M _
      refine zs_iload_n (pc := 0) t96_0 rfl ?_
      refine zs_if_ltF (pc := 1) t96_1 li1 (by decide) ?_
      refine zs_iload_n (pc := 4) t96_4 rfl ?_
      refine zs_bipush (pc := 5) t96_5 (v := 9) (by decide) ?_
      refine zs_icmp_geF (pc := 7) t96_7 li1 li9 (by decide) ?_
      refine zs_aload_n (pc := 10) t96_10 rfl ?_
      refine zs_get (pc := 11) t96_11 (by decide) (zk1 (hs.k fk_zMc_7)) (hs.p rfl fv_zMc_7_12) ?_
      refine zs_iload_n (pc := 14) t96_14 rfl ?_
      have w5 := ib17 hI 1
      refine zs_iald (pc := 15) t96_15 (j := 1) (by decide) (zk1 (hs.k fk_zMc_17)) li1 (zk2 (hs.k fk_zMc_17) (by decide)) rfl ?_
      refine zs_goto (pc := 16) t96_16 ?_
      refine zs_iret (pc := 20) t96_20 mr96 rfl ?_
      show zGo X l 3 0 0 148 33 [(0, .ref 6), (1, .int a), (2, .int b), (3, .int c)] [.int (zI M 17 1), .int b] M _
      obtain ⟨w6v, w6e⟩ : ∃ v, -(zI M 17 1) = v := ⟨_, rfl⟩
      have w6 : w6v.toInt = -(zI M 17 1).toInt := by rw [← w6e]; exact zneg rfl (by omega)
      refine zs_ineg (pc := 33) t148_33 (c := w6v) w6e ?_
      refine zs_aload_n (pc := 34) t148_34 rfl ?_
      refine zs_get (pc := 35) t148_35 (by decide) (zk1 (hs.k fk_zMc_6)) (hs.p rfl fv_zMc_6_0) ?_
      refine zs_iconst (pc := 38) t148_38 (v := 1) (by decide) ?_
      refine zs_invV (pc := 39) (k := 7) (as' := [.int (1 : Int32)]) (st := [.int w6v, .int b]) t148_39 mf96 rfl rfl (Or.inl ⟨by decide, (zk1 (hs.k fk_zMc_7))⟩) ⟨by decide, by decide, Nat.le_of_ble_eq_true rfl, Nat.le_of_ble_eq_true rfl⟩ (zs_in (by decide) mf96 (Nat.le_of_ble_eq_true rfl) ?_) (fun _ _ q => q)
      show zGo X l 0 0 0 96 0 [(0, .ref 7), (1, .int (1 : Int32))] [] M _
      refine zs_iload_n (pc := 0) t96_0 rfl ?_
      refine zs_if_ltF (pc := 1) t96_1 li1 (by decide) ?_
      refine zs_iload_n (pc := 4) t96_4 rfl ?_
      refine zs_bipush (pc := 5) t96_5 (v := 9) (by decide) ?_
      refine zs_icmp_geF (pc := 7) t96_7 li1 li9 (by decide) ?_
      refine zs_aload_n (pc := 10) t96_10 rfl ?_
      refine zs_get (pc := 11) t96_11 (by decide) (zk1 (hs.k fk_zMc_7)) (hs.p rfl fv_zMc_7_12) ?_
      refine zs_iload_n (pc := 14) t96_14 rfl ?_
      refine zs_iald (pc := 15) t96_15 (j := 1) (by decide) (zk1 (hs.k fk_zMc_17)) li1 (zk2 (hs.k fk_zMc_17) (by decide)) rfl ?_
      refine zs_goto (pc := 16) t96_16 ?_
      refine zs_iret (pc := 20) t96_20 mr96 rfl ?_
      show zGo X l 3 0 0 148 42 [(0, .ref 6), (1, .int a), (2, .int b), (3, .int c)] [.int (zI M 17 1), .int w6v, .int b] M _
      refine zs_invS (pc := 42) (as := [.int b, .int w6v, .int (zI M 17 1)]) (st := []) t148_42 (by decide) mf39 rfl rfl ⟨by decide, by decide, Nat.le_of_ble_eq_true rfl, Nat.le_of_ble_eq_true rfl⟩ (zs_in (by decide) mf39 (Nat.le_of_ble_eq_true rfl) ?_) (fun _ _ q => q)
      show zGo X l 0 0 0 39 0 [(0, .int b), (1, .int w6v), (2, .int (zI M 17 1))] [] M _
      refine zs_iload_n (pc := 0) t39_0 rfl ?_
      refine zs_iload_n (pc := 1) t39_1 rfl ?_
      by_cases w7 : b.toInt < (-(zI M 17 1).toInt)
      · refine zs_icmp_ltT (pc := 2) t39_2 rfl w6 (by omega) ?_
        refine zs_iconst (pc := 14) t39_14 (v := 0) (by decide) ?_
        refine zs_iret (pc := 15) t39_15 mr39 (by decide) ?_
        show zGo X l 3 0 0 148 45 [(0, .ref 6), (1, .int a), (2, .int b), (3, .int c)] [.int (0 : Int32)] M _
        refine zs_if_neF (pc := 45) t148_45 li0 (by decide) ?_
        refine zs_iconst (pc := 48) t148_48 (v := -1) (by decide) ?_
        exact zs_iret (pc := 49) t148_49 mr148 (by decide) (hQ _ _ hs hI (zFr.refl) (zrg _).1 (zrg _).2)
      · refine zs_icmp_ltF (pc := 2) t39_2 rfl w6 (by omega) ?_
        refine zs_iload_n (pc := 5) t39_5 rfl ?_
        refine zs_iload_n (pc := 6) t39_6 rfl ?_
        by_cases w8 : (zI M 17 1).toInt < b.toInt
        · refine zs_icmp_gtT (pc := 7) t39_7 rfl rfl (by omega) ?_
          refine zs_iconst (pc := 14) t39_14 (v := 0) (by decide) ?_
          refine zs_iret (pc := 15) t39_15 mr39 (by decide) ?_
          show zGo X l 3 0 0 148 45 [(0, .ref 6), (1, .int a), (2, .int b), (3, .int c)] [.int (0 : Int32)] M _
          refine zs_if_neF (pc := 45) t148_45 li0 (by decide) ?_
          refine zs_iconst (pc := 48) t148_48 (v := -1) (by decide) ?_
          exact zs_iret (pc := 49) t148_49 mr148 (by decide) (hQ _ _ hs hI (zFr.refl) (zrg _).1 (zrg _).2)
        · refine zs_icmp_gtF (pc := 7) t39_7 rfl rfl (by omega) ?_
          refine zs_iconst (pc := 10) t39_10 (v := 1) (by decide) ?_
          refine zs_goto (pc := 11) t39_11 ?_
          refine zs_iret (pc := 15) t39_15 mr39 (by decide) ?_
          show zGo X l 3 0 0 148 45 [(0, .ref 6), (1, .int a), (2, .int b), (3, .int c)] [.int (1 : Int32)] M _
          refine zs_if_neT (pc := 45) t148_45 li1 (by decide) ?_
          refine zs_aload_n (pc := 50) t148_50 rfl ?_
          refine zs_get (pc := 51) t148_51 (by decide) (zk1 (hs.k fk_zMc_6)) (hs.p rfl fv_zMc_6_0) ?_
          refine zs_iload_n (pc := 54) t148_54 rfl ?_
          refine zs_iload_n (pc := 55) t148_55 rfl ?_
          refine zs_iload_n (pc := 56) t148_56 rfl ?_
          refine zs_invV (pc := 57) (k := 7) (as' := [.int a, .int b, .int c]) (st := []) t148_57 mf149 rfl rfl (Or.inl ⟨by decide, (zk1 (hs.k fk_zMc_7))⟩) ⟨by decide, by decide, Nat.le_of_ble_eq_true rfl, Nat.le_of_ble_eq_true rfl⟩ (C149_7 hs hI ?_) (fun _ _ q => q)
          intro w9v w9a w9b
          show zGo X l 3 0 0 148 60 [(0, .ref 6), (1, .int a), (2, .int b), (3, .int c)] [.int w9v] M _
          exact zs_iret (pc := 60) t148_60 mr148 rfl (hQ _ _ hs hI (zFr.refl) (zrg _).1 (zrg _).2)
theorem T151_6 {X : zX} {l : Launch} {M : zM} {Q : Option Value → zM → Prop} {a : Int32} (hs : zSk zMc M) (hI : zIv cLo cHi M) (hQ : ∀ (M' : zM) (v : Int32), zSk zMc M' → zIv cLo cHi M' → zFr [(161, 334, none)] M M' → (-2147483648) ≤ v.toInt → v.toInt ≤ 2147483647 → Q (some (.int v)) M') : zCall X l 6 0 0 151 [.ref 6, .int a] M Q := by
  have ga := zrg a
  refine zs_in (by decide) mf151 (Nat.le_of_ble_eq_true rfl) ?_
  show zGo X l 6 0 0 151 0 [(0, .ref 6), (1, .int a)] [] M _
  refine zs_iload_n (pc := 0) t151_0 rfl ?_
  by_cases w1 : a.toInt = 103
  · refine zs_tswI (pc := 1) t151_1 ((rfl : a.toInt = a.toInt).trans w1) (by decide) rfl (pc2 := 118) rfl ?_
    refine zs_aload_n (pc := 118) t151_118 rfl ?_
    refine zs_get (pc := 119) t151_119 (by decide) (zk1 (hs.k fk_zMc_6)) (hs.p rfl fv_zMc_6_7) ?_
    refine zs_aload_n (pc := 122) t151_122 rfl ?_
    refine zs_get (pc := 123) t151_123 (by decide) (zk1 (hs.k fk_zMc_6)) (hs.p rfl fv_zMc_6_0) ?_
    refine zs_aload_n (pc := 126) t151_126 rfl ?_
    refine zs_get (pc := 127) t151_127 (by decide) (zk1 (hs.k fk_zMc_6)) (hs.p rfl fv_zMc_6_6) ?_
    refine zs_aload_n (pc := 130) t151_130 rfl ?_
    refine zs_get (pc := 131) t151_131 (by decide) (zk1 (hs.k fk_zMc_6)) (hs.p rfl fv_zMc_6_0) ?_
    refine zs_invV (pc := 134) (k := 164) (as' := [.ref 7]) (st := [.ref 7, .ref 325]) t151_134 mf105 rfl rfl (Or.inl ⟨by decide, (zk1 (hs.k fk_zMc_164))⟩) ⟨by decide, by decide, Nat.le_of_ble_eq_true rfl, Nat.le_of_ble_eq_true rfl⟩ (C105_164_7 hs hI ?_) (fun _ _ q => q)
    intro w2M w2s w2I w2F
    show zGo X l 6 0 0 151 137 [(0, .ref 6), (1, .int a)] [.ref 164, .ref 7, .ref 325] w2M _
    refine zs_invV (pc := 137) (k := 325) (as' := [.ref 7, .ref 164]) (st := []) t151_137 mf153 rfl rfl (Or.inl ⟨by decide, (zk1 (w2s.k fk_zMc_325))⟩) ⟨by decide, by decide, Nat.le_of_ble_eq_true rfl, Nat.le_of_ble_eq_true rfl⟩ (C153_325_7_164 w2s w2I ?_) (fun _ _ q => q)
    intro w3M w3s w3I w3F
    show zGo X l 6 0 0 151 140 [(0, .ref 6), (1, .int a)] [.ref 325] w3M _
    refine zs_invV (pc := 140) (k := 325) (as' := []) (st := []) t151_140 mf165 rfl rfl (Or.inl ⟨by decide, (zk1 (w3s.k fk_zMc_325))⟩) ⟨by decide, by decide, Nat.le_of_ble_eq_true rfl, Nat.le_of_ble_eq_true rfl⟩ (zs_in (by decide) mf165 (Nat.le_of_ble_eq_true rfl) ?_) (fun _ _ q => q)
    show zGo X l 0 0 0 165 0 [(0, .ref 325)] [] w3M _
    refine zs_aload_n (pc := 0) t165_0 rfl ?_
    have w4 := ib325_1 w3I
    refine zs_get (pc := 1) t165_1 (by decide) (zk1 (w3s.k fk_zMc_325)) (zfvi rfl rfl) ?_
    refine zs_iret (pc := 4) t165_4 mr165 rfl ?_
    show zGo X l 6 0 0 151 143 [(0, .ref 6), (1, .int a)] [.int (zI w3M 325 1)] w3M _
    exact zs_iret (pc := 143) t151_143 mr151 rfl (hQ _ _ w3s w3I (((zFr.refl).trans (w2F.mono rfl)).trans (w3F.mono rfl)) (zrg _).1 (zrg _).2)
  by_cases w5 : a.toInt = 104
  · refine zs_tswI (pc := 1) t151_1 ((rfl : a.toInt = a.toInt).trans w5) (by decide) rfl (pc2 := 95) rfl ?_
    refine zs_aload_n (pc := 95) t151_95 rfl ?_
    refine zs_get (pc := 96) t151_96 (by decide) (zk1 (hs.k fk_zMc_6)) (hs.p rfl fv_zMc_6_0) ?_
    refine zs_invV (pc := 99) (k := 7) (as' := []) (st := []) t151_99 mf92 rfl rfl (Or.inl ⟨by decide, (zk1 (hs.k fk_zMc_7))⟩) ⟨by decide, by decide, Nat.le_of_ble_eq_true rfl, Nat.le_of_ble_eq_true rfl⟩ (C92_7 hs hI ?_) (fun _ _ q => q)
    intro w6v w6a w6b
    show zGo X l 6 0 0 151 102 [(0, .ref 6), (1, .int a)] [.int w6v] M _
    exact zs_iret (pc := 102) t151_102 mr151 rfl (hQ _ _ hs hI (zFr.refl) (zrg _).1 (zrg _).2)
  by_cases w7 : a.toInt = 105
  · refine zs_tswI (pc := 1) t151_1 ((rfl : a.toInt = a.toInt).trans w7) (by decide) rfl (pc2 := 205) rfl ?_
    refine zs_iconst (pc := 205) t151_205 (v := -1) (by decide) ?_
    exact zs_iret (pc := 206) t151_206 mr151 (by decide) (hQ _ _ hs hI (zFr.refl) (zrg _).1 (zrg _).2)
  by_cases w8 : a.toInt = 106
  · refine zs_tswI (pc := 1) t151_1 ((rfl : a.toInt = a.toInt).trans w8) (by decide) rfl (pc2 := 205) rfl ?_
    refine zs_iconst (pc := 205) t151_205 (v := -1) (by decide) ?_
    exact zs_iret (pc := 206) t151_206 mr151 (by decide) (hQ _ _ hs hI (zFr.refl) (zrg _).1 (zrg _).2)
  by_cases w9 : a.toInt = 107
  · refine zs_tswI (pc := 1) t151_1 ((rfl : a.toInt = a.toInt).trans w9) (by decide) rfl (pc2 := 205) rfl ?_
    refine zs_iconst (pc := 205) t151_205 (v := -1) (by decide) ?_
    exact zs_iret (pc := 206) t151_206 mr151 (by decide) (hQ _ _ hs hI (zFr.refl) (zrg _).1 (zrg _).2)
  by_cases w10 : a.toInt = 108
  · refine zs_tswI (pc := 1) t151_1 ((rfl : a.toInt = a.toInt).trans w10) (by decide) rfl (pc2 := 159) rfl ?_
    refine zs_aload_n (pc := 159) t151_159 rfl ?_
    refine zs_get (pc := 160) t151_160 (by decide) (zk1 (hs.k fk_zMc_6)) (hs.p rfl fv_zMc_6_0) ?_
    refine zs_invV (pc := 163) (k := 7) (as' := []) (st := []) t151_163 mf100 rfl rfl (Or.inl ⟨by decide, (zk1 (hs.k fk_zMc_7))⟩) ⟨by decide, by decide, Nat.le_of_ble_eq_true rfl, Nat.le_of_ble_eq_true rfl⟩ (C100_7 hs hI ?_) (fun _ _ q => q)
    intro w11v w11a w11b
    show zGo X l 6 0 0 151 166 [(0, .ref 6), (1, .int a)] [.int w11v] M _
    exact zs_iret (pc := 166) t151_166 mr151 rfl (hQ _ _ hs hI (zFr.refl) (zrg _).1 (zrg _).2)
  by_cases w12 : a.toInt = 109
  · refine zs_tswI (pc := 1) t151_1 ((rfl : a.toInt = a.toInt).trans w12) (by decide) rfl (pc2 := 144) rfl ?_
    refine zs_aload_n (pc := 144) t151_144 rfl ?_
    refine zs_get (pc := 145) t151_145 (by decide) (zk1 (hs.k fk_zMc_6)) (hs.p rfl fv_zMc_6_6) ?_
    refine zs_aload_n (pc := 148) t151_148 rfl ?_
    refine zs_get (pc := 149) t151_149 (by decide) (zk1 (hs.k fk_zMc_6)) (hs.p rfl fv_zMc_6_0) ?_
    refine zs_invV (pc := 152) (k := 164) (as' := [.ref 7]) (st := []) t151_152 mf105 rfl rfl (Or.inl ⟨by decide, (zk1 (hs.k fk_zMc_164))⟩) ⟨by decide, by decide, Nat.le_of_ble_eq_true rfl, Nat.le_of_ble_eq_true rfl⟩ (C105_164_7 hs hI ?_) (fun _ _ q => q)
    intro w13M w13s w13I w13F
    show zGo X l 6 0 0 151 155 [(0, .ref 6), (1, .int a)] [.ref 164] w13M _
    refine zs_invV (pc := 155) (k := 164) (as' := []) (st := []) t151_155 mf166 rfl rfl (Or.inl ⟨by decide, (zk1 (w13s.k fk_zMc_164))⟩) ⟨by decide, by decide, Nat.le_of_ble_eq_true rfl, Nat.le_of_ble_eq_true rfl⟩ (zs_in (by decide) mf166 (Nat.le_of_ble_eq_true rfl) ?_) (fun _ _ q => q)
    show zGo X l 2 0 0 166 0 [(0, .ref 164)] [] w13M _
    refine zs_aload_n (pc := 0) t166_0 rfl ?_
    refine zs_iconst (pc := 1) t166_1 (v := 0) (by decide) ?_
    refine zs_invV (pc := 2) (k := 164) (as' := [.int (0 : Int32)]) (st := []) t166_2 mf163 rfl rfl (Or.inl ⟨by decide, (zk1 (w13s.k fk_zMc_164))⟩) ⟨by decide, by decide, Nat.le_of_ble_eq_true rfl, Nat.le_of_ble_eq_true rfl⟩ (zs_in (by decide) mf163 (Nat.le_of_ble_eq_true rfl) ?_) (fun _ _ q => q)
    show zGo X l 1 0 0 163 0 [(0, .ref 164), (1, .int (0 : Int32))] [] w13M _
    refine zs_iload_n (pc := 0) t163_0 rfl ?_
    refine zs_aload_n (pc := 1) t163_1 rfl ?_
    have w14 := ib164_4 w13I
    refine zs_get (pc := 2) t163_2 (by decide) (zk1 (w13s.k fk_zMc_164)) (zfvi rfl rfl) ?_
    by_cases w15 : (zI w13M 164 4).toInt ≤ 0
    · refine zs_icmp_geT (pc := 5) t163_5 li0 rfl (by omega) ?_
      refine zs_aconst_null (pc := 19) t163_19 ?_
      refine zs_aret0 (pc := 20) t163_20 (by rw [mr163]; rfl) ?_
      show zGo X l 2 0 0 166 5 [(0, .ref 164)] [.null] w13M _
      refine zs_astore_n0 (pc := 5) t166_5 (ls' := [(1, .null), (0, .ref 164)]) (zml mf166 (by decide)) rfl ?_
      refine zs_aload_n0 (pc := 6) t166_6 rfl ?_
      refine zs_ifnonnullF (pc := 7) t166_7 ?_
      refine zs_iconst (pc := 10) t166_10 (v := 0) (by decide) ?_
      refine zs_goto (pc := 11) t166_11 ?_
      refine zs_iret (pc := 18) t166_18 mr166 (by decide) ?_
      show zGo X l 6 0 0 151 158 [(0, .ref 6), (1, .int a)] [.int (0 : Int32)] w13M _
      exact zs_iret (pc := 158) t151_158 mr151 (by decide) (hQ _ _ w13s w13I ((zFr.refl).trans (w13F.mono rfl)) (zrg _).1 (zrg _).2)
    · refine zs_icmp_geF (pc := 5) t163_5 li0 rfl (by omega) ?_
      refine zs_aload_n (pc := 8) t163_8 rfl ?_
      refine zs_get (pc := 9) t163_9 (by decide) (zk1 (w13s.k fk_zMc_164)) (w13s.p rfl fv_zMc_164_1) ?_
      refine zs_iload_n (pc := 12) t163_12 rfl ?_
      refine zs_invV (pc := 13) (k := 165) (as' := [.int (0 : Int32)]) (st := []) t163_13 mf126 rfl rfl (Or.inl ⟨by decide, (zk1 (w13s.k fk_zMc_165))⟩) ⟨by decide, by decide, Nat.le_of_ble_eq_true rfl, Nat.le_of_ble_eq_true rfl⟩ (zs_in (by decide) mf126 (Nat.le_of_ble_eq_true rfl) ?_) (fun _ _ q => q)
      show zGo X l 0 0 0 126 0 [(0, .ref 165), (1, .int (0 : Int32))] [] w13M _
      refine zs_iload_n (pc := 0) t126_0 rfl ?_
      refine zs_if_ltF (pc := 1) t126_1 li0 (by decide) ?_
      refine zs_iload_n (pc := 4) t126_4 rfl ?_
      refine zs_aload_n (pc := 5) t126_5 rfl ?_
      have w16 := ib165_2 w13I
      refine zs_get (pc := 6) t126_6 (by decide) (zk1 (w13s.k fk_zMc_165)) (zfvi rfl rfl) ?_
      by_cases w17 : (zI w13M 165 2).toInt ≤ 0
      · refine zs_icmp_geT (pc := 9) t126_9 li0 rfl (by omega) ?_
        refine zs_aconst_null (pc := 21) t126_21 ?_
        refine zs_aret0 (pc := 22) t126_22 (by rw [mr126]; rfl) ?_
        show zGo X l 1 0 0 163 16 [(0, .ref 164), (1, .int (0 : Int32))] [.null] w13M _
        refine zs_goto (pc := 16) t163_16 ?_
        refine zs_aret0 (pc := 20) t163_20 (by rw [mr163]; rfl) ?_
        show zGo X l 2 0 0 166 5 [(0, .ref 164)] [.null] w13M _
        refine zs_astore_n0 (pc := 5) t166_5 (ls' := [(1, .null), (0, .ref 164)]) (zml mf166 (by decide)) rfl ?_
        refine zs_aload_n0 (pc := 6) t166_6 rfl ?_
        refine zs_ifnonnullF (pc := 7) t166_7 ?_
        refine zs_iconst (pc := 10) t166_10 (v := 0) (by decide) ?_
        refine zs_goto (pc := 11) t166_11 ?_
        refine zs_iret (pc := 18) t166_18 mr166 (by decide) ?_
        show zGo X l 6 0 0 151 158 [(0, .ref 6), (1, .int a)] [.int (0 : Int32)] w13M _
        exact zs_iret (pc := 158) t151_158 mr151 (by decide) (hQ _ _ w13s w13I ((zFr.refl).trans (w13F.mono rfl)) (zrg _).1 (zrg _).2)
      · refine zs_icmp_geF (pc := 9) t126_9 li0 rfl (by omega) ?_
        refine zs_aload_n (pc := 12) t126_12 rfl ?_
        refine zs_get (pc := 13) t126_13 (by decide) (zk1 (w13s.k fk_zMc_165)) (w13s.p rfl fv_zMc_165_1) ?_
        refine zs_iload_n (pc := 16) t126_16 rfl ?_
        have w18 : 0 < 20 := by omega
        refine zs_aald (pc := 17) t126_17 (j := 0) (Or.inr (zk1 (w13s.k fk_zMc_179))) li0 (zk2 (w13s.k fk_zMc_179) (by decide)) (w13s.a (fpT181 0 w18)) ?_
        refine zs_goto (pc := 18) t126_18 ?_
        refine zs_aret (pc := 22) t126_22 (by rw [mr126]; rfl) ?_
        show zGo X l 1 0 0 163 16 [(0, .ref 164), (1, .int (0 : Int32))] [.ref (181 + 3 * 0)] w13M _
        refine zs_goto (pc := 16) t163_16 ?_
        refine zs_aret (pc := 20) t163_20 (by rw [mr163]; rfl) ?_
        show zGo X l 2 0 0 166 5 [(0, .ref 164)] [.ref (181 + 3 * 0)] w13M _
        refine zs_astore_n (pc := 5) t166_5 (ls' := [(1, .ref (181 + 3 * 0)), (0, .ref 164)]) (zml mf166 (by decide)) rfl ?_
        refine zs_aload_n (pc := 6) t166_6 rfl ?_
        refine zs_ifnonnullT (pc := 7) t166_7 ?_
        refine zs_aload_n (pc := 14) t166_14 rfl ?_
        have w19 := ibT181_0_3 w13I w18
        refine zs_get (pc := 15) t166_15 (by decide) (zk1 (w13s.k (fT181_0 0 w18))) (zfvi rfl rfl) ?_
        refine zs_iret (pc := 18) t166_18 mr166 rfl ?_
        show zGo X l 6 0 0 151 158 [(0, .ref 6), (1, .int a)] [.int (zI w13M (181 + 3 * 0) 3)] w13M _
        exact zs_iret (pc := 158) t151_158 mr151 rfl (hQ _ _ w13s w13I ((zFr.refl).trans (w13F.mono rfl)) (zrg _).1 (zrg _).2)
  by_cases w20 : a.toInt = 110
  · refine zs_tswI (pc := 1) t151_1 ((rfl : a.toInt = a.toInt).trans w20) (by decide) rfl (pc2 := 80) rfl ?_
    refine zs_aload_n (pc := 80) t151_80 rfl ?_
    refine zs_get (pc := 81) t151_81 (by decide) (zk1 (hs.k fk_zMc_6)) (hs.p rfl fv_zMc_6_6) ?_
    refine zs_aload_n (pc := 84) t151_84 rfl ?_
    refine zs_get (pc := 85) t151_85 (by decide) (zk1 (hs.k fk_zMc_6)) (hs.p rfl fv_zMc_6_0) ?_
    refine zs_invV (pc := 88) (k := 164) (as' := [.ref 7]) (st := []) t151_88 mf105 rfl rfl (Or.inl ⟨by decide, (zk1 (hs.k fk_zMc_164))⟩) ⟨by decide, by decide, Nat.le_of_ble_eq_true rfl, Nat.le_of_ble_eq_true rfl⟩ (C105_164_7 hs hI ?_) (fun _ _ q => q)
    intro w21M w21s w21I w21F
    show zGo X l 6 0 0 151 91 [(0, .ref 6), (1, .int a)] [.ref 164] w21M _
    refine zs_invV (pc := 91) (k := 164) (as' := []) (st := []) t151_91 mf144 rfl rfl (Or.inl ⟨by decide, (zk1 (w21s.k fk_zMc_164))⟩) ⟨by decide, by decide, Nat.le_of_ble_eq_true rfl, Nat.le_of_ble_eq_true rfl⟩ (zs_in (by decide) mf144 (Nat.le_of_ble_eq_true rfl) ?_) (fun _ _ q => q)
    show zGo X l 0 0 0 144 0 [(0, .ref 164)] [] w21M _
    refine zs_aload_n (pc := 0) t144_0 rfl ?_
    have w22 := ib164_4 w21I
    refine zs_get (pc := 1) t144_1 (by decide) (zk1 (w21s.k fk_zMc_164)) (zfvi rfl rfl) ?_
    refine zs_iret (pc := 4) t144_4 mr144 rfl ?_
    show zGo X l 6 0 0 151 94 [(0, .ref 6), (1, .int a)] [.int (zI w21M 164 4)] w21M _
    exact zs_iret (pc := 94) t151_94 mr151 rfl (hQ _ _ w21s w21I ((zFr.refl).trans (w21F.mono rfl)) (zrg _).1 (zrg _).2)
  by_cases w23 : a.toInt = 111
  · refine zs_tswI (pc := 1) t151_1 ((rfl : a.toInt = a.toInt).trans w23) (by decide) rfl (pc2 := 190) rfl ?_
    refine zs_aload_n (pc := 190) t151_190 rfl ?_
    refine zs_get (pc := 191) t151_191 (by decide) (zk1 (hs.k fk_zMc_6)) (hs.p rfl fv_zMc_6_6) ?_
    refine zs_aload_n (pc := 194) t151_194 rfl ?_
    refine zs_get (pc := 195) t151_195 (by decide) (zk1 (hs.k fk_zMc_6)) (hs.p rfl fv_zMc_6_0) ?_
    refine zs_invV (pc := 198) (k := 164) (as' := [.ref 7]) (st := []) t151_198 mf105 rfl rfl (Or.inl ⟨by decide, (zk1 (hs.k fk_zMc_164))⟩) ⟨by decide, by decide, Nat.le_of_ble_eq_true rfl, Nat.le_of_ble_eq_true rfl⟩ (C105_164_7 hs hI ?_) (fun _ _ q => q)
    intro w24M w24s w24I w24F
    show zGo X l 6 0 0 151 201 [(0, .ref 6), (1, .int a)] [.ref 164] w24M _
    refine zs_invV (pc := 201) (k := 164) (as' := []) (st := []) t151_201 mf168 rfl rfl (Or.inl ⟨by decide, (zk1 (w24s.k fk_zMc_164))⟩) ⟨by decide, by decide, Nat.le_of_ble_eq_true rfl, Nat.le_of_ble_eq_true rfl⟩ (C168_164 w24s w24I ?_) (fun _ _ q => q)
    intro w25v w25a w25b
    show zGo X l 6 0 0 151 204 [(0, .ref 6), (1, .int a)] [.int w25v] w24M _
    exact zs_iret (pc := 204) t151_204 mr151 rfl (hQ _ _ w24s w24I ((zFr.refl).trans (w24F.mono rfl)) (zrg _).1 (zrg _).2)
  by_cases w26 : a.toInt = 112
  · refine zs_tswI (pc := 1) t151_1 ((rfl : a.toInt = a.toInt).trans w26) (by decide) rfl (pc2 := 205) rfl ?_
    refine zs_iconst (pc := 205) t151_205 (v := -1) (by decide) ?_
    exact zs_iret (pc := 206) t151_206 mr151 (by decide) (hQ _ _ hs hI (zFr.refl) (zrg _).1 (zrg _).2)
  by_cases w27 : a.toInt = 113
  · refine zs_tswI (pc := 1) t151_1 ((rfl : a.toInt = a.toInt).trans w27) (by decide) rfl (pc2 := 205) rfl ?_
    refine zs_iconst (pc := 205) t151_205 (v := -1) (by decide) ?_
    exact zs_iret (pc := 206) t151_206 mr151 (by decide) (hQ _ _ hs hI (zFr.refl) (zrg _).1 (zrg _).2)
  by_cases w28 : a.toInt = 114
  · refine zs_tswI (pc := 1) t151_1 ((rfl : a.toInt = a.toInt).trans w28) (by decide) rfl (pc2 := 205) rfl ?_
    refine zs_iconst (pc := 205) t151_205 (v := -1) (by decide) ?_
    exact zs_iret (pc := 206) t151_206 mr151 (by decide) (hQ _ _ hs hI (zFr.refl) (zrg _).1 (zrg _).2)
  by_cases w29 : a.toInt = 115
  · refine zs_tswI (pc := 1) t151_1 ((rfl : a.toInt = a.toInt).trans w29) (by decide) rfl (pc2 := 205) rfl ?_
    refine zs_iconst (pc := 205) t151_205 (v := -1) (by decide) ?_
    exact zs_iret (pc := 206) t151_206 mr151 (by decide) (hQ _ _ hs hI (zFr.refl) (zrg _).1 (zrg _).2)
  by_cases w30 : a.toInt = 116
  · refine zs_tswI (pc := 1) t151_1 ((rfl : a.toInt = a.toInt).trans w30) (by decide) rfl (pc2 := 205) rfl ?_
    refine zs_iconst (pc := 205) t151_205 (v := -1) (by decide) ?_
    exact zs_iret (pc := 206) t151_206 mr151 (by decide) (hQ _ _ hs hI (zFr.refl) (zrg _).1 (zrg _).2)
  by_cases w31 : a.toInt = 117
  · refine zs_tswI (pc := 1) t151_1 ((rfl : a.toInt = a.toInt).trans w31) (by decide) rfl (pc2 := 167) rfl ?_
    refine zs_aload_n (pc := 167) t151_167 rfl ?_
    refine zs_get (pc := 168) t151_168 (by decide) (zk1 (hs.k fk_zMc_6)) (hs.p rfl fv_zMc_6_0) ?_
    refine zs_invV (pc := 171) (k := 7) (as' := []) (st := []) t151_171 mf92 rfl rfl (Or.inl ⟨by decide, (zk1 (hs.k fk_zMc_7))⟩) ⟨by decide, by decide, Nat.le_of_ble_eq_true rfl, Nat.le_of_ble_eq_true rfl⟩ (C92_7 hs hI ?_) (fun _ _ q => q)
    intro w32v w32a w32b
    show zGo X l 6 0 0 151 174 [(0, .ref 6), (1, .int a)] [.int w32v] M _
    refine zs_aload_n (pc := 174) t151_174 rfl ?_
    refine zs_get (pc := 175) t151_175 (by decide) (zk1 (hs.k fk_zMc_6)) (hs.p rfl fv_zMc_6_6) ?_
    refine zs_aload_n (pc := 178) t151_178 rfl ?_
    refine zs_get (pc := 179) t151_179 (by decide) (zk1 (hs.k fk_zMc_6)) (hs.p rfl fv_zMc_6_0) ?_
    refine zs_invV (pc := 182) (k := 164) (as' := [.ref 7]) (st := [.int w32v]) t151_182 mf105 rfl rfl (Or.inl ⟨by decide, (zk1 (hs.k fk_zMc_164))⟩) ⟨by decide, by decide, Nat.le_of_ble_eq_true rfl, Nat.le_of_ble_eq_true rfl⟩ (C105_164_7 hs hI ?_) (fun _ _ q => q)
    intro w33M w33s w33I w33F
    show zGo X l 6 0 0 151 185 [(0, .ref 6), (1, .int a)] [.ref 164, .int w32v] w33M _
    refine zs_invV (pc := 185) (k := 164) (as' := []) (st := [.int w32v]) t151_185 mf167 rfl rfl (Or.inl ⟨by decide, (zk1 (w33s.k fk_zMc_164))⟩) ⟨by decide, by decide, Nat.le_of_ble_eq_true rfl, Nat.le_of_ble_eq_true rfl⟩ (C167_164 w33s w33I ?_) (fun _ _ q => q)
    intro w34v w34a w34b
    show zGo X l 6 0 0 151 188 [(0, .ref 6), (1, .int a)] [.int w34v, .int w32v] w33M _
    obtain ⟨w35v, w35⟩ : ∃ v, v = w32v - w34v := ⟨_, rfl⟩
    have w35g := zrg w35v
    refine zs_isub (pc := 188) t151_188 (c := w35v) w35.symm ?_
    exact zs_iret (pc := 189) t151_189 mr151 rfl (hQ _ _ w33s w33I ((zFr.refl).trans (w33F.mono rfl)) (zrg _).1 (zrg _).2)
  by_cases w36 : a.toInt = 118
  · refine zs_tswI (pc := 1) t151_1 ((rfl : a.toInt = a.toInt).trans w36) (by decide) rfl (pc2 := 103) rfl ?_
    refine zs_aload_n (pc := 103) t151_103 rfl ?_
    refine zs_get (pc := 104) t151_104 (by decide) (zk1 (hs.k fk_zMc_6)) (hs.p rfl fv_zMc_6_6) ?_
    refine zs_aload_n (pc := 107) t151_107 rfl ?_
    refine zs_get (pc := 108) t151_108 (by decide) (zk1 (hs.k fk_zMc_6)) (hs.p rfl fv_zMc_6_0) ?_
    refine zs_invV (pc := 111) (k := 164) (as' := [.ref 7]) (st := []) t151_111 mf105 rfl rfl (Or.inl ⟨by decide, (zk1 (hs.k fk_zMc_164))⟩) ⟨by decide, by decide, Nat.le_of_ble_eq_true rfl, Nat.le_of_ble_eq_true rfl⟩ (C105_164_7 hs hI ?_) (fun _ _ q => q)
    intro w37M w37s w37I w37F
    show zGo X l 6 0 0 151 114 [(0, .ref 6), (1, .int a)] [.ref 164] w37M _
    refine zs_invV (pc := 114) (k := 164) (as' := []) (st := []) t151_114 mf152 rfl rfl (Or.inl ⟨by decide, (zk1 (w37s.k fk_zMc_164))⟩) ⟨by decide, by decide, Nat.le_of_ble_eq_true rfl, Nat.le_of_ble_eq_true rfl⟩ (zs_in (by decide) mf152 (Nat.le_of_ble_eq_true rfl) ?_) (fun _ _ q => q)
    show zGo X l 0 0 0 152 0 [(0, .ref 164)] [] w37M _
    refine zs_aload_n (pc := 0) t152_0 rfl ?_
    have w38 := ib164_9 w37I
    refine zs_get (pc := 1) t152_1 (by decide) (zk1 (w37s.k fk_zMc_164)) (zfvi rfl rfl) ?_
    refine zs_iret (pc := 4) t152_4 mr152 rfl ?_
    show zGo X l 6 0 0 151 117 [(0, .ref 6), (1, .int a)] [.int (zI w37M 164 9)] w37M _
    exact zs_iret (pc := 117) t151_117 mr151 rfl (hQ _ _ w37s w37I ((zFr.refl).trans (w37F.mono rfl)) (zrg _).1 (zrg _).2)
  refine zs_tswD (pc := 1) t151_1 rfl (by omega) (pc2 := 205) rfl ?_
  refine zs_iconst (pc := 205) t151_205 (v := -1) (by decide) ?_
  exact zs_iret (pc := 206) t151_206 mr151 (by decide) (hQ _ _ hs hI (zFr.refl) (zrg _).1 (zrg _).2)
theorem T150_6 {X : zX} {l : Launch} {M : zM} {Q : Option Value → zM → Prop} {a : Int32} (hs : zSk zMc M) (hI : zIv cLo cHi M) (hQ : ∀ (M' : zM) (v : Int32), zSk zMc M' → zIv cLo cHi M' → zFr [(161, 334, none)] M M' → (-2147483648) ≤ v.toInt → v.toInt ≤ 2147483647 → Q (some (.int v)) M') : zCall X l 7 0 0 150 [.ref 6, .int a] M Q := by
  have ga := zrg a
  refine zs_in (by decide) mf150 (Nat.le_of_ble_eq_true rfl) ?_
  show zGo X l 7 0 0 150 0 [(0, .ref 6), (1, .int a)] [] M _
  refine zs_iload_n (pc := 0) t150_0 rfl ?_
  by_cases w1 : a.toInt = 0
  · refine zs_tswI (pc := 1) t150_1 ((rfl : a.toInt = a.toInt).trans w1) (by decide) rfl (pc2 := 40) rfl ?_
    refine zs_aload_n (pc := 40) t150_40 rfl ?_
    refine zs_bipush (pc := 41) t150_41 (v := 110) (by decide) ?_
    refine zs_invV (pc := 43) (k := 6) (as' := [.int (110 : Int32)]) (st := []) t150_43 mf151 rfl rfl (Or.inl ⟨by decide, (zk1 (hs.k fk_zMc_6))⟩) ⟨by decide, by decide, Nat.le_of_ble_eq_true rfl, Nat.le_of_ble_eq_true rfl⟩ (T151_6 hs hI ?_) (fun _ _ q => q)
    intro w2M w2v w2s w2I w2F w2a w2b
    show zGo X l 7 0 0 150 46 [(0, .ref 6), (1, .int a)] [.int w2v] w2M _
    exact zs_iret (pc := 46) t150_46 mr150 rfl (hQ _ _ w2s w2I ((zFr.refl).trans (w2F.mono rfl)) (zrg _).1 (zrg _).2)
  by_cases w3 : a.toInt = 1
  · refine zs_tswI (pc := 1) t150_1 ((rfl : a.toInt = a.toInt).trans w3) (by decide) rfl (pc2 := 47) rfl ?_
    refine zs_aload_n (pc := 47) t150_47 rfl ?_
    refine zs_bipush (pc := 48) t150_48 (v := 103) (by decide) ?_
    refine zs_invV (pc := 50) (k := 6) (as' := [.int (103 : Int32)]) (st := []) t150_50 mf151 rfl rfl (Or.inl ⟨by decide, (zk1 (hs.k fk_zMc_6))⟩) ⟨by decide, by decide, Nat.le_of_ble_eq_true rfl, Nat.le_of_ble_eq_true rfl⟩ (T151_6 hs hI ?_) (fun _ _ q => q)
    intro w4M w4v w4s w4I w4F w4a w4b
    show zGo X l 7 0 0 150 53 [(0, .ref 6), (1, .int a)] [.int w4v] w4M _
    exact zs_iret (pc := 53) t150_53 mr150 rfl (hQ _ _ w4s w4I ((zFr.refl).trans (w4F.mono rfl)) (zrg _).1 (zrg _).2)
  by_cases w5 : a.toInt = 2
  · refine zs_tswI (pc := 1) t150_1 ((rfl : a.toInt = a.toInt).trans w5) (by decide) rfl (pc2 := 54) rfl ?_
    refine zs_aload_n (pc := 54) t150_54 rfl ?_
    refine zs_bipush (pc := 55) t150_55 (v := 118) (by decide) ?_
    refine zs_invV (pc := 57) (k := 6) (as' := [.int (118 : Int32)]) (st := []) t150_57 mf151 rfl rfl (Or.inl ⟨by decide, (zk1 (hs.k fk_zMc_6))⟩) ⟨by decide, by decide, Nat.le_of_ble_eq_true rfl, Nat.le_of_ble_eq_true rfl⟩ (T151_6 hs hI ?_) (fun _ _ q => q)
    intro w6M w6v w6s w6I w6F w6a w6b
    show zGo X l 7 0 0 150 60 [(0, .ref 6), (1, .int a)] [.int w6v] w6M _
    exact zs_iret (pc := 60) t150_60 mr150 rfl (hQ _ _ w6s w6I ((zFr.refl).trans (w6F.mono rfl)) (zrg _).1 (zrg _).2)
  by_cases w7 : a.toInt = 3
  · refine zs_tswI (pc := 1) t150_1 ((rfl : a.toInt = a.toInt).trans w7) (by decide) rfl (pc2 := 61) rfl ?_
    refine zs_aload_n (pc := 61) t150_61 rfl ?_
    refine zs_bipush (pc := 62) t150_62 (v := 117) (by decide) ?_
    refine zs_invV (pc := 64) (k := 6) (as' := [.int (117 : Int32)]) (st := []) t150_64 mf151 rfl rfl (Or.inl ⟨by decide, (zk1 (hs.k fk_zMc_6))⟩) ⟨by decide, by decide, Nat.le_of_ble_eq_true rfl, Nat.le_of_ble_eq_true rfl⟩ (T151_6 hs hI ?_) (fun _ _ q => q)
    intro w8M w8v w8s w8I w8F w8a w8b
    show zGo X l 7 0 0 150 67 [(0, .ref 6), (1, .int a)] [.int w8v] w8M _
    exact zs_iret (pc := 67) t150_67 mr150 rfl (hQ _ _ w8s w8I ((zFr.refl).trans (w8F.mono rfl)) (zrg _).1 (zrg _).2)
  by_cases w9 : a.toInt = 4
  · refine zs_tswI (pc := 1) t150_1 ((rfl : a.toInt = a.toInt).trans w9) (by decide) rfl (pc2 := 68) rfl ?_
    refine zs_aload_n (pc := 68) t150_68 rfl ?_
    refine zs_bipush (pc := 69) t150_69 (v := 109) (by decide) ?_
    refine zs_invV (pc := 71) (k := 6) (as' := [.int (109 : Int32)]) (st := []) t150_71 mf151 rfl rfl (Or.inl ⟨by decide, (zk1 (hs.k fk_zMc_6))⟩) ⟨by decide, by decide, Nat.le_of_ble_eq_true rfl, Nat.le_of_ble_eq_true rfl⟩ (T151_6 hs hI ?_) (fun _ _ q => q)
    intro w10M w10v w10s w10I w10F w10a w10b
    show zGo X l 7 0 0 150 74 [(0, .ref 6), (1, .int a)] [.int w10v] w10M _
    exact zs_iret (pc := 74) t150_74 mr150 rfl (hQ _ _ w10s w10I ((zFr.refl).trans (w10F.mono rfl)) (zrg _).1 (zrg _).2)
  by_cases w11 : a.toInt = 5
  · refine zs_tswI (pc := 1) t150_1 ((rfl : a.toInt = a.toInt).trans w11) (by decide) rfl (pc2 := 75) rfl ?_
    refine zs_aload_n (pc := 75) t150_75 rfl ?_
    refine zs_bipush (pc := 76) t150_76 (v := 111) (by decide) ?_
    refine zs_invV (pc := 78) (k := 6) (as' := [.int (111 : Int32)]) (st := []) t150_78 mf151 rfl rfl (Or.inl ⟨by decide, (zk1 (hs.k fk_zMc_6))⟩) ⟨by decide, by decide, Nat.le_of_ble_eq_true rfl, Nat.le_of_ble_eq_true rfl⟩ (T151_6 hs hI ?_) (fun _ _ q => q)
    intro w12M w12v w12s w12I w12F w12a w12b
    show zGo X l 7 0 0 150 81 [(0, .ref 6), (1, .int a)] [.int w12v] w12M _
    exact zs_iret (pc := 81) t150_81 mr150 rfl (hQ _ _ w12s w12I ((zFr.refl).trans (w12F.mono rfl)) (zrg _).1 (zrg _).2)
  refine zs_tswD (pc := 1) t150_1 rfl (by omega) (pc2 := 82) rfl ?_
  refine zs_iconst (pc := 82) t150_82 (v := -1) (by decide) ?_
  exact zs_iret (pc := 83) t150_83 mr150 (by decide) (hQ _ _ hs hI (zFr.refl) (zrg _).1 (zrg _).2)
theorem T169_6 {X : zX} {l : Launch} {M : zM} {Q : Option Value → zM → Prop} {a b : Int32} (hs : zSk zMc M) (hI : zIv cLo cHi M) (hQ : ∀ (M' : zM) (v : Int32), zSk zMc M' → zIv cLo cHi M' → zFr [(161, 334, none)] M M' → (-2147483648) ≤ v.toInt → v.toInt ≤ 2147483647 → Q (some (.int v)) M') : zCall X l 6 0 0 169 [.ref 6, .int a, .int b] M Q := by
  have ga := zrg a
  have gb := zrg b
  refine zs_in (by decide) mf169 (Nat.le_of_ble_eq_true rfl) ?_
  show zGo X l 6 0 0 169 0 [(0, .ref 6), (1, .int a), (2, .int b)] [] M _
  refine zs_aload_n (pc := 0) t169_0 rfl ?_
  refine zs_get (pc := 1) t169_1 (by decide) (zk1 (hs.k fk_zMc_6)) (hs.p rfl fv_zMc_6_6) ?_
  refine zs_aload_n (pc := 4) t169_4 rfl ?_
  refine zs_get (pc := 5) t169_5 (by decide) (zk1 (hs.k fk_zMc_6)) (hs.p rfl fv_zMc_6_0) ?_
  refine zs_invV (pc := 8) (k := 164) (as' := [.ref 7]) (st := []) t169_8 mf105 rfl rfl (Or.inl ⟨by decide, (zk1 (hs.k fk_zMc_164))⟩) ⟨by decide, by decide, Nat.le_of_ble_eq_true rfl, Nat.le_of_ble_eq_true rfl⟩ (C105_164_7 hs hI ?_) (fun _ _ q => q)
  intro w1M w1s w1I w1F
  show zGo X l 6 0 0 169 11 [(0, .ref 6), (1, .int a), (2, .int b)] [.ref 164] w1M _
  refine zs_iload_n (pc := 11) t169_11 rfl ?_
  refine zs_invV (pc := 12) (k := 164) (as' := [.int a]) (st := []) t169_12 mf163 rfl rfl (Or.inl ⟨by decide, (zk1 (w1s.k fk_zMc_164))⟩) ⟨by decide, by decide, Nat.le_of_ble_eq_true rfl, Nat.le_of_ble_eq_true rfl⟩ (zs_in (by decide) mf163 (Nat.le_of_ble_eq_true rfl) ?_) (fun _ _ q => q)
  show zGo X l 1 0 0 163 0 [(0, .ref 164), (1, .int a)] [] w1M _
  refine zs_iload_n (pc := 0) t163_0 rfl ?_
  refine zs_aload_n (pc := 1) t163_1 rfl ?_
  have w2 := ib164_4 w1I
  refine zs_get (pc := 2) t163_2 (by decide) (zk1 (w1s.k fk_zMc_164)) (zfvi rfl rfl) ?_
  by_cases w3 : (zI w1M 164 4).toInt ≤ a.toInt
  · refine zs_icmp_geT (pc := 5) t163_5 rfl rfl (by omega) ?_
    refine zs_aconst_null (pc := 19) t163_19 ?_
    refine zs_aret0 (pc := 20) t163_20 (by rw [mr163]; rfl) ?_
    show zGo X l 6 0 0 169 15 [(0, .ref 6), (1, .int a), (2, .int b)] [.null] w1M _
    refine zs_astore_n0 (pc := 15) t169_15 (ls' := [(3, .null), (0, .ref 6), (1, .int a), (2, .int b)]) (zml mf169 (by decide)) rfl ?_
    refine zs_aload_n0 (pc := 16) t169_16 rfl ?_
    refine zs_ifnonnullF (pc := 17) t169_17 ?_
    refine zs_ldc (pc := 20) t169_20 (v := -100000) rfl (by decide) ?_
    exact zs_iret (pc := 22) t169_22 mr169 (by decide) (hQ _ _ w1s w1I ((zFr.refl).trans (w1F.mono rfl)) (zrg _).1 (zrg _).2)
  · refine zs_icmp_geF (pc := 5) t163_5 rfl rfl (by omega) ?_
    refine zs_aload_n (pc := 8) t163_8 rfl ?_
    refine zs_get (pc := 9) t163_9 (by decide) (zk1 (w1s.k fk_zMc_164)) (w1s.p rfl fv_zMc_164_1) ?_
    refine zs_iload_n (pc := 12) t163_12 rfl ?_
    refine zs_invV (pc := 13) (k := 165) (as' := [.int a]) (st := []) t163_13 mf126 rfl rfl (Or.inl ⟨by decide, (zk1 (w1s.k fk_zMc_165))⟩) ⟨by decide, by decide, Nat.le_of_ble_eq_true rfl, Nat.le_of_ble_eq_true rfl⟩ (zs_in (by decide) mf126 (Nat.le_of_ble_eq_true rfl) ?_) (fun _ _ q => q)
    show zGo X l 0 0 0 126 0 [(0, .ref 165), (1, .int a)] [] w1M _
    refine zs_iload_n (pc := 0) t126_0 rfl ?_
    by_cases w4 : a.toInt < 0
    · refine zs_if_ltT (pc := 1) t126_1 rfl (by omega) ?_
      refine zs_aconst_null (pc := 21) t126_21 ?_
      refine zs_aret0 (pc := 22) t126_22 (by rw [mr126]; rfl) ?_
      show zGo X l 1 0 0 163 16 [(0, .ref 164), (1, .int a)] [.null] w1M _
      refine zs_goto (pc := 16) t163_16 ?_
      refine zs_aret0 (pc := 20) t163_20 (by rw [mr163]; rfl) ?_
      show zGo X l 6 0 0 169 15 [(0, .ref 6), (1, .int a), (2, .int b)] [.null] w1M _
      refine zs_astore_n0 (pc := 15) t169_15 (ls' := [(3, .null), (0, .ref 6), (1, .int a), (2, .int b)]) (zml mf169 (by decide)) rfl ?_
      refine zs_aload_n0 (pc := 16) t169_16 rfl ?_
      refine zs_ifnonnullF (pc := 17) t169_17 ?_
      refine zs_ldc (pc := 20) t169_20 (v := -100000) rfl (by decide) ?_
      exact zs_iret (pc := 22) t169_22 mr169 (by decide) (hQ _ _ w1s w1I ((zFr.refl).trans (w1F.mono rfl)) (zrg _).1 (zrg _).2)
    · refine zs_if_ltF (pc := 1) t126_1 rfl (by omega) ?_
      refine zs_iload_n (pc := 4) t126_4 rfl ?_
      refine zs_aload_n (pc := 5) t126_5 rfl ?_
      have w5 := ib165_2 w1I
      refine zs_get (pc := 6) t126_6 (by decide) (zk1 (w1s.k fk_zMc_165)) (zfvi rfl rfl) ?_
      by_cases w6 : (zI w1M 165 2).toInt ≤ a.toInt
      · refine zs_icmp_geT (pc := 9) t126_9 rfl rfl (by omega) ?_
        refine zs_aconst_null (pc := 21) t126_21 ?_
        refine zs_aret0 (pc := 22) t126_22 (by rw [mr126]; rfl) ?_
        show zGo X l 1 0 0 163 16 [(0, .ref 164), (1, .int a)] [.null] w1M _
        refine zs_goto (pc := 16) t163_16 ?_
        refine zs_aret0 (pc := 20) t163_20 (by rw [mr163]; rfl) ?_
        show zGo X l 6 0 0 169 15 [(0, .ref 6), (1, .int a), (2, .int b)] [.null] w1M _
        refine zs_astore_n0 (pc := 15) t169_15 (ls' := [(3, .null), (0, .ref 6), (1, .int a), (2, .int b)]) (zml mf169 (by decide)) rfl ?_
        refine zs_aload_n0 (pc := 16) t169_16 rfl ?_
        refine zs_ifnonnullF (pc := 17) t169_17 ?_
        refine zs_ldc (pc := 20) t169_20 (v := -100000) rfl (by decide) ?_
        exact zs_iret (pc := 22) t169_22 mr169 (by decide) (hQ _ _ w1s w1I ((zFr.refl).trans (w1F.mono rfl)) (zrg _).1 (zrg _).2)
      · refine zs_icmp_geF (pc := 9) t126_9 rfl rfl (by omega) ?_
        refine zs_aload_n (pc := 12) t126_12 rfl ?_
        refine zs_get (pc := 13) t126_13 (by decide) (zk1 (w1s.k fk_zMc_165)) (w1s.p rfl fv_zMc_165_1) ?_
        refine zs_iload_n (pc := 16) t126_16 rfl ?_
        obtain ⟨w7n, w7⟩ : ∃ n : Nat, a.toInt = (n : Int) := ⟨a.toInt.toNat, by omega⟩
        have w8 : w7n < 20 := by omega
        refine zs_aald (pc := 17) t126_17 (j := w7n) (Or.inr (zk1 (w1s.k fk_zMc_179))) w7 (zk2 (w1s.k fk_zMc_179) (by omega)) (w1s.a (fpT181 w7n w8)) ?_
        refine zs_goto (pc := 18) t126_18 ?_
        refine zs_aret (pc := 22) t126_22 (by rw [mr126]; rfl) ?_
        show zGo X l 1 0 0 163 16 [(0, .ref 164), (1, .int a)] [.ref (181 + 3 * w7n)] w1M _
        refine zs_goto (pc := 16) t163_16 ?_
        refine zs_aret (pc := 20) t163_20 (by rw [mr163]; rfl) ?_
        show zGo X l 6 0 0 169 15 [(0, .ref 6), (1, .int a), (2, .int b)] [.ref (181 + 3 * w7n)] w1M _
        refine zs_astore_n (pc := 15) t169_15 (ls' := [(3, .ref (181 + 3 * w7n)), (0, .ref 6), (1, .int a), (2, .int b)]) (zml mf169 (by decide)) rfl ?_
        refine zs_aload_n (pc := 16) t169_16 rfl ?_
        refine zs_ifnonnullT (pc := 17) t169_17 ?_
        refine zs_iload_n (pc := 23) t169_23 rfl ?_
        by_cases w9 : b.toInt = 0
        · refine zs_tswI (pc := 24) t169_24 ((rfl : b.toInt = b.toInt).trans w9) (by decide) rfl (pc2 := 76) rfl ?_
          refine zs_aload_n (pc := 76) t169_76 rfl ?_
          have w10 := ibT181_0_0 w1I w8
          refine zs_get (pc := 77) t169_77 (by decide) (zk1 (w1s.k (fT181_0 w7n w8))) (zfvi rfl rfl) ?_
          exact zs_iret (pc := 80) t169_80 mr169 rfl (hQ _ _ w1s w1I ((zFr.refl).trans (w1F.mono rfl)) (zrg _).1 (zrg _).2)
        by_cases w11 : b.toInt = 1
        · refine zs_tswI (pc := 24) t169_24 ((rfl : b.toInt = b.toInt).trans w11) (by decide) rfl (pc2 := 81) rfl ?_
          refine zs_aload_n (pc := 81) t169_81 rfl ?_
          have w12 := ibT181_0_1 w1I w8
          refine zs_get (pc := 82) t169_82 (by decide) (zk1 (w1s.k (fT181_0 w7n w8))) (zfvi rfl rfl) ?_
          exact zs_iret (pc := 85) t169_85 mr169 rfl (hQ _ _ w1s w1I ((zFr.refl).trans (w1F.mono rfl)) (zrg _).1 (zrg _).2)
        by_cases w13 : b.toInt = 2
        · refine zs_tswI (pc := 24) t169_24 ((rfl : b.toInt = b.toInt).trans w13) (by decide) rfl (pc2 := 86) rfl ?_
          refine zs_aload_n (pc := 86) t169_86 rfl ?_
          have w14 := ibT181_0_2 w1I w8
          refine zs_get (pc := 87) t169_87 (by decide) (zk1 (w1s.k (fT181_0 w7n w8))) (zfvi rfl rfl) ?_
          exact zs_iret (pc := 90) t169_90 mr169 rfl (hQ _ _ w1s w1I ((zFr.refl).trans (w1F.mono rfl)) (zrg _).1 (zrg _).2)
        by_cases w15 : b.toInt = 3
        · refine zs_tswI (pc := 24) t169_24 ((rfl : b.toInt = b.toInt).trans w15) (by decide) rfl (pc2 := 91) rfl ?_
          refine zs_aload_n (pc := 91) t169_91 rfl ?_
          have w16 := ibT181_0_3 w1I w8
          refine zs_get (pc := 92) t169_92 (by decide) (zk1 (w1s.k (fT181_0 w7n w8))) (zfvi rfl rfl) ?_
          exact zs_iret (pc := 95) t169_95 mr169 rfl (hQ _ _ w1s w1I ((zFr.refl).trans (w1F.mono rfl)) (zrg _).1 (zrg _).2)
        by_cases w17 : b.toInt = 4
        · refine zs_tswI (pc := 24) t169_24 ((rfl : b.toInt = b.toInt).trans w17) (by decide) rfl (pc2 := 96) rfl ?_
          refine zs_aload_n (pc := 96) t169_96 rfl ?_
          have w18 := ibT181_0_4 w1I w8
          refine zs_get (pc := 97) t169_97 (by decide) (zk1 (w1s.k (fT181_0 w7n w8))) (zfvi rfl rfl) ?_
          exact zs_iret (pc := 100) t169_100 mr169 rfl (hQ _ _ w1s w1I ((zFr.refl).trans (w1F.mono rfl)) (zrg _).1 (zrg _).2)
        by_cases w19 : b.toInt = 5
        · refine zs_tswI (pc := 24) t169_24 ((rfl : b.toInt = b.toInt).trans w19) (by decide) rfl (pc2 := 101) rfl ?_
          refine zs_aload_n (pc := 101) t169_101 rfl ?_
          refine zs_invV (pc := 102) (k := (181 + 3 * w7n)) (as' := []) (st := []) t169_102 mf139 rfl rfl (Or.inl ⟨by decide, (zk1 (w1s.k (fT181_0 w7n w8)))⟩) ⟨by decide, by decide, Nat.le_of_ble_eq_true rfl, Nat.le_of_ble_eq_true rfl⟩ (zs_in (by decide) mf139 (Nat.le_of_ble_eq_true rfl) ?_) (fun _ _ q => q)
          show zGo X l 1 0 0 139 0 [(0, .ref (181 + 3 * w7n))] [] w1M _
          refine zs_aload_n (pc := 0) t139_0 rfl ?_
          refine zs_get (pc := 1) t139_1 (by decide) (zk1 (w1s.k (fT181_0 w7n w8))) (zfvj rfl) ?_
          refine zs_lconst (pc := 4) t139_4 (v := 1) (by decide) ?_
          refine zs_aload_n (pc := 5) t139_5 rfl ?_
          refine zs_get (pc := 6) t139_6 (by decide) (zk1 (w1s.k (fT181_0 w7n w8))) (zfvj rfl) ?_
          refine zs_invS (pc := 9) (as := [.long (1 : Int64), .long (zJ w1M (181 + 3 * w7n) 8)]) (st := [.long (zJ w1M (181 + 3 * w7n) 9)]) t139_9 (by decide) mf134 rfl rfl ⟨by decide, by decide, Nat.le_of_ble_eq_true rfl, Nat.le_of_ble_eq_true rfl⟩ (zs_in (by decide) mf134 (Nat.le_of_ble_eq_true rfl) ?_) (fun _ _ q => q)
          show zGo X l 0 0 0 134 0 [(0, .long (1 : Int64)), (2, .long (zJ w1M (181 + 3 * w7n) 8))] [] w1M _
          refine zs_lload_n (pc := 0) t134_0 rfl ?_
          refine zs_lload_n (pc := 1) t134_1 rfl ?_
          by_cases w20 : 1 < (zJ w1M (181 + 3 * w7n) 8).toInt
          · refine zs_lcmp (pc := 2) t134_2 (c := -1) (zlcL ll1 rfl (by omega)) ?_
            refine zs_if_ltT (pc := 3) t134_3 lin1 (by decide) ?_
            refine zs_lload_n (pc := 10) t134_10 rfl ?_
            refine zs_lret (pc := 11) t134_11 mr134 ?_
            show zGo X l 1 0 0 139 12 [(0, .ref (181 + 3 * w7n))] [.long (zJ w1M (181 + 3 * w7n) 8), .long (zJ w1M (181 + 3 * w7n) 9)] w1M _
            refine zs_invS (pc := 12) (as := [.long (zJ w1M (181 + 3 * w7n) 9), .long (zJ w1M (181 + 3 * w7n) 8)]) (st := []) t139_12 (by decide) mf140 rfl rfl ⟨by decide, by decide, Nat.le_of_ble_eq_true rfl, Nat.le_of_ble_eq_true rfl⟩ (zs_in (by decide) mf140 (Nat.le_of_ble_eq_true rfl) ?_) (fun _ _ q => q)
            show zGo X l 0 0 0 140 0 [(0, .long (zJ w1M (181 + 3 * w7n) 9)), (2, .long (zJ w1M (181 + 3 * w7n) 8))] [] w1M _
            refine zs_lload_n (pc := 0) t140_0 rfl ?_
            refine zs_lload_n (pc := 1) t140_1 rfl ?_
            obtain ⟨w21v, w21⟩ : ∃ v, (zJ w1M (181 + 3 * w7n) 9) / (zJ w1M (181 + 3 * w7n) 8) = v := ⟨_, rfl⟩
            have w21g := zrg64 w21v
            refine zs_ldiv (pc := 2) t140_2 (znz64 rfl (by omega)) (c := w21v) w21 ?_
            refine zs_lstore (pc := 3) t140_3 (ls' := [(4, .long w21v), (0, .long (zJ w1M (181 + 3 * w7n) 9)), (2, .long (zJ w1M (181 + 3 * w7n) 8))]) (zml mf140 (by decide)) rfl ?_
            refine zs_lload_n (pc := 5) t140_5 rfl ?_
            refine zs_lload_n (pc := 6) t140_6 rfl ?_
            obtain ⟨w22v, w22⟩ : ∃ v, (zJ w1M (181 + 3 * w7n) 9) ^^^ (zJ w1M (181 + 3 * w7n) 8) = v := ⟨_, rfl⟩
            have w22g := zrg64 w22v
            refine zs_lxor (pc := 7) t140_7 (c := w22v) w22 ?_
            refine zs_lconst (pc := 8) t140_8 (v := 0) (by decide) ?_
            by_cases w23 : w22v.toInt < 0
            · refine zs_lcmp (pc := 9) t140_9 (c := -1) (zlcL rfl ll0 (by omega)) ?_
              refine zs_if_geF (pc := 10) t140_10 lin1 (by decide) ?_
              refine zs_lload (pc := 13) t140_13 rfl ?_
              refine zs_lload_n (pc := 15) t140_15 rfl ?_
              obtain ⟨w24v, w24⟩ : ∃ v, w21v * (zJ w1M (181 + 3 * w7n) 8) = v := ⟨_, rfl⟩
              have w24g := zrg64 w24v
              refine zs_lmul (pc := 16) t140_16 (c := w24v) w24 ?_
              refine zs_lload_n (pc := 17) t140_17 rfl ?_
              by_cases w25 : w24v.toInt < (zJ w1M (181 + 3 * w7n) 9).toInt
              · refine zs_lcmp (pc := 18) t140_18 (c := -1) (zlcL rfl rfl (by omega)) ?_
                refine zs_if_eqF (pc := 19) t140_19 lin1 (by decide) ?_
                refine zs_lload (pc := 22) t140_22 rfl ?_
                refine zs_lconst (pc := 24) t140_24 (v := 1) (by decide) ?_
                obtain ⟨w26v, w26⟩ : ∃ v, w21v - (1 : Int64) = v := ⟨_, rfl⟩
                have w26g := zrg64 w26v
                refine zs_lsub (pc := 25) t140_25 (c := w26v) w26 ?_
                refine zs_lret (pc := 26) t140_26 mr140 ?_
                show zGo X l 1 0 0 139 15 [(0, .ref (181 + 3 * w7n))] [.long w26v] w1M _
                obtain ⟨w27v, w27⟩ : ∃ v, w26v.toInt32 = v := ⟨_, rfl⟩
                have w27g := zrg w27v
                refine zs_l2i (pc := 15) t139_15 (c := w27v) w27 ?_
                refine zs_iret (pc := 16) t139_16 mr139 rfl ?_
                show zGo X l 6 0 0 169 105 [(3, .ref (181 + 3 * w7n)), (0, .ref 6), (1, .int a), (2, .int b)] [.int w27v] w1M _
                exact zs_iret (pc := 105) t169_105 mr169 rfl (hQ _ _ w1s w1I ((zFr.refl).trans (w1F.mono rfl)) (zrg _).1 (zrg _).2)
              by_cases w28 : w24v.toInt = (zJ w1M (181 + 3 * w7n) 9).toInt
              · refine zs_lcmp (pc := 18) t140_18 (c := 0) (zlcE rfl rfl (by omega)) ?_
                refine zs_if_eqT (pc := 19) t140_19 li0 (by decide) ?_
                refine zs_lload (pc := 27) t140_27 rfl ?_
                refine zs_lret (pc := 29) t140_29 mr140 ?_
                show zGo X l 1 0 0 139 15 [(0, .ref (181 + 3 * w7n))] [.long w21v] w1M _
                obtain ⟨w29v, w29⟩ : ∃ v, w21v.toInt32 = v := ⟨_, rfl⟩
                have w29g := zrg w29v
                refine zs_l2i (pc := 15) t139_15 (c := w29v) w29 ?_
                refine zs_iret (pc := 16) t139_16 mr139 rfl ?_
                show zGo X l 6 0 0 169 105 [(3, .ref (181 + 3 * w7n)), (0, .ref 6), (1, .int a), (2, .int b)] [.int w29v] w1M _
                exact zs_iret (pc := 105) t169_105 mr169 rfl (hQ _ _ w1s w1I ((zFr.refl).trans (w1F.mono rfl)) (zrg _).1 (zrg _).2)
              refine zs_lcmp (pc := 18) t140_18 (c := 1) (zlcG rfl rfl (by omega)) ?_
              refine zs_if_eqF (pc := 19) t140_19 li1 (by decide) ?_
              refine zs_lload (pc := 22) t140_22 rfl ?_
              refine zs_lconst (pc := 24) t140_24 (v := 1) (by decide) ?_
              obtain ⟨w31v, w31⟩ : ∃ v, w21v - (1 : Int64) = v := ⟨_, rfl⟩
              have w31g := zrg64 w31v
              refine zs_lsub (pc := 25) t140_25 (c := w31v) w31 ?_
              refine zs_lret (pc := 26) t140_26 mr140 ?_
              show zGo X l 1 0 0 139 15 [(0, .ref (181 + 3 * w7n))] [.long w31v] w1M _
              obtain ⟨w32v, w32⟩ : ∃ v, w31v.toInt32 = v := ⟨_, rfl⟩
              have w32g := zrg w32v
              refine zs_l2i (pc := 15) t139_15 (c := w32v) w32 ?_
              refine zs_iret (pc := 16) t139_16 mr139 rfl ?_
              show zGo X l 6 0 0 169 105 [(3, .ref (181 + 3 * w7n)), (0, .ref 6), (1, .int a), (2, .int b)] [.int w32v] w1M _
              exact zs_iret (pc := 105) t169_105 mr169 rfl (hQ _ _ w1s w1I ((zFr.refl).trans (w1F.mono rfl)) (zrg _).1 (zrg _).2)
            by_cases w33 : w22v.toInt = 0
            · refine zs_lcmp (pc := 9) t140_9 (c := 0) (zlcE rfl ll0 (by omega)) ?_
              refine zs_if_geT (pc := 10) t140_10 li0 (by decide) ?_
              refine zs_lload (pc := 27) t140_27 rfl ?_
              refine zs_lret (pc := 29) t140_29 mr140 ?_
              show zGo X l 1 0 0 139 15 [(0, .ref (181 + 3 * w7n))] [.long w21v] w1M _
              obtain ⟨w34v, w34⟩ : ∃ v, w21v.toInt32 = v := ⟨_, rfl⟩
              have w34g := zrg w34v
              refine zs_l2i (pc := 15) t139_15 (c := w34v) w34 ?_
              refine zs_iret (pc := 16) t139_16 mr139 rfl ?_
              show zGo X l 6 0 0 169 105 [(3, .ref (181 + 3 * w7n)), (0, .ref 6), (1, .int a), (2, .int b)] [.int w34v] w1M _
              exact zs_iret (pc := 105) t169_105 mr169 rfl (hQ _ _ w1s w1I ((zFr.refl).trans (w1F.mono rfl)) (zrg _).1 (zrg _).2)
            refine zs_lcmp (pc := 9) t140_9 (c := 1) (zlcG rfl ll0 (by omega)) ?_
            refine zs_if_geT (pc := 10) t140_10 li1 (by decide) ?_
            refine zs_lload (pc := 27) t140_27 rfl ?_
            refine zs_lret (pc := 29) t140_29 mr140 ?_
            show zGo X l 1 0 0 139 15 [(0, .ref (181 + 3 * w7n))] [.long w21v] w1M _
            obtain ⟨w36v, w36⟩ : ∃ v, w21v.toInt32 = v := ⟨_, rfl⟩
            have w36g := zrg w36v
            refine zs_l2i (pc := 15) t139_15 (c := w36v) w36 ?_
            refine zs_iret (pc := 16) t139_16 mr139 rfl ?_
            show zGo X l 6 0 0 169 105 [(3, .ref (181 + 3 * w7n)), (0, .ref 6), (1, .int a), (2, .int b)] [.int w36v] w1M _
            exact zs_iret (pc := 105) t169_105 mr169 rfl (hQ _ _ w1s w1I ((zFr.refl).trans (w1F.mono rfl)) (zrg _).1 (zrg _).2)
          by_cases w37 : 1 = (zJ w1M (181 + 3 * w7n) 8).toInt
          · refine zs_lcmp (pc := 2) t134_2 (c := 0) (zlcE ll1 rfl (by omega)) ?_
            refine zs_if_ltF (pc := 3) t134_3 li0 (by decide) ?_
            refine zs_lload_n (pc := 6) t134_6 rfl ?_
            refine zs_goto (pc := 7) t134_7 ?_
            refine zs_lret (pc := 11) t134_11 mr134 ?_
            show zGo X l 1 0 0 139 12 [(0, .ref (181 + 3 * w7n))] [.long (1 : Int64), .long (zJ w1M (181 + 3 * w7n) 9)] w1M _
            refine zs_invS (pc := 12) (as := [.long (zJ w1M (181 + 3 * w7n) 9), .long (1 : Int64)]) (st := []) t139_12 (by decide) mf140 rfl rfl ⟨by decide, by decide, Nat.le_of_ble_eq_true rfl, Nat.le_of_ble_eq_true rfl⟩ (zs_in (by decide) mf140 (Nat.le_of_ble_eq_true rfl) ?_) (fun _ _ q => q)
            show zGo X l 0 0 0 140 0 [(0, .long (zJ w1M (181 + 3 * w7n) 9)), (2, .long (1 : Int64))] [] w1M _
            refine zs_lload_n (pc := 0) t140_0 rfl ?_
            refine zs_lload_n (pc := 1) t140_1 rfl ?_
            obtain ⟨w38v, w38⟩ : ∃ v, (zJ w1M (181 + 3 * w7n) 9) / (1 : Int64) = v := ⟨_, rfl⟩
            have w38g := zrg64 w38v
            refine zs_ldiv (pc := 2) t140_2 (by decide) (c := w38v) w38 ?_
            refine zs_lstore (pc := 3) t140_3 (ls' := [(4, .long w38v), (0, .long (zJ w1M (181 + 3 * w7n) 9)), (2, .long (1 : Int64))]) (zml mf140 (by decide)) rfl ?_
            refine zs_lload_n (pc := 5) t140_5 rfl ?_
            refine zs_lload_n (pc := 6) t140_6 rfl ?_
            obtain ⟨w39v, w39⟩ : ∃ v, (zJ w1M (181 + 3 * w7n) 9) ^^^ (1 : Int64) = v := ⟨_, rfl⟩
            have w39g := zrg64 w39v
            refine zs_lxor (pc := 7) t140_7 (c := w39v) w39 ?_
            refine zs_lconst (pc := 8) t140_8 (v := 0) (by decide) ?_
            by_cases w40 : w39v.toInt < 0
            · refine zs_lcmp (pc := 9) t140_9 (c := -1) (zlcL rfl ll0 (by omega)) ?_
              refine zs_if_geF (pc := 10) t140_10 lin1 (by decide) ?_
              refine zs_lload (pc := 13) t140_13 rfl ?_
              refine zs_lload_n (pc := 15) t140_15 rfl ?_
              obtain ⟨w41v, w41⟩ : ∃ v, w38v * (1 : Int64) = v := ⟨_, rfl⟩
              have w41g := zrg64 w41v
              refine zs_lmul (pc := 16) t140_16 (c := w41v) w41 ?_
              refine zs_lload_n (pc := 17) t140_17 rfl ?_
              by_cases w42 : w41v.toInt < (zJ w1M (181 + 3 * w7n) 9).toInt
              · refine zs_lcmp (pc := 18) t140_18 (c := -1) (zlcL rfl rfl (by omega)) ?_
                refine zs_if_eqF (pc := 19) t140_19 lin1 (by decide) ?_
                refine zs_lload (pc := 22) t140_22 rfl ?_
                refine zs_lconst (pc := 24) t140_24 (v := 1) (by decide) ?_
                obtain ⟨w43v, w43⟩ : ∃ v, w38v - (1 : Int64) = v := ⟨_, rfl⟩
                have w43g := zrg64 w43v
                refine zs_lsub (pc := 25) t140_25 (c := w43v) w43 ?_
                refine zs_lret (pc := 26) t140_26 mr140 ?_
                show zGo X l 1 0 0 139 15 [(0, .ref (181 + 3 * w7n))] [.long w43v] w1M _
                obtain ⟨w44v, w44⟩ : ∃ v, w43v.toInt32 = v := ⟨_, rfl⟩
                have w44g := zrg w44v
                refine zs_l2i (pc := 15) t139_15 (c := w44v) w44 ?_
                refine zs_iret (pc := 16) t139_16 mr139 rfl ?_
                show zGo X l 6 0 0 169 105 [(3, .ref (181 + 3 * w7n)), (0, .ref 6), (1, .int a), (2, .int b)] [.int w44v] w1M _
                exact zs_iret (pc := 105) t169_105 mr169 rfl (hQ _ _ w1s w1I ((zFr.refl).trans (w1F.mono rfl)) (zrg _).1 (zrg _).2)
              by_cases w45 : w41v.toInt = (zJ w1M (181 + 3 * w7n) 9).toInt
              · refine zs_lcmp (pc := 18) t140_18 (c := 0) (zlcE rfl rfl (by omega)) ?_
                refine zs_if_eqT (pc := 19) t140_19 li0 (by decide) ?_
                refine zs_lload (pc := 27) t140_27 rfl ?_
                refine zs_lret (pc := 29) t140_29 mr140 ?_
                show zGo X l 1 0 0 139 15 [(0, .ref (181 + 3 * w7n))] [.long w38v] w1M _
                obtain ⟨w46v, w46⟩ : ∃ v, w38v.toInt32 = v := ⟨_, rfl⟩
                have w46g := zrg w46v
                refine zs_l2i (pc := 15) t139_15 (c := w46v) w46 ?_
                refine zs_iret (pc := 16) t139_16 mr139 rfl ?_
                show zGo X l 6 0 0 169 105 [(3, .ref (181 + 3 * w7n)), (0, .ref 6), (1, .int a), (2, .int b)] [.int w46v] w1M _
                exact zs_iret (pc := 105) t169_105 mr169 rfl (hQ _ _ w1s w1I ((zFr.refl).trans (w1F.mono rfl)) (zrg _).1 (zrg _).2)
              refine zs_lcmp (pc := 18) t140_18 (c := 1) (zlcG rfl rfl (by omega)) ?_
              refine zs_if_eqF (pc := 19) t140_19 li1 (by decide) ?_
              refine zs_lload (pc := 22) t140_22 rfl ?_
              refine zs_lconst (pc := 24) t140_24 (v := 1) (by decide) ?_
              obtain ⟨w48v, w48⟩ : ∃ v, w38v - (1 : Int64) = v := ⟨_, rfl⟩
              have w48g := zrg64 w48v
              refine zs_lsub (pc := 25) t140_25 (c := w48v) w48 ?_
              refine zs_lret (pc := 26) t140_26 mr140 ?_
              show zGo X l 1 0 0 139 15 [(0, .ref (181 + 3 * w7n))] [.long w48v] w1M _
              obtain ⟨w49v, w49⟩ : ∃ v, w48v.toInt32 = v := ⟨_, rfl⟩
              have w49g := zrg w49v
              refine zs_l2i (pc := 15) t139_15 (c := w49v) w49 ?_
              refine zs_iret (pc := 16) t139_16 mr139 rfl ?_
              show zGo X l 6 0 0 169 105 [(3, .ref (181 + 3 * w7n)), (0, .ref 6), (1, .int a), (2, .int b)] [.int w49v] w1M _
              exact zs_iret (pc := 105) t169_105 mr169 rfl (hQ _ _ w1s w1I ((zFr.refl).trans (w1F.mono rfl)) (zrg _).1 (zrg _).2)
            by_cases w50 : w39v.toInt = 0
            · refine zs_lcmp (pc := 9) t140_9 (c := 0) (zlcE rfl ll0 (by omega)) ?_
              refine zs_if_geT (pc := 10) t140_10 li0 (by decide) ?_
              refine zs_lload (pc := 27) t140_27 rfl ?_
              refine zs_lret (pc := 29) t140_29 mr140 ?_
              show zGo X l 1 0 0 139 15 [(0, .ref (181 + 3 * w7n))] [.long w38v] w1M _
              obtain ⟨w51v, w51⟩ : ∃ v, w38v.toInt32 = v := ⟨_, rfl⟩
              have w51g := zrg w51v
              refine zs_l2i (pc := 15) t139_15 (c := w51v) w51 ?_
              refine zs_iret (pc := 16) t139_16 mr139 rfl ?_
              show zGo X l 6 0 0 169 105 [(3, .ref (181 + 3 * w7n)), (0, .ref 6), (1, .int a), (2, .int b)] [.int w51v] w1M _
              exact zs_iret (pc := 105) t169_105 mr169 rfl (hQ _ _ w1s w1I ((zFr.refl).trans (w1F.mono rfl)) (zrg _).1 (zrg _).2)
            refine zs_lcmp (pc := 9) t140_9 (c := 1) (zlcG rfl ll0 (by omega)) ?_
            refine zs_if_geT (pc := 10) t140_10 li1 (by decide) ?_
            refine zs_lload (pc := 27) t140_27 rfl ?_
            refine zs_lret (pc := 29) t140_29 mr140 ?_
            show zGo X l 1 0 0 139 15 [(0, .ref (181 + 3 * w7n))] [.long w38v] w1M _
            obtain ⟨w53v, w53⟩ : ∃ v, w38v.toInt32 = v := ⟨_, rfl⟩
            have w53g := zrg w53v
            refine zs_l2i (pc := 15) t139_15 (c := w53v) w53 ?_
            refine zs_iret (pc := 16) t139_16 mr139 rfl ?_
            show zGo X l 6 0 0 169 105 [(3, .ref (181 + 3 * w7n)), (0, .ref 6), (1, .int a), (2, .int b)] [.int w53v] w1M _
            exact zs_iret (pc := 105) t169_105 mr169 rfl (hQ _ _ w1s w1I ((zFr.refl).trans (w1F.mono rfl)) (zrg _).1 (zrg _).2)
          refine zs_lcmp (pc := 2) t134_2 (c := 1) (zlcG ll1 rfl (by omega)) ?_
          refine zs_if_ltF (pc := 3) t134_3 li1 (by decide) ?_
          refine zs_lload_n (pc := 6) t134_6 rfl ?_
          refine zs_goto (pc := 7) t134_7 ?_
          refine zs_lret (pc := 11) t134_11 mr134 ?_
          show zGo X l 1 0 0 139 12 [(0, .ref (181 + 3 * w7n))] [.long (1 : Int64), .long (zJ w1M (181 + 3 * w7n) 9)] w1M _
          refine zs_invS (pc := 12) (as := [.long (zJ w1M (181 + 3 * w7n) 9), .long (1 : Int64)]) (st := []) t139_12 (by decide) mf140 rfl rfl ⟨by decide, by decide, Nat.le_of_ble_eq_true rfl, Nat.le_of_ble_eq_true rfl⟩ (zs_in (by decide) mf140 (Nat.le_of_ble_eq_true rfl) ?_) (fun _ _ q => q)
          show zGo X l 0 0 0 140 0 [(0, .long (zJ w1M (181 + 3 * w7n) 9)), (2, .long (1 : Int64))] [] w1M _
          refine zs_lload_n (pc := 0) t140_0 rfl ?_
          refine zs_lload_n (pc := 1) t140_1 rfl ?_
          obtain ⟨w55v, w55⟩ : ∃ v, (zJ w1M (181 + 3 * w7n) 9) / (1 : Int64) = v := ⟨_, rfl⟩
          have w55g := zrg64 w55v
          refine zs_ldiv (pc := 2) t140_2 (by decide) (c := w55v) w55 ?_
          refine zs_lstore (pc := 3) t140_3 (ls' := [(4, .long w55v), (0, .long (zJ w1M (181 + 3 * w7n) 9)), (2, .long (1 : Int64))]) (zml mf140 (by decide)) rfl ?_
          refine zs_lload_n (pc := 5) t140_5 rfl ?_
          refine zs_lload_n (pc := 6) t140_6 rfl ?_
          obtain ⟨w56v, w56⟩ : ∃ v, (zJ w1M (181 + 3 * w7n) 9) ^^^ (1 : Int64) = v := ⟨_, rfl⟩
          have w56g := zrg64 w56v
          refine zs_lxor (pc := 7) t140_7 (c := w56v) w56 ?_
          refine zs_lconst (pc := 8) t140_8 (v := 0) (by decide) ?_
          by_cases w57 : w56v.toInt < 0
          · refine zs_lcmp (pc := 9) t140_9 (c := -1) (zlcL rfl ll0 (by omega)) ?_
            refine zs_if_geF (pc := 10) t140_10 lin1 (by decide) ?_
            refine zs_lload (pc := 13) t140_13 rfl ?_
            refine zs_lload_n (pc := 15) t140_15 rfl ?_
            obtain ⟨w58v, w58⟩ : ∃ v, w55v * (1 : Int64) = v := ⟨_, rfl⟩
            have w58g := zrg64 w58v
            refine zs_lmul (pc := 16) t140_16 (c := w58v) w58 ?_
            refine zs_lload_n (pc := 17) t140_17 rfl ?_
            by_cases w59 : w58v.toInt < (zJ w1M (181 + 3 * w7n) 9).toInt
            · refine zs_lcmp (pc := 18) t140_18 (c := -1) (zlcL rfl rfl (by omega)) ?_
              refine zs_if_eqF (pc := 19) t140_19 lin1 (by decide) ?_
              refine zs_lload (pc := 22) t140_22 rfl ?_
              refine zs_lconst (pc := 24) t140_24 (v := 1) (by decide) ?_
              obtain ⟨w60v, w60⟩ : ∃ v, w55v - (1 : Int64) = v := ⟨_, rfl⟩
              have w60g := zrg64 w60v
              refine zs_lsub (pc := 25) t140_25 (c := w60v) w60 ?_
              refine zs_lret (pc := 26) t140_26 mr140 ?_
              show zGo X l 1 0 0 139 15 [(0, .ref (181 + 3 * w7n))] [.long w60v] w1M _
              obtain ⟨w61v, w61⟩ : ∃ v, w60v.toInt32 = v := ⟨_, rfl⟩
              have w61g := zrg w61v
              refine zs_l2i (pc := 15) t139_15 (c := w61v) w61 ?_
              refine zs_iret (pc := 16) t139_16 mr139 rfl ?_
              show zGo X l 6 0 0 169 105 [(3, .ref (181 + 3 * w7n)), (0, .ref 6), (1, .int a), (2, .int b)] [.int w61v] w1M _
              exact zs_iret (pc := 105) t169_105 mr169 rfl (hQ _ _ w1s w1I ((zFr.refl).trans (w1F.mono rfl)) (zrg _).1 (zrg _).2)
            by_cases w62 : w58v.toInt = (zJ w1M (181 + 3 * w7n) 9).toInt
            · refine zs_lcmp (pc := 18) t140_18 (c := 0) (zlcE rfl rfl (by omega)) ?_
              refine zs_if_eqT (pc := 19) t140_19 li0 (by decide) ?_
              refine zs_lload (pc := 27) t140_27 rfl ?_
              refine zs_lret (pc := 29) t140_29 mr140 ?_
              show zGo X l 1 0 0 139 15 [(0, .ref (181 + 3 * w7n))] [.long w55v] w1M _
              obtain ⟨w63v, w63⟩ : ∃ v, w55v.toInt32 = v := ⟨_, rfl⟩
              have w63g := zrg w63v
              refine zs_l2i (pc := 15) t139_15 (c := w63v) w63 ?_
              refine zs_iret (pc := 16) t139_16 mr139 rfl ?_
              show zGo X l 6 0 0 169 105 [(3, .ref (181 + 3 * w7n)), (0, .ref 6), (1, .int a), (2, .int b)] [.int w63v] w1M _
              exact zs_iret (pc := 105) t169_105 mr169 rfl (hQ _ _ w1s w1I ((zFr.refl).trans (w1F.mono rfl)) (zrg _).1 (zrg _).2)
            refine zs_lcmp (pc := 18) t140_18 (c := 1) (zlcG rfl rfl (by omega)) ?_
            refine zs_if_eqF (pc := 19) t140_19 li1 (by decide) ?_
            refine zs_lload (pc := 22) t140_22 rfl ?_
            refine zs_lconst (pc := 24) t140_24 (v := 1) (by decide) ?_
            obtain ⟨w65v, w65⟩ : ∃ v, w55v - (1 : Int64) = v := ⟨_, rfl⟩
            have w65g := zrg64 w65v
            refine zs_lsub (pc := 25) t140_25 (c := w65v) w65 ?_
            refine zs_lret (pc := 26) t140_26 mr140 ?_
            show zGo X l 1 0 0 139 15 [(0, .ref (181 + 3 * w7n))] [.long w65v] w1M _
            obtain ⟨w66v, w66⟩ : ∃ v, w65v.toInt32 = v := ⟨_, rfl⟩
            have w66g := zrg w66v
            refine zs_l2i (pc := 15) t139_15 (c := w66v) w66 ?_
            refine zs_iret (pc := 16) t139_16 mr139 rfl ?_
            show zGo X l 6 0 0 169 105 [(3, .ref (181 + 3 * w7n)), (0, .ref 6), (1, .int a), (2, .int b)] [.int w66v] w1M _
            exact zs_iret (pc := 105) t169_105 mr169 rfl (hQ _ _ w1s w1I ((zFr.refl).trans (w1F.mono rfl)) (zrg _).1 (zrg _).2)
          by_cases w67 : w56v.toInt = 0
          · refine zs_lcmp (pc := 9) t140_9 (c := 0) (zlcE rfl ll0 (by omega)) ?_
            refine zs_if_geT (pc := 10) t140_10 li0 (by decide) ?_
            refine zs_lload (pc := 27) t140_27 rfl ?_
            refine zs_lret (pc := 29) t140_29 mr140 ?_
            show zGo X l 1 0 0 139 15 [(0, .ref (181 + 3 * w7n))] [.long w55v] w1M _
            obtain ⟨w68v, w68⟩ : ∃ v, w55v.toInt32 = v := ⟨_, rfl⟩
            have w68g := zrg w68v
            refine zs_l2i (pc := 15) t139_15 (c := w68v) w68 ?_
            refine zs_iret (pc := 16) t139_16 mr139 rfl ?_
            show zGo X l 6 0 0 169 105 [(3, .ref (181 + 3 * w7n)), (0, .ref 6), (1, .int a), (2, .int b)] [.int w68v] w1M _
            exact zs_iret (pc := 105) t169_105 mr169 rfl (hQ _ _ w1s w1I ((zFr.refl).trans (w1F.mono rfl)) (zrg _).1 (zrg _).2)
          refine zs_lcmp (pc := 9) t140_9 (c := 1) (zlcG rfl ll0 (by omega)) ?_
          refine zs_if_geT (pc := 10) t140_10 li1 (by decide) ?_
          refine zs_lload (pc := 27) t140_27 rfl ?_
          refine zs_lret (pc := 29) t140_29 mr140 ?_
          show zGo X l 1 0 0 139 15 [(0, .ref (181 + 3 * w7n))] [.long w55v] w1M _
          obtain ⟨w70v, w70⟩ : ∃ v, w55v.toInt32 = v := ⟨_, rfl⟩
          have w70g := zrg w70v
          refine zs_l2i (pc := 15) t139_15 (c := w70v) w70 ?_
          refine zs_iret (pc := 16) t139_16 mr139 rfl ?_
          show zGo X l 6 0 0 169 105 [(3, .ref (181 + 3 * w7n)), (0, .ref 6), (1, .int a), (2, .int b)] [.int w70v] w1M _
          exact zs_iret (pc := 105) t169_105 mr169 rfl (hQ _ _ w1s w1I ((zFr.refl).trans (w1F.mono rfl)) (zrg _).1 (zrg _).2)
        by_cases w71 : b.toInt = 6
        · refine zs_tswI (pc := 24) t169_24 ((rfl : b.toInt = b.toInt).trans w71) (by decide) rfl (pc2 := 106) rfl ?_
          refine zs_aload_n (pc := 106) t169_106 rfl ?_
          have w72 := ibT181_0_5 w1I w8
          refine zs_get (pc := 107) t169_107 (by decide) (zk1 (w1s.k (fT181_0 w7n w8))) (zfvi rfl rfl) ?_
          exact zs_iret (pc := 110) t169_110 mr169 rfl (hQ _ _ w1s w1I ((zFr.refl).trans (w1F.mono rfl)) (zrg _).1 (zrg _).2)
        by_cases w73 : b.toInt = 7
        · refine zs_tswI (pc := 24) t169_24 ((rfl : b.toInt = b.toInt).trans w73) (by decide) rfl (pc2 := 111) rfl ?_
          refine zs_aload_n (pc := 111) t169_111 rfl ?_
          refine zs_get (pc := 112) t169_112 (by decide) (zk1 (w1s.k fk_zMc_6)) (w1s.p rfl fv_zMc_6_6) ?_
          refine zs_iload_n (pc := 115) t169_115 rfl ?_
          refine zs_invV (pc := 116) (k := 164) (as' := [.int a]) (st := []) t169_116 mf170 rfl rfl (Or.inl ⟨by decide, (zk1 (w1s.k fk_zMc_164))⟩) ⟨by decide, by decide, Nat.le_of_ble_eq_true rfl, Nat.le_of_ble_eq_true rfl⟩ (zs_in (by decide) mf170 (Nat.le_of_ble_eq_true rfl) ?_) (fun _ _ q => q)
          show zGo X l 3 0 0 170 0 [(0, .ref 164), (1, .int a)] [] w1M _
          refine zs_aload_n (pc := 0) t170_0 rfl ?_
          refine zs_aload_n (pc := 1) t170_1 rfl ?_
          refine zs_iload_n (pc := 2) t170_2 rfl ?_
          refine zs_invV (pc := 3) (k := 164) (as' := [.int a]) (st := [.ref 164]) t170_3 mf171 rfl rfl (Or.inl ⟨by decide, (zk1 (w1s.k fk_zMc_164))⟩) ⟨by decide, by decide, Nat.le_of_ble_eq_true rfl, Nat.le_of_ble_eq_true rfl⟩ (C171_164 w1s w1I ?_) (fun _ _ q => q)
          intro w74v w74a w74b
          show zGo X l 3 0 0 170 6 [(0, .ref 164), (1, .int a)] [.int w74v, .ref 164] w1M _
          refine zs_iload_n (pc := 6) t170_6 rfl ?_
          refine zs_invV (pc := 7) (k := 164) (as' := [.int w74v, .int a]) (st := []) t170_7 mf146 rfl rfl (Or.inl ⟨by decide, (zk1 (w1s.k fk_zMc_164))⟩) ⟨by decide, by decide, Nat.le_of_ble_eq_true rfl, Nat.le_of_ble_eq_true rfl⟩ (C146_164 w1s w1I ?_) (fun _ _ q => q)
          intro w75v w75a w75b
          show zGo X l 3 0 0 170 10 [(0, .ref 164), (1, .int a)] [.int w75v] w1M _
          refine zs_iret (pc := 10) t170_10 mr170 rfl ?_
          show zGo X l 6 0 0 169 119 [(3, .ref (181 + 3 * w7n)), (0, .ref 6), (1, .int a), (2, .int b)] [.int w75v] w1M _
          exact zs_iret (pc := 119) t169_119 mr169 rfl (hQ _ _ w1s w1I ((zFr.refl).trans (w1F.mono rfl)) (zrg _).1 (zrg _).2)
        by_cases w76 : b.toInt = 8
        · refine zs_tswI (pc := 24) t169_24 ((rfl : b.toInt = b.toInt).trans w76) (by decide) rfl (pc2 := 120) rfl ?_
          refine zs_aload_n (pc := 120) t169_120 rfl ?_
          refine zs_get (pc := 121) t169_121 (by decide) (zk1 (w1s.k fk_zMc_6)) (w1s.p rfl fv_zMc_6_6) ?_
          refine zs_iload_n (pc := 124) t169_124 rfl ?_
          refine zs_invV (pc := 125) (k := 164) (as' := [.int a]) (st := []) t169_125 mf171 rfl rfl (Or.inl ⟨by decide, (zk1 (w1s.k fk_zMc_164))⟩) ⟨by decide, by decide, Nat.le_of_ble_eq_true rfl, Nat.le_of_ble_eq_true rfl⟩ (C171_164 w1s w1I ?_) (fun _ _ q => q)
          intro w77v w77a w77b
          show zGo X l 6 0 0 169 128 [(3, .ref (181 + 3 * w7n)), (0, .ref 6), (1, .int a), (2, .int b)] [.int w77v] w1M _
          exact zs_iret (pc := 128) t169_128 mr169 rfl (hQ _ _ w1s w1I ((zFr.refl).trans (w1F.mono rfl)) (zrg _).1 (zrg _).2)
        refine zs_tswD (pc := 24) t169_24 rfl (by omega) (pc2 := 129) rfl ?_
        refine zs_ldc (pc := 129) t169_129 (v := -100000) rfl (by decide) ?_
        exact zs_iret (pc := 131) t169_131 mr169 (by decide) (hQ _ _ w1s w1I ((zFr.refl).trans (w1F.mono rfl)) (zrg _).1 (zrg _).2)
