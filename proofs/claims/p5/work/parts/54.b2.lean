theorem X62_6 {X : zX} {l : Launch} {M : zM} {Q : Option Value → zM → Prop} (hs : zSk zMc M) (hI : zIv cLo cHi M) (hQ : ∀ (M' : zM) (v : Int32), zSk zMc M' → zIv cLo cHi M' → zFr [(6, 155, none), (157, 335, none)] M M' → ((zI M' 155 1).toInt = 0) → (zTg5 (zI M 156) (zI M 155 1).toInt v.toInt (zI M' 6 11).toInt) → Q (some (.int v)) M') : zCall X l 99 0 0 62 [.ref 6] M Q := by
  refine zs_inD (by decide) mf62 (Nat.le_of_ble_eq_true rfl) ?_
  show zGo X l 99 0 0 62 0 [(0, .ref 6)] [] M _
  refine zGo.zou6 (fun x6 => ?_)
  have w1 := ib155_1 hI
  have w2 : (zI M 155 1).toInt = (zI M 155 1).toInt := (congrArg Int32.toInt rfl).trans rfl
  refine zs_iconst (pc := 0) t62_0 (v := 0) (by decide) ?_
  refine zs_istore_n (pc := 1) t62_1 (ls' := [(1, .int (0 : Int32)), (0, .ref 6)]) (zml mf62 (by decide)) rfl ?_
  refine zs_aload_n (pc := 2) t62_2 rfl ?_
  refine zs_iconst (pc := 3) t62_3 (v := -1) (by decide) ?_
  have w3 : zIv cLo cHi (zsI M 6 11 (-1 : Int32)) := zIv.put hI (show (-2147483648) ≤ (-1 : Int32).toInt ∧ (-1 : Int32).toInt ≤ 2147483647 from zrg (-1 : Int32))
  refine zs_putI (pc := 4) t62_4 (zk1 (hs.k fk_zMc_6)) rfl ?_
  refine zs_aload_n (pc := 7) t62_7 rfl ?_
  refine zs_get (pc := 8) t62_8 (by decide) (zk1 (hs.k fk_zMc_6)) (hs.p rfl fv_zMc_6_3) ?_
  refine zs_invV (pc := 11) (k := 155) (as' := []) (st := []) t62_11 mf17 rfl rfl (Or.inl ⟨by decide, (zk1 (hs.k fk_zMc_155))⟩) ⟨by decide, by decide, Nat.le_of_ble_eq_true rfl, Nat.le_of_ble_eq_true rfl⟩ (zs_in (by decide) mf17 (Nat.le_of_ble_eq_true rfl) ?_) (fun _ _ q => q)
  show zGo X l 0 0 0 17 0 [(0, .ref 155)] [] (zsI M 6 11 (-1 : Int32)) _
  refine zs_aload_n (pc := 0) t17_0 rfl ?_
  refine zs_get (pc := 1) t17_1 (by decide) (zk1 (hs.k fk_zMc_155)) (zfvi rfl ((zIo (by decide)).trans rfl)) ?_
  refine zs_iret (pc := 4) t17_4 mr17 rfl ?_
  show zGo X l 99 0 0 62 14 [(1, .int (0 : Int32)), (0, .ref 6)] [.int (zI M 155 1)] (zsI M 6 11 (-1 : Int32)) _
  by_cases w4 : (zI M 155 1).toInt ≤ 0
  · refine zs_if_leT (pc := 14) t62_14 rfl (by omega) ?_
    refine zs_aload_n (pc := 58) t62_58 rfl ?_
    refine zs_get (pc := 59) t62_59 (by decide) (zk1 (hs.k fk_zMc_6)) (zfvi rfl zIs) ?_
    refine zs_iconst (pc := 62) t62_62 (v := -1) (by decide) ?_
    refine zs_icmp_neF (pc := 63) t62_63 lin1 lin1 (by decide) ?_
    refine zs_aload_n (pc := 66) t62_66 rfl ?_
    refine zs_get (pc := 67) t62_67 (by decide) (zk1 (hs.k fk_zMc_6)) (hs.p rfl fv_zMc_6_2) ?_
    refine zs_aload_n (pc := 70) t62_70 rfl ?_
    refine zs_get (pc := 71) t62_71 (by decide) (zk1 (hs.k fk_zMc_6)) (hs.p rfl fv_zMc_6_0) ?_
    refine zs_invV (pc := 74) (k := 31) (as' := [.ref 7]) (st := []) t62_74 mf58 rfl rfl (Or.inl ⟨by decide, (zk1 (hs.k fk_zMc_31))⟩) ⟨by decide, by decide, Nat.le_of_ble_eq_true rfl, Nat.le_of_ble_eq_true rfl⟩ (C58_31_7 hs w3 ?_) (fun _ _ q => q)
    intro w5M w5s w5I w5F
    show zGo X l 99 0 0 62 77 [(1, .int (0 : Int32)), (0, .ref 6)] [] w5M _
    refine zs_aload_n (pc := 77) t62_77 rfl ?_
    refine zs_get (pc := 78) t62_78 (by decide) (zk1 (w5s.k fk_zMc_6)) (w5s.p rfl fv_zMc_6_0) ?_
    refine zs_aload_n (pc := 81) t62_81 rfl ?_
    refine zs_get (pc := 82) t62_82 (by decide) (zk1 (w5s.k fk_zMc_6)) (w5s.p rfl fv_zMc_6_3) ?_
    refine zs_invV (pc := 85) (k := 155) (as' := []) (st := [.ref 7]) t62_85 mf63 rfl rfl (Or.inl ⟨by decide, (zk1 (w5s.k fk_zMc_155))⟩) ⟨by decide, by decide, Nat.le_of_ble_eq_true rfl, Nat.le_of_ble_eq_true rfl⟩ (zs_in (by decide) mf63 (Nat.le_of_ble_eq_true rfl) ?_) (fun _ _ q => q)
    show zGo X l 0 0 0 63 0 [(0, .ref 155)] [] w5M _
    refine zs_aload_n (pc := 0) t63_0 rfl ?_
    refine zs_get (pc := 1) t63_1 (by decide) (zk1 (w5s.k fk_zMc_155)) (w5s.p rfl fv_zMc_155_0) ?_
    refine zs_aret (pc := 4) t63_4 (by rw [mr63]; rfl) ?_
    show zGo X l 99 0 0 62 88 [(1, .int (0 : Int32)), (0, .ref 6)] [.ref 156, .ref 7] w5M _
    refine zs_aload_n (pc := 88) t62_88 rfl ?_
    refine zs_get (pc := 89) t62_89 (by decide) (zk1 (w5s.k fk_zMc_6)) (w5s.p rfl fv_zMc_6_3) ?_
    refine zs_invV (pc := 92) (k := 155) (as' := []) (st := [.ref 156, .ref 7]) t62_92 mf17 rfl rfl (Or.inl ⟨by decide, (zk1 (w5s.k fk_zMc_155))⟩) ⟨by decide, by decide, Nat.le_of_ble_eq_true rfl, Nat.le_of_ble_eq_true rfl⟩ (zs_in (by decide) mf17 (Nat.le_of_ble_eq_true rfl) ?_) (fun _ _ q => q)
    show zGo X l 0 0 0 17 0 [(0, .ref 155)] [] w5M _
    refine zs_aload_n (pc := 0) t17_0 rfl ?_
    refine zs_get (pc := 1) t17_1 (by decide) (zk1 (w5s.k fk_zMc_155)) (zfvi rfl ((w5F 155 1 rfl).trans ((zIo (by decide)).trans rfl))) ?_
    refine zs_iret (pc := 4) t17_4 mr17 rfl ?_
    show zGo X l 99 0 0 62 95 [(1, .int (0 : Int32)), (0, .ref 6)] [.int (zI M 155 1), .ref 156, .ref 7] w5M _
    refine zs_invV (pc := 95) (k := 7) (as' := [.ref 156, .int (zI M 155 1)]) (st := []) t62_95 mf24 rfl rfl (Or.inl ⟨by decide, (zk1 (w5s.k fk_zMc_7))⟩) ⟨by decide, by decide, Nat.le_of_ble_eq_true rfl, Nat.le_of_ble_eq_true rfl⟩ (zs_in (by decide) mf24 (Nat.le_of_ble_eq_true rfl) ?_) (fun _ _ q => q)
    show zGo X l 1 0 0 24 0 [(0, .ref 7), (1, .ref 156), (2, .int (zI M 155 1))] [] w5M _
    refine zs_aload_n (pc := 0) t24_0 rfl ?_
    refine zs_iconst (pc := 1) t24_1 (v := 0) (by decide) ?_
    refine zs_iload_n (pc := 2) t24_2 rfl ?_
    refine zs_sipush (pc := 3) t24_3 (v := 500) (by decide) ?_
    refine zs_invS (pc := 6) (as := [.int (zI M 155 1), .int (500 : Int32)]) (st := [.int (0 : Int32), .ref 7]) t24_6 (by decide) mf20 rfl rfl ⟨by decide, by decide, Nat.le_of_ble_eq_true rfl, Nat.le_of_ble_eq_true rfl⟩ (zs_in (by decide) mf20 (Nat.le_of_ble_eq_true rfl) ?_) (fun _ _ q => q)
    show zGo X l 0 0 0 20 0 [(0, .int (zI M 155 1)), (1, .int (500 : Int32))] [] w5M _
    refine zs_iload_n (pc := 0) t20_0 rfl ?_
    refine zs_iload_n (pc := 1) t20_1 rfl ?_
    refine zs_icmp_gtF (pc := 2) t20_2 rfl li500 (by omega) ?_
    refine zs_iload_n (pc := 5) t20_5 rfl ?_
    refine zs_goto (pc := 6) t20_6 ?_
    refine zs_iret (pc := 10) t20_10 mr20 rfl ?_
    show zGo X l 1 0 0 24 9 [(0, .ref 7), (1, .ref 156), (2, .int (zI M 155 1))] [.int (zI M 155 1), .int (0 : Int32), .ref 7] w5M _
    refine zs_invS (pc := 9) (as := [.int (0 : Int32), .int (zI M 155 1)]) (st := [.ref 7]) t24_9 (by decide) mf21 rfl rfl ⟨by decide, by decide, Nat.le_of_ble_eq_true rfl, Nat.le_of_ble_eq_true rfl⟩ (zs_in (by decide) mf21 (Nat.le_of_ble_eq_true rfl) ?_) (fun _ _ q => q)
    show zGo X l 0 0 0 21 0 [(0, .int (0 : Int32)), (1, .int (zI M 155 1))] [] w5M _
    refine zs_iload_n (pc := 0) t21_0 rfl ?_
    refine zs_iload_n (pc := 1) t21_1 rfl ?_
    refine zs_icmp_ltF (pc := 2) t21_2 li0 rfl (by omega) ?_
    refine zs_iload_n (pc := 5) t21_5 rfl ?_
    refine zs_goto (pc := 6) t21_6 ?_
    refine zs_iret (pc := 10) t21_10 mr21 (by decide) ?_
    show zGo X l 1 0 0 24 12 [(0, .ref 7), (1, .ref 156), (2, .int (zI M 155 1))] [.int (0 : Int32), .ref 7] w5M _
    have w6 : zIv cLo cHi (zsI w5M 7 13 (0 : Int32)) := zIv.put w5I (show 0 ≤ (0 : Int32).toInt ∧ (0 : Int32).toInt ≤ 500 from ⟨by decide, by decide⟩)
    refine zs_putI (pc := 12) t24_12 (zk1 (w5s.k fk_zMc_7)) rfl ?_
    refine zs_aload_n (pc := 15) t24_15 rfl ?_
    refine zs_iconst (pc := 16) t24_16 (v := 0) (by decide) ?_
    refine zs_aload_n (pc := 17) t24_17 rfl ?_
    refine zs_get (pc := 18) t24_18 (by decide) (zk1 (w5s.k fk_zMc_7)) (w5s.p rfl fv_zMc_7_14) ?_
    refine zs_iconst (pc := 21) t24_21 (v := 0) (by decide) ?_
    refine zs_aload_n (pc := 22) t24_22 rfl ?_
    refine zs_get (pc := 23) t24_23 (by decide) (zk1 (w5s.k fk_zMc_7)) (zfvi rfl zIs) ?_
    have w7 : (0 : Int32).toInt = 0 := li0
    have w8 : (0 : Int32).toInt = 0 := li0
    have w9 : (0 : Int32).toInt = 0 := li0
    refine zs_copy (pc := 26) t24_26 (w5s.k fk_zMc_156) (w5s.k fk_zMc_18) (by decide) (by decide) (by decide) ⟨by omega, by omega, by omega⟩ (by omega) (by omega) ⟨Nat.le_of_ble_eq_true rfl, by decide⟩ ?_
    obtain ⟨w10M, w10e⟩ : ∃ N, N = zsR (zsI w5M 7 13 (0 : Int32)) 18 (va_cpy (zI (zsI w5M 7 13 (0 : Int32)) 156) (zI (zsI w5M 7 13 (0 : Int32)) 18) (0 : Int32).toNatClampNeg (0 : Int32).toNatClampNeg (0 : Int32).toNatClampNeg) := ⟨_, rfl⟩
    have w10s : zSk zMc w10M := by rw [w10e]; exact w5s
    have w10I : zIv cLo cHi w10M := by rw [w10e]; exact zIv.row w6 (fun _ => zcpyB (fun j => ib156 w6 j) (fun j => ib18 w6 j))
    have w10F : zFr [(18, 18, none)] (zsI w5M 7 13 (0 : Int32)) w10M := by rw [w10e]; exact zFr.row zFr.refl (fun _ => rfl)
    have w10C : ∀ j : Nat, (j : Int) < (0 : Int32).toInt → zI w10M 18 j = zI (zsI w5M 7 13 (0 : Int32)) 156 j := fun j hj => by rw [w10e]; exact (congrFun zRs j).trans (zcpy0 (by omega) (by omega) hj)
    rw [← w10e]
    refine zs_vret (pc := 29) t24_29 mr24 ?_
    show zGo X l 99 0 0 62 98 [(1, .int (0 : Int32)), (0, .ref 6)] [] w10M _
    refine zs_aload_n (pc := 98) t62_98 rfl ?_
    refine zs_get (pc := 99) t62_99 (by decide) (zk1 (w10s.k fk_zMc_6)) (w10s.p rfl fv_zMc_6_3) ?_
    refine zs_iconst (pc := 102) t62_102 (v := 0) (by decide) ?_
    refine zs_invV (pc := 103) (k := 155) (as' := [.int (0 : Int32)]) (st := []) t62_103 mf19 rfl rfl (Or.inl ⟨by decide, (zk1 (w10s.k fk_zMc_155))⟩) ⟨by decide, by decide, Nat.le_of_ble_eq_true rfl, Nat.le_of_ble_eq_true rfl⟩ (zs_in (by decide) mf19 (Nat.le_of_ble_eq_true rfl) ?_) (fun _ _ q => q)
    show zGo X l 1 0 0 19 0 [(0, .ref 155), (1, .int (0 : Int32))] [] w10M _
    refine zs_aload_n (pc := 0) t19_0 rfl ?_
    refine zs_iconst (pc := 1) t19_1 (v := 0) (by decide) ?_
    refine zs_iload_n (pc := 2) t19_2 rfl ?_
    refine zs_aload_n (pc := 3) t19_3 rfl ?_
    refine zs_get (pc := 4) t19_4 (by decide) (zk1 (w10s.k fk_zMc_155)) (zfvi rfl ((w10F 155 1 rfl).trans ((zIo (by decide)).trans ((w5F 155 1 rfl).trans ((zIo (by decide)).trans rfl))))) ?_
    refine zs_invS (pc := 7) (as := [.int (0 : Int32), .int (zI M 155 1)]) (st := [.int (0 : Int32), .ref 155]) t19_7 (by decide) mf20 rfl rfl ⟨by decide, by decide, Nat.le_of_ble_eq_true rfl, Nat.le_of_ble_eq_true rfl⟩ (zs_in (by decide) mf20 (Nat.le_of_ble_eq_true rfl) ?_) (fun _ _ q => q)
    show zGo X l 0 0 0 20 0 [(0, .int (0 : Int32)), (1, .int (zI M 155 1))] [] w10M _
    refine zs_iload_n (pc := 0) t20_0 rfl ?_
    refine zs_iload_n (pc := 1) t20_1 rfl ?_
    refine zs_icmp_gtF (pc := 2) t20_2 li0 rfl (by omega) ?_
    refine zs_iload_n (pc := 5) t20_5 rfl ?_
    refine zs_goto (pc := 6) t20_6 ?_
    refine zs_iret (pc := 10) t20_10 mr20 (by decide) ?_
    show zGo X l 1 0 0 19 10 [(0, .ref 155), (1, .int (0 : Int32))] [.int (0 : Int32), .int (0 : Int32), .ref 155] w10M _
    refine zs_invS (pc := 10) (as := [.int (0 : Int32), .int (0 : Int32)]) (st := [.ref 155]) t19_10 (by decide) mf21 rfl rfl ⟨by decide, by decide, Nat.le_of_ble_eq_true rfl, Nat.le_of_ble_eq_true rfl⟩ (zs_in (by decide) mf21 (Nat.le_of_ble_eq_true rfl) ?_) (fun _ _ q => q)
    show zGo X l 0 0 0 21 0 [(0, .int (0 : Int32)), (1, .int (0 : Int32))] [] w10M _
    refine zs_iload_n (pc := 0) t21_0 rfl ?_
    refine zs_iload_n (pc := 1) t21_1 rfl ?_
    refine zs_icmp_ltF (pc := 2) t21_2 li0 li0 (by decide) ?_
    refine zs_iload_n (pc := 5) t21_5 rfl ?_
    refine zs_goto (pc := 6) t21_6 ?_
    refine zs_iret (pc := 10) t21_10 mr21 (by decide) ?_
    show zGo X l 1 0 0 19 13 [(0, .ref 155), (1, .int (0 : Int32))] [.int (0 : Int32), .ref 155] w10M _
    have w11 : zIv cLo cHi (zsI w10M 155 1 (0 : Int32)) := zIv.put w10I (show 0 ≤ (0 : Int32).toInt ∧ (0 : Int32).toInt ≤ 500 from ⟨by decide, by decide⟩)
    refine zs_putI (pc := 13) t19_13 (zk1 (w10s.k fk_zMc_155)) rfl ?_
    refine zs_vret (pc := 16) t19_16 mr19 ?_
    show zGo X l 99 0 0 62 106 [(1, .int (0 : Int32)), (0, .ref 6)] [] (zsI w10M 155 1 (0 : Int32)) _
    refine zs_aload_n (pc := 106) t62_106 rfl ?_
    refine zs_get (pc := 107) t62_107 (by decide) (zk1 (w10s.k fk_zMc_6)) (zfvi rfl ((zIo (by decide)).trans ((w10F 6 11 rfl).trans ((zIo (by decide)).trans ((w5F 6 11 rfl).trans zIs))))) ?_
    refine zs_iconst (pc := 110) t62_110 (v := -1) (by decide) ?_
    refine zs_icmp_neF (pc := 111) t62_111 lin1 lin1 (by decide) ?_
    refine zs_iload_n (pc := 114) t62_114 rfl ?_
    refine zs_goto (pc := 115) t62_115 ?_
    have w12 : (zI (zsI w10M 155 1 (0 : Int32)) 155 1).toInt = 0 := (congrArg Int32.toInt zIs).trans li0
    have w13 := li0
    have w14 : (0 : Int32).toInt = 0 := li0
    have w15 : (zI (zsI w10M 155 1 (0 : Int32)) 6 11).toInt = (-1) := (congrArg Int32.toInt ((zIo (by decide)).trans ((w10F 6 11 rfl).trans ((zIo (by decide)).trans ((w5F 6 11 rfl).trans zIs))))).trans lin1
    exact zs_iret (pc := 119) t62_119 mr62 (by decide) (hQ _ _ w10s w11 ((((((zFr.refl).put rfl).trans (w5F.mono rfl)).put rfl).trans (w10F.mono rfl)).put rfl) (by omega) (Or.inl ⟨by omega, by omega, by omega⟩))
  · refine zs_if_leF (pc := 14) t62_14 rfl (by omega) ?_
    refine zs_aload_n (pc := 17) t62_17 rfl ?_
    refine zs_get (pc := 18) t62_18 (by decide) (zk1 (hs.k fk_zMc_6)) (hs.p rfl fv_zMc_6_5) ?_
    refine zs_aload_n (pc := 21) t62_21 rfl ?_
    refine zs_get (pc := 22) t62_22 (by decide) (zk1 (hs.k fk_zMc_6)) (hs.p rfl fv_zMc_6_3) ?_
    refine zs_invV (pc := 25) (k := 155) (as' := []) (st := [.ref 161]) t62_25 mf63 rfl rfl (Or.inl ⟨by decide, (zk1 (hs.k fk_zMc_155))⟩) ⟨by decide, by decide, Nat.le_of_ble_eq_true rfl, Nat.le_of_ble_eq_true rfl⟩ (zs_in (by decide) mf63 (Nat.le_of_ble_eq_true rfl) ?_) (fun _ _ q => q)
    show zGo X l 0 0 0 63 0 [(0, .ref 155)] [] (zsI M 6 11 (-1 : Int32)) _
    refine zs_aload_n (pc := 0) t63_0 rfl ?_
    refine zs_get (pc := 1) t63_1 (by decide) (zk1 (hs.k fk_zMc_155)) (hs.p rfl fv_zMc_155_0) ?_
    refine zs_aret (pc := 4) t63_4 (by rw [mr63]; rfl) ?_
    show zGo X l 99 0 0 62 28 [(1, .int (0 : Int32)), (0, .ref 6)] [.ref 156, .ref 161] (zsI M 6 11 (-1 : Int32)) _
    refine zs_aload_n (pc := 28) t62_28 rfl ?_
    refine zs_get (pc := 29) t62_29 (by decide) (zk1 (hs.k fk_zMc_6)) (hs.p rfl fv_zMc_6_3) ?_
    refine zs_invV (pc := 32) (k := 155) (as' := []) (st := [.ref 156, .ref 161]) t62_32 mf17 rfl rfl (Or.inl ⟨by decide, (zk1 (hs.k fk_zMc_155))⟩) ⟨by decide, by decide, Nat.le_of_ble_eq_true rfl, Nat.le_of_ble_eq_true rfl⟩ (zs_in (by decide) mf17 (Nat.le_of_ble_eq_true rfl) ?_) (fun _ _ q => q)
    show zGo X l 0 0 0 17 0 [(0, .ref 155)] [] (zsI M 6 11 (-1 : Int32)) _
    refine zs_aload_n (pc := 0) t17_0 rfl ?_
    refine zs_get (pc := 1) t17_1 (by decide) (zk1 (hs.k fk_zMc_155)) (zfvi rfl ((zIo (by decide)).trans rfl)) ?_
    refine zs_iret (pc := 4) t17_4 mr17 rfl ?_
    show zGo X l 99 0 0 62 35 [(1, .int (0 : Int32)), (0, .ref 6)] [.int (zI M 155 1), .ref 156, .ref 161] (zsI M 6 11 (-1 : Int32)) _
    refine zs_invV9 (pc := 35) (k := 161) (as' := [.ref 156, .int (zI M 155 1)]) (st := []) t62_35 mf64 rfl rfl (Or.inl ⟨by decide, (zk1 (hs.k fk_zMc_161))⟩) ⟨by decide, Nat.le_of_ble_eq_true rfl, Nat.le_of_ble_eq_true rfl⟩ (X64_161_156 hs w3 ⟨by omega, by omega⟩ ?_) (fun _ _ q => q)
    intro w16M w16v w16s w16I w16F w16x0 w16a w16b
    show zGo X l 99 0 0 62 38 [(1, .int (0 : Int32)), (0, .ref 6)] [.int w16v] w16M _
    rw [show (zI (zsI M 6 11 (-1 : Int32)) 156) = zI M 156 from funext fun j => (zIo (by decide)), show (zI M 155 1).toInt = (zI M 155 1).toInt by omega] at w16x0
    have w17 := ib161_4 w16I
    have w18 : (zI w16M 161 4).toInt = (zI w16M 161 4).toInt := (congrArg Int32.toInt rfl).trans rfl
    have w19 := zrg (zI w16M 161 5)
    have w20 : (zI w16M 161 5).toInt = (zI w16M 161 5).toInt := (congrArg Int32.toInt rfl).trans rfl
    refine zs_pop (pc := 38) t62_38 rfl ?_
    refine zs_aload_n (pc := 39) t62_39 rfl ?_
    refine zs_aload_n (pc := 40) t62_40 rfl ?_
    refine zs_get (pc := 41) t62_41 (by decide) (zk1 (w16s.k fk_zMc_6)) (w16s.p rfl fv_zMc_6_5) ?_
    refine zs_invV (pc := 44) (k := 161) (as' := []) (st := [.ref 6]) t62_44 mf80 rfl rfl (Or.inl ⟨by decide, (zk1 (w16s.k fk_zMc_161))⟩) ⟨by decide, by decide, Nat.le_of_ble_eq_true rfl, Nat.le_of_ble_eq_true rfl⟩ (zs_in (by decide) mf80 (Nat.le_of_ble_eq_true rfl) ?_) (fun _ _ q => q)
    show zGo X l 0 0 0 80 0 [(0, .ref 161)] [] w16M _
    refine zs_aload_n (pc := 0) t80_0 rfl ?_
    refine zs_get (pc := 1) t80_1 (by decide) (zk1 (w16s.k fk_zMc_161)) (zfvi rfl rfl) ?_
    refine zs_iret (pc := 4) t80_4 mr80 rfl ?_
    show zGo X l 99 0 0 62 47 [(1, .int (0 : Int32)), (0, .ref 6)] [.int (zI w16M 161 5), .ref 6] w16M _
    have w21 : zIv cLo cHi (zsI w16M 6 11 (zI w16M 161 5)) := zIv.put w16I (show (-2147483648) ≤ (zI w16M 161 5).toInt ∧ (zI w16M 161 5).toInt ≤ 2147483647 from zrg (zI w16M 161 5))
    refine zs_putI (pc := 47) t62_47 (zk1 (w16s.k fk_zMc_6)) rfl ?_
    refine zs_aload_n (pc := 50) t62_50 rfl ?_
    refine zs_get (pc := 51) t62_51 (by decide) (zk1 (w16s.k fk_zMc_6)) (w16s.p rfl fv_zMc_6_5) ?_
    refine zs_invV (pc := 54) (k := 161) (as' := []) (st := []) t62_54 mf81 rfl rfl (Or.inl ⟨by decide, (zk1 (w16s.k fk_zMc_161))⟩) ⟨by decide, by decide, Nat.le_of_ble_eq_true rfl, Nat.le_of_ble_eq_true rfl⟩ (zs_in (by decide) mf81 (Nat.le_of_ble_eq_true rfl) ?_) (fun _ _ q => q)
    show zGo X l 0 0 0 81 0 [(0, .ref 161)] [] (zsI w16M 6 11 (zI w16M 161 5)) _
    refine zs_aload_n (pc := 0) t81_0 rfl ?_
    refine zs_get (pc := 1) t81_1 (by decide) (zk1 (w16s.k fk_zMc_161)) (zfvi rfl ((zIo (by decide)).trans rfl)) ?_
    refine zs_iret (pc := 4) t81_4 mr81 rfl ?_
    show zGo X l 99 0 0 62 57 [(1, .int (0 : Int32)), (0, .ref 6)] [.int (zI w16M 161 4)] (zsI w16M 6 11 (zI w16M 161 5)) _
    refine zs_istore_n (pc := 57) t62_57 (ls' := [(1, .int (zI w16M 161 4)), (0, .ref 6)]) (zml mf62 (by decide)) rfl ?_
    refine zs_aload_n (pc := 58) t62_58 rfl ?_
    refine zs_get (pc := 59) t62_59 (by decide) (zk1 (w16s.k fk_zMc_6)) (zfvi rfl zIs) ?_
    refine zs_iconst (pc := 62) t62_62 (v := -1) (by decide) ?_
    by_cases w22 : (zI w16M 161 5).toInt ≠ (-1)
    · refine zs_icmp_neT (pc := 63) t62_63 rfl lin1 (by omega) ?_
      refine zs_aload_n (pc := 98) t62_98 rfl ?_
      refine zs_get (pc := 99) t62_99 (by decide) (zk1 (w16s.k fk_zMc_6)) (w16s.p rfl fv_zMc_6_3) ?_
      refine zs_iconst (pc := 102) t62_102 (v := 0) (by decide) ?_
      refine zs_invV (pc := 103) (k := 155) (as' := [.int (0 : Int32)]) (st := []) t62_103 mf19 rfl rfl (Or.inl ⟨by decide, (zk1 (w16s.k fk_zMc_155))⟩) ⟨by decide, by decide, Nat.le_of_ble_eq_true rfl, Nat.le_of_ble_eq_true rfl⟩ (zs_in (by decide) mf19 (Nat.le_of_ble_eq_true rfl) ?_) (fun _ _ q => q)
      show zGo X l 1 0 0 19 0 [(0, .ref 155), (1, .int (0 : Int32))] [] (zsI w16M 6 11 (zI w16M 161 5)) _
      refine zs_aload_n (pc := 0) t19_0 rfl ?_
      refine zs_iconst (pc := 1) t19_1 (v := 0) (by decide) ?_
      refine zs_iload_n (pc := 2) t19_2 rfl ?_
      refine zs_aload_n (pc := 3) t19_3 rfl ?_
      refine zs_get (pc := 4) t19_4 (by decide) (zk1 (w16s.k fk_zMc_155)) (zfvi rfl ((zIo (by decide)).trans ((w16F 155 1 rfl).trans ((zIo (by decide)).trans rfl)))) ?_
      refine zs_invS (pc := 7) (as := [.int (0 : Int32), .int (zI M 155 1)]) (st := [.int (0 : Int32), .ref 155]) t19_7 (by decide) mf20 rfl rfl ⟨by decide, by decide, Nat.le_of_ble_eq_true rfl, Nat.le_of_ble_eq_true rfl⟩ (zs_in (by decide) mf20 (Nat.le_of_ble_eq_true rfl) ?_) (fun _ _ q => q)
      show zGo X l 0 0 0 20 0 [(0, .int (0 : Int32)), (1, .int (zI M 155 1))] [] (zsI w16M 6 11 (zI w16M 161 5)) _
      refine zs_iload_n (pc := 0) t20_0 rfl ?_
      refine zs_iload_n (pc := 1) t20_1 rfl ?_
      refine zs_icmp_gtF (pc := 2) t20_2 li0 rfl (by omega) ?_
      refine zs_iload_n (pc := 5) t20_5 rfl ?_
      refine zs_goto (pc := 6) t20_6 ?_
      refine zs_iret (pc := 10) t20_10 mr20 (by decide) ?_
      show zGo X l 1 0 0 19 10 [(0, .ref 155), (1, .int (0 : Int32))] [.int (0 : Int32), .int (0 : Int32), .ref 155] (zsI w16M 6 11 (zI w16M 161 5)) _
      refine zs_invS (pc := 10) (as := [.int (0 : Int32), .int (0 : Int32)]) (st := [.ref 155]) t19_10 (by decide) mf21 rfl rfl ⟨by decide, by decide, Nat.le_of_ble_eq_true rfl, Nat.le_of_ble_eq_true rfl⟩ (zs_in (by decide) mf21 (Nat.le_of_ble_eq_true rfl) ?_) (fun _ _ q => q)
      show zGo X l 0 0 0 21 0 [(0, .int (0 : Int32)), (1, .int (0 : Int32))] [] (zsI w16M 6 11 (zI w16M 161 5)) _
      refine zs_iload_n (pc := 0) t21_0 rfl ?_
      refine zs_iload_n (pc := 1) t21_1 rfl ?_
      refine zs_icmp_ltF (pc := 2) t21_2 li0 li0 (by decide) ?_
      refine zs_iload_n (pc := 5) t21_5 rfl ?_
      refine zs_goto (pc := 6) t21_6 ?_
      refine zs_iret (pc := 10) t21_10 mr21 (by decide) ?_
      show zGo X l 1 0 0 19 13 [(0, .ref 155), (1, .int (0 : Int32))] [.int (0 : Int32), .ref 155] (zsI w16M 6 11 (zI w16M 161 5)) _
      have w23 : zIv cLo cHi (zsI (zsI w16M 6 11 (zI w16M 161 5)) 155 1 (0 : Int32)) := zIv.put w21 (show 0 ≤ (0 : Int32).toInt ∧ (0 : Int32).toInt ≤ 500 from ⟨by decide, by decide⟩)
      refine zs_putI (pc := 13) t19_13 (zk1 (w16s.k fk_zMc_155)) rfl ?_
      refine zs_vret (pc := 16) t19_16 mr19 ?_
      show zGo X l 99 0 0 62 106 [(1, .int (zI w16M 161 4)), (0, .ref 6)] [] (zsI (zsI w16M 6 11 (zI w16M 161 5)) 155 1 (0 : Int32)) _
      refine zs_aload_n (pc := 106) t62_106 rfl ?_
      refine zs_get (pc := 107) t62_107 (by decide) (zk1 (w16s.k fk_zMc_6)) (zfvi rfl ((zIo (by decide)).trans zIs)) ?_
      refine zs_iconst (pc := 110) t62_110 (v := -1) (by decide) ?_
      refine zs_icmp_neT (pc := 111) t62_111 rfl lin1 (by omega) ?_
      refine zs_iconst (pc := 118) t62_118 (v := -1) (by decide) ?_
      have w24 : (zI (zsI (zsI w16M 6 11 (zI w16M 161 5)) 155 1 (0 : Int32)) 155 1).toInt = 0 := (congrArg Int32.toInt zIs).trans li0
      have w25 := lin1
      have w26 : (-1 : Int32).toInt = (-1) := lin1
      have w27 : (zI (zsI (zsI w16M 6 11 (zI w16M 161 5)) 155 1 (0 : Int32)) 6 11).toInt = (zI w16M 161 5).toInt := (congrArg Int32.toInt ((zIo (by decide)).trans zIs)).trans rfl
      exact zs_iret (pc := 119) t62_119 mr62 (by decide) (hQ _ _ w16s w23 (((((zFr.refl).put rfl).trans (w16F.mono rfl)).put rfl).put rfl) (by omega) (by first | exact zTg5.y w16x0 (by omega) (by omega) (by omega) (by omega) | exact zTg5.n w16x0 (by omega) (by omega) (by omega) (by omega)))
    · refine zs_icmp_neF (pc := 63) t62_63 rfl lin1 (by omega) ?_
      refine zs_aload_n (pc := 66) t62_66 rfl ?_
      refine zs_get (pc := 67) t62_67 (by decide) (zk1 (w16s.k fk_zMc_6)) (w16s.p rfl fv_zMc_6_2) ?_
      refine zs_aload_n (pc := 70) t62_70 rfl ?_
      refine zs_get (pc := 71) t62_71 (by decide) (zk1 (w16s.k fk_zMc_6)) (w16s.p rfl fv_zMc_6_0) ?_
      refine zs_invV (pc := 74) (k := 31) (as' := [.ref 7]) (st := []) t62_74 mf58 rfl rfl (Or.inl ⟨by decide, (zk1 (w16s.k fk_zMc_31))⟩) ⟨by decide, by decide, Nat.le_of_ble_eq_true rfl, Nat.le_of_ble_eq_true rfl⟩ (C58_31_7 w16s w21 ?_) (fun _ _ q => q)
      intro w28M w28s w28I w28F
      show zGo X l 99 0 0 62 77 [(1, .int (zI w16M 161 4)), (0, .ref 6)] [] w28M _
      refine zs_aload_n (pc := 77) t62_77 rfl ?_
      refine zs_get (pc := 78) t62_78 (by decide) (zk1 (w28s.k fk_zMc_6)) (w28s.p rfl fv_zMc_6_0) ?_
      refine zs_aload_n (pc := 81) t62_81 rfl ?_
      refine zs_get (pc := 82) t62_82 (by decide) (zk1 (w28s.k fk_zMc_6)) (w28s.p rfl fv_zMc_6_3) ?_
      refine zs_invV (pc := 85) (k := 155) (as' := []) (st := [.ref 7]) t62_85 mf63 rfl rfl (Or.inl ⟨by decide, (zk1 (w28s.k fk_zMc_155))⟩) ⟨by decide, by decide, Nat.le_of_ble_eq_true rfl, Nat.le_of_ble_eq_true rfl⟩ (zs_in (by decide) mf63 (Nat.le_of_ble_eq_true rfl) ?_) (fun _ _ q => q)
      show zGo X l 0 0 0 63 0 [(0, .ref 155)] [] w28M _
      refine zs_aload_n (pc := 0) t63_0 rfl ?_
      refine zs_get (pc := 1) t63_1 (by decide) (zk1 (w28s.k fk_zMc_155)) (w28s.p rfl fv_zMc_155_0) ?_
      refine zs_aret (pc := 4) t63_4 (by rw [mr63]; rfl) ?_
      show zGo X l 99 0 0 62 88 [(1, .int (zI w16M 161 4)), (0, .ref 6)] [.ref 156, .ref 7] w28M _
      refine zs_aload_n (pc := 88) t62_88 rfl ?_
      refine zs_get (pc := 89) t62_89 (by decide) (zk1 (w28s.k fk_zMc_6)) (w28s.p rfl fv_zMc_6_3) ?_
      refine zs_invV (pc := 92) (k := 155) (as' := []) (st := [.ref 156, .ref 7]) t62_92 mf17 rfl rfl (Or.inl ⟨by decide, (zk1 (w28s.k fk_zMc_155))⟩) ⟨by decide, by decide, Nat.le_of_ble_eq_true rfl, Nat.le_of_ble_eq_true rfl⟩ (zs_in (by decide) mf17 (Nat.le_of_ble_eq_true rfl) ?_) (fun _ _ q => q)
      show zGo X l 0 0 0 17 0 [(0, .ref 155)] [] w28M _
      refine zs_aload_n (pc := 0) t17_0 rfl ?_
      refine zs_get (pc := 1) t17_1 (by decide) (zk1 (w28s.k fk_zMc_155)) (zfvi rfl ((w28F 155 1 rfl).trans ((zIo (by decide)).trans ((w16F 155 1 rfl).trans ((zIo (by decide)).trans rfl))))) ?_
      refine zs_iret (pc := 4) t17_4 mr17 rfl ?_
      show zGo X l 99 0 0 62 95 [(1, .int (zI w16M 161 4)), (0, .ref 6)] [.int (zI M 155 1), .ref 156, .ref 7] w28M _
      refine zs_invV (pc := 95) (k := 7) (as' := [.ref 156, .int (zI M 155 1)]) (st := []) t62_95 mf24 rfl rfl (Or.inl ⟨by decide, (zk1 (w28s.k fk_zMc_7))⟩) ⟨by decide, by decide, Nat.le_of_ble_eq_true rfl, Nat.le_of_ble_eq_true rfl⟩ (zs_in (by decide) mf24 (Nat.le_of_ble_eq_true rfl) ?_) (fun _ _ q => q)
      show zGo X l 1 0 0 24 0 [(0, .ref 7), (1, .ref 156), (2, .int (zI M 155 1))] [] w28M _
      refine zs_aload_n (pc := 0) t24_0 rfl ?_
      refine zs_iconst (pc := 1) t24_1 (v := 0) (by decide) ?_
      refine zs_iload_n (pc := 2) t24_2 rfl ?_
      refine zs_sipush (pc := 3) t24_3 (v := 500) (by decide) ?_
      refine zs_invS (pc := 6) (as := [.int (zI M 155 1), .int (500 : Int32)]) (st := [.int (0 : Int32), .ref 7]) t24_6 (by decide) mf20 rfl rfl ⟨by decide, by decide, Nat.le_of_ble_eq_true rfl, Nat.le_of_ble_eq_true rfl⟩ (zs_in (by decide) mf20 (Nat.le_of_ble_eq_true rfl) ?_) (fun _ _ q => q)
      show zGo X l 0 0 0 20 0 [(0, .int (zI M 155 1)), (1, .int (500 : Int32))] [] w28M _
      refine zs_iload_n (pc := 0) t20_0 rfl ?_
      refine zs_iload_n (pc := 1) t20_1 rfl ?_
      refine zs_icmp_gtF (pc := 2) t20_2 rfl li500 (by omega) ?_
      refine zs_iload_n (pc := 5) t20_5 rfl ?_
      refine zs_goto (pc := 6) t20_6 ?_
      refine zs_iret (pc := 10) t20_10 mr20 rfl ?_
      show zGo X l 1 0 0 24 9 [(0, .ref 7), (1, .ref 156), (2, .int (zI M 155 1))] [.int (zI M 155 1), .int (0 : Int32), .ref 7] w28M _
      refine zs_invS (pc := 9) (as := [.int (0 : Int32), .int (zI M 155 1)]) (st := [.ref 7]) t24_9 (by decide) mf21 rfl rfl ⟨by decide, by decide, Nat.le_of_ble_eq_true rfl, Nat.le_of_ble_eq_true rfl⟩ (zs_in (by decide) mf21 (Nat.le_of_ble_eq_true rfl) ?_) (fun _ _ q => q)
      show zGo X l 0 0 0 21 0 [(0, .int (0 : Int32)), (1, .int (zI M 155 1))] [] w28M _
      refine zs_iload_n (pc := 0) t21_0 rfl ?_
      refine zs_iload_n (pc := 1) t21_1 rfl ?_
      refine zs_icmp_ltT (pc := 2) t21_2 li0 rfl (by omega) ?_
      refine zs_iload_n (pc := 9) t21_9 rfl ?_
      refine zs_iret (pc := 10) t21_10 mr21 rfl ?_
      show zGo X l 1 0 0 24 12 [(0, .ref 7), (1, .ref 156), (2, .int (zI M 155 1))] [.int (zI M 155 1), .ref 7] w28M _
      have w29 : zIv cLo cHi (zsI w28M 7 13 (zI M 155 1)) := zIv.put w28I (show 0 ≤ (zI M 155 1).toInt ∧ (zI M 155 1).toInt ≤ 500 from ⟨by omega, by omega⟩)
      refine zs_putI (pc := 12) t24_12 (zk1 (w28s.k fk_zMc_7)) rfl ?_
      refine zs_aload_n (pc := 15) t24_15 rfl ?_
      refine zs_iconst (pc := 16) t24_16 (v := 0) (by decide) ?_
      refine zs_aload_n (pc := 17) t24_17 rfl ?_
      refine zs_get (pc := 18) t24_18 (by decide) (zk1 (w28s.k fk_zMc_7)) (w28s.p rfl fv_zMc_7_14) ?_
      refine zs_iconst (pc := 21) t24_21 (v := 0) (by decide) ?_
      refine zs_aload_n (pc := 22) t24_22 rfl ?_
      refine zs_get (pc := 23) t24_23 (by decide) (zk1 (w28s.k fk_zMc_7)) (zfvi rfl zIs) ?_
      have w30 : (0 : Int32).toInt = 0 := li0
      have w31 : (0 : Int32).toInt = 0 := li0
      refine zs_copy (pc := 26) t24_26 (w28s.k fk_zMc_156) (w28s.k fk_zMc_18) (by decide) (by decide) (by decide) ⟨by omega, by omega, by omega⟩ (by omega) (by omega) ⟨Nat.le_of_ble_eq_true rfl, by decide⟩ ?_
      obtain ⟨w32M, w32e⟩ : ∃ N, N = zsR (zsI w28M 7 13 (zI M 155 1)) 18 (va_cpy (zI (zsI w28M 7 13 (zI M 155 1)) 156) (zI (zsI w28M 7 13 (zI M 155 1)) 18) (0 : Int32).toNatClampNeg (0 : Int32).toNatClampNeg (zI M 155 1).toNatClampNeg) := ⟨_, rfl⟩
      have w32s : zSk zMc w32M := by rw [w32e]; exact w28s
      have w32I : zIv cLo cHi w32M := by rw [w32e]; exact zIv.row w29 (fun _ => zcpyB (fun j => ib156 w29 j) (fun j => ib18 w29 j))
      have w32F : zFr [(18, 18, none)] (zsI w28M 7 13 (zI M 155 1)) w32M := by rw [w32e]; exact zFr.row zFr.refl (fun _ => rfl)
      have w32C : ∀ j : Nat, (j : Int) < (zI M 155 1).toInt → zI w32M 18 j = zI (zsI w28M 7 13 (zI M 155 1)) 156 j := fun j hj => by rw [w32e]; exact (congrFun zRs j).trans (zcpy0 (by omega) (by omega) hj)
      rw [← w32e]
      refine zs_vret (pc := 29) t24_29 mr24 ?_
      show zGo X l 99 0 0 62 98 [(1, .int (zI w16M 161 4)), (0, .ref 6)] [] w32M _
      refine zs_aload_n (pc := 98) t62_98 rfl ?_
      refine zs_get (pc := 99) t62_99 (by decide) (zk1 (w32s.k fk_zMc_6)) (w32s.p rfl fv_zMc_6_3) ?_
      refine zs_iconst (pc := 102) t62_102 (v := 0) (by decide) ?_
      refine zs_invV (pc := 103) (k := 155) (as' := [.int (0 : Int32)]) (st := []) t62_103 mf19 rfl rfl (Or.inl ⟨by decide, (zk1 (w32s.k fk_zMc_155))⟩) ⟨by decide, by decide, Nat.le_of_ble_eq_true rfl, Nat.le_of_ble_eq_true rfl⟩ (zs_in (by decide) mf19 (Nat.le_of_ble_eq_true rfl) ?_) (fun _ _ q => q)
      show zGo X l 1 0 0 19 0 [(0, .ref 155), (1, .int (0 : Int32))] [] w32M _
      refine zs_aload_n (pc := 0) t19_0 rfl ?_
      refine zs_iconst (pc := 1) t19_1 (v := 0) (by decide) ?_
      refine zs_iload_n (pc := 2) t19_2 rfl ?_
      refine zs_aload_n (pc := 3) t19_3 rfl ?_
      refine zs_get (pc := 4) t19_4 (by decide) (zk1 (w32s.k fk_zMc_155)) (zfvi rfl ((w32F 155 1 rfl).trans ((zIo (by decide)).trans ((w28F 155 1 rfl).trans ((zIo (by decide)).trans ((w16F 155 1 rfl).trans ((zIo (by decide)).trans rfl))))))) ?_
      refine zs_invS (pc := 7) (as := [.int (0 : Int32), .int (zI M 155 1)]) (st := [.int (0 : Int32), .ref 155]) t19_7 (by decide) mf20 rfl rfl ⟨by decide, by decide, Nat.le_of_ble_eq_true rfl, Nat.le_of_ble_eq_true rfl⟩ (zs_in (by decide) mf20 (Nat.le_of_ble_eq_true rfl) ?_) (fun _ _ q => q)
      show zGo X l 0 0 0 20 0 [(0, .int (0 : Int32)), (1, .int (zI M 155 1))] [] w32M _
      refine zs_iload_n (pc := 0) t20_0 rfl ?_
      refine zs_iload_n (pc := 1) t20_1 rfl ?_
      refine zs_icmp_gtF (pc := 2) t20_2 li0 rfl (by omega) ?_
      refine zs_iload_n (pc := 5) t20_5 rfl ?_
      refine zs_goto (pc := 6) t20_6 ?_
      refine zs_iret (pc := 10) t20_10 mr20 (by decide) ?_
      show zGo X l 1 0 0 19 10 [(0, .ref 155), (1, .int (0 : Int32))] [.int (0 : Int32), .int (0 : Int32), .ref 155] w32M _
      refine zs_invS (pc := 10) (as := [.int (0 : Int32), .int (0 : Int32)]) (st := [.ref 155]) t19_10 (by decide) mf21 rfl rfl ⟨by decide, by decide, Nat.le_of_ble_eq_true rfl, Nat.le_of_ble_eq_true rfl⟩ (zs_in (by decide) mf21 (Nat.le_of_ble_eq_true rfl) ?_) (fun _ _ q => q)
      show zGo X l 0 0 0 21 0 [(0, .int (0 : Int32)), (1, .int (0 : Int32))] [] w32M _
      refine zs_iload_n (pc := 0) t21_0 rfl ?_
      refine zs_iload_n (pc := 1) t21_1 rfl ?_
      refine zs_icmp_ltF (pc := 2) t21_2 li0 li0 (by decide) ?_
      refine zs_iload_n (pc := 5) t21_5 rfl ?_
      refine zs_goto (pc := 6) t21_6 ?_
      refine zs_iret (pc := 10) t21_10 mr21 (by decide) ?_
      show zGo X l 1 0 0 19 13 [(0, .ref 155), (1, .int (0 : Int32))] [.int (0 : Int32), .ref 155] w32M _
      have w33 : zIv cLo cHi (zsI w32M 155 1 (0 : Int32)) := zIv.put w32I (show 0 ≤ (0 : Int32).toInt ∧ (0 : Int32).toInt ≤ 500 from ⟨by decide, by decide⟩)
      refine zs_putI (pc := 13) t19_13 (zk1 (w32s.k fk_zMc_155)) rfl ?_
      refine zs_vret (pc := 16) t19_16 mr19 ?_
      show zGo X l 99 0 0 62 106 [(1, .int (zI w16M 161 4)), (0, .ref 6)] [] (zsI w32M 155 1 (0 : Int32)) _
      refine zs_aload_n (pc := 106) t62_106 rfl ?_
      refine zs_get (pc := 107) t62_107 (by decide) (zk1 (w32s.k fk_zMc_6)) (zfvi rfl ((zIo (by decide)).trans ((w32F 6 11 rfl).trans ((zIo (by decide)).trans ((w28F 6 11 rfl).trans zIs))))) ?_
      refine zs_iconst (pc := 110) t62_110 (v := -1) (by decide) ?_
      refine zs_icmp_neF (pc := 111) t62_111 rfl lin1 (by omega) ?_
      refine zs_iload_n (pc := 114) t62_114 rfl ?_
      refine zs_goto (pc := 115) t62_115 ?_
      have w34 : (zI (zsI w32M 155 1 (0 : Int32)) 155 1).toInt = 0 := (congrArg Int32.toInt zIs).trans li0
      have w35 : (zI (zsI w32M 155 1 (0 : Int32)) 6 11).toInt = (zI w16M 161 5).toInt := (congrArg Int32.toInt ((zIo (by decide)).trans ((w32F 6 11 rfl).trans ((zIo (by decide)).trans ((w28F 6 11 rfl).trans zIs))))).trans rfl
      exact zs_iret (pc := 119) t62_119 mr62 rfl (hQ _ _ w32s w33 ((((((((zFr.refl).put rfl).trans (w16F.mono rfl)).put rfl).trans (w28F.mono rfl)).put rfl).trans (w32F.mono rfl)).put rfl) (by omega) (by first | exact zTg5.y w16x0 (by omega) (by omega) (by omega) (by omega) | exact zTg5.n w16x0 (by omega) (by omega) (by omega) (by omega)))
