theorem T62_6 {X : zX} {l : Launch} {M : zM} {Q : Option Value → zM → Prop} (hs : zSk zMc M) (hI : zIv cLo cHi M) (hQ : ∀ (M' : zM) (v : Int32), zSk zMc M' → zIv cLo cHi M' → zFr [(6, 155, none), (157, 335, none)] M M' → ((zI M' 155 1).toInt = 0) → (-2147483648) ≤ v.toInt → v.toInt ≤ 2147483647 → Q (some (.int v)) M') : zCall X l 99 0 0 62 [.ref 6] M Q := by
  refine zs_inD (by decide) mf62 (Nat.le_of_ble_eq_true rfl) ?_
  show zGo X l 99 0 0 62 0 [(0, .ref 6)] [] M _
  refine zs_iconst (pc := 0) t62_0 (v := 0) (by decide) ?_
  refine zs_istore_n (pc := 1) t62_1 (ls' := [(1, .int (0 : Int32)), (0, .ref 6)]) (zml mf62 (by decide)) rfl ?_
  refine zs_aload_n (pc := 2) t62_2 rfl ?_
  refine zs_iconst (pc := 3) t62_3 (v := -1) (by decide) ?_
  have w1 : zIv cLo cHi (zsI M 6 11 (-1 : Int32)) := zIv.put hI (show (-2147483648) ≤ (-1 : Int32).toInt ∧ (-1 : Int32).toInt ≤ 2147483647 from (zrg (-1 : Int32)))
  refine zs_putI (pc := 4) t62_4 (zk1 (hs.k fk_zMc_6)) rfl ?_
  refine zs_aload_n (pc := 7) t62_7 rfl ?_
  refine zs_get (pc := 8) t62_8 (by decide) (zk1 (hs.k fk_zMc_6)) (hs.p rfl fv_zMc_6_3) ?_
  refine zs_invV (pc := 11) (k := 155) (as' := []) (st := []) t62_11 mf17 rfl rfl (Or.inl ⟨by decide, (zk1 (hs.k fk_zMc_155))⟩) ⟨by decide, by decide, Nat.le_of_ble_eq_true rfl, Nat.le_of_ble_eq_true rfl⟩ (zs_in (by decide) mf17 (Nat.le_of_ble_eq_true rfl) ?_) (fun _ _ q => q)
  show zGo X l 0 0 0 17 0 [(0, .ref 155)] [] (zsI M 6 11 (-1 : Int32)) _
  refine zs_aload_n (pc := 0) t17_0 rfl ?_
  have w2 := ib155_1 hI
  refine zs_get (pc := 1) t17_1 (by decide) (zk1 (hs.k fk_zMc_155)) (zfvi rfl ((zIo (by decide)).trans rfl)) ?_
  refine zs_iret (pc := 4) t17_4 mr17 rfl ?_
  show zGo X l 99 0 0 62 14 [(1, .int (0 : Int32)), (0, .ref 6)] [.int (zI M 155 1)] (zsI M 6 11 (-1 : Int32)) _
  by_cases w3 : (zI M 155 1).toInt ≤ 0
  · refine zs_if_leT (pc := 14) t62_14 rfl (by omega) ?_
    refine zs_aload_n (pc := 58) t62_58 rfl ?_
    refine zs_get (pc := 59) t62_59 (by decide) (zk1 (hs.k fk_zMc_6)) (zfvi rfl zIs) ?_
    refine zs_iconst (pc := 62) t62_62 (v := -1) (by decide) ?_
    refine zs_icmp_neF (pc := 63) t62_63 lin1 lin1 (by decide) ?_
    refine zs_aload_n (pc := 66) t62_66 rfl ?_
    refine zs_get (pc := 67) t62_67 (by decide) (zk1 (hs.k fk_zMc_6)) (hs.p rfl fv_zMc_6_2) ?_
    refine zs_aload_n (pc := 70) t62_70 rfl ?_
    refine zs_get (pc := 71) t62_71 (by decide) (zk1 (hs.k fk_zMc_6)) (hs.p rfl fv_zMc_6_0) ?_
    refine zs_invV (pc := 74) (k := 31) (as' := [.ref 7]) (st := []) t62_74 mf58 rfl rfl (Or.inl ⟨by decide, (zk1 (hs.k fk_zMc_31))⟩) ⟨by decide, by decide, Nat.le_of_ble_eq_true rfl, Nat.le_of_ble_eq_true rfl⟩ (C58_31_7 hs w1 ?_) (fun _ _ q => q)
    intro w4M w4s w4I w4F
    show zGo X l 99 0 0 62 77 [(1, .int (0 : Int32)), (0, .ref 6)] [] w4M _
    refine zs_aload_n (pc := 77) t62_77 rfl ?_
    refine zs_get (pc := 78) t62_78 (by decide) (zk1 (w4s.k fk_zMc_6)) (w4s.p rfl fv_zMc_6_0) ?_
    refine zs_aload_n (pc := 81) t62_81 rfl ?_
    refine zs_get (pc := 82) t62_82 (by decide) (zk1 (w4s.k fk_zMc_6)) (w4s.p rfl fv_zMc_6_3) ?_
    refine zs_invV (pc := 85) (k := 155) (as' := []) (st := [.ref 7]) t62_85 mf63 rfl rfl (Or.inl ⟨by decide, (zk1 (w4s.k fk_zMc_155))⟩) ⟨by decide, by decide, Nat.le_of_ble_eq_true rfl, Nat.le_of_ble_eq_true rfl⟩ (zs_in (by decide) mf63 (Nat.le_of_ble_eq_true rfl) ?_) (fun _ _ q => q)
    show zGo X l 0 0 0 63 0 [(0, .ref 155)] [] w4M _
    refine zs_aload_n (pc := 0) t63_0 rfl ?_
    refine zs_get (pc := 1) t63_1 (by decide) (zk1 (w4s.k fk_zMc_155)) (w4s.p rfl fv_zMc_155_0) ?_
    refine zs_aret (pc := 4) t63_4 (by rw [mr63]; rfl) ?_
    show zGo X l 99 0 0 62 88 [(1, .int (0 : Int32)), (0, .ref 6)] [.ref 156, .ref 7] w4M _
    refine zs_aload_n (pc := 88) t62_88 rfl ?_
    refine zs_get (pc := 89) t62_89 (by decide) (zk1 (w4s.k fk_zMc_6)) (w4s.p rfl fv_zMc_6_3) ?_
    refine zs_invV (pc := 92) (k := 155) (as' := []) (st := [.ref 156, .ref 7]) t62_92 mf17 rfl rfl (Or.inl ⟨by decide, (zk1 (w4s.k fk_zMc_155))⟩) ⟨by decide, by decide, Nat.le_of_ble_eq_true rfl, Nat.le_of_ble_eq_true rfl⟩ (zs_in (by decide) mf17 (Nat.le_of_ble_eq_true rfl) ?_) (fun _ _ q => q)
    show zGo X l 0 0 0 17 0 [(0, .ref 155)] [] w4M _
    refine zs_aload_n (pc := 0) t17_0 rfl ?_
    refine zs_get (pc := 1) t17_1 (by decide) (zk1 (w4s.k fk_zMc_155)) (zfvi rfl ((w4F 155 1 rfl).trans ((zIo (by decide)).trans rfl))) ?_
    refine zs_iret (pc := 4) t17_4 mr17 rfl ?_
    show zGo X l 99 0 0 62 95 [(1, .int (0 : Int32)), (0, .ref 6)] [.int (zI M 155 1), .ref 156, .ref 7] w4M _
    refine zs_invV (pc := 95) (k := 7) (as' := [.ref 156, .int (zI M 155 1)]) (st := []) t62_95 mf24 rfl rfl (Or.inl ⟨by decide, (zk1 (w4s.k fk_zMc_7))⟩) ⟨by decide, by decide, Nat.le_of_ble_eq_true rfl, Nat.le_of_ble_eq_true rfl⟩ (zs_in (by decide) mf24 (Nat.le_of_ble_eq_true rfl) ?_) (fun _ _ q => q)
    show zGo X l 1 0 0 24 0 [(0, .ref 7), (1, .ref 156), (2, .int (zI M 155 1))] [] w4M _
    refine zs_aload_n (pc := 0) t24_0 rfl ?_
    refine zs_iconst (pc := 1) t24_1 (v := 0) (by decide) ?_
    refine zs_iload_n (pc := 2) t24_2 rfl ?_
    refine zs_sipush (pc := 3) t24_3 (v := 500) (by decide) ?_
    refine zs_invS (pc := 6) (as := [.int (zI M 155 1), .int (500 : Int32)]) (st := [.int (0 : Int32), .ref 7]) t24_6 (by decide) mf20 rfl rfl ⟨by decide, by decide, Nat.le_of_ble_eq_true rfl, Nat.le_of_ble_eq_true rfl⟩ (zs_in (by decide) mf20 (Nat.le_of_ble_eq_true rfl) ?_) (fun _ _ q => q)
    show zGo X l 0 0 0 20 0 [(0, .int (zI M 155 1)), (1, .int (500 : Int32))] [] w4M _
    refine zs_iload_n (pc := 0) t20_0 rfl ?_
    refine zs_iload_n (pc := 1) t20_1 rfl ?_
    refine zs_icmp_gtF (pc := 2) t20_2 rfl li500 (by omega) ?_
    refine zs_iload_n (pc := 5) t20_5 rfl ?_
    refine zs_goto (pc := 6) t20_6 ?_
    refine zs_iret (pc := 10) t20_10 mr20 rfl ?_
    show zGo X l 1 0 0 24 9 [(0, .ref 7), (1, .ref 156), (2, .int (zI M 155 1))] [.int (zI M 155 1), .int (0 : Int32), .ref 7] w4M _
    refine zs_invS (pc := 9) (as := [.int (0 : Int32), .int (zI M 155 1)]) (st := [.ref 7]) t24_9 (by decide) mf21 rfl rfl ⟨by decide, by decide, Nat.le_of_ble_eq_true rfl, Nat.le_of_ble_eq_true rfl⟩ (zs_in (by decide) mf21 (Nat.le_of_ble_eq_true rfl) ?_) (fun _ _ q => q)
    show zGo X l 0 0 0 21 0 [(0, .int (0 : Int32)), (1, .int (zI M 155 1))] [] w4M _
    refine zs_iload_n (pc := 0) t21_0 rfl ?_
    refine zs_iload_n (pc := 1) t21_1 rfl ?_
    refine zs_icmp_ltF (pc := 2) t21_2 li0 rfl (by omega) ?_
    refine zs_iload_n (pc := 5) t21_5 rfl ?_
    refine zs_goto (pc := 6) t21_6 ?_
    refine zs_iret (pc := 10) t21_10 mr21 (by decide) ?_
    show zGo X l 1 0 0 24 12 [(0, .ref 7), (1, .ref 156), (2, .int (zI M 155 1))] [.int (0 : Int32), .ref 7] w4M _
    have w5 : zIv cLo cHi (zsI w4M 7 13 (0 : Int32)) := zIv.put w4I (show 0 ≤ (0 : Int32).toInt ∧ (0 : Int32).toInt ≤ 500 from ⟨by decide, by decide⟩)
    refine zs_putI (pc := 12) t24_12 (zk1 (w4s.k fk_zMc_7)) rfl ?_
    refine zs_aload_n (pc := 15) t24_15 rfl ?_
    refine zs_iconst (pc := 16) t24_16 (v := 0) (by decide) ?_
    refine zs_aload_n (pc := 17) t24_17 rfl ?_
    refine zs_get (pc := 18) t24_18 (by decide) (zk1 (w4s.k fk_zMc_7)) (w4s.p rfl fv_zMc_7_14) ?_
    refine zs_iconst (pc := 21) t24_21 (v := 0) (by decide) ?_
    refine zs_aload_n (pc := 22) t24_22 rfl ?_
    refine zs_get (pc := 23) t24_23 (by decide) (zk1 (w4s.k fk_zMc_7)) (zfvi rfl zIs) ?_
    have w6 := li0
    have w7 := li0
    have w8 := li0
    refine zs_copy (pc := 26) t24_26 (w4s.k fk_zMc_156) (w4s.k fk_zMc_18) (by decide) (by decide) (by decide) ⟨by omega, by omega, by omega⟩ (by omega) (by omega) ⟨Nat.le_of_ble_eq_true rfl, by decide⟩ ?_
    obtain ⟨w9M, w9e⟩ : ∃ N, N = zsR (zsI w4M 7 13 (0 : Int32)) 18 (va_cpy (zI (zsI w4M 7 13 (0 : Int32)) 156) (zI (zsI w4M 7 13 (0 : Int32)) 18) (0 : Int32).toNatClampNeg (0 : Int32).toNatClampNeg (0 : Int32).toNatClampNeg) := ⟨_, rfl⟩
    have w9s : zSk zMc w9M := by rw [w9e]; exact w4s
    have w9I : zIv cLo cHi w9M := by rw [w9e]; exact zIv.row w5 (fun _ => zcpyB (fun j => ib156 w5 j) (fun j => ib18 w5 j))
    have w9F : zFr [(18, 18, none)] (zsI w4M 7 13 (0 : Int32)) w9M := by rw [w9e]; exact zFr.row zFr.refl (fun _ => rfl)
    rw [← w9e]
    refine zs_vret (pc := 29) t24_29 mr24 ?_
    show zGo X l 99 0 0 62 98 [(1, .int (0 : Int32)), (0, .ref 6)] [] w9M _
    refine zs_aload_n (pc := 98) t62_98 rfl ?_
    refine zs_get (pc := 99) t62_99 (by decide) (zk1 (w9s.k fk_zMc_6)) (w9s.p rfl fv_zMc_6_3) ?_
    refine zs_iconst (pc := 102) t62_102 (v := 0) (by decide) ?_
    refine zs_invV (pc := 103) (k := 155) (as' := [.int (0 : Int32)]) (st := []) t62_103 mf19 rfl rfl (Or.inl ⟨by decide, (zk1 (w9s.k fk_zMc_155))⟩) ⟨by decide, by decide, Nat.le_of_ble_eq_true rfl, Nat.le_of_ble_eq_true rfl⟩ (zs_in (by decide) mf19 (Nat.le_of_ble_eq_true rfl) ?_) (fun _ _ q => q)
    show zGo X l 1 0 0 19 0 [(0, .ref 155), (1, .int (0 : Int32))] [] w9M _
    refine zs_aload_n (pc := 0) t19_0 rfl ?_
    refine zs_iconst (pc := 1) t19_1 (v := 0) (by decide) ?_
    refine zs_iload_n (pc := 2) t19_2 rfl ?_
    refine zs_aload_n (pc := 3) t19_3 rfl ?_
    refine zs_get (pc := 4) t19_4 (by decide) (zk1 (w9s.k fk_zMc_155)) (zfvi rfl ((w9F 155 1 rfl).trans ((zIo (by decide)).trans ((w4F 155 1 rfl).trans ((zIo (by decide)).trans rfl))))) ?_
    refine zs_invS (pc := 7) (as := [.int (0 : Int32), .int (zI M 155 1)]) (st := [.int (0 : Int32), .ref 155]) t19_7 (by decide) mf20 rfl rfl ⟨by decide, by decide, Nat.le_of_ble_eq_true rfl, Nat.le_of_ble_eq_true rfl⟩ (zs_in (by decide) mf20 (Nat.le_of_ble_eq_true rfl) ?_) (fun _ _ q => q)
    show zGo X l 0 0 0 20 0 [(0, .int (0 : Int32)), (1, .int (zI M 155 1))] [] w9M _
    refine zs_iload_n (pc := 0) t20_0 rfl ?_
    refine zs_iload_n (pc := 1) t20_1 rfl ?_
    refine zs_icmp_gtF (pc := 2) t20_2 li0 rfl (by omega) ?_
    refine zs_iload_n (pc := 5) t20_5 rfl ?_
    refine zs_goto (pc := 6) t20_6 ?_
    refine zs_iret (pc := 10) t20_10 mr20 (by decide) ?_
    show zGo X l 1 0 0 19 10 [(0, .ref 155), (1, .int (0 : Int32))] [.int (0 : Int32), .int (0 : Int32), .ref 155] w9M _
    refine zs_invS (pc := 10) (as := [.int (0 : Int32), .int (0 : Int32)]) (st := [.ref 155]) t19_10 (by decide) mf21 rfl rfl ⟨by decide, by decide, Nat.le_of_ble_eq_true rfl, Nat.le_of_ble_eq_true rfl⟩ (zs_in (by decide) mf21 (Nat.le_of_ble_eq_true rfl) ?_) (fun _ _ q => q)
    show zGo X l 0 0 0 21 0 [(0, .int (0 : Int32)), (1, .int (0 : Int32))] [] w9M _
    refine zs_iload_n (pc := 0) t21_0 rfl ?_
    refine zs_iload_n (pc := 1) t21_1 rfl ?_
    refine zs_icmp_ltF (pc := 2) t21_2 li0 li0 (by decide) ?_
    refine zs_iload_n (pc := 5) t21_5 rfl ?_
    refine zs_goto (pc := 6) t21_6 ?_
    refine zs_iret (pc := 10) t21_10 mr21 (by decide) ?_
    show zGo X l 1 0 0 19 13 [(0, .ref 155), (1, .int (0 : Int32))] [.int (0 : Int32), .ref 155] w9M _
    have w10 : zIv cLo cHi (zsI w9M 155 1 (0 : Int32)) := zIv.put w9I (show 0 ≤ (0 : Int32).toInt ∧ (0 : Int32).toInt ≤ 500 from ⟨by decide, by decide⟩)
    refine zs_putI (pc := 13) t19_13 (zk1 (w9s.k fk_zMc_155)) rfl ?_
    refine zs_vret (pc := 16) t19_16 mr19 ?_
    show zGo X l 99 0 0 62 106 [(1, .int (0 : Int32)), (0, .ref 6)] [] (zsI w9M 155 1 (0 : Int32)) _
    refine zs_aload_n (pc := 106) t62_106 rfl ?_
    refine zs_get (pc := 107) t62_107 (by decide) (zk1 (w9s.k fk_zMc_6)) (zfvi rfl ((zIo (by decide)).trans ((w9F 6 11 rfl).trans ((zIo (by decide)).trans ((w4F 6 11 rfl).trans zIs))))) ?_
    refine zs_iconst (pc := 110) t62_110 (v := -1) (by decide) ?_
    refine zs_icmp_neF (pc := 111) t62_111 lin1 lin1 (by decide) ?_
    refine zs_iload_n (pc := 114) t62_114 rfl ?_
    refine zs_goto (pc := 115) t62_115 ?_
    have w11 : (zI (zsI w9M 155 1 (0 : Int32)) 155 1).toInt = 0 := (congrArg Int32.toInt zIs).trans li0
    have w12 : (0 : Int32).toInt = 0 := li0
    exact zs_iret (pc := 119) t62_119 mr62 (by decide) (hQ _ _ w9s w10 ((((((zFr.refl).put rfl).trans (w4F.mono rfl)).put rfl).trans (w9F.mono rfl)).put rfl) (by omega) (zrg _).1 (zrg _).2)
  · refine zs_if_leF (pc := 14) t62_14 rfl (by omega) ?_
    refine zs_aload_n (pc := 17) t62_17 rfl ?_
    refine zs_get (pc := 18) t62_18 (by decide) (zk1 (hs.k fk_zMc_6)) (hs.p rfl fv_zMc_6_5) ?_
    refine zs_aload_n (pc := 21) t62_21 rfl ?_
    refine zs_get (pc := 22) t62_22 (by decide) (zk1 (hs.k fk_zMc_6)) (hs.p rfl fv_zMc_6_3) ?_
    refine zs_invV (pc := 25) (k := 155) (as' := []) (st := [.ref 161]) t62_25 mf63 rfl rfl (Or.inl ⟨by decide, (zk1 (hs.k fk_zMc_155))⟩) ⟨by decide, by decide, Nat.le_of_ble_eq_true rfl, Nat.le_of_ble_eq_true rfl⟩ (zs_in (by decide) mf63 (Nat.le_of_ble_eq_true rfl) ?_) (fun _ _ q => q)
    show zGo X l 0 0 0 63 0 [(0, .ref 155)] [] (zsI M 6 11 (-1 : Int32)) _
    refine zs_aload_n (pc := 0) t63_0 rfl ?_
    refine zs_get (pc := 1) t63_1 (by decide) (zk1 (hs.k fk_zMc_155)) (hs.p rfl fv_zMc_155_0) ?_
    refine zs_aret (pc := 4) t63_4 (by rw [mr63]; rfl) ?_
    show zGo X l 99 0 0 62 28 [(1, .int (0 : Int32)), (0, .ref 6)] [.ref 156, .ref 161] (zsI M 6 11 (-1 : Int32)) _
    refine zs_aload_n (pc := 28) t62_28 rfl ?_
    refine zs_get (pc := 29) t62_29 (by decide) (zk1 (hs.k fk_zMc_6)) (hs.p rfl fv_zMc_6_3) ?_
    refine zs_invV (pc := 32) (k := 155) (as' := []) (st := [.ref 156, .ref 161]) t62_32 mf17 rfl rfl (Or.inl ⟨by decide, (zk1 (hs.k fk_zMc_155))⟩) ⟨by decide, by decide, Nat.le_of_ble_eq_true rfl, Nat.le_of_ble_eq_true rfl⟩ (zs_in (by decide) mf17 (Nat.le_of_ble_eq_true rfl) ?_) (fun _ _ q => q)
    show zGo X l 0 0 0 17 0 [(0, .ref 155)] [] (zsI M 6 11 (-1 : Int32)) _
    refine zs_aload_n (pc := 0) t17_0 rfl ?_
    refine zs_get (pc := 1) t17_1 (by decide) (zk1 (hs.k fk_zMc_155)) (zfvi rfl ((zIo (by decide)).trans rfl)) ?_
    refine zs_iret (pc := 4) t17_4 mr17 rfl ?_
    show zGo X l 99 0 0 62 35 [(1, .int (0 : Int32)), (0, .ref 6)] [.int (zI M 155 1), .ref 156, .ref 161] (zsI M 6 11 (-1 : Int32)) _
    refine zs_invV9 (pc := 35) (k := 161) (as' := [.ref 156, .int (zI M 155 1)]) (st := []) t62_35 mf64 rfl rfl (Or.inl ⟨by decide, (zk1 (hs.k fk_zMc_161))⟩) ⟨by decide, Nat.le_of_ble_eq_true rfl, Nat.le_of_ble_eq_true rfl⟩ (C64_161_156 hs w1 ?_) (fun _ _ q => q)
    intro w13M w13v w13s w13I w13F w13a w13b
    show zGo X l 99 0 0 62 38 [(1, .int (0 : Int32)), (0, .ref 6)] [.int w13v] w13M _
    refine zs_pop (pc := 38) t62_38 rfl ?_
    refine zs_aload_n (pc := 39) t62_39 rfl ?_
    refine zs_aload_n (pc := 40) t62_40 rfl ?_
    refine zs_get (pc := 41) t62_41 (by decide) (zk1 (w13s.k fk_zMc_6)) (w13s.p rfl fv_zMc_6_5) ?_
    refine zs_invV (pc := 44) (k := 161) (as' := []) (st := [.ref 6]) t62_44 mf80 rfl rfl (Or.inl ⟨by decide, (zk1 (w13s.k fk_zMc_161))⟩) ⟨by decide, by decide, Nat.le_of_ble_eq_true rfl, Nat.le_of_ble_eq_true rfl⟩ (zs_in (by decide) mf80 (Nat.le_of_ble_eq_true rfl) ?_) (fun _ _ q => q)
    show zGo X l 0 0 0 80 0 [(0, .ref 161)] [] w13M _
    refine zs_aload_n (pc := 0) t80_0 rfl ?_
    have w14 := ib161_5 w13I
    refine zs_get (pc := 1) t80_1 (by decide) (zk1 (w13s.k fk_zMc_161)) (zfvi rfl rfl) ?_
    refine zs_iret (pc := 4) t80_4 mr80 rfl ?_
    show zGo X l 99 0 0 62 47 [(1, .int (0 : Int32)), (0, .ref 6)] [.int (zI w13M 161 5), .ref 6] w13M _
    have w15 : zIv cLo cHi (zsI w13M 6 11 (zI w13M 161 5)) := zIv.put w13I (show (-2147483648) ≤ (zI w13M 161 5).toInt ∧ (zI w13M 161 5).toInt ≤ 2147483647 from (zrg (zI w13M 161 5)))
    refine zs_putI (pc := 47) t62_47 (zk1 (w13s.k fk_zMc_6)) rfl ?_
    refine zs_aload_n (pc := 50) t62_50 rfl ?_
    refine zs_get (pc := 51) t62_51 (by decide) (zk1 (w13s.k fk_zMc_6)) (w13s.p rfl fv_zMc_6_5) ?_
    refine zs_invV (pc := 54) (k := 161) (as' := []) (st := []) t62_54 mf81 rfl rfl (Or.inl ⟨by decide, (zk1 (w13s.k fk_zMc_161))⟩) ⟨by decide, by decide, Nat.le_of_ble_eq_true rfl, Nat.le_of_ble_eq_true rfl⟩ (zs_in (by decide) mf81 (Nat.le_of_ble_eq_true rfl) ?_) (fun _ _ q => q)
    show zGo X l 0 0 0 81 0 [(0, .ref 161)] [] (zsI w13M 6 11 (zI w13M 161 5)) _
    refine zs_aload_n (pc := 0) t81_0 rfl ?_
    have w16 := ib161_4 w13I
    refine zs_get (pc := 1) t81_1 (by decide) (zk1 (w13s.k fk_zMc_161)) (zfvi rfl ((zIo (by decide)).trans rfl)) ?_
    refine zs_iret (pc := 4) t81_4 mr81 rfl ?_
    show zGo X l 99 0 0 62 57 [(1, .int (0 : Int32)), (0, .ref 6)] [.int (zI w13M 161 4)] (zsI w13M 6 11 (zI w13M 161 5)) _
    refine zs_istore_n (pc := 57) t62_57 (ls' := [(1, .int (zI w13M 161 4)), (0, .ref 6)]) (zml mf62 (by decide)) rfl ?_
    refine zs_aload_n (pc := 58) t62_58 rfl ?_
    refine zs_get (pc := 59) t62_59 (by decide) (zk1 (w13s.k fk_zMc_6)) (zfvi rfl zIs) ?_
    refine zs_iconst (pc := 62) t62_62 (v := -1) (by decide) ?_
    by_cases w17 : (zI w13M 161 5).toInt ≠ (-1)
    · refine zs_icmp_neT (pc := 63) t62_63 rfl lin1 (by omega) ?_
      refine zs_aload_n (pc := 98) t62_98 rfl ?_
      refine zs_get (pc := 99) t62_99 (by decide) (zk1 (w13s.k fk_zMc_6)) (w13s.p rfl fv_zMc_6_3) ?_
      refine zs_iconst (pc := 102) t62_102 (v := 0) (by decide) ?_
      refine zs_invV (pc := 103) (k := 155) (as' := [.int (0 : Int32)]) (st := []) t62_103 mf19 rfl rfl (Or.inl ⟨by decide, (zk1 (w13s.k fk_zMc_155))⟩) ⟨by decide, by decide, Nat.le_of_ble_eq_true rfl, Nat.le_of_ble_eq_true rfl⟩ (zs_in (by decide) mf19 (Nat.le_of_ble_eq_true rfl) ?_) (fun _ _ q => q)
      show zGo X l 1 0 0 19 0 [(0, .ref 155), (1, .int (0 : Int32))] [] (zsI w13M 6 11 (zI w13M 161 5)) _
      refine zs_aload_n (pc := 0) t19_0 rfl ?_
      refine zs_iconst (pc := 1) t19_1 (v := 0) (by decide) ?_
      refine zs_iload_n (pc := 2) t19_2 rfl ?_
      refine zs_aload_n (pc := 3) t19_3 rfl ?_
      refine zs_get (pc := 4) t19_4 (by decide) (zk1 (w13s.k fk_zMc_155)) (zfvi rfl ((zIo (by decide)).trans ((w13F 155 1 rfl).trans ((zIo (by decide)).trans rfl)))) ?_
      refine zs_invS (pc := 7) (as := [.int (0 : Int32), .int (zI M 155 1)]) (st := [.int (0 : Int32), .ref 155]) t19_7 (by decide) mf20 rfl rfl ⟨by decide, by decide, Nat.le_of_ble_eq_true rfl, Nat.le_of_ble_eq_true rfl⟩ (zs_in (by decide) mf20 (Nat.le_of_ble_eq_true rfl) ?_) (fun _ _ q => q)
      show zGo X l 0 0 0 20 0 [(0, .int (0 : Int32)), (1, .int (zI M 155 1))] [] (zsI w13M 6 11 (zI w13M 161 5)) _
      refine zs_iload_n (pc := 0) t20_0 rfl ?_
      refine zs_iload_n (pc := 1) t20_1 rfl ?_
      refine zs_icmp_gtF (pc := 2) t20_2 li0 rfl (by omega) ?_
      refine zs_iload_n (pc := 5) t20_5 rfl ?_
      refine zs_goto (pc := 6) t20_6 ?_
      refine zs_iret (pc := 10) t20_10 mr20 (by decide) ?_
      show zGo X l 1 0 0 19 10 [(0, .ref 155), (1, .int (0 : Int32))] [.int (0 : Int32), .int (0 : Int32), .ref 155] (zsI w13M 6 11 (zI w13M 161 5)) _
      refine zs_invS (pc := 10) (as := [.int (0 : Int32), .int (0 : Int32)]) (st := [.ref 155]) t19_10 (by decide) mf21 rfl rfl ⟨by decide, by decide, Nat.le_of_ble_eq_true rfl, Nat.le_of_ble_eq_true rfl⟩ (zs_in (by decide) mf21 (Nat.le_of_ble_eq_true rfl) ?_) (fun _ _ q => q)
      show zGo X l 0 0 0 21 0 [(0, .int (0 : Int32)), (1, .int (0 : Int32))] [] (zsI w13M 6 11 (zI w13M 161 5)) _
      refine zs_iload_n (pc := 0) t21_0 rfl ?_
      refine zs_iload_n (pc := 1) t21_1 rfl ?_
      refine zs_icmp_ltF (pc := 2) t21_2 li0 li0 (by decide) ?_
      refine zs_iload_n (pc := 5) t21_5 rfl ?_
      refine zs_goto (pc := 6) t21_6 ?_
      refine zs_iret (pc := 10) t21_10 mr21 (by decide) ?_
      show zGo X l 1 0 0 19 13 [(0, .ref 155), (1, .int (0 : Int32))] [.int (0 : Int32), .ref 155] (zsI w13M 6 11 (zI w13M 161 5)) _
      have w18 : zIv cLo cHi (zsI (zsI w13M 6 11 (zI w13M 161 5)) 155 1 (0 : Int32)) := zIv.put w15 (show 0 ≤ (0 : Int32).toInt ∧ (0 : Int32).toInt ≤ 500 from ⟨by decide, by decide⟩)
      refine zs_putI (pc := 13) t19_13 (zk1 (w13s.k fk_zMc_155)) rfl ?_
      refine zs_vret (pc := 16) t19_16 mr19 ?_
      show zGo X l 99 0 0 62 106 [(1, .int (zI w13M 161 4)), (0, .ref 6)] [] (zsI (zsI w13M 6 11 (zI w13M 161 5)) 155 1 (0 : Int32)) _
      refine zs_aload_n (pc := 106) t62_106 rfl ?_
      refine zs_get (pc := 107) t62_107 (by decide) (zk1 (w13s.k fk_zMc_6)) (zfvi rfl ((zIo (by decide)).trans zIs)) ?_
      refine zs_iconst (pc := 110) t62_110 (v := -1) (by decide) ?_
      refine zs_icmp_neT (pc := 111) t62_111 rfl lin1 (by omega) ?_
      refine zs_iconst (pc := 118) t62_118 (v := -1) (by decide) ?_
      have w19 : (zI (zsI (zsI w13M 6 11 (zI w13M 161 5)) 155 1 (0 : Int32)) 155 1).toInt = 0 := (congrArg Int32.toInt zIs).trans li0
      have w20 : (-1 : Int32).toInt = (-1) := lin1
      exact zs_iret (pc := 119) t62_119 mr62 (by decide) (hQ _ _ w13s w18 (((((zFr.refl).put rfl).trans (w13F.mono rfl)).put rfl).put rfl) (by omega) (zrg _).1 (zrg _).2)
    · refine zs_icmp_neF (pc := 63) t62_63 rfl lin1 (by omega) ?_
      refine zs_aload_n (pc := 66) t62_66 rfl ?_
      refine zs_get (pc := 67) t62_67 (by decide) (zk1 (w13s.k fk_zMc_6)) (w13s.p rfl fv_zMc_6_2) ?_
      refine zs_aload_n (pc := 70) t62_70 rfl ?_
      refine zs_get (pc := 71) t62_71 (by decide) (zk1 (w13s.k fk_zMc_6)) (w13s.p rfl fv_zMc_6_0) ?_
      refine zs_invV (pc := 74) (k := 31) (as' := [.ref 7]) (st := []) t62_74 mf58 rfl rfl (Or.inl ⟨by decide, (zk1 (w13s.k fk_zMc_31))⟩) ⟨by decide, by decide, Nat.le_of_ble_eq_true rfl, Nat.le_of_ble_eq_true rfl⟩ (C58_31_7 w13s w15 ?_) (fun _ _ q => q)
      intro w21M w21s w21I w21F
      show zGo X l 99 0 0 62 77 [(1, .int (zI w13M 161 4)), (0, .ref 6)] [] w21M _
      refine zs_aload_n (pc := 77) t62_77 rfl ?_
      refine zs_get (pc := 78) t62_78 (by decide) (zk1 (w21s.k fk_zMc_6)) (w21s.p rfl fv_zMc_6_0) ?_
      refine zs_aload_n (pc := 81) t62_81 rfl ?_
      refine zs_get (pc := 82) t62_82 (by decide) (zk1 (w21s.k fk_zMc_6)) (w21s.p rfl fv_zMc_6_3) ?_
      refine zs_invV (pc := 85) (k := 155) (as' := []) (st := [.ref 7]) t62_85 mf63 rfl rfl (Or.inl ⟨by decide, (zk1 (w21s.k fk_zMc_155))⟩) ⟨by decide, by decide, Nat.le_of_ble_eq_true rfl, Nat.le_of_ble_eq_true rfl⟩ (zs_in (by decide) mf63 (Nat.le_of_ble_eq_true rfl) ?_) (fun _ _ q => q)
      show zGo X l 0 0 0 63 0 [(0, .ref 155)] [] w21M _
      refine zs_aload_n (pc := 0) t63_0 rfl ?_
      refine zs_get (pc := 1) t63_1 (by decide) (zk1 (w21s.k fk_zMc_155)) (w21s.p rfl fv_zMc_155_0) ?_
      refine zs_aret (pc := 4) t63_4 (by rw [mr63]; rfl) ?_
      show zGo X l 99 0 0 62 88 [(1, .int (zI w13M 161 4)), (0, .ref 6)] [.ref 156, .ref 7] w21M _
      refine zs_aload_n (pc := 88) t62_88 rfl ?_
      refine zs_get (pc := 89) t62_89 (by decide) (zk1 (w21s.k fk_zMc_6)) (w21s.p rfl fv_zMc_6_3) ?_
      refine zs_invV (pc := 92) (k := 155) (as' := []) (st := [.ref 156, .ref 7]) t62_92 mf17 rfl rfl (Or.inl ⟨by decide, (zk1 (w21s.k fk_zMc_155))⟩) ⟨by decide, by decide, Nat.le_of_ble_eq_true rfl, Nat.le_of_ble_eq_true rfl⟩ (zs_in (by decide) mf17 (Nat.le_of_ble_eq_true rfl) ?_) (fun _ _ q => q)
      show zGo X l 0 0 0 17 0 [(0, .ref 155)] [] w21M _
      refine zs_aload_n (pc := 0) t17_0 rfl ?_
      refine zs_get (pc := 1) t17_1 (by decide) (zk1 (w21s.k fk_zMc_155)) (zfvi rfl ((w21F 155 1 rfl).trans ((zIo (by decide)).trans ((w13F 155 1 rfl).trans ((zIo (by decide)).trans rfl))))) ?_
      refine zs_iret (pc := 4) t17_4 mr17 rfl ?_
      show zGo X l 99 0 0 62 95 [(1, .int (zI w13M 161 4)), (0, .ref 6)] [.int (zI M 155 1), .ref 156, .ref 7] w21M _
      refine zs_invV (pc := 95) (k := 7) (as' := [.ref 156, .int (zI M 155 1)]) (st := []) t62_95 mf24 rfl rfl (Or.inl ⟨by decide, (zk1 (w21s.k fk_zMc_7))⟩) ⟨by decide, by decide, Nat.le_of_ble_eq_true rfl, Nat.le_of_ble_eq_true rfl⟩ (zs_in (by decide) mf24 (Nat.le_of_ble_eq_true rfl) ?_) (fun _ _ q => q)
      show zGo X l 1 0 0 24 0 [(0, .ref 7), (1, .ref 156), (2, .int (zI M 155 1))] [] w21M _
      refine zs_aload_n (pc := 0) t24_0 rfl ?_
      refine zs_iconst (pc := 1) t24_1 (v := 0) (by decide) ?_
      refine zs_iload_n (pc := 2) t24_2 rfl ?_
      refine zs_sipush (pc := 3) t24_3 (v := 500) (by decide) ?_
      refine zs_invS (pc := 6) (as := [.int (zI M 155 1), .int (500 : Int32)]) (st := [.int (0 : Int32), .ref 7]) t24_6 (by decide) mf20 rfl rfl ⟨by decide, by decide, Nat.le_of_ble_eq_true rfl, Nat.le_of_ble_eq_true rfl⟩ (zs_in (by decide) mf20 (Nat.le_of_ble_eq_true rfl) ?_) (fun _ _ q => q)
      show zGo X l 0 0 0 20 0 [(0, .int (zI M 155 1)), (1, .int (500 : Int32))] [] w21M _
      refine zs_iload_n (pc := 0) t20_0 rfl ?_
      refine zs_iload_n (pc := 1) t20_1 rfl ?_
      refine zs_icmp_gtF (pc := 2) t20_2 rfl li500 (by omega) ?_
      refine zs_iload_n (pc := 5) t20_5 rfl ?_
      refine zs_goto (pc := 6) t20_6 ?_
      refine zs_iret (pc := 10) t20_10 mr20 rfl ?_
      show zGo X l 1 0 0 24 9 [(0, .ref 7), (1, .ref 156), (2, .int (zI M 155 1))] [.int (zI M 155 1), .int (0 : Int32), .ref 7] w21M _
      refine zs_invS (pc := 9) (as := [.int (0 : Int32), .int (zI M 155 1)]) (st := [.ref 7]) t24_9 (by decide) mf21 rfl rfl ⟨by decide, by decide, Nat.le_of_ble_eq_true rfl, Nat.le_of_ble_eq_true rfl⟩ (zs_in (by decide) mf21 (Nat.le_of_ble_eq_true rfl) ?_) (fun _ _ q => q)
      show zGo X l 0 0 0 21 0 [(0, .int (0 : Int32)), (1, .int (zI M 155 1))] [] w21M _
      refine zs_iload_n (pc := 0) t21_0 rfl ?_
      refine zs_iload_n (pc := 1) t21_1 rfl ?_
      refine zs_icmp_ltT (pc := 2) t21_2 li0 rfl (by omega) ?_
      refine zs_iload_n (pc := 9) t21_9 rfl ?_
      refine zs_iret (pc := 10) t21_10 mr21 rfl ?_
      show zGo X l 1 0 0 24 12 [(0, .ref 7), (1, .ref 156), (2, .int (zI M 155 1))] [.int (zI M 155 1), .ref 7] w21M _
      have w22 : zIv cLo cHi (zsI w21M 7 13 (zI M 155 1)) := zIv.put w21I (show 0 ≤ (zI M 155 1).toInt ∧ (zI M 155 1).toInt ≤ 500 from ⟨by omega, by omega⟩)
      refine zs_putI (pc := 12) t24_12 (zk1 (w21s.k fk_zMc_7)) rfl ?_
      refine zs_aload_n (pc := 15) t24_15 rfl ?_
      refine zs_iconst (pc := 16) t24_16 (v := 0) (by decide) ?_
      refine zs_aload_n (pc := 17) t24_17 rfl ?_
      refine zs_get (pc := 18) t24_18 (by decide) (zk1 (w21s.k fk_zMc_7)) (w21s.p rfl fv_zMc_7_14) ?_
      refine zs_iconst (pc := 21) t24_21 (v := 0) (by decide) ?_
      refine zs_aload_n (pc := 22) t24_22 rfl ?_
      refine zs_get (pc := 23) t24_23 (by decide) (zk1 (w21s.k fk_zMc_7)) (zfvi rfl zIs) ?_
      have w23 := li0
      have w24 := li0
      refine zs_copy (pc := 26) t24_26 (w21s.k fk_zMc_156) (w21s.k fk_zMc_18) (by decide) (by decide) (by decide) ⟨by omega, by omega, by omega⟩ (by omega) (by omega) ⟨Nat.le_of_ble_eq_true rfl, by decide⟩ ?_
      obtain ⟨w25M, w25e⟩ : ∃ N, N = zsR (zsI w21M 7 13 (zI M 155 1)) 18 (va_cpy (zI (zsI w21M 7 13 (zI M 155 1)) 156) (zI (zsI w21M 7 13 (zI M 155 1)) 18) (0 : Int32).toNatClampNeg (0 : Int32).toNatClampNeg (zI M 155 1).toNatClampNeg) := ⟨_, rfl⟩
      have w25s : zSk zMc w25M := by rw [w25e]; exact w21s
      have w25I : zIv cLo cHi w25M := by rw [w25e]; exact zIv.row w22 (fun _ => zcpyB (fun j => ib156 w22 j) (fun j => ib18 w22 j))
      have w25F : zFr [(18, 18, none)] (zsI w21M 7 13 (zI M 155 1)) w25M := by rw [w25e]; exact zFr.row zFr.refl (fun _ => rfl)
      rw [← w25e]
      refine zs_vret (pc := 29) t24_29 mr24 ?_
      show zGo X l 99 0 0 62 98 [(1, .int (zI w13M 161 4)), (0, .ref 6)] [] w25M _
      refine zs_aload_n (pc := 98) t62_98 rfl ?_
      refine zs_get (pc := 99) t62_99 (by decide) (zk1 (w25s.k fk_zMc_6)) (w25s.p rfl fv_zMc_6_3) ?_
      refine zs_iconst (pc := 102) t62_102 (v := 0) (by decide) ?_
      refine zs_invV (pc := 103) (k := 155) (as' := [.int (0 : Int32)]) (st := []) t62_103 mf19 rfl rfl (Or.inl ⟨by decide, (zk1 (w25s.k fk_zMc_155))⟩) ⟨by decide, by decide, Nat.le_of_ble_eq_true rfl, Nat.le_of_ble_eq_true rfl⟩ (zs_in (by decide) mf19 (Nat.le_of_ble_eq_true rfl) ?_) (fun _ _ q => q)
      show zGo X l 1 0 0 19 0 [(0, .ref 155), (1, .int (0 : Int32))] [] w25M _
      refine zs_aload_n (pc := 0) t19_0 rfl ?_
      refine zs_iconst (pc := 1) t19_1 (v := 0) (by decide) ?_
      refine zs_iload_n (pc := 2) t19_2 rfl ?_
      refine zs_aload_n (pc := 3) t19_3 rfl ?_
      refine zs_get (pc := 4) t19_4 (by decide) (zk1 (w25s.k fk_zMc_155)) (zfvi rfl ((w25F 155 1 rfl).trans ((zIo (by decide)).trans ((w21F 155 1 rfl).trans ((zIo (by decide)).trans ((w13F 155 1 rfl).trans ((zIo (by decide)).trans rfl))))))) ?_
      refine zs_invS (pc := 7) (as := [.int (0 : Int32), .int (zI M 155 1)]) (st := [.int (0 : Int32), .ref 155]) t19_7 (by decide) mf20 rfl rfl ⟨by decide, by decide, Nat.le_of_ble_eq_true rfl, Nat.le_of_ble_eq_true rfl⟩ (zs_in (by decide) mf20 (Nat.le_of_ble_eq_true rfl) ?_) (fun _ _ q => q)
      show zGo X l 0 0 0 20 0 [(0, .int (0 : Int32)), (1, .int (zI M 155 1))] [] w25M _
      refine zs_iload_n (pc := 0) t20_0 rfl ?_
      refine zs_iload_n (pc := 1) t20_1 rfl ?_
      refine zs_icmp_gtF (pc := 2) t20_2 li0 rfl (by omega) ?_
      refine zs_iload_n (pc := 5) t20_5 rfl ?_
      refine zs_goto (pc := 6) t20_6 ?_
      refine zs_iret (pc := 10) t20_10 mr20 (by decide) ?_
      show zGo X l 1 0 0 19 10 [(0, .ref 155), (1, .int (0 : Int32))] [.int (0 : Int32), .int (0 : Int32), .ref 155] w25M _
      refine zs_invS (pc := 10) (as := [.int (0 : Int32), .int (0 : Int32)]) (st := [.ref 155]) t19_10 (by decide) mf21 rfl rfl ⟨by decide, by decide, Nat.le_of_ble_eq_true rfl, Nat.le_of_ble_eq_true rfl⟩ (zs_in (by decide) mf21 (Nat.le_of_ble_eq_true rfl) ?_) (fun _ _ q => q)
      show zGo X l 0 0 0 21 0 [(0, .int (0 : Int32)), (1, .int (0 : Int32))] [] w25M _
      refine zs_iload_n (pc := 0) t21_0 rfl ?_
      refine zs_iload_n (pc := 1) t21_1 rfl ?_
      refine zs_icmp_ltF (pc := 2) t21_2 li0 li0 (by decide) ?_
      refine zs_iload_n (pc := 5) t21_5 rfl ?_
      refine zs_goto (pc := 6) t21_6 ?_
      refine zs_iret (pc := 10) t21_10 mr21 (by decide) ?_
      show zGo X l 1 0 0 19 13 [(0, .ref 155), (1, .int (0 : Int32))] [.int (0 : Int32), .ref 155] w25M _
      have w26 : zIv cLo cHi (zsI w25M 155 1 (0 : Int32)) := zIv.put w25I (show 0 ≤ (0 : Int32).toInt ∧ (0 : Int32).toInt ≤ 500 from ⟨by decide, by decide⟩)
      refine zs_putI (pc := 13) t19_13 (zk1 (w25s.k fk_zMc_155)) rfl ?_
      refine zs_vret (pc := 16) t19_16 mr19 ?_
      show zGo X l 99 0 0 62 106 [(1, .int (zI w13M 161 4)), (0, .ref 6)] [] (zsI w25M 155 1 (0 : Int32)) _
      refine zs_aload_n (pc := 106) t62_106 rfl ?_
      refine zs_get (pc := 107) t62_107 (by decide) (zk1 (w25s.k fk_zMc_6)) (zfvi rfl ((zIo (by decide)).trans ((w25F 6 11 rfl).trans ((zIo (by decide)).trans ((w21F 6 11 rfl).trans zIs))))) ?_
      refine zs_iconst (pc := 110) t62_110 (v := -1) (by decide) ?_
      refine zs_icmp_neF (pc := 111) t62_111 rfl lin1 (by omega) ?_
      refine zs_iload_n (pc := 114) t62_114 rfl ?_
      refine zs_goto (pc := 115) t62_115 ?_
      have w27 : (zI (zsI w25M 155 1 (0 : Int32)) 155 1).toInt = 0 := (congrArg Int32.toInt zIs).trans li0
      exact zs_iret (pc := 119) t62_119 mr62 rfl (hQ _ _ w25s w26 ((((((((zFr.refl).put rfl).trans (w13F.mono rfl)).put rfl).trans (w21F.mono rfl)).put rfl).trans (w25F.mono rfl)).put rfl) (by omega) (zrg _).1 (zrg _).2)
theorem T180_6 {X : zX} {l : Launch} {M : zM} {Q : Option Value → zM → Prop} (hs : zSk zMc M) (hI : zIv cLo cHi M) (hQ : ∀ (M' : zM) (v : Int32), zSk zMc M' → zIv cLo cHi M' → zFr [(6, 154, none), (155, 155, some 0), (155, 155, some 2), (155, 155, some 3), (155, 155, some 4), (155, 155, some 5), (157, 335, none)] M M' → 0 ≤ v.toInt → v.toInt ≤ 1 → Q (some (.int v)) M') : zCall X l 99 0 0 180 [.ref 6] M Q := by
  refine zs_inD (by decide) mf180 (Nat.le_of_ble_eq_true rfl) ?_
  show zGo X l 99 0 0 180 0 [(0, .ref 6)] [] M _
  refine zs_aload_n (pc := 0) t180_0 rfl ?_
  refine zs_get (pc := 1) t180_1 (by decide) (zk1 (hs.k fk_zMc_6)) (hs.p rfl fv_zMc_6_0) ?_
  have w1 := ib7_13 hI
  refine zs_get (pc := 4) t180_4 (by decide) (zk1 (hs.k fk_zMc_7)) (zfvi rfl rfl) ?_
  by_cases w2 : (zI M 7 13).toInt ≠ 0
  · refine zs_if_neT (pc := 7) t180_7 rfl (by omega) ?_
    refine zs_iconst (pc := 12) t180_12 (v := 0) (by decide) ?_
    refine zs_istore_n (pc := 13) t180_13 (ls' := [(1, .int (0 : Int32)), (0, .ref 6)]) (zml mf180 (by decide)) rfl ?_
    have w3L : ∀ (m : Nat) (w3x1 : Int32) (w3M : zM), (0 ≤ w3x1.toInt ∧ w3x1.toInt ≤ 8) → zSk zMc w3M → zIv cLo cHi w3M → zFr [(6, 154, none), (155, 155, some 0), (155, 155, some 2), (155, 155, some 3), (155, 155, some 4), (155, 155, some 5), (157, 335, none)] M w3M → 8 - w3x1.toInt ≤ (m : Int) → zGo X l 99 0 0 180 14 [(0, .ref 6), (1, .int w3x1)] [] w3M Q := by
      intro m
      induction m using Nat.strongRecOn with
      | ind w3m w3ih =>
        intro w3x1 w3M w3b1 w3s w3I w3F w3q
        refine zs_iload_n (pc := 14) t180_14 rfl ?_
        refine zs_ldc_ws (pc := 15) t180_15 (by decide) ?_
        refine zs_invV (pc := 18) (k := 4) (as' := []) (st := [.int w3x1]) t180_18 mf6 rfl rfl (Or.inr ⟨rfl, rfl⟩) ⟨by decide, by decide, Nat.le_of_ble_eq_true rfl, Nat.le_of_ble_eq_true rfl⟩ (zs_in (by decide) mf6 (Nat.le_of_ble_eq_true rfl) ?_) (fun _ _ q => q)
        show zGo X l 1 0 0 6 0 [(0, .ref 4)] [] w3M _
        refine zs_aload_n (pc := 0) t6_0 rfl ?_
        refine zs_gets (pc := 1) t6_1 (v := .ref 5) rfl ?_
        refine zs_alen (pc := 4) t6_4 (by decide) (zk3 (w3s.k fk_zMc_5) (by decide)) (zk4 (w3s.k fk_zMc_5)) (v := 8) (by decide) ?_
        refine zs_aload_n (pc := 5) t6_5 rfl ?_
        refine zs_invV (pc := 6) (k := 4) (as' := []) (st := [.int (8 : Int32)]) t6_6 mf7 rfl rfl (Or.inr ⟨rfl, rfl⟩) ⟨by decide, by decide, Nat.le_of_ble_eq_true rfl, Nat.le_of_ble_eq_true rfl⟩ (zs_in (by decide) mf7 (Nat.le_of_ble_eq_true rfl) ?_) (fun _ _ q => q)
        show zGo X l 0 0 0 7 0 [(0, .ref 4)] [] w3M _
        refine zs_getstatic (pc := 0) t7_0 (v := .int 1) rfl ?_
        refine zs_if_eqF (pc := 3) t7_3 li1 (by decide) ?_
        refine zs_aload_n (pc := 6) t7_6 rfl ?_
        refine zs_gets (pc := 7) t7_7 (v := .int (0 : Int32)) rfl ?_
        refine zs_goto (pc := 10) t7_10 ?_
        refine zs_iret (pc := 14) t7_14 mr7 (by decide) ?_
        show zGo X l 1 0 0 6 9 [(0, .ref 4)] [.int (0 : Int32), .int (8 : Int32)] w3M _
        refine zs_ishr (pc := 9) t6_9 (c := 8) (by decide) ?_
        refine zs_iret (pc := 10) t6_10 mr6 (by decide) ?_
        show zGo X l 99 0 0 180 21 [(0, .ref 6), (1, .int w3x1)] [.int (8 : Int32), .int w3x1] w3M _
        by_cases w4 : 8 ≤ w3x1.toInt
        · refine zs_icmp_geT (pc := 21) t180_21 rfl li8 (by omega) ?_
          refine zs_aload_n (pc := 66) t180_66 rfl ?_
          refine zs_get (pc := 67) t180_67 (by decide) (zk1 (w3s.k fk_zMc_6)) (w3s.p rfl fv_zMc_6_5) ?_
          refine zs_aload_n (pc := 70) t180_70 rfl ?_
          refine zs_get (pc := 71) t180_71 (by decide) (zk1 (w3s.k fk_zMc_6)) (w3s.p rfl fv_zMc_6_0) ?_
          refine zs_get (pc := 74) t180_74 (by decide) (zk1 (w3s.k fk_zMc_7)) (w3s.p rfl fv_zMc_7_14) ?_
          refine zs_aload_n (pc := 77) t180_77 rfl ?_
          refine zs_get (pc := 78) t180_78 (by decide) (zk1 (w3s.k fk_zMc_6)) (w3s.p rfl fv_zMc_6_0) ?_
          have w5 := ib7_13 w3I
          refine zs_get (pc := 81) t180_81 (by decide) (zk1 (w3s.k fk_zMc_7)) (zfvi rfl rfl) ?_
          refine zs_invV9 (pc := 84) (k := 161) (as' := [.ref 18, .int (zI w3M 7 13)]) (st := []) t180_84 mf64 rfl rfl (Or.inl ⟨by decide, (zk1 (w3s.k fk_zMc_161))⟩) ⟨by decide, Nat.le_of_ble_eq_true rfl, Nat.le_of_ble_eq_true rfl⟩ (C64_161_18 w3s w3I ?_) (fun _ _ q => q)
          intro w6M w6v w6s w6I w6F w6a w6b
          show zGo X l 99 0 0 180 87 [(0, .ref 6), (1, .int w3x1)] [.int w6v] w6M _
          by_cases w7 : w6v.toInt = 0
          · refine zs_if_eqT (pc := 87) t180_87 rfl (by omega) ?_
            refine zs_iconst (pc := 94) t180_94 (v := 0) (by decide) ?_
            exact zs_iret (pc := 95) t180_95 mr180 (by decide) (hQ _ _ w6s w6I (((zFr.refl).trans (w3F.mono rfl)).trans (w6F.mono rfl)) (by decide) (by decide))
          · refine zs_if_eqF (pc := 87) t180_87 rfl (by omega) ?_
            refine zs_iconst (pc := 90) t180_90 (v := 1) (by decide) ?_
            refine zs_goto (pc := 91) t180_91 ?_
            exact zs_iret (pc := 95) t180_95 mr180 (by decide) (hQ _ _ w6s w6I (((zFr.refl).trans (w3F.mono rfl)).trans (w6F.mono rfl)) (by decide) (by decide))
        · refine zs_icmp_geF (pc := 21) t180_21 rfl li8 (by omega) ?_
          refine zs_aload_n (pc := 24) t180_24 rfl ?_
          refine zs_get (pc := 25) t180_25 (by decide) (zk1 (w3s.k fk_zMc_6)) (w3s.p rfl fv_zMc_6_0) ?_
          refine zs_ldc_ws (pc := 28) t180_28 (by decide) ?_
          refine zs_iload_n (pc := 31) t180_31 rfl ?_
          refine zs_invV (pc := 32) (k := 4) (as' := [.int w3x1]) (st := [.ref 7]) t180_32 mf181 rfl rfl (Or.inr ⟨rfl, rfl⟩) ⟨by decide, by decide, Nat.le_of_ble_eq_true rfl, Nat.le_of_ble_eq_true rfl⟩ (C181_4 w3s w3I ⟨by omega, by omega⟩ ?_) (fun _ _ q => q)
          intro w8v w8a w8b
          show zGo X l 99 0 0 180 35 [(0, .ref 6), (1, .int w3x1)] [.int w8v, .ref 7] w3M _
          refine zs_invV (pc := 35) (k := 7) (as' := [.int w8v]) (st := []) t180_35 mf185 rfl rfl (Or.inl ⟨by decide, (zk1 (w3s.k fk_zMc_7))⟩) ⟨by decide, by decide, Nat.le_of_ble_eq_true rfl, Nat.le_of_ble_eq_true rfl⟩ (C185_7 w3s w3I ⟨by omega, by omega⟩ ?_) (fun _ _ q => q)
          intro w9v w9a w9b
          show zGo X l 99 0 0 180 38 [(0, .ref 6), (1, .int w3x1)] [.int w9v] w3M _
          by_cases w10 : w9v.toInt = 0
          · refine zs_if_eqT (pc := 38) t180_38 rfl (by omega) ?_
            obtain ⟨w11v, w11e, w11⟩ := ziadd (a := w3x1) (b := Int32.ofInt 1) rfl (show (Int32.ofInt 1).toInt = 1 by decide) (by omega) (by omega)
            refine zs_iinc (pc := 60) t180_60 (ls' := [(1, .int w11v), (0, .ref 6)]) (zml mf180 (by decide)) rfl (c := w11v) w11e rfl ?_
            refine zs_goto (pc := 63) t180_63 ?_
            refine zGo.locals (ls' := [(0, .ref 6), (1, .int w11v)]) (by simp) ?_
            exact w3ih (w3m - 1) (by omega) w11v w3M ⟨by omega, by omega⟩ w3s w3I ((zFr.refl).trans (w3F.mono rfl)) (by omega)
          · refine zs_if_eqF (pc := 38) t180_38 rfl (by omega) ?_
            refine zs_aload_n (pc := 41) t180_41 rfl ?_
            refine zs_get (pc := 42) t180_42 (by decide) (zk1 (w3s.k fk_zMc_6)) (w3s.p rfl fv_zMc_6_5) ?_
            refine zs_iload_n (pc := 45) t180_45 rfl ?_
            refine zs_aload_n (pc := 46) t180_46 rfl ?_
            refine zs_ldc_ws (pc := 47) t180_47 (by decide) ?_
            refine zs_iload_n (pc := 50) t180_50 rfl ?_
            refine zs_invV (pc := 51) (k := 4) (as' := [.int w3x1]) (st := [.ref 6, .int w3x1, .ref 161]) t180_51 mf181 rfl rfl (Or.inr ⟨rfl, rfl⟩) ⟨by decide, by decide, Nat.le_of_ble_eq_true rfl, Nat.le_of_ble_eq_true rfl⟩ (C181_4 w3s w3I ⟨by omega, by omega⟩ ?_) (fun _ _ q => q)
            intro w12v w12a w12b
            show zGo X l 99 0 0 180 54 [(0, .ref 6), (1, .int w3x1)] [.int w12v, .ref 6, .int w3x1, .ref 161] w3M _
            refine zs_invV (pc := 54) (k := 6) (as' := [.int w12v]) (st := [.int w3x1, .ref 161]) t180_54 mf151 rfl rfl (Or.inl ⟨by decide, (zk1 (w3s.k fk_zMc_6))⟩) ⟨by decide, by decide, Nat.le_of_ble_eq_true rfl, Nat.le_of_ble_eq_true rfl⟩ (T151_6 w3s w3I ?_) (fun _ _ q => q)
            intro w13M w13v w13s w13I w13F w13a w13b
            show zGo X l 99 0 0 180 57 [(0, .ref 6), (1, .int w3x1)] [.int w13v, .int w3x1, .ref 161] w13M _
            refine zs_invV (pc := 57) (k := 161) (as' := [.int w3x1, .int w13v]) (st := []) t180_57 mf186 rfl rfl (Or.inl ⟨by decide, (zk1 (w13s.k fk_zMc_161))⟩) ⟨by decide, by decide, Nat.le_of_ble_eq_true rfl, Nat.le_of_ble_eq_true rfl⟩ (zs_in (by decide) mf186 (Nat.le_of_ble_eq_true rfl) ?_) (fun _ _ q => q)
            show zGo X l 0 0 0 186 0 [(0, .ref 161), (1, .int w3x1), (2, .int w13v)] [] w13M _
            refine zs_iload_n (pc := 0) t186_0 rfl ?_
            refine zs_if_ltF (pc := 1) t186_1 rfl (by omega) ?_
            refine zs_iload_n (pc := 4) t186_4 rfl ?_
            refine zs_aload_n (pc := 5) t186_5 rfl ?_
            refine zs_get (pc := 6) t186_6 (by decide) (zk1 (w13s.k fk_zMc_161)) (w13s.p rfl fv_zMc_161_0) ?_
            refine zs_alen (pc := 9) t186_9 (by decide) (zk3 (w13s.k fk_zMc_162) (by decide)) (zk4 (w13s.k fk_zMc_162)) (v := 8) (by decide) ?_
            refine zs_icmp_geF (pc := 10) t186_10 rfl li8 (by omega) ?_
            refine zs_aload_n (pc := 13) t186_13 rfl ?_
            refine zs_get (pc := 14) t186_14 (by decide) (zk1 (w13s.k fk_zMc_161)) (w13s.p rfl fv_zMc_161_0) ?_
            refine zs_iload_n (pc := 17) t186_17 rfl ?_
            refine zs_iload_n (pc := 18) t186_18 rfl ?_
            obtain ⟨w14n, w14⟩ : ∃ n : Nat, w3x1.toInt = (n : Int) := ⟨w3x1.toInt.toNat, by omega⟩
            have w15 : zIv cLo cHi (zsI w13M 162 w14n w13v) := zIv.put w13I (show (-2147483648) ≤ w13v.toInt ∧ w13v.toInt ≤ 2147483647 from (zrg w13v))
            refine zs_iast (pc := 19) t186_19 (j := w14n) (by decide) (zk1 (w13s.k fk_zMc_162)) w14 (zk2 (w13s.k fk_zMc_162) (by omega)) ?_
            refine zs_vret (pc := 20) t186_20 mr186 ?_
            show zGo X l 99 0 0 180 60 [(0, .ref 6), (1, .int w3x1)] [] (zsI w13M 162 w14n w13v) _
            obtain ⟨w16v, w16e, w16⟩ := ziadd (a := w3x1) (b := Int32.ofInt 1) rfl (show (Int32.ofInt 1).toInt = 1 by decide) (by omega) (by omega)
            refine zs_iinc (pc := 60) t180_60 (ls' := [(1, .int w16v), (0, .ref 6)]) (zml mf180 (by decide)) rfl (c := w16v) w16e rfl ?_
            refine zs_goto (pc := 63) t180_63 ?_
            refine zGo.locals (ls' := [(0, .ref 6), (1, .int w16v)]) (by simp) ?_
            exact w3ih (w3m - 1) (by omega) w16v (zsI w13M 162 w14n w13v) ⟨by omega, by omega⟩ w13s w15 ((((zFr.refl).trans (w3F.mono rfl)).trans (w13F.mono rfl)).put rfl) (by omega)
    refine zGo.locals (ls' := [(0, .ref 6), (1, .int (0 : Int32))]) (by simp) ?_
    have w17 := li0
    exact w3L ((8 - 0 : Int).toNat) (0 : Int32) M ⟨by decide, by decide⟩ hs hI zFr.refl (by omega)
  · refine zs_if_neF (pc := 7) t180_7 rfl (by omega) ?_
    refine zs_iconst (pc := 10) t180_10 (v := 0) (by decide) ?_
    exact zs_iret (pc := 11) t180_11 mr180 (by decide) (hQ _ _ hs hI (zFr.refl) (by decide) (by decide))
