theorem C84_157_155 {X : zX} {l : Launch} {M : zM} {Q : Option Value → zM → Prop} {a : Int32} (hs : zSk zMc M) (hI : zIv cLo cHi M) (ha : 0 ≤ a.toInt ∧ a.toInt ≤ 19) (hQ : ∀ (M' : zM) (v : Int32), zSk zMc M' → zIv cLo cHi M' → zFr [(157, 160, none), (155, 155, none)] M M' → 0 ≤ v.toInt → v.toInt ≤ 1 → Q (some (.int v)) M') : zCall X l 3 0 0 84 [.ref 157, .ref 155, .int a] M Q := by
  have ga := zrg a
  refine zs_in (by decide) mf84 (Nat.le_of_ble_eq_true rfl) ?_
  show zGo X l 3 0 0 84 0 [(0, .ref 157), (1, .ref 155), (2, .int a)] [] M _
  refine zs_aload_n (pc := 0) t84_0 rfl ?_
  refine zs_invV (pc := 1) (k := 155) (as' := []) (st := []) t84_1 mf29 rfl rfl (Or.inl ⟨by decide, (zk1 (hs.k fk_zMc_155))⟩) ⟨by decide, by decide, Nat.le_of_ble_eq_true rfl, Nat.le_of_ble_eq_true rfl⟩ (zs_in (by decide) mf29 (Nat.le_of_ble_eq_true rfl) ?_) (fun _ _ q => q)
  show zGo X l 0 0 0 29 0 [(0, .ref 155)] [] M _
  refine zs_aload_n (pc := 0) t29_0 rfl ?_
  have w1 := ib155_2 hI
  refine zs_get (pc := 1) t29_1 (by decide) (zk1 (hs.k fk_zMc_155)) (zfvi rfl rfl) ?_
  refine zs_iret (pc := 4) t29_4 mr29 rfl ?_
  show zGo X l 3 0 0 84 4 [(0, .ref 157), (1, .ref 155), (2, .int a)] [.int (zI M 155 2)] M _
  refine zs_istore_n (pc := 4) t84_4 (ls' := [(3, .int (zI M 155 2)), (0, .ref 157), (1, .ref 155), (2, .int a)]) (zml mf84 (by decide)) rfl ?_
  refine zs_aload_n (pc := 5) t84_5 rfl ?_
  refine zs_invV (pc := 6) (k := 155) (as' := []) (st := []) t84_6 mf30 rfl rfl (Or.inl ⟨by decide, (zk1 (hs.k fk_zMc_155))⟩) ⟨by decide, by decide, Nat.le_of_ble_eq_true rfl, Nat.le_of_ble_eq_true rfl⟩ (C30_155 hs hI ?_) (fun _ _ q => q)
  intro w2M w2v w2s w2I w2F w2a w2b
  show zGo X l 3 0 0 84 9 [(3, .int (zI M 155 2)), (0, .ref 157), (1, .ref 155), (2, .int a)] [.int w2v] w2M _
  refine zs_istore (pc := 9) t84_9 (ls' := [(4, .int w2v), (3, .int (zI M 155 2)), (0, .ref 157), (1, .ref 155), (2, .int a)]) (zml mf84 (by decide)) rfl ?_
  refine zs_iload (pc := 11) t84_11 rfl ?_
  refine zs_invS (pc := 13) (as := [.int w2v]) (st := []) t84_13 (by decide) mf85 rfl rfl ⟨by decide, by decide, Nat.le_of_ble_eq_true rfl, Nat.le_of_ble_eq_true rfl⟩ (C85 w2s w2I ?_) (fun _ _ q => q)
  intro w3v w3a w3b
  show zGo X l 3 0 0 84 16 [(4, .int w2v), (3, .int (zI M 155 2)), (0, .ref 157), (1, .ref 155), (2, .int a)] [.int w3v] w2M _
  refine zs_istore (pc := 16) t84_16 (ls' := [(5, .int w3v), (4, .int w2v), (3, .int (zI M 155 2)), (0, .ref 157), (1, .ref 155), (2, .int a)]) (zml mf84 (by decide)) rfl ?_
  refine zs_iload (pc := 18) t84_18 rfl ?_
  by_cases w4 : w3v.toInt ≠ 0
  · refine zs_if_neT (pc := 20) t84_20 rfl (by omega) ?_
    refine zs_aload_n (pc := 29) t84_29 rfl ?_
    refine zs_get (pc := 30) t84_30 (by decide) (zk1 (w2s.k fk_zMc_157)) (w2s.p rfl fv_zMc_157_1) ?_
    refine zs_iload_n (pc := 33) t84_33 rfl ?_
    refine zs_iload (pc := 34) t84_34 rfl ?_
    obtain ⟨w5n, w5⟩ : ∃ n : Nat, a.toInt = (n : Int) := ⟨a.toInt.toNat, by omega⟩
    have w6 : zIv cLo cHi (zsI w2M 159 w5n w2v) := zIv.put w2I (show (-2147483648) ≤ w2v.toInt ∧ w2v.toInt ≤ 2147483647 from (zrg w2v))
    refine zs_iast (pc := 36) t84_36 (j := w5n) (by decide) (zk1 (w2s.k fk_zMc_159)) w5 (zk2 (w2s.k fk_zMc_159) (by omega)) ?_
    refine zs_iconst (pc := 37) t84_37 (v := 0) (by decide) ?_
    refine zs_istore (pc := 38) t84_38 (ls' := [(6, .int (0 : Int32)), (5, .int w3v), (4, .int w2v), (3, .int (zI M 155 2)), (0, .ref 157), (1, .ref 155), (2, .int a)]) (zml mf84 (by decide)) rfl ?_
    have w7L : ∀ (m : Nat) (w7x6 : Int32) (w7M : zM), (0 ≤ w7x6.toInt ∧ w7x6.toInt ≤ 3) → zSk zMc w7M → zIv cLo cHi w7M → zFr [(157, 160, none), (155, 155, none)] (zsI w2M 159 w5n w2v) w7M → 3 - w7x6.toInt ≤ (m : Int) → zGo X l 3 0 0 84 40 [(0, .ref 157), (1, .ref 155), (2, .int a), (3, .int (zI M 155 2)), (4, .int w2v), (5, .int w3v), (6, .int w7x6)] [] w7M Q := by
      intro m
      induction m using Nat.strongRecOn with
      | ind w7m w7ih =>
        intro w7x6 w7M w7b6 w7s w7I w7F w7q
        refine zs_iload (pc := 40) t84_40 rfl ?_
        refine zs_iload (pc := 42) t84_42 rfl ?_
        by_cases w8 : w3v.toInt ≤ w7x6.toInt
        · refine zs_icmp_geT (pc := 44) t84_44 rfl rfl (by omega) ?_
          refine zs_iconst (pc := 102) t84_102 (v := 1) (by decide) ?_
          exact zs_iret (pc := 103) t84_103 mr84 (by decide) (hQ _ _ w7s w7I ((((zFr.refl).trans (w2F.mono rfl)).put rfl).trans (w7F.mono rfl)) (by decide) (by decide))
        · refine zs_icmp_geF (pc := 44) t84_44 rfl rfl (by omega) ?_
          refine zs_aload_n (pc := 47) t84_47 rfl ?_
          refine zs_invV (pc := 48) (k := 155) (as' := []) (st := []) t84_48 mf35 rfl rfl (Or.inl ⟨by decide, (zk1 (w7s.k fk_zMc_155))⟩) ⟨by decide, by decide, Nat.le_of_ble_eq_true rfl, Nat.le_of_ble_eq_true rfl⟩ (C35_155 w7s w7I ?_) (fun _ _ q => q)
          intro w9M w9v w9s w9I w9F w9a w9b
          show zGo X l 3 0 0 84 51 [(0, .ref 157), (1, .ref 155), (2, .int a), (3, .int (zI M 155 2)), (4, .int w2v), (5, .int w3v), (6, .int w7x6)] [.int w9v] w9M _
          by_cases w10 : w9v.toInt ≠ 0
          · refine zs_if_neT (pc := 51) t84_51 rfl (by omega) ?_
            refine zs_aload_n (pc := 56) t84_56 rfl ?_
            refine zs_get (pc := 57) t84_57 (by decide) (zk1 (w9s.k fk_zMc_157)) (w9s.p rfl fv_zMc_157_2) ?_
            refine zs_iload_n (pc := 60) t84_60 rfl ?_
            refine zs_iconst (pc := 61) t84_61 (v := 4) (by decide) ?_
            obtain ⟨w11v, w11⟩ : ∃ v, a * (4 : Int32) = v := ⟨_, rfl⟩
            have w11g : w11v.toInt = a.toInt * 4 := by rw [← w11]; exact zmulc rfl li4 (by omega) (by omega)
            refine zs_imul (pc := 62) t84_62 (c := w11v) w11 ?_
            refine zs_iload (pc := 63) t84_63 rfl ?_
            obtain ⟨w12v, w12e, w12⟩ := ziadd (a := w11v) (b := w7x6) rfl rfl (by omega) (by omega)
            refine zs_iadd (pc := 65) t84_65 (c := w12v) w12e ?_
            refine zs_aload_n (pc := 66) t84_66 rfl ?_
            refine zs_invV (pc := 67) (k := 155) (as' := []) (st := [.int w12v, .ref 160]) t84_67 mf37 rfl rfl (Or.inl ⟨by decide, (zk1 (w9s.k fk_zMc_155))⟩) ⟨by decide, by decide, Nat.le_of_ble_eq_true rfl, Nat.le_of_ble_eq_true rfl⟩ (zs_in (by decide) mf37 (Nat.le_of_ble_eq_true rfl) ?_) (fun _ _ q => q)
            show zGo X l 0 0 0 37 0 [(0, .ref 155)] [] w9M _
            refine zs_aload_n (pc := 0) t37_0 rfl ?_
            have w13 := ib155_4 w9I
            refine zs_get (pc := 1) t37_1 (by decide) (zk1 (w9s.k fk_zMc_155)) (zfvi rfl rfl) ?_
            refine zs_iret (pc := 4) t37_4 mr37 rfl ?_
            show zGo X l 3 0 0 84 70 [(0, .ref 157), (1, .ref 155), (2, .int a), (3, .int (zI M 155 2)), (4, .int w2v), (5, .int w3v), (6, .int w7x6)] [.int (zI w9M 155 4), .int w12v, .ref 160] w9M _
            obtain ⟨w14n, w14⟩ : ∃ n : Nat, w12v.toInt = (n : Int) := ⟨w12v.toInt.toNat, by omega⟩
            have w15 : zIv cLo cHi (zsI w9M 160 w14n (zI w9M 155 4)) := zIv.put w9I (show (-2147483648) ≤ (zI w9M 155 4).toInt ∧ (zI w9M 155 4).toInt ≤ 2147483647 from (zrg (zI w9M 155 4)))
            refine zs_iast (pc := 70) t84_70 (j := w14n) (by decide) (zk1 (w9s.k fk_zMc_160)) w14 (zk2 (w9s.k fk_zMc_160) (by omega)) ?_
            refine zs_aload_n (pc := 71) t84_71 rfl ?_
            refine zs_iload (pc := 72) t84_72 rfl ?_
            refine zs_iconst (pc := 74) t84_74 (v := 1) (by decide) ?_
            obtain ⟨w16v, w16e, w16⟩ := ziadd (a := w7x6) (b := (1 : Int32)) rfl li1 (by omega) (by omega)
            refine zs_iadd (pc := 75) t84_75 (c := w16v) w16e ?_
            refine zs_iload (pc := 76) t84_76 rfl ?_
            by_cases w17 : w3v.toInt ≤ (w7x6.toInt + 1)
            · refine zs_icmp_geT (pc := 78) t84_78 w16 rfl (by omega) ?_
              refine zs_bipush (pc := 86) t84_86 (v := 59) (by decide) ?_
              refine zs_invV (pc := 88) (k := 155) (as' := [.int (59 : Int32)]) (st := []) t84_88 mf47 rfl rfl (Or.inl ⟨by decide, (zk1 (w9s.k fk_zMc_155))⟩) ⟨by decide, by decide, Nat.le_of_ble_eq_true rfl, Nat.le_of_ble_eq_true rfl⟩ (zs_in (by decide) mf47 (Nat.le_of_ble_eq_true rfl) ?_) (fun _ _ q => q)
              show zGo X l 1 0 0 47 0 [(0, .ref 155), (1, .int (59 : Int32))] [] (zsI w9M 160 w14n (zI w9M 155 4)) _
              refine zs_aload_n (pc := 0) t47_0 rfl ?_
              refine zs_invV (pc := 1) (k := 155) (as' := []) (st := []) t47_1 mf31 rfl rfl (Or.inl ⟨by decide, (zk1 (w9s.k fk_zMc_155))⟩) ⟨by decide, by decide, Nat.le_of_ble_eq_true rfl, Nat.le_of_ble_eq_true rfl⟩ (C31_155 w9s w15 ?_) (fun _ _ q => q)
              intro w18v w18a w18b
              show zGo X l 1 0 0 47 4 [(0, .ref 155), (1, .int (59 : Int32))] [.int w18v] (zsI w9M 160 w14n (zI w9M 155 4)) _
              refine zs_iload_n (pc := 4) t47_4 rfl ?_
              by_cases w19 : w18v.toInt = 59
              · refine zs_icmp_eqT (pc := 5) t47_5 rfl li59 (by omega) ?_
                refine zs_aload_n (pc := 17) t47_17 rfl ?_
                refine zs_dup (pc := 18) t47_18 rfl ?_
                have w20 := ib155_2 w9I
                refine zs_get (pc := 19) t47_19 (by decide) (zk1 (w9s.k fk_zMc_155)) (zfvi rfl ((zIo (by decide)).trans rfl)) ?_
                refine zs_iconst (pc := 22) t47_22 (v := 1) (by decide) ?_
                obtain ⟨w21v, w21⟩ : ∃ v, v = (zI w9M 155 2) + (1 : Int32) := ⟨_, rfl⟩
                have w21g := zrg w21v
                refine zs_iadd (pc := 23) t47_23 (c := w21v) w21.symm ?_
                have w22 : zIv cLo cHi (zsI (zsI w9M 160 w14n (zI w9M 155 4)) 155 2 w21v) := zIv.put w15 (show (-2147483648) ≤ w21v.toInt ∧ w21v.toInt ≤ 2147483647 from (zrg w21v))
                refine zs_putI (pc := 24) t47_24 (zk1 (w9s.k fk_zMc_155)) rfl ?_
                refine zs_iconst (pc := 27) t47_27 (v := 1) (by decide) ?_
                refine zs_iret (pc := 28) t47_28 mr47 (by decide) ?_
                show zGo X l 3 0 0 84 91 [(0, .ref 157), (1, .ref 155), (2, .int a), (3, .int (zI M 155 2)), (4, .int w2v), (5, .int w3v), (6, .int w7x6)] [.int (1 : Int32)] (zsI (zsI w9M 160 w14n (zI w9M 155 4)) 155 2 w21v) _
                refine zs_if_neT (pc := 91) t84_91 li1 (by decide) ?_
                obtain ⟨w23v, w23e, w23⟩ := ziadd (a := w7x6) (b := Int32.ofInt 1) rfl (show (Int32.ofInt 1).toInt = 1 by decide) (by omega) (by omega)
                refine zs_iinc (pc := 96) t84_96 (ls' := [(6, .int w23v), (0, .ref 157), (1, .ref 155), (2, .int a), (3, .int (zI M 155 2)), (4, .int w2v), (5, .int w3v)]) (zml mf84 (by decide)) rfl (c := w23v) w23e rfl ?_
                refine zs_goto (pc := 99) t84_99 ?_
                refine zGo.locals (ls' := [(0, .ref 157), (1, .ref 155), (2, .int a), (3, .int (zI M 155 2)), (4, .int w2v), (5, .int w3v), (6, .int w23v)]) (by simp) ?_
                exact w7ih (w7m - 1) (by omega) w23v (zsI (zsI w9M 160 w14n (zI w9M 155 4)) 155 2 w21v) ⟨by omega, by omega⟩ w9s w22 (((((zFr.refl).trans (w7F.mono rfl)).trans (w9F.mono rfl)).put rfl).put rfl) (by omega)
              · refine zs_icmp_eqF (pc := 5) t47_5 rfl li59 (by omega) ?_
                refine zs_aload_n (pc := 8) t47_8 rfl ?_
                refine zs_aload_n (pc := 9) t47_9 rfl ?_
                have w24 := ib155_2 w9I
                refine zs_get (pc := 10) t47_10 (by decide) (zk1 (w9s.k fk_zMc_155)) (zfvi rfl ((zIo (by decide)).trans rfl)) ?_
                refine zs_invV (pc := 13) (k := 155) (as' := [.int (zI w9M 155 2)]) (st := []) t47_13 mf34 rfl rfl (Or.inl ⟨by decide, (zk1 (w9s.k fk_zMc_155))⟩) ⟨by decide, by decide, Nat.le_of_ble_eq_true rfl, Nat.le_of_ble_eq_true rfl⟩ (zs_in (by decide) mf34 (Nat.le_of_ble_eq_true rfl) ?_) (fun _ _ q => q)
                show zGo X l 0 0 0 34 0 [(0, .ref 155), (1, .int (zI w9M 155 2))] [] (zsI w9M 160 w14n (zI w9M 155 4)) _
                refine zs_aload_n (pc := 0) t34_0 rfl ?_
                refine zs_iload_n (pc := 1) t34_1 rfl ?_
                have w25 : zIv cLo cHi (zsI (zsI w9M 160 w14n (zI w9M 155 4)) 155 3 (zI w9M 155 2)) := zIv.put w15 (show (-2147483648) ≤ (zI w9M 155 2).toInt ∧ (zI w9M 155 2).toInt ≤ 2147483647 from (zrg (zI w9M 155 2)))
                refine zs_putI (pc := 2) t34_2 (zk1 (w9s.k fk_zMc_155)) rfl ?_
                refine zs_iconst (pc := 5) t34_5 (v := 0) (by decide) ?_
                refine zs_iret (pc := 6) t34_6 mr34 (by decide) ?_
                show zGo X l 1 0 0 47 16 [(0, .ref 155), (1, .int (59 : Int32))] [.int (0 : Int32)] (zsI (zsI w9M 160 w14n (zI w9M 155 4)) 155 3 (zI w9M 155 2)) _
                refine zs_iret (pc := 16) t47_16 mr47 (by decide) ?_
                show zGo X l 3 0 0 84 91 [(0, .ref 157), (1, .ref 155), (2, .int a), (3, .int (zI M 155 2)), (4, .int w2v), (5, .int w3v), (6, .int w7x6)] [.int (0 : Int32)] (zsI (zsI w9M 160 w14n (zI w9M 155 4)) 155 3 (zI w9M 155 2)) _
                refine zs_if_neF (pc := 91) t84_91 li0 (by decide) ?_
                refine zs_iconst (pc := 94) t84_94 (v := 0) (by decide) ?_
                exact zs_iret (pc := 95) t84_95 mr84 (by decide) (hQ _ _ w9s w25 (((((((zFr.refl).trans (w2F.mono rfl)).put rfl).trans (w7F.mono rfl)).trans (w9F.mono rfl)).put rfl).put rfl) (by decide) (by decide))
            · refine zs_icmp_geF (pc := 78) t84_78 w16 rfl (by omega) ?_
              refine zs_bipush (pc := 81) t84_81 (v := 44) (by decide) ?_
              refine zs_goto (pc := 83) t84_83 ?_
              refine zs_invV (pc := 88) (k := 155) (as' := [.int (44 : Int32)]) (st := []) t84_88 mf47 rfl rfl (Or.inl ⟨by decide, (zk1 (w9s.k fk_zMc_155))⟩) ⟨by decide, by decide, Nat.le_of_ble_eq_true rfl, Nat.le_of_ble_eq_true rfl⟩ (zs_in (by decide) mf47 (Nat.le_of_ble_eq_true rfl) ?_) (fun _ _ q => q)
              show zGo X l 1 0 0 47 0 [(0, .ref 155), (1, .int (44 : Int32))] [] (zsI w9M 160 w14n (zI w9M 155 4)) _
              refine zs_aload_n (pc := 0) t47_0 rfl ?_
              refine zs_invV (pc := 1) (k := 155) (as' := []) (st := []) t47_1 mf31 rfl rfl (Or.inl ⟨by decide, (zk1 (w9s.k fk_zMc_155))⟩) ⟨by decide, by decide, Nat.le_of_ble_eq_true rfl, Nat.le_of_ble_eq_true rfl⟩ (C31_155 w9s w15 ?_) (fun _ _ q => q)
              intro w26v w26a w26b
              show zGo X l 1 0 0 47 4 [(0, .ref 155), (1, .int (44 : Int32))] [.int w26v] (zsI w9M 160 w14n (zI w9M 155 4)) _
              refine zs_iload_n (pc := 4) t47_4 rfl ?_
              by_cases w27 : w26v.toInt = 44
              · refine zs_icmp_eqT (pc := 5) t47_5 rfl li44 (by omega) ?_
                refine zs_aload_n (pc := 17) t47_17 rfl ?_
                refine zs_dup (pc := 18) t47_18 rfl ?_
                have w28 := ib155_2 w9I
                refine zs_get (pc := 19) t47_19 (by decide) (zk1 (w9s.k fk_zMc_155)) (zfvi rfl ((zIo (by decide)).trans rfl)) ?_
                refine zs_iconst (pc := 22) t47_22 (v := 1) (by decide) ?_
                obtain ⟨w29v, w29⟩ : ∃ v, v = (zI w9M 155 2) + (1 : Int32) := ⟨_, rfl⟩
                have w29g := zrg w29v
                refine zs_iadd (pc := 23) t47_23 (c := w29v) w29.symm ?_
                have w30 : zIv cLo cHi (zsI (zsI w9M 160 w14n (zI w9M 155 4)) 155 2 w29v) := zIv.put w15 (show (-2147483648) ≤ w29v.toInt ∧ w29v.toInt ≤ 2147483647 from (zrg w29v))
                refine zs_putI (pc := 24) t47_24 (zk1 (w9s.k fk_zMc_155)) rfl ?_
                refine zs_iconst (pc := 27) t47_27 (v := 1) (by decide) ?_
                refine zs_iret (pc := 28) t47_28 mr47 (by decide) ?_
                show zGo X l 3 0 0 84 91 [(0, .ref 157), (1, .ref 155), (2, .int a), (3, .int (zI M 155 2)), (4, .int w2v), (5, .int w3v), (6, .int w7x6)] [.int (1 : Int32)] (zsI (zsI w9M 160 w14n (zI w9M 155 4)) 155 2 w29v) _
                refine zs_if_neT (pc := 91) t84_91 li1 (by decide) ?_
                obtain ⟨w31v, w31e, w31⟩ := ziadd (a := w7x6) (b := Int32.ofInt 1) rfl (show (Int32.ofInt 1).toInt = 1 by decide) (by omega) (by omega)
                refine zs_iinc (pc := 96) t84_96 (ls' := [(6, .int w31v), (0, .ref 157), (1, .ref 155), (2, .int a), (3, .int (zI M 155 2)), (4, .int w2v), (5, .int w3v)]) (zml mf84 (by decide)) rfl (c := w31v) w31e rfl ?_
                refine zs_goto (pc := 99) t84_99 ?_
                refine zGo.locals (ls' := [(0, .ref 157), (1, .ref 155), (2, .int a), (3, .int (zI M 155 2)), (4, .int w2v), (5, .int w3v), (6, .int w31v)]) (by simp) ?_
                exact w7ih (w7m - 1) (by omega) w31v (zsI (zsI w9M 160 w14n (zI w9M 155 4)) 155 2 w29v) ⟨by omega, by omega⟩ w9s w30 (((((zFr.refl).trans (w7F.mono rfl)).trans (w9F.mono rfl)).put rfl).put rfl) (by omega)
              · refine zs_icmp_eqF (pc := 5) t47_5 rfl li44 (by omega) ?_
                refine zs_aload_n (pc := 8) t47_8 rfl ?_
                refine zs_aload_n (pc := 9) t47_9 rfl ?_
                have w32 := ib155_2 w9I
                refine zs_get (pc := 10) t47_10 (by decide) (zk1 (w9s.k fk_zMc_155)) (zfvi rfl ((zIo (by decide)).trans rfl)) ?_
                refine zs_invV (pc := 13) (k := 155) (as' := [.int (zI w9M 155 2)]) (st := []) t47_13 mf34 rfl rfl (Or.inl ⟨by decide, (zk1 (w9s.k fk_zMc_155))⟩) ⟨by decide, by decide, Nat.le_of_ble_eq_true rfl, Nat.le_of_ble_eq_true rfl⟩ (zs_in (by decide) mf34 (Nat.le_of_ble_eq_true rfl) ?_) (fun _ _ q => q)
                show zGo X l 0 0 0 34 0 [(0, .ref 155), (1, .int (zI w9M 155 2))] [] (zsI w9M 160 w14n (zI w9M 155 4)) _
                refine zs_aload_n (pc := 0) t34_0 rfl ?_
                refine zs_iload_n (pc := 1) t34_1 rfl ?_
                have w33 : zIv cLo cHi (zsI (zsI w9M 160 w14n (zI w9M 155 4)) 155 3 (zI w9M 155 2)) := zIv.put w15 (show (-2147483648) ≤ (zI w9M 155 2).toInt ∧ (zI w9M 155 2).toInt ≤ 2147483647 from (zrg (zI w9M 155 2)))
                refine zs_putI (pc := 2) t34_2 (zk1 (w9s.k fk_zMc_155)) rfl ?_
                refine zs_iconst (pc := 5) t34_5 (v := 0) (by decide) ?_
                refine zs_iret (pc := 6) t34_6 mr34 (by decide) ?_
                show zGo X l 1 0 0 47 16 [(0, .ref 155), (1, .int (44 : Int32))] [.int (0 : Int32)] (zsI (zsI w9M 160 w14n (zI w9M 155 4)) 155 3 (zI w9M 155 2)) _
                refine zs_iret (pc := 16) t47_16 mr47 (by decide) ?_
                show zGo X l 3 0 0 84 91 [(0, .ref 157), (1, .ref 155), (2, .int a), (3, .int (zI M 155 2)), (4, .int w2v), (5, .int w3v), (6, .int w7x6)] [.int (0 : Int32)] (zsI (zsI w9M 160 w14n (zI w9M 155 4)) 155 3 (zI w9M 155 2)) _
                refine zs_if_neF (pc := 91) t84_91 li0 (by decide) ?_
                refine zs_iconst (pc := 94) t84_94 (v := 0) (by decide) ?_
                exact zs_iret (pc := 95) t84_95 mr84 (by decide) (hQ _ _ w9s w33 (((((((zFr.refl).trans (w2F.mono rfl)).put rfl).trans (w7F.mono rfl)).trans (w9F.mono rfl)).put rfl).put rfl) (by decide) (by decide))
          · refine zs_if_neF (pc := 51) t84_51 rfl (by omega) ?_
            refine zs_iconst (pc := 54) t84_54 (v := 0) (by decide) ?_
            exact zs_iret (pc := 55) t84_55 mr84 (by decide) (hQ _ _ w9s w9I (((((zFr.refl).trans (w2F.mono rfl)).put rfl).trans (w7F.mono rfl)).trans (w9F.mono rfl)) (by decide) (by decide))
    refine zGo.locals (ls' := [(0, .ref 157), (1, .ref 155), (2, .int a), (3, .int (zI M 155 2)), (4, .int w2v), (5, .int w3v), (6, .int (0 : Int32))]) (by simp) ?_
    have w34 := li0
    exact w7L ((3 - 0 : Int).toNat) (0 : Int32) (zsI w2M 159 w5n w2v) ⟨by decide, by decide⟩ w2s w6 zFr.refl (by omega)
  · refine zs_if_neF (pc := 20) t84_20 rfl (by omega) ?_
    refine zs_aload_n (pc := 23) t84_23 rfl ?_
    refine zs_iload_n (pc := 24) t84_24 rfl ?_
    refine zs_invV (pc := 25) (k := 155) (as' := [.int (zI M 155 2)]) (st := []) t84_25 mf34 rfl rfl (Or.inl ⟨by decide, (zk1 (w2s.k fk_zMc_155))⟩) ⟨by decide, by decide, Nat.le_of_ble_eq_true rfl, Nat.le_of_ble_eq_true rfl⟩ (zs_in (by decide) mf34 (Nat.le_of_ble_eq_true rfl) ?_) (fun _ _ q => q)
    show zGo X l 0 0 0 34 0 [(0, .ref 155), (1, .int (zI M 155 2))] [] w2M _
    refine zs_aload_n (pc := 0) t34_0 rfl ?_
    refine zs_iload_n (pc := 1) t34_1 rfl ?_
    have w35 : zIv cLo cHi (zsI w2M 155 3 (zI M 155 2)) := zIv.put w2I (show (-2147483648) ≤ (zI M 155 2).toInt ∧ (zI M 155 2).toInt ≤ 2147483647 from (zrg (zI M 155 2)))
    refine zs_putI (pc := 2) t34_2 (zk1 (w2s.k fk_zMc_155)) rfl ?_
    refine zs_iconst (pc := 5) t34_5 (v := 0) (by decide) ?_
    refine zs_iret (pc := 6) t34_6 mr34 (by decide) ?_
    show zGo X l 3 0 0 84 28 [(5, .int w3v), (4, .int w2v), (3, .int (zI M 155 2)), (0, .ref 157), (1, .ref 155), (2, .int a)] [.int (0 : Int32)] (zsI w2M 155 3 (zI M 155 2)) _
    exact zs_iret (pc := 28) t84_28 mr84 (by decide) (hQ _ _ w2s w35 (((zFr.refl).trans (w2F.mono rfl)).put rfl) (by decide) (by decide))
theorem C83_157_155 {X : zX} {l : Launch} {M : zM} {Q : Option Value → zM → Prop} (hs : zSk zMc M) (hI : zIv cLo cHi M) (hQ : ∀ (M' : zM) (v : Int32), zSk zMc M' → zIv cLo cHi M' → zFr [(157, 160, none), (155, 155, none)] M M' → (-1) ≤ v.toInt → v.toInt ≤ 20 → Q (some (.int v)) M') : zCall X l 4 0 0 83 [.ref 157, .ref 155] M Q := by
  refine zs_in (by decide) mf83 (Nat.le_of_ble_eq_true rfl) ?_
  show zGo X l 4 0 0 83 0 [(0, .ref 157), (1, .ref 155)] [] M _
  refine zs_aload_n (pc := 0) t83_0 rfl ?_
  refine zs_invV (pc := 1) (k := 155) (as' := []) (st := []) t83_1 mf26 rfl rfl (Or.inl ⟨by decide, (zk1 (hs.k fk_zMc_155))⟩) ⟨by decide, by decide, Nat.le_of_ble_eq_true rfl, Nat.le_of_ble_eq_true rfl⟩ (zs_in (by decide) mf26 (Nat.le_of_ble_eq_true rfl) ?_) (fun _ _ q => q)
  show zGo X l 0 0 0 26 0 [(0, .ref 155)] [] M _
  refine zs_aload_n (pc := 0) t26_0 rfl ?_
  refine zs_iconst (pc := 1) t26_1 (v := 0) (by decide) ?_
  have w1 : zIv cLo cHi (zsI M 155 2 (0 : Int32)) := zIv.put hI (show (-2147483648) ≤ (0 : Int32).toInt ∧ (0 : Int32).toInt ≤ 2147483647 from (zrg (0 : Int32)))
  refine zs_putI (pc := 2) t26_2 (zk1 (hs.k fk_zMc_155)) rfl ?_
  refine zs_aload_n (pc := 5) t26_5 rfl ?_
  refine zs_iconst (pc := 6) t26_6 (v := -1) (by decide) ?_
  have w2 : zIv cLo cHi (zsI (zsI M 155 2 (0 : Int32)) 155 3 (-1 : Int32)) := zIv.put w1 (show (-2147483648) ≤ (-1 : Int32).toInt ∧ (-1 : Int32).toInt ≤ 2147483647 from (zrg (-1 : Int32)))
  refine zs_putI (pc := 7) t26_7 (zk1 (hs.k fk_zMc_155)) rfl ?_
  refine zs_vret (pc := 10) t26_10 mr26 ?_
  show zGo X l 4 0 0 83 4 [(0, .ref 157), (1, .ref 155)] [] (zsI (zsI M 155 2 (0 : Int32)) 155 3 (-1 : Int32)) _
  refine zs_iconst (pc := 4) t83_4 (v := 0) (by decide) ?_
  refine zs_istore_n (pc := 5) t83_5 (ls' := [(2, .int (0 : Int32)), (0, .ref 157), (1, .ref 155)]) (zml mf83 (by decide)) rfl ?_
  have w3L : ∀ (m : Nat) (w3x2 : Int32) (w3M : zM), (0 ≤ w3x2.toInt ∧ w3x2.toInt ≤ 20) → zSk zMc w3M → zIv cLo cHi w3M → zFr [(157, 160, none), (155, 155, none)] (zsI (zsI M 155 2 (0 : Int32)) 155 3 (-1 : Int32)) w3M → 20 - w3x2.toInt ≤ (m : Int) → zGo X l 4 0 0 83 6 [(0, .ref 157), (1, .ref 155), (2, .int w3x2)] [] w3M Q := by
    intro m
    induction m using Nat.strongRecOn with
    | ind w3m w3ih =>
      intro w3x2 w3M w3b2 w3s w3I w3F w3q
      refine zs_iload_n (pc := 6) t83_6 rfl ?_
      refine zs_bipush (pc := 7) t83_7 (v := 20) (by decide) ?_
      by_cases w4 : 20 ≤ w3x2.toInt
      · refine zs_icmp_geT (pc := 9) t83_9 rfl li20 (by omega) ?_
        refine zs_aload_n (pc := 36) t83_36 rfl ?_
        refine zs_invV (pc := 37) (k := 155) (as' := []) (st := []) t83_37 mf27 rfl rfl (Or.inl ⟨by decide, (zk1 (w3s.k fk_zMc_155))⟩) ⟨by decide, by decide, Nat.le_of_ble_eq_true rfl, Nat.le_of_ble_eq_true rfl⟩ (zs_in (by decide) mf27 (Nat.le_of_ble_eq_true rfl) ?_) (fun _ _ q => q)
        show zGo X l 0 0 0 27 0 [(0, .ref 155)] [] w3M _
        refine zs_aload_n (pc := 0) t27_0 rfl ?_
        have w5 := ib155_2 w3I
        refine zs_get (pc := 1) t27_1 (by decide) (zk1 (w3s.k fk_zMc_155)) (zfvi rfl rfl) ?_
        refine zs_aload_n (pc := 4) t27_4 rfl ?_
        have w6 := ib155_1 w3I
        refine zs_get (pc := 5) t27_5 (by decide) (zk1 (w3s.k fk_zMc_155)) (zfvi rfl rfl) ?_
        by_cases w7 : (zI w3M 155 2).toInt < (zI w3M 155 1).toInt
        · refine zs_icmp_ltT (pc := 8) t27_8 rfl rfl (by omega) ?_
          refine zs_iconst (pc := 15) t27_15 (v := 0) (by decide) ?_
          refine zs_iret (pc := 16) t27_16 mr27 (by decide) ?_
          show zGo X l 4 0 0 83 40 [(0, .ref 157), (1, .ref 155), (2, .int w3x2)] [.int (0 : Int32)] w3M _
          refine zs_if_neF (pc := 40) t83_40 li0 (by decide) ?_
          refine zs_aload_n (pc := 43) t83_43 rfl ?_
          refine zs_aload_n (pc := 44) t83_44 rfl ?_
          refine zs_invV (pc := 45) (k := 155) (as' := []) (st := [.ref 155]) t83_45 mf29 rfl rfl (Or.inl ⟨by decide, (zk1 (w3s.k fk_zMc_155))⟩) ⟨by decide, by decide, Nat.le_of_ble_eq_true rfl, Nat.le_of_ble_eq_true rfl⟩ (zs_in (by decide) mf29 (Nat.le_of_ble_eq_true rfl) ?_) (fun _ _ q => q)
          show zGo X l 0 0 0 29 0 [(0, .ref 155)] [] w3M _
          refine zs_aload_n (pc := 0) t29_0 rfl ?_
          refine zs_get (pc := 1) t29_1 (by decide) (zk1 (w3s.k fk_zMc_155)) (zfvi rfl rfl) ?_
          refine zs_iret (pc := 4) t29_4 mr29 rfl ?_
          show zGo X l 4 0 0 83 48 [(0, .ref 157), (1, .ref 155), (2, .int w3x2)] [.int (zI w3M 155 2), .ref 155] w3M _
          refine zs_invV (pc := 48) (k := 155) (as' := [.int (zI w3M 155 2)]) (st := []) t83_48 mf34 rfl rfl (Or.inl ⟨by decide, (zk1 (w3s.k fk_zMc_155))⟩) ⟨by decide, by decide, Nat.le_of_ble_eq_true rfl, Nat.le_of_ble_eq_true rfl⟩ (zs_in (by decide) mf34 (Nat.le_of_ble_eq_true rfl) ?_) (fun _ _ q => q)
          show zGo X l 0 0 0 34 0 [(0, .ref 155), (1, .int (zI w3M 155 2))] [] w3M _
          refine zs_aload_n (pc := 0) t34_0 rfl ?_
          refine zs_iload_n (pc := 1) t34_1 rfl ?_
          have w8 : zIv cLo cHi (zsI w3M 155 3 (zI w3M 155 2)) := zIv.put w3I (show (-2147483648) ≤ (zI w3M 155 2).toInt ∧ (zI w3M 155 2).toInt ≤ 2147483647 from (zrg (zI w3M 155 2)))
          refine zs_putI (pc := 2) t34_2 (zk1 (w3s.k fk_zMc_155)) rfl ?_
          refine zs_iconst (pc := 5) t34_5 (v := 0) (by decide) ?_
          refine zs_iret (pc := 6) t34_6 mr34 (by decide) ?_
          show zGo X l 4 0 0 83 51 [(0, .ref 157), (1, .ref 155), (2, .int w3x2)] [.int (0 : Int32)] (zsI w3M 155 3 (zI w3M 155 2)) _
          refine zs_pop (pc := 51) t83_51 rfl ?_
          refine zs_iconst (pc := 52) t83_52 (v := -1) (by decide) ?_
          exact zs_iret (pc := 53) t83_53 mr83 (by decide) (hQ _ _ w3s w8 (((((zFr.refl).put rfl).put rfl).trans (w3F.mono rfl)).put rfl) (by decide) (by decide))
        · refine zs_icmp_ltF (pc := 8) t27_8 rfl rfl (by omega) ?_
          refine zs_iconst (pc := 11) t27_11 (v := 1) (by decide) ?_
          refine zs_goto (pc := 12) t27_12 ?_
          refine zs_iret (pc := 16) t27_16 mr27 (by decide) ?_
          show zGo X l 4 0 0 83 40 [(0, .ref 157), (1, .ref 155), (2, .int w3x2)] [.int (1 : Int32)] w3M _
          refine zs_if_neT (pc := 40) t83_40 li1 (by decide) ?_
          refine zs_iload_n (pc := 54) t83_54 rfl ?_
          exact zs_iret (pc := 55) t83_55 mr83 rfl (hQ _ _ w3s w3I ((((zFr.refl).put rfl).put rfl).trans (w3F.mono rfl)) (by omega) (by omega))
      · refine zs_icmp_geF (pc := 9) t83_9 rfl li20 (by omega) ?_
        refine zs_aload_n (pc := 12) t83_12 rfl ?_
        refine zs_invV (pc := 13) (k := 155) (as' := []) (st := []) t83_13 mf27 rfl rfl (Or.inl ⟨by decide, (zk1 (w3s.k fk_zMc_155))⟩) ⟨by decide, by decide, Nat.le_of_ble_eq_true rfl, Nat.le_of_ble_eq_true rfl⟩ (zs_in (by decide) mf27 (Nat.le_of_ble_eq_true rfl) ?_) (fun _ _ q => q)
        show zGo X l 0 0 0 27 0 [(0, .ref 155)] [] w3M _
        refine zs_aload_n (pc := 0) t27_0 rfl ?_
        have w9 := ib155_2 w3I
        refine zs_get (pc := 1) t27_1 (by decide) (zk1 (w3s.k fk_zMc_155)) (zfvi rfl rfl) ?_
        refine zs_aload_n (pc := 4) t27_4 rfl ?_
        have w10 := ib155_1 w3I
        refine zs_get (pc := 5) t27_5 (by decide) (zk1 (w3s.k fk_zMc_155)) (zfvi rfl rfl) ?_
        by_cases w11 : (zI w3M 155 2).toInt < (zI w3M 155 1).toInt
        · refine zs_icmp_ltT (pc := 8) t27_8 rfl rfl (by omega) ?_
          refine zs_iconst (pc := 15) t27_15 (v := 0) (by decide) ?_
          refine zs_iret (pc := 16) t27_16 mr27 (by decide) ?_
          show zGo X l 4 0 0 83 16 [(0, .ref 157), (1, .ref 155), (2, .int w3x2)] [.int (0 : Int32)] w3M _
          refine zs_if_neF (pc := 16) t83_16 li0 (by decide) ?_
          refine zs_aload_n (pc := 19) t83_19 rfl ?_
          refine zs_aload_n (pc := 20) t83_20 rfl ?_
          refine zs_iload_n (pc := 21) t83_21 rfl ?_
          refine zs_invV (pc := 22) (k := 157) (as' := [.ref 155, .int w3x2]) (st := []) t83_22 mf84 rfl rfl (Or.inl ⟨by decide, (zk1 (w3s.k fk_zMc_157))⟩) ⟨by decide, by decide, Nat.le_of_ble_eq_true rfl, Nat.le_of_ble_eq_true rfl⟩ (C84_157_155 w3s w3I ⟨by omega, by omega⟩ ?_) (fun _ _ q => q)
          intro w12M w12v w12s w12I w12F w12a w12b
          show zGo X l 4 0 0 83 25 [(0, .ref 157), (1, .ref 155), (2, .int w3x2)] [.int w12v] w12M _
          by_cases w13 : w12v.toInt ≠ 0
          · refine zs_if_neT (pc := 25) t83_25 rfl (by omega) ?_
            obtain ⟨w14v, w14e, w14⟩ := ziadd (a := w3x2) (b := Int32.ofInt 1) rfl (show (Int32.ofInt 1).toInt = 1 by decide) (by omega) (by omega)
            refine zs_iinc (pc := 30) t83_30 (ls' := [(2, .int w14v), (0, .ref 157), (1, .ref 155)]) (zml mf83 (by decide)) rfl (c := w14v) w14e rfl ?_
            refine zs_goto (pc := 33) t83_33 ?_
            refine zGo.locals (ls' := [(0, .ref 157), (1, .ref 155), (2, .int w14v)]) (by simp) ?_
            exact w3ih (w3m - 1) (by omega) w14v w12M ⟨by omega, by omega⟩ w12s w12I (((zFr.refl).trans (w3F.mono rfl)).trans (w12F.mono rfl)) (by omega)
          · refine zs_if_neF (pc := 25) t83_25 rfl (by omega) ?_
            refine zs_iconst (pc := 28) t83_28 (v := -1) (by decide) ?_
            exact zs_iret (pc := 29) t83_29 mr83 (by decide) (hQ _ _ w12s w12I (((((zFr.refl).put rfl).put rfl).trans (w3F.mono rfl)).trans (w12F.mono rfl)) (by decide) (by decide))
        · refine zs_icmp_ltF (pc := 8) t27_8 rfl rfl (by omega) ?_
          refine zs_iconst (pc := 11) t27_11 (v := 1) (by decide) ?_
          refine zs_goto (pc := 12) t27_12 ?_
          refine zs_iret (pc := 16) t27_16 mr27 (by decide) ?_
          show zGo X l 4 0 0 83 16 [(0, .ref 157), (1, .ref 155), (2, .int w3x2)] [.int (1 : Int32)] w3M _
          refine zs_if_neT (pc := 16) t83_16 li1 (by decide) ?_
          refine zs_aload_n (pc := 36) t83_36 rfl ?_
          refine zs_invV (pc := 37) (k := 155) (as' := []) (st := []) t83_37 mf27 rfl rfl (Or.inl ⟨by decide, (zk1 (w3s.k fk_zMc_155))⟩) ⟨by decide, by decide, Nat.le_of_ble_eq_true rfl, Nat.le_of_ble_eq_true rfl⟩ (zs_in (by decide) mf27 (Nat.le_of_ble_eq_true rfl) ?_) (fun _ _ q => q)
          show zGo X l 0 0 0 27 0 [(0, .ref 155)] [] w3M _
          refine zs_aload_n (pc := 0) t27_0 rfl ?_
          refine zs_get (pc := 1) t27_1 (by decide) (zk1 (w3s.k fk_zMc_155)) (zfvi rfl rfl) ?_
          refine zs_aload_n (pc := 4) t27_4 rfl ?_
          refine zs_get (pc := 5) t27_5 (by decide) (zk1 (w3s.k fk_zMc_155)) (zfvi rfl rfl) ?_
          by_cases w15 : (zI w3M 155 2).toInt < (zI w3M 155 1).toInt
          · refine zs_icmp_ltT (pc := 8) t27_8 rfl rfl (by omega) ?_
            refine zs_iconst (pc := 15) t27_15 (v := 0) (by decide) ?_
            refine zs_iret (pc := 16) t27_16 mr27 (by decide) ?_
            show zGo X l 4 0 0 83 40 [(0, .ref 157), (1, .ref 155), (2, .int w3x2)] [.int (0 : Int32)] w3M _
            refine zs_if_neF (pc := 40) t83_40 li0 (by decide) ?_
            refine zs_aload_n (pc := 43) t83_43 rfl ?_
            refine zs_aload_n (pc := 44) t83_44 rfl ?_
            refine zs_invV (pc := 45) (k := 155) (as' := []) (st := [.ref 155]) t83_45 mf29 rfl rfl (Or.inl ⟨by decide, (zk1 (w3s.k fk_zMc_155))⟩) ⟨by decide, by decide, Nat.le_of_ble_eq_true rfl, Nat.le_of_ble_eq_true rfl⟩ (zs_in (by decide) mf29 (Nat.le_of_ble_eq_true rfl) ?_) (fun _ _ q => q)
            show zGo X l 0 0 0 29 0 [(0, .ref 155)] [] w3M _
            refine zs_aload_n (pc := 0) t29_0 rfl ?_
            refine zs_get (pc := 1) t29_1 (by decide) (zk1 (w3s.k fk_zMc_155)) (zfvi rfl rfl) ?_
            refine zs_iret (pc := 4) t29_4 mr29 rfl ?_
            show zGo X l 4 0 0 83 48 [(0, .ref 157), (1, .ref 155), (2, .int w3x2)] [.int (zI w3M 155 2), .ref 155] w3M _
            refine zs_invV (pc := 48) (k := 155) (as' := [.int (zI w3M 155 2)]) (st := []) t83_48 mf34 rfl rfl (Or.inl ⟨by decide, (zk1 (w3s.k fk_zMc_155))⟩) ⟨by decide, by decide, Nat.le_of_ble_eq_true rfl, Nat.le_of_ble_eq_true rfl⟩ (zs_in (by decide) mf34 (Nat.le_of_ble_eq_true rfl) ?_) (fun _ _ q => q)
            show zGo X l 0 0 0 34 0 [(0, .ref 155), (1, .int (zI w3M 155 2))] [] w3M _
            refine zs_aload_n (pc := 0) t34_0 rfl ?_
            refine zs_iload_n (pc := 1) t34_1 rfl ?_
            have w16 : zIv cLo cHi (zsI w3M 155 3 (zI w3M 155 2)) := zIv.put w3I (show (-2147483648) ≤ (zI w3M 155 2).toInt ∧ (zI w3M 155 2).toInt ≤ 2147483647 from (zrg (zI w3M 155 2)))
            refine zs_putI (pc := 2) t34_2 (zk1 (w3s.k fk_zMc_155)) rfl ?_
            refine zs_iconst (pc := 5) t34_5 (v := 0) (by decide) ?_
            refine zs_iret (pc := 6) t34_6 mr34 (by decide) ?_
            show zGo X l 4 0 0 83 51 [(0, .ref 157), (1, .ref 155), (2, .int w3x2)] [.int (0 : Int32)] (zsI w3M 155 3 (zI w3M 155 2)) _
            refine zs_pop (pc := 51) t83_51 rfl ?_
            refine zs_iconst (pc := 52) t83_52 (v := -1) (by decide) ?_
            exact zs_iret (pc := 53) t83_53 mr83 (by decide) (hQ _ _ w3s w16 (((((zFr.refl).put rfl).put rfl).trans (w3F.mono rfl)).put rfl) (by decide) (by decide))
          · refine zs_icmp_ltF (pc := 8) t27_8 rfl rfl (by omega) ?_
            refine zs_iconst (pc := 11) t27_11 (v := 1) (by decide) ?_
            refine zs_goto (pc := 12) t27_12 ?_
            refine zs_iret (pc := 16) t27_16 mr27 (by decide) ?_
            show zGo X l 4 0 0 83 40 [(0, .ref 157), (1, .ref 155), (2, .int w3x2)] [.int (1 : Int32)] w3M _
            refine zs_if_neT (pc := 40) t83_40 li1 (by decide) ?_
            refine zs_iload_n (pc := 54) t83_54 rfl ?_
            exact zs_iret (pc := 55) t83_55 mr83 rfl (hQ _ _ w3s w3I ((((zFr.refl).put rfl).put rfl).trans (w3F.mono rfl)) (by omega) (by omega))
  refine zGo.locals (ls' := [(0, .ref 157), (1, .ref 155), (2, .int (0 : Int32))]) (by simp) ?_
  have w17 := li0
  exact w3L ((20 - 0 : Int).toNat) (0 : Int32) (zsI (zsI M 155 2 (0 : Int32)) 155 3 (-1 : Int32)) ⟨by decide, by decide⟩ hs w2 zFr.refl (by omega)
