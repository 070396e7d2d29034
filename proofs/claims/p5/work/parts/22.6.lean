theorem C84_157_155 {X : zX} {l : Launch} {M : zM} {Q : Option Value → zM → Prop} {a : Int32} (hs : zSk zMc M) (hI : zIv cLo cHi M) (ha : 0 ≤ a.toInt ∧ a.toInt ≤ 19) (hQ : ∀ (M' : zM) (v : Int32), zSk zMc M' → zIv cLo cHi M' → zFr [(157, 160, none), (155, 155, none)] M M' → 0 ≤ v.toInt → v.toInt ≤ 1 → Q (some (.int v)) M') : zCall X l 3 0 0 84 [.ref 157, .ref 155, .int a] M Q := by
  have ga := zrg a
  refine zs_in (by decide) mf84 (Nat.le_of_ble_eq_true rfl) ?_
  show zGo X l 3 0 0 84 0 [(0, .ref 157), (1, .ref 155), (2, .int a)] [] M _
  refine zs_aload_n (pc := 0) t84_0 rfl ?_
  refine zs_invV (pc := 1) (k := 155) (as' := []) (st := []) t84_1 mf29 rfl rfl (Or.inl ⟨by decide, (zk1 (hs.k fk_zMc_155))⟩) ⟨by decide, by decide, Nat.le_of_ble_eq_true rfl, Nat.le_of_ble_eq_true rfl⟩ (zs_in (by decide) mf29 (Nat.le_of_ble_eq_true rfl) ?_) (fun _ _ q => q)
  show zGo X l 0 0 0 29 0 [(0, .ref 155)] [] M _
  refine zs_aload_n (pc := 0) t29_0 rfl ?_
  have w1 := ib155_2 hI
  refine zs_get (pc := 1) t29_1 (by decide) (zk1 (hs.k fk_zMc_155)) (zfvi rfl rfl) ?_
  refine zs_iret (pc := 4) t29_4 mr29 rfl ?_
  show zGo X l 3 0 0 84 4 [(0, .ref 157), (1, .ref 155), (2, .int a)] [.int (zI M 155 2)] M _
  refine zs_istore_n (pc := 4) t84_4 (ls' := [(3, .int (zI M 155 2)), (0, .ref 157), (1, .ref 155), (2, .int a)]) (zml mf84 (by decide)) rfl ?_
  refine zs_aload_n (pc := 5) t84_5 rfl ?_
  refine zs_invV (pc := 6) (k := 155) (as' := []) (st := []) t84_6 mf30 rfl rfl (Or.inl ⟨by decide, (zk1 (hs.k fk_zMc_155))⟩) ⟨by decide, by decide, Nat.le_of_ble_eq_true rfl, Nat.le_of_ble_eq_true rfl⟩ (C30_155 hs hI ?_) (fun _ _ q => q)
  intro w2M w2v w2s w2I w2F w2a w2b
  show zGo X l 3 0 0 84 9 [(3, .int (zI M 155 2)), (0, .ref 157), (1, .ref 155), (2, .int a)] [.int w2v] w2M _
  refine zs_istore (pc := 9) t84_9 (ls' := [(4, .int w2v), (3, .int (zI M 155 2)), (0, .ref 157), (1, .ref 155), (2, .int a)]) (zml mf84 (by decide)) rfl ?_
  refine zs_iload (pc := 11) t84_11 rfl ?_
  refine zs_invS (pc := 13) (as := [.int w2v]) (st := []) t84_13 (by decide) mf85 rfl rfl ⟨by decide, by decide, Nat.le_of_ble_eq_true rfl, Nat.le_of_ble_eq_true rfl⟩ (C85 w2s w2I ?_) (fun _ _ q => q)
  intro w3v w3a w3b
  show zGo X l 3 0 0 84 16 [(4, .int w2v), (3, .int (zI M 155 2)), (0, .ref 157), (1, .ref 155), (2, .int a)] [.int w3v] w2M _
  refine zs_istore (pc := 16) t84_16 (ls' := [(5, .int w3v), (4, .int w2v), (3, .int (zI M 155 2)), (0, .ref 157), (1, .ref 155), (2, .int a)]) (zml mf84 (by decide)) rfl ?_
  refine zs_iload (pc := 18) t84_18 rfl ?_
  by_cases w4 : w3v.toInt ≠ 0
  · refine zs_if_neT (pc := 20) t84_20 rfl (by omega) ?_
    refine zs_aload_n (pc := 29) t84_29 rfl ?_
    refine zs_get (pc := 30) t84_30 (by decide) (zk1 (w2s.k fk_zMc_157)) (w2s.p rfl fv_zMc_157_1) ?_
    refine zs_iload_n (pc := 33) t84_33 rfl ?_
    refine zs_iload (pc := 34) t84_34 rfl ?_
    obtain ⟨w5n, w5⟩ : ∃ n : Nat, a.toInt = (n : Int) := ⟨a.toInt.toNat, by omega⟩
    have w6 : zIv cLo cHi (zsI w2M 159 w5n w2v) := zIv.put w2I (show (-2147483648) ≤ w2v.toInt ∧ w2v.toInt ≤ 2147483647 from (zrg w2v))
    refine zs_iast (pc := 36) t84_36 (j := w5n) (by decide) (zk1 (w2s.k fk_zMc_159)) w5 (zk2 (w2s.k fk_zMc_159) (by omega)) ?_
    refine zs_iconst (pc := 37) t84_37 (v := 0) (by decide) ?_
    refine zs_istore (pc := 38) t84_38 (ls' := [(6, .int (0 : Int32)), (5, .int w3v), (4, .int w2v), (3, .int (zI M 155 2)), (0, .ref 157), (1, .ref 155), (2, .int a)]) (zml mf84 (by decide)) rfl ?_
    have w7L : ∀ (m : Nat) (w7x6 : Int32) (w7M : zM), (0 ≤ w7x6.toInt ∧ w7x6.toInt ≤ 3) → zSk zMc w7M → zIv cLo cHi w7M → zFr [(157, 160, none), (155, 155, none)] (zsI w2M 159 w5n w2v) w7M → 3 - w7x6.toInt ≤ (m : Int) → zGo X l 3 0 0 84 40 [(0, .ref 157), (1, .ref 155), (2, .int a), (3, .int (zI M 155 2)), (4, .int w2v), (5, .int w3v), (6, .int w7x6)] [] w7M Q := by
      intro m
      induction m using Nat.strongRecOn with
      | ind w7m w7ih =>
        intro w7x6 w7M w7b6 w7s w7I w7F w7q
        refine zs_iload (pc := 40) t84_40 rfl ?_
        refine zs_iload (pc := 42) t84_42 rfl ?_
        by_cases w8 : w3v.toInt ≤ w7x6.toInt
        · refine zs_icmp_geT (pc := 44) t84_44 rfl rfl (by omega) ?_
          refine zs_iconst (pc := 102) t84_102 (v := 1) (by decide) ?_
          exact zs_iret (pc := 103) t84_103 mr84 (by decide) (hQ _ _ w7s w7I ((((zFr.refl).trans (w2F.mono rfl)).put rfl).trans (w7F.mono rfl)) (by decide) (by decide))
        · refine zs_icmp_geF (pc := 44) t84_44 rfl rfl (by omega) ?_
          refine zs_aload_n (pc := 47) t84_47 rfl ?_
          refine zs_invV (pc := 48) (k := 155) (as' := []) (st := []) t84_48 mf35 rfl rfl (Or.inl ⟨by decide, (zk1 (w7s.k fk_zMc_155))⟩) ⟨by decide, by decide, Nat.le_of_ble_eq_true rfl, Nat.le_of_ble_eq_true rfl⟩ (C35_155 w7s w7I ?_) (fun _ _ q => q)
          intro w9M w9v w9s w9I w9F w9a w9b
          show zGo X l 3 0 0 84 51 [(0, .ref 157), (1, .ref 155), (2, .int a), (3, .int (zI M 155 2)), (4, .int w2v), (5, .int w3v), (6, .int w7x6)] [.int w9v] w9M _
          by_cases w10 : w9v.toInt ≠ 0
          · refine zs_if_neT (pc := 51) t84_51 rfl (by omega) ?_
            refine zs_aload_n (pc := 56) t84_56 rfl ?_
            refine zs_get (pc := 57) t84_57 (by decide) (zk1 (w9s.k fk_zMc_157)) (w9s.p rfl fv_zMc_157_2) ?_
            refine zs_iload_n (pc := 60) t84_60 rfl ?_
            refine zs_iconst (pc := 61) t84_61 (v := 4) (by decide) ?_
            obtain ⟨w11v, w11⟩ : ∃ v, a * (4 : Int32) = v := ⟨_, rfl⟩
            have w11g : w11v.toInt = a.toInt * 4 := by rw [← w11]; exact zmulc rfl li4 (by omega) (by omega)
            refine zs_imul (pc := 62) t84_62 (c := w11v) w11 ?_
            refine zs_iload (pc := 63) t84_63 rfl ?_
            obtain ⟨w12v, w12e, w12⟩ := ziadd (a := w11v) (b := w7x6) rfl rfl (by omega) (by omega)
            refine zs_iadd (pc := 65) t84_65 (c := w12v) w12e ?_
            refine zs_aload_n (pc := 66) t84_66 rfl ?_
            refine zs_invV (pc := 67) (k := 155) (as' := []) (st := [.int w12v, .ref 160]) t84_67 mf37 rfl rfl (Or.inl ⟨by decide, (zk1 (w9s.k fk_zMc_155))⟩) ⟨by decide, by decide, Nat.le_of_ble_eq_true rfl, Nat.le_of_ble_eq_true rfl⟩ (zs_in (by decide) mf37 (Nat.le_of_ble_eq_true rfl) ?_) (fun _ _ q => q)
            show zGo X l 0 0 0 37 0 [(0, .ref 155)] [] w9M _
            refine zs_aload_n (pc := 0) t37_0 rfl ?_
            have w13 := ib155_4 w9I
            refine zs_get (pc := 1) t37_1 (by decide) (zk1 (w9s.k fk_zMc_155)) (zfvi rfl rfl) ?_
            refine zs_iret (pc := 4) t37_4 mr37 rfl ?_
            show zGo X l 3 0 0 84 70 [(0, .ref 157), (1, .ref 155), (2, .int a), (3, .int (zI M 155 2)), (4, .int w2v), (5, .int w3v), (6, .int w7x6)] [.int (zI w9M 155 4), .int w12v, .ref 160] w9M _
            obtain ⟨w14n, w14⟩ : ∃ n : Nat, w12v.toInt = (n : Int) := ⟨w12v.toInt.toNat, by omega⟩
            have w15 : zIv cLo cHi (zsI w9M 160 w14n (zI w9M 155 4)) := zIv.put w9I (show (-2147483648) ≤ (zI w9M 155 4).toInt ∧ (zI w9M 155 4).toInt ≤ 2147483647 from (zrg (zI w9M 155 4)))
            refine zs_iast (pc := 70) t84_70 (j := w14n) (by decide) (zk1 (w9s.k fk_zMc_160)) w14 (zk2 (w9s.k fk_zMc_160) (by omega)) ?_
            refine zs_aload_n (pc := 71) t84_71 rfl ?_
            refine zs_iload (pc := 72) t84_72 rfl ?_
            refine zs_iconst (pc := 74) t84_74 (v := 1) (by decide) ?_
            obtain ⟨w16v, w16e, w16⟩ := ziadd (a := w7x6) (b := (1 : Int32)) rfl li1 (by omega) (by omega)
            refine zs_iadd (pc := 75) t84_75 (c := w16v) w16e ?_
            refine zs_iload (pc := 76) t84_76 rfl ?_
            by_cases w17 : w3v.toInt ≤ (w7x6.toInt + 1)
            · refine zs_icmp_geT (pc := 78) t84_78 w16 rfl (by omega) ?_
              refine zs_bipush (pc := 86) t84_86 (v := 59) (by decide) ?_
              refine zs_invV (pc := 88) (k := 155) (as' := [.int (59 : Int32)]) (st := []) t84_88 mf47 rfl rfl (Or.inl ⟨by decide, (zk1 (w9s.k fk_zMc_155))⟩) ⟨by decide, by decide, Nat.le_of_ble_eq_true rfl, Nat.le_of_ble_eq_true rfl⟩ (zs_in (by decide) mf47 (Nat.le_of_ble_eq_true rfl) ?_) (fun _ _ q => q)
              show zGo X l 1 0 0 47 0 [(0, .ref 155), (1, .int (59 : Int32))] [] (zsI w9M 160 w14n (zI w9M 155 4)) _
              refine zs_aload_n (pc := 0) t47_0 rfl ?_
              refine zs_invV (pc := 1) (k := 155) (as' := []) (st := []) t47_1 mf31 rfl rfl (Or.inl ⟨by decide, (zk1 (w9s.k fk_zMc_155))⟩) ⟨by decide, by decide, Nat.le_of_ble_eq_true rfl, Nat.le_of_ble_eq_true rfl⟩ (C31_155 w9s w15 ?_) (fun _ _ q => q)
              intro w18v w18a w18b
              show zGo X l 1 0 0 47 4 [(0, .ref 155), (1, .int (59 : Int32))] [.int w18v] (zsI w9M 160 w14n (zI w9M 155 4)) _
              refine zs_iload_n (pc := 4) t47_4 rfl ?_
              by_cases w19 : w18v.toInt = 59
              · refine zs_icmp_eqT (pc := 5) t47_5 rfl li59 (by omega) ?_
                refine zs_aload_n (pc := 17) t47_17 rfl ?_
                refine zs_dup (pc := 18) t47_18 rfl ?_
                have w20 := ib155_2 w9I
                refine zs_get (pc := 19) t47_19 (by decide) (zk1 (w9s.k fk_zMc_155)) (zfvi rfl ((zIo (by decide)).trans rfl)) ?_
                refine zs_iconst (pc := 22) t47_22 (v := 1) (by decide) ?_
                obtain ⟨w21v, w21⟩ : ∃ v, v = (zI w9M 155 2) + (1 : Int32) := ⟨_, rfl⟩
                have w21g := zrg w21v
                refine zs_iadd (pc := 23) t47_23 (c := w21v) w21.symm ?_
                have w22 : zIv cLo cHi (zsI (zsI w9M 160 w14n (zI w9M 155 4)) 155 2 w21v) := zIv.put w15 (show (-2147483648) ≤ w21v.toInt ∧ w21v.toInt ≤ 2147483647 from (zrg w21v))
                refine zs_putI (pc := 24) t47_24 (zk1 (w9s.k fk_zMc_155)) rfl ?_
                refine zs_iconst (pc := 27) t47_27 (v := 1) (by decide) ?_
                refine zs_iret (pc := 28) t47_28 mr47 (by decide) ?_
                show zGo X l 3 0 0 84 91 [(0, .ref 157), (1, .ref 155), (2, .int a), (3, .int (zI M 155 2)), (4, .int w2v), (5, .int w3v), (6, .int w7x6)] [.int (1 : Int32)] (zsI (zsI w9M 160 w14n (zI w9M 155 4)) 155 2 w21v) _
                refine zs_if_neT (pc := 91) t84_91 li1 (by decide) ?_
                obtain ⟨w23v, w23e, w23⟩ := ziadd (a := w7x6) (b := Int32.ofInt 1) rfl (show (Int32.ofInt 1).toInt = 1 by decide) (by omega) (by omega)
                refine zs_iinc (pc := 96) t84_96 (ls' := [(6, .int w23v), (0, .ref 157), (1, .ref 155), (2, .int a), (3, .int (zI M 155 2)), (4, .int w2v), (5, .int w3v)]) (zml mf84 (by decide)) rfl (c := w23v) w23e rfl ?_
                refine zs_goto (pc := 99) t84_99 ?_
                refine zGo.locals (ls' := [(0, .ref 157), (1, .ref 155), (2, .int a), (3, .int (zI M 155 2)), (4, .int w2v), (5, .int w3v), (6, .int w23v)]) (by simp) ?_
                exact w7ih (w7m - 1) (by omega) w23v (zsI (zsI w9M 160 w14n (zI w9M 155 4)) 155 2 w21v) ⟨by omega, by omega⟩ w9s w22 (((((zFr.refl).trans (w7F.mono rfl)).trans (w9F.mono rfl)).put rfl).put rfl) (by omega)
              · refine zs_icmp_eqF (pc := 5) t47_5 rfl li59 (by omega) ?_
                refine zs_aload_n (pc := 8) t47_8 rfl ?_
                refine zs_aload_n (pc := 9) t47_9 rfl ?_
                have w24 := ib155_2 w9I
                refine zs_get (pc := 10) t47_10 (by decide) (zk1 (w9s.k fk_zMc_155)) (zfvi rfl ((zIo (by decide)).trans rfl)) ?_
                refine zs_invV (pc := 13) (k := 155) (as' := [.int (zI w9M 155 2)]) (st := []) t47_13 mf34 rfl rfl (Or.inl ⟨by decide, (zk1 (w9s.k fk_zMc_155))⟩) ⟨by decide, by decide, Nat.le_of_ble_eq_true rfl, Nat.le_of_ble_eq_true rfl⟩ (zs_in (by decide) mf34 (Nat.le_of_ble_eq_true rfl) ?_) (fun _ _ q => q)
                show zGo X l 0 0 0 34 0 [(0, .ref 155), (1, .int (zI w9M 155 2))] [] (zsI w9M 160 w14n (zI w9M 155 4)) _
                refine zs_aload_n (pc := 0) t34_0 rfl ?_
                refine zs_iload_n (pc := 1) t34_1 rfl ?_
                have w25 : zIv cLo cHi (zsI (zsI w9M 160 w14n (zI w9M 155 4)) 155 3 (zI w9M 155 2)) := zIv.put w15 (show (-2147483648) ≤ (zI w9M 155 2).toInt ∧ (zI w9M 155 2).toInt ≤ 2147483647 from (zrg (zI w9M 155 2)))
                refine zs_putI (pc := 2) t34_2 (zk1 (w9s.k fk_zMc_155)) rfl ?_
                refine zs_iconst (pc := 5) t34_5 (v := 0) (by decide) ?_
                refine zs_iret (pc := 6) t34_6 mr34 (by decide) ?_
                show zGo X l 1 0 0 47 16 [(0, .ref 155), (1, .int (59 : Int32))] [.int (0 : Int32)] (zsI (zsI w9M 160 w14n (zI w9M 155 4)) 155 3 (zI w9M 155 2)) _
                refine zs_iret (pc := 16) t47_16 mr47 (by decide) ?_
                show zGo X l 3 0 0 84 91 [(0, .ref 157), (1, .ref 155), (2, .int a), (3, .int (zI M 155 2)), (4, .int w2v), (5, .int w3v), (6, .int w7x6)] [.int (0 : Int32)] (zsI (zsI w9M 160 w14n (zI w9M 155 4)) 155 3 (zI w9M 155 2)) _
                refine zs_if_neF (pc := 91) t84_91 li0 (by decide) ?_
                refine zs_iconst (pc := 94) t84_94 (v := 0) (by decide) ?_
                exact zs_iret (pc := 95) t84_95 mr84 (by decide) (hQ _ _ w9s w25 (((((((zFr.refl).trans (w2F.mono rfl)).put rfl).trans (w7F.mono rfl)).trans (w9F.mono rfl)).put rfl).put rfl) (by decide) (by decide))
            · refine zs_icmp_geF (pc := 78) t84_78 w16 rfl (by omega) ?_
              refine zs_bipush (pc := 81) t84_81 (v := 44) (by decide) ?_
              refine zs_goto (pc := 83) t84_83 ?_
              refine zs_invV (pc := 88) (k := 155) (as' := [.int (44 : Int32)]) (st := []) t84_88 mf47 rfl rfl (Or.inl ⟨by decide, (zk1 (w9s.k fk_zMc_155))⟩) ⟨by decide, by decide, Nat.le_of_ble_eq_true rfl, Nat.le_of_ble_eq_true rfl⟩ (zs_in (by decide) mf47 (Nat.le_of_ble_eq_true rfl) ?_) (fun _ _ q => q)
              show zGo X l 1 0 0 47 0 [(0, .ref 155), (1, .int (44 : Int32))] [] (zsI w9M 160 w14n (zI w9M 155 4)) _
              refine zs_aload_n (pc := 0) t47_0 rfl ?_
              refine zs_invV (pc := 1) (k := 155) (as' := []) (st := []) t47_1 mf31 rfl rfl (Or.inl ⟨by decide, (zk1 (w9s.k fk_zMc_155))⟩) ⟨by decide, by decide, Nat.le_of_ble_eq_true rfl, Nat.le_of_ble_eq_true rfl⟩ (C31_155 w9s w15 ?_) (fun _ _ q => q)
              intro w26v w26a w26b
              show zGo X l 1 0 0 47 4 [(0, .ref 155), (1, .int (44 : Int32))] [.int w26v] (zsI w9M 160 w14n (zI w9M 155 4)) _
              refine zs_iload_n (pc := 4) t47_4 rfl ?_
              by_cases w27 : w26v.toInt = 44
              · refine zs_icmp_eqT (pc := 5) t47_5 rfl li44 (by omega) ?_
                refine zs_aload_n (pc := 17) t47_17 rfl ?_
                refine zs_dup (pc := 18) t47_18 rfl ?_
                have w28 := ib155_2 w9I
                refine zs_get (pc := 19) t47_19 (by decide) (zk1 (w9s.k fk_zMc_155)) (zfvi rfl ((zIo (by decide)).trans rfl)) ?_
                refine zs_iconst (pc := 22) t47_22 (v := 1) (by decide) ?_
                obtain ⟨w29v, w29⟩ : ∃ v, v = (zI w9M 155 2) + (1 : Int32) := ⟨_, rfl⟩
                have w29g := zrg w29v
                refine zs_iadd (pc := 23) t47_23 (c := w29v) w29.symm ?_
                have w30 : zIv cLo cHi (zsI (zsI w9M 160 w14n (zI w9M 155 4)) 155 2 w29v) := zIv.put w15 (show (-2147483648) ≤ w29v.toInt ∧ w29v.toInt ≤ 2147483647 from (zrg w29v))
                refine zs_putI (pc := 24) t47_24 (zk1 (w9s.k fk_zMc_155)) rfl ?_
                refine zs_iconst (pc := 27) t47_27 (v := 1) (by decide) ?_
                refine zs_iret (pc := 28) t47_28 mr47 (by decide) ?_
                show zGo X l 3 0 0 84 91 [(0, .ref 157), (1, .ref 155), (2, .int a), (3, .int (zI M 155 2)), (4, .int w2v), (5, .int w3v), (6, .int w7x6)] [.int (1 : Int32)] (zsI (zsI w9M 160 w14n (zI w9M 155 4)) 155 2 w29v) _
                refine zs_if_neT (pc := 91) t84_91 li1 (by decide) ?_
                obtain ⟨w31v, w31e, w31⟩ := ziadd (a := w7x6) (b := Int32.ofInt 1) rfl (show (Int32.ofInt 1).toInt = 1 by decide) (by omega) (by omega)
                refine zs_iinc (pc := 96) t84_96 (ls' := [(6, .int w31v), (0, .ref 157), (1, .ref 155), (2, .int a), (3, .int (zI M 155 2)), (4, .int w2v), (5, .int w3v)]) (zml mf84 (by decide)) rfl (c := w31v) w31e rfl ?_
                refine zs_goto (pc := 99) t84_99 ?_
                refine zGo.locals (ls' := [(0, .ref 157), (1, .ref 155), (2, .int a), (3, .int (zI M 155 2)), (4, .int w2v), (5, .int w3v), (6, .int w31v)]) (by simp) ?_
                exact w7ih (w7m - 1) (by omega) w31v (zsI (zsI w9M 160 w14n (zI w9M 155 4)) 155 2 w29v) ⟨by omega, by omega⟩ w9s w30 (((((zFr.refl).trans (w7F.mono rfl)).trans (w9F.mono rfl)).put rfl).put rfl) (by omega)
              · refine zs_icmp_eqF (pc := 5) t47_5 rfl li44 (by omega) ?_
                refine zs_aload_n (pc := 8) t47_8 rfl ?_
                refine zs_aload_n (pc := 9) t47_9 rfl ?_
                have w32 := ib155_2 w9I
                refine zs_get (pc := 10) t47_10 (by decide) (zk1 (w9s.k fk_zMc_155)) (zfvi rfl ((zIo (by decide)).trans rfl)) ?_
                refine zs_invV (pc := 13) (k := 155) (as' := [.int (zI w9M 155 2)]) (st := []) t47_13 mf34 rfl rfl (Or.inl ⟨by decide, (zk1 (w9s.k fk_zMc_155))⟩) ⟨by decide, by decide, Nat.le_of_ble_eq_true rfl, Nat.le_of_ble_eq_true rfl⟩ (zs_in (by decide) mf34 (Nat.le_of_ble_eq_true rfl) ?_) (fun _ _ q => q)
                show zGo X l 0 0 0 34 0 [(0, .ref 155), (1, .int (zI w9M 155 2))] [] (zsI w9M 160 w14n (zI w9M 155 4)) _
                refine zs_aload_n (pc := 0) t34_0 rfl ?_
                refine zs_iload_n (pc := 1) t34_1 rfl ?_
                have w33 : zIv cLo cHi (zsI (zsI w9M 160 w14n (zI w9M 155 4)) 155 3 (zI w9M 155 2)) := zIv.put w15 (show (-2147483648) ≤ (zI w9M 155 2).toInt ∧ (zI w9M 155 2).toInt ≤ 2147483647 from (zrg (zI w9M 155 2)))
                refine zs_putI (pc := 2) t34_2 (zk1 (w9s.k fk_zMc_155)) rfl ?_
                refine zs_iconst (pc := 5) t34_5 (v := 0) (by decide) ?_
                refine zs_iret (pc := 6) t34_6 mr34 (by decide) ?_
                show zGo X l 1 0 0 47 16 [(0, .ref 155), (1, .int (44 : Int32))] [.int (0 : Int32)] (zsI (zsI w9M 160 w14n (zI w9M 155 4)) 155 3 (zI w9M 155 2)) _
                refine zs_iret (pc := 16) t47_16 mr47 (by decide) ?_
                show zGo X l 3 0 0 84 91 [(0, .ref 157), (1, .ref 155), (2, .int a), (3, .int (zI M 155 2)), (4, .int w2v), (5, .int w3v), (6, .int w7x6)] [.int (0 : Int32)] (zsI (zsI w9M 160 w14n (zI w9M 155 4)) 155 3 (zI w9M 155 2)) _
                refine zs_if_neF (pc := 91) t84_91 li0 (by decide) ?_
                refine zs_iconst (pc := 94) t84_94 (v := 0) (by decide) ?_
                exact zs_iret (pc := 95) t84_95 mr84 (by decide) (hQ _ _ w9s w33 (((((((zFr.refl).trans (w2F.mono rfl)).put rfl).trans (w7F.mono rfl)).trans (w9F.mono rfl)).put rfl).put rfl) (by decide) (by decide))
          · refine zs_if_neF (pc := 51) t84_51 rfl (by omega) ?_
            refine zs_iconst (pc := 54) t84_54 (v := 0) (by decide) ?_
            exact zs_iret (pc := 55) t84_55 mr84 (by decide) (hQ _ _ w9s w9I (((((zFr.refl).trans (w2F.mono rfl)).put rfl).trans (w7F.mono rfl)).trans (w9F.mono rfl)) (by decide) (by decide))
    refine zGo.locals (ls' := [(0, .ref 157), (1, .ref 155), (2, .int a), (3, .int (zI M 155 2)), (4, .int w2v), (5, .int w3v), (6, .int (0 : Int32))]) (by simp) ?_
    have w34 := li0
    exact w7L ((3 - 0 : Int).toNat) (0 : Int32) (zsI w2M 159 w5n w2v) ⟨by decide, by decide⟩ w2s w6 zFr.refl (by omega)
  · refine zs_if_neF (pc := 20) t84_20 rfl (by omega) ?_
    refine zs_aload_n (pc := 23) t84_23 rfl ?_
    refine zs_iload_n (pc := 24) t84_24 rfl ?_
    refine zs_invV (pc := 25) (k := 155) (as' := [.int (zI M 155 2)]) (st := []) t84_25 mf34 rfl rfl (Or.inl ⟨by decide, (zk1 (w2s.k fk_zMc_155))⟩) ⟨by decide, by decide, Nat.le_of_ble_eq_true rfl, Nat.le_of_ble_eq_true rfl⟩ (zs_in (by decide) mf34 (Nat.le_of_ble_eq_true rfl) ?_) (fun _ _ q => q)
    show zGo X l 0 0 0 34 0 [(0, .ref 155), (1, .int (zI M 155 2))] [] w2M _
    refine zs_aload_n (pc := 0) t34_0 rfl ?_
    refine zs_iload_n (pc := 1) t34_1 rfl ?_
    have w35 : zIv cLo cHi (zsI w2M 155 3 (zI M 155 2)) := zIv.put w2I (show (-2147483648) ≤ (zI M 155 2).toInt ∧ (zI M 155 2).toInt ≤ 2147483647 from (zrg (zI M 155 2)))
    refine zs_putI (pc := 2) t34_2 (zk1 (w2s.k fk_zMc_155)) rfl ?_
    refine zs_iconst (pc := 5) t34_5 (v := 0) (by decide) ?_
    refine zs_iret (pc := 6) t34_6 mr34 (by decide) ?_
    show zGo X l 3 0 0 84 28 [(5, .int w3v), (4, .int w2v), (3, .int (zI M 155 2)), (0, .ref 157), (1, .ref 155), (2, .int a)] [.int (0 : Int32)] (zsI w2M 155 3 (zI M 155 2)) _
    exact zs_iret (pc := 28) t84_28 mr84 (by decide) (hQ _ _ w2s w35 (((zFr.refl).trans (w2F.mono rfl)).put rfl) (by decide) (by decide))
theorem C83_157_155 {X : zX} {l : Launch} {M : zM} {Q : Option Value → zM → Prop} (hs : zSk zMc M) (hI : zIv cLo cHi M) (hQ : ∀ (M' : zM) (v : Int32), zSk zMc M' → zIv cLo cHi M' → zFr [(157, 160, none), (155, 155, none)] M M' → (-1) ≤ v.toInt → v.toInt ≤ 20 → Q (some (.int v)) M') : zCall X l 4 0 0 83 [.ref 157, .ref 155] M Q := by
  refine zs_in (by decide) mf83 (Nat.le_of_ble_eq_true rfl) ?_
  show zGo X l 4 0 0 83 0 [(0, .ref 157), (1, .ref 155)] [] M _
  refine zs_aload_n (pc := 0) t83_0 rfl ?_
  refine zs_invV (pc := 1) (k := 155) (as' := []) (st := []) t83_1 mf26 rfl rfl (Or.inl ⟨by decide, (zk1 (hs.k fk_zMc_155))⟩) ⟨by decide, by decide, Nat.le_of_ble_eq_true rfl, Nat.le_of_ble_eq_true rfl⟩ (zs_in (by decide) mf26 (Nat.le_of_ble_eq_true rfl) ?_) (fun _ _ q => q)
  show zGo X l 0 0 0 26 0 [(0, .ref 155)] [] M _
  refine zs_aload_n (pc := 0) t26_0 rfl ?_
  refine zs_iconst (pc := 1) t26_1 (v := 0) (by decide) ?_
  have w1 : zIv cLo cHi (zsI M 155 2 (0 : Int32)) := zIv.put hI (show (-2147483648) ≤ (0 : Int32).toInt ∧ (0 : Int32).toInt ≤ 2147483647 from (zrg (0 : Int32)))
  refine zs_putI (pc := 2) t26_2 (zk1 (hs.k fk_zMc_155)) rfl ?_
  refine zs_aload_n (pc := 5) t26_5 rfl ?_
  refine zs_iconst (pc := 6) t26_6 (v := -1) (by decide) ?_
  have w2 : zIv cLo cHi (zsI (zsI M 155 2 (0 : Int32)) 155 3 (-1 : Int32)) := zIv.put w1 (show (-2147483648) ≤ (-1 : Int32).toInt ∧ (-1 : Int32).toInt ≤ 2147483647 from (zrg (-1 : Int32)))
  refine zs_putI (pc := 7) t26_7 (zk1 (hs.k fk_zMc_155)) rfl ?_
  refine zs_vret (pc := 10) t26_10 mr26 ?_
  show zGo X l 4 0 0 83 4 [(0, .ref 157), (1, .ref 155)] [] (zsI (zsI M 155 2 (0 : Int32)) 155 3 (-1 : Int32)) _
  refine zs_iconst (pc := 4) t83_4 (v := 0) (by decide) ?_
  refine zs_istore_n (pc := 5) t83_5 (ls' := [(2, .int (0 : Int32)), (0, .ref 157), (1, .ref 155)]) (zml mf83 (by decide)) rfl ?_
  have w3L : ∀ (m : Nat) (w3x2 : Int32) (w3M : zM), (0 ≤ w3x2.toInt ∧ w3x2.toInt ≤ 20) → zSk zMc w3M → zIv cLo cHi w3M → zFr [(157, 160, none), (155, 155, none)] (zsI (zsI M 155 2 (0 : Int32)) 155 3 (-1 : Int32)) w3M → 20 - w3x2.toInt ≤ (m : Int) → zGo X l 4 0 0 83 6 [(0, .ref 157), (1, .ref 155), (2, .int w3x2)] [] w3M Q := by
    intro m
    induction m using Nat.strongRecOn with
    | ind w3m w3ih =>
      intro w3x2 w3M w3b2 w3s w3I w3F w3q
      refine zs_iload_n (pc := 6) t83_6 rfl ?_
      refine zs_bipush (pc := 7) t83_7 (v := 20) (by decide) ?_
      by_cases w4 : 20 ≤ w3x2.toInt
      · refine zs_icmp_geT (pc := 9) t83_9 rfl li20 (by omega) ?_
        refine zs_aload_n (pc := 36) t83_36 rfl ?_
        refine zs_invV (pc := 37) (k := 155) (as' := []) (st := []) t83_37 mf27 rfl rfl (Or.inl ⟨by decide, (zk1 (w3s.k fk_zMc_155))⟩) ⟨by decide, by decide, Nat.le_of_ble_eq_true rfl, Nat.le_of_ble_eq_true rfl⟩ (zs_in (by decide) mf27 (Nat.le_of_ble_eq_true rfl) ?_) (fun _ _ q => q)
        show zGo X l 0 0 0 27 0 [(0, .ref 155)] [] w3M _
        refine zs_aload_n (pc := 0) t27_0 rfl ?_
        have w5 := ib155_2 w3I
        refine zs_get (pc := 1) t27_1 (by decide) (zk1 (w3s.k fk_zMc_155)) (zfvi rfl rfl) ?_
        refine zs_aload_n (pc := 4) t27_4 rfl ?_
        have w6 := ib155_1 w3I
        refine zs_get (pc := 5) t27_5 (by decide) (zk1 (w3s.k fk_zMc_155)) (zfvi rfl rfl) ?_
        by_cases w7 : (zI w3M 155 2).toInt < (zI w3M 155 1).toInt
        · refine zs_icmp_ltT (pc := 8) t27_8 rfl rfl (by omega) ?_
          refine zs_iconst (pc := 15) t27_15 (v := 0) (by decide) ?_
          refine zs_iret (pc := 16) t27_16 mr27 (by decide) ?_
          show zGo X l 4 0 0 83 40 [(0, .ref 157), (1, .ref 155), (2, .int w3x2)] [.int (0 : Int32)] w3M _
          refine zs_if_neF (pc := 40) t83_40 li0 (by decide) ?_
          refine zs_aload_n (pc := 43) t83_43 rfl ?_
          refine zs_aload_n (pc := 44) t83_44 rfl ?_
          refine zs_invV (pc := 45) (k := 155) (as' := []) (st := [.ref 155]) t83_45 mf29 rfl rfl (Or.inl ⟨by decide, (zk1 (w3s.k fk_zMc_155))⟩) ⟨by decide, by decide, Nat.le_of_ble_eq_true rfl, Nat.le_of_ble_eq_true rfl⟩ (zs_in (by decide) mf29 (Nat.le_of_ble_eq_true rfl) ?_) (fun _ _ q => q)
          show zGo X l 0 0 0 29 0 [(0, .ref 155)] [] w3M _
          refine zs_aload_n (pc := 0) t29_0 rfl ?_
          refine zs_get (pc := 1) t29_1 (by decide) (zk1 (w3s.k fk_zMc_155)) (zfvi rfl rfl) ?_
          refine zs_iret (pc := 4) t29_4 mr29 rfl ?_
          show zGo X l 4 0 0 83 48 [(0, .ref 157), (1, .ref 155), (2, .int w3x2)] [.int (zI w3M 155 2), .ref 155] w3M _
          refine zs_invV (pc := 48) (k := 155) (as' := [.int (zI w3M 155 2)]) (st := []) t83_48 mf34 rfl rfl (Or.inl ⟨by decide, (zk1 (w3s.k fk_zMc_155))⟩) ⟨by decide, by decide, Nat.le_of_ble_eq_true rfl, Nat.le_of_ble_eq_true rfl⟩ (zs_in (by decide) mf34 (Nat.le_of_ble_eq_true rfl) ?_) (fun _ _ q => q)
          show zGo X l 0 0 0 34 0 [(0, .ref 155), (1, .int (zI w3M 155 2))] [] w3M _
          refine zs_aload_n (pc := 0) t34_0 rfl ?_
          refine zs_iload_n (pc := 1) t34_1 rfl ?_
          have w8 : zIv cLo cHi (zsI w3M 155 3 (zI w3M 155 2)) := zIv.put w3I (show (-2147483648) ≤ (zI w3M 155 2).toInt ∧ (zI w3M 155 2).toInt ≤ 2147483647 from (zrg (zI w3M 155 2)))
          refine zs_putI (pc := 2) t34_2 (zk1 (w3s.k fk_zMc_155)) rfl ?_
          refine zs_iconst (pc := 5) t34_5 (v := 0) (by decide) ?_
          refine zs_iret (pc := 6) t34_6 mr34 (by decide) ?_
          show zGo X l 4 0 0 83 51 [(0, .ref 157), (1, .ref 155), (2, .int w3x2)] [.int (0 : Int32)] (zsI w3M 155 3 (zI w3M 155 2)) _
          refine zs_pop (pc := 51) t83_51 rfl ?_
          refine zs_iconst (pc := 52) t83_52 (v := -1) (by decide) ?_
          exact zs_iret (pc := 53) t83_53 mr83 (by decide) (hQ _ _ w3s w8 (((((zFr.refl).put rfl).put rfl).trans (w3F.mono rfl)).put rfl) (by decide) (by decide))
        · refine zs_icmp_ltF (pc := 8) t27_8 rfl rfl (by omega) ?_
          refine zs_iconst (pc := 11) t27_11 (v := 1) (by decide) ?_
          refine zs_goto (pc := 12) t27_12 ?_
          refine zs_iret (pc := 16) t27_16 mr27 (by decide) ?_
          show zGo X l 4 0 0 83 40 [(0, .ref 157), (1, .ref 155), (2, .int w3x2)] [.int (1 : Int32)] w3M _
          refine zs_if_neT (pc := 40) t83_40 li1 (by decide) ?_
          refine zs_iload_n (pc := 54) t83_54 rfl ?_
          exact zs_iret (pc := 55) t83_55 mr83 rfl (hQ _ _ w3s w3I ((((zFr.refl).put rfl).put rfl).trans (w3F.mono rfl)) (by omega) (by omega))
      · refine zs_icmp_geF (pc := 9) t83_9 rfl li20 (by omega) ?_
        refine zs_aload_n (pc := 12) t83_12 rfl ?_
        refine zs_invV (pc := 13) (k := 155) (as' := []) (st := []) t83_13 mf27 rfl rfl (Or.inl ⟨by decide, (zk1 (w3s.k fk_zMc_155))⟩) ⟨by decide, by decide, Nat.le_of_ble_eq_true rfl, Nat.le_of_ble_eq_true rfl⟩ (zs_in (by decide) mf27 (Nat.le_of_ble_eq_true rfl) ?_) (fun _ _ q => q)
        show zGo X l 0 0 0 27 0 [(0, .ref 155)] [] w3M _
        refine zs_aload_n (pc := 0) t27_0 rfl ?_
        have w9 := ib155_2 w3I
        refine zs_get (pc := 1) t27_1 (by decide) (zk1 (w3s.k fk_zMc_155)) (zfvi rfl rfl) ?_
        refine zs_aload_n (pc := 4) t27_4 rfl ?_
        have w10 := ib155_1 w3I
        refine zs_get (pc := 5) t27_5 (by decide) (zk1 (w3s.k fk_zMc_155)) (zfvi rfl rfl) ?_
        by_cases w11 : (zI w3M 155 2).toInt < (zI w3M 155 1).toInt
        · refine zs_icmp_ltT (pc := 8) t27_8 rfl rfl (by omega) ?_
          refine zs_iconst (pc := 15) t27_15 (v := 0) (by decide) ?_
          refine zs_iret (pc := 16) t27_16 mr27 (by decide) ?_
          show zGo X l 4 0 0 83 16 [(0, .ref 157), (1, .ref 155), (2, .int w3x2)] [.int (0 : Int32)] w3M _
          refine zs_if_neF (pc := 16) t83_16 li0 (by decide) ?_
          refine zs_aload_n (pc := 19) t83_19 rfl ?_
          refine zs_aload_n (pc := 20) t83_20 rfl ?_
          refine zs_iload_n (pc := 21) t83_21 rfl ?_
          refine zs_invV (pc := 22) (k := 157) (as' := [.ref 155, .int w3x2]) (st := []) t83_22 mf84 rfl rfl (Or.inl ⟨by decide, (zk1 (w3s.k fk_zMc_157))⟩) ⟨by decide, by decide, Nat.le_of_ble_eq_true rfl, Nat.le_of_ble_eq_true rfl⟩ (C84_157_155 w3s w3I ⟨by omega, by omega⟩ ?_) (fun _ _ q => q)
          intro w12M w12v w12s w12I w12F w12a w12b
          show zGo X l 4 0 0 83 25 [(0, .ref 157), (1, .ref 155), (2, .int w3x2)] [.int w12v] w12M _
          by_cases w13 : w12v.toInt ≠ 0
          · refine zs_if_neT (pc := 25) t83_25 rfl (by omega) ?_
            obtain ⟨w14v, w14e, w14⟩ := ziadd (a := w3x2) (b := Int32.ofInt 1) rfl (show (Int32.ofInt 1).toInt = 1 by decide) (by omega) (by omega)
            refine zs_iinc (pc := 30) t83_30 (ls' := [(2, .int w14v), (0, .ref 157), (1, .ref 155)]) (zml mf83 (by decide)) rfl (c := w14v) w14e rfl ?_
            refine zs_goto (pc := 33) t83_33 ?_
            refine zGo.locals (ls' := [(0, .ref 157), (1, .ref 155), (2, .int w14v)]) (by simp) ?_
            exact w3ih (w3m - 1) (by omega) w14v w12M ⟨by omega, by omega⟩ w12s w12I (((zFr.refl).trans (w3F.mono rfl)).trans (w12F.mono rfl)) (by omega)
          · refine zs_if_neF (pc := 25) t83_25 rfl (by omega) ?_
            refine zs_iconst (pc := 28) t83_28 (v := -1) (by decide) ?_
            exact zs_iret (pc := 29) t83_29 mr83 (by decide) (hQ _ _ w12s w12I (((((zFr.refl).put rfl).put rfl).trans (w3F.mono rfl)).trans (w12F.mono rfl)) (by decide) (by decide))
        · refine zs_icmp_ltF (pc := 8) t27_8 rfl rfl (by omega) ?_
          refine zs_iconst (pc := 11) t27_11 (v := 1) (by decide) ?_
          refine zs_goto (pc := 12) t27_12 ?_
          refine zs_iret (pc := 16) t27_16 mr27 (by decide) ?_
          show zGo X l 4 0 0 83 16 [(0, .ref 157), (1, .ref 155), (2, .int w3x2)] [.int (1 : Int32)] w3M _
          refine zs_if_neT (pc := 16) t83_16 li1 (by decide) ?_
          refine zs_aload_n (pc := 36) t83_36 rfl ?_
          refine zs_invV (pc := 37) (k := 155) (as' := []) (st := []) t83_37 mf27 rfl rfl (Or.inl ⟨by decide, (zk1 (w3s.k fk_zMc_155))⟩) ⟨by decide, by decide, Nat.le_of_ble_eq_true rfl, Nat.le_of_ble_eq_true rfl⟩ (zs_in (by decide) mf27 (Nat.le_of_ble_eq_true rfl) ?_) (fun _ _ q => q)
          show zGo X l 0 0 0 27 0 [(0, .ref 155)] [] w3M _
          refine zs_aload_n (pc := 0) t27_0 rfl ?_
          refine zs_get (pc := 1) t27_1 (by decide) (zk1 (w3s.k fk_zMc_155)) (zfvi rfl rfl) ?_
          refine zs_aload_n (pc := 4) t27_4 rfl ?_
          refine zs_get (pc := 5) t27_5 (by decide) (zk1 (w3s.k fk_zMc_155)) (zfvi rfl rfl) ?_
          by_cases w15 : (zI w3M 155 2).toInt < (zI w3M 155 1).toInt
          · refine zs_icmp_ltT (pc := 8) t27_8 rfl rfl (by omega) ?_
            refine zs_iconst (pc := 15) t27_15 (v := 0) (by decide) ?_
            refine zs_iret (pc := 16) t27_16 mr27 (by decide) ?_
            show zGo X l 4 0 0 83 40 [(0, .ref 157), (1, .ref 155), (2, .int w3x2)] [.int (0 : Int32)] w3M _
            refine zs_if_neF (pc := 40) t83_40 li0 (by decide) ?_
            refine zs_aload_n (pc := 43) t83_43 rfl ?_
            refine zs_aload_n (pc := 44) t83_44 rfl ?_
            refine zs_invV (pc := 45) (k := 155) (as' := []) (st := [.ref 155]) t83_45 mf29 rfl rfl (Or.inl ⟨by decide, (zk1 (w3s.k fk_zMc_155))⟩) ⟨by decide, by decide, Nat.le_of_ble_eq_true rfl, Nat.le_of_ble_eq_true rfl⟩ (zs_in (by decide) mf29 (Nat.le_of_ble_eq_true rfl) ?_) (fun _ _ q => q)
            show zGo X l 0 0 0 29 0 [(0, .ref 155)] [] w3M _
            refine zs_aload_n (pc := 0) t29_0 rfl ?_
            refine zs_get (pc := 1) t29_1 (by decide) (zk1 (w3s.k fk_zMc_155)) (zfvi rfl rfl) ?_
            refine zs_iret (pc := 4) t29_4 mr29 rfl ?_
            show zGo X l 4 0 0 83 48 [(0, .ref 157), (1, .ref 155), (2, .int w3x2)] [.int (zI w3M 155 2), .ref 155] w3M _
            refine zs_invV (pc := 48) (k := 155) (as' := [.int (zI w3M 155 2)]) (st := []) t83_48 mf34 rfl rfl (Or.inl ⟨by decide, (zk1 (w3s.k fk_zMc_155))⟩) ⟨by decide, by decide, Nat.le_of_ble_eq_true rfl, Nat.le_of_ble_eq_true rfl⟩ (zs_in (by decide) mf34 (Nat.le_of_ble_eq_true rfl) ?_) (fun _ _ q => q)
            show zGo X l 0 0 0 34 0 [(0, .ref 155), (1, .int (zI w3M 155 2))] [] w3M _
            refine zs_aload_n (pc := 0) t34_0 rfl ?_
            refine zs_iload_n (pc := 1) t34_1 rfl ?_
            have w16 : zIv cLo cHi (zsI w3M 155 3 (zI w3M 155 2)) := zIv.put w3I (show (-2147483648) ≤ (zI w3M 155 2).toInt ∧ (zI w3M 155 2).toInt ≤ 2147483647 from (zrg (zI w3M 155 2)))
            refine zs_putI (pc := 2) t34_2 (zk1 (w3s.k fk_zMc_155)) rfl ?_
            refine zs_iconst (pc := 5) t34_5 (v := 0) (by decide) ?_
            refine zs_iret (pc := 6) t34_6 mr34 (by decide) ?_
            show zGo X l 4 0 0 83 51 [(0, .ref 157), (1, .ref 155), (2, .int w3x2)] [.int (0 : Int32)] (zsI w3M 155 3 (zI w3M 155 2)) _
            refine zs_pop (pc := 51) t83_51 rfl ?_
            refine zs_iconst (pc := 52) t83_52 (v := -1) (by decide) ?_
            exact zs_iret (pc := 53) t83_53 mr83 (by decide) (hQ _ _ w3s w16 (((((zFr.refl).put rfl).put rfl).trans (w3F.mono rfl)).put rfl) (by decide) (by decide))
          · refine zs_icmp_ltF (pc := 8) t27_8 rfl rfl (by omega) ?_
            refine zs_iconst (pc := 11) t27_11 (v := 1) (by decide) ?_
            refine zs_goto (pc := 12) t27_12 ?_
            refine zs_iret (pc := 16) t27_16 mr27 (by decide) ?_
            show zGo X l 4 0 0 83 40 [(0, .ref 157), (1, .ref 155), (2, .int w3x2)] [.int (1 : Int32)] w3M _
            refine zs_if_neT (pc := 40) t83_40 li1 (by decide) ?_
            refine zs_iload_n (pc := 54) t83_54 rfl ?_
            exact zs_iret (pc := 55) t83_55 mr83 rfl (hQ _ _ w3s w3I ((((zFr.refl).put rfl).put rfl).trans (w3F.mono rfl)) (by omega) (by omega))
  refine zGo.locals (ls' := [(0, .ref 157), (1, .ref 155), (2, .int (0 : Int32))]) (by simp) ?_
  have w17 := li0
  exact w3L ((20 - 0 : Int).toNat) (0 : Int32) (zsI (zsI M 155 2 (0 : Int32)) 155 3 (-1 : Int32)) ⟨by decide, by decide⟩ hs w2 zFr.refl (by omega)
theorem C58_31_7 {X : zX} {l : Launch} {M : zM} {Q : Option Value → zM → Prop} (hs : zSk zMc M) (hI : zIv cLo cHi M) (hQ : ∀ M', zSk zMc M' → zIv cLo cHi M' → zFr [(31, 31, none), (35, 130, none)] M M' → Q none M') : zCall X l 3 0 0 58 [.ref 31, .ref 7] M Q := by
  refine zs_in (by decide) mf58 (Nat.le_of_ble_eq_true rfl) ?_
  show zGo X l 3 0 0 58 0 [(0, .ref 31), (1, .ref 7)] [] M _
  refine zs_aload_n (pc := 0) t58_0 rfl ?_
  refine zs_aload_n (pc := 1) t58_1 rfl ?_
  have w1 := ib31_1 hI
  refine zs_get (pc := 2) t58_2 (by decide) (zk1 (hs.k fk_zMc_31)) (zfvi rfl rfl) ?_
  refine zs_iconst (pc := 5) t58_5 (v := 1) (by decide) ?_
  obtain ⟨w2v, w2e, w2⟩ := ziadd (a := (zI M 31 1)) (b := (1 : Int32)) rfl li1 (by omega) (by omega)
  refine zs_iadd (pc := 6) t58_6 (c := w2v) w2e ?_
  refine zs_bipush (pc := 7) t58_7 (v := 8) (by decide) ?_
  obtain ⟨w3v, w3⟩ : ∃ v, w2v - w2v / (8 : Int32) * (8 : Int32) = v := ⟨_, rfl⟩
  have w3g : 0 ≤ w3v.toInt ∧ w3v.toInt ≤ 7 := by rw [← w3]; exact zrem w2 li8 (by omega) (by decide)
  refine zs_irem (pc := 9) t58_9 (by decide) (c := w3v) w3 ?_
  have w4 : zIv cLo cHi (zsI M 31 1 w3v) := zIv.put hI (show 0 ≤ w3v.toInt ∧ w3v.toInt ≤ 7 from ⟨by omega, by omega⟩)
  refine zs_putI (pc := 10) t58_10 (zk1 (hs.k fk_zMc_31)) rfl ?_
  refine zs_aload_n (pc := 13) t58_13 rfl ?_
  refine zs_get (pc := 14) t58_14 (by decide) (zk1 (hs.k fk_zMc_31)) (hs.p rfl fv_zMc_31_0) ?_
  refine zs_aload_n (pc := 17) t58_17 rfl ?_
  refine zs_get (pc := 18) t58_18 (by decide) (zk1 (hs.k fk_zMc_31)) (zfvi rfl zIs) ?_
  by_cases w5 : w3v.toInt = 0
  · refine zs_aald (pc := 21) t58_21 (j := 0) (Or.inl (zk1 (hs.k fk_zMc_32))) ((rfl : w3v.toInt = w3v.toInt).trans w5) (zk2 (hs.k fk_zMc_32) (by decide)) (hs.a fp_zMc_32_0) ?_
    refine zs_aload_n (pc := 22) t58_22 rfl ?_
    refine zs_invV (pc := 23) (k := 35) (as' := [.ref 7]) (st := []) t58_23 mf23 rfl rfl (Or.inl ⟨by decide, (zk1 (hs.k fk_zMc_35))⟩) ⟨by decide, by decide, Nat.le_of_ble_eq_true rfl, Nat.le_of_ble_eq_true rfl⟩ (C23_35_7 hs w4 ?_) (fun _ _ q => q)
    intro w6M w6s w6I w6F
    show zGo X l 3 0 0 58 26 [(0, .ref 31), (1, .ref 7)] [] w6M _
    refine zs_aload_n (pc := 26) t58_26 rfl ?_
    refine zs_aload_n (pc := 27) t58_27 rfl ?_
    have w7 := ib31_2 hI
    refine zs_get (pc := 28) t58_28 (by decide) (zk1 (w6s.k fk_zMc_31)) (zfvi rfl ((w6F 31 2 rfl).trans ((zIoj (by decide)).trans rfl))) ?_
    refine zs_iconst (pc := 31) t58_31 (v := 1) (by decide) ?_
    obtain ⟨w8v, w8e, w8⟩ := ziadd (a := (zI M 31 2)) (b := (1 : Int32)) rfl li1 (by omega) (by omega)
    refine zs_iadd (pc := 32) t58_32 (c := w8v) w8e ?_
    refine zs_bipush (pc := 33) t58_33 (v := 8) (by decide) ?_
    refine zs_invS (pc := 35) (as := [.int w8v, .int (8 : Int32)]) (st := [.ref 31]) t58_35 (by decide) mf20 rfl rfl ⟨by decide, by decide, Nat.le_of_ble_eq_true rfl, Nat.le_of_ble_eq_true rfl⟩ (zs_in (by decide) mf20 (Nat.le_of_ble_eq_true rfl) ?_) (fun _ _ q => q)
    show zGo X l 0 0 0 20 0 [(0, .int w8v), (1, .int (8 : Int32))] [] w6M _
    refine zs_iload_n (pc := 0) t20_0 rfl ?_
    refine zs_iload_n (pc := 1) t20_1 rfl ?_
    by_cases w9 : 8 < ((zI M 31 2).toInt + 1)
    · refine zs_icmp_gtT (pc := 2) t20_2 w8 li8 (by omega) ?_
      refine zs_iload_n (pc := 9) t20_9 rfl ?_
      refine zs_iret (pc := 10) t20_10 mr20 (by decide) ?_
      show zGo X l 3 0 0 58 38 [(0, .ref 31), (1, .ref 7)] [.int (8 : Int32), .ref 31] w6M _
      have w10 : zIv cLo cHi (zsI w6M 31 2 (8 : Int32)) := zIv.put w6I (show 0 ≤ (8 : Int32).toInt ∧ (8 : Int32).toInt ≤ 8 from ⟨by decide, by decide⟩)
      refine zs_putI (pc := 38) t58_38 (zk1 (w6s.k fk_zMc_31)) rfl ?_
      exact zs_vret (pc := 41) t58_41 mr58 (hQ _ w6s w10 ((((zFr.refl).put rfl).trans (w6F.mono rfl)).put rfl))
    · refine zs_icmp_gtF (pc := 2) t20_2 w8 li8 (by omega) ?_
      refine zs_iload_n (pc := 5) t20_5 rfl ?_
      refine zs_goto (pc := 6) t20_6 ?_
      refine zs_iret (pc := 10) t20_10 mr20 rfl ?_
      show zGo X l 3 0 0 58 38 [(0, .ref 31), (1, .ref 7)] [.int w8v, .ref 31] w6M _
      have w11 : zIv cLo cHi (zsI w6M 31 2 w8v) := zIv.put w6I (show 0 ≤ w8v.toInt ∧ w8v.toInt ≤ 8 from ⟨by omega, by omega⟩)
      refine zs_putI (pc := 38) t58_38 (zk1 (w6s.k fk_zMc_31)) rfl ?_
      exact zs_vret (pc := 41) t58_41 mr58 (hQ _ w6s w11 ((((zFr.refl).put rfl).trans (w6F.mono rfl)).put rfl))
  by_cases w12 : w3v.toInt = 1
  · refine zs_aald (pc := 21) t58_21 (j := 1) (Or.inl (zk1 (hs.k fk_zMc_32))) ((rfl : w3v.toInt = w3v.toInt).trans w12) (zk2 (hs.k fk_zMc_32) (by decide)) (hs.a fp_zMc_32_1) ?_
    refine zs_aload_n (pc := 22) t58_22 rfl ?_
    refine zs_invV (pc := 23) (k := 47) (as' := [.ref 7]) (st := []) t58_23 mf23 rfl rfl (Or.inl ⟨by decide, (zk1 (hs.k fk_zMc_47))⟩) ⟨by decide, by decide, Nat.le_of_ble_eq_true rfl, Nat.le_of_ble_eq_true rfl⟩ (C23_47_7 hs w4 ?_) (fun _ _ q => q)
    intro w13M w13s w13I w13F
    show zGo X l 3 0 0 58 26 [(0, .ref 31), (1, .ref 7)] [] w13M _
    refine zs_aload_n (pc := 26) t58_26 rfl ?_
    refine zs_aload_n (pc := 27) t58_27 rfl ?_
    have w14 := ib31_2 hI
    refine zs_get (pc := 28) t58_28 (by decide) (zk1 (w13s.k fk_zMc_31)) (zfvi rfl ((w13F 31 2 rfl).trans ((zIoj (by decide)).trans rfl))) ?_
    refine zs_iconst (pc := 31) t58_31 (v := 1) (by decide) ?_
    obtain ⟨w15v, w15e, w15⟩ := ziadd (a := (zI M 31 2)) (b := (1 : Int32)) rfl li1 (by omega) (by omega)
    refine zs_iadd (pc := 32) t58_32 (c := w15v) w15e ?_
    refine zs_bipush (pc := 33) t58_33 (v := 8) (by decide) ?_
    refine zs_invS (pc := 35) (as := [.int w15v, .int (8 : Int32)]) (st := [.ref 31]) t58_35 (by decide) mf20 rfl rfl ⟨by decide, by decide, Nat.le_of_ble_eq_true rfl, Nat.le_of_ble_eq_true rfl⟩ (zs_in (by decide) mf20 (Nat.le_of_ble_eq_true rfl) ?_) (fun _ _ q => q)
    show zGo X l 0 0 0 20 0 [(0, .int w15v), (1, .int (8 : Int32))] [] w13M _
    refine zs_iload_n (pc := 0) t20_0 rfl ?_
    refine zs_iload_n (pc := 1) t20_1 rfl ?_
    by_cases w16 : 8 < ((zI M 31 2).toInt + 1)
    · refine zs_icmp_gtT (pc := 2) t20_2 w15 li8 (by omega) ?_
      refine zs_iload_n (pc := 9) t20_9 rfl ?_
      refine zs_iret (pc := 10) t20_10 mr20 (by decide) ?_
      show zGo X l 3 0 0 58 38 [(0, .ref 31), (1, .ref 7)] [.int (8 : Int32), .ref 31] w13M _
      have w17 : zIv cLo cHi (zsI w13M 31 2 (8 : Int32)) := zIv.put w13I (show 0 ≤ (8 : Int32).toInt ∧ (8 : Int32).toInt ≤ 8 from ⟨by decide, by decide⟩)
      refine zs_putI (pc := 38) t58_38 (zk1 (w13s.k fk_zMc_31)) rfl ?_
      exact zs_vret (pc := 41) t58_41 mr58 (hQ _ w13s w17 ((((zFr.refl).put rfl).trans (w13F.mono rfl)).put rfl))
    · refine zs_icmp_gtF (pc := 2) t20_2 w15 li8 (by omega) ?_
      refine zs_iload_n (pc := 5) t20_5 rfl ?_
      refine zs_goto (pc := 6) t20_6 ?_
      refine zs_iret (pc := 10) t20_10 mr20 rfl ?_
      show zGo X l 3 0 0 58 38 [(0, .ref 31), (1, .ref 7)] [.int w15v, .ref 31] w13M _
      have w18 : zIv cLo cHi (zsI w13M 31 2 w15v) := zIv.put w13I (show 0 ≤ w15v.toInt ∧ w15v.toInt ≤ 8 from ⟨by omega, by omega⟩)
      refine zs_putI (pc := 38) t58_38 (zk1 (w13s.k fk_zMc_31)) rfl ?_
      exact zs_vret (pc := 41) t58_41 mr58 (hQ _ w13s w18 ((((zFr.refl).put rfl).trans (w13F.mono rfl)).put rfl))
  by_cases w19 : w3v.toInt = 2
  · refine zs_aald (pc := 21) t58_21 (j := 2) (Or.inl (zk1 (hs.k fk_zMc_32))) ((rfl : w3v.toInt = w3v.toInt).trans w19) (zk2 (hs.k fk_zMc_32) (by decide)) (hs.a fp_zMc_32_2) ?_
    refine zs_aload_n (pc := 22) t58_22 rfl ?_
    refine zs_invV (pc := 23) (k := 59) (as' := [.ref 7]) (st := []) t58_23 mf23 rfl rfl (Or.inl ⟨by decide, (zk1 (hs.k fk_zMc_59))⟩) ⟨by decide, by decide, Nat.le_of_ble_eq_true rfl, Nat.le_of_ble_eq_true rfl⟩ (C23_59_7 hs w4 ?_) (fun _ _ q => q)
    intro w20M w20s w20I w20F
    show zGo X l 3 0 0 58 26 [(0, .ref 31), (1, .ref 7)] [] w20M _
    refine zs_aload_n (pc := 26) t58_26 rfl ?_
    refine zs_aload_n (pc := 27) t58_27 rfl ?_
    have w21 := ib31_2 hI
    refine zs_get (pc := 28) t58_28 (by decide) (zk1 (w20s.k fk_zMc_31)) (zfvi rfl ((w20F 31 2 rfl).trans ((zIoj (by decide)).trans rfl))) ?_
    refine zs_iconst (pc := 31) t58_31 (v := 1) (by decide) ?_
    obtain ⟨w22v, w22e, w22⟩ := ziadd (a := (zI M 31 2)) (b := (1 : Int32)) rfl li1 (by omega) (by omega)
    refine zs_iadd (pc := 32) t58_32 (c := w22v) w22e ?_
    refine zs_bipush (pc := 33) t58_33 (v := 8) (by decide) ?_
    refine zs_invS (pc := 35) (as := [.int w22v, .int (8 : Int32)]) (st := [.ref 31]) t58_35 (by decide) mf20 rfl rfl ⟨by decide, by decide, Nat.le_of_ble_eq_true rfl, Nat.le_of_ble_eq_true rfl⟩ (zs_in (by decide) mf20 (Nat.le_of_ble_eq_true rfl) ?_) (fun _ _ q => q)
    show zGo X l 0 0 0 20 0 [(0, .int w22v), (1, .int (8 : Int32))] [] w20M _
    refine zs_iload_n (pc := 0) t20_0 rfl ?_
    refine zs_iload_n (pc := 1) t20_1 rfl ?_
    by_cases w23 : 8 < ((zI M 31 2).toInt + 1)
    · refine zs_icmp_gtT (pc := 2) t20_2 w22 li8 (by omega) ?_
      refine zs_iload_n (pc := 9) t20_9 rfl ?_
      refine zs_iret (pc := 10) t20_10 mr20 (by decide) ?_
      show zGo X l 3 0 0 58 38 [(0, .ref 31), (1, .ref 7)] [.int (8 : Int32), .ref 31] w20M _
      have w24 : zIv cLo cHi (zsI w20M 31 2 (8 : Int32)) := zIv.put w20I (show 0 ≤ (8 : Int32).toInt ∧ (8 : Int32).toInt ≤ 8 from ⟨by decide, by decide⟩)
      refine zs_putI (pc := 38) t58_38 (zk1 (w20s.k fk_zMc_31)) rfl ?_
      exact zs_vret (pc := 41) t58_41 mr58 (hQ _ w20s w24 ((((zFr.refl).put rfl).trans (w20F.mono rfl)).put rfl))
    · refine zs_icmp_gtF (pc := 2) t20_2 w22 li8 (by omega) ?_
      refine zs_iload_n (pc := 5) t20_5 rfl ?_
      refine zs_goto (pc := 6) t20_6 ?_
      refine zs_iret (pc := 10) t20_10 mr20 rfl ?_
      show zGo X l 3 0 0 58 38 [(0, .ref 31), (1, .ref 7)] [.int w22v, .ref 31] w20M _
      have w25 : zIv cLo cHi (zsI w20M 31 2 w22v) := zIv.put w20I (show 0 ≤ w22v.toInt ∧ w22v.toInt ≤ 8 from ⟨by omega, by omega⟩)
      refine zs_putI (pc := 38) t58_38 (zk1 (w20s.k fk_zMc_31)) rfl ?_
      exact zs_vret (pc := 41) t58_41 mr58 (hQ _ w20s w25 ((((zFr.refl).put rfl).trans (w20F.mono rfl)).put rfl))
  by_cases w26 : w3v.toInt = 3
  · refine zs_aald (pc := 21) t58_21 (j := 3) (Or.inl (zk1 (hs.k fk_zMc_32))) ((rfl : w3v.toInt = w3v.toInt).trans w26) (zk2 (hs.k fk_zMc_32) (by decide)) (hs.a fp_zMc_32_3) ?_
    refine zs_aload_n (pc := 22) t58_22 rfl ?_
    refine zs_invV (pc := 23) (k := 71) (as' := [.ref 7]) (st := []) t58_23 mf23 rfl rfl (Or.inl ⟨by decide, (zk1 (hs.k fk_zMc_71))⟩) ⟨by decide, by decide, Nat.le_of_ble_eq_true rfl, Nat.le_of_ble_eq_true rfl⟩ (C23_71_7 hs w4 ?_) (fun _ _ q => q)
    intro w27M w27s w27I w27F
    show zGo X l 3 0 0 58 26 [(0, .ref 31), (1, .ref 7)] [] w27M _
    refine zs_aload_n (pc := 26) t58_26 rfl ?_
    refine zs_aload_n (pc := 27) t58_27 rfl ?_
    have w28 := ib31_2 hI
    refine zs_get (pc := 28) t58_28 (by decide) (zk1 (w27s.k fk_zMc_31)) (zfvi rfl ((w27F 31 2 rfl).trans ((zIoj (by decide)).trans rfl))) ?_
    refine zs_iconst (pc := 31) t58_31 (v := 1) (by decide) ?_
    obtain ⟨w29v, w29e, w29⟩ := ziadd (a := (zI M 31 2)) (b := (1 : Int32)) rfl li1 (by omega) (by omega)
    refine zs_iadd (pc := 32) t58_32 (c := w29v) w29e ?_
    refine zs_bipush (pc := 33) t58_33 (v := 8) (by decide) ?_
    refine zs_invS (pc := 35) (as := [.int w29v, .int (8 : Int32)]) (st := [.ref 31]) t58_35 (by decide) mf20 rfl rfl ⟨by decide, by decide, Nat.le_of_ble_eq_true rfl, Nat.le_of_ble_eq_true rfl⟩ (zs_in (by decide) mf20 (Nat.le_of_ble_eq_true rfl) ?_) (fun _ _ q => q)
    show zGo X l 0 0 0 20 0 [(0, .int w29v), (1, .int (8 : Int32))] [] w27M _
    refine zs_iload_n (pc := 0) t20_0 rfl ?_
    refine zs_iload_n (pc := 1) t20_1 rfl ?_
    by_cases w30 : 8 < ((zI M 31 2).toInt + 1)
    · refine zs_icmp_gtT (pc := 2) t20_2 w29 li8 (by omega) ?_
      refine zs_iload_n (pc := 9) t20_9 rfl ?_
      refine zs_iret (pc := 10) t20_10 mr20 (by decide) ?_
      show zGo X l 3 0 0 58 38 [(0, .ref 31), (1, .ref 7)] [.int (8 : Int32), .ref 31] w27M _
      have w31 : zIv cLo cHi (zsI w27M 31 2 (8 : Int32)) := zIv.put w27I (show 0 ≤ (8 : Int32).toInt ∧ (8 : Int32).toInt ≤ 8 from ⟨by decide, by decide⟩)
      refine zs_putI (pc := 38) t58_38 (zk1 (w27s.k fk_zMc_31)) rfl ?_
      exact zs_vret (pc := 41) t58_41 mr58 (hQ _ w27s w31 ((((zFr.refl).put rfl).trans (w27F.mono rfl)).put rfl))
    · refine zs_icmp_gtF (pc := 2) t20_2 w29 li8 (by omega) ?_
      refine zs_iload_n (pc := 5) t20_5 rfl ?_
      refine zs_goto (pc := 6) t20_6 ?_
      refine zs_iret (pc := 10) t20_10 mr20 rfl ?_
      show zGo X l 3 0 0 58 38 [(0, .ref 31), (1, .ref 7)] [.int w29v, .ref 31] w27M _
      have w32 : zIv cLo cHi (zsI w27M 31 2 w29v) := zIv.put w27I (show 0 ≤ w29v.toInt ∧ w29v.toInt ≤ 8 from ⟨by omega, by omega⟩)
      refine zs_putI (pc := 38) t58_38 (zk1 (w27s.k fk_zMc_31)) rfl ?_
      exact zs_vret (pc := 41) t58_41 mr58 (hQ _ w27s w32 ((((zFr.refl).put rfl).trans (w27F.mono rfl)).put rfl))
  by_cases w33 : w3v.toInt = 4
  · refine zs_aald (pc := 21) t58_21 (j := 4) (Or.inl (zk1 (hs.k fk_zMc_32))) ((rfl : w3v.toInt = w3v.toInt).trans w33) (zk2 (hs.k fk_zMc_32) (by decide)) (hs.a fp_zMc_32_4) ?_
    refine zs_aload_n (pc := 22) t58_22 rfl ?_
    refine zs_invV (pc := 23) (k := 83) (as' := [.ref 7]) (st := []) t58_23 mf23 rfl rfl (Or.inl ⟨by decide, (zk1 (hs.k fk_zMc_83))⟩) ⟨by decide, by decide, Nat.le_of_ble_eq_true rfl, Nat.le_of_ble_eq_true rfl⟩ (C23_83_7 hs w4 ?_) (fun _ _ q => q)
    intro w34M w34s w34I w34F
    show zGo X l 3 0 0 58 26 [(0, .ref 31), (1, .ref 7)] [] w34M _
    refine zs_aload_n (pc := 26) t58_26 rfl ?_
    refine zs_aload_n (pc := 27) t58_27 rfl ?_
    have w35 := ib31_2 hI
    refine zs_get (pc := 28) t58_28 (by decide) (zk1 (w34s.k fk_zMc_31)) (zfvi rfl ((w34F 31 2 rfl).trans ((zIoj (by decide)).trans rfl))) ?_
    refine zs_iconst (pc := 31) t58_31 (v := 1) (by decide) ?_
    obtain ⟨w36v, w36e, w36⟩ := ziadd (a := (zI M 31 2)) (b := (1 : Int32)) rfl li1 (by omega) (by omega)
    refine zs_iadd (pc := 32) t58_32 (c := w36v) w36e ?_
    refine zs_bipush (pc := 33) t58_33 (v := 8) (by decide) ?_
    refine zs_invS (pc := 35) (as := [.int w36v, .int (8 : Int32)]) (st := [.ref 31]) t58_35 (by decide) mf20 rfl rfl ⟨by decide, by decide, Nat.le_of_ble_eq_true rfl, Nat.le_of_ble_eq_true rfl⟩ (zs_in (by decide) mf20 (Nat.le_of_ble_eq_true rfl) ?_) (fun _ _ q => q)
    show zGo X l 0 0 0 20 0 [(0, .int w36v), (1, .int (8 : Int32))] [] w34M _
    refine zs_iload_n (pc := 0) t20_0 rfl ?_
    refine zs_iload_n (pc := 1) t20_1 rfl ?_
    by_cases w37 : 8 < ((zI M 31 2).toInt + 1)
    · refine zs_icmp_gtT (pc := 2) t20_2 w36 li8 (by omega) ?_
      refine zs_iload_n (pc := 9) t20_9 rfl ?_
      refine zs_iret (pc := 10) t20_10 mr20 (by decide) ?_
      show zGo X l 3 0 0 58 38 [(0, .ref 31), (1, .ref 7)] [.int (8 : Int32), .ref 31] w34M _
      have w38 : zIv cLo cHi (zsI w34M 31 2 (8 : Int32)) := zIv.put w34I (show 0 ≤ (8 : Int32).toInt ∧ (8 : Int32).toInt ≤ 8 from ⟨by decide, by decide⟩)
      refine zs_putI (pc := 38) t58_38 (zk1 (w34s.k fk_zMc_31)) rfl ?_
      exact zs_vret (pc := 41) t58_41 mr58 (hQ _ w34s w38 ((((zFr.refl).put rfl).trans (w34F.mono rfl)).put rfl))
    · refine zs_icmp_gtF (pc := 2) t20_2 w36 li8 (by omega) ?_
      refine zs_iload_n (pc := 5) t20_5 rfl ?_
      refine zs_goto (pc := 6) t20_6 ?_
      refine zs_iret (pc := 10) t20_10 mr20 rfl ?_
      show zGo X l 3 0 0 58 38 [(0, .ref 31), (1, .ref 7)] [.int w36v, .ref 31] w34M _
      have w39 : zIv cLo cHi (zsI w34M 31 2 w36v) := zIv.put w34I (show 0 ≤ w36v.toInt ∧ w36v.toInt ≤ 8 from ⟨by omega, by omega⟩)
      refine zs_putI (pc := 38) t58_38 (zk1 (w34s.k fk_zMc_31)) rfl ?_
      exact zs_vret (pc := 41) t58_41 mr58 (hQ _ w34s w39 ((((zFr.refl).put rfl).trans (w34F.mono rfl)).put rfl))
  by_cases w40 : w3v.toInt = 5
  · refine zs_aald (pc := 21) t58_21 (j := 5) (Or.inl (zk1 (hs.k fk_zMc_32))) ((rfl : w3v.toInt = w3v.toInt).trans w40) (zk2 (hs.k fk_zMc_32) (by decide)) (hs.a fp_zMc_32_5) ?_
    refine zs_aload_n (pc := 22) t58_22 rfl ?_
    refine zs_invV (pc := 23) (k := 95) (as' := [.ref 7]) (st := []) t58_23 mf23 rfl rfl (Or.inl ⟨by decide, (zk1 (hs.k fk_zMc_95))⟩) ⟨by decide, by decide, Nat.le_of_ble_eq_true rfl, Nat.le_of_ble_eq_true rfl⟩ (C23_95_7 hs w4 ?_) (fun _ _ q => q)
    intro w41M w41s w41I w41F
    show zGo X l 3 0 0 58 26 [(0, .ref 31), (1, .ref 7)] [] w41M _
    refine zs_aload_n (pc := 26) t58_26 rfl ?_
    refine zs_aload_n (pc := 27) t58_27 rfl ?_
    have w42 := ib31_2 hI
    refine zs_get (pc := 28) t58_28 (by decide) (zk1 (w41s.k fk_zMc_31)) (zfvi rfl ((w41F 31 2 rfl).trans ((zIoj (by decide)).trans rfl))) ?_
    refine zs_iconst (pc := 31) t58_31 (v := 1) (by decide) ?_
    obtain ⟨w43v, w43e, w43⟩ := ziadd (a := (zI M 31 2)) (b := (1 : Int32)) rfl li1 (by omega) (by omega)
    refine zs_iadd (pc := 32) t58_32 (c := w43v) w43e ?_
    refine zs_bipush (pc := 33) t58_33 (v := 8) (by decide) ?_
    refine zs_invS (pc := 35) (as := [.int w43v, .int (8 : Int32)]) (st := [.ref 31]) t58_35 (by decide) mf20 rfl rfl ⟨by decide, by decide, Nat.le_of_ble_eq_true rfl, Nat.le_of_ble_eq_true rfl⟩ (zs_in (by decide) mf20 (Nat.le_of_ble_eq_true rfl) ?_) (fun _ _ q => q)
    show zGo X l 0 0 0 20 0 [(0, .int w43v), (1, .int (8 : Int32))] [] w41M _
    refine zs_iload_n (pc := 0) t20_0 rfl ?_
    refine zs_iload_n (pc := 1) t20_1 rfl ?_
    by_cases w44 : 8 < ((zI M 31 2).toInt + 1)
    · refine zs_icmp_gtT (pc := 2) t20_2 w43 li8 (by omega) ?_
      refine zs_iload_n (pc := 9) t20_9 rfl ?_
      refine zs_iret (pc := 10) t20_10 mr20 (by decide) ?_
      show zGo X l 3 0 0 58 38 [(0, .ref 31), (1, .ref 7)] [.int (8 : Int32), .ref 31] w41M _
      have w45 : zIv cLo cHi (zsI w41M 31 2 (8 : Int32)) := zIv.put w41I (show 0 ≤ (8 : Int32).toInt ∧ (8 : Int32).toInt ≤ 8 from ⟨by decide, by decide⟩)
      refine zs_putI (pc := 38) t58_38 (zk1 (w41s.k fk_zMc_31)) rfl ?_
      exact zs_vret (pc := 41) t58_41 mr58 (hQ _ w41s w45 ((((zFr.refl).put rfl).trans (w41F.mono rfl)).put rfl))
    · refine zs_icmp_gtF (pc := 2) t20_2 w43 li8 (by omega) ?_
      refine zs_iload_n (pc := 5) t20_5 rfl ?_
      refine zs_goto (pc := 6) t20_6 ?_
      refine zs_iret (pc := 10) t20_10 mr20 rfl ?_
      show zGo X l 3 0 0 58 38 [(0, .ref 31), (1, .ref 7)] [.int w43v, .ref 31] w41M _
      have w46 : zIv cLo cHi (zsI w41M 31 2 w43v) := zIv.put w41I (show 0 ≤ w43v.toInt ∧ w43v.toInt ≤ 8 from ⟨by omega, by omega⟩)
      refine zs_putI (pc := 38) t58_38 (zk1 (w41s.k fk_zMc_31)) rfl ?_
      exact zs_vret (pc := 41) t58_41 mr58 (hQ _ w41s w46 ((((zFr.refl).put rfl).trans (w41F.mono rfl)).put rfl))
  by_cases w47 : w3v.toInt = 6
  · refine zs_aald (pc := 21) t58_21 (j := 6) (Or.inl (zk1 (hs.k fk_zMc_32))) ((rfl : w3v.toInt = w3v.toInt).trans w47) (zk2 (hs.k fk_zMc_32) (by decide)) (hs.a fp_zMc_32_6) ?_
    refine zs_aload_n (pc := 22) t58_22 rfl ?_
    refine zs_invV (pc := 23) (k := 107) (as' := [.ref 7]) (st := []) t58_23 mf23 rfl rfl (Or.inl ⟨by decide, (zk1 (hs.k fk_zMc_107))⟩) ⟨by decide, by decide, Nat.le_of_ble_eq_true rfl, Nat.le_of_ble_eq_true rfl⟩ (C23_107_7 hs w4 ?_) (fun _ _ q => q)
    intro w48M w48s w48I w48F
    show zGo X l 3 0 0 58 26 [(0, .ref 31), (1, .ref 7)] [] w48M _
    refine zs_aload_n (pc := 26) t58_26 rfl ?_
    refine zs_aload_n (pc := 27) t58_27 rfl ?_
    have w49 := ib31_2 hI
    refine zs_get (pc := 28) t58_28 (by decide) (zk1 (w48s.k fk_zMc_31)) (zfvi rfl ((w48F 31 2 rfl).trans ((zIoj (by decide)).trans rfl))) ?_
    refine zs_iconst (pc := 31) t58_31 (v := 1) (by decide) ?_
    obtain ⟨w50v, w50e, w50⟩ := ziadd (a := (zI M 31 2)) (b := (1 : Int32)) rfl li1 (by omega) (by omega)
    refine zs_iadd (pc := 32) t58_32 (c := w50v) w50e ?_
    refine zs_bipush (pc := 33) t58_33 (v := 8) (by decide) ?_
    refine zs_invS (pc := 35) (as := [.int w50v, .int (8 : Int32)]) (st := [.ref 31]) t58_35 (by decide) mf20 rfl rfl ⟨by decide, by decide, Nat.le_of_ble_eq_true rfl, Nat.le_of_ble_eq_true rfl⟩ (zs_in (by decide) mf20 (Nat.le_of_ble_eq_true rfl) ?_) (fun _ _ q => q)
    show zGo X l 0 0 0 20 0 [(0, .int w50v), (1, .int (8 : Int32))] [] w48M _
    refine zs_iload_n (pc := 0) t20_0 rfl ?_
    refine zs_iload_n (pc := 1) t20_1 rfl ?_
    by_cases w51 : 8 < ((zI M 31 2).toInt + 1)
    · refine zs_icmp_gtT (pc := 2) t20_2 w50 li8 (by omega) ?_
      refine zs_iload_n (pc := 9) t20_9 rfl ?_
      refine zs_iret (pc := 10) t20_10 mr20 (by decide) ?_
      show zGo X l 3 0 0 58 38 [(0, .ref 31), (1, .ref 7)] [.int (8 : Int32), .ref 31] w48M _
      have w52 : zIv cLo cHi (zsI w48M 31 2 (8 : Int32)) := zIv.put w48I (show 0 ≤ (8 : Int32).toInt ∧ (8 : Int32).toInt ≤ 8 from ⟨by decide, by decide⟩)
      refine zs_putI (pc := 38) t58_38 (zk1 (w48s.k fk_zMc_31)) rfl ?_
      exact zs_vret (pc := 41) t58_41 mr58 (hQ _ w48s w52 ((((zFr.refl).put rfl).trans (w48F.mono rfl)).put rfl))
    · refine zs_icmp_gtF (pc := 2) t20_2 w50 li8 (by omega) ?_
      refine zs_iload_n (pc := 5) t20_5 rfl ?_
      refine zs_goto (pc := 6) t20_6 ?_
      refine zs_iret (pc := 10) t20_10 mr20 rfl ?_
      show zGo X l 3 0 0 58 38 [(0, .ref 31), (1, .ref 7)] [.int w50v, .ref 31] w48M _
      have w53 : zIv cLo cHi (zsI w48M 31 2 w50v) := zIv.put w48I (show 0 ≤ w50v.toInt ∧ w50v.toInt ≤ 8 from ⟨by omega, by omega⟩)
      refine zs_putI (pc := 38) t58_38 (zk1 (w48s.k fk_zMc_31)) rfl ?_
      exact zs_vret (pc := 41) t58_41 mr58 (hQ _ w48s w53 ((((zFr.refl).put rfl).trans (w48F.mono rfl)).put rfl))
  have w54 : w3v.toInt = 7 := by omega
  refine zs_aald (pc := 21) t58_21 (j := 7) (Or.inl (zk1 (hs.k fk_zMc_32))) ((rfl : w3v.toInt = w3v.toInt).trans w54) (zk2 (hs.k fk_zMc_32) (by decide)) (hs.a fp_zMc_32_7) ?_
  refine zs_aload_n (pc := 22) t58_22 rfl ?_
  refine zs_invV (pc := 23) (k := 119) (as' := [.ref 7]) (st := []) t58_23 mf23 rfl rfl (Or.inl ⟨by decide, (zk1 (hs.k fk_zMc_119))⟩) ⟨by decide, by decide, Nat.le_of_ble_eq_true rfl, Nat.le_of_ble_eq_true rfl⟩ (C23_119_7 hs w4 ?_) (fun _ _ q => q)
  intro w55M w55s w55I w55F
  show zGo X l 3 0 0 58 26 [(0, .ref 31), (1, .ref 7)] [] w55M _
  refine zs_aload_n (pc := 26) t58_26 rfl ?_
  refine zs_aload_n (pc := 27) t58_27 rfl ?_
  have w56 := ib31_2 hI
  refine zs_get (pc := 28) t58_28 (by decide) (zk1 (w55s.k fk_zMc_31)) (zfvi rfl ((w55F 31 2 rfl).trans ((zIoj (by decide)).trans rfl))) ?_
  refine zs_iconst (pc := 31) t58_31 (v := 1) (by decide) ?_
  obtain ⟨w57v, w57e, w57⟩ := ziadd (a := (zI M 31 2)) (b := (1 : Int32)) rfl li1 (by omega) (by omega)
  refine zs_iadd (pc := 32) t58_32 (c := w57v) w57e ?_
  refine zs_bipush (pc := 33) t58_33 (v := 8) (by decide) ?_
  refine zs_invS (pc := 35) (as := [.int w57v, .int (8 : Int32)]) (st := [.ref 31]) t58_35 (by decide) mf20 rfl rfl ⟨by decide, by decide, Nat.le_of_ble_eq_true rfl, Nat.le_of_ble_eq_true rfl⟩ (zs_in (by decide) mf20 (Nat.le_of_ble_eq_true rfl) ?_) (fun _ _ q => q)
  show zGo X l 0 0 0 20 0 [(0, .int w57v), (1, .int (8 : Int32))] [] w55M _
  refine zs_iload_n (pc := 0) t20_0 rfl ?_
  refine zs_iload_n (pc := 1) t20_1 rfl ?_
  by_cases w58 : 8 < ((zI M 31 2).toInt + 1)
  · refine zs_icmp_gtT (pc := 2) t20_2 w57 li8 (by omega) ?_
    refine zs_iload_n (pc := 9) t20_9 rfl ?_
    refine zs_iret (pc := 10) t20_10 mr20 (by decide) ?_
    show zGo X l 3 0 0 58 38 [(0, .ref 31), (1, .ref 7)] [.int (8 : Int32), .ref 31] w55M _
    have w59 : zIv cLo cHi (zsI w55M 31 2 (8 : Int32)) := zIv.put w55I (show 0 ≤ (8 : Int32).toInt ∧ (8 : Int32).toInt ≤ 8 from ⟨by decide, by decide⟩)
    refine zs_putI (pc := 38) t58_38 (zk1 (w55s.k fk_zMc_31)) rfl ?_
    exact zs_vret (pc := 41) t58_41 mr58 (hQ _ w55s w59 ((((zFr.refl).put rfl).trans (w55F.mono rfl)).put rfl))
  · refine zs_icmp_gtF (pc := 2) t20_2 w57 li8 (by omega) ?_
    refine zs_iload_n (pc := 5) t20_5 rfl ?_
    refine zs_goto (pc := 6) t20_6 ?_
    refine zs_iret (pc := 10) t20_10 mr20 rfl ?_
    show zGo X l 3 0 0 58 38 [(0, .ref 31), (1, .ref 7)] [.int w57v, .ref 31] w55M _
    have w60 : zIv cLo cHi (zsI w55M 31 2 w57v) := zIv.put w55I (show 0 ≤ w57v.toInt ∧ w57v.toInt ≤ 8 from ⟨by omega, by omega⟩)
    refine zs_putI (pc := 38) t58_38 (zk1 (w55s.k fk_zMc_31)) rfl ?_
    exact zs_vret (pc := 41) t58_41 mr58 (hQ _ w55s w60 ((((zFr.refl).put rfl).trans (w55F.mono rfl)).put rfl))
theorem C213_31_7 {X : zX} {l : Launch} {M : zM} {Q : Option Value → zM → Prop} (hs : zSk zMc M) (hI : zIv cLo cHi M) (hQ : ∀ (M' : zM) (v : Int32), zSk zMc M' → zIv cLo cHi M' → zFr [(31, 31, none), (7, 18, none)] M M' → 0 ≤ v.toInt → v.toInt ≤ 1 → Q (some (.int v)) M') : zCall X l 3 0 0 213 [.ref 31, .ref 7] M Q := by
  refine zs_in (by decide) mf213 (Nat.le_of_ble_eq_true rfl) ?_
  show zGo X l 3 0 0 213 0 [(0, .ref 31), (1, .ref 7)] [] M _
  refine zs_aload_n (pc := 0) t213_0 rfl ?_
  have w1 := ib31_2 hI
  refine zs_get (pc := 1) t213_1 (by decide) (zk1 (hs.k fk_zMc_31)) (zfvi rfl rfl) ?_
  by_cases w2 : (zI M 31 2).toInt ≠ 0
  · refine zs_if_neT (pc := 4) t213_4 rfl (by omega) ?_
    refine zs_aload_n (pc := 9) t213_9 rfl ?_
    refine zs_aload_n (pc := 10) t213_10 rfl ?_
    refine zs_get (pc := 11) t213_11 (by decide) (zk1 (hs.k fk_zMc_31)) (hs.p rfl fv_zMc_31_0) ?_
    refine zs_aload_n (pc := 14) t213_14 rfl ?_
    have w3 := ib31_1 hI
    refine zs_get (pc := 15) t213_15 (by decide) (zk1 (hs.k fk_zMc_31)) (zfvi rfl rfl) ?_
    by_cases w4 : (zI M 31 1).toInt = 0
    · refine zs_aald (pc := 18) t213_18 (j := 0) (Or.inl (zk1 (hs.k fk_zMc_32))) ((rfl : (zI M 31 1).toInt = (zI M 31 1).toInt).trans w4) (zk2 (hs.k fk_zMc_32) (by decide)) (hs.a fp_zMc_32_0) ?_
      refine zs_invV (pc := 19) (k := 7) (as' := [.ref 35]) (st := []) t213_19 mf23 rfl rfl (Or.inl ⟨by decide, (zk1 (hs.k fk_zMc_7))⟩) ⟨by decide, by decide, Nat.le_of_ble_eq_true rfl, Nat.le_of_ble_eq_true rfl⟩ (C23_7_35 hs hI ?_) (fun _ _ q => q)
      intro w5M w5s w5I w5F
      show zGo X l 3 0 0 213 22 [(0, .ref 31), (1, .ref 7)] [] w5M _
      refine zs_aload_n (pc := 22) t213_22 rfl ?_
      refine zs_aload_n (pc := 23) t213_23 rfl ?_
      refine zs_get (pc := 24) t213_24 (by decide) (zk1 (w5s.k fk_zMc_31)) (zfvi rfl ((w5F 31 1 rfl).trans rfl)) ?_
      refine zs_bipush (pc := 27) t213_27 (v := 8) (by decide) ?_
      obtain ⟨w6v, w6e, w6⟩ := ziadd (a := (zI M 31 1)) (b := (8 : Int32)) rfl li8 (by omega) (by omega)
      refine zs_iadd (pc := 29) t213_29 (c := w6v) w6e ?_
      refine zs_iconst (pc := 30) t213_30 (v := 1) (by decide) ?_
      obtain ⟨w7v, w7e, w7⟩ := zisub (a := w6v) (b := (1 : Int32)) w6 li1 (by omega) (by omega)
      refine zs_isub (pc := 31) t213_31 (c := w7v) w7e ?_
      refine zs_bipush (pc := 32) t213_32 (v := 8) (by decide) ?_
      obtain ⟨w8v, w8⟩ : ∃ v, w7v - w7v / (8 : Int32) * (8 : Int32) = v := ⟨_, rfl⟩
      have w8g : 0 ≤ w8v.toInt ∧ w8v.toInt ≤ 7 := by rw [← w8]; exact zrem w7 li8 (by omega) (by decide)
      refine zs_irem (pc := 34) t213_34 (by decide) (c := w8v) w8 ?_
      have w9 : zIv cLo cHi (zsI w5M 31 1 w8v) := zIv.put w5I (show 0 ≤ w8v.toInt ∧ w8v.toInt ≤ 7 from ⟨by omega, by omega⟩)
      refine zs_putI (pc := 35) t213_35 (zk1 (w5s.k fk_zMc_31)) rfl ?_
      refine zs_aload_n (pc := 38) t213_38 rfl ?_
      refine zs_dup (pc := 39) t213_39 rfl ?_
      refine zs_get (pc := 40) t213_40 (by decide) (zk1 (w5s.k fk_zMc_31)) (zfvi rfl ((zIoj (by decide)).trans ((w5F 31 2 rfl).trans rfl))) ?_
      refine zs_iconst (pc := 43) t213_43 (v := 1) (by decide) ?_
      obtain ⟨w10v, w10e, w10⟩ := zisub (a := (zI M 31 2)) (b := (1 : Int32)) rfl li1 (by omega) (by omega)
      refine zs_isub (pc := 44) t213_44 (c := w10v) w10e ?_
      have w11 : zIv cLo cHi (zsI (zsI w5M 31 1 w8v) 31 2 w10v) := zIv.put w9 (show 0 ≤ w10v.toInt ∧ w10v.toInt ≤ 8 from ⟨by omega, by omega⟩)
      refine zs_putI (pc := 45) t213_45 (zk1 (w5s.k fk_zMc_31)) rfl ?_
      refine zs_iconst (pc := 48) t213_48 (v := 1) (by decide) ?_
      exact zs_iret (pc := 49) t213_49 mr213 (by decide) (hQ _ _ w5s w11 ((((zFr.refl).trans (w5F.mono rfl)).put rfl).put rfl) (by decide) (by decide))
    by_cases w12 : (zI M 31 1).toInt = 1
    · refine zs_aald (pc := 18) t213_18 (j := 1) (Or.inl (zk1 (hs.k fk_zMc_32))) ((rfl : (zI M 31 1).toInt = (zI M 31 1).toInt).trans w12) (zk2 (hs.k fk_zMc_32) (by decide)) (hs.a fp_zMc_32_1) ?_
      refine zs_invV (pc := 19) (k := 7) (as' := [.ref 47]) (st := []) t213_19 mf23 rfl rfl (Or.inl ⟨by decide, (zk1 (hs.k fk_zMc_7))⟩) ⟨by decide, by decide, Nat.le_of_ble_eq_true rfl, Nat.le_of_ble_eq_true rfl⟩ (C23_7_47 hs hI ?_) (fun _ _ q => q)
      intro w13M w13s w13I w13F
      show zGo X l 3 0 0 213 22 [(0, .ref 31), (1, .ref 7)] [] w13M _
      refine zs_aload_n (pc := 22) t213_22 rfl ?_
      refine zs_aload_n (pc := 23) t213_23 rfl ?_
      refine zs_get (pc := 24) t213_24 (by decide) (zk1 (w13s.k fk_zMc_31)) (zfvi rfl ((w13F 31 1 rfl).trans rfl)) ?_
      refine zs_bipush (pc := 27) t213_27 (v := 8) (by decide) ?_
      obtain ⟨w14v, w14e, w14⟩ := ziadd (a := (zI M 31 1)) (b := (8 : Int32)) rfl li8 (by omega) (by omega)
      refine zs_iadd (pc := 29) t213_29 (c := w14v) w14e ?_
      refine zs_iconst (pc := 30) t213_30 (v := 1) (by decide) ?_
      obtain ⟨w15v, w15e, w15⟩ := zisub (a := w14v) (b := (1 : Int32)) w14 li1 (by omega) (by omega)
      refine zs_isub (pc := 31) t213_31 (c := w15v) w15e ?_
      refine zs_bipush (pc := 32) t213_32 (v := 8) (by decide) ?_
      obtain ⟨w16v, w16⟩ : ∃ v, w15v - w15v / (8 : Int32) * (8 : Int32) = v := ⟨_, rfl⟩
      have w16g : 0 ≤ w16v.toInt ∧ w16v.toInt ≤ 7 := by rw [← w16]; exact zrem w15 li8 (by omega) (by decide)
      refine zs_irem (pc := 34) t213_34 (by decide) (c := w16v) w16 ?_
      have w17 : zIv cLo cHi (zsI w13M 31 1 w16v) := zIv.put w13I (show 0 ≤ w16v.toInt ∧ w16v.toInt ≤ 7 from ⟨by omega, by omega⟩)
      refine zs_putI (pc := 35) t213_35 (zk1 (w13s.k fk_zMc_31)) rfl ?_
      refine zs_aload_n (pc := 38) t213_38 rfl ?_
      refine zs_dup (pc := 39) t213_39 rfl ?_
      refine zs_get (pc := 40) t213_40 (by decide) (zk1 (w13s.k fk_zMc_31)) (zfvi rfl ((zIoj (by decide)).trans ((w13F 31 2 rfl).trans rfl))) ?_
      refine zs_iconst (pc := 43) t213_43 (v := 1) (by decide) ?_
      obtain ⟨w18v, w18e, w18⟩ := zisub (a := (zI M 31 2)) (b := (1 : Int32)) rfl li1 (by omega) (by omega)
      refine zs_isub (pc := 44) t213_44 (c := w18v) w18e ?_
      have w19 : zIv cLo cHi (zsI (zsI w13M 31 1 w16v) 31 2 w18v) := zIv.put w17 (show 0 ≤ w18v.toInt ∧ w18v.toInt ≤ 8 from ⟨by omega, by omega⟩)
      refine zs_putI (pc := 45) t213_45 (zk1 (w13s.k fk_zMc_31)) rfl ?_
      refine zs_iconst (pc := 48) t213_48 (v := 1) (by decide) ?_
      exact zs_iret (pc := 49) t213_49 mr213 (by decide) (hQ _ _ w13s w19 ((((zFr.refl).trans (w13F.mono rfl)).put rfl).put rfl) (by decide) (by decide))
    by_cases w20 : (zI M 31 1).toInt = 2
    · refine zs_aald (pc := 18) t213_18 (j := 2) (Or.inl (zk1 (hs.k fk_zMc_32))) ((rfl : (zI M 31 1).toInt = (zI M 31 1).toInt).trans w20) (zk2 (hs.k fk_zMc_32) (by decide)) (hs.a fp_zMc_32_2) ?_
      refine zs_invV (pc := 19) (k := 7) (as' := [.ref 59]) (st := []) t213_19 mf23 rfl rfl (Or.inl ⟨by decide, (zk1 (hs.k fk_zMc_7))⟩) ⟨by decide, by decide, Nat.le_of_ble_eq_true rfl, Nat.le_of_ble_eq_true rfl⟩ (C23_7_59 hs hI ?_) (fun _ _ q => q)
      intro w21M w21s w21I w21F
      show zGo X l 3 0 0 213 22 [(0, .ref 31), (1, .ref 7)] [] w21M _
      refine zs_aload_n (pc := 22) t213_22 rfl ?_
      refine zs_aload_n (pc := 23) t213_23 rfl ?_
      refine zs_get (pc := 24) t213_24 (by decide) (zk1 (w21s.k fk_zMc_31)) (zfvi rfl ((w21F 31 1 rfl).trans rfl)) ?_
      refine zs_bipush (pc := 27) t213_27 (v := 8) (by decide) ?_
      obtain ⟨w22v, w22e, w22⟩ := ziadd (a := (zI M 31 1)) (b := (8 : Int32)) rfl li8 (by omega) (by omega)
      refine zs_iadd (pc := 29) t213_29 (c := w22v) w22e ?_
      refine zs_iconst (pc := 30) t213_30 (v := 1) (by decide) ?_
      obtain ⟨w23v, w23e, w23⟩ := zisub (a := w22v) (b := (1 : Int32)) w22 li1 (by omega) (by omega)
      refine zs_isub (pc := 31) t213_31 (c := w23v) w23e ?_
      refine zs_bipush (pc := 32) t213_32 (v := 8) (by decide) ?_
      obtain ⟨w24v, w24⟩ : ∃ v, w23v - w23v / (8 : Int32) * (8 : Int32) = v := ⟨_, rfl⟩
      have w24g : 0 ≤ w24v.toInt ∧ w24v.toInt ≤ 7 := by rw [← w24]; exact zrem w23 li8 (by omega) (by decide)
      refine zs_irem (pc := 34) t213_34 (by decide) (c := w24v) w24 ?_
      have w25 : zIv cLo cHi (zsI w21M 31 1 w24v) := zIv.put w21I (show 0 ≤ w24v.toInt ∧ w24v.toInt ≤ 7 from ⟨by omega, by omega⟩)
      refine zs_putI (pc := 35) t213_35 (zk1 (w21s.k fk_zMc_31)) rfl ?_
      refine zs_aload_n (pc := 38) t213_38 rfl ?_
      refine zs_dup (pc := 39) t213_39 rfl ?_
      refine zs_get (pc := 40) t213_40 (by decide) (zk1 (w21s.k fk_zMc_31)) (zfvi rfl ((zIoj (by decide)).trans ((w21F 31 2 rfl).trans rfl))) ?_
      refine zs_iconst (pc := 43) t213_43 (v := 1) (by decide) ?_
      obtain ⟨w26v, w26e, w26⟩ := zisub (a := (zI M 31 2)) (b := (1 : Int32)) rfl li1 (by omega) (by omega)
      refine zs_isub (pc := 44) t213_44 (c := w26v) w26e ?_
      have w27 : zIv cLo cHi (zsI (zsI w21M 31 1 w24v) 31 2 w26v) := zIv.put w25 (show 0 ≤ w26v.toInt ∧ w26v.toInt ≤ 8 from ⟨by omega, by omega⟩)
      refine zs_putI (pc := 45) t213_45 (zk1 (w21s.k fk_zMc_31)) rfl ?_
      refine zs_iconst (pc := 48) t213_48 (v := 1) (by decide) ?_
      exact zs_iret (pc := 49) t213_49 mr213 (by decide) (hQ _ _ w21s w27 ((((zFr.refl).trans (w21F.mono rfl)).put rfl).put rfl) (by decide) (by decide))
    by_cases w28 : (zI M 31 1).toInt = 3
    · refine zs_aald (pc := 18) t213_18 (j := 3) (Or.inl (zk1 (hs.k fk_zMc_32))) ((rfl : (zI M 31 1).toInt = (zI M 31 1).toInt).trans w28) (zk2 (hs.k fk_zMc_32) (by decide)) (hs.a fp_zMc_32_3) ?_
      refine zs_invV (pc := 19) (k := 7) (as' := [.ref 71]) (st := []) t213_19 mf23 rfl rfl (Or.inl ⟨by decide, (zk1 (hs.k fk_zMc_7))⟩) ⟨by decide, by decide, Nat.le_of_ble_eq_true rfl, Nat.le_of_ble_eq_true rfl⟩ (C23_7_71 hs hI ?_) (fun _ _ q => q)
      intro w29M w29s w29I w29F
      show zGo X l 3 0 0 213 22 [(0, .ref 31), (1, .ref 7)] [] w29M _
      refine zs_aload_n (pc := 22) t213_22 rfl ?_
      refine zs_aload_n (pc := 23) t213_23 rfl ?_
      refine zs_get (pc := 24) t213_24 (by decide) (zk1 (w29s.k fk_zMc_31)) (zfvi rfl ((w29F 31 1 rfl).trans rfl)) ?_
      refine zs_bipush (pc := 27) t213_27 (v := 8) (by decide) ?_
      obtain ⟨w30v, w30e, w30⟩ := ziadd (a := (zI M 31 1)) (b := (8 : Int32)) rfl li8 (by omega) (by omega)
      refine zs_iadd (pc := 29) t213_29 (c := w30v) w30e ?_
      refine zs_iconst (pc := 30) t213_30 (v := 1) (by decide) ?_
      obtain ⟨w31v, w31e, w31⟩ := zisub (a := w30v) (b := (1 : Int32)) w30 li1 (by omega) (by omega)
      refine zs_isub (pc := 31) t213_31 (c := w31v) w31e ?_
      refine zs_bipush (pc := 32) t213_32 (v := 8) (by decide) ?_
      obtain ⟨w32v, w32⟩ : ∃ v, w31v - w31v / (8 : Int32) * (8 : Int32) = v := ⟨_, rfl⟩
      have w32g : 0 ≤ w32v.toInt ∧ w32v.toInt ≤ 7 := by rw [← w32]; exact zrem w31 li8 (by omega) (by decide)
      refine zs_irem (pc := 34) t213_34 (by decide) (c := w32v) w32 ?_
      have w33 : zIv cLo cHi (zsI w29M 31 1 w32v) := zIv.put w29I (show 0 ≤ w32v.toInt ∧ w32v.toInt ≤ 7 from ⟨by omega, by omega⟩)
      refine zs_putI (pc := 35) t213_35 (zk1 (w29s.k fk_zMc_31)) rfl ?_
      refine zs_aload_n (pc := 38) t213_38 rfl ?_
      refine zs_dup (pc := 39) t213_39 rfl ?_
      refine zs_get (pc := 40) t213_40 (by decide) (zk1 (w29s.k fk_zMc_31)) (zfvi rfl ((zIoj (by decide)).trans ((w29F 31 2 rfl).trans rfl))) ?_
      refine zs_iconst (pc := 43) t213_43 (v := 1) (by decide) ?_
      obtain ⟨w34v, w34e, w34⟩ := zisub (a := (zI M 31 2)) (b := (1 : Int32)) rfl li1 (by omega) (by omega)
      refine zs_isub (pc := 44) t213_44 (c := w34v) w34e ?_
      have w35 : zIv cLo cHi (zsI (zsI w29M 31 1 w32v) 31 2 w34v) := zIv.put w33 (show 0 ≤ w34v.toInt ∧ w34v.toInt ≤ 8 from ⟨by omega, by omega⟩)
      refine zs_putI (pc := 45) t213_45 (zk1 (w29s.k fk_zMc_31)) rfl ?_
      refine zs_iconst (pc := 48) t213_48 (v := 1) (by decide) ?_
      exact zs_iret (pc := 49) t213_49 mr213 (by decide) (hQ _ _ w29s w35 ((((zFr.refl).trans (w29F.mono rfl)).put rfl).put rfl) (by decide) (by decide))
    by_cases w36 : (zI M 31 1).toInt = 4
    · refine zs_aald (pc := 18) t213_18 (j := 4) (Or.inl (zk1 (hs.k fk_zMc_32))) ((rfl : (zI M 31 1).toInt = (zI M 31 1).toInt).trans w36) (zk2 (hs.k fk_zMc_32) (by decide)) (hs.a fp_zMc_32_4) ?_
      refine zs_invV (pc := 19) (k := 7) (as' := [.ref 83]) (st := []) t213_19 mf23 rfl rfl (Or.inl ⟨by decide, (zk1 (hs.k fk_zMc_7))⟩) ⟨by decide, by decide, Nat.le_of_ble_eq_true rfl, Nat.le_of_ble_eq_true rfl⟩ (C23_7_83 hs hI ?_) (fun _ _ q => q)
      intro w37M w37s w37I w37F
      show zGo X l 3 0 0 213 22 [(0, .ref 31), (1, .ref 7)] [] w37M _
      refine zs_aload_n (pc := 22) t213_22 rfl ?_
      refine zs_aload_n (pc := 23) t213_23 rfl ?_
      refine zs_get (pc := 24) t213_24 (by decide) (zk1 (w37s.k fk_zMc_31)) (zfvi rfl ((w37F 31 1 rfl).trans rfl)) ?_
      refine zs_bipush (pc := 27) t213_27 (v := 8) (by decide) ?_
      obtain ⟨w38v, w38e, w38⟩ := ziadd (a := (zI M 31 1)) (b := (8 : Int32)) rfl li8 (by omega) (by omega)
      refine zs_iadd (pc := 29) t213_29 (c := w38v) w38e ?_
      refine zs_iconst (pc := 30) t213_30 (v := 1) (by decide) ?_
      obtain ⟨w39v, w39e, w39⟩ := zisub (a := w38v) (b := (1 : Int32)) w38 li1 (by omega) (by omega)
      refine zs_isub (pc := 31) t213_31 (c := w39v) w39e ?_
      refine zs_bipush (pc := 32) t213_32 (v := 8) (by decide) ?_
      obtain ⟨w40v, w40⟩ : ∃ v, w39v - w39v / (8 : Int32) * (8 : Int32) = v := ⟨_, rfl⟩
      have w40g : 0 ≤ w40v.toInt ∧ w40v.toInt ≤ 7 := by rw [← w40]; exact zrem w39 li8 (by omega) (by decide)
      refine zs_irem (pc := 34) t213_34 (by decide) (c := w40v) w40 ?_
      have w41 : zIv cLo cHi (zsI w37M 31 1 w40v) := zIv.put w37I (show 0 ≤ w40v.toInt ∧ w40v.toInt ≤ 7 from ⟨by omega, by omega⟩)
      refine zs_putI (pc := 35) t213_35 (zk1 (w37s.k fk_zMc_31)) rfl ?_
      refine zs_aload_n (pc := 38) t213_38 rfl ?_
      refine zs_dup (pc := 39) t213_39 rfl ?_
      refine zs_get (pc := 40) t213_40 (by decide) (zk1 (w37s.k fk_zMc_31)) (zfvi rfl ((zIoj (by decide)).trans ((w37F 31 2 rfl).trans rfl))) ?_
      refine zs_iconst (pc := 43) t213_43 (v := 1) (by decide) ?_
      obtain ⟨w42v, w42e, w42⟩ := zisub (a := (zI M 31 2)) (b := (1 : Int32)) rfl li1 (by omega) (by omega)
      refine zs_isub (pc := 44) t213_44 (c := w42v) w42e ?_
      have w43 : zIv cLo cHi (zsI (zsI w37M 31 1 w40v) 31 2 w42v) := zIv.put w41 (show 0 ≤ w42v.toInt ∧ w42v.toInt ≤ 8 from ⟨by omega, by omega⟩)
      refine zs_putI (pc := 45) t213_45 (zk1 (w37s.k fk_zMc_31)) rfl ?_
      refine zs_iconst (pc := 48) t213_48 (v := 1) (by decide) ?_
      exact zs_iret (pc := 49) t213_49 mr213 (by decide) (hQ _ _ w37s w43 ((((zFr.refl).trans (w37F.mono rfl)).put rfl).put rfl) (by decide) (by decide))
    by_cases w44 : (zI M 31 1).toInt = 5
    · refine zs_aald (pc := 18) t213_18 (j := 5) (Or.inl (zk1 (hs.k fk_zMc_32))) ((rfl : (zI M 31 1).toInt = (zI M 31 1).toInt).trans w44) (zk2 (hs.k fk_zMc_32) (by decide)) (hs.a fp_zMc_32_5) ?_
      refine zs_invV (pc := 19) (k := 7) (as' := [.ref 95]) (st := []) t213_19 mf23 rfl rfl (Or.inl ⟨by decide, (zk1 (hs.k fk_zMc_7))⟩) ⟨by decide, by decide, Nat.le_of_ble_eq_true rfl, Nat.le_of_ble_eq_true rfl⟩ (C23_7_95 hs hI ?_) (fun _ _ q => q)
      intro w45M w45s w45I w45F
      show zGo X l 3 0 0 213 22 [(0, .ref 31), (1, .ref 7)] [] w45M _
      refine zs_aload_n (pc := 22) t213_22 rfl ?_
      refine zs_aload_n (pc := 23) t213_23 rfl ?_
      refine zs_get (pc := 24) t213_24 (by decide) (zk1 (w45s.k fk_zMc_31)) (zfvi rfl ((w45F 31 1 rfl).trans rfl)) ?_
      refine zs_bipush (pc := 27) t213_27 (v := 8) (by decide) ?_
      obtain ⟨w46v, w46e, w46⟩ := ziadd (a := (zI M 31 1)) (b := (8 : Int32)) rfl li8 (by omega) (by omega)
      refine zs_iadd (pc := 29) t213_29 (c := w46v) w46e ?_
      refine zs_iconst (pc := 30) t213_30 (v := 1) (by decide) ?_
      obtain ⟨w47v, w47e, w47⟩ := zisub (a := w46v) (b := (1 : Int32)) w46 li1 (by omega) (by omega)
      refine zs_isub (pc := 31) t213_31 (c := w47v) w47e ?_
      refine zs_bipush (pc := 32) t213_32 (v := 8) (by decide) ?_
      obtain ⟨w48v, w48⟩ : ∃ v, w47v - w47v / (8 : Int32) * (8 : Int32) = v := ⟨_, rfl⟩
      have w48g : 0 ≤ w48v.toInt ∧ w48v.toInt ≤ 7 := by rw [← w48]; exact zrem w47 li8 (by omega) (by decide)
      refine zs_irem (pc := 34) t213_34 (by decide) (c := w48v) w48 ?_
      have w49 : zIv cLo cHi (zsI w45M 31 1 w48v) := zIv.put w45I (show 0 ≤ w48v.toInt ∧ w48v.toInt ≤ 7 from ⟨by omega, by omega⟩)
      refine zs_putI (pc := 35) t213_35 (zk1 (w45s.k fk_zMc_31)) rfl ?_
      refine zs_aload_n (pc := 38) t213_38 rfl ?_
      refine zs_dup (pc := 39) t213_39 rfl ?_
      refine zs_get (pc := 40) t213_40 (by decide) (zk1 (w45s.k fk_zMc_31)) (zfvi rfl ((zIoj (by decide)).trans ((w45F 31 2 rfl).trans rfl))) ?_
      refine zs_iconst (pc := 43) t213_43 (v := 1) (by decide) ?_
      obtain ⟨w50v, w50e, w50⟩ := zisub (a := (zI M 31 2)) (b := (1 : Int32)) rfl li1 (by omega) (by omega)
      refine zs_isub (pc := 44) t213_44 (c := w50v) w50e ?_
      have w51 : zIv cLo cHi (zsI (zsI w45M 31 1 w48v) 31 2 w50v) := zIv.put w49 (show 0 ≤ w50v.toInt ∧ w50v.toInt ≤ 8 from ⟨by omega, by omega⟩)
      refine zs_putI (pc := 45) t213_45 (zk1 (w45s.k fk_zMc_31)) rfl ?_
      refine zs_iconst (pc := 48) t213_48 (v := 1) (by decide) ?_
      exact zs_iret (pc := 49) t213_49 mr213 (by decide) (hQ _ _ w45s w51 ((((zFr.refl).trans (w45F.mono rfl)).put rfl).put rfl) (by decide) (by decide))
    by_cases w52 : (zI M 31 1).toInt = 6
    · refine zs_aald (pc := 18) t213_18 (j := 6) (Or.inl (zk1 (hs.k fk_zMc_32))) ((rfl : (zI M 31 1).toInt = (zI M 31 1).toInt).trans w52) (zk2 (hs.k fk_zMc_32) (by decide)) (hs.a fp_zMc_32_6) ?_
      refine zs_invV (pc := 19) (k := 7) (as' := [.ref 107]) (st := []) t213_19 mf23 rfl rfl (Or.inl ⟨by decide, (zk1 (hs.k fk_zMc_7))⟩) ⟨by decide, by decide, Nat.le_of_ble_eq_true rfl, Nat.le_of_ble_eq_true rfl⟩ (C23_7_107 hs hI ?_) (fun _ _ q => q)
      intro w53M w53s w53I w53F
      show zGo X l 3 0 0 213 22 [(0, .ref 31), (1, .ref 7)] [] w53M _
      refine zs_aload_n (pc := 22) t213_22 rfl ?_
      refine zs_aload_n (pc := 23) t213_23 rfl ?_
      refine zs_get (pc := 24) t213_24 (by decide) (zk1 (w53s.k fk_zMc_31)) (zfvi rfl ((w53F 31 1 rfl).trans rfl)) ?_
      refine zs_bipush (pc := 27) t213_27 (v := 8) (by decide) ?_
      obtain ⟨w54v, w54e, w54⟩ := ziadd (a := (zI M 31 1)) (b := (8 : Int32)) rfl li8 (by omega) (by omega)
      refine zs_iadd (pc := 29) t213_29 (c := w54v) w54e ?_
      refine zs_iconst (pc := 30) t213_30 (v := 1) (by decide) ?_
      obtain ⟨w55v, w55e, w55⟩ := zisub (a := w54v) (b := (1 : Int32)) w54 li1 (by omega) (by omega)
      refine zs_isub (pc := 31) t213_31 (c := w55v) w55e ?_
      refine zs_bipush (pc := 32) t213_32 (v := 8) (by decide) ?_
      obtain ⟨w56v, w56⟩ : ∃ v, w55v - w55v / (8 : Int32) * (8 : Int32) = v := ⟨_, rfl⟩
      have w56g : 0 ≤ w56v.toInt ∧ w56v.toInt ≤ 7 := by rw [← w56]; exact zrem w55 li8 (by omega) (by decide)
      refine zs_irem (pc := 34) t213_34 (by decide) (c := w56v) w56 ?_
      have w57 : zIv cLo cHi (zsI w53M 31 1 w56v) := zIv.put w53I (show 0 ≤ w56v.toInt ∧ w56v.toInt ≤ 7 from ⟨by omega, by omega⟩)
      refine zs_putI (pc := 35) t213_35 (zk1 (w53s.k fk_zMc_31)) rfl ?_
      refine zs_aload_n (pc := 38) t213_38 rfl ?_
      refine zs_dup (pc := 39) t213_39 rfl ?_
      refine zs_get (pc := 40) t213_40 (by decide) (zk1 (w53s.k fk_zMc_31)) (zfvi rfl ((zIoj (by decide)).trans ((w53F 31 2 rfl).trans rfl))) ?_
      refine zs_iconst (pc := 43) t213_43 (v := 1) (by decide) ?_
      obtain ⟨w58v, w58e, w58⟩ := zisub (a := (zI M 31 2)) (b := (1 : Int32)) rfl li1 (by omega) (by omega)
      refine zs_isub (pc := 44) t213_44 (c := w58v) w58e ?_
      have w59 : zIv cLo cHi (zsI (zsI w53M 31 1 w56v) 31 2 w58v) := zIv.put w57 (show 0 ≤ w58v.toInt ∧ w58v.toInt ≤ 8 from ⟨by omega, by omega⟩)
      refine zs_putI (pc := 45) t213_45 (zk1 (w53s.k fk_zMc_31)) rfl ?_
      refine zs_iconst (pc := 48) t213_48 (v := 1) (by decide) ?_
      exact zs_iret (pc := 49) t213_49 mr213 (by decide) (hQ _ _ w53s w59 ((((zFr.refl).trans (w53F.mono rfl)).put rfl).put rfl) (by decide) (by decide))
    have w60 : (zI M 31 1).toInt = 7 := by omega
    refine zs_aald (pc := 18) t213_18 (j := 7) (Or.inl (zk1 (hs.k fk_zMc_32))) ((rfl : (zI M 31 1).toInt = (zI M 31 1).toInt).trans w60) (zk2 (hs.k fk_zMc_32) (by decide)) (hs.a fp_zMc_32_7) ?_
    refine zs_invV (pc := 19) (k := 7) (as' := [.ref 119]) (st := []) t213_19 mf23 rfl rfl (Or.inl ⟨by decide, (zk1 (hs.k fk_zMc_7))⟩) ⟨by decide, by decide, Nat.le_of_ble_eq_true rfl, Nat.le_of_ble_eq_true rfl⟩ (C23_7_119 hs hI ?_) (fun _ _ q => q)
    intro w61M w61s w61I w61F
    show zGo X l 3 0 0 213 22 [(0, .ref 31), (1, .ref 7)] [] w61M _
    refine zs_aload_n (pc := 22) t213_22 rfl ?_
    refine zs_aload_n (pc := 23) t213_23 rfl ?_
    refine zs_get (pc := 24) t213_24 (by decide) (zk1 (w61s.k fk_zMc_31)) (zfvi rfl ((w61F 31 1 rfl).trans rfl)) ?_
    refine zs_bipush (pc := 27) t213_27 (v := 8) (by decide) ?_
    obtain ⟨w62v, w62e, w62⟩ := ziadd (a := (zI M 31 1)) (b := (8 : Int32)) rfl li8 (by omega) (by omega)
    refine zs_iadd (pc := 29) t213_29 (c := w62v) w62e ?_
    refine zs_iconst (pc := 30) t213_30 (v := 1) (by decide) ?_
    obtain ⟨w63v, w63e, w63⟩ := zisub (a := w62v) (b := (1 : Int32)) w62 li1 (by omega) (by omega)
    refine zs_isub (pc := 31) t213_31 (c := w63v) w63e ?_
    refine zs_bipush (pc := 32) t213_32 (v := 8) (by decide) ?_
    obtain ⟨w64v, w64⟩ : ∃ v, w63v - w63v / (8 : Int32) * (8 : Int32) = v := ⟨_, rfl⟩
    have w64g : 0 ≤ w64v.toInt ∧ w64v.toInt ≤ 7 := by rw [← w64]; exact zrem w63 li8 (by omega) (by decide)
    refine zs_irem (pc := 34) t213_34 (by decide) (c := w64v) w64 ?_
    have w65 : zIv cLo cHi (zsI w61M 31 1 w64v) := zIv.put w61I (show 0 ≤ w64v.toInt ∧ w64v.toInt ≤ 7 from ⟨by omega, by omega⟩)
    refine zs_putI (pc := 35) t213_35 (zk1 (w61s.k fk_zMc_31)) rfl ?_
    refine zs_aload_n (pc := 38) t213_38 rfl ?_
    refine zs_dup (pc := 39) t213_39 rfl ?_
    refine zs_get (pc := 40) t213_40 (by decide) (zk1 (w61s.k fk_zMc_31)) (zfvi rfl ((zIoj (by decide)).trans ((w61F 31 2 rfl).trans rfl))) ?_
    refine zs_iconst (pc := 43) t213_43 (v := 1) (by decide) ?_
    obtain ⟨w66v, w66e, w66⟩ := zisub (a := (zI M 31 2)) (b := (1 : Int32)) rfl li1 (by omega) (by omega)
    refine zs_isub (pc := 44) t213_44 (c := w66v) w66e ?_
    have w67 : zIv cLo cHi (zsI (zsI w61M 31 1 w64v) 31 2 w66v) := zIv.put w65 (show 0 ≤ w66v.toInt ∧ w66v.toInt ≤ 8 from ⟨by omega, by omega⟩)
    refine zs_putI (pc := 45) t213_45 (zk1 (w61s.k fk_zMc_31)) rfl ?_
    refine zs_iconst (pc := 48) t213_48 (v := 1) (by decide) ?_
    exact zs_iret (pc := 49) t213_49 mr213 (by decide) (hQ _ _ w61s w67 ((((zFr.refl).trans (w61F.mono rfl)).put rfl).put rfl) (by decide) (by decide))
  · refine zs_if_neF (pc := 4) t213_4 rfl (by omega) ?_
    refine zs_iconst (pc := 7) t213_7 (v := 0) (by decide) ?_
    exact zs_iret (pc := 8) t213_8 mr213 (by decide) (hQ _ _ hs hI (zFr.refl) (by decide) (by decide))
theorem C215_31_7 {X : zX} {l : Launch} {M : zM} {Q : Option Value → zM → Prop} {a : Int32} (hs : zSk zMc M) (hI : zIv cLo cHi M) (hQ : ∀ (M' : zM) (v : Int32), zSk zMc M' → zIv cLo cHi M' → zFr [(34, 34, none), (131, 154, none)] M M' → 0 ≤ v.toInt → v.toInt ≤ 1 → Q (some (.int v)) M') : zCall X l 3 0 0 215 [.ref 31, .int a, .ref 7] M Q := by
  have ga := zrg a
  refine zs_in (by decide) mf215 (Nat.le_of_ble_eq_true rfl) ?_
  show zGo X l 3 0 0 215 0 [(0, .ref 31), (1, .int a), (2, .ref 7)] [] M _
  refine zs_iload_n (pc := 0) t215_0 rfl ?_
  by_cases w1 : a.toInt = 0
  · refine zs_if_eqT (pc := 1) t215_1 rfl (by omega) ?_
    refine zs_aload_n (pc := 11) t215_11 rfl ?_
    refine zs_get (pc := 12) t215_12 (by decide) (zk1 (hs.k fk_zMc_31)) (hs.p rfl fv_zMc_31_3) ?_
    refine zs_iload_n (pc := 15) t215_15 rfl ?_
    have w2 : a.toInt = 0 := by omega
    refine zs_aald (pc := 16) t215_16 (j := 0) (Or.inl (zk1 (hs.k fk_zMc_33))) ((rfl : a.toInt = a.toInt).trans w2) (zk2 (hs.k fk_zMc_33) (by decide)) (hs.a fp_zMc_33_0) ?_
    refine zs_aload_n (pc := 17) t215_17 rfl ?_
    refine zs_invV (pc := 18) (k := 131) (as' := [.ref 7]) (st := []) t215_18 mf23 rfl rfl (Or.inl ⟨by decide, (zk1 (hs.k fk_zMc_131))⟩) ⟨by decide, by decide, Nat.le_of_ble_eq_true rfl, Nat.le_of_ble_eq_true rfl⟩ (C23_131_7 hs hI ?_) (fun _ _ q => q)
    intro w3M w3s w3I w3F
    show zGo X l 3 0 0 215 21 [(0, .ref 31), (1, .int a), (2, .ref 7)] [] w3M _
    refine zs_aload_n (pc := 21) t215_21 rfl ?_
    refine zs_get (pc := 22) t215_22 (by decide) (zk1 (w3s.k fk_zMc_31)) (w3s.p rfl fv_zMc_31_4) ?_
    refine zs_iload_n (pc := 25) t215_25 rfl ?_
    refine zs_iconst (pc := 26) t215_26 (v := 1) (by decide) ?_
    obtain ⟨w4n, w4⟩ : ∃ n : Nat, a.toInt = (n : Int) := ⟨a.toInt.toNat, by omega⟩
    have w5e : vp_nar .boolean (1 : Int32) = (1 : Int32) := by decide
    have w6 : zIv cLo cHi (zsI w3M 34 w4n (1 : Int32)) := zIv.put w3I (show 0 ≤ (1 : Int32).toInt ∧ (1 : Int32).toInt ≤ 1 from ⟨by decide, by decide⟩)
    refine zs_bastZ (pc := 27) t215_27 (j := w4n) (by decide) (zk1 (w3s.k fk_zMc_34)) w4 (zk2 (w3s.k fk_zMc_34) (by omega)) w5e ?_
    refine zs_iconst (pc := 28) t215_28 (v := 1) (by decide) ?_
    exact zs_iret (pc := 29) t215_29 mr215 (by decide) (hQ _ _ w3s w6 (((zFr.refl).trans (w3F.mono rfl)).put rfl) (by decide) (by decide))
  · refine zs_if_eqF (pc := 1) t215_1 rfl (by omega) ?_
    refine zs_iload_n (pc := 4) t215_4 rfl ?_
    refine zs_iconst (pc := 5) t215_5 (v := 1) (by decide) ?_
    by_cases w7 : a.toInt = 1
    · refine zs_icmp_eqT (pc := 6) t215_6 rfl li1 (by omega) ?_
      refine zs_aload_n (pc := 11) t215_11 rfl ?_
      refine zs_get (pc := 12) t215_12 (by decide) (zk1 (hs.k fk_zMc_31)) (hs.p rfl fv_zMc_31_3) ?_
      refine zs_iload_n (pc := 15) t215_15 rfl ?_
      have w8 : a.toInt = 1 := by omega
      refine zs_aald (pc := 16) t215_16 (j := 1) (Or.inl (zk1 (hs.k fk_zMc_33))) ((rfl : a.toInt = a.toInt).trans w8) (zk2 (hs.k fk_zMc_33) (by decide)) (hs.a fp_zMc_33_1) ?_
      refine zs_aload_n (pc := 17) t215_17 rfl ?_
      refine zs_invV (pc := 18) (k := 143) (as' := [.ref 7]) (st := []) t215_18 mf23 rfl rfl (Or.inl ⟨by decide, (zk1 (hs.k fk_zMc_143))⟩) ⟨by decide, by decide, Nat.le_of_ble_eq_true rfl, Nat.le_of_ble_eq_true rfl⟩ (C23_143_7 hs hI ?_) (fun _ _ q => q)
      intro w9M w9s w9I w9F
      show zGo X l 3 0 0 215 21 [(0, .ref 31), (1, .int a), (2, .ref 7)] [] w9M _
      refine zs_aload_n (pc := 21) t215_21 rfl ?_
      refine zs_get (pc := 22) t215_22 (by decide) (zk1 (w9s.k fk_zMc_31)) (w9s.p rfl fv_zMc_31_4) ?_
      refine zs_iload_n (pc := 25) t215_25 rfl ?_
      refine zs_iconst (pc := 26) t215_26 (v := 1) (by decide) ?_
      obtain ⟨w10n, w10⟩ : ∃ n : Nat, a.toInt = (n : Int) := ⟨a.toInt.toNat, by omega⟩
      have w11e : vp_nar .boolean (1 : Int32) = (1 : Int32) := by decide
      have w12 : zIv cLo cHi (zsI w9M 34 w10n (1 : Int32)) := zIv.put w9I (show 0 ≤ (1 : Int32).toInt ∧ (1 : Int32).toInt ≤ 1 from ⟨by decide, by decide⟩)
      refine zs_bastZ (pc := 27) t215_27 (j := w10n) (by decide) (zk1 (w9s.k fk_zMc_34)) w10 (zk2 (w9s.k fk_zMc_34) (by omega)) w11e ?_
      refine zs_iconst (pc := 28) t215_28 (v := 1) (by decide) ?_
      exact zs_iret (pc := 29) t215_29 mr215 (by decide) (hQ _ _ w9s w12 (((zFr.refl).trans (w9F.mono rfl)).put rfl) (by decide) (by decide))
    · refine zs_icmp_eqF (pc := 6) t215_6 rfl li1 (by omega) ?_
      refine zs_iconst (pc := 9) t215_9 (v := 0) (by decide) ?_
      exact zs_iret (pc := 10) t215_10 mr215 (by decide) (hQ _ _ hs hI (zFr.refl) (by decide) (by decide))
theorem C218_31_7 {X : zX} {l : Launch} {M : zM} {Q : Option Value → zM → Prop} {a : Int32} (hs : zSk zMc M) (hI : zIv cLo cHi M) (hQ : ∀ (M' : zM) (v : Int32), zSk zMc M' → zIv cLo cHi M' → zFr [(7, 18, none)] M M' → 0 ≤ v.toInt → v.toInt ≤ 1 → Q (some (.int v)) M') : zCall X l 3 0 0 218 [.ref 31, .int a, .ref 7] M Q := by
  have ga := zrg a
  refine zs_in (by decide) mf218 (Nat.le_of_ble_eq_true rfl) ?_
  show zGo X l 3 0 0 218 0 [(0, .ref 31), (1, .int a), (2, .ref 7)] [] M _
  refine zs_aload_n (pc := 0) t218_0 rfl ?_
  refine zs_iload_n (pc := 1) t218_1 rfl ?_
  refine zs_invV (pc := 2) (k := 31) (as' := [.int a]) (st := []) t218_2 mf217 rfl rfl (Or.inl ⟨by decide, (zk1 (hs.k fk_zMc_31))⟩) ⟨by decide, by decide, Nat.le_of_ble_eq_true rfl, Nat.le_of_ble_eq_true rfl⟩ (zs_in (by decide) mf217 (Nat.le_of_ble_eq_true rfl) ?_) (fun _ _ q => q)
  show zGo X l 0 0 0 217 0 [(0, .ref 31), (1, .int a)] [] M _
  refine zs_iload_n (pc := 0) t217_0 rfl ?_
  by_cases w1 : a.toInt = 0
  · refine zs_if_eqT (pc := 1) t217_1 rfl (by omega) ?_
    refine zs_aload_n (pc := 9) t217_9 rfl ?_
    refine zs_get (pc := 10) t217_10 (by decide) (zk1 (hs.k fk_zMc_31)) (hs.p rfl fv_zMc_31_4) ?_
    refine zs_iload_n (pc := 13) t217_13 rfl ?_
    obtain ⟨w2n, w2⟩ : ∃ n : Nat, a.toInt = (n : Int) := ⟨a.toInt.toNat, by omega⟩
    have w3 := ib34 hI w2n
    refine zs_bald (pc := 14) t217_14 (j := w2n) (Or.inr (zk1 (hs.k fk_zMc_34))) w2 (zk2 (hs.k fk_zMc_34) (by omega)) rfl ?_
    by_cases w4 : (zI M 34 w2n).toInt = 0
    · refine zs_if_eqT (pc := 15) t217_15 rfl (by omega) ?_
      refine zs_iconst (pc := 22) t217_22 (v := 0) (by decide) ?_
      refine zs_iret (pc := 23) t217_23 mr217 (by decide) ?_
      show zGo X l 3 0 0 218 5 [(0, .ref 31), (1, .int a), (2, .ref 7)] [.int (0 : Int32)] M _
      refine zs_if_neF (pc := 5) t218_5 li0 (by decide) ?_
      refine zs_iconst (pc := 8) t218_8 (v := 0) (by decide) ?_
      exact zs_iret (pc := 9) t218_9 mr218 (by decide) (hQ _ _ hs hI (zFr.refl) (by decide) (by decide))
    · refine zs_if_eqF (pc := 15) t217_15 rfl (by omega) ?_
      refine zs_iconst (pc := 18) t217_18 (v := 1) (by decide) ?_
      refine zs_goto (pc := 19) t217_19 ?_
      refine zs_iret (pc := 23) t217_23 mr217 (by decide) ?_
      show zGo X l 3 0 0 218 5 [(0, .ref 31), (1, .int a), (2, .ref 7)] [.int (1 : Int32)] M _
      refine zs_if_neT (pc := 5) t218_5 li1 (by decide) ?_
      refine zs_aload_n (pc := 10) t218_10 rfl ?_
      refine zs_aload_n (pc := 11) t218_11 rfl ?_
      refine zs_get (pc := 12) t218_12 (by decide) (zk1 (hs.k fk_zMc_31)) (hs.p rfl fv_zMc_31_3) ?_
      refine zs_iload_n (pc := 15) t218_15 rfl ?_
      have w5 : a.toInt = 0 := by omega
      refine zs_aald (pc := 16) t218_16 (j := 0) (Or.inl (zk1 (hs.k fk_zMc_33))) ((rfl : a.toInt = a.toInt).trans w5) (zk2 (hs.k fk_zMc_33) (by decide)) (hs.a fp_zMc_33_0) ?_
      refine zs_invV (pc := 17) (k := 7) (as' := [.ref 131]) (st := []) t218_17 mf23 rfl rfl (Or.inl ⟨by decide, (zk1 (hs.k fk_zMc_7))⟩) ⟨by decide, by decide, Nat.le_of_ble_eq_true rfl, Nat.le_of_ble_eq_true rfl⟩ (C23_7_131 hs hI ?_) (fun _ _ q => q)
      intro w6M w6s w6I w6F
      show zGo X l 3 0 0 218 20 [(0, .ref 31), (1, .int a), (2, .ref 7)] [] w6M _
      refine zs_iconst (pc := 20) t218_20 (v := 1) (by decide) ?_
      exact zs_iret (pc := 21) t218_21 mr218 (by decide) (hQ _ _ w6s w6I ((zFr.refl).trans (w6F.mono rfl)) (by decide) (by decide))
  · refine zs_if_eqF (pc := 1) t217_1 rfl (by omega) ?_
    refine zs_iload_n (pc := 4) t217_4 rfl ?_
    refine zs_iconst (pc := 5) t217_5 (v := 1) (by decide) ?_
    by_cases w7 : a.toInt ≠ 1
    · refine zs_icmp_neT (pc := 6) t217_6 rfl li1 (by omega) ?_
      refine zs_iconst (pc := 22) t217_22 (v := 0) (by decide) ?_
      refine zs_iret (pc := 23) t217_23 mr217 (by decide) ?_
      show zGo X l 3 0 0 218 5 [(0, .ref 31), (1, .int a), (2, .ref 7)] [.int (0 : Int32)] M _
      refine zs_if_neF (pc := 5) t218_5 li0 (by decide) ?_
      refine zs_iconst (pc := 8) t218_8 (v := 0) (by decide) ?_
      exact zs_iret (pc := 9) t218_9 mr218 (by decide) (hQ _ _ hs hI (zFr.refl) (by decide) (by decide))
    · refine zs_icmp_neF (pc := 6) t217_6 rfl li1 (by omega) ?_
      refine zs_aload_n (pc := 9) t217_9 rfl ?_
      refine zs_get (pc := 10) t217_10 (by decide) (zk1 (hs.k fk_zMc_31)) (hs.p rfl fv_zMc_31_4) ?_
      refine zs_iload_n (pc := 13) t217_13 rfl ?_
      obtain ⟨w8n, w8⟩ : ∃ n : Nat, a.toInt = (n : Int) := ⟨a.toInt.toNat, by omega⟩
      have w9 := ib34 hI w8n
      refine zs_bald (pc := 14) t217_14 (j := w8n) (Or.inr (zk1 (hs.k fk_zMc_34))) w8 (zk2 (hs.k fk_zMc_34) (by omega)) rfl ?_
      by_cases w10 : (zI M 34 w8n).toInt = 0
      · refine zs_if_eqT (pc := 15) t217_15 rfl (by omega) ?_
        refine zs_iconst (pc := 22) t217_22 (v := 0) (by decide) ?_
        refine zs_iret (pc := 23) t217_23 mr217 (by decide) ?_
        show zGo X l 3 0 0 218 5 [(0, .ref 31), (1, .int a), (2, .ref 7)] [.int (0 : Int32)] M _
        refine zs_if_neF (pc := 5) t218_5 li0 (by decide) ?_
        refine zs_iconst (pc := 8) t218_8 (v := 0) (by decide) ?_
        exact zs_iret (pc := 9) t218_9 mr218 (by decide) (hQ _ _ hs hI (zFr.refl) (by decide) (by decide))
      · refine zs_if_eqF (pc := 15) t217_15 rfl (by omega) ?_
        refine zs_iconst (pc := 18) t217_18 (v := 1) (by decide) ?_
        refine zs_goto (pc := 19) t217_19 ?_
        refine zs_iret (pc := 23) t217_23 mr217 (by decide) ?_
        show zGo X l 3 0 0 218 5 [(0, .ref 31), (1, .int a), (2, .ref 7)] [.int (1 : Int32)] M _
        refine zs_if_neT (pc := 5) t218_5 li1 (by decide) ?_
        refine zs_aload_n (pc := 10) t218_10 rfl ?_
        refine zs_aload_n (pc := 11) t218_11 rfl ?_
        refine zs_get (pc := 12) t218_12 (by decide) (zk1 (hs.k fk_zMc_31)) (hs.p rfl fv_zMc_31_3) ?_
        refine zs_iload_n (pc := 15) t218_15 rfl ?_
        have w11 : a.toInt = 1 := by omega
        refine zs_aald (pc := 16) t218_16 (j := 1) (Or.inl (zk1 (hs.k fk_zMc_33))) ((rfl : a.toInt = a.toInt).trans w11) (zk2 (hs.k fk_zMc_33) (by decide)) (hs.a fp_zMc_33_1) ?_
        refine zs_invV (pc := 17) (k := 7) (as' := [.ref 143]) (st := []) t218_17 mf23 rfl rfl (Or.inl ⟨by decide, (zk1 (hs.k fk_zMc_7))⟩) ⟨by decide, by decide, Nat.le_of_ble_eq_true rfl, Nat.le_of_ble_eq_true rfl⟩ (C23_7_143 hs hI ?_) (fun _ _ q => q)
        intro w12M w12s w12I w12F
        show zGo X l 3 0 0 218 20 [(0, .ref 31), (1, .int a), (2, .ref 7)] [] w12M _
        refine zs_iconst (pc := 20) t218_20 (v := 1) (by decide) ?_
        exact zs_iret (pc := 21) t218_21 mr218 (by decide) (hQ _ _ w12s w12I ((zFr.refl).trans (w12F.mono rfl)) (by decide) (by decide))
theorem C113 {X : zX} {l : Launch} {M : zM} {Q : Option Value → zM → Prop} {a : Int32} (hs : zSk zMc M) (hI : zIv cLo cHi M) (hQ : ∀ v : Int32, (-2147483648) ≤ v.toInt → v.toInt ≤ 2147483647 → Q (some (.int v)) M) : zCall X l 0 0 0 113 [.int a] M Q := by
  have ga := zrg a
  refine zs_in (by decide) mf113 (Nat.le_of_ble_eq_true rfl) ?_
  show zGo X l 0 0 0 113 0 [(0, .int a)] [] M _
  refine zs_iload_n (pc := 0) t113_0 rfl ?_
  refine zs_iload_n (pc := 1) t113_1 rfl ?_
  refine zs_iconst (pc := 2) t113_2 (v := 1) (by decide) ?_
  obtain ⟨w1v, w1⟩ : ∃ v, (a.toUInt32 >>> ((1 : Int32).toUInt32 &&& Int32.toUInt32 31)).toInt32 = v := ⟨_, rfl⟩
  have w1g := zrg w1v
  refine zs_iushr (pc := 3) t113_3 (c := w1v) w1 ?_
  refine zs_ldc_w (pc := 4) t113_4 (v := 1431655765) rfl (by decide) ?_
  obtain ⟨w2v, w2⟩ : ∃ v, w1v &&& (1431655765 : Int32) = v := ⟨_, rfl⟩
  have w2g : 0 ≤ w2v.toInt ∧ w2v.toInt ≤ 1431655765 := by rw [← w2]; exact zand li1431655765 (by decide)
  refine zs_iand (pc := 7) t113_7 (c := w2v) w2 ?_
  obtain ⟨w3v, w3⟩ : ∃ v, v = a - w2v := ⟨_, rfl⟩
  have w3g := zrg w3v
  refine zs_isub (pc := 8) t113_8 (c := w3v) w3.symm ?_
  refine zs_istore_n (pc := 9) t113_9 (ls' := [(0, .int w3v)]) (zml mf113 (by decide)) rfl ?_
  refine zs_iload_n (pc := 10) t113_10 rfl ?_
  refine zs_ldc_w (pc := 11) t113_11 (v := 858993459) rfl (by decide) ?_
  obtain ⟨w4v, w4⟩ : ∃ v, w3v &&& (858993459 : Int32) = v := ⟨_, rfl⟩
  have w4g : 0 ≤ w4v.toInt ∧ w4v.toInt ≤ 858993459 := by rw [← w4]; exact zand li858993459 (by decide)
  refine zs_iand (pc := 14) t113_14 (c := w4v) w4 ?_
  refine zs_iload_n (pc := 15) t113_15 rfl ?_
  refine zs_iconst (pc := 16) t113_16 (v := 2) (by decide) ?_
  obtain ⟨w5v, w5⟩ : ∃ v, (w3v.toUInt32 >>> ((2 : Int32).toUInt32 &&& Int32.toUInt32 31)).toInt32 = v := ⟨_, rfl⟩
  have w5g := zrg w5v
  refine zs_iushr (pc := 17) t113_17 (c := w5v) w5 ?_
  refine zs_ldc_w (pc := 18) t113_18 (v := 858993459) rfl (by decide) ?_
  obtain ⟨w6v, w6⟩ : ∃ v, w5v &&& (858993459 : Int32) = v := ⟨_, rfl⟩
  have w6g : 0 ≤ w6v.toInt ∧ w6v.toInt ≤ 858993459 := by rw [← w6]; exact zand li858993459 (by decide)
  refine zs_iand (pc := 21) t113_21 (c := w6v) w6 ?_
  obtain ⟨w7v, w7e, w7⟩ := ziadd (a := w4v) (b := w6v) rfl rfl (by omega) (by omega)
  refine zs_iadd (pc := 22) t113_22 (c := w7v) w7e ?_
  refine zs_istore_n (pc := 23) t113_23 (ls' := [(0, .int w7v)]) (zml mf113 (by decide)) rfl ?_
  refine zs_iload_n (pc := 24) t113_24 rfl ?_
  refine zs_iload_n (pc := 25) t113_25 rfl ?_
  refine zs_iconst (pc := 26) t113_26 (v := 4) (by decide) ?_
  obtain ⟨w8v, w8⟩ : ∃ v, (w7v.toUInt32 >>> ((4 : Int32).toUInt32 &&& Int32.toUInt32 31)).toInt32 = v := ⟨_, rfl⟩
  have w8g := zrg w8v
  refine zs_iushr (pc := 27) t113_27 (c := w8v) w8 ?_
  obtain ⟨w9v, w9⟩ : ∃ v, v = w7v + w8v := ⟨_, rfl⟩
  have w9g := zrg w9v
  refine zs_iadd (pc := 28) t113_28 (c := w9v) w9.symm ?_
  refine zs_ldc_w (pc := 29) t113_29 (v := 252645135) rfl (by decide) ?_
  obtain ⟨w10v, w10⟩ : ∃ v, w9v &&& (252645135 : Int32) = v := ⟨_, rfl⟩
  have w10g : 0 ≤ w10v.toInt ∧ w10v.toInt ≤ 252645135 := by rw [← w10]; exact zand li252645135 (by decide)
  refine zs_iand (pc := 32) t113_32 (c := w10v) w10 ?_
  refine zs_istore_n (pc := 33) t113_33 (ls' := [(0, .int w10v)]) (zml mf113 (by decide)) rfl ?_
  refine zs_iload_n (pc := 34) t113_34 rfl ?_
  refine zs_iload_n (pc := 35) t113_35 rfl ?_
  refine zs_bipush (pc := 36) t113_36 (v := 8) (by decide) ?_
  obtain ⟨w11v, w11⟩ : ∃ v, (w10v.toUInt32 >>> ((8 : Int32).toUInt32 &&& Int32.toUInt32 31)).toInt32 = v := ⟨_, rfl⟩
  have w11g := zrg w11v
  refine zs_iushr (pc := 38) t113_38 (c := w11v) w11 ?_
  obtain ⟨w12v, w12⟩ : ∃ v, v = w10v + w11v := ⟨_, rfl⟩
  have w12g := zrg w12v
  refine zs_iadd (pc := 39) t113_39 (c := w12v) w12.symm ?_
  refine zs_istore_n (pc := 40) t113_40 (ls' := [(0, .int w12v)]) (zml mf113 (by decide)) rfl ?_
  refine zs_iload_n (pc := 41) t113_41 rfl ?_
  refine zs_iload_n (pc := 42) t113_42 rfl ?_
  refine zs_bipush (pc := 43) t113_43 (v := 16) (by decide) ?_
  obtain ⟨w13v, w13⟩ : ∃ v, (w12v.toUInt32 >>> ((16 : Int32).toUInt32 &&& Int32.toUInt32 31)).toInt32 = v := ⟨_, rfl⟩
  have w13g := zrg w13v
  refine zs_iushr (pc := 45) t113_45 (c := w13v) w13 ?_
  obtain ⟨w14v, w14⟩ : ∃ v, v = w12v + w13v := ⟨_, rfl⟩
  have w14g := zrg w14v
  refine zs_iadd (pc := 46) t113_46 (c := w14v) w14.symm ?_
  refine zs_istore_n (pc := 47) t113_47 (ls' := [(0, .int w14v)]) (zml mf113 (by decide)) rfl ?_
  refine zs_iload_n (pc := 48) t113_48 rfl ?_
  refine zs_bipush (pc := 49) t113_49 (v := 63) (by decide) ?_
  obtain ⟨w15v, w15⟩ : ∃ v, w14v &&& (63 : Int32) = v := ⟨_, rfl⟩
  have w15g : 0 ≤ w15v.toInt ∧ w15v.toInt ≤ 63 := by rw [← w15]; exact zand li63 (by decide)
  refine zs_iand (pc := 51) t113_51 (c := w15v) w15 ?_
  exact zs_iret (pc := 52) t113_52 mr113 rfl (hQ _ (zrg _).1 (zrg _).2)
theorem C149_7 {X : zX} {l : Launch} {M : zM} {Q : Option Value → zM → Prop} {a b c : Int32} (hs : zSk zMc M) (hI : zIv cLo cHi M) (hQ : ∀ v : Int32, (-2147483648) ≤ v.toInt → v.toInt ≤ 2147483647 → Q (some (.int v)) M) : zCall X l 2 0 0 149 [.ref 7, .int a, .int b, .int c] M Q := by
  have ga := zrg a
  have gb := zrg b
  have gc := zrg c
  refine zs_in (by decide) mf149 (Nat.le_of_ble_eq_true rfl) ?_
  show zGo X l 2 0 0 149 0 [(0, .ref 7), (1, .int a), (2, .int b), (3, .int c)] [] M _
  refine zs_iconst (pc := 0) t149_0 (v := 1) (by decide) ?_
  refine zs_aload_n (pc := 1) t149_1 rfl ?_
  refine zs_get (pc := 2) t149_2 (by decide) (zk1 (hs.k fk_zMc_7)) (hs.p rfl fv_zMc_7_12) ?_
  refine zs_iconst (pc := 5) t149_5 (v := 2) (by decide) ?_
  have w1 := ib17 hI 2
  refine zs_iald (pc := 6) t149_6 (j := 2) (by decide) (zk1 (hs.k fk_zMc_17)) li2 (zk2 (hs.k fk_zMc_17) (by decide)) rfl ?_
  refine zs_invS (pc := 7) (as := [.int (1 : Int32), .int (zI M 17 2)]) (st := []) t149_7 (by decide) mf21 rfl rfl ⟨by decide, by decide, Nat.le_of_ble_eq_true rfl, Nat.le_of_ble_eq_true rfl⟩ (zs_in (by decide) mf21 (Nat.le_of_ble_eq_true rfl) ?_) (fun _ _ q => q)
  show zGo X l 0 0 0 21 0 [(0, .int (1 : Int32)), (1, .int (zI M 17 2))] [] M _
  refine zs_iload_n (pc := 0) t21_0 rfl ?_
  refine zs_iload_n (pc := 1) t21_1 rfl ?_
  by_cases w2 : 1 < (zI M 17 2).toInt
  · refine zs_icmp_ltT (pc := 2) t21_2 li1 rfl (by omega) ?_
    refine zs_iload_n (pc := 9) t21_9 rfl ?_
    refine zs_iret (pc := 10) t21_10 mr21 rfl ?_
    show zGo X l 2 0 0 149 10 [(0, .ref 7), (1, .int a), (2, .int b), (3, .int c)] [.int (zI M 17 2)] M _
    refine zs_istore (pc := 10) t149_10 (ls' := [(4, .int (zI M 17 2)), (0, .ref 7), (1, .int a), (2, .int b), (3, .int c)]) (zml mf149 (by decide)) rfl ?_
    refine zs_iconst (pc := 12) t149_12 (v := 0) (by decide) ?_
    refine zs_istore (pc := 13) t149_13 (ls' := [(5, .int (0 : Int32)), (4, .int (zI M 17 2)), (0, .ref 7), (1, .int a), (2, .int b), (3, .int c)]) (zml mf149 (by decide)) rfl ?_
    refine zs_iconst (pc := 15) t149_15 (v := 0) (by decide) ?_
    refine zs_istore (pc := 16) t149_16 (ls' := [(6, .int (0 : Int32)), (5, .int (0 : Int32)), (4, .int (zI M 17 2)), (0, .ref 7), (1, .int a), (2, .int b), (3, .int c)]) (zml mf149 (by decide)) rfl ?_
    have w3L : ∀ (m : Nat) (w3x5 : Int32) (w3x6 : Int32), (0 ≤ w3x6.toInt ∧ w3x6.toInt ≤ 60) → 60 - w3x6.toInt ≤ (m : Int) → zGo X l 2 0 0 149 18 [(0, .ref 7), (1, .int a), (2, .int b), (3, .int c), (4, .int (zI M 17 2)), (5, .int w3x5), (6, .int w3x6)] [] M Q := by
      intro m
      induction m using Nat.strongRecOn with
      | ind w3m w3ih =>
        intro w3x5 w3x6 w3b6 w3q
        have w3g5 := zrg w3x5
        refine zs_iload (pc := 18) t149_18 rfl ?_
        refine zs_aload_n (pc := 20) t149_20 rfl ?_
        have w4 := ib7_3 hI
        refine zs_get (pc := 21) t149_21 (by decide) (zk1 (hs.k fk_zMc_7)) (zfvi rfl rfl) ?_
        by_cases w5 : (zI M 7 3).toInt ≤ w3x6.toInt
        · refine zs_icmp_geT (pc := 24) t149_24 rfl rfl (by omega) ?_
          refine zs_iload (pc := 96) t149_96 rfl ?_
          refine zs_invS (pc := 98) (as := [.int w3x5]) (st := []) t149_98 (by decide) mf113 rfl rfl ⟨by decide, by decide, Nat.le_of_ble_eq_true rfl, Nat.le_of_ble_eq_true rfl⟩ (C113 hs hI ?_) (fun _ _ q => q)
          intro w6v w6a w6b
          show zGo X l 2 0 0 149 101 [(0, .ref 7), (1, .int a), (2, .int b), (3, .int c), (4, .int (zI M 17 2)), (5, .int w3x5), (6, .int w3x6)] [.int w6v] M _
          exact zs_iret (pc := 101) t149_101 mr149 rfl (hQ _ (zrg _).1 (zrg _).2)
        · refine zs_icmp_geF (pc := 24) t149_24 rfl rfl (by omega) ?_
          refine zs_aload_n (pc := 27) t149_27 rfl ?_
          refine zs_get (pc := 28) t149_28 (by decide) (zk1 (hs.k fk_zMc_7)) (hs.p rfl fv_zMc_7_4) ?_
          refine zs_iload (pc := 31) t149_31 rfl ?_
          obtain ⟨w7n, w7⟩ : ∃ n : Nat, w3x6.toInt = (n : Int) := ⟨w3x6.toInt.toNat, by omega⟩
          have w8 := ib10 hI w7n
          refine zs_iald (pc := 33) t149_33 (j := w7n) (by decide) (zk1 (hs.k fk_zMc_10)) w7 (zk2 (hs.k fk_zMc_10) (by omega)) rfl ?_
          refine zs_istore (pc := 34) t149_34 (ls' := [(7, .int (zI M 10 w7n)), (0, .ref 7), (1, .int a), (2, .int b), (3, .int c), (4, .int (zI M 17 2)), (5, .int w3x5), (6, .int w3x6)]) (zml mf149 (by decide)) rfl ?_
          refine zs_aload_n (pc := 36) t149_36 rfl ?_
          refine zs_get (pc := 37) t149_37 (by decide) (zk1 (hs.k fk_zMc_7)) (hs.p rfl fv_zMc_7_5) ?_
          refine zs_iload (pc := 40) t149_40 rfl ?_
          have w9 := ib11 hI w7n
          refine zs_iald (pc := 42) t149_42 (j := w7n) (by decide) (zk1 (hs.k fk_zMc_11)) w7 (zk2 (hs.k fk_zMc_11) (by omega)) rfl ?_
          refine zs_aload_n (pc := 43) t149_43 rfl ?_
          refine zs_iload (pc := 44) t149_44 rfl ?_
          refine zs_iload_n (pc := 46) t149_46 rfl ?_
          refine zs_invV (pc := 47) (k := 7) (as' := [.int (zI M 10 w7n), .int b]) (st := [.int (zI M 11 w7n)]) t149_47 mf53 rfl rfl (Or.inl ⟨by decide, (zk1 (hs.k fk_zMc_7))⟩) ⟨by decide, by decide, Nat.le_of_ble_eq_true rfl, Nat.le_of_ble_eq_true rfl⟩ (C53_7 hs hI ?_) (fun _ _ q => q)
          intro w10v w10a w10b
          show zGo X l 2 0 0 149 50 [(7, .int (zI M 10 w7n)), (0, .ref 7), (1, .int a), (2, .int b), (3, .int c), (4, .int (zI M 17 2)), (5, .int w3x5), (6, .int w3x6)] [.int w10v, .int (zI M 11 w7n)] M _
          obtain ⟨w11v, w11⟩ : ∃ v, v = (zI M 11 w7n) - w10v := ⟨_, rfl⟩
          have w11g := zrg w11v
          refine zs_isub (pc := 50) t149_50 (c := w11v) w11.symm ?_
          refine zs_aload_n (pc := 51) t149_51 rfl ?_
          refine zs_iload (pc := 52) t149_52 rfl ?_
          refine zs_iload_n (pc := 54) t149_54 rfl ?_
          refine zs_invV (pc := 55) (k := 7) (as' := [.int (zI M 10 w7n), .int a]) (st := [.int w11v]) t149_55 mf55 rfl rfl (Or.inl ⟨by decide, (zk1 (hs.k fk_zMc_7))⟩) ⟨by decide, by decide, Nat.le_of_ble_eq_true rfl, Nat.le_of_ble_eq_true rfl⟩ (C55_7 hs hI ?_) (fun _ _ q => q)
          intro w12v w12a w12b
          show zGo X l 2 0 0 149 58 [(7, .int (zI M 10 w7n)), (0, .ref 7), (1, .int a), (2, .int b), (3, .int c), (4, .int (zI M 17 2)), (5, .int w3x5), (6, .int w3x6)] [.int w12v, .int w11v] M _
          obtain ⟨w13v, w13⟩ : ∃ v, v = w11v - w12v := ⟨_, rfl⟩
          have w13g := zrg w13v
          refine zs_isub (pc := 58) t149_58 (c := w13v) w13.symm ?_
          refine zs_istore (pc := 59) t149_59 (ls' := [(8, .int w13v), (7, .int (zI M 10 w7n)), (0, .ref 7), (1, .int a), (2, .int b), (3, .int c), (4, .int (zI M 17 2)), (5, .int w3x5), (6, .int w3x6)]) (zml mf149 (by decide)) rfl ?_
          refine zs_aload_n (pc := 61) t149_61 rfl ?_
          refine zs_iload (pc := 62) t149_62 rfl ?_
          refine zs_invV (pc := 64) (k := 7) (as' := [.int w3x6]) (st := []) t149_64 mf93 rfl rfl (Or.inl ⟨by decide, (zk1 (hs.k fk_zMc_7))⟩) ⟨by decide, by decide, Nat.le_of_ble_eq_true rfl, Nat.le_of_ble_eq_true rfl⟩ (zs_in (by decide) mf93 (Nat.le_of_ble_eq_true rfl) ?_) (fun _ _ q => q)
          show zGo X l 1 0 0 93 0 [(0, .ref 7), (1, .int w3x6)] [] M _
          refine zs_aload_n (pc := 0) t93_0 rfl ?_
          refine zs_iload_n (pc := 1) t93_1 rfl ?_
          refine zs_invV (pc := 2) (k := 7) (as' := [.int w3x6]) (st := []) t93_2 mf91 rfl rfl (Or.inl ⟨by decide, (zk1 (hs.k fk_zMc_7))⟩) ⟨by decide, by decide, Nat.le_of_ble_eq_true rfl, Nat.le_of_ble_eq_true rfl⟩ (zs_in (by decide) mf91 (Nat.le_of_ble_eq_true rfl) ?_) (fun _ _ q => q)
          show zGo X l 0 0 0 91 0 [(0, .ref 7), (1, .int w3x6)] [] M _
          refine zs_iload_n (pc := 0) t91_0 rfl ?_
          refine zs_if_ltF (pc := 1) t91_1 rfl (by omega) ?_
          refine zs_iload_n (pc := 4) t91_4 rfl ?_
          refine zs_aload_n (pc := 5) t91_5 rfl ?_
          refine zs_get (pc := 6) t91_6 (by decide) (zk1 (hs.k fk_zMc_7)) (zfvi rfl rfl) ?_
          by_cases w14 : (zI M 7 3).toInt ≤ w3x6.toInt
          · refine zs_icmp_geT (pc := 9) t91_9 rfl rfl (by omega) ?_
            refine zs_iconst (pc := 16) t91_16 (v := 0) (by decide) ?_
            refine zs_iret (pc := 17) t91_17 mr91 (by decide) ?_
            show zGo X l 1 0 0 93 5 [(0, .ref 7), (1, .int w3x6)] [.int (0 : Int32)] M _
            refine zs_if_eqT (pc := 5) t93_5 li0 (by decide) ?_
            refine zs_iconst (pc := 51) t93_51 (v := 0) (by decide) ?_
            refine zs_iret (pc := 52) t93_52 mr93 (by decide) ?_
            show zGo X l 2 0 0 149 67 [(8, .int w13v), (7, .int (zI M 10 w7n)), (0, .ref 7), (1, .int a), (2, .int b), (3, .int c), (4, .int (zI M 17 2)), (5, .int w3x5), (6, .int w3x6)] [.int (0 : Int32)] M _
            refine zs_if_eqT (pc := 67) t149_67 li0 (by decide) ?_
            obtain ⟨w15v, w15e, w15⟩ := ziadd (a := w3x6) (b := Int32.ofInt 1) rfl (show (Int32.ofInt 1).toInt = 1 by decide) (by omega) (by omega)
            refine zs_iinc (pc := 90) t149_90 (ls' := [(6, .int w15v), (8, .int w13v), (7, .int (zI M 10 w7n)), (0, .ref 7), (1, .int a), (2, .int b), (3, .int c), (4, .int (zI M 17 2)), (5, .int w3x5)]) (zml mf149 (by decide)) rfl (c := w15v) w15e rfl ?_
            refine zs_goto (pc := 93) t149_93 ?_
            refine zGo.locals (ls' := [(0, .ref 7), (1, .int a), (2, .int b), (3, .int c), (4, .int (zI M 17 2)), (5, .int w3x5), (6, .int w15v)]) (by simp) ?_
            exact w3ih (w3m - 1) (by omega) w3x5 w15v ⟨by omega, by omega⟩ (by omega)
          · refine zs_icmp_geF (pc := 9) t91_9 rfl rfl (by omega) ?_
            refine zs_iconst (pc := 12) t91_12 (v := 1) (by decide) ?_
            refine zs_goto (pc := 13) t91_13 ?_
            refine zs_iret (pc := 17) t91_17 mr91 (by decide) ?_
            show zGo X l 1 0 0 93 5 [(0, .ref 7), (1, .int w3x6)] [.int (1 : Int32)] M _
            refine zs_if_eqF (pc := 5) t93_5 li1 (by decide) ?_
            refine zs_aload_n (pc := 8) t93_8 rfl ?_
            refine zs_get (pc := 9) t93_9 (by decide) (zk1 (hs.k fk_zMc_7)) (hs.p rfl fv_zMc_7_2) ?_
            refine zs_aload_n (pc := 12) t93_12 rfl ?_
            refine zs_get (pc := 13) t93_13 (by decide) (zk1 (hs.k fk_zMc_7)) (hs.p rfl fv_zMc_7_4) ?_
            refine zs_iload_n (pc := 16) t93_16 rfl ?_
            refine zs_iald (pc := 17) t93_17 (j := w7n) (by decide) (zk1 (hs.k fk_zMc_10)) w7 (zk2 (hs.k fk_zMc_10) (by omega)) rfl ?_
            obtain ⟨w16n, w16⟩ : ∃ n : Nat, (zI M 10 w7n).toInt = (n : Int) := ⟨(zI M 10 w7n).toInt.toNat, by omega⟩
            have w17 := ib9 hI w16n
            refine zs_bald (pc := 18) t93_18 (j := w16n) (Or.inr (zk1 (hs.k fk_zMc_9))) w16 (zk2 (hs.k fk_zMc_9) (by omega)) rfl ?_
            by_cases w18 : (zI M 9 w16n).toInt = 0
            · refine zs_if_eqT (pc := 19) t93_19 rfl (by omega) ?_
              refine zs_iconst (pc := 51) t93_51 (v := 0) (by decide) ?_
              refine zs_iret (pc := 52) t93_52 mr93 (by decide) ?_
              show zGo X l 2 0 0 149 67 [(8, .int w13v), (7, .int (zI M 10 w7n)), (0, .ref 7), (1, .int a), (2, .int b), (3, .int c), (4, .int (zI M 17 2)), (5, .int w3x5), (6, .int w3x6)] [.int (0 : Int32)] M _
              refine zs_if_eqT (pc := 67) t149_67 li0 (by decide) ?_
              obtain ⟨w19v, w19e, w19⟩ := ziadd (a := w3x6) (b := Int32.ofInt 1) rfl (show (Int32.ofInt 1).toInt = 1 by decide) (by omega) (by omega)
              refine zs_iinc (pc := 90) t149_90 (ls' := [(6, .int w19v), (8, .int w13v), (7, .int (zI M 10 w7n)), (0, .ref 7), (1, .int a), (2, .int b), (3, .int c), (4, .int (zI M 17 2)), (5, .int w3x5)]) (zml mf149 (by decide)) rfl (c := w19v) w19e rfl ?_
              refine zs_goto (pc := 93) t149_93 ?_
              refine zGo.locals (ls' := [(0, .ref 7), (1, .int a), (2, .int b), (3, .int c), (4, .int (zI M 17 2)), (5, .int w3x5), (6, .int w19v)]) (by simp) ?_
              exact w3ih (w3m - 1) (by omega) w3x5 w19v ⟨by omega, by omega⟩ (by omega)
            · refine zs_if_eqF (pc := 19) t93_19 rfl (by omega) ?_
              refine zs_aload_n (pc := 22) t93_22 rfl ?_
              refine zs_get (pc := 23) t93_23 (by decide) (zk1 (hs.k fk_zMc_7)) (hs.p rfl fv_zMc_7_6) ?_
              refine zs_iload_n (pc := 26) t93_26 rfl ?_
              have w20 := ib12 hI w7n
              refine zs_iald (pc := 27) t93_27 (j := w7n) (by decide) (zk1 (hs.k fk_zMc_12)) w7 (zk2 (hs.k fk_zMc_12) (by omega)) rfl ?_
              refine zs_aload_n (pc := 28) t93_28 rfl ?_
              refine zs_get (pc := 29) t93_29 (by decide) (zk1 (hs.k fk_zMc_7)) (hs.p rfl fv_zMc_7_12) ?_
              refine zs_iconst (pc := 32) t93_32 (v := 5) (by decide) ?_
              have w21 := ib17 hI 5
              refine zs_iald (pc := 33) t93_33 (j := 5) (by decide) (zk1 (hs.k fk_zMc_17)) li5 (zk2 (hs.k fk_zMc_17) (by decide)) rfl ?_
              refine zs_aload_n (pc := 34) t93_34 rfl ?_
              refine zs_get (pc := 35) t93_35 (by decide) (zk1 (hs.k fk_zMc_7)) (hs.p rfl fv_zMc_7_12) ?_
              refine zs_bipush (pc := 38) t93_38 (v := 6) (by decide) ?_
              have w22 := ib17 hI 6
              refine zs_iald (pc := 40) t93_40 (j := 6) (by decide) (zk1 (hs.k fk_zMc_17)) li6 (zk2 (hs.k fk_zMc_17) (by decide)) rfl ?_
              refine zs_invS (pc := 41) (as := [.int (zI M 12 w7n), .int (zI M 17 5), .int (zI M 17 6)]) (st := []) t93_41 (by decide) mf39 rfl rfl ⟨by decide, by decide, Nat.le_of_ble_eq_true rfl, Nat.le_of_ble_eq_true rfl⟩ (zs_in (by decide) mf39 (Nat.le_of_ble_eq_true rfl) ?_) (fun _ _ q => q)
              show zGo X l 0 0 0 39 0 [(0, .int (zI M 12 w7n)), (1, .int (zI M 17 5)), (2, .int (zI M 17 6))] [] M _
              refine zs_iload_n (pc := 0) t39_0 rfl ?_
              refine zs_iload_n (pc := 1) t39_1 rfl ?_
              by_cases w23 : (zI M 12 w7n).toInt < (zI M 17 5).toInt
              · refine zs_icmp_ltT (pc := 2) t39_2 rfl rfl (by omega) ?_
                refine zs_iconst (pc := 14) t39_14 (v := 0) (by decide) ?_
                refine zs_iret (pc := 15) t39_15 mr39 (by decide) ?_
                show zGo X l 1 0 0 93 44 [(0, .ref 7), (1, .int w3x6)] [.int (0 : Int32)] M _
                refine zs_if_eqT (pc := 44) t93_44 li0 (by decide) ?_
                refine zs_iconst (pc := 51) t93_51 (v := 0) (by decide) ?_
                refine zs_iret (pc := 52) t93_52 mr93 (by decide) ?_
                show zGo X l 2 0 0 149 67 [(8, .int w13v), (7, .int (zI M 10 w7n)), (0, .ref 7), (1, .int a), (2, .int b), (3, .int c), (4, .int (zI M 17 2)), (5, .int w3x5), (6, .int w3x6)] [.int (0 : Int32)] M _
                refine zs_if_eqT (pc := 67) t149_67 li0 (by decide) ?_
                obtain ⟨w24v, w24e, w24⟩ := ziadd (a := w3x6) (b := Int32.ofInt 1) rfl (show (Int32.ofInt 1).toInt = 1 by decide) (by omega) (by omega)
                refine zs_iinc (pc := 90) t149_90 (ls' := [(6, .int w24v), (8, .int w13v), (7, .int (zI M 10 w7n)), (0, .ref 7), (1, .int a), (2, .int b), (3, .int c), (4, .int (zI M 17 2)), (5, .int w3x5)]) (zml mf149 (by decide)) rfl (c := w24v) w24e rfl ?_
                refine zs_goto (pc := 93) t149_93 ?_
                refine zGo.locals (ls' := [(0, .ref 7), (1, .int a), (2, .int b), (3, .int c), (4, .int (zI M 17 2)), (5, .int w3x5), (6, .int w24v)]) (by simp) ?_
                exact w3ih (w3m - 1) (by omega) w3x5 w24v ⟨by omega, by omega⟩ (by omega)
              · refine zs_icmp_ltF (pc := 2) t39_2 rfl rfl (by omega) ?_
                refine zs_iload_n (pc := 5) t39_5 rfl ?_
                refine zs_iload_n (pc := 6) t39_6 rfl ?_
                by_cases w25 : (zI M 17 6).toInt < (zI M 12 w7n).toInt
                · refine zs_icmp_gtT (pc := 7) t39_7 rfl rfl (by omega) ?_
                  refine zs_iconst (pc := 14) t39_14 (v := 0) (by decide) ?_
                  refine zs_iret (pc := 15) t39_15 mr39 (by decide) ?_
                  show zGo X l 1 0 0 93 44 [(0, .ref 7), (1, .int w3x6)] [.int (0 : Int32)] M _
                  refine zs_if_eqT (pc := 44) t93_44 li0 (by decide) ?_
                  refine zs_iconst (pc := 51) t93_51 (v := 0) (by decide) ?_
                  refine zs_iret (pc := 52) t93_52 mr93 (by decide) ?_
                  show zGo X l 2 0 0 149 67 [(8, .int w13v), (7, .int (zI M 10 w7n)), (0, .ref 7), (1, .int a), (2, .int b), (3, .int c), (4, .int (zI M 17 2)), (5, .int w3x5), (6, .int w3x6)] [.int (0 : Int32)] M _
                  refine zs_if_eqT (pc := 67) t149_67 li0 (by decide) ?_
                  obtain ⟨w26v, w26e, w26⟩ := ziadd (a := w3x6) (b := Int32.ofInt 1) rfl (show (Int32.ofInt 1).toInt = 1 by decide) (by omega) (by omega)
                  refine zs_iinc (pc := 90) t149_90 (ls' := [(6, .int w26v), (8, .int w13v), (7, .int (zI M 10 w7n)), (0, .ref 7), (1, .int a), (2, .int b), (3, .int c), (4, .int (zI M 17 2)), (5, .int w3x5)]) (zml mf149 (by decide)) rfl (c := w26v) w26e rfl ?_
                  refine zs_goto (pc := 93) t149_93 ?_
                  refine zGo.locals (ls' := [(0, .ref 7), (1, .int a), (2, .int b), (3, .int c), (4, .int (zI M 17 2)), (5, .int w3x5), (6, .int w26v)]) (by simp) ?_
                  exact w3ih (w3m - 1) (by omega) w3x5 w26v ⟨by omega, by omega⟩ (by omega)
                · refine zs_icmp_gtF (pc := 7) t39_7 rfl rfl (by omega) ?_
                  refine zs_iconst (pc := 10) t39_10 (v := 1) (by decide) ?_
                  refine zs_goto (pc := 11) t39_11 ?_
                  refine zs_iret (pc := 15) t39_15 mr39 (by decide) ?_
                  show zGo X l 1 0 0 93 44 [(0, .ref 7), (1, .int w3x6)] [.int (1 : Int32)] M _
                  refine zs_if_eqF (pc := 44) t93_44 li1 (by decide) ?_
                  refine zs_iconst (pc := 47) t93_47 (v := 1) (by decide) ?_
                  refine zs_goto (pc := 48) t93_48 ?_
                  refine zs_iret (pc := 52) t93_52 mr93 (by decide) ?_
                  show zGo X l 2 0 0 149 67 [(8, .int w13v), (7, .int (zI M 10 w7n)), (0, .ref 7), (1, .int a), (2, .int b), (3, .int c), (4, .int (zI M 17 2)), (5, .int w3x5), (6, .int w3x6)] [.int (1 : Int32)] M _
                  refine zs_if_eqF (pc := 67) t149_67 li1 (by decide) ?_
                  refine zs_iload (pc := 70) t149_70 rfl ?_
                  refine zs_iload (pc := 72) t149_72 rfl ?_
                  refine zs_invS (pc := 74) (as := [.int w13v, .int (zI M 17 2)]) (st := []) t149_74 (by decide) mf54 rfl rfl ⟨by decide, by decide, Nat.le_of_ble_eq_true rfl, Nat.le_of_ble_eq_true rfl⟩ (zs_in (by decide) mf54 (Nat.le_of_ble_eq_true rfl) ?_) (fun _ _ q => q)
                  show zGo X l 0 0 0 54 0 [(0, .int w13v), (1, .int (zI M 17 2))] [] M _
                  refine zs_iload_n (pc := 0) t54_0 rfl ?_
                  refine zs_iload_n (pc := 1) t54_1 rfl ?_
                  obtain ⟨w27v, w27⟩ : ∃ v, w13v / (zI M 17 2) = v := ⟨_, rfl⟩
                  have w27g := zrg w27v
                  refine zs_idiv (pc := 2) t54_2 (znz rfl (by omega)) (c := w27v) w27 ?_
                  refine zs_istore_n (pc := 3) t54_3 (ls' := [(2, .int w27v), (0, .int w13v), (1, .int (zI M 17 2))]) (zml mf54 (by decide)) rfl ?_
                  refine zs_iload_n (pc := 4) t54_4 rfl ?_
                  refine zs_iload_n (pc := 5) t54_5 rfl ?_
                  obtain ⟨w28v, w28⟩ : ∃ v, w13v ^^^ (zI M 17 2) = v := ⟨_, rfl⟩
                  have w28g := zrg w28v
                  refine zs_ixor (pc := 6) t54_6 (c := w28v) w28 ?_
                  by_cases w29 : 0 ≤ w28v.toInt
                  · refine zs_if_geT (pc := 7) t54_7 rfl (by omega) ?_
                    refine zs_iload_n (pc := 21) t54_21 rfl ?_
                    refine zs_iret (pc := 22) t54_22 mr54 rfl ?_
                    show zGo X l 2 0 0 149 77 [(8, .int w13v), (7, .int (zI M 10 w7n)), (0, .ref 7), (1, .int a), (2, .int b), (3, .int c), (4, .int (zI M 17 2)), (5, .int w3x5), (6, .int w3x6)] [.int w27v] M _
                    refine zs_iload_n (pc := 77) t149_77 rfl ?_
                    by_cases w30 : w27v.toInt ≠ c.toInt
                    · refine zs_icmp_neT (pc := 78) t149_78 rfl rfl (by omega) ?_
                      obtain ⟨w31v, w31e, w31⟩ := ziadd (a := w3x6) (b := Int32.ofInt 1) rfl (show (Int32.ofInt 1).toInt = 1 by decide) (by omega) (by omega)
                      refine zs_iinc (pc := 90) t149_90 (ls' := [(6, .int w31v), (8, .int w13v), (7, .int (zI M 10 w7n)), (0, .ref 7), (1, .int a), (2, .int b), (3, .int c), (4, .int (zI M 17 2)), (5, .int w3x5)]) (zml mf149 (by decide)) rfl (c := w31v) w31e rfl ?_
                      refine zs_goto (pc := 93) t149_93 ?_
                      refine zGo.locals (ls' := [(0, .ref 7), (1, .int a), (2, .int b), (3, .int c), (4, .int (zI M 17 2)), (5, .int w3x5), (6, .int w31v)]) (by simp) ?_
                      exact w3ih (w3m - 1) (by omega) w3x5 w31v ⟨by omega, by omega⟩ (by omega)
                    · refine zs_icmp_neF (pc := 78) t149_78 rfl rfl (by omega) ?_
                      refine zs_iload (pc := 81) t149_81 rfl ?_
                      refine zs_iconst (pc := 83) t149_83 (v := 1) (by decide) ?_
                      refine zs_iload (pc := 84) t149_84 rfl ?_
                      obtain ⟨w32v, w32⟩ : ∃ v, (1 : Int32) <<< ((zI M 10 w7n) &&& 31) = v := ⟨_, rfl⟩
                      have w32g := zrg w32v
                      refine zs_ishl (pc := 86) t149_86 (c := w32v) w32 ?_
                      obtain ⟨w33v, w33⟩ : ∃ v, w3x5 ||| w32v = v := ⟨_, rfl⟩
                      have w33g := zrg w33v
                      refine zs_ior (pc := 87) t149_87 (c := w33v) w33 ?_
                      refine zs_istore (pc := 88) t149_88 (ls' := [(5, .int w33v), (8, .int w13v), (7, .int (zI M 10 w7n)), (0, .ref 7), (1, .int a), (2, .int b), (3, .int c), (4, .int (zI M 17 2)), (6, .int w3x6)]) (zml mf149 (by decide)) rfl ?_
                      obtain ⟨w34v, w34e, w34⟩ := ziadd (a := w3x6) (b := Int32.ofInt 1) rfl (show (Int32.ofInt 1).toInt = 1 by decide) (by omega) (by omega)
                      refine zs_iinc (pc := 90) t149_90 (ls' := [(6, .int w34v), (5, .int w33v), (8, .int w13v), (7, .int (zI M 10 w7n)), (0, .ref 7), (1, .int a), (2, .int b), (3, .int c), (4, .int (zI M 17 2))]) (zml mf149 (by decide)) rfl (c := w34v) w34e rfl ?_
                      refine zs_goto (pc := 93) t149_93 ?_
                      refine zGo.locals (ls' := [(0, .ref 7), (1, .int a), (2, .int b), (3, .int c), (4, .int (zI M 17 2)), (5, .int w33v), (6, .int w34v)]) (by simp) ?_
                      exact w3ih (w3m - 1) (by omega) w33v w34v ⟨by omega, by omega⟩ (by omega)
                  · refine zs_if_geF (pc := 7) t54_7 rfl (by omega) ?_
                    refine zs_iload_n (pc := 10) t54_10 rfl ?_
                    refine zs_iload_n (pc := 11) t54_11 rfl ?_
                    obtain ⟨w35v, w35⟩ : ∃ v, w27v * (zI M 17 2) = v := ⟨_, rfl⟩
                    have w35g := zrg w35v
                    refine zs_imul (pc := 12) t54_12 (c := w35v) w35 ?_
                    refine zs_iload_n (pc := 13) t54_13 rfl ?_
                    by_cases w36 : w35v.toInt = w13v.toInt
                    · refine zs_icmp_eqT (pc := 14) t54_14 rfl rfl (by omega) ?_
                      refine zs_iload_n (pc := 21) t54_21 rfl ?_
                      refine zs_iret (pc := 22) t54_22 mr54 rfl ?_
                      show zGo X l 2 0 0 149 77 [(8, .int w13v), (7, .int (zI M 10 w7n)), (0, .ref 7), (1, .int a), (2, .int b), (3, .int c), (4, .int (zI M 17 2)), (5, .int w3x5), (6, .int w3x6)] [.int w27v] M _
                      refine zs_iload_n (pc := 77) t149_77 rfl ?_
                      by_cases w37 : w27v.toInt ≠ c.toInt
                      · refine zs_icmp_neT (pc := 78) t149_78 rfl rfl (by omega) ?_
                        obtain ⟨w38v, w38e, w38⟩ := ziadd (a := w3x6) (b := Int32.ofInt 1) rfl (show (Int32.ofInt 1).toInt = 1 by decide) (by omega) (by omega)
                        refine zs_iinc (pc := 90) t149_90 (ls' := [(6, .int w38v), (8, .int w13v), (7, .int (zI M 10 w7n)), (0, .ref 7), (1, .int a), (2, .int b), (3, .int c), (4, .int (zI M 17 2)), (5, .int w3x5)]) (zml mf149 (by decide)) rfl (c := w38v) w38e rfl ?_
                        refine zs_goto (pc := 93) t149_93 ?_
                        refine zGo.locals (ls' := [(0, .ref 7), (1, .int a), (2, .int b), (3, .int c), (4, .int (zI M 17 2)), (5, .int w3x5), (6, .int w38v)]) (by simp) ?_
                        exact w3ih (w3m - 1) (by omega) w3x5 w38v ⟨by omega, by omega⟩ (by omega)
                      · refine zs_icmp_neF (pc := 78) t149_78 rfl rfl (by omega) ?_
                        refine zs_iload (pc := 81) t149_81 rfl ?_
                        refine zs_iconst (pc := 83) t149_83 (v := 1) (by decide) ?_
                        refine zs_iload (pc := 84) t149_84 rfl ?_
                        obtain ⟨w39v, w39⟩ : ∃ v, (1 : Int32) <<< ((zI M 10 w7n) &&& 31) = v := ⟨_, rfl⟩
                        have w39g := zrg w39v
                        refine zs_ishl (pc := 86) t149_86 (c := w39v) w39 ?_
                        obtain ⟨w40v, w40⟩ : ∃ v, w3x5 ||| w39v = v := ⟨_, rfl⟩
                        have w40g := zrg w40v
                        refine zs_ior (pc := 87) t149_87 (c := w40v) w40 ?_
                        refine zs_istore (pc := 88) t149_88 (ls' := [(5, .int w40v), (8, .int w13v), (7, .int (zI M 10 w7n)), (0, .ref 7), (1, .int a), (2, .int b), (3, .int c), (4, .int (zI M 17 2)), (6, .int w3x6)]) (zml mf149 (by decide)) rfl ?_
                        obtain ⟨w41v, w41e, w41⟩ := ziadd (a := w3x6) (b := Int32.ofInt 1) rfl (show (Int32.ofInt 1).toInt = 1 by decide) (by omega) (by omega)
                        refine zs_iinc (pc := 90) t149_90 (ls' := [(6, .int w41v), (5, .int w40v), (8, .int w13v), (7, .int (zI M 10 w7n)), (0, .ref 7), (1, .int a), (2, .int b), (3, .int c), (4, .int (zI M 17 2))]) (zml mf149 (by decide)) rfl (c := w41v) w41e rfl ?_
                        refine zs_goto (pc := 93) t149_93 ?_
                        refine zGo.locals (ls' := [(0, .ref 7), (1, .int a), (2, .int b), (3, .int c), (4, .int (zI M 17 2)), (5, .int w40v), (6, .int w41v)]) (by simp) ?_
                        exact w3ih (w3m - 1) (by omega) w40v w41v ⟨by omega, by omega⟩ (by omega)
                    · refine zs_icmp_eqF (pc := 14) t54_14 rfl rfl (by omega) ?_
                      refine zs_iload_n (pc := 17) t54_17 rfl ?_
                      refine zs_iconst (pc := 18) t54_18 (v := 1) (by decide) ?_
                      obtain ⟨w42v, w42⟩ : ∃ v, v = w27v - (1 : Int32) := ⟨_, rfl⟩
                      have w42g := zrg w42v
                      refine zs_isub (pc := 19) t54_19 (c := w42v) w42.symm ?_
                      refine zs_iret (pc := 20) t54_20 mr54 rfl ?_
                      show zGo X l 2 0 0 149 77 [(8, .int w13v), (7, .int (zI M 10 w7n)), (0, .ref 7), (1, .int a), (2, .int b), (3, .int c), (4, .int (zI M 17 2)), (5, .int w3x5), (6, .int w3x6)] [.int w42v] M _
                      refine zs_iload_n (pc := 77) t149_77 rfl ?_
                      by_cases w43 : w42v.toInt ≠ c.toInt
                      · refine zs_icmp_neT (pc := 78) t149_78 rfl rfl (by omega) ?_
                        obtain ⟨w44v, w44e, w44⟩ := ziadd (a := w3x6) (b := Int32.ofInt 1) rfl (show (Int32.ofInt 1).toInt = 1 by decide) (by omega) (by omega)
                        refine zs_iinc (pc := 90) t149_90 (ls' := [(6, .int w44v), (8, .int w13v), (7, .int (zI M 10 w7n)), (0, .ref 7), (1, .int a), (2, .int b), (3, .int c), (4, .int (zI M 17 2)), (5, .int w3x5)]) (zml mf149 (by decide)) rfl (c := w44v) w44e rfl ?_
                        refine zs_goto (pc := 93) t149_93 ?_
                        refine zGo.locals (ls' := [(0, .ref 7), (1, .int a), (2, .int b), (3, .int c), (4, .int (zI M 17 2)), (5, .int w3x5), (6, .int w44v)]) (by simp) ?_
                        exact w3ih (w3m - 1) (by omega) w3x5 w44v ⟨by omega, by omega⟩ (by omega)
                      · refine zs_icmp_neF (pc := 78) t149_78 rfl rfl (by omega) ?_
                        refine zs_iload (pc := 81) t149_81 rfl ?_
                        refine zs_iconst (pc := 83) t149_83 (v := 1) (by decide) ?_
                        refine zs_iload (pc := 84) t149_84 rfl ?_
                        obtain ⟨w45v, w45⟩ : ∃ v, (1 : Int32) <<< ((zI M 10 w7n) &&& 31) = v := ⟨_, rfl⟩
                        have w45g := zrg w45v
                        refine zs_ishl (pc := 86) t149_86 (c := w45v) w45 ?_
                        obtain ⟨w46v, w46⟩ : ∃ v, w3x5 ||| w45v = v := ⟨_, rfl⟩
                        have w46g := zrg w46v
                        refine zs_ior (pc := 87) t149_87 (c := w46v) w46 ?_
                        refine zs_istore (pc := 88) t149_88 (ls' := [(5, .int w46v), (8, .int w13v), (7, .int (zI M 10 w7n)), (0, .ref 7), (1, .int a), (2, .int b), (3, .int c), (4, .int (zI M 17 2)), (6, .int w3x6)]) (zml mf149 (by decide)) rfl ?_
                        obtain ⟨w47v, w47e, w47⟩ := ziadd (a := w3x6) (b := Int32.ofInt 1) rfl (show (Int32.ofInt 1).toInt = 1 by decide) (by omega) (by omega)
                        refine zs_iinc (pc := 90) t149_90 (ls' := [(6, .int w47v), (5, .int w46v), (8, .int w13v), (7, .int (zI M 10 w7n)), (0, .ref 7), (1, .int a), (2, .int b), (3, .int c), (4, .int (zI M 17 2))]) (zml mf149 (by decide)) rfl (c := w47v) w47e rfl ?_
                        refine zs_goto (pc := 93) t149_93 ?_
                        refine zGo.locals (ls' := [(0, .ref 7), (1, .int a), (2, .int b), (3, .int c), (4, .int (zI M 17 2)), (5, .int w46v), (6, .int w47v)]) (by simp) ?_
                        exact w3ih (w3m - 1) (by omega) w46v w47v ⟨by omega, by omega⟩ (by omega)
    refine zGo.locals (ls' := [(0, .ref 7), (1, .int a), (2, .int b), (3, .int c), (4, .int (zI M 17 2)), (5, .int (0 : Int32)), (6, .int (0 : Int32))]) (by simp) ?_
    have w48 := li0
    have w49 := li0
    exact w3L ((60 - 0 : Int).toNat) (0 : Int32) (0 : Int32) ⟨by decide, by decide⟩ (by omega)
  · refine zs_icmp_ltF (pc := 2) t21_2 li1 rfl (by omega) ?_
    refine zs_iload_n (pc := 5) t21_5 rfl ?_
    refine zs_goto (pc := 6) t21_6 ?_
    refine zs_iret (pc := 10) t21_10 mr21 (by decide) ?_
    show zGo X l 2 0 0 149 10 [(0, .ref 7), (1, .int a), (2, .int b), (3, .int c)] [.int (1 : Int32)] M _
    refine zs_istore (pc := 10) t149_10 (ls' := [(4, .int (1 : Int32)), (0, .ref 7), (1, .int a), (2, .int b), (3, .int c)]) (zml mf149 (by decide)) rfl ?_
    refine zs_iconst (pc := 12) t149_12 (v := 0) (by decide) ?_
    refine zs_istore (pc := 13) t149_13 (ls' := [(5, .int (0 : Int32)), (4, .int (1 : Int32)), (0, .ref 7), (1, .int a), (2, .int b), (3, .int c)]) (zml mf149 (by decide)) rfl ?_
    refine zs_iconst (pc := 15) t149_15 (v := 0) (by decide) ?_
    refine zs_istore (pc := 16) t149_16 (ls' := [(6, .int (0 : Int32)), (5, .int (0 : Int32)), (4, .int (1 : Int32)), (0, .ref 7), (1, .int a), (2, .int b), (3, .int c)]) (zml mf149 (by decide)) rfl ?_
    have w50L : ∀ (m : Nat) (w50x5 : Int32) (w50x6 : Int32), (0 ≤ w50x6.toInt ∧ w50x6.toInt ≤ 60) → 60 - w50x6.toInt ≤ (m : Int) → zGo X l 2 0 0 149 18 [(0, .ref 7), (1, .int a), (2, .int b), (3, .int c), (4, .int (1 : Int32)), (5, .int w50x5), (6, .int w50x6)] [] M Q := by
      intro m
      induction m using Nat.strongRecOn with
      | ind w50m w50ih =>
        intro w50x5 w50x6 w50b6 w50q
        have w50g5 := zrg w50x5
        refine zs_iload (pc := 18) t149_18 rfl ?_
        refine zs_aload_n (pc := 20) t149_20 rfl ?_
        have w51 := ib7_3 hI
        refine zs_get (pc := 21) t149_21 (by decide) (zk1 (hs.k fk_zMc_7)) (zfvi rfl rfl) ?_
        by_cases w52 : (zI M 7 3).toInt ≤ w50x6.toInt
        · refine zs_icmp_geT (pc := 24) t149_24 rfl rfl (by omega) ?_
          refine zs_iload (pc := 96) t149_96 rfl ?_
          refine zs_invS (pc := 98) (as := [.int w50x5]) (st := []) t149_98 (by decide) mf113 rfl rfl ⟨by decide, by decide, Nat.le_of_ble_eq_true rfl, Nat.le_of_ble_eq_true rfl⟩ (C113 hs hI ?_) (fun _ _ q => q)
          intro w53v w53a w53b
          show zGo X l 2 0 0 149 101 [(0, .ref 7), (1, .int a), (2, .int b), (3, .int c), (4, .int (1 : Int32)), (5, .int w50x5), (6, .int w50x6)] [.int w53v] M _
          exact zs_iret (pc := 101) t149_101 mr149 rfl (hQ _ (zrg _).1 (zrg _).2)
        · refine zs_icmp_geF (pc := 24) t149_24 rfl rfl (by omega) ?_
          refine zs_aload_n (pc := 27) t149_27 rfl ?_
          refine zs_get (pc := 28) t149_28 (by decide) (zk1 (hs.k fk_zMc_7)) (hs.p rfl fv_zMc_7_4) ?_
          refine zs_iload (pc := 31) t149_31 rfl ?_
          obtain ⟨w54n, w54⟩ : ∃ n : Nat, w50x6.toInt = (n : Int) := ⟨w50x6.toInt.toNat, by omega⟩
          have w55 := ib10 hI w54n
          refine zs_iald (pc := 33) t149_33 (j := w54n) (by decide) (zk1 (hs.k fk_zMc_10)) w54 (zk2 (hs.k fk_zMc_10) (by omega)) rfl ?_
          refine zs_istore (pc := 34) t149_34 (ls' := [(7, .int (zI M 10 w54n)), (0, .ref 7), (1, .int a), (2, .int b), (3, .int c), (4, .int (1 : Int32)), (5, .int w50x5), (6, .int w50x6)]) (zml mf149 (by decide)) rfl ?_
          refine zs_aload_n (pc := 36) t149_36 rfl ?_
          refine zs_get (pc := 37) t149_37 (by decide) (zk1 (hs.k fk_zMc_7)) (hs.p rfl fv_zMc_7_5) ?_
          refine zs_iload (pc := 40) t149_40 rfl ?_
          have w56 := ib11 hI w54n
          refine zs_iald (pc := 42) t149_42 (j := w54n) (by decide) (zk1 (hs.k fk_zMc_11)) w54 (zk2 (hs.k fk_zMc_11) (by omega)) rfl ?_
          refine zs_aload_n (pc := 43) t149_43 rfl ?_
          refine zs_iload (pc := 44) t149_44 rfl ?_
          refine zs_iload_n (pc := 46) t149_46 rfl ?_
          refine zs_invV (pc := 47) (k := 7) (as' := [.int (zI M 10 w54n), .int b]) (st := [.int (zI M 11 w54n)]) t149_47 mf53 rfl rfl (Or.inl ⟨by decide, (zk1 (hs.k fk_zMc_7))⟩) ⟨by decide, by decide, Nat.le_of_ble_eq_true rfl, Nat.le_of_ble_eq_true rfl⟩ (C53_7 hs hI ?_) (fun _ _ q => q)
          intro w57v w57a w57b
          show zGo X l 2 0 0 149 50 [(7, .int (zI M 10 w54n)), (0, .ref 7), (1, .int a), (2, .int b), (3, .int c), (4, .int (1 : Int32)), (5, .int w50x5), (6, .int w50x6)] [.int w57v, .int (zI M 11 w54n)] M _
          obtain ⟨w58v, w58⟩ : ∃ v, v = (zI M 11 w54n) - w57v := ⟨_, rfl⟩
          have w58g := zrg w58v
          refine zs_isub (pc := 50) t149_50 (c := w58v) w58.symm ?_
          refine zs_aload_n (pc := 51) t149_51 rfl ?_
          refine zs_iload (pc := 52) t149_52 rfl ?_
          refine zs_iload_n (pc := 54) t149_54 rfl ?_
          refine zs_invV (pc := 55) (k := 7) (as' := [.int (zI M 10 w54n), .int a]) (st := [.int w58v]) t149_55 mf55 rfl rfl (Or.inl ⟨by decide, (zk1 (hs.k fk_zMc_7))⟩) ⟨by decide, by decide, Nat.le_of_ble_eq_true rfl, Nat.le_of_ble_eq_true rfl⟩ (C55_7 hs hI ?_) (fun _ _ q => q)
          intro w59v w59a w59b
          show zGo X l 2 0 0 149 58 [(7, .int (zI M 10 w54n)), (0, .ref 7), (1, .int a), (2, .int b), (3, .int c), (4, .int (1 : Int32)), (5, .int w50x5), (6, .int w50x6)] [.int w59v, .int w58v] M _
          obtain ⟨w60v, w60⟩ : ∃ v, v = w58v - w59v := ⟨_, rfl⟩
          have w60g := zrg w60v
          refine zs_isub (pc := 58) t149_58 (c := w60v) w60.symm ?_
          refine zs_istore (pc := 59) t149_59 (ls' := [(8, .int w60v), (7, .int (zI M 10 w54n)), (0, .ref 7), (1, .int a), (2, .int b), (3, .int c), (4, .int (1 : Int32)), (5, .int w50x5), (6, .int w50x6)]) (zml mf149 (by decide)) rfl ?_
          refine zs_aload_n (pc := 61) t149_61 rfl ?_
          refine zs_iload (pc := 62) t149_62 rfl ?_
          refine zs_invV (pc := 64) (k := 7) (as' := [.int w50x6]) (st := []) t149_64 mf93 rfl rfl (Or.inl ⟨by decide, (zk1 (hs.k fk_zMc_7))⟩) ⟨by decide, by decide, Nat.le_of_ble_eq_true rfl, Nat.le_of_ble_eq_true rfl⟩ (zs_in (by decide) mf93 (Nat.le_of_ble_eq_true rfl) ?_) (fun _ _ q => q)
          show zGo X l 1 0 0 93 0 [(0, .ref 7), (1, .int w50x6)] [] M _
          refine zs_aload_n (pc := 0) t93_0 rfl ?_
          refine zs_iload_n (pc := 1) t93_1 rfl ?_
          refine zs_invV (pc := 2) (k := 7) (as' := [.int w50x6]) (st := []) t93_2 mf91 rfl rfl (Or.inl ⟨by decide, (zk1 (hs.k fk_zMc_7))⟩) ⟨by decide, by decide, Nat.le_of_ble_eq_true rfl, Nat.le_of_ble_eq_true rfl⟩ (zs_in (by decide) mf91 (Nat.le_of_ble_eq_true rfl) ?_) (fun _ _ q => q)
          show zGo X l 0 0 0 91 0 [(0, .ref 7), (1, .int w50x6)] [] M _
          refine zs_iload_n (pc := 0) t91_0 rfl ?_
          refine zs_if_ltF (pc := 1) t91_1 rfl (by omega) ?_
          refine zs_iload_n (pc := 4) t91_4 rfl ?_
          refine zs_aload_n (pc := 5) t91_5 rfl ?_
          refine zs_get (pc := 6) t91_6 (by decide) (zk1 (hs.k fk_zMc_7)) (zfvi rfl rfl) ?_
          by_cases w61 : (zI M 7 3).toInt ≤ w50x6.toInt
          · refine zs_icmp_geT (pc := 9) t91_9 rfl rfl (by omega) ?_
            refine zs_iconst (pc := 16) t91_16 (v := 0) (by decide) ?_
            refine zs_iret (pc := 17) t91_17 mr91 (by decide) ?_
            show zGo X l 1 0 0 93 5 [(0, .ref 7), (1, .int w50x6)] [.int (0 : Int32)] M _
            refine zs_if_eqT (pc := 5) t93_5 li0 (by decide) ?_
            refine zs_iconst (pc := 51) t93_51 (v := 0) (by decide) ?_
            refine zs_iret (pc := 52) t93_52 mr93 (by decide) ?_
            show zGo X l 2 0 0 149 67 [(8, .int w60v), (7, .int (zI M 10 w54n)), (0, .ref 7), (1, .int a), (2, .int b), (3, .int c), (4, .int (1 : Int32)), (5, .int w50x5), (6, .int w50x6)] [.int (0 : Int32)] M _
            refine zs_if_eqT (pc := 67) t149_67 li0 (by decide) ?_
            obtain ⟨w62v, w62e, w62⟩ := ziadd (a := w50x6) (b := Int32.ofInt 1) rfl (show (Int32.ofInt 1).toInt = 1 by decide) (by omega) (by omega)
            refine zs_iinc (pc := 90) t149_90 (ls' := [(6, .int w62v), (8, .int w60v), (7, .int (zI M 10 w54n)), (0, .ref 7), (1, .int a), (2, .int b), (3, .int c), (4, .int (1 : Int32)), (5, .int w50x5)]) (zml mf149 (by decide)) rfl (c := w62v) w62e rfl ?_
            refine zs_goto (pc := 93) t149_93 ?_
            refine zGo.locals (ls' := [(0, .ref 7), (1, .int a), (2, .int b), (3, .int c), (4, .int (1 : Int32)), (5, .int w50x5), (6, .int w62v)]) (by simp) ?_
            exact w50ih (w50m - 1) (by omega) w50x5 w62v ⟨by omega, by omega⟩ (by omega)
          · refine zs_icmp_geF (pc := 9) t91_9 rfl rfl (by omega) ?_
            refine zs_iconst (pc := 12) t91_12 (v := 1) (by decide) ?_
            refine zs_goto (pc := 13) t91_13 ?_
            refine zs_iret (pc := 17) t91_17 mr91 (by decide) ?_
            show zGo X l 1 0 0 93 5 [(0, .ref 7), (1, .int w50x6)] [.int (1 : Int32)] M _
            refine zs_if_eqF (pc := 5) t93_5 li1 (by decide) ?_
            refine zs_aload_n (pc := 8) t93_8 rfl ?_
            refine zs_get (pc := 9) t93_9 (by decide) (zk1 (hs.k fk_zMc_7)) (hs.p rfl fv_zMc_7_2) ?_
            refine zs_aload_n (pc := 12) t93_12 rfl ?_
            refine zs_get (pc := 13) t93_13 (by decide) (zk1 (hs.k fk_zMc_7)) (hs.p rfl fv_zMc_7_4) ?_
            refine zs_iload_n (pc := 16) t93_16 rfl ?_
            refine zs_iald (pc := 17) t93_17 (j := w54n) (by decide) (zk1 (hs.k fk_zMc_10)) w54 (zk2 (hs.k fk_zMc_10) (by omega)) rfl ?_
            obtain ⟨w63n, w63⟩ : ∃ n : Nat, (zI M 10 w54n).toInt = (n : Int) := ⟨(zI M 10 w54n).toInt.toNat, by omega⟩
            have w64 := ib9 hI w63n
            refine zs_bald (pc := 18) t93_18 (j := w63n) (Or.inr (zk1 (hs.k fk_zMc_9))) w63 (zk2 (hs.k fk_zMc_9) (by omega)) rfl ?_
            by_cases w65 : (zI M 9 w63n).toInt = 0
            · refine zs_if_eqT (pc := 19) t93_19 rfl (by omega) ?_
              refine zs_iconst (pc := 51) t93_51 (v := 0) (by decide) ?_
              refine zs_iret (pc := 52) t93_52 mr93 (by decide) ?_
              show zGo X l 2 0 0 149 67 [(8, .int w60v), (7, .int (zI M 10 w54n)), (0, .ref 7), (1, .int a), (2, .int b), (3, .int c), (4, .int (1 : Int32)), (5, .int w50x5), (6, .int w50x6)] [.int (0 : Int32)] M _
              refine zs_if_eqT (pc := 67) t149_67 li0 (by decide) ?_
              obtain ⟨w66v, w66e, w66⟩ := ziadd (a := w50x6) (b := Int32.ofInt 1) rfl (show (Int32.ofInt 1).toInt = 1 by decide) (by omega) (by omega)
              refine zs_iinc (pc := 90) t149_90 (ls' := [(6, .int w66v), (8, .int w60v), (7, .int (zI M 10 w54n)), (0, .ref 7), (1, .int a), (2, .int b), (3, .int c), (4, .int (1 : Int32)), (5, .int w50x5)]) (zml mf149 (by decide)) rfl (c := w66v) w66e rfl ?_
              refine zs_goto (pc := 93) t149_93 ?_
              refine zGo.locals (ls' := [(0, .ref 7), (1, .int a), (2, .int b), (3, .int c), (4, .int (1 : Int32)), (5, .int w50x5), (6, .int w66v)]) (by simp) ?_
              exact w50ih (w50m - 1) (by omega) w50x5 w66v ⟨by omega, by omega⟩ (by omega)
            · refine zs_if_eqF (pc := 19) t93_19 rfl (by omega) ?_
              refine zs_aload_n (pc := 22) t93_22 rfl ?_
              refine zs_get (pc := 23) t93_23 (by decide) (zk1 (hs.k fk_zMc_7)) (hs.p rfl fv_zMc_7_6) ?_
              refine zs_iload_n (pc := 26) t93_26 rfl ?_
              have w67 := ib12 hI w54n
              refine zs_iald (pc := 27) t93_27 (j := w54n) (by decide) (zk1 (hs.k fk_zMc_12)) w54 (zk2 (hs.k fk_zMc_12) (by omega)) rfl ?_
              refine zs_aload_n (pc := 28) t93_28 rfl ?_
              refine zs_get (pc := 29) t93_29 (by decide) (zk1 (hs.k fk_zMc_7)) (hs.p rfl fv_zMc_7_12) ?_
              refine zs_iconst (pc := 32) t93_32 (v := 5) (by decide) ?_
              have w68 := ib17 hI 5
              refine zs_iald (pc := 33) t93_33 (j := 5) (by decide) (zk1 (hs.k fk_zMc_17)) li5 (zk2 (hs.k fk_zMc_17) (by decide)) rfl ?_
              refine zs_aload_n (pc := 34) t93_34 rfl ?_
              refine zs_get (pc := 35) t93_35 (by decide) (zk1 (hs.k fk_zMc_7)) (hs.p rfl fv_zMc_7_12) ?_
              refine zs_bipush (pc := 38) t93_38 (v := 6) (by decide) ?_
              have w69 := ib17 hI 6
              refine zs_iald (pc := 40) t93_40 (j := 6) (by decide) (zk1 (hs.k fk_zMc_17)) li6 (zk2 (hs.k fk_zMc_17) (by decide)) rfl ?_
              refine zs_invS (pc := 41) (as := [.int (zI M 12 w54n), .int (zI M 17 5), .int (zI M 17 6)]) (st := []) t93_41 (by decide) mf39 rfl rfl ⟨by decide, by decide, Nat.le_of_ble_eq_true rfl, Nat.le_of_ble_eq_true rfl⟩ (zs_in (by decide) mf39 (Nat.le_of_ble_eq_true rfl) ?_) (fun _ _ q => q)
              show zGo X l 0 0 0 39 0 [(0, .int (zI M 12 w54n)), (1, .int (zI M 17 5)), (2, .int (zI M 17 6))] [] M _
              refine zs_iload_n (pc := 0) t39_0 rfl ?_
              refine zs_iload_n (pc := 1) t39_1 rfl ?_
              by_cases w70 : (zI M 12 w54n).toInt < (zI M 17 5).toInt
              · refine zs_icmp_ltT (pc := 2) t39_2 rfl rfl (by omega) ?_
                refine zs_iconst (pc := 14) t39_14 (v := 0) (by decide) ?_
                refine zs_iret (pc := 15) t39_15 mr39 (by decide) ?_
                show zGo X l 1 0 0 93 44 [(0, .ref 7), (1, .int w50x6)] [.int (0 : Int32)] M _
                refine zs_if_eqT (pc := 44) t93_44 li0 (by decide) ?_
                refine zs_iconst (pc := 51) t93_51 (v := 0) (by decide) ?_
                refine zs_iret (pc := 52) t93_52 mr93 (by decide) ?_
                show zGo X l 2 0 0 149 67 [(8, .int w60v), (7, .int (zI M 10 w54n)), (0, .ref 7), (1, .int a), (2, .int b), (3, .int c), (4, .int (1 : Int32)), (5, .int w50x5), (6, .int w50x6)] [.int (0 : Int32)] M _
                refine zs_if_eqT (pc := 67) t149_67 li0 (by decide) ?_
                obtain ⟨w71v, w71e, w71⟩ := ziadd (a := w50x6) (b := Int32.ofInt 1) rfl (show (Int32.ofInt 1).toInt = 1 by decide) (by omega) (by omega)
                refine zs_iinc (pc := 90) t149_90 (ls' := [(6, .int w71v), (8, .int w60v), (7, .int (zI M 10 w54n)), (0, .ref 7), (1, .int a), (2, .int b), (3, .int c), (4, .int (1 : Int32)), (5, .int w50x5)]) (zml mf149 (by decide)) rfl (c := w71v) w71e rfl ?_
                refine zs_goto (pc := 93) t149_93 ?_
                refine zGo.locals (ls' := [(0, .ref 7), (1, .int a), (2, .int b), (3, .int c), (4, .int (1 : Int32)), (5, .int w50x5), (6, .int w71v)]) (by simp) ?_
                exact w50ih (w50m - 1) (by omega) w50x5 w71v ⟨by omega, by omega⟩ (by omega)
              · refine zs_icmp_ltF (pc := 2) t39_2 rfl rfl (by omega) ?_
                refine zs_iload_n (pc := 5) t39_5 rfl ?_
                refine zs_iload_n (pc := 6) t39_6 rfl ?_
                by_cases w72 : (zI M 17 6).toInt < (zI M 12 w54n).toInt
                · refine zs_icmp_gtT (pc := 7) t39_7 rfl rfl (by omega) ?_
                  refine zs_iconst (pc := 14) t39_14 (v := 0) (by decide) ?_
                  refine zs_iret (pc := 15) t39_15 mr39 (by decide) ?_
                  show zGo X l 1 0 0 93 44 [(0, .ref 7), (1, .int w50x6)] [.int (0 : Int32)] M _
                  refine zs_if_eqT (pc := 44) t93_44 li0 (by decide) ?_
                  refine zs_iconst (pc := 51) t93_51 (v := 0) (by decide) ?_
                  refine zs_iret (pc := 52) t93_52 mr93 (by decide) ?_
                  show zGo X l 2 0 0 149 67 [(8, .int w60v), (7, .int (zI M 10 w54n)), (0, .ref 7), (1, .int a), (2, .int b), (3, .int c), (4, .int (1 : Int32)), (5, .int w50x5), (6, .int w50x6)] [.int (0 : Int32)] M _
                  refine zs_if_eqT (pc := 67) t149_67 li0 (by decide) ?_
                  obtain ⟨w73v, w73e, w73⟩ := ziadd (a := w50x6) (b := Int32.ofInt 1) rfl (show (Int32.ofInt 1).toInt = 1 by decide) (by omega) (by omega)
                  refine zs_iinc (pc := 90) t149_90 (ls' := [(6, .int w73v), (8, .int w60v), (7, .int (zI M 10 w54n)), (0, .ref 7), (1, .int a), (2, .int b), (3, .int c), (4, .int (1 : Int32)), (5, .int w50x5)]) (zml mf149 (by decide)) rfl (c := w73v) w73e rfl ?_
                  refine zs_goto (pc := 93) t149_93 ?_
                  refine zGo.locals (ls' := [(0, .ref 7), (1, .int a), (2, .int b), (3, .int c), (4, .int (1 : Int32)), (5, .int w50x5), (6, .int w73v)]) (by simp) ?_
                  exact w50ih (w50m - 1) (by omega) w50x5 w73v ⟨by omega, by omega⟩ (by omega)
                · refine zs_icmp_gtF (pc := 7) t39_7 rfl rfl (by omega) ?_
                  refine zs_iconst (pc := 10) t39_10 (v := 1) (by decide) ?_
                  refine zs_goto (pc := 11) t39_11 ?_
                  refine zs_iret (pc := 15) t39_15 mr39 (by decide) ?_
                  show zGo X l 1 0 0 93 44 [(0, .ref 7), (1, .int w50x6)] [.int (1 : Int32)] M _
                  refine zs_if_eqF (pc := 44) t93_44 li1 (by decide) ?_
                  refine zs_iconst (pc := 47) t93_47 (v := 1) (by decide) ?_
                  refine zs_goto (pc := 48) t93_48 ?_
                  refine zs_iret (pc := 52) t93_52 mr93 (by decide) ?_
                  show zGo X l 2 0 0 149 67 [(8, .int w60v), (7, .int (zI M 10 w54n)), (0, .ref 7), (1, .int a), (2, .int b), (3, .int c), (4, .int (1 : Int32)), (5, .int w50x5), (6, .int w50x6)] [.int (1 : Int32)] M _
                  refine zs_if_eqF (pc := 67) t149_67 li1 (by decide) ?_
                  refine zs_iload (pc := 70) t149_70 rfl ?_
                  refine zs_iload (pc := 72) t149_72 rfl ?_
                  refine zs_invS (pc := 74) (as := [.int w60v, .int (1 : Int32)]) (st := []) t149_74 (by decide) mf54 rfl rfl ⟨by decide, by decide, Nat.le_of_ble_eq_true rfl, Nat.le_of_ble_eq_true rfl⟩ (zs_in (by decide) mf54 (Nat.le_of_ble_eq_true rfl) ?_) (fun _ _ q => q)
                  show zGo X l 0 0 0 54 0 [(0, .int w60v), (1, .int (1 : Int32))] [] M _
                  refine zs_iload_n (pc := 0) t54_0 rfl ?_
                  refine zs_iload_n (pc := 1) t54_1 rfl ?_
                  obtain ⟨w74v, w74⟩ : ∃ v, w60v / (1 : Int32) = v := ⟨_, rfl⟩
                  have w74g := zrg w74v
                  refine zs_idiv (pc := 2) t54_2 (by decide) (c := w74v) w74 ?_
                  refine zs_istore_n (pc := 3) t54_3 (ls' := [(2, .int w74v), (0, .int w60v), (1, .int (1 : Int32))]) (zml mf54 (by decide)) rfl ?_
                  refine zs_iload_n (pc := 4) t54_4 rfl ?_
                  refine zs_iload_n (pc := 5) t54_5 rfl ?_
                  obtain ⟨w75v, w75⟩ : ∃ v, w60v ^^^ (1 : Int32) = v := ⟨_, rfl⟩
                  have w75g := zrg w75v
                  refine zs_ixor (pc := 6) t54_6 (c := w75v) w75 ?_
                  by_cases w76 : 0 ≤ w75v.toInt
                  · refine zs_if_geT (pc := 7) t54_7 rfl (by omega) ?_
                    refine zs_iload_n (pc := 21) t54_21 rfl ?_
                    refine zs_iret (pc := 22) t54_22 mr54 rfl ?_
                    show zGo X l 2 0 0 149 77 [(8, .int w60v), (7, .int (zI M 10 w54n)), (0, .ref 7), (1, .int a), (2, .int b), (3, .int c), (4, .int (1 : Int32)), (5, .int w50x5), (6, .int w50x6)] [.int w74v] M _
                    refine zs_iload_n (pc := 77) t149_77 rfl ?_
                    by_cases w77 : w74v.toInt ≠ c.toInt
                    · refine zs_icmp_neT (pc := 78) t149_78 rfl rfl (by omega) ?_
                      obtain ⟨w78v, w78e, w78⟩ := ziadd (a := w50x6) (b := Int32.ofInt 1) rfl (show (Int32.ofInt 1).toInt = 1 by decide) (by omega) (by omega)
                      refine zs_iinc (pc := 90) t149_90 (ls' := [(6, .int w78v), (8, .int w60v), (7, .int (zI M 10 w54n)), (0, .ref 7), (1, .int a), (2, .int b), (3, .int c), (4, .int (1 : Int32)), (5, .int w50x5)]) (zml mf149 (by decide)) rfl (c := w78v) w78e rfl ?_
                      refine zs_goto (pc := 93) t149_93 ?_
                      refine zGo.locals (ls' := [(0, .ref 7), (1, .int a), (2, .int b), (3, .int c), (4, .int (1 : Int32)), (5, .int w50x5), (6, .int w78v)]) (by simp) ?_
                      exact w50ih (w50m - 1) (by omega) w50x5 w78v ⟨by omega, by omega⟩ (by omega)
                    · refine zs_icmp_neF (pc := 78) t149_78 rfl rfl (by omega) ?_
                      refine zs_iload (pc := 81) t149_81 rfl ?_
                      refine zs_iconst (pc := 83) t149_83 (v := 1) (by decide) ?_
                      refine zs_iload (pc := 84) t149_84 rfl ?_
                      obtain ⟨w79v, w79⟩ : ∃ v, (1 : Int32) <<< ((zI M 10 w54n) &&& 31) = v := ⟨_, rfl⟩
                      have w79g := zrg w79v
                      refine zs_ishl (pc := 86) t149_86 (c := w79v) w79 ?_
                      obtain ⟨w80v, w80⟩ : ∃ v, w50x5 ||| w79v = v := ⟨_, rfl⟩
                      have w80g := zrg w80v
                      refine zs_ior (pc := 87) t149_87 (c := w80v) w80 ?_
                      refine zs_istore (pc := 88) t149_88 (ls' := [(5, .int w80v), (8, .int w60v), (7, .int (zI M 10 w54n)), (0, .ref 7), (1, .int a), (2, .int b), (3, .int c), (4, .int (1 : Int32)), (6, .int w50x6)]) (zml mf149 (by decide)) rfl ?_
                      obtain ⟨w81v, w81e, w81⟩ := ziadd (a := w50x6) (b := Int32.ofInt 1) rfl (show (Int32.ofInt 1).toInt = 1 by decide) (by omega) (by omega)
                      refine zs_iinc (pc := 90) t149_90 (ls' := [(6, .int w81v), (5, .int w80v), (8, .int w60v), (7, .int (zI M 10 w54n)), (0, .ref 7), (1, .int a), (2, .int b), (3, .int c), (4, .int (1 : Int32))]) (zml mf149 (by decide)) rfl (c := w81v) w81e rfl ?_
                      refine zs_goto (pc := 93) t149_93 ?_
                      refine zGo.locals (ls' := [(0, .ref 7), (1, .int a), (2, .int b), (3, .int c), (4, .int (1 : Int32)), (5, .int w80v), (6, .int w81v)]) (by simp) ?_
                      exact w50ih (w50m - 1) (by omega) w80v w81v ⟨by omega, by omega⟩ (by omega)
                  · refine zs_if_geF (pc := 7) t54_7 rfl (by omega) ?_
                    refine zs_iload_n (pc := 10) t54_10 rfl ?_
                    refine zs_iload_n (pc := 11) t54_11 rfl ?_
                    obtain ⟨w82v, w82⟩ : ∃ v, w74v * (1 : Int32) = v := ⟨_, rfl⟩
                    have w82g := zrg w82v
                    refine zs_imul (pc := 12) t54_12 (c := w82v) w82 ?_
                    refine zs_iload_n (pc := 13) t54_13 rfl ?_
                    by_cases w83 : w82v.toInt = w60v.toInt
                    · refine zs_icmp_eqT (pc := 14) t54_14 rfl rfl (by omega) ?_
                      refine zs_iload_n (pc := 21) t54_21 rfl ?_
                      refine zs_iret (pc := 22) t54_22 mr54 rfl ?_
                      show zGo X l 2 0 0 149 77 [(8, .int w60v), (7, .int (zI M 10 w54n)), (0, .ref 7), (1, .int a), (2, .int b), (3, .int c), (4, .int (1 : Int32)), (5, .int w50x5), (6, .int w50x6)] [.int w74v] M _
                      refine zs_iload_n (pc := 77) t149_77 rfl ?_
                      by_cases w84 : w74v.toInt ≠ c.toInt
                      · refine zs_icmp_neT (pc := 78) t149_78 rfl rfl (by omega) ?_
                        obtain ⟨w85v, w85e, w85⟩ := ziadd (a := w50x6) (b := Int32.ofInt 1) rfl (show (Int32.ofInt 1).toInt = 1 by decide) (by omega) (by omega)
                        refine zs_iinc (pc := 90) t149_90 (ls' := [(6, .int w85v), (8, .int w60v), (7, .int (zI M 10 w54n)), (0, .ref 7), (1, .int a), (2, .int b), (3, .int c), (4, .int (1 : Int32)), (5, .int w50x5)]) (zml mf149 (by decide)) rfl (c := w85v) w85e rfl ?_
                        refine zs_goto (pc := 93) t149_93 ?_
                        refine zGo.locals (ls' := [(0, .ref 7), (1, .int a), (2, .int b), (3, .int c), (4, .int (1 : Int32)), (5, .int w50x5), (6, .int w85v)]) (by simp) ?_
                        exact w50ih (w50m - 1) (by omega) w50x5 w85v ⟨by omega, by omega⟩ (by omega)
                      · refine zs_icmp_neF (pc := 78) t149_78 rfl rfl (by omega) ?_
                        refine zs_iload (pc := 81) t149_81 rfl ?_
                        refine zs_iconst (pc := 83) t149_83 (v := 1) (by decide) ?_
                        refine zs_iload (pc := 84) t149_84 rfl ?_
                        obtain ⟨w86v, w86⟩ : ∃ v, (1 : Int32) <<< ((zI M 10 w54n) &&& 31) = v := ⟨_, rfl⟩
                        have w86g := zrg w86v
                        refine zs_ishl (pc := 86) t149_86 (c := w86v) w86 ?_
                        obtain ⟨w87v, w87⟩ : ∃ v, w50x5 ||| w86v = v := ⟨_, rfl⟩
                        have w87g := zrg w87v
                        refine zs_ior (pc := 87) t149_87 (c := w87v) w87 ?_
                        refine zs_istore (pc := 88) t149_88 (ls' := [(5, .int w87v), (8, .int w60v), (7, .int (zI M 10 w54n)), (0, .ref 7), (1, .int a), (2, .int b), (3, .int c), (4, .int (1 : Int32)), (6, .int w50x6)]) (zml mf149 (by decide)) rfl ?_
                        obtain ⟨w88v, w88e, w88⟩ := ziadd (a := w50x6) (b := Int32.ofInt 1) rfl (show (Int32.ofInt 1).toInt = 1 by decide) (by omega) (by omega)
                        refine zs_iinc (pc := 90) t149_90 (ls' := [(6, .int w88v), (5, .int w87v), (8, .int w60v), (7, .int (zI M 10 w54n)), (0, .ref 7), (1, .int a), (2, .int b), (3, .int c), (4, .int (1 : Int32))]) (zml mf149 (by decide)) rfl (c := w88v) w88e rfl ?_
                        refine zs_goto (pc := 93) t149_93 ?_
                        refine zGo.locals (ls' := [(0, .ref 7), (1, .int a), (2, .int b), (3, .int c), (4, .int (1 : Int32)), (5, .int w87v), (6, .int w88v)]) (by simp) ?_
                        exact w50ih (w50m - 1) (by omega) w87v w88v ⟨by omega, by omega⟩ (by omega)
                    · refine zs_icmp_eqF (pc := 14) t54_14 rfl rfl (by omega) ?_
                      refine zs_iload_n (pc := 17) t54_17 rfl ?_
                      refine zs_iconst (pc := 18) t54_18 (v := 1) (by decide) ?_
                      obtain ⟨w89v, w89⟩ : ∃ v, v = w74v - (1 : Int32) := ⟨_, rfl⟩
                      have w89g := zrg w89v
                      refine zs_isub (pc := 19) t54_19 (c := w89v) w89.symm ?_
                      refine zs_iret (pc := 20) t54_20 mr54 rfl ?_
                      show zGo X l 2 0 0 149 77 [(8, .int w60v), (7, .int (zI M 10 w54n)), (0, .ref 7), (1, .int a), (2, .int b), (3, .int c), (4, .int (1 : Int32)), (5, .int w50x5), (6, .int w50x6)] [.int w89v] M _
                      refine zs_iload_n (pc := 77) t149_77 rfl ?_
                      by_cases w90 : w89v.toInt ≠ c.toInt
                      · refine zs_icmp_neT (pc := 78) t149_78 rfl rfl (by omega) ?_
                        obtain ⟨w91v, w91e, w91⟩ := ziadd (a := w50x6) (b := Int32.ofInt 1) rfl (show (Int32.ofInt 1).toInt = 1 by decide) (by omega) (by omega)
                        refine zs_iinc (pc := 90) t149_90 (ls' := [(6, .int w91v), (8, .int w60v), (7, .int (zI M 10 w54n)), (0, .ref 7), (1, .int a), (2, .int b), (3, .int c), (4, .int (1 : Int32)), (5, .int w50x5)]) (zml mf149 (by decide)) rfl (c := w91v) w91e rfl ?_
                        refine zs_goto (pc := 93) t149_93 ?_
                        refine zGo.locals (ls' := [(0, .ref 7), (1, .int a), (2, .int b), (3, .int c), (4, .int (1 : Int32)), (5, .int w50x5), (6, .int w91v)]) (by simp) ?_
                        exact w50ih (w50m - 1) (by omega) w50x5 w91v ⟨by omega, by omega⟩ (by omega)
                      · refine zs_icmp_neF (pc := 78) t149_78 rfl rfl (by omega) ?_
                        refine zs_iload (pc := 81) t149_81 rfl ?_
                        refine zs_iconst (pc := 83) t149_83 (v := 1) (by decide) ?_
                        refine zs_iload (pc := 84) t149_84 rfl ?_
                        obtain ⟨w92v, w92⟩ : ∃ v, (1 : Int32) <<< ((zI M 10 w54n) &&& 31) = v := ⟨_, rfl⟩
                        have w92g := zrg w92v
                        refine zs_ishl (pc := 86) t149_86 (c := w92v) w92 ?_
                        obtain ⟨w93v, w93⟩ : ∃ v, w50x5 ||| w92v = v := ⟨_, rfl⟩
                        have w93g := zrg w93v
                        refine zs_ior (pc := 87) t149_87 (c := w93v) w93 ?_
                        refine zs_istore (pc := 88) t149_88 (ls' := [(5, .int w93v), (8, .int w60v), (7, .int (zI M 10 w54n)), (0, .ref 7), (1, .int a), (2, .int b), (3, .int c), (4, .int (1 : Int32)), (6, .int w50x6)]) (zml mf149 (by decide)) rfl ?_
                        obtain ⟨w94v, w94e, w94⟩ := ziadd (a := w50x6) (b := Int32.ofInt 1) rfl (show (Int32.ofInt 1).toInt = 1 by decide) (by omega) (by omega)
                        refine zs_iinc (pc := 90) t149_90 (ls' := [(6, .int w94v), (5, .int w93v), (8, .int w60v), (7, .int (zI M 10 w54n)), (0, .ref 7), (1, .int a), (2, .int b), (3, .int c), (4, .int (1 : Int32))]) (zml mf149 (by decide)) rfl (c := w94v) w94e rfl ?_
                        refine zs_goto (pc := 93) t149_93 ?_
                        refine zGo.locals (ls' := [(0, .ref 7), (1, .int a), (2, .int b), (3, .int c), (4, .int (1 : Int32)), (5, .int w93v), (6, .int w94v)]) (by simp) ?_
                        exact w50ih (w50m - 1) (by omega) w93v w94v ⟨by omega, by omega⟩ (by omega)
    refine zGo.locals (ls' := [(0, .ref 7), (1, .int a), (2, .int b), (3, .int c), (4, .int (1 : Int32)), (5, .int (0 : Int32)), (6, .int (0 : Int32))]) (by simp) ?_
    have w95 := li0
    have w96 := li0
    exact w50L ((60 - 0 : Int).toNat) (0 : Int32) (0 : Int32) ⟨by decide, by decide⟩ (by omega)
