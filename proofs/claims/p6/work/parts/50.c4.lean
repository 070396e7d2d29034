theorem T180_6 {X : zX} {l : Launch} {M : zM} {Q : Option Value → zM → Prop} (hs : zSk zMc M) (hI : zIv cLo cHi M) (hQ : ∀ (M' : zM) (v : Int32), zSk zMc M' → zIv cLo cHi M' → zFr [(161, 334, none)] M M' → 0 ≤ v.toInt → v.toInt ≤ 1 → Q (some (.int v)) M') : zCall X l 99 0 0 180 [.ref 6] M Q := by
  refine zs_inD (by decide) mf180 (Nat.le_of_ble_eq_true rfl) ?_
  show zGo X l 99 0 0 180 0 [(0, .ref 6)] [] M _
  refine zs_aload_n (pc := 0) t180_0 rfl ?_
  refine zs_get (pc := 1) t180_1 (by decide) (zk1 (hs.k fk_zMc_6)) (hs.p rfl fv_zMc_6_0) ?_
  have w1 := ib7_13 hI
  refine zs_get (pc := 4) t180_4 (by decide) (zk1 (hs.k fk_zMc_7)) (zfvi rfl rfl) ?_
  by_cases w2 : (zI M 7 13).toInt ≠ 0
  · refine zs_if_neT (pc := 7) t180_7 rfl (by omega) ?_
    refine zs_iconst (pc := 12) t180_12 (v := 0) (by decide) ?_
    refine zs_istore_n (pc := 13) t180_13 (ls' := [(1, .int (0 : Int32)), (0, .ref 6)]) (zml mf180 (by decide)) rfl ?_
    have w3L : ∀ (m : Nat) (w3x1 : Int32) (w3M : zM), (0 ≤ w3x1.toInt ∧ w3x1.toInt ≤ 8) → zSk zMc w3M → zIv cLo cHi w3M → zFr [(161, 334, none)] M w3M → 8 - w3x1.toInt ≤ (m : Int) → zGo X l 99 0 0 180 14 [(0, .ref 6), (1, .int w3x1)] [] w3M Q := by
      intro m
      induction m using Nat.strongRecOn with
      | ind w3m w3ih =>
        intro w3x1 w3M w3b1 w3s w3I w3F w3q
        refine zs_iload_n (pc := 14) t180_14 rfl ?_
        refine zs_ldc_ws (pc := 15) t180_15 (by decide) ?_
        refine zs_invV (pc := 18) (k := 4) (as' := []) (st := [.int w3x1]) t180_18 mf6 rfl rfl (Or.inr ⟨rfl, rfl⟩) ⟨by decide, by decide, Nat.le_of_ble_eq_true rfl, Nat.le_of_ble_eq_true rfl⟩ (zs_in (by decide) mf6 (Nat.le_of_ble_eq_true rfl) ?_) (fun _ _ q => q)
        show zGo X l 1 0 0 6 0 [(0, .ref 4)] [] w3M _
        refine zs_aload_n (pc := 0) t6_0 rfl ?_
        refine zs_gets (pc := 1) t6_1 (v := .ref 5) rfl ?_
        refine zs_alen (pc := 4) t6_4 (by decide) (zk3 (w3s.k fk_zMc_5) (by decide)) (zk4 (w3s.k fk_zMc_5)) (v := 8) (by decide) ?_
        refine zs_aload_n (pc := 5) t6_5 rfl ?_
        refine zs_invV (pc := 6) (k := 4) (as' := []) (st := [.int (8 : Int32)]) t6_6 mf7 rfl rfl (Or.inr ⟨rfl, rfl⟩) ⟨by decide, by decide, Nat.le_of_ble_eq_true rfl, Nat.le_of_ble_eq_true rfl⟩ (zs_in (by decide) mf7 (Nat.le_of_ble_eq_true rfl) ?_) (fun _ _ q => q)
        show zGo X l 0 0 0 7 0 [(0, .ref 4)] [] w3M _
        refine zs_getstatic (pc := 0) t7_0 (v := .int 1) rfl ?_
        refine zs_if_eqF (pc := 3) t7_3 li1 (by decide) ?_
        refine zs_aload_n (pc := 6) t7_6 rfl ?_
        refine zs_gets (pc := 7) t7_7 (v := .int (0 : Int32)) rfl ?_
        refine zs_goto (pc := 10) t7_10 ?_
        refine zs_iret (pc := 14) t7_14 mr7 (by decide) ?_
        show zGo X l 1 0 0 6 9 [(0, .ref 4)] [.int (0 : Int32), .int (8 : Int32)] w3M _
        refine zs_ishr (pc := 9) t6_9 (c := 8) (by decide) ?_
        refine zs_iret (pc := 10) t6_10 mr6 (by decide) ?_
        show zGo X l 99 0 0 180 21 [(0, .ref 6), (1, .int w3x1)] [.int (8 : Int32), .int w3x1] w3M _
        by_cases w4 : 8 ≤ w3x1.toInt
        · refine zs_icmp_geT (pc := 21) t180_21 rfl li8 (by omega) ?_
          refine zs_aload_n (pc := 66) t180_66 rfl ?_
          refine zs_get (pc := 67) t180_67 (by decide) (zk1 (w3s.k fk_zMc_6)) (w3s.p rfl fv_zMc_6_5) ?_
          refine zs_aload_n (pc := 70) t180_70 rfl ?_
          refine zs_get (pc := 71) t180_71 (by decide) (zk1 (w3s.k fk_zMc_6)) (w3s.p rfl fv_zMc_6_0) ?_
          refine zs_get (pc := 74) t180_74 (by decide) (zk1 (w3s.k fk_zMc_7)) (w3s.p rfl fv_zMc_7_14) ?_
          refine zs_aload_n (pc := 77) t180_77 rfl ?_
          refine zs_get (pc := 78) t180_78 (by decide) (zk1 (w3s.k fk_zMc_6)) (w3s.p rfl fv_zMc_6_0) ?_
          refine zs_get (pc := 81) t180_81 (by decide) (zk1 (w3s.k fk_zMc_7)) (zfvi rfl ((w3F 7 13 rfl).trans rfl)) ?_
          refine zs_invV9 (pc := 84) (k := 161) (as' := [.ref 18, .int (zI M 7 13)]) (st := []) t180_84 mf64 rfl rfl (Or.inl ⟨by decide, (zk1 (w3s.k fk_zMc_161))⟩) ⟨by decide, Nat.le_of_ble_eq_true rfl, Nat.le_of_ble_eq_true rfl⟩ (C64_161_18 w3s w3I ?_) (fun _ _ q => q)
          intro w5M w5v w5s w5I w5F w5a w5b
          show zGo X l 99 0 0 180 87 [(0, .ref 6), (1, .int w3x1)] [.int w5v] w5M _
          by_cases w6 : w5v.toInt = 0
          · refine zs_if_eqT (pc := 87) t180_87 rfl (by omega) ?_
            refine zs_iconst (pc := 94) t180_94 (v := 0) (by decide) ?_
            exact zs_iret (pc := 95) t180_95 mr180 (by decide) (hQ _ _ w5s w5I (((zFr.refl).trans (w3F.mono rfl)).trans (w5F.mono rfl)) (by decide) (by decide))
          · refine zs_if_eqF (pc := 87) t180_87 rfl (by omega) ?_
            refine zs_iconst (pc := 90) t180_90 (v := 1) (by decide) ?_
            refine zs_goto (pc := 91) t180_91 ?_
            exact zs_iret (pc := 95) t180_95 mr180 (by decide) (hQ _ _ w5s w5I (((zFr.refl).trans (w3F.mono rfl)).trans (w5F.mono rfl)) (by decide) (by decide))
        · refine zs_icmp_geF (pc := 21) t180_21 rfl li8 (by omega) ?_
          refine zs_aload_n (pc := 24) t180_24 rfl ?_
          refine zs_get (pc := 25) t180_25 (by decide) (zk1 (w3s.k fk_zMc_6)) (w3s.p rfl fv_zMc_6_0) ?_
          refine zs_ldc_ws (pc := 28) t180_28 (by decide) ?_
          refine zs_iload_n (pc := 31) t180_31 rfl ?_
          refine zs_invV (pc := 32) (k := 4) (as' := [.int w3x1]) (st := [.ref 7]) t180_32 mf181 rfl rfl (Or.inr ⟨rfl, rfl⟩) ⟨by decide, by decide, Nat.le_of_ble_eq_true rfl, Nat.le_of_ble_eq_true rfl⟩ (C181_4 w3s w3I ⟨by omega, by omega⟩ ?_) (fun _ _ q => q)
          intro w7v w7a w7b
          show zGo X l 99 0 0 180 35 [(0, .ref 6), (1, .int w3x1)] [.int w7v, .ref 7] w3M _
          refine zs_invV (pc := 35) (k := 7) (as' := [.int w7v]) (st := []) t180_35 mf185 rfl rfl (Or.inl ⟨by decide, (zk1 (w3s.k fk_zMc_7))⟩) ⟨by decide, by decide, Nat.le_of_ble_eq_true rfl, Nat.le_of_ble_eq_true rfl⟩ (C185_7 w3s w3I ⟨by omega, by omega⟩ ?_) (fun _ _ q => q)
          intro w8v w8a w8b
          show zGo X l 99 0 0 180 38 [(0, .ref 6), (1, .int w3x1)] [.int w8v] w3M _
          by_cases w9 : w8v.toInt = 0
          · refine zs_if_eqT (pc := 38) t180_38 rfl (by omega) ?_
            obtain ⟨w10v, w10e, w10⟩ := ziadd (a := w3x1) (b := Int32.ofInt 1) rfl (show (Int32.ofInt 1).toInt = 1 by decide) (by omega) (by omega)
            refine zs_iinc (pc := 60) t180_60 (ls' := [(1, .int w10v), (0, .ref 6)]) (zml mf180 (by decide)) rfl (c := w10v) w10e rfl ?_
            refine zs_goto (pc := 63) t180_63 ?_
            refine zGo.locals (ls' := [(0, .ref 6), (1, .int w10v)]) (by simp) ?_
            exact w3ih (w3m - 1) (by omega) w10v w3M ⟨by omega, by omega⟩ w3s w3I ((zFr.refl).trans (w3F.mono rfl)) (by omega)
          · refine zs_if_eqF (pc := 38) t180_38 rfl (by omega) ?_
            refine zs_aload_n (pc := 41) t180_41 rfl ?_
            refine zs_get (pc := 42) t180_42 (by decide) (zk1 (w3s.k fk_zMc_6)) (w3s.p rfl fv_zMc_6_5) ?_
            refine zs_iload_n (pc := 45) t180_45 rfl ?_
            refine zs_aload_n (pc := 46) t180_46 rfl ?_
            refine zs_ldc_ws (pc := 47) t180_47 (by decide) ?_
            refine zs_iload_n (pc := 50) t180_50 rfl ?_
            refine zs_invV (pc := 51) (k := 4) (as' := [.int w3x1]) (st := [.ref 6, .int w3x1, .ref 161]) t180_51 mf181 rfl rfl (Or.inr ⟨rfl, rfl⟩) ⟨by decide, by decide, Nat.le_of_ble_eq_true rfl, Nat.le_of_ble_eq_true rfl⟩ (C181_4 w3s w3I ⟨by omega, by omega⟩ ?_) (fun _ _ q => q)
            intro w11v w11a w11b
            show zGo X l 99 0 0 180 54 [(0, .ref 6), (1, .int w3x1)] [.int w11v, .ref 6, .int w3x1, .ref 161] w3M _
            refine zs_invV (pc := 54) (k := 6) (as' := [.int w11v]) (st := [.int w3x1, .ref 161]) t180_54 mf151 rfl rfl (Or.inl ⟨by decide, (zk1 (w3s.k fk_zMc_6))⟩) ⟨by decide, by decide, Nat.le_of_ble_eq_true rfl, Nat.le_of_ble_eq_true rfl⟩ (T151_6 w3s w3I ?_) (fun _ _ q => q)
            intro w12M w12v w12s w12I w12F w12a w12b
            show zGo X l 99 0 0 180 57 [(0, .ref 6), (1, .int w3x1)] [.int w12v, .int w3x1, .ref 161] w12M _
            refine zs_invV (pc := 57) (k := 161) (as' := [.int w3x1, .int w12v]) (st := []) t180_57 mf186 rfl rfl (Or.inl ⟨by decide, (zk1 (w12s.k fk_zMc_161))⟩) ⟨by decide, by decide, Nat.le_of_ble_eq_true rfl, Nat.le_of_ble_eq_true rfl⟩ (zs_in (by decide) mf186 (Nat.le_of_ble_eq_true rfl) ?_) (fun _ _ q => q)
            show zGo X l 0 0 0 186 0 [(0, .ref 161), (1, .int w3x1), (2, .int w12v)] [] w12M _
            refine zs_iload_n (pc := 0) t186_0 rfl ?_
            refine zs_if_ltF (pc := 1) t186_1 rfl (by omega) ?_
            refine zs_iload_n (pc := 4) t186_4 rfl ?_
            refine zs_aload_n (pc := 5) t186_5 rfl ?_
            refine zs_get (pc := 6) t186_6 (by decide) (zk1 (w12s.k fk_zMc_161)) (w12s.p rfl fv_zMc_161_0) ?_
            refine zs_alen (pc := 9) t186_9 (by decide) (zk3 (w12s.k fk_zMc_162) (by decide)) (zk4 (w12s.k fk_zMc_162)) (v := 8) (by decide) ?_
            refine zs_icmp_geF (pc := 10) t186_10 rfl li8 (by omega) ?_
            refine zs_aload_n (pc := 13) t186_13 rfl ?_
            refine zs_get (pc := 14) t186_14 (by decide) (zk1 (w12s.k fk_zMc_161)) (w12s.p rfl fv_zMc_161_0) ?_
            refine zs_iload_n (pc := 17) t186_17 rfl ?_
            refine zs_iload_n (pc := 18) t186_18 rfl ?_
            obtain ⟨w13n, w13⟩ : ∃ n : Nat, w3x1.toInt = (n : Int) := ⟨w3x1.toInt.toNat, by omega⟩
            have w14 : zIv cLo cHi (zsI w12M 162 w13n w12v) := zIv.put w12I (show (-2147483648) ≤ w12v.toInt ∧ w12v.toInt ≤ 2147483647 from (zrg w12v))
            refine zs_iast (pc := 19) t186_19 (j := w13n) (by decide) (zk1 (w12s.k fk_zMc_162)) w13 (zk2 (w12s.k fk_zMc_162) (by omega)) ?_
            refine zs_vret (pc := 20) t186_20 mr186 ?_
            show zGo X l 99 0 0 180 60 [(0, .ref 6), (1, .int w3x1)] [] (zsI w12M 162 w13n w12v) _
            obtain ⟨w15v, w15e, w15⟩ := ziadd (a := w3x1) (b := Int32.ofInt 1) rfl (show (Int32.ofInt 1).toInt = 1 by decide) (by omega) (by omega)
            refine zs_iinc (pc := 60) t180_60 (ls' := [(1, .int w15v), (0, .ref 6)]) (zml mf180 (by decide)) rfl (c := w15v) w15e rfl ?_
            refine zs_goto (pc := 63) t180_63 ?_
            refine zGo.locals (ls' := [(0, .ref 6), (1, .int w15v)]) (by simp) ?_
            exact w3ih (w3m - 1) (by omega) w15v (zsI w12M 162 w13n w12v) ⟨by omega, by omega⟩ w12s w14 ((((zFr.refl).trans (w3F.mono rfl)).trans (w12F.mono rfl)).put rfl) (by omega)
    refine zGo.locals (ls' := [(0, .ref 6), (1, .int (0 : Int32))]) (by simp) ?_
    have w16 := li0
    exact w3L ((8 - 0 : Int).toNat) (0 : Int32) M ⟨by decide, by decide⟩ hs hI zFr.refl (by omega)
  · refine zs_if_neF (pc := 7) t180_7 rfl (by omega) ?_
    refine zs_iconst (pc := 10) t180_10 (v := 0) (by decide) ?_
    exact zs_iret (pc := 11) t180_11 mr180 (by decide) (hQ _ _ hs hI (zFr.refl) (by decide) (by decide))
