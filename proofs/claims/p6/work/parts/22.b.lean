theorem C107_242_7 {X : zX} {l : Launch} {M : zM} {Q : Option Value → zM → Prop} {a : Int32} (hs : zSk zMc M) (hI : zIv cLo cHi M) (hQ : ∀ M', zSk zMc M' → zIv cLo cHi M' → zFr [(242, 254, none)] M M' → Q none M') : zCall X l 3 0 0 107 [.ref 242, .ref 7, .int a] M Q := by
  have ga := zrg a
  refine zs_in (by decide) mf107 (Nat.le_of_ble_eq_true rfl) ?_
  show zGo X l 3 0 0 107 0 [(0, .ref 242), (1, .ref 7), (2, .int a)] [] M _
  refine zs_aload_n (pc := 0) t107_0 rfl ?_
  refine zs_iconst (pc := 1) t107_1 (v := 1) (by decide) ?_
  refine zs_aload_n (pc := 2) t107_2 rfl ?_
  refine zs_iconst (pc := 3) t107_3 (v := 2) (by decide) ?_
  refine zs_invV (pc := 4) (k := 7) (as' := [.int (2 : Int32)]) (st := [.int (1 : Int32), .ref 242]) t107_4 mf96 rfl rfl (Or.inl ⟨by decide, (zk1 (hs.k fk_zMc_7))⟩) ⟨by decide, by decide, Nat.le_of_ble_eq_true rfl, Nat.le_of_ble_eq_true rfl⟩ (zs_in (by decide) mf96 (Nat.le_of_ble_eq_true rfl) ?_) (fun _ _ q => q)
  show zGo X l 0 0 0 96 0 [(0, .ref 7), (1, .int (2 : Int32))] [] M _
  refine zs_iload_n (pc := 0) t96_0 rfl ?_
  refine zs_if_ltF (pc := 1) t96_1 li2 (by decide) ?_
  refine zs_iload_n (pc := 4) t96_4 rfl ?_
  refine zs_bipush (pc := 5) t96_5 (v := 9) (by decide) ?_
  refine zs_icmp_geF (pc := 7) t96_7 li2 li9 (by decide) ?_
  refine zs_aload_n (pc := 10) t96_10 rfl ?_
  refine zs_get (pc := 11) t96_11 (by decide) (zk1 (hs.k fk_zMc_7)) (hs.p rfl fv_zMc_7_12) ?_
  refine zs_iload_n (pc := 14) t96_14 rfl ?_
  have w1 := ib17 hI 2
  refine zs_iald (pc := 15) t96_15 (j := 2) (by decide) (zk1 (hs.k fk_zMc_17)) li2 (zk2 (hs.k fk_zMc_17) (by decide)) rfl ?_
  refine zs_goto (pc := 16) t96_16 ?_
  refine zs_iret (pc := 20) t96_20 mr96 rfl ?_
  show zGo X l 3 0 0 107 7 [(0, .ref 242), (1, .ref 7), (2, .int a)] [.int (zI M 17 2), .int (1 : Int32), .ref 242] M _
  refine zs_invS (pc := 7) (as := [.int (1 : Int32), .int (zI M 17 2)]) (st := [.ref 242]) t107_7 (by decide) mf21 rfl rfl ⟨by decide, by decide, Nat.le_of_ble_eq_true rfl, Nat.le_of_ble_eq_true rfl⟩ (zs_in (by decide) mf21 (Nat.le_of_ble_eq_true rfl) ?_) (fun _ _ q => q)
  show zGo X l 0 0 0 21 0 [(0, .int (1 : Int32)), (1, .int (zI M 17 2))] [] M _
  refine zs_iload_n (pc := 0) t21_0 rfl ?_
  refine zs_iload_n (pc := 1) t21_1 rfl ?_
  by_cases w2 : 1 < (zI M 17 2).toInt
  · refine zs_icmp_ltT (pc := 2) t21_2 li1 rfl (by omega) ?_
    refine zs_iload_n (pc := 9) t21_9 rfl ?_
    refine zs_iret (pc := 10) t21_10 mr21 rfl ?_
    show zGo X l 3 0 0 107 10 [(0, .ref 242), (1, .ref 7), (2, .int a)] [.int (zI M 17 2), .ref 242] M _
    have w3 : zIv cLo cHi (zsI M 242 5 (zI M 17 2)) := zIv.put hI (show 1 ≤ (zI M 17 2).toInt ∧ (zI M 17 2).toInt ≤ 2147483647 from ⟨by omega, by omega⟩)
    refine zs_putI (pc := 10) t107_10 (zk1 (hs.k fk_zMc_242)) rfl ?_
    refine zs_aload_n (pc := 13) t107_13 rfl ?_
    refine zs_aload_n (pc := 14) t107_14 rfl ?_
    refine zs_iconst (pc := 15) t107_15 (v := 0) (by decide) ?_
    refine zs_invV (pc := 16) (k := 7) (as' := [.int (0 : Int32)]) (st := [.ref 242]) t107_16 mf96 rfl rfl (Or.inl ⟨by decide, (zk1 (hs.k fk_zMc_7))⟩) ⟨by decide, by decide, Nat.le_of_ble_eq_true rfl, Nat.le_of_ble_eq_true rfl⟩ (zs_in (by decide) mf96 (Nat.le_of_ble_eq_true rfl) ?_) (fun _ _ q => q)
    show zGo X l 0 0 0 96 0 [(0, .ref 7), (1, .int (0 : Int32))] [] (zsI M 242 5 (zI M 17 2)) _
    refine zs_iload_n (pc := 0) t96_0 rfl ?_
    refine zs_if_ltF (pc := 1) t96_1 li0 (by decide) ?_
    refine zs_iload_n (pc := 4) t96_4 rfl ?_
    refine zs_bipush (pc := 5) t96_5 (v := 9) (by decide) ?_
    refine zs_icmp_geF (pc := 7) t96_7 li0 li9 (by decide) ?_
    refine zs_aload_n (pc := 10) t96_10 rfl ?_
    refine zs_get (pc := 11) t96_11 (by decide) (zk1 (hs.k fk_zMc_7)) (hs.p rfl fv_zMc_7_12) ?_
    refine zs_iload_n (pc := 14) t96_14 rfl ?_
    have w4 := ib17 hI 0
    refine zs_iald (pc := 15) t96_15 (j := 0) (by decide) (zk1 (hs.k fk_zMc_17)) li0 (zk2 (hs.k fk_zMc_17) (by decide)) ((zIo (by decide)).trans rfl) ?_
    refine zs_goto (pc := 16) t96_16 ?_
    refine zs_iret (pc := 20) t96_20 mr96 rfl ?_
    show zGo X l 3 0 0 107 19 [(0, .ref 242), (1, .ref 7), (2, .int a)] [.int (zI M 17 0), .ref 242] (zsI M 242 5 (zI M 17 2)) _
    refine zs_aload_n (pc := 19) t107_19 rfl ?_
    refine zs_iconst (pc := 20) t107_20 (v := 1) (by decide) ?_
    refine zs_invV (pc := 21) (k := 7) (as' := [.int (1 : Int32)]) (st := [.int (zI M 17 0), .ref 242]) t107_21 mf96 rfl rfl (Or.inl ⟨by decide, (zk1 (hs.k fk_zMc_7))⟩) ⟨by decide, by decide, Nat.le_of_ble_eq_true rfl, Nat.le_of_ble_eq_true rfl⟩ (zs_in (by decide) mf96 (Nat.le_of_ble_eq_true rfl) ?_) (fun _ _ q => q)
    show zGo X l 0 0 0 96 0 [(0, .ref 7), (1, .int (1 : Int32))] [] (zsI M 242 5 (zI M 17 2)) _
    refine zs_iload_n (pc := 0) t96_0 rfl ?_
    refine zs_if_ltF (pc := 1) t96_1 li1 (by decide) ?_
    refine zs_iload_n (pc := 4) t96_4 rfl ?_
    refine zs_bipush (pc := 5) t96_5 (v := 9) (by decide) ?_
    refine zs_icmp_geF (pc := 7) t96_7 li1 li9 (by decide) ?_
    refine zs_aload_n (pc := 10) t96_10 rfl ?_
    refine zs_get (pc := 11) t96_11 (by decide) (zk1 (hs.k fk_zMc_7)) (hs.p rfl fv_zMc_7_12) ?_
    refine zs_iload_n (pc := 14) t96_14 rfl ?_
    have w5 := ib17 hI 1
    refine zs_iald (pc := 15) t96_15 (j := 1) (by decide) (zk1 (hs.k fk_zMc_17)) li1 (zk2 (hs.k fk_zMc_17) (by decide)) ((zIo (by decide)).trans rfl) ?_
    refine zs_goto (pc := 16) t96_16 ?_
    refine zs_iret (pc := 20) t96_20 mr96 rfl ?_
    show zGo X l 3 0 0 107 24 [(0, .ref 242), (1, .ref 7), (2, .int a)] [.int (zI M 17 1), .int (zI M 17 0), .ref 242] (zsI M 242 5 (zI M 17 2)) _
    refine zs_invV (pc := 24) (k := 242) (as' := [.int (zI M 17 0), .int (zI M 17 1)]) (st := []) t107_24 mf108 rfl rfl (Or.inl ⟨by decide, (zk1 (hs.k fk_zMc_242))⟩) ⟨by decide, by decide, Nat.le_of_ble_eq_true rfl, Nat.le_of_ble_eq_true rfl⟩ (C108_242 hs w3 ?_) (fun _ _ q => q)
    intro w6M w6s w6I w6F
    show zGo X l 3 0 0 107 27 [(0, .ref 242), (1, .ref 7), (2, .int a)] [] w6M _
    refine zs_aload_n (pc := 27) t107_27 rfl ?_
    refine zs_aload_n (pc := 28) t107_28 rfl ?_
    refine zs_invV (pc := 29) (k := 242) (as' := [.ref 7]) (st := []) t107_29 mf109 rfl rfl (Or.inl ⟨by decide, (zk1 (w6s.k fk_zMc_242))⟩) ⟨by decide, by decide, Nat.le_of_ble_eq_true rfl, Nat.le_of_ble_eq_true rfl⟩ (C109_242_7 w6s w6I ?_) (fun _ _ q => q)
    intro w7M w7s w7I w7F
    show zGo X l 3 0 0 107 32 [(0, .ref 242), (1, .ref 7), (2, .int a)] [] w7M _
    refine zs_aload_n (pc := 32) t107_32 rfl ?_
    refine zs_iconst (pc := 33) t107_33 (v := 0) (by decide) ?_
    have w8 : zIv cLo cHi (zsI w7M 242 6 (0 : Int32)) := zIv.put w7I (show 0 ≤ (0 : Int32).toInt ∧ (0 : Int32).toInt ≤ 60 from ⟨by decide, by decide⟩)
    refine zs_putI (pc := 34) t107_34 (zk1 (w7s.k fk_zMc_242)) rfl ?_
    refine zs_iconst (pc := 37) t107_37 (v := 0) (by decide) ?_
    refine zs_istore_n (pc := 38) t107_38 (ls' := [(3, .int (0 : Int32)), (0, .ref 242), (1, .ref 7), (2, .int a)]) (zml mf107 (by decide)) rfl ?_
    have w9L : ∀ (m : Nat) (w9x3 : Int32) (w9M : zM), (0 ≤ w9x3.toInt ∧ w9x3.toInt ≤ 60) → zSk zMc w9M → zIv cLo cHi w9M → zFr [(242, 254, none)] (zsI w7M 242 6 (0 : Int32)) w9M → ((zI w9M 242 6).toInt ≤ w9x3.toInt) → 60 - w9x3.toInt ≤ (m : Int) → zGo X l 3 0 0 107 39 [(0, .ref 242), (1, .ref 7), (2, .int a), (3, .int w9x3)] [] w9M Q := by
      intro m
      induction m using Nat.strongRecOn with
      | ind w9m w9ih =>
        intro w9x3 w9M w9b3 w9s w9I w9F w9t0 w9q
        refine zs_iload_n (pc := 39) t107_39 rfl ?_
        refine zs_aload_n (pc := 40) t107_40 rfl ?_
        have w10 := ib7_3 hI
        refine zs_get (pc := 41) t107_41 (by decide) (zk1 (w9s.k fk_zMc_7)) (zfvi rfl ((w9F 7 3 rfl).trans ((zIo (by decide)).trans ((w7F 7 3 rfl).trans ((w6F 7 3 rfl).trans ((zIo (by decide)).trans rfl)))))) ?_
        by_cases w11 : (zI M 7 3).toInt ≤ w9x3.toInt
        · refine zs_icmp_geT (pc := 44) t107_44 rfl rfl (by omega) ?_
          exact zs_vret (pc := 121) t107_121 mr107 (hQ _ w9s w9I ((((((zFr.refl).put rfl).trans (w6F.mono rfl)).trans (w7F.mono rfl)).put rfl).trans (w9F.mono rfl)))
        · refine zs_icmp_geF (pc := 44) t107_44 rfl rfl (by omega) ?_
          refine zs_aload_n (pc := 47) t107_47 rfl ?_
          refine zs_get (pc := 48) t107_48 (by decide) (zk1 (w9s.k fk_zMc_7)) (w9s.p rfl fv_zMc_7_4) ?_
          refine zs_iload_n (pc := 51) t107_51 rfl ?_
          obtain ⟨w12n, w12⟩ : ∃ n : Nat, w9x3.toInt = (n : Int) := ⟨w9x3.toInt.toNat, by omega⟩
          have w13 := ib10 hI w12n
          refine zs_iald (pc := 52) t107_52 (j := w12n) (by decide) (zk1 (w9s.k fk_zMc_10)) w12 (zk2 (w9s.k fk_zMc_10) (by omega)) ((w9F 10 w12n rfl).trans ((zIo (by decide)).trans ((w7F 10 w12n rfl).trans ((w6F 10 w12n rfl).trans ((zIo (by decide)).trans rfl))))) ?_
          refine zs_iload_n (pc := 53) t107_53 rfl ?_
          by_cases w14 : (zI M 10 w12n).toInt = a.toInt
          · refine zs_icmp_eqT (pc := 54) t107_54 rfl rfl (by omega) ?_
            obtain ⟨w15v, w15e, w15⟩ := ziadd (a := w9x3) (b := Int32.ofInt 1) rfl (show (Int32.ofInt 1).toInt = 1 by decide) (by omega) (by omega)
            refine zs_iinc (pc := 115) t107_115 (ls' := [(3, .int w15v), (0, .ref 242), (1, .ref 7), (2, .int a)]) (zml mf107 (by decide)) rfl (c := w15v) w15e rfl ?_
            refine zs_goto (pc := 118) t107_118 ?_
            refine zGo.locals (ls' := [(0, .ref 242), (1, .ref 7), (2, .int a), (3, .int w15v)]) (by simp) ?_
            have w16 := ib242_6 w9I
            exact w9ih (w9m - 1) (by omega) w15v w9M ⟨by omega, by omega⟩ w9s w9I ((zFr.refl).trans (w9F.mono rfl)) (by omega) (by omega)
          · refine zs_icmp_eqF (pc := 54) t107_54 rfl rfl (by omega) ?_
            refine zs_aload_n (pc := 57) t107_57 rfl ?_
            refine zs_iload_n (pc := 58) t107_58 rfl ?_
            refine zs_invV (pc := 59) (k := 7) (as' := [.int w9x3]) (st := []) t107_59 mf93 rfl rfl (Or.inl ⟨by decide, (zk1 (w9s.k fk_zMc_7))⟩) ⟨by decide, by decide, Nat.le_of_ble_eq_true rfl, Nat.le_of_ble_eq_true rfl⟩ (zs_in (by decide) mf93 (Nat.le_of_ble_eq_true rfl) ?_) (fun _ _ q => q)
            show zGo X l 1 0 0 93 0 [(0, .ref 7), (1, .int w9x3)] [] w9M _
            refine zs_aload_n (pc := 0) t93_0 rfl ?_
            refine zs_iload_n (pc := 1) t93_1 rfl ?_
            refine zs_invV (pc := 2) (k := 7) (as' := [.int w9x3]) (st := []) t93_2 mf91 rfl rfl (Or.inl ⟨by decide, (zk1 (w9s.k fk_zMc_7))⟩) ⟨by decide, by decide, Nat.le_of_ble_eq_true rfl, Nat.le_of_ble_eq_true rfl⟩ (zs_in (by decide) mf91 (Nat.le_of_ble_eq_true rfl) ?_) (fun _ _ q => q)
            show zGo X l 0 0 0 91 0 [(0, .ref 7), (1, .int w9x3)] [] w9M _
            refine zs_iload_n (pc := 0) t91_0 rfl ?_
            refine zs_if_ltF (pc := 1) t91_1 rfl (by omega) ?_
            refine zs_iload_n (pc := 4) t91_4 rfl ?_
            refine zs_aload_n (pc := 5) t91_5 rfl ?_
            refine zs_get (pc := 6) t91_6 (by decide) (zk1 (w9s.k fk_zMc_7)) (zfvi rfl ((w9F 7 3 rfl).trans ((zIo (by decide)).trans ((w7F 7 3 rfl).trans ((w6F 7 3 rfl).trans ((zIo (by decide)).trans rfl)))))) ?_
            by_cases w17 : (zI M 7 3).toInt ≤ w9x3.toInt
            · refine zs_icmp_geT (pc := 9) t91_9 rfl rfl (by omega) ?_
              refine zs_iconst (pc := 16) t91_16 (v := 0) (by decide) ?_
              refine zs_iret (pc := 17) t91_17 mr91 (by decide) ?_
              show zGo X l 1 0 0 93 5 [(0, .ref 7), (1, .int w9x3)] [.int (0 : Int32)] w9M _
              refine zs_if_eqT (pc := 5) t93_5 li0 (by decide) ?_
              refine zs_iconst (pc := 51) t93_51 (v := 0) (by decide) ?_
              refine zs_iret (pc := 52) t93_52 mr93 (by decide) ?_
              show zGo X l 3 0 0 107 62 [(0, .ref 242), (1, .ref 7), (2, .int a), (3, .int w9x3)] [.int (0 : Int32)] w9M _
              refine zs_if_eqT (pc := 62) t107_62 li0 (by decide) ?_
              obtain ⟨w18v, w18e, w18⟩ := ziadd (a := w9x3) (b := Int32.ofInt 1) rfl (show (Int32.ofInt 1).toInt = 1 by decide) (by omega) (by omega)
              refine zs_iinc (pc := 115) t107_115 (ls' := [(3, .int w18v), (0, .ref 242), (1, .ref 7), (2, .int a)]) (zml mf107 (by decide)) rfl (c := w18v) w18e rfl ?_
              refine zs_goto (pc := 118) t107_118 ?_
              refine zGo.locals (ls' := [(0, .ref 242), (1, .ref 7), (2, .int a), (3, .int w18v)]) (by simp) ?_
              have w19 := ib242_6 w9I
              exact w9ih (w9m - 1) (by omega) w18v w9M ⟨by omega, by omega⟩ w9s w9I ((zFr.refl).trans (w9F.mono rfl)) (by omega) (by omega)
            · refine zs_icmp_geF (pc := 9) t91_9 rfl rfl (by omega) ?_
              refine zs_iconst (pc := 12) t91_12 (v := 1) (by decide) ?_
              refine zs_goto (pc := 13) t91_13 ?_
              refine zs_iret (pc := 17) t91_17 mr91 (by decide) ?_
              show zGo X l 1 0 0 93 5 [(0, .ref 7), (1, .int w9x3)] [.int (1 : Int32)] w9M _
              refine zs_if_eqF (pc := 5) t93_5 li1 (by decide) ?_
              refine zs_aload_n (pc := 8) t93_8 rfl ?_
              refine zs_get (pc := 9) t93_9 (by decide) (zk1 (w9s.k fk_zMc_7)) (w9s.p rfl fv_zMc_7_2) ?_
              refine zs_aload_n (pc := 12) t93_12 rfl ?_
              refine zs_get (pc := 13) t93_13 (by decide) (zk1 (w9s.k fk_zMc_7)) (w9s.p rfl fv_zMc_7_4) ?_
              refine zs_iload_n (pc := 16) t93_16 rfl ?_
              refine zs_iald (pc := 17) t93_17 (j := w12n) (by decide) (zk1 (w9s.k fk_zMc_10)) w12 (zk2 (w9s.k fk_zMc_10) (by omega)) ((w9F 10 w12n rfl).trans ((zIo (by decide)).trans ((w7F 10 w12n rfl).trans ((w6F 10 w12n rfl).trans ((zIo (by decide)).trans rfl))))) ?_
              obtain ⟨w20n, w20⟩ : ∃ n : Nat, (zI M 10 w12n).toInt = (n : Int) := ⟨(zI M 10 w12n).toInt.toNat, by omega⟩
              have w21 := ib9 hI w20n
              refine zs_bald (pc := 18) t93_18 (j := w20n) (Or.inr (zk1 (w9s.k fk_zMc_9))) w20 (zk2 (w9s.k fk_zMc_9) (by omega)) ((w9F 9 w20n rfl).trans ((zIo (by decide)).trans ((w7F 9 w20n rfl).trans ((w6F 9 w20n rfl).trans ((zIo (by decide)).trans rfl))))) ?_
              by_cases w22 : (zI M 9 w20n).toInt = 0
              · refine zs_if_eqT (pc := 19) t93_19 rfl (by omega) ?_
                refine zs_iconst (pc := 51) t93_51 (v := 0) (by decide) ?_
                refine zs_iret (pc := 52) t93_52 mr93 (by decide) ?_
                show zGo X l 3 0 0 107 62 [(0, .ref 242), (1, .ref 7), (2, .int a), (3, .int w9x3)] [.int (0 : Int32)] w9M _
                refine zs_if_eqT (pc := 62) t107_62 li0 (by decide) ?_
                obtain ⟨w23v, w23e, w23⟩ := ziadd (a := w9x3) (b := Int32.ofInt 1) rfl (show (Int32.ofInt 1).toInt = 1 by decide) (by omega) (by omega)
                refine zs_iinc (pc := 115) t107_115 (ls' := [(3, .int w23v), (0, .ref 242), (1, .ref 7), (2, .int a)]) (zml mf107 (by decide)) rfl (c := w23v) w23e rfl ?_
                refine zs_goto (pc := 118) t107_118 ?_
                refine zGo.locals (ls' := [(0, .ref 242), (1, .ref 7), (2, .int a), (3, .int w23v)]) (by simp) ?_
                have w24 := ib242_6 w9I
                exact w9ih (w9m - 1) (by omega) w23v w9M ⟨by omega, by omega⟩ w9s w9I ((zFr.refl).trans (w9F.mono rfl)) (by omega) (by omega)
              · refine zs_if_eqF (pc := 19) t93_19 rfl (by omega) ?_
                refine zs_aload_n (pc := 22) t93_22 rfl ?_
                refine zs_get (pc := 23) t93_23 (by decide) (zk1 (w9s.k fk_zMc_7)) (w9s.p rfl fv_zMc_7_6) ?_
                refine zs_iload_n (pc := 26) t93_26 rfl ?_
                have w25 := ib12 hI w12n
                refine zs_iald (pc := 27) t93_27 (j := w12n) (by decide) (zk1 (w9s.k fk_zMc_12)) w12 (zk2 (w9s.k fk_zMc_12) (by omega)) ((w9F 12 w12n rfl).trans ((zIo (by decide)).trans ((w7F 12 w12n rfl).trans ((w6F 12 w12n rfl).trans ((zIo (by decide)).trans rfl))))) ?_
                refine zs_aload_n (pc := 28) t93_28 rfl ?_
                refine zs_get (pc := 29) t93_29 (by decide) (zk1 (w9s.k fk_zMc_7)) (w9s.p rfl fv_zMc_7_12) ?_
                refine zs_iconst (pc := 32) t93_32 (v := 5) (by decide) ?_
                have w26 := ib17 hI 5
                refine zs_iald (pc := 33) t93_33 (j := 5) (by decide) (zk1 (w9s.k fk_zMc_17)) li5 (zk2 (w9s.k fk_zMc_17) (by decide)) ((w9F 17 5 rfl).trans ((zIo (by decide)).trans ((w7F 17 5 rfl).trans ((w6F 17 5 rfl).trans ((zIo (by decide)).trans rfl))))) ?_
                refine zs_aload_n (pc := 34) t93_34 rfl ?_
                refine zs_get (pc := 35) t93_35 (by decide) (zk1 (w9s.k fk_zMc_7)) (w9s.p rfl fv_zMc_7_12) ?_
                refine zs_bipush (pc := 38) t93_38 (v := 6) (by decide) ?_
                have w27 := ib17 hI 6
                refine zs_iald (pc := 40) t93_40 (j := 6) (by decide) (zk1 (w9s.k fk_zMc_17)) li6 (zk2 (w9s.k fk_zMc_17) (by decide)) ((w9F 17 6 rfl).trans ((zIo (by decide)).trans ((w7F 17 6 rfl).trans ((w6F 17 6 rfl).trans ((zIo (by decide)).trans rfl))))) ?_
                refine zs_invS (pc := 41) (as := [.int (zI M 12 w12n), .int (zI M 17 5), .int (zI M 17 6)]) (st := []) t93_41 (by decide) mf39 rfl rfl ⟨by decide, by decide, Nat.le_of_ble_eq_true rfl, Nat.le_of_ble_eq_true rfl⟩ (zs_in (by decide) mf39 (Nat.le_of_ble_eq_true rfl) ?_) (fun _ _ q => q)
                show zGo X l 0 0 0 39 0 [(0, .int (zI M 12 w12n)), (1, .int (zI M 17 5)), (2, .int (zI M 17 6))] [] w9M _
                refine zs_iload_n (pc := 0) t39_0 rfl ?_
                refine zs_iload_n (pc := 1) t39_1 rfl ?_
                by_cases w28 : (zI M 12 w12n).toInt < (zI M 17 5).toInt
                · refine zs_icmp_ltT (pc := 2) t39_2 rfl rfl (by omega) ?_
                  refine zs_iconst (pc := 14) t39_14 (v := 0) (by decide) ?_
                  refine zs_iret (pc := 15) t39_15 mr39 (by decide) ?_
                  show zGo X l 1 0 0 93 44 [(0, .ref 7), (1, .int w9x3)] [.int (0 : Int32)] w9M _
                  refine zs_if_eqT (pc := 44) t93_44 li0 (by decide) ?_
                  refine zs_iconst (pc := 51) t93_51 (v := 0) (by decide) ?_
                  refine zs_iret (pc := 52) t93_52 mr93 (by decide) ?_
                  show zGo X l 3 0 0 107 62 [(0, .ref 242), (1, .ref 7), (2, .int a), (3, .int w9x3)] [.int (0 : Int32)] w9M _
                  refine zs_if_eqT (pc := 62) t107_62 li0 (by decide) ?_
                  obtain ⟨w29v, w29e, w29⟩ := ziadd (a := w9x3) (b := Int32.ofInt 1) rfl (show (Int32.ofInt 1).toInt = 1 by decide) (by omega) (by omega)
                  refine zs_iinc (pc := 115) t107_115 (ls' := [(3, .int w29v), (0, .ref 242), (1, .ref 7), (2, .int a)]) (zml mf107 (by decide)) rfl (c := w29v) w29e rfl ?_
                  refine zs_goto (pc := 118) t107_118 ?_
                  refine zGo.locals (ls' := [(0, .ref 242), (1, .ref 7), (2, .int a), (3, .int w29v)]) (by simp) ?_
                  have w30 := ib242_6 w9I
                  exact w9ih (w9m - 1) (by omega) w29v w9M ⟨by omega, by omega⟩ w9s w9I ((zFr.refl).trans (w9F.mono rfl)) (by omega) (by omega)
                · refine zs_icmp_ltF (pc := 2) t39_2 rfl rfl (by omega) ?_
                  refine zs_iload_n (pc := 5) t39_5 rfl ?_
                  refine zs_iload_n (pc := 6) t39_6 rfl ?_
                  by_cases w31 : (zI M 17 6).toInt < (zI M 12 w12n).toInt
                  · refine zs_icmp_gtT (pc := 7) t39_7 rfl rfl (by omega) ?_
                    refine zs_iconst (pc := 14) t39_14 (v := 0) (by decide) ?_
                    refine zs_iret (pc := 15) t39_15 mr39 (by decide) ?_
                    show zGo X l 1 0 0 93 44 [(0, .ref 7), (1, .int w9x3)] [.int (0 : Int32)] w9M _
                    refine zs_if_eqT (pc := 44) t93_44 li0 (by decide) ?_
                    refine zs_iconst (pc := 51) t93_51 (v := 0) (by decide) ?_
                    refine zs_iret (pc := 52) t93_52 mr93 (by decide) ?_
                    show zGo X l 3 0 0 107 62 [(0, .ref 242), (1, .ref 7), (2, .int a), (3, .int w9x3)] [.int (0 : Int32)] w9M _
                    refine zs_if_eqT (pc := 62) t107_62 li0 (by decide) ?_
                    obtain ⟨w32v, w32e, w32⟩ := ziadd (a := w9x3) (b := Int32.ofInt 1) rfl (show (Int32.ofInt 1).toInt = 1 by decide) (by omega) (by omega)
                    refine zs_iinc (pc := 115) t107_115 (ls' := [(3, .int w32v), (0, .ref 242), (1, .ref 7), (2, .int a)]) (zml mf107 (by decide)) rfl (c := w32v) w32e rfl ?_
                    refine zs_goto (pc := 118) t107_118 ?_
                    refine zGo.locals (ls' := [(0, .ref 242), (1, .ref 7), (2, .int a), (3, .int w32v)]) (by simp) ?_
                    have w33 := ib242_6 w9I
                    exact w9ih (w9m - 1) (by omega) w32v w9M ⟨by omega, by omega⟩ w9s w9I ((zFr.refl).trans (w9F.mono rfl)) (by omega) (by omega)
                  · refine zs_icmp_gtF (pc := 7) t39_7 rfl rfl (by omega) ?_
                    refine zs_iconst (pc := 10) t39_10 (v := 1) (by decide) ?_
                    refine zs_goto (pc := 11) t39_11 ?_
                    refine zs_iret (pc := 15) t39_15 mr39 (by decide) ?_
                    show zGo X l 1 0 0 93 44 [(0, .ref 7), (1, .int w9x3)] [.int (1 : Int32)] w9M _
                    refine zs_if_eqF (pc := 44) t93_44 li1 (by decide) ?_
                    refine zs_iconst (pc := 47) t93_47 (v := 1) (by decide) ?_
                    refine zs_goto (pc := 48) t93_48 ?_
                    refine zs_iret (pc := 52) t93_52 mr93 (by decide) ?_
                    show zGo X l 3 0 0 107 62 [(0, .ref 242), (1, .ref 7), (2, .int a), (3, .int w9x3)] [.int (1 : Int32)] w9M _
                    refine zs_if_eqF (pc := 62) t107_62 li1 (by decide) ?_
                    refine zs_aload_n (pc := 65) t107_65 rfl ?_
                    refine zs_get (pc := 66) t107_66 (by decide) (zk1 (w9s.k fk_zMc_242)) (w9s.p rfl fv_zMc_242_7) ?_
                    refine zs_aload_n (pc := 69) t107_69 rfl ?_
                    have w34 := ib242_6 w9I
                    refine zs_get (pc := 70) t107_70 (by decide) (zk1 (w9s.k fk_zMc_242)) (zfvi rfl rfl) ?_
                    refine zs_iload_n (pc := 73) t107_73 rfl ?_
                    obtain ⟨w35n, w35⟩ : ∃ n : Nat, (zI w9M 242 6).toInt = (n : Int) := ⟨(zI w9M 242 6).toInt.toNat, by omega⟩
                    have w36 : zIv cLo cHi (zsI w9M 247 w35n w9x3) := zIv.put w9I (show 0 ≤ w9x3.toInt ∧ w9x3.toInt ≤ 59 from ⟨by omega, by omega⟩)
                    refine zs_iast (pc := 74) t107_74 (j := w35n) (by decide) (zk1 (w9s.k fk_zMc_247)) w35 (zk2 (w9s.k fk_zMc_247) (by omega)) ?_
                    refine zs_aload_n (pc := 75) t107_75 rfl ?_
                    refine zs_get (pc := 76) t107_76 (by decide) (zk1 (w9s.k fk_zMc_242)) (w9s.p rfl fv_zMc_242_8) ?_
                    refine zs_aload_n (pc := 79) t107_79 rfl ?_
                    refine zs_get (pc := 80) t107_80 (by decide) (zk1 (w9s.k fk_zMc_242)) (zfvi rfl ((zIo (by decide)).trans rfl)) ?_
                    refine zs_aload_n (pc := 83) t107_83 rfl ?_
                    refine zs_get (pc := 84) t107_84 (by decide) (zk1 (w9s.k fk_zMc_7)) (w9s.p rfl fv_zMc_7_4) ?_
                    refine zs_iload_n (pc := 87) t107_87 rfl ?_
                    refine zs_iald (pc := 88) t107_88 (j := w12n) (by decide) (zk1 (w9s.k fk_zMc_10)) w12 (zk2 (w9s.k fk_zMc_10) (by omega)) ((zIo (by decide)).trans ((w9F 10 w12n rfl).trans ((zIo (by decide)).trans ((w7F 10 w12n rfl).trans ((w6F 10 w12n rfl).trans ((zIo (by decide)).trans rfl)))))) ?_
                    have w37 : zIv cLo cHi (zsI (zsI w9M 247 w35n w9x3) 248 w35n (zI M 10 w12n)) := zIv.put w36 (show 0 ≤ (zI M 10 w12n).toInt ∧ (zI M 10 w12n).toInt ≤ 7 from ⟨by omega, by omega⟩)
                    refine zs_iast (pc := 89) t107_89 (j := w35n) (by decide) (zk1 (w9s.k fk_zMc_248)) w35 (zk2 (w9s.k fk_zMc_248) (by omega)) ?_
                    refine zs_aload_n (pc := 90) t107_90 rfl ?_
                    refine zs_get (pc := 91) t107_91 (by decide) (zk1 (w9s.k fk_zMc_242)) (w9s.p rfl fv_zMc_242_9) ?_
                    refine zs_aload_n (pc := 94) t107_94 rfl ?_
                    refine zs_get (pc := 95) t107_95 (by decide) (zk1 (w9s.k fk_zMc_242)) (zfvi rfl ((zIo (by decide)).trans ((zIo (by decide)).trans rfl))) ?_
                    refine zs_aload_n (pc := 98) t107_98 rfl ?_
                    refine zs_get (pc := 99) t107_99 (by decide) (zk1 (w9s.k fk_zMc_7)) (w9s.p rfl fv_zMc_7_5) ?_
                    refine zs_iload_n (pc := 102) t107_102 rfl ?_
                    have w38 := ib11 hI w12n
                    refine zs_iald (pc := 103) t107_103 (j := w12n) (by decide) (zk1 (w9s.k fk_zMc_11)) w12 (zk2 (w9s.k fk_zMc_11) (by omega)) ((zIo (by decide)).trans ((zIo (by decide)).trans ((w9F 11 w12n rfl).trans ((zIo (by decide)).trans ((w7F 11 w12n rfl).trans ((w6F 11 w12n rfl).trans ((zIo (by decide)).trans rfl))))))) ?_
                    have w39 : zIv cLo cHi (zsI (zsI (zsI w9M 247 w35n w9x3) 248 w35n (zI M 10 w12n)) 249 w35n (zI M 11 w12n)) := zIv.put w37 (show (-2147483648) ≤ (zI M 11 w12n).toInt ∧ (zI M 11 w12n).toInt ≤ 2147483647 from (zrg (zI M 11 w12n)))
                    refine zs_iast (pc := 104) t107_104 (j := w35n) (by decide) (zk1 (w9s.k fk_zMc_249)) w35 (zk2 (w9s.k fk_zMc_249) (by omega)) ?_
                    refine zs_aload_n (pc := 105) t107_105 rfl ?_
                    refine zs_dup (pc := 106) t107_106 rfl ?_
                    refine zs_get (pc := 107) t107_107 (by decide) (zk1 (w9s.k fk_zMc_242)) (zfvi rfl ((zIo (by decide)).trans ((zIo (by decide)).trans ((zIo (by decide)).trans rfl)))) ?_
                    refine zs_iconst (pc := 110) t107_110 (v := 1) (by decide) ?_
                    obtain ⟨w40v, w40e, w40⟩ := ziadd (a := (zI w9M 242 6)) (b := (1 : Int32)) rfl li1 (by omega) (by omega)
                    refine zs_iadd (pc := 111) t107_111 (c := w40v) w40e ?_
                    have w41 : zIv cLo cHi (zsI (zsI (zsI (zsI w9M 247 w35n w9x3) 248 w35n (zI M 10 w12n)) 249 w35n (zI M 11 w12n)) 242 6 w40v) := zIv.put w39 (show 0 ≤ w40v.toInt ∧ w40v.toInt ≤ 60 from ⟨by omega, by omega⟩)
                    refine zs_putI (pc := 112) t107_112 (zk1 (w9s.k fk_zMc_242)) rfl ?_
                    obtain ⟨w42v, w42e, w42⟩ := ziadd (a := w9x3) (b := Int32.ofInt 1) rfl (show (Int32.ofInt 1).toInt = 1 by decide) (by omega) (by omega)
                    refine zs_iinc (pc := 115) t107_115 (ls' := [(3, .int w42v), (0, .ref 242), (1, .ref 7), (2, .int a)]) (zml mf107 (by decide)) rfl (c := w42v) w42e rfl ?_
                    refine zs_goto (pc := 118) t107_118 ?_
                    refine zGo.locals (ls' := [(0, .ref 242), (1, .ref 7), (2, .int a), (3, .int w42v)]) (by simp) ?_
                    exact w9ih (w9m - 1) (by omega) w42v (zsI (zsI (zsI (zsI w9M 247 w35n w9x3) 248 w35n (zI M 10 w12n)) 249 w35n (zI M 11 w12n)) 242 6 w40v) ⟨by omega, by omega⟩ w9s w41 ((((((zFr.refl).trans (w9F.mono rfl)).put rfl).put rfl).put rfl).put rfl) (by rw [show zI (zsI (zsI (zsI (zsI w9M 247 w35n w9x3) 248 w35n (zI M 10 w12n)) 249 w35n (zI M 11 w12n)) 242 6 w40v) 242 6 = w40v from zIs]; omega) (by omega)
    refine zGo.locals (ls' := [(0, .ref 242), (1, .ref 7), (2, .int a), (3, .int (0 : Int32))]) (by simp) ?_
    have w43 := li0
    have w44 := li0
    exact w9L ((60 - 0 : Int).toNat) (0 : Int32) (zsI w7M 242 6 (0 : Int32)) ⟨by decide, by decide⟩ w7s w8 zFr.refl (by rw [show zI (zsI w7M 242 6 (0 : Int32)) 242 6 = (0 : Int32) from zIs]; omega) (by omega)
  · refine zs_icmp_ltF (pc := 2) t21_2 li1 rfl (by omega) ?_
    refine zs_iload_n (pc := 5) t21_5 rfl ?_
    refine zs_goto (pc := 6) t21_6 ?_
    refine zs_iret (pc := 10) t21_10 mr21 (by decide) ?_
    show zGo X l 3 0 0 107 10 [(0, .ref 242), (1, .ref 7), (2, .int a)] [.int (1 : Int32), .ref 242] M _
    have w45 : zIv cLo cHi (zsI M 242 5 (1 : Int32)) := zIv.put hI (show 1 ≤ (1 : Int32).toInt ∧ (1 : Int32).toInt ≤ 2147483647 from ⟨by decide, by decide⟩)
    refine zs_putI (pc := 10) t107_10 (zk1 (hs.k fk_zMc_242)) rfl ?_
    refine zs_aload_n (pc := 13) t107_13 rfl ?_
    refine zs_aload_n (pc := 14) t107_14 rfl ?_
    refine zs_iconst (pc := 15) t107_15 (v := 0) (by decide) ?_
    refine zs_invV (pc := 16) (k := 7) (as' := [.int (0 : Int32)]) (st := [.ref 242]) t107_16 mf96 rfl rfl (Or.inl ⟨by decide, (zk1 (hs.k fk_zMc_7))⟩) ⟨by decide, by decide, Nat.le_of_ble_eq_true rfl, Nat.le_of_ble_eq_true rfl⟩ (zs_in (by decide) mf96 (Nat.le_of_ble_eq_true rfl) ?_) (fun _ _ q => q)
    show zGo X l 0 0 0 96 0 [(0, .ref 7), (1, .int (0 : Int32))] [] (zsI M 242 5 (1 : Int32)) _
    refine zs_iload_n (pc := 0) t96_0 rfl ?_
    refine zs_if_ltF (pc := 1) t96_1 li0 (by decide) ?_
    refine zs_iload_n (pc := 4) t96_4 rfl ?_
    refine zs_bipush (pc := 5) t96_5 (v := 9) (by decide) ?_
    refine zs_icmp_geF (pc := 7) t96_7 li0 li9 (by decide) ?_
    refine zs_aload_n (pc := 10) t96_10 rfl ?_
    refine zs_get (pc := 11) t96_11 (by decide) (zk1 (hs.k fk_zMc_7)) (hs.p rfl fv_zMc_7_12) ?_
    refine zs_iload_n (pc := 14) t96_14 rfl ?_
    have w46 := ib17 hI 0
    refine zs_iald (pc := 15) t96_15 (j := 0) (by decide) (zk1 (hs.k fk_zMc_17)) li0 (zk2 (hs.k fk_zMc_17) (by decide)) ((zIo (by decide)).trans rfl) ?_
    refine zs_goto (pc := 16) t96_16 ?_
    refine zs_iret (pc := 20) t96_20 mr96 rfl ?_
    show zGo X l 3 0 0 107 19 [(0, .ref 242), (1, .ref 7), (2, .int a)] [.int (zI M 17 0), .ref 242] (zsI M 242 5 (1 : Int32)) _
    refine zs_aload_n (pc := 19) t107_19 rfl ?_
    refine zs_iconst (pc := 20) t107_20 (v := 1) (by decide) ?_
    refine zs_invV (pc := 21) (k := 7) (as' := [.int (1 : Int32)]) (st := [.int (zI M 17 0), .ref 242]) t107_21 mf96 rfl rfl (Or.inl ⟨by decide, (zk1 (hs.k fk_zMc_7))⟩) ⟨by decide, by decide, Nat.le_of_ble_eq_true rfl, Nat.le_of_ble_eq_true rfl⟩ (zs_in (by decide) mf96 (Nat.le_of_ble_eq_true rfl) ?_) (fun _ _ q => q)
    show zGo X l 0 0 0 96 0 [(0, .ref 7), (1, .int (1 : Int32))] [] (zsI M 242 5 (1 : Int32)) _
    refine zs_iload_n (pc := 0) t96_0 rfl ?_
    refine zs_if_ltF (pc := 1) t96_1 li1 (by decide) ?_
    refine zs_iload_n (pc := 4) t96_4 rfl ?_
    refine zs_bipush (pc := 5) t96_5 (v := 9) (by decide) ?_
    refine zs_icmp_geF (pc := 7) t96_7 li1 li9 (by decide) ?_
    refine zs_aload_n (pc := 10) t96_10 rfl ?_
    refine zs_get (pc := 11) t96_11 (by decide) (zk1 (hs.k fk_zMc_7)) (hs.p rfl fv_zMc_7_12) ?_
    refine zs_iload_n (pc := 14) t96_14 rfl ?_
    have w47 := ib17 hI 1
    refine zs_iald (pc := 15) t96_15 (j := 1) (by decide) (zk1 (hs.k fk_zMc_17)) li1 (zk2 (hs.k fk_zMc_17) (by decide)) ((zIo (by decide)).trans rfl) ?_
    refine zs_goto (pc := 16) t96_16 ?_
    refine zs_iret (pc := 20) t96_20 mr96 rfl ?_
    show zGo X l 3 0 0 107 24 [(0, .ref 242), (1, .ref 7), (2, .int a)] [.int (zI M 17 1), .int (zI M 17 0), .ref 242] (zsI M 242 5 (1 : Int32)) _
    refine zs_invV (pc := 24) (k := 242) (as' := [.int (zI M 17 0), .int (zI M 17 1)]) (st := []) t107_24 mf108 rfl rfl (Or.inl ⟨by decide, (zk1 (hs.k fk_zMc_242))⟩) ⟨by decide, by decide, Nat.le_of_ble_eq_true rfl, Nat.le_of_ble_eq_true rfl⟩ (C108_242 hs w45 ?_) (fun _ _ q => q)
    intro w48M w48s w48I w48F
    show zGo X l 3 0 0 107 27 [(0, .ref 242), (1, .ref 7), (2, .int a)] [] w48M _
    refine zs_aload_n (pc := 27) t107_27 rfl ?_
    refine zs_aload_n (pc := 28) t107_28 rfl ?_
    refine zs_invV (pc := 29) (k := 242) (as' := [.ref 7]) (st := []) t107_29 mf109 rfl rfl (Or.inl ⟨by decide, (zk1 (w48s.k fk_zMc_242))⟩) ⟨by decide, by decide, Nat.le_of_ble_eq_true rfl, Nat.le_of_ble_eq_true rfl⟩ (C109_242_7 w48s w48I ?_) (fun _ _ q => q)
    intro w49M w49s w49I w49F
    show zGo X l 3 0 0 107 32 [(0, .ref 242), (1, .ref 7), (2, .int a)] [] w49M _
    refine zs_aload_n (pc := 32) t107_32 rfl ?_
    refine zs_iconst (pc := 33) t107_33 (v := 0) (by decide) ?_
    have w50 : zIv cLo cHi (zsI w49M 242 6 (0 : Int32)) := zIv.put w49I (show 0 ≤ (0 : Int32).toInt ∧ (0 : Int32).toInt ≤ 60 from ⟨by decide, by decide⟩)
    refine zs_putI (pc := 34) t107_34 (zk1 (w49s.k fk_zMc_242)) rfl ?_
    refine zs_iconst (pc := 37) t107_37 (v := 0) (by decide) ?_
    refine zs_istore_n (pc := 38) t107_38 (ls' := [(3, .int (0 : Int32)), (0, .ref 242), (1, .ref 7), (2, .int a)]) (zml mf107 (by decide)) rfl ?_
    have w51L : ∀ (m : Nat) (w51x3 : Int32) (w51M : zM), (0 ≤ w51x3.toInt ∧ w51x3.toInt ≤ 60) → zSk zMc w51M → zIv cLo cHi w51M → zFr [(242, 254, none)] (zsI w49M 242 6 (0 : Int32)) w51M → ((zI w51M 242 6).toInt ≤ w51x3.toInt) → 60 - w51x3.toInt ≤ (m : Int) → zGo X l 3 0 0 107 39 [(0, .ref 242), (1, .ref 7), (2, .int a), (3, .int w51x3)] [] w51M Q := by
      intro m
      induction m using Nat.strongRecOn with
      | ind w51m w51ih =>
        intro w51x3 w51M w51b3 w51s w51I w51F w51t0 w51q
        refine zs_iload_n (pc := 39) t107_39 rfl ?_
        refine zs_aload_n (pc := 40) t107_40 rfl ?_
        have w52 := ib7_3 hI
        refine zs_get (pc := 41) t107_41 (by decide) (zk1 (w51s.k fk_zMc_7)) (zfvi rfl ((w51F 7 3 rfl).trans ((zIo (by decide)).trans ((w49F 7 3 rfl).trans ((w48F 7 3 rfl).trans ((zIo (by decide)).trans rfl)))))) ?_
        by_cases w53 : (zI M 7 3).toInt ≤ w51x3.toInt
        · refine zs_icmp_geT (pc := 44) t107_44 rfl rfl (by omega) ?_
          exact zs_vret (pc := 121) t107_121 mr107 (hQ _ w51s w51I ((((((zFr.refl).put rfl).trans (w48F.mono rfl)).trans (w49F.mono rfl)).put rfl).trans (w51F.mono rfl)))
        · refine zs_icmp_geF (pc := 44) t107_44 rfl rfl (by omega) ?_
          refine zs_aload_n (pc := 47) t107_47 rfl ?_
          refine zs_get (pc := 48) t107_48 (by decide) (zk1 (w51s.k fk_zMc_7)) (w51s.p rfl fv_zMc_7_4) ?_
          refine zs_iload_n (pc := 51) t107_51 rfl ?_
          obtain ⟨w54n, w54⟩ : ∃ n : Nat, w51x3.toInt = (n : Int) := ⟨w51x3.toInt.toNat, by omega⟩
          have w55 := ib10 hI w54n
          refine zs_iald (pc := 52) t107_52 (j := w54n) (by decide) (zk1 (w51s.k fk_zMc_10)) w54 (zk2 (w51s.k fk_zMc_10) (by omega)) ((w51F 10 w54n rfl).trans ((zIo (by decide)).trans ((w49F 10 w54n rfl).trans ((w48F 10 w54n rfl).trans ((zIo (by decide)).trans rfl))))) ?_
          refine zs_iload_n (pc := 53) t107_53 rfl ?_
          by_cases w56 : (zI M 10 w54n).toInt = a.toInt
          · refine zs_icmp_eqT (pc := 54) t107_54 rfl rfl (by omega) ?_
            obtain ⟨w57v, w57e, w57⟩ := ziadd (a := w51x3) (b := Int32.ofInt 1) rfl (show (Int32.ofInt 1).toInt = 1 by decide) (by omega) (by omega)
            refine zs_iinc (pc := 115) t107_115 (ls' := [(3, .int w57v), (0, .ref 242), (1, .ref 7), (2, .int a)]) (zml mf107 (by decide)) rfl (c := w57v) w57e rfl ?_
            refine zs_goto (pc := 118) t107_118 ?_
            refine zGo.locals (ls' := [(0, .ref 242), (1, .ref 7), (2, .int a), (3, .int w57v)]) (by simp) ?_
            have w58 := ib242_6 w51I
            exact w51ih (w51m - 1) (by omega) w57v w51M ⟨by omega, by omega⟩ w51s w51I ((zFr.refl).trans (w51F.mono rfl)) (by omega) (by omega)
          · refine zs_icmp_eqF (pc := 54) t107_54 rfl rfl (by omega) ?_
            refine zs_aload_n (pc := 57) t107_57 rfl ?_
            refine zs_iload_n (pc := 58) t107_58 rfl ?_
            refine zs_invV (pc := 59) (k := 7) (as' := [.int w51x3]) (st := []) t107_59 mf93 rfl rfl (Or.inl ⟨by decide, (zk1 (w51s.k fk_zMc_7))⟩) ⟨by decide, by decide, Nat.le_of_ble_eq_true rfl, Nat.le_of_ble_eq_true rfl⟩ (zs_in (by decide) mf93 (Nat.le_of_ble_eq_true rfl) ?_) (fun _ _ q => q)
            show zGo X l 1 0 0 93 0 [(0, .ref 7), (1, .int w51x3)] [] w51M _
            refine zs_aload_n (pc := 0) t93_0 rfl ?_
            refine zs_iload_n (pc := 1) t93_1 rfl ?_
            refine zs_invV (pc := 2) (k := 7) (as' := [.int w51x3]) (st := []) t93_2 mf91 rfl rfl (Or.inl ⟨by decide, (zk1 (w51s.k fk_zMc_7))⟩) ⟨by decide, by decide, Nat.le_of_ble_eq_true rfl, Nat.le_of_ble_eq_true rfl⟩ (zs_in (by decide) mf91 (Nat.le_of_ble_eq_true rfl) ?_) (fun _ _ q => q)
            show zGo X l 0 0 0 91 0 [(0, .ref 7), (1, .int w51x3)] [] w51M _
            refine zs_iload_n (pc := 0) t91_0 rfl ?_
            refine zs_if_ltF (pc := 1) t91_1 rfl (by omega) ?_
            refine zs_iload_n (pc := 4) t91_4 rfl ?_
            refine zs_aload_n (pc := 5) t91_5 rfl ?_
            refine zs_get (pc := 6) t91_6 (by decide) (zk1 (w51s.k fk_zMc_7)) (zfvi rfl ((w51F 7 3 rfl).trans ((zIo (by decide)).trans ((w49F 7 3 rfl).trans ((w48F 7 3 rfl).trans ((zIo (by decide)).trans rfl)))))) ?_
            by_cases w59 : (zI M 7 3).toInt ≤ w51x3.toInt
            · refine zs_icmp_geT (pc := 9) t91_9 rfl rfl (by omega) ?_
              refine zs_iconst (pc := 16) t91_16 (v := 0) (by decide) ?_
              refine zs_iret (pc := 17) t91_17 mr91 (by decide) ?_
              show zGo X l 1 0 0 93 5 [(0, .ref 7), (1, .int w51x3)] [.int (0 : Int32)] w51M _
              refine zs_if_eqT (pc := 5) t93_5 li0 (by decide) ?_
              refine zs_iconst (pc := 51) t93_51 (v := 0) (by decide) ?_
              refine zs_iret (pc := 52) t93_52 mr93 (by decide) ?_
              show zGo X l 3 0 0 107 62 [(0, .ref 242), (1, .ref 7), (2, .int a), (3, .int w51x3)] [.int (0 : Int32)] w51M _
              refine zs_if_eqT (pc := 62) t107_62 li0 (by decide) ?_
              obtain ⟨w60v, w60e, w60⟩ := ziadd (a := w51x3) (b := Int32.ofInt 1) rfl (show (Int32.ofInt 1).toInt = 1 by decide) (by omega) (by omega)
              refine zs_iinc (pc := 115) t107_115 (ls' := [(3, .int w60v), (0, .ref 242), (1, .ref 7), (2, .int a)]) (zml mf107 (by decide)) rfl (c := w60v) w60e rfl ?_
              refine zs_goto (pc := 118) t107_118 ?_
              refine zGo.locals (ls' := [(0, .ref 242), (1, .ref 7), (2, .int a), (3, .int w60v)]) (by simp) ?_
              have w61 := ib242_6 w51I
              exact w51ih (w51m - 1) (by omega) w60v w51M ⟨by omega, by omega⟩ w51s w51I ((zFr.refl).trans (w51F.mono rfl)) (by omega) (by omega)
            · refine zs_icmp_geF (pc := 9) t91_9 rfl rfl (by omega) ?_
              refine zs_iconst (pc := 12) t91_12 (v := 1) (by decide) ?_
              refine zs_goto (pc := 13) t91_13 ?_
              refine zs_iret (pc := 17) t91_17 mr91 (by decide) ?_
              show zGo X l 1 0 0 93 5 [(0, .ref 7), (1, .int w51x3)] [.int (1 : Int32)] w51M _
              refine zs_if_eqF (pc := 5) t93_5 li1 (by decide) ?_
              refine zs_aload_n (pc := 8) t93_8 rfl ?_
              refine zs_get (pc := 9) t93_9 (by decide) (zk1 (w51s.k fk_zMc_7)) (w51s.p rfl fv_zMc_7_2) ?_
              refine zs_aload_n (pc := 12) t93_12 rfl ?_
              refine zs_get (pc := 13) t93_13 (by decide) (zk1 (w51s.k fk_zMc_7)) (w51s.p rfl fv_zMc_7_4) ?_
              refine zs_iload_n (pc := 16) t93_16 rfl ?_
              refine zs_iald (pc := 17) t93_17 (j := w54n) (by decide) (zk1 (w51s.k fk_zMc_10)) w54 (zk2 (w51s.k fk_zMc_10) (by omega)) ((w51F 10 w54n rfl).trans ((zIo (by decide)).trans ((w49F 10 w54n rfl).trans ((w48F 10 w54n rfl).trans ((zIo (by decide)).trans rfl))))) ?_
              obtain ⟨w62n, w62⟩ : ∃ n : Nat, (zI M 10 w54n).toInt = (n : Int) := ⟨(zI M 10 w54n).toInt.toNat, by omega⟩
              have w63 := ib9 hI w62n
              refine zs_bald (pc := 18) t93_18 (j := w62n) (Or.inr (zk1 (w51s.k fk_zMc_9))) w62 (zk2 (w51s.k fk_zMc_9) (by omega)) ((w51F 9 w62n rfl).trans ((zIo (by decide)).trans ((w49F 9 w62n rfl).trans ((w48F 9 w62n rfl).trans ((zIo (by decide)).trans rfl))))) ?_
              by_cases w64 : (zI M 9 w62n).toInt = 0
              · refine zs_if_eqT (pc := 19) t93_19 rfl (by omega) ?_
                refine zs_iconst (pc := 51) t93_51 (v := 0) (by decide) ?_
                refine zs_iret (pc := 52) t93_52 mr93 (by decide) ?_
                show zGo X l 3 0 0 107 62 [(0, .ref 242), (1, .ref 7), (2, .int a), (3, .int w51x3)] [.int (0 : Int32)] w51M _
                refine zs_if_eqT (pc := 62) t107_62 li0 (by decide) ?_
                obtain ⟨w65v, w65e, w65⟩ := ziadd (a := w51x3) (b := Int32.ofInt 1) rfl (show (Int32.ofInt 1).toInt = 1 by decide) (by omega) (by omega)
                refine zs_iinc (pc := 115) t107_115 (ls' := [(3, .int w65v), (0, .ref 242), (1, .ref 7), (2, .int a)]) (zml mf107 (by decide)) rfl (c := w65v) w65e rfl ?_
                refine zs_goto (pc := 118) t107_118 ?_
                refine zGo.locals (ls' := [(0, .ref 242), (1, .ref 7), (2, .int a), (3, .int w65v)]) (by simp) ?_
                have w66 := ib242_6 w51I
                exact w51ih (w51m - 1) (by omega) w65v w51M ⟨by omega, by omega⟩ w51s w51I ((zFr.refl).trans (w51F.mono rfl)) (by omega) (by omega)
              · refine zs_if_eqF (pc := 19) t93_19 rfl (by omega) ?_
                refine zs_aload_n (pc := 22) t93_22 rfl ?_
                refine zs_get (pc := 23) t93_23 (by decide) (zk1 (w51s.k fk_zMc_7)) (w51s.p rfl fv_zMc_7_6) ?_
                refine zs_iload_n (pc := 26) t93_26 rfl ?_
                have w67 := ib12 hI w54n
                refine zs_iald (pc := 27) t93_27 (j := w54n) (by decide) (zk1 (w51s.k fk_zMc_12)) w54 (zk2 (w51s.k fk_zMc_12) (by omega)) ((w51F 12 w54n rfl).trans ((zIo (by decide)).trans ((w49F 12 w54n rfl).trans ((w48F 12 w54n rfl).trans ((zIo (by decide)).trans rfl))))) ?_
                refine zs_aload_n (pc := 28) t93_28 rfl ?_
                refine zs_get (pc := 29) t93_29 (by decide) (zk1 (w51s.k fk_zMc_7)) (w51s.p rfl fv_zMc_7_12) ?_
                refine zs_iconst (pc := 32) t93_32 (v := 5) (by decide) ?_
                have w68 := ib17 hI 5
                refine zs_iald (pc := 33) t93_33 (j := 5) (by decide) (zk1 (w51s.k fk_zMc_17)) li5 (zk2 (w51s.k fk_zMc_17) (by decide)) ((w51F 17 5 rfl).trans ((zIo (by decide)).trans ((w49F 17 5 rfl).trans ((w48F 17 5 rfl).trans ((zIo (by decide)).trans rfl))))) ?_
                refine zs_aload_n (pc := 34) t93_34 rfl ?_
                refine zs_get (pc := 35) t93_35 (by decide) (zk1 (w51s.k fk_zMc_7)) (w51s.p rfl fv_zMc_7_12) ?_
                refine zs_bipush (pc := 38) t93_38 (v := 6) (by decide) ?_
                have w69 := ib17 hI 6
                refine zs_iald (pc := 40) t93_40 (j := 6) (by decide) (zk1 (w51s.k fk_zMc_17)) li6 (zk2 (w51s.k fk_zMc_17) (by decide)) ((w51F 17 6 rfl).trans ((zIo (by decide)).trans ((w49F 17 6 rfl).trans ((w48F 17 6 rfl).trans ((zIo (by decide)).trans rfl))))) ?_
                refine zs_invS (pc := 41) (as := [.int (zI M 12 w54n), .int (zI M 17 5), .int (zI M 17 6)]) (st := []) t93_41 (by decide) mf39 rfl rfl ⟨by decide, by decide, Nat.le_of_ble_eq_true rfl, Nat.le_of_ble_eq_true rfl⟩ (zs_in (by decide) mf39 (Nat.le_of_ble_eq_true rfl) ?_) (fun _ _ q => q)
                show zGo X l 0 0 0 39 0 [(0, .int (zI M 12 w54n)), (1, .int (zI M 17 5)), (2, .int (zI M 17 6))] [] w51M _
                refine zs_iload_n (pc := 0) t39_0 rfl ?_
                refine zs_iload_n (pc := 1) t39_1 rfl ?_
                by_cases w70 : (zI M 12 w54n).toInt < (zI M 17 5).toInt
                · refine zs_icmp_ltT (pc := 2) t39_2 rfl rfl (by omega) ?_
                  refine zs_iconst (pc := 14) t39_14 (v := 0) (by decide) ?_
                  refine zs_iret (pc := 15) t39_15 mr39 (by decide) ?_
                  show zGo X l 1 0 0 93 44 [(0, .ref 7), (1, .int w51x3)] [.int (0 : Int32)] w51M _
                  refine zs_if_eqT (pc := 44) t93_44 li0 (by decide) ?_
                  refine zs_iconst (pc := 51) t93_51 (v := 0) (by decide) ?_
                  refine zs_iret (pc := 52) t93_52 mr93 (by decide) ?_
                  show zGo X l 3 0 0 107 62 [(0, .ref 242), (1, .ref 7), (2, .int a), (3, .int w51x3)] [.int (0 : Int32)] w51M _
                  refine zs_if_eqT (pc := 62) t107_62 li0 (by decide) ?_
                  obtain ⟨w71v, w71e, w71⟩ := ziadd (a := w51x3) (b := Int32.ofInt 1) rfl (show (Int32.ofInt 1).toInt = 1 by decide) (by omega) (by omega)
                  refine zs_iinc (pc := 115) t107_115 (ls' := [(3, .int w71v), (0, .ref 242), (1, .ref 7), (2, .int a)]) (zml mf107 (by decide)) rfl (c := w71v) w71e rfl ?_
                  refine zs_goto (pc := 118) t107_118 ?_
                  refine zGo.locals (ls' := [(0, .ref 242), (1, .ref 7), (2, .int a), (3, .int w71v)]) (by simp) ?_
                  have w72 := ib242_6 w51I
                  exact w51ih (w51m - 1) (by omega) w71v w51M ⟨by omega, by omega⟩ w51s w51I ((zFr.refl).trans (w51F.mono rfl)) (by omega) (by omega)
                · refine zs_icmp_ltF (pc := 2) t39_2 rfl rfl (by omega) ?_
                  refine zs_iload_n (pc := 5) t39_5 rfl ?_
                  refine zs_iload_n (pc := 6) t39_6 rfl ?_
                  by_cases w73 : (zI M 17 6).toInt < (zI M 12 w54n).toInt
                  · refine zs_icmp_gtT (pc := 7) t39_7 rfl rfl (by omega) ?_
                    refine zs_iconst (pc := 14) t39_14 (v := 0) (by decide) ?_
                    refine zs_iret (pc := 15) t39_15 mr39 (by decide) ?_
                    show zGo X l 1 0 0 93 44 [(0, .ref 7), (1, .int w51x3)] [.int (0 : Int32)] w51M _
                    refine zs_if_eqT (pc := 44) t93_44 li0 (by decide) ?_
                    refine zs_iconst (pc := 51) t93_51 (v := 0) (by decide) ?_
                    refine zs_iret (pc := 52) t93_52 mr93 (by decide) ?_
                    show zGo X l 3 0 0 107 62 [(0, .ref 242), (1, .ref 7), (2, .int a), (3, .int w51x3)] [.int (0 : Int32)] w51M _
                    refine zs_if_eqT (pc := 62) t107_62 li0 (by decide) ?_
                    obtain ⟨w74v, w74e, w74⟩ := ziadd (a := w51x3) (b := Int32.ofInt 1) rfl (show (Int32.ofInt 1).toInt = 1 by decide) (by omega) (by omega)
                    refine zs_iinc (pc := 115) t107_115 (ls' := [(3, .int w74v), (0, .ref 242), (1, .ref 7), (2, .int a)]) (zml mf107 (by decide)) rfl (c := w74v) w74e rfl ?_
                    refine zs_goto (pc := 118) t107_118 ?_
                    refine zGo.locals (ls' := [(0, .ref 242), (1, .ref 7), (2, .int a), (3, .int w74v)]) (by simp) ?_
                    have w75 := ib242_6 w51I
                    exact w51ih (w51m - 1) (by omega) w74v w51M ⟨by omega, by omega⟩ w51s w51I ((zFr.refl).trans (w51F.mono rfl)) (by omega) (by omega)
                  · refine zs_icmp_gtF (pc := 7) t39_7 rfl rfl (by omega) ?_
                    refine zs_iconst (pc := 10) t39_10 (v := 1) (by decide) ?_
                    refine zs_goto (pc := 11) t39_11 ?_
                    refine zs_iret (pc := 15) t39_15 mr39 (by decide) ?_
                    show zGo X l 1 0 0 93 44 [(0, .ref 7), (1, .int w51x3)] [.int (1 : Int32)] w51M _
                    refine zs_if_eqF (pc := 44) t93_44 li1 (by decide) ?_
                    refine zs_iconst (pc := 47) t93_47 (v := 1) (by decide) ?_
                    refine zs_goto (pc := 48) t93_48 ?_
                    refine zs_iret (pc := 52) t93_52 mr93 (by decide) ?_
                    show zGo X l 3 0 0 107 62 [(0, .ref 242), (1, .ref 7), (2, .int a), (3, .int w51x3)] [.int (1 : Int32)] w51M _
                    refine zs_if_eqF (pc := 62) t107_62 li1 (by decide) ?_
                    refine zs_aload_n (pc := 65) t107_65 rfl ?_
                    refine zs_get (pc := 66) t107_66 (by decide) (zk1 (w51s.k fk_zMc_242)) (w51s.p rfl fv_zMc_242_7) ?_
                    refine zs_aload_n (pc := 69) t107_69 rfl ?_
                    have w76 := ib242_6 w51I
                    refine zs_get (pc := 70) t107_70 (by decide) (zk1 (w51s.k fk_zMc_242)) (zfvi rfl rfl) ?_
                    refine zs_iload_n (pc := 73) t107_73 rfl ?_
                    obtain ⟨w77n, w77⟩ : ∃ n : Nat, (zI w51M 242 6).toInt = (n : Int) := ⟨(zI w51M 242 6).toInt.toNat, by omega⟩
                    have w78 : zIv cLo cHi (zsI w51M 247 w77n w51x3) := zIv.put w51I (show 0 ≤ w51x3.toInt ∧ w51x3.toInt ≤ 59 from ⟨by omega, by omega⟩)
                    refine zs_iast (pc := 74) t107_74 (j := w77n) (by decide) (zk1 (w51s.k fk_zMc_247)) w77 (zk2 (w51s.k fk_zMc_247) (by omega)) ?_
                    refine zs_aload_n (pc := 75) t107_75 rfl ?_
                    refine zs_get (pc := 76) t107_76 (by decide) (zk1 (w51s.k fk_zMc_242)) (w51s.p rfl fv_zMc_242_8) ?_
                    refine zs_aload_n (pc := 79) t107_79 rfl ?_
                    refine zs_get (pc := 80) t107_80 (by decide) (zk1 (w51s.k fk_zMc_242)) (zfvi rfl ((zIo (by decide)).trans rfl)) ?_
                    refine zs_aload_n (pc := 83) t107_83 rfl ?_
                    refine zs_get (pc := 84) t107_84 (by decide) (zk1 (w51s.k fk_zMc_7)) (w51s.p rfl fv_zMc_7_4) ?_
                    refine zs_iload_n (pc := 87) t107_87 rfl ?_
                    refine zs_iald (pc := 88) t107_88 (j := w54n) (by decide) (zk1 (w51s.k fk_zMc_10)) w54 (zk2 (w51s.k fk_zMc_10) (by omega)) ((zIo (by decide)).trans ((w51F 10 w54n rfl).trans ((zIo (by decide)).trans ((w49F 10 w54n rfl).trans ((w48F 10 w54n rfl).trans ((zIo (by decide)).trans rfl)))))) ?_
                    have w79 : zIv cLo cHi (zsI (zsI w51M 247 w77n w51x3) 248 w77n (zI M 10 w54n)) := zIv.put w78 (show 0 ≤ (zI M 10 w54n).toInt ∧ (zI M 10 w54n).toInt ≤ 7 from ⟨by omega, by omega⟩)
                    refine zs_iast (pc := 89) t107_89 (j := w77n) (by decide) (zk1 (w51s.k fk_zMc_248)) w77 (zk2 (w51s.k fk_zMc_248) (by omega)) ?_
                    refine zs_aload_n (pc := 90) t107_90 rfl ?_
                    refine zs_get (pc := 91) t107_91 (by decide) (zk1 (w51s.k fk_zMc_242)) (w51s.p rfl fv_zMc_242_9) ?_
                    refine zs_aload_n (pc := 94) t107_94 rfl ?_
                    refine zs_get (pc := 95) t107_95 (by decide) (zk1 (w51s.k fk_zMc_242)) (zfvi rfl ((zIo (by decide)).trans ((zIo (by decide)).trans rfl))) ?_
                    refine zs_aload_n (pc := 98) t107_98 rfl ?_
                    refine zs_get (pc := 99) t107_99 (by decide) (zk1 (w51s.k fk_zMc_7)) (w51s.p rfl fv_zMc_7_5) ?_
                    refine zs_iload_n (pc := 102) t107_102 rfl ?_
                    have w80 := ib11 hI w54n
                    refine zs_iald (pc := 103) t107_103 (j := w54n) (by decide) (zk1 (w51s.k fk_zMc_11)) w54 (zk2 (w51s.k fk_zMc_11) (by omega)) ((zIo (by decide)).trans ((zIo (by decide)).trans ((w51F 11 w54n rfl).trans ((zIo (by decide)).trans ((w49F 11 w54n rfl).trans ((w48F 11 w54n rfl).trans ((zIo (by decide)).trans rfl))))))) ?_
                    have w81 : zIv cLo cHi (zsI (zsI (zsI w51M 247 w77n w51x3) 248 w77n (zI M 10 w54n)) 249 w77n (zI M 11 w54n)) := zIv.put w79 (show (-2147483648) ≤ (zI M 11 w54n).toInt ∧ (zI M 11 w54n).toInt ≤ 2147483647 from (zrg (zI M 11 w54n)))
                    refine zs_iast (pc := 104) t107_104 (j := w77n) (by decide) (zk1 (w51s.k fk_zMc_249)) w77 (zk2 (w51s.k fk_zMc_249) (by omega)) ?_
                    refine zs_aload_n (pc := 105) t107_105 rfl ?_
                    refine zs_dup (pc := 106) t107_106 rfl ?_
                    refine zs_get (pc := 107) t107_107 (by decide) (zk1 (w51s.k fk_zMc_242)) (zfvi rfl ((zIo (by decide)).trans ((zIo (by decide)).trans ((zIo (by decide)).trans rfl)))) ?_
                    refine zs_iconst (pc := 110) t107_110 (v := 1) (by decide) ?_
                    obtain ⟨w82v, w82e, w82⟩ := ziadd (a := (zI w51M 242 6)) (b := (1 : Int32)) rfl li1 (by omega) (by omega)
                    refine zs_iadd (pc := 111) t107_111 (c := w82v) w82e ?_
                    have w83 : zIv cLo cHi (zsI (zsI (zsI (zsI w51M 247 w77n w51x3) 248 w77n (zI M 10 w54n)) 249 w77n (zI M 11 w54n)) 242 6 w82v) := zIv.put w81 (show 0 ≤ w82v.toInt ∧ w82v.toInt ≤ 60 from ⟨by omega, by omega⟩)
                    refine zs_putI (pc := 112) t107_112 (zk1 (w51s.k fk_zMc_242)) rfl ?_
                    obtain ⟨w84v, w84e, w84⟩ := ziadd (a := w51x3) (b := Int32.ofInt 1) rfl (show (Int32.ofInt 1).toInt = 1 by decide) (by omega) (by omega)
                    refine zs_iinc (pc := 115) t107_115 (ls' := [(3, .int w84v), (0, .ref 242), (1, .ref 7), (2, .int a)]) (zml mf107 (by decide)) rfl (c := w84v) w84e rfl ?_
                    refine zs_goto (pc := 118) t107_118 ?_
                    refine zGo.locals (ls' := [(0, .ref 242), (1, .ref 7), (2, .int a), (3, .int w84v)]) (by simp) ?_
                    exact w51ih (w51m - 1) (by omega) w84v (zsI (zsI (zsI (zsI w51M 247 w77n w51x3) 248 w77n (zI M 10 w54n)) 249 w77n (zI M 11 w54n)) 242 6 w82v) ⟨by omega, by omega⟩ w51s w83 ((((((zFr.refl).trans (w51F.mono rfl)).put rfl).put rfl).put rfl).put rfl) (by rw [show zI (zsI (zsI (zsI (zsI w51M 247 w77n w51x3) 248 w77n (zI M 10 w54n)) 249 w77n (zI M 11 w54n)) 242 6 w82v) 242 6 = w82v from zIs]; omega) (by omega)
    refine zGo.locals (ls' := [(0, .ref 242), (1, .ref 7), (2, .int a), (3, .int (0 : Int32))]) (by simp) ?_
    have w85 := li0
    have w86 := li0
    exact w51L ((60 - 0 : Int).toNat) (0 : Int32) (zsI w49M 242 6 (0 : Int32)) ⟨by decide, by decide⟩ w49s w50 zFr.refl (by rw [show zI (zsI w49M 242 6 (0 : Int32)) 242 6 = (0 : Int32) from zIs]; omega) (by omega)
theorem C112_242 {X : zX} {l : Launch} {M : zM} {Q : Option Value → zM → Prop} (hs : zSk zMc M) (hI : zIv cLo cHi M) (hQ : ∀ v : Int32, (-2147483648) ≤ v.toInt → v.toInt ≤ 2147483647 → Q (some (.int v)) M) : zCall X l 1 0 0 112 [.ref 242] M Q := by
  refine zs_in (by decide) mf112 (Nat.le_of_ble_eq_true rfl) ?_
  show zGo X l 1 0 0 112 0 [(0, .ref 242)] [] M _
  refine zs_iconst (pc := 0) t112_0 (v := 0) (by decide) ?_
  refine zs_istore_n (pc := 1) t112_1 (ls' := [(1, .int (0 : Int32)), (0, .ref 242)]) (zml mf112 (by decide)) rfl ?_
  refine zs_iconst (pc := 2) t112_2 (v := 0) (by decide) ?_
  refine zs_istore_n (pc := 3) t112_3 (ls' := [(2, .int (0 : Int32)), (1, .int (0 : Int32)), (0, .ref 242)]) (zml mf112 (by decide)) rfl ?_
  have w1L : ∀ (m : Nat) (w1x1 : Int32) (w1x2 : Int32), (0 ≤ w1x2.toInt ∧ w1x2.toInt ≤ 60) → 60 - w1x2.toInt ≤ (m : Int) → zGo X l 1 0 0 112 4 [(0, .ref 242), (1, .int w1x1), (2, .int w1x2)] [] M Q := by
    intro m
    induction m using Nat.strongRecOn with
    | ind w1m w1ih =>
      intro w1x1 w1x2 w1b2 w1q
      have w1g1 := zrg w1x1
      refine zs_iload_n (pc := 4) t112_4 rfl ?_
      refine zs_aload_n (pc := 5) t112_5 rfl ?_
      have w2 := ib242_6 hI
      refine zs_get (pc := 6) t112_6 (by decide) (zk1 (hs.k fk_zMc_242)) (zfvi rfl rfl) ?_
      by_cases w3 : (zI M 242 6).toInt ≤ w1x2.toInt
      · refine zs_icmp_geT (pc := 9) t112_9 rfl rfl (by omega) ?_
        refine zs_iload_n (pc := 29) t112_29 rfl ?_
        refine zs_invS (pc := 30) (as := [.int w1x1]) (st := []) t112_30 (by decide) mf113 rfl rfl ⟨by decide, by decide, Nat.le_of_ble_eq_true rfl, Nat.le_of_ble_eq_true rfl⟩ (C113 hs hI ?_) (fun _ _ q => q)
        intro w4v w4a w4b
        show zGo X l 1 0 0 112 33 [(0, .ref 242), (1, .int w1x1), (2, .int w1x2)] [.int w4v] M _
        exact zs_iret (pc := 33) t112_33 mr112 rfl (hQ _ (zrg _).1 (zrg _).2)
      · refine zs_icmp_geF (pc := 9) t112_9 rfl rfl (by omega) ?_
        refine zs_iload_n (pc := 12) t112_12 rfl ?_
        refine zs_iconst (pc := 13) t112_13 (v := 1) (by decide) ?_
        refine zs_aload_n (pc := 14) t112_14 rfl ?_
        refine zs_get (pc := 15) t112_15 (by decide) (zk1 (hs.k fk_zMc_242)) (hs.p rfl fv_zMc_242_8) ?_
        refine zs_iload_n (pc := 18) t112_18 rfl ?_
        obtain ⟨w5n, w5⟩ : ∃ n : Nat, w1x2.toInt = (n : Int) := ⟨w1x2.toInt.toNat, by omega⟩
        have w6 := ib248 hI w5n
        refine zs_iald (pc := 19) t112_19 (j := w5n) (by decide) (zk1 (hs.k fk_zMc_248)) w5 (zk2 (hs.k fk_zMc_248) (by omega)) rfl ?_
        obtain ⟨w7v, w7⟩ : ∃ v, (1 : Int32) <<< ((zI M 248 w5n) &&& 31) = v := ⟨_, rfl⟩
        have w7g := zrg w7v
        refine zs_ishl (pc := 20) t112_20 (c := w7v) w7 ?_
        obtain ⟨w8v, w8⟩ : ∃ v, w1x1 ||| w7v = v := ⟨_, rfl⟩
        have w8g := zrg w8v
        refine zs_ior (pc := 21) t112_21 (c := w8v) w8 ?_
        refine zs_istore_n (pc := 22) t112_22 (ls' := [(1, .int w8v), (0, .ref 242), (2, .int w1x2)]) (zml mf112 (by decide)) rfl ?_
        obtain ⟨w9v, w9e, w9⟩ := ziadd (a := w1x2) (b := Int32.ofInt 1) rfl (show (Int32.ofInt 1).toInt = 1 by decide) (by omega) (by omega)
        refine zs_iinc (pc := 23) t112_23 (ls' := [(2, .int w9v), (1, .int w8v), (0, .ref 242)]) (zml mf112 (by decide)) rfl (c := w9v) w9e rfl ?_
        refine zs_goto (pc := 26) t112_26 ?_
        refine zGo.locals (ls' := [(0, .ref 242), (1, .int w8v), (2, .int w9v)]) (by simp) ?_
        exact w1ih (w1m - 1) (by omega) w8v w9v ⟨by omega, by omega⟩ (by omega)
  refine zGo.locals (ls' := [(0, .ref 242), (1, .int (0 : Int32)), (2, .int (0 : Int32))]) (by simp) ?_
  have w10 := li0
  have w11 := li0
  exact w1L ((60 - 0 : Int).toNat) (0 : Int32) (0 : Int32) ⟨by decide, by decide⟩ (by omega)
theorem C114_242 {X : zX} {l : Launch} {M : zM} {Q : Option Value → zM → Prop} {a : Int32} (hs : zSk zMc M) (hI : zIv cLo cHi M) (hQ : ∀ M', zSk zMc M' → zIv cLo cHi M' → zFr [(242, 254, none)] M M' → Q none M') : zCall X l 1 0 0 114 [.ref 242, .int a] M Q := by
  have ga := zrg a
  refine zs_in (by decide) mf114 (Nat.le_of_ble_eq_true rfl) ?_
  show zGo X l 1 0 0 114 0 [(0, .ref 242), (1, .int a)] [] M _
  refine zs_aload_n (pc := 0) t114_0 rfl ?_
  refine zs_iload_n (pc := 1) t114_1 rfl ?_
  refine zs_invV (pc := 2) (k := 242) (as' := [.int a]) (st := []) t114_2 mf115 rfl rfl (Or.inl ⟨by decide, (zk1 (hs.k fk_zMc_242))⟩) ⟨by decide, by decide, Nat.le_of_ble_eq_true rfl, Nat.le_of_ble_eq_true rfl⟩ (zs_in (by decide) mf115 (Nat.le_of_ble_eq_true rfl) ?_) (fun _ _ q => q)
  show zGo X l 0 0 0 115 0 [(0, .ref 242), (1, .int a)] [] M _
  refine zs_iload_n (pc := 0) t115_0 rfl ?_
  by_cases w1 : a.toInt < 0
  · refine zs_if_ltT (pc := 1) t115_1 rfl (by omega) ?_
    refine zs_iconst (pc := 21) t115_21 (v := 0) (by decide) ?_
    refine zs_iret (pc := 22) t115_22 mr115 (by decide) ?_
    show zGo X l 1 0 0 114 5 [(0, .ref 242), (1, .int a)] [.int (0 : Int32)] M _
    refine zs_iconst (pc := 5) t114_5 (v := 3) (by decide) ?_
    refine zs_iadd (pc := 6) t114_6 (c := 3) (by decide) ?_
    refine zs_bipush (pc := 7) t114_7 (v := 8) (by decide) ?_
    refine zs_imul (pc := 9) t114_9 (c := 24) (by decide) ?_
    refine zs_istore_n (pc := 10) t114_10 (ls' := [(2, .int (24 : Int32)), (0, .ref 242), (1, .int a)]) (zml mf114 (by decide)) rfl ?_
    refine zs_aload_n (pc := 11) t114_11 rfl ?_
    refine zs_iload_n (pc := 12) t114_12 rfl ?_
    refine zs_invV (pc := 13) (k := 242) (as' := [.int a]) (st := []) t114_13 mf116 rfl rfl (Or.inl ⟨by decide, (zk1 (hs.k fk_zMc_242))⟩) ⟨by decide, by decide, Nat.le_of_ble_eq_true rfl, Nat.le_of_ble_eq_true rfl⟩ (zs_in (by decide) mf116 (Nat.le_of_ble_eq_true rfl) ?_) (fun _ _ q => q)
    show zGo X l 0 0 0 116 0 [(0, .ref 242), (1, .int a)] [] M _
    refine zs_iload_n (pc := 0) t116_0 rfl ?_
    refine zs_if_ltT (pc := 1) t116_1 rfl (by omega) ?_
    refine zs_iconst (pc := 21) t116_21 (v := 0) (by decide) ?_
    refine zs_iret (pc := 22) t116_22 mr116 (by decide) ?_
    show zGo X l 1 0 0 114 16 [(2, .int (24 : Int32)), (0, .ref 242), (1, .int a)] [.int (0 : Int32)] M _
    refine zs_bipush (pc := 16) t114_16 (v := 20) (by decide) ?_
    refine zs_iadd (pc := 18) t114_18 (c := 20) (by decide) ?_
    refine zs_bipush (pc := 19) t114_19 (v := 8) (by decide) ?_
    refine zs_imul (pc := 21) t114_21 (c := 160) (by decide) ?_
    refine zs_istore_n (pc := 22) t114_22 (ls' := [(3, .int (160 : Int32)), (2, .int (24 : Int32)), (0, .ref 242), (1, .int a)]) (zml mf114 (by decide)) rfl ?_
    refine zs_aload_n (pc := 23) t114_23 rfl ?_
    refine zs_dup (pc := 24) t114_24 rfl ?_
    have w2 := ib242_10 hI
    refine zs_get (pc := 25) t114_25 (by decide) (zk1 (hs.k fk_zMc_242)) (zfvi rfl rfl) ?_
    refine zs_iconst (pc := 28) t114_28 (v := 1) (by decide) ?_
    obtain ⟨w3v, w3⟩ : ∃ v, v = (zI M 242 10) + (1 : Int32) := ⟨_, rfl⟩
    have w3g := zrg w3v
    refine zs_iadd (pc := 29) t114_29 (c := w3v) w3.symm ?_
    have w4 : zIv cLo cHi (zsI M 242 10 w3v) := zIv.put hI (show (-2147483648) ≤ w3v.toInt ∧ w3v.toInt ≤ 2147483647 from (zrg w3v))
    refine zs_putI (pc := 30) t114_30 (zk1 (hs.k fk_zMc_242)) rfl ?_
    refine zs_aload_n (pc := 33) t114_33 rfl ?_
    refine zs_iconst (pc := 34) t114_34 (v := 0) (by decide) ?_
    have w5 : zIv cLo cHi (zsI (zsI M 242 10 w3v) 242 15 (0 : Int32)) := zIv.put w4 (show 0 ≤ (0 : Int32).toInt ∧ (0 : Int32).toInt ≤ 60 from ⟨by decide, by decide⟩)
    refine zs_putI (pc := 35) t114_35 (zk1 (hs.k fk_zMc_242)) rfl ?_
    refine zs_aload_n (pc := 38) t114_38 rfl ?_
    refine zs_iconst (pc := 39) t114_39 (v := 0) (by decide) ?_
    have w6 : zIv cLo cHi (zsI (zsI (zsI M 242 10 w3v) 242 15 (0 : Int32)) 242 17 (0 : Int32)) := zIv.put w5 (show (-2147483648) ≤ (0 : Int32).toInt ∧ (0 : Int32).toInt ≤ 2147483647 from (zrg (0 : Int32)))
    refine zs_putI (pc := 40) t114_40 (zk1 (hs.k fk_zMc_242)) rfl ?_
    refine zs_aload_n (pc := 43) t114_43 rfl ?_
    refine zs_iconst (pc := 44) t114_44 (v := 0) (by decide) ?_
    have w7 : zIv cLo cHi (zsI (zsI (zsI (zsI M 242 10 w3v) 242 15 (0 : Int32)) 242 17 (0 : Int32)) 242 18 (0 : Int32)) := zIv.put w6 (show (-2147483648) ≤ (0 : Int32).toInt ∧ (0 : Int32).toInt ≤ 2147483647 from (zrg (0 : Int32)))
    refine zs_putI (pc := 45) t114_45 (zk1 (hs.k fk_zMc_242)) rfl ?_
    refine zs_iconst (pc := 48) t114_48 (v := 0) (by decide) ?_
    refine zs_istore (pc := 49) t114_49 (ls' := [(4, .int (0 : Int32)), (3, .int (160 : Int32)), (2, .int (24 : Int32)), (0, .ref 242), (1, .int a)]) (zml mf114 (by decide)) rfl ?_
    have w8L : ∀ (m : Nat) (w8x4 : Int32) (w8M : zM), (0 ≤ w8x4.toInt ∧ w8x4.toInt ≤ 60) → zSk zMc w8M → zIv cLo cHi w8M → zFr [(242, 254, none)] (zsI (zsI (zsI (zsI M 242 10 w3v) 242 15 (0 : Int32)) 242 17 (0 : Int32)) 242 18 (0 : Int32)) w8M → 60 - w8x4.toInt ≤ (m : Int) → zGo X l 1 0 0 114 51 [(0, .ref 242), (1, .int a), (2, .int (24 : Int32)), (3, .int (160 : Int32)), (4, .int w8x4)] [] w8M Q := by
      intro m
      induction m using Nat.strongRecOn with
      | ind w8m w8ih =>
        intro w8x4 w8M w8b4 w8s w8I w8F w8q
        refine zs_iload (pc := 51) t114_51 rfl ?_
        refine zs_aload_n (pc := 53) t114_53 rfl ?_
        have w9 := ib242_6 w8I
        refine zs_get (pc := 54) t114_54 (by decide) (zk1 (w8s.k fk_zMc_242)) (zfvi rfl rfl) ?_
        by_cases w10 : (zI w8M 242 6).toInt ≤ w8x4.toInt
        · refine zs_icmp_geT (pc := 57) t114_57 rfl rfl (by omega) ?_
          exact zs_vret (pc := 214) t114_214 mr114 (hQ _ w8s w8I ((((((zFr.refl).put rfl).put rfl).put rfl).put rfl).trans (w8F.mono rfl)))
        · refine zs_icmp_geF (pc := 57) t114_57 rfl rfl (by omega) ?_
          refine zs_aload_n (pc := 60) t114_60 rfl ?_
          refine zs_get (pc := 61) t114_61 (by decide) (zk1 (w8s.k fk_zMc_242)) (w8s.p rfl fv_zMc_242_8) ?_
          refine zs_iload (pc := 64) t114_64 rfl ?_
          obtain ⟨w11n, w11⟩ : ∃ n : Nat, w8x4.toInt = (n : Int) := ⟨w8x4.toInt.toNat, by omega⟩
          have w12 := ib248 w8I w11n
          refine zs_iald (pc := 66) t114_66 (j := w11n) (by decide) (zk1 (w8s.k fk_zMc_248)) w11 (zk2 (w8s.k fk_zMc_248) (by omega)) rfl ?_
          refine zs_istore (pc := 67) t114_67 (ls' := [(5, .int (zI w8M 248 w11n)), (0, .ref 242), (1, .int a), (2, .int (24 : Int32)), (3, .int (160 : Int32)), (4, .int w8x4)]) (zml mf114 (by decide)) rfl ?_
          refine zs_aload_n (pc := 69) t114_69 rfl ?_
          refine zs_get (pc := 70) t114_70 (by decide) (zk1 (w8s.k fk_zMc_242)) (w8s.p rfl fv_zMc_242_9) ?_
          refine zs_iload (pc := 73) t114_73 rfl ?_
          have w13 := ib249 w8I w11n
          refine zs_iald (pc := 75) t114_75 (j := w11n) (by decide) (zk1 (w8s.k fk_zMc_249)) w11 (zk2 (w8s.k fk_zMc_249) (by omega)) rfl ?_
          refine zs_aload_n (pc := 76) t114_76 rfl ?_
          refine zs_get (pc := 77) t114_77 (by decide) (zk1 (w8s.k fk_zMc_242)) (w8s.p rfl fv_zMc_242_3) ?_
          refine zs_iload_n (pc := 80) t114_80 rfl ?_
          refine zs_iload (pc := 81) t114_81 rfl ?_
          obtain ⟨w14v, w14e, w14⟩ := ziadd (a := (24 : Int32)) (b := (zI w8M 248 w11n)) li24 rfl (by omega) (by omega)
          refine zs_iadd (pc := 83) t114_83 (c := w14v) w14e ?_
          obtain ⟨w15n, w15⟩ : ∃ n : Nat, w14v.toInt = (n : Int) := ⟨w14v.toInt.toNat, by omega⟩
          have w16 := ib245 w8I w15n
          refine zs_iald (pc := 84) t114_84 (j := w15n) (by decide) (zk1 (w8s.k fk_zMc_245)) w15 (zk2 (w8s.k fk_zMc_245) (by omega)) rfl ?_
          obtain ⟨w17v, w17⟩ : ∃ v, v = (zI w8M 249 w11n) - (zI w8M 245 w15n) := ⟨_, rfl⟩
          have w17g := zrg w17v
          refine zs_isub (pc := 85) t114_85 (c := w17v) w17.symm ?_
          refine zs_aload_n (pc := 86) t114_86 rfl ?_
          refine zs_get (pc := 87) t114_87 (by decide) (zk1 (w8s.k fk_zMc_242)) (w8s.p rfl fv_zMc_242_4) ?_
          refine zs_iload_n (pc := 90) t114_90 rfl ?_
          refine zs_iload (pc := 91) t114_91 rfl ?_
          obtain ⟨w18v, w18e, w18⟩ := ziadd (a := (160 : Int32)) (b := (zI w8M 248 w11n)) li160 rfl (by omega) (by omega)
          refine zs_iadd (pc := 93) t114_93 (c := w18v) w18e ?_
          obtain ⟨w19n, w19⟩ : ∃ n : Nat, w18v.toInt = (n : Int) := ⟨w18v.toInt.toNat, by omega⟩
          have w20 := ib246 w8I w19n
          refine zs_iald (pc := 94) t114_94 (j := w19n) (by decide) (zk1 (w8s.k fk_zMc_246)) w19 (zk2 (w8s.k fk_zMc_246) (by omega)) rfl ?_
          obtain ⟨w21v, w21⟩ : ∃ v, v = w17v - (zI w8M 246 w19n) := ⟨_, rfl⟩
          have w21g := zrg w21v
          refine zs_isub (pc := 95) t114_95 (c := w21v) w21.symm ?_
          refine zs_istore (pc := 96) t114_96 (ls' := [(6, .int w21v), (5, .int (zI w8M 248 w11n)), (0, .ref 242), (1, .int a), (2, .int (24 : Int32)), (3, .int (160 : Int32)), (4, .int w8x4)]) (zml mf114 (by decide)) rfl ?_
          refine zs_iload (pc := 98) t114_98 rfl ?_
          refine zs_aload_n (pc := 100) t114_100 rfl ?_
          have w22 := ib242_5 w8I
          refine zs_get (pc := 101) t114_101 (by decide) (zk1 (w8s.k fk_zMc_242)) (zfvi rfl rfl) ?_
          refine zs_invS (pc := 104) (as := [.int w21v, .int (zI w8M 242 5)]) (st := []) t114_104 (by decide) mf54 rfl rfl ⟨by decide, by decide, Nat.le_of_ble_eq_true rfl, Nat.le_of_ble_eq_true rfl⟩ (zs_in (by decide) mf54 (Nat.le_of_ble_eq_true rfl) ?_) (fun _ _ q => q)
          show zGo X l 0 0 0 54 0 [(0, .int w21v), (1, .int (zI w8M 242 5))] [] w8M _
          refine zs_iload_n (pc := 0) t54_0 rfl ?_
          refine zs_iload_n (pc := 1) t54_1 rfl ?_
          obtain ⟨w23v, w23⟩ : ∃ v, w21v / (zI w8M 242 5) = v := ⟨_, rfl⟩
          have w23g := zrg w23v
          refine zs_idiv (pc := 2) t54_2 (znz rfl (by omega)) (c := w23v) w23 ?_
          refine zs_istore_n (pc := 3) t54_3 (ls' := [(2, .int w23v), (0, .int w21v), (1, .int (zI w8M 242 5))]) (zml mf54 (by decide)) rfl ?_
          refine zs_iload_n (pc := 4) t54_4 rfl ?_
          refine zs_iload_n (pc := 5) t54_5 rfl ?_
          obtain ⟨w24v, w24⟩ : ∃ v, w21v ^^^ (zI w8M 242 5) = v := ⟨_, rfl⟩
          have w24g := zrg w24v
          refine zs_ixor (pc := 6) t54_6 (c := w24v) w24 ?_
          by_cases w25 : 0 ≤ w24v.toInt
          · refine zs_if_geT (pc := 7) t54_7 rfl (by omega) ?_
            refine zs_iload_n (pc := 21) t54_21 rfl ?_
            refine zs_iret (pc := 22) t54_22 mr54 rfl ?_
            show zGo X l 1 0 0 114 107 [(6, .int w21v), (5, .int (zI w8M 248 w11n)), (0, .ref 242), (1, .int a), (2, .int (24 : Int32)), (3, .int (160 : Int32)), (4, .int w8x4)] [.int w23v] w8M _
            refine zs_istore (pc := 107) t114_107 (ls' := [(7, .int w23v), (6, .int w21v), (5, .int (zI w8M 248 w11n)), (0, .ref 242), (1, .int a), (2, .int (24 : Int32)), (3, .int (160 : Int32)), (4, .int w8x4)]) (zml mf114 (by decide)) rfl ?_
            refine zs_aload_n (pc := 109) t114_109 rfl ?_
            refine zs_iload (pc := 110) t114_110 rfl ?_
            refine zs_invV (pc := 112) (k := 242) (as' := [.int w23v]) (st := []) t114_112 mf117 rfl rfl (Or.inl ⟨by decide, (zk1 (w8s.k fk_zMc_242))⟩) ⟨by decide, by decide, Nat.le_of_ble_eq_true rfl, Nat.le_of_ble_eq_true rfl⟩ (C117_242 w8s w8I ?_) (fun _ _ q => q)
            intro w26M w26v w26s w26I w26F w26a w26b
            show zGo X l 1 0 0 114 115 [(7, .int w23v), (6, .int w21v), (5, .int (zI w8M 248 w11n)), (0, .ref 242), (1, .int a), (2, .int (24 : Int32)), (3, .int (160 : Int32)), (4, .int w8x4)] [.int w26v] w26M _
            refine zs_istore (pc := 115) t114_115 (ls' := [(8, .int w26v), (7, .int w23v), (6, .int w21v), (5, .int (zI w8M 248 w11n)), (0, .ref 242), (1, .int a), (2, .int (24 : Int32)), (3, .int (160 : Int32)), (4, .int w8x4)]) (zml mf114 (by decide)) rfl ?_
            refine zs_aload_n (pc := 117) t114_117 rfl ?_
            refine zs_get (pc := 118) t114_118 (by decide) (zk1 (w26s.k fk_zMc_242)) (w26s.p rfl fv_zMc_242_13) ?_
            refine zs_iload (pc := 121) t114_121 rfl ?_
            obtain ⟨w27n, w27⟩ : ∃ n : Nat, w26v.toInt = (n : Int) := ⟨w26v.toInt.toNat, by omega⟩
            have w28 := ib252 w26I w27n
            refine zs_iald (pc := 123) t114_123 (j := w27n) (by decide) (zk1 (w26s.k fk_zMc_252)) w27 (zk2 (w26s.k fk_zMc_252) (by omega)) rfl ?_
            refine zs_iconst (pc := 124) t114_124 (v := 1) (by decide) ?_
            refine zs_iload (pc := 125) t114_125 rfl ?_
            obtain ⟨w29v, w29⟩ : ∃ v, (1 : Int32) <<< ((zI w8M 248 w11n) &&& 31) = v := ⟨_, rfl⟩
            have w29g := zrg w29v
            refine zs_ishl (pc := 127) t114_127 (c := w29v) w29 ?_
            obtain ⟨w30v, w30⟩ : ∃ v, (zI w26M 252 w27n) &&& w29v = v := ⟨_, rfl⟩
            have w30g := zrg w30v
            refine zs_iand (pc := 128) t114_128 (c := w30v) w30 ?_
            by_cases w31 : w30v.toInt = 0
            · refine zs_if_eqT (pc := 129) t114_129 rfl (by omega) ?_
              refine zs_aload_n (pc := 135) t114_135 rfl ?_
              refine zs_get (pc := 136) t114_136 (by decide) (zk1 (w26s.k fk_zMc_242)) (w26s.p rfl fv_zMc_242_13) ?_
              refine zs_iload (pc := 139) t114_139 rfl ?_
              refine zs_dup2 (pc := 141) t114_141 ⟨rfl, rfl⟩ ?_
              refine zs_iald (pc := 142) t114_142 (j := w27n) (by decide) (zk1 (w26s.k fk_zMc_252)) w27 (zk2 (w26s.k fk_zMc_252) (by omega)) rfl ?_
              refine zs_iconst (pc := 143) t114_143 (v := 1) (by decide) ?_
              refine zs_iload (pc := 144) t114_144 rfl ?_
              obtain ⟨w32v, w32⟩ : ∃ v, (1 : Int32) <<< ((zI w8M 248 w11n) &&& 31) = v := ⟨_, rfl⟩
              have w32g := zrg w32v
              refine zs_ishl (pc := 146) t114_146 (c := w32v) w32 ?_
              obtain ⟨w33v, w33⟩ : ∃ v, (zI w26M 252 w27n) ||| w32v = v := ⟨_, rfl⟩
              have w33g := zrg w33v
              refine zs_ior (pc := 147) t114_147 (c := w33v) w33 ?_
              have w34 : zIv cLo cHi (zsI w26M 252 w27n w33v) := zIv.put w26I (show (-2147483648) ≤ w33v.toInt ∧ w33v.toInt ≤ 2147483647 from (zrg w33v))
              refine zs_iast (pc := 148) t114_148 (j := w27n) (by decide) (zk1 (w26s.k fk_zMc_252)) w27 (zk2 (w26s.k fk_zMc_252) (by omega)) ?_
              refine zs_aload_n (pc := 149) t114_149 rfl ?_
              refine zs_get (pc := 150) t114_150 (by decide) (zk1 (w26s.k fk_zMc_242)) (w26s.p rfl fv_zMc_242_14) ?_
              refine zs_iload (pc := 153) t114_153 rfl ?_
              refine zs_dup2 (pc := 155) t114_155 ⟨rfl, rfl⟩ ?_
              have w35 := ib253 w26I w27n
              refine zs_iald (pc := 156) t114_156 (j := w27n) (by decide) (zk1 (w26s.k fk_zMc_253)) w27 (zk2 (w26s.k fk_zMc_253) (by omega)) ((zIo (by decide)).trans rfl) ?_
              refine zs_iconst (pc := 157) t114_157 (v := 1) (by decide) ?_
              obtain ⟨w36v, w36⟩ : ∃ v, v = (zI w26M 253 w27n) + (1 : Int32) := ⟨_, rfl⟩
              have w36g := zrg w36v
              refine zs_iadd (pc := 158) t114_158 (c := w36v) w36.symm ?_
              have w37 : zIv cLo cHi (zsI (zsI w26M 252 w27n w33v) 253 w27n w36v) := zIv.put w34 (show (-2147483648) ≤ w36v.toInt ∧ w36v.toInt ≤ 2147483647 from (zrg w36v))
              refine zs_iast (pc := 159) t114_159 (j := w27n) (by decide) (zk1 (w26s.k fk_zMc_253)) w27 (zk2 (w26s.k fk_zMc_253) (by omega)) ?_
              refine zs_aload_n (pc := 160) t114_160 rfl ?_
              refine zs_get (pc := 161) t114_161 (by decide) (zk1 (w26s.k fk_zMc_242)) (w26s.p rfl fv_zMc_242_14) ?_
              refine zs_iload (pc := 164) t114_164 rfl ?_
              refine zs_iald (pc := 166) t114_166 (j := w27n) (by decide) (zk1 (w26s.k fk_zMc_253)) w27 (zk2 (w26s.k fk_zMc_253) (by omega)) zIs ?_
              refine zs_istore (pc := 167) t114_167 (ls' := [(9, .int w36v), (8, .int w26v), (7, .int w23v), (6, .int w21v), (5, .int (zI w8M 248 w11n)), (0, .ref 242), (1, .int a), (2, .int (24 : Int32)), (3, .int (160 : Int32)), (4, .int w8x4)]) (zml mf114 (by decide)) rfl ?_
              refine zs_iload (pc := 169) t114_169 rfl ?_
              refine zs_aload_n (pc := 171) t114_171 rfl ?_
              have w38 := ib242_17 w26I
              refine zs_get (pc := 172) t114_172 (by decide) (zk1 (w26s.k fk_zMc_242)) (zfvi rfl ((zIo (by decide)).trans ((zIo (by decide)).trans rfl))) ?_
              by_cases w39 : (zI w26M 242 17).toInt < w36v.toInt
              · refine zs_icmp_gtT (pc := 175) t114_175 rfl rfl (by omega) ?_
                refine zs_aload_n (pc := 196) t114_196 rfl ?_
                refine zs_iload (pc := 197) t114_197 rfl ?_
                have w40 : zIv cLo cHi (zsI (zsI (zsI w26M 252 w27n w33v) 253 w27n w36v) 242 17 w36v) := zIv.put w37 (show (-2147483648) ≤ w36v.toInt ∧ w36v.toInt ≤ 2147483647 from (zrg w36v))
                refine zs_putI (pc := 199) t114_199 (zk1 (w26s.k fk_zMc_242)) rfl ?_
                refine zs_aload_n (pc := 202) t114_202 rfl ?_
                refine zs_iload (pc := 203) t114_203 rfl ?_
                have w41 : zIv cLo cHi (zsI (zsI (zsI (zsI w26M 252 w27n w33v) 253 w27n w36v) 242 17 w36v) 242 18 w23v) := zIv.put w40 (show (-2147483648) ≤ w23v.toInt ∧ w23v.toInt ≤ 2147483647 from (zrg w23v))
                refine zs_putI (pc := 205) t114_205 (zk1 (w26s.k fk_zMc_242)) rfl ?_
                obtain ⟨w42v, w42e, w42⟩ := ziadd (a := w8x4) (b := Int32.ofInt 1) rfl (show (Int32.ofInt 1).toInt = 1 by decide) (by omega) (by omega)
                refine zs_iinc (pc := 208) t114_208 (ls' := [(4, .int w42v), (9, .int w36v), (8, .int w26v), (7, .int w23v), (6, .int w21v), (5, .int (zI w8M 248 w11n)), (0, .ref 242), (1, .int a), (2, .int (24 : Int32)), (3, .int (160 : Int32))]) (zml mf114 (by decide)) rfl (c := w42v) w42e rfl ?_
                refine zs_goto (pc := 211) t114_211 ?_
                refine zGo.locals (ls' := [(0, .ref 242), (1, .int a), (2, .int (24 : Int32)), (3, .int (160 : Int32)), (4, .int w42v)]) (by simp) ?_
                exact w8ih (w8m - 1) (by omega) w42v (zsI (zsI (zsI (zsI w26M 252 w27n w33v) 253 w27n w36v) 242 17 w36v) 242 18 w23v) ⟨by omega, by omega⟩ w26s w41 (((((((zFr.refl).trans (w8F.mono rfl)).trans (w26F.mono rfl)).put rfl).put rfl).put rfl).put rfl) (by omega)
              · refine zs_icmp_gtF (pc := 175) t114_175 rfl rfl (by omega) ?_
                refine zs_iload (pc := 178) t114_178 rfl ?_
                refine zs_aload_n (pc := 180) t114_180 rfl ?_
                refine zs_get (pc := 181) t114_181 (by decide) (zk1 (w26s.k fk_zMc_242)) (zfvi rfl ((zIo (by decide)).trans ((zIo (by decide)).trans rfl))) ?_
                by_cases w43 : w36v.toInt ≠ (zI w26M 242 17).toInt
                · refine zs_icmp_neT (pc := 184) t114_184 rfl rfl (by omega) ?_
                  obtain ⟨w44v, w44e, w44⟩ := ziadd (a := w8x4) (b := Int32.ofInt 1) rfl (show (Int32.ofInt 1).toInt = 1 by decide) (by omega) (by omega)
                  refine zs_iinc (pc := 208) t114_208 (ls' := [(4, .int w44v), (9, .int w36v), (8, .int w26v), (7, .int w23v), (6, .int w21v), (5, .int (zI w8M 248 w11n)), (0, .ref 242), (1, .int a), (2, .int (24 : Int32)), (3, .int (160 : Int32))]) (zml mf114 (by decide)) rfl (c := w44v) w44e rfl ?_
                  refine zs_goto (pc := 211) t114_211 ?_
                  refine zGo.locals (ls' := [(0, .ref 242), (1, .int a), (2, .int (24 : Int32)), (3, .int (160 : Int32)), (4, .int w44v)]) (by simp) ?_
                  exact w8ih (w8m - 1) (by omega) w44v (zsI (zsI w26M 252 w27n w33v) 253 w27n w36v) ⟨by omega, by omega⟩ w26s w37 (((((zFr.refl).trans (w8F.mono rfl)).trans (w26F.mono rfl)).put rfl).put rfl) (by omega)
                · refine zs_icmp_neF (pc := 184) t114_184 rfl rfl (by omega) ?_
                  refine zs_iload (pc := 187) t114_187 rfl ?_
                  refine zs_aload_n (pc := 189) t114_189 rfl ?_
                  have w45 := ib242_18 w26I
                  refine zs_get (pc := 190) t114_190 (by decide) (zk1 (w26s.k fk_zMc_242)) (zfvi rfl ((zIo (by decide)).trans ((zIo (by decide)).trans rfl))) ?_
                  by_cases w46 : (zI w26M 242 18).toInt ≤ w23v.toInt
                  · refine zs_icmp_geT (pc := 193) t114_193 rfl rfl (by omega) ?_
                    obtain ⟨w47v, w47e, w47⟩ := ziadd (a := w8x4) (b := Int32.ofInt 1) rfl (show (Int32.ofInt 1).toInt = 1 by decide) (by omega) (by omega)
                    refine zs_iinc (pc := 208) t114_208 (ls' := [(4, .int w47v), (9, .int w36v), (8, .int w26v), (7, .int w23v), (6, .int w21v), (5, .int (zI w8M 248 w11n)), (0, .ref 242), (1, .int a), (2, .int (24 : Int32)), (3, .int (160 : Int32))]) (zml mf114 (by decide)) rfl (c := w47v) w47e rfl ?_
                    refine zs_goto (pc := 211) t114_211 ?_
                    refine zGo.locals (ls' := [(0, .ref 242), (1, .int a), (2, .int (24 : Int32)), (3, .int (160 : Int32)), (4, .int w47v)]) (by simp) ?_
                    exact w8ih (w8m - 1) (by omega) w47v (zsI (zsI w26M 252 w27n w33v) 253 w27n w36v) ⟨by omega, by omega⟩ w26s w37 (((((zFr.refl).trans (w8F.mono rfl)).trans (w26F.mono rfl)).put rfl).put rfl) (by omega)
                  · refine zs_icmp_geF (pc := 193) t114_193 rfl rfl (by omega) ?_
                    refine zs_aload_n (pc := 196) t114_196 rfl ?_
                    refine zs_iload (pc := 197) t114_197 rfl ?_
                    have w48 : zIv cLo cHi (zsI (zsI (zsI w26M 252 w27n w33v) 253 w27n w36v) 242 17 w36v) := zIv.put w37 (show (-2147483648) ≤ w36v.toInt ∧ w36v.toInt ≤ 2147483647 from (zrg w36v))
                    refine zs_putI (pc := 199) t114_199 (zk1 (w26s.k fk_zMc_242)) rfl ?_
                    refine zs_aload_n (pc := 202) t114_202 rfl ?_
                    refine zs_iload (pc := 203) t114_203 rfl ?_
                    have w49 : zIv cLo cHi (zsI (zsI (zsI (zsI w26M 252 w27n w33v) 253 w27n w36v) 242 17 w36v) 242 18 w23v) := zIv.put w48 (show (-2147483648) ≤ w23v.toInt ∧ w23v.toInt ≤ 2147483647 from (zrg w23v))
                    refine zs_putI (pc := 205) t114_205 (zk1 (w26s.k fk_zMc_242)) rfl ?_
                    obtain ⟨w50v, w50e, w50⟩ := ziadd (a := w8x4) (b := Int32.ofInt 1) rfl (show (Int32.ofInt 1).toInt = 1 by decide) (by omega) (by omega)
                    refine zs_iinc (pc := 208) t114_208 (ls' := [(4, .int w50v), (9, .int w36v), (8, .int w26v), (7, .int w23v), (6, .int w21v), (5, .int (zI w8M 248 w11n)), (0, .ref 242), (1, .int a), (2, .int (24 : Int32)), (3, .int (160 : Int32))]) (zml mf114 (by decide)) rfl (c := w50v) w50e rfl ?_
                    refine zs_goto (pc := 211) t114_211 ?_
                    refine zGo.locals (ls' := [(0, .ref 242), (1, .int a), (2, .int (24 : Int32)), (3, .int (160 : Int32)), (4, .int w50v)]) (by simp) ?_
                    exact w8ih (w8m - 1) (by omega) w50v (zsI (zsI (zsI (zsI w26M 252 w27n w33v) 253 w27n w36v) 242 17 w36v) 242 18 w23v) ⟨by omega, by omega⟩ w26s w49 (((((((zFr.refl).trans (w8F.mono rfl)).trans (w26F.mono rfl)).put rfl).put rfl).put rfl).put rfl) (by omega)
            · refine zs_if_eqF (pc := 129) t114_129 rfl (by omega) ?_
              refine zs_goto (pc := 132) t114_132 ?_
              obtain ⟨w51v, w51e, w51⟩ := ziadd (a := w8x4) (b := Int32.ofInt 1) rfl (show (Int32.ofInt 1).toInt = 1 by decide) (by omega) (by omega)
              refine zs_iinc (pc := 208) t114_208 (ls' := [(4, .int w51v), (8, .int w26v), (7, .int w23v), (6, .int w21v), (5, .int (zI w8M 248 w11n)), (0, .ref 242), (1, .int a), (2, .int (24 : Int32)), (3, .int (160 : Int32))]) (zml mf114 (by decide)) rfl (c := w51v) w51e rfl ?_
              refine zs_goto (pc := 211) t114_211 ?_
              refine zGo.locals (ls' := [(0, .ref 242), (1, .int a), (2, .int (24 : Int32)), (3, .int (160 : Int32)), (4, .int w51v)]) (by simp) ?_
              exact w8ih (w8m - 1) (by omega) w51v w26M ⟨by omega, by omega⟩ w26s w26I (((zFr.refl).trans (w8F.mono rfl)).trans (w26F.mono rfl)) (by omega)
          · refine zs_if_geF (pc := 7) t54_7 rfl (by omega) ?_
            refine zs_iload_n (pc := 10) t54_10 rfl ?_
            refine zs_iload_n (pc := 11) t54_11 rfl ?_
            obtain ⟨w52v, w52⟩ : ∃ v, w23v * (zI w8M 242 5) = v := ⟨_, rfl⟩
            have w52g := zrg w52v
            refine zs_imul (pc := 12) t54_12 (c := w52v) w52 ?_
            refine zs_iload_n (pc := 13) t54_13 rfl ?_
            by_cases w53 : w52v.toInt = w21v.toInt
            · refine zs_icmp_eqT (pc := 14) t54_14 rfl rfl (by omega) ?_
              refine zs_iload_n (pc := 21) t54_21 rfl ?_
              refine zs_iret (pc := 22) t54_22 mr54 rfl ?_
              show zGo X l 1 0 0 114 107 [(6, .int w21v), (5, .int (zI w8M 248 w11n)), (0, .ref 242), (1, .int a), (2, .int (24 : Int32)), (3, .int (160 : Int32)), (4, .int w8x4)] [.int w23v] w8M _
              refine zs_istore (pc := 107) t114_107 (ls' := [(7, .int w23v), (6, .int w21v), (5, .int (zI w8M 248 w11n)), (0, .ref 242), (1, .int a), (2, .int (24 : Int32)), (3, .int (160 : Int32)), (4, .int w8x4)]) (zml mf114 (by decide)) rfl ?_
              refine zs_aload_n (pc := 109) t114_109 rfl ?_
              refine zs_iload (pc := 110) t114_110 rfl ?_
              refine zs_invV (pc := 112) (k := 242) (as' := [.int w23v]) (st := []) t114_112 mf117 rfl rfl (Or.inl ⟨by decide, (zk1 (w8s.k fk_zMc_242))⟩) ⟨by decide, by decide, Nat.le_of_ble_eq_true rfl, Nat.le_of_ble_eq_true rfl⟩ (C117_242 w8s w8I ?_) (fun _ _ q => q)
              intro w54M w54v w54s w54I w54F w54a w54b
              show zGo X l 1 0 0 114 115 [(7, .int w23v), (6, .int w21v), (5, .int (zI w8M 248 w11n)), (0, .ref 242), (1, .int a), (2, .int (24 : Int32)), (3, .int (160 : Int32)), (4, .int w8x4)] [.int w54v] w54M _
              refine zs_istore (pc := 115) t114_115 (ls' := [(8, .int w54v), (7, .int w23v), (6, .int w21v), (5, .int (zI w8M 248 w11n)), (0, .ref 242), (1, .int a), (2, .int (24 : Int32)), (3, .int (160 : Int32)), (4, .int w8x4)]) (zml mf114 (by decide)) rfl ?_
              refine zs_aload_n (pc := 117) t114_117 rfl ?_
              refine zs_get (pc := 118) t114_118 (by decide) (zk1 (w54s.k fk_zMc_242)) (w54s.p rfl fv_zMc_242_13) ?_
              refine zs_iload (pc := 121) t114_121 rfl ?_
              obtain ⟨w55n, w55⟩ : ∃ n : Nat, w54v.toInt = (n : Int) := ⟨w54v.toInt.toNat, by omega⟩
              have w56 := ib252 w54I w55n
              refine zs_iald (pc := 123) t114_123 (j := w55n) (by decide) (zk1 (w54s.k fk_zMc_252)) w55 (zk2 (w54s.k fk_zMc_252) (by omega)) rfl ?_
              refine zs_iconst (pc := 124) t114_124 (v := 1) (by decide) ?_
              refine zs_iload (pc := 125) t114_125 rfl ?_
              obtain ⟨w57v, w57⟩ : ∃ v, (1 : Int32) <<< ((zI w8M 248 w11n) &&& 31) = v := ⟨_, rfl⟩
              have w57g := zrg w57v
              refine zs_ishl (pc := 127) t114_127 (c := w57v) w57 ?_
              obtain ⟨w58v, w58⟩ : ∃ v, (zI w54M 252 w55n) &&& w57v = v := ⟨_, rfl⟩
              have w58g := zrg w58v
              refine zs_iand (pc := 128) t114_128 (c := w58v) w58 ?_
              by_cases w59 : w58v.toInt = 0
              · refine zs_if_eqT (pc := 129) t114_129 rfl (by omega) ?_
                refine zs_aload_n (pc := 135) t114_135 rfl ?_
                refine zs_get (pc := 136) t114_136 (by decide) (zk1 (w54s.k fk_zMc_242)) (w54s.p rfl fv_zMc_242_13) ?_
                refine zs_iload (pc := 139) t114_139 rfl ?_
                refine zs_dup2 (pc := 141) t114_141 ⟨rfl, rfl⟩ ?_
                refine zs_iald (pc := 142) t114_142 (j := w55n) (by decide) (zk1 (w54s.k fk_zMc_252)) w55 (zk2 (w54s.k fk_zMc_252) (by omega)) rfl ?_
                refine zs_iconst (pc := 143) t114_143 (v := 1) (by decide) ?_
                refine zs_iload (pc := 144) t114_144 rfl ?_
                obtain ⟨w60v, w60⟩ : ∃ v, (1 : Int32) <<< ((zI w8M 248 w11n) &&& 31) = v := ⟨_, rfl⟩
                have w60g := zrg w60v
                refine zs_ishl (pc := 146) t114_146 (c := w60v) w60 ?_
                obtain ⟨w61v, w61⟩ : ∃ v, (zI w54M 252 w55n) ||| w60v = v := ⟨_, rfl⟩
                have w61g := zrg w61v
                refine zs_ior (pc := 147) t114_147 (c := w61v) w61 ?_
                have w62 : zIv cLo cHi (zsI w54M 252 w55n w61v) := zIv.put w54I (show (-2147483648) ≤ w61v.toInt ∧ w61v.toInt ≤ 2147483647 from (zrg w61v))
                refine zs_iast (pc := 148) t114_148 (j := w55n) (by decide) (zk1 (w54s.k fk_zMc_252)) w55 (zk2 (w54s.k fk_zMc_252) (by omega)) ?_
                refine zs_aload_n (pc := 149) t114_149 rfl ?_
                refine zs_get (pc := 150) t114_150 (by decide) (zk1 (w54s.k fk_zMc_242)) (w54s.p rfl fv_zMc_242_14) ?_
                refine zs_iload (pc := 153) t114_153 rfl ?_
                refine zs_dup2 (pc := 155) t114_155 ⟨rfl, rfl⟩ ?_
                have w63 := ib253 w54I w55n
                refine zs_iald (pc := 156) t114_156 (j := w55n) (by decide) (zk1 (w54s.k fk_zMc_253)) w55 (zk2 (w54s.k fk_zMc_253) (by omega)) ((zIo (by decide)).trans rfl) ?_
                refine zs_iconst (pc := 157) t114_157 (v := 1) (by decide) ?_
                obtain ⟨w64v, w64⟩ : ∃ v, v = (zI w54M 253 w55n) + (1 : Int32) := ⟨_, rfl⟩
                have w64g := zrg w64v
                refine zs_iadd (pc := 158) t114_158 (c := w64v) w64.symm ?_
                have w65 : zIv cLo cHi (zsI (zsI w54M 252 w55n w61v) 253 w55n w64v) := zIv.put w62 (show (-2147483648) ≤ w64v.toInt ∧ w64v.toInt ≤ 2147483647 from (zrg w64v))
                refine zs_iast (pc := 159) t114_159 (j := w55n) (by decide) (zk1 (w54s.k fk_zMc_253)) w55 (zk2 (w54s.k fk_zMc_253) (by omega)) ?_
                refine zs_aload_n (pc := 160) t114_160 rfl ?_
                refine zs_get (pc := 161) t114_161 (by decide) (zk1 (w54s.k fk_zMc_242)) (w54s.p rfl fv_zMc_242_14) ?_
                refine zs_iload (pc := 164) t114_164 rfl ?_
                refine zs_iald (pc := 166) t114_166 (j := w55n) (by decide) (zk1 (w54s.k fk_zMc_253)) w55 (zk2 (w54s.k fk_zMc_253) (by omega)) zIs ?_
                refine zs_istore (pc := 167) t114_167 (ls' := [(9, .int w64v), (8, .int w54v), (7, .int w23v), (6, .int w21v), (5, .int (zI w8M 248 w11n)), (0, .ref 242), (1, .int a), (2, .int (24 : Int32)), (3, .int (160 : Int32)), (4, .int w8x4)]) (zml mf114 (by decide)) rfl ?_
                refine zs_iload (pc := 169) t114_169 rfl ?_
                refine zs_aload_n (pc := 171) t114_171 rfl ?_
                have w66 := ib242_17 w54I
                refine zs_get (pc := 172) t114_172 (by decide) (zk1 (w54s.k fk_zMc_242)) (zfvi rfl ((zIo (by decide)).trans ((zIo (by decide)).trans rfl))) ?_
                by_cases w67 : (zI w54M 242 17).toInt < w64v.toInt
                · refine zs_icmp_gtT (pc := 175) t114_175 rfl rfl (by omega) ?_
                  refine zs_aload_n (pc := 196) t114_196 rfl ?_
                  refine zs_iload (pc := 197) t114_197 rfl ?_
                  have w68 : zIv cLo cHi (zsI (zsI (zsI w54M 252 w55n w61v) 253 w55n w64v) 242 17 w64v) := zIv.put w65 (show (-2147483648) ≤ w64v.toInt ∧ w64v.toInt ≤ 2147483647 from (zrg w64v))
                  refine zs_putI (pc := 199) t114_199 (zk1 (w54s.k fk_zMc_242)) rfl ?_
                  refine zs_aload_n (pc := 202) t114_202 rfl ?_
                  refine zs_iload (pc := 203) t114_203 rfl ?_
                  have w69 : zIv cLo cHi (zsI (zsI (zsI (zsI w54M 252 w55n w61v) 253 w55n w64v) 242 17 w64v) 242 18 w23v) := zIv.put w68 (show (-2147483648) ≤ w23v.toInt ∧ w23v.toInt ≤ 2147483647 from (zrg w23v))
                  refine zs_putI (pc := 205) t114_205 (zk1 (w54s.k fk_zMc_242)) rfl ?_
                  obtain ⟨w70v, w70e, w70⟩ := ziadd (a := w8x4) (b := Int32.ofInt 1) rfl (show (Int32.ofInt 1).toInt = 1 by decide) (by omega) (by omega)
                  refine zs_iinc (pc := 208) t114_208 (ls' := [(4, .int w70v), (9, .int w64v), (8, .int w54v), (7, .int w23v), (6, .int w21v), (5, .int (zI w8M 248 w11n)), (0, .ref 242), (1, .int a), (2, .int (24 : Int32)), (3, .int (160 : Int32))]) (zml mf114 (by decide)) rfl (c := w70v) w70e rfl ?_
                  refine zs_goto (pc := 211) t114_211 ?_
                  refine zGo.locals (ls' := [(0, .ref 242), (1, .int a), (2, .int (24 : Int32)), (3, .int (160 : Int32)), (4, .int w70v)]) (by simp) ?_
                  exact w8ih (w8m - 1) (by omega) w70v (zsI (zsI (zsI (zsI w54M 252 w55n w61v) 253 w55n w64v) 242 17 w64v) 242 18 w23v) ⟨by omega, by omega⟩ w54s w69 (((((((zFr.refl).trans (w8F.mono rfl)).trans (w54F.mono rfl)).put rfl).put rfl).put rfl).put rfl) (by omega)
                · refine zs_icmp_gtF (pc := 175) t114_175 rfl rfl (by omega) ?_
                  refine zs_iload (pc := 178) t114_178 rfl ?_
                  refine zs_aload_n (pc := 180) t114_180 rfl ?_
                  refine zs_get (pc := 181) t114_181 (by decide) (zk1 (w54s.k fk_zMc_242)) (zfvi rfl ((zIo (by decide)).trans ((zIo (by decide)).trans rfl))) ?_
                  by_cases w71 : w64v.toInt ≠ (zI w54M 242 17).toInt
                  · refine zs_icmp_neT (pc := 184) t114_184 rfl rfl (by omega) ?_
                    obtain ⟨w72v, w72e, w72⟩ := ziadd (a := w8x4) (b := Int32.ofInt 1) rfl (show (Int32.ofInt 1).toInt = 1 by decide) (by omega) (by omega)
                    refine zs_iinc (pc := 208) t114_208 (ls' := [(4, .int w72v), (9, .int w64v), (8, .int w54v), (7, .int w23v), (6, .int w21v), (5, .int (zI w8M 248 w11n)), (0, .ref 242), (1, .int a), (2, .int (24 : Int32)), (3, .int (160 : Int32))]) (zml mf114 (by decide)) rfl (c := w72v) w72e rfl ?_
                    refine zs_goto (pc := 211) t114_211 ?_
                    refine zGo.locals (ls' := [(0, .ref 242), (1, .int a), (2, .int (24 : Int32)), (3, .int (160 : Int32)), (4, .int w72v)]) (by simp) ?_
                    exact w8ih (w8m - 1) (by omega) w72v (zsI (zsI w54M 252 w55n w61v) 253 w55n w64v) ⟨by omega, by omega⟩ w54s w65 (((((zFr.refl).trans (w8F.mono rfl)).trans (w54F.mono rfl)).put rfl).put rfl) (by omega)
                  · refine zs_icmp_neF (pc := 184) t114_184 rfl rfl (by omega) ?_
                    refine zs_iload (pc := 187) t114_187 rfl ?_
                    refine zs_aload_n (pc := 189) t114_189 rfl ?_
                    have w73 := ib242_18 w54I
                    refine zs_get (pc := 190) t114_190 (by decide) (zk1 (w54s.k fk_zMc_242)) (zfvi rfl ((zIo (by decide)).trans ((zIo (by decide)).trans rfl))) ?_
                    by_cases w74 : (zI w54M 242 18).toInt ≤ w23v.toInt
                    · refine zs_icmp_geT (pc := 193) t114_193 rfl rfl (by omega) ?_
                      obtain ⟨w75v, w75e, w75⟩ := ziadd (a := w8x4) (b := Int32.ofInt 1) rfl (show (Int32.ofInt 1).toInt = 1 by decide) (by omega) (by omega)
                      refine zs_iinc (pc := 208) t114_208 (ls' := [(4, .int w75v), (9, .int w64v), (8, .int w54v), (7, .int w23v), (6, .int w21v), (5, .int (zI w8M 248 w11n)), (0, .ref 242), (1, .int a), (2, .int (24 : Int32)), (3, .int (160 : Int32))]) (zml mf114 (by decide)) rfl (c := w75v) w75e rfl ?_
                      refine zs_goto (pc := 211) t114_211 ?_
                      refine zGo.locals (ls' := [(0, .ref 242), (1, .int a), (2, .int (24 : Int32)), (3, .int (160 : Int32)), (4, .int w75v)]) (by simp) ?_
                      exact w8ih (w8m - 1) (by omega) w75v (zsI (zsI w54M 252 w55n w61v) 253 w55n w64v) ⟨by omega, by omega⟩ w54s w65 (((((zFr.refl).trans (w8F.mono rfl)).trans (w54F.mono rfl)).put rfl).put rfl) (by omega)
                    · refine zs_icmp_geF (pc := 193) t114_193 rfl rfl (by omega) ?_
                      refine zs_aload_n (pc := 196) t114_196 rfl ?_
                      refine zs_iload (pc := 197) t114_197 rfl ?_
                      have w76 : zIv cLo cHi (zsI (zsI (zsI w54M 252 w55n w61v) 253 w55n w64v) 242 17 w64v) := zIv.put w65 (show (-2147483648) ≤ w64v.toInt ∧ w64v.toInt ≤ 2147483647 from (zrg w64v))
                      refine zs_putI (pc := 199) t114_199 (zk1 (w54s.k fk_zMc_242)) rfl ?_
                      refine zs_aload_n (pc := 202) t114_202 rfl ?_
                      refine zs_iload (pc := 203) t114_203 rfl ?_
                      have w77 : zIv cLo cHi (zsI (zsI (zsI (zsI w54M 252 w55n w61v) 253 w55n w64v) 242 17 w64v) 242 18 w23v) := zIv.put w76 (show (-2147483648) ≤ w23v.toInt ∧ w23v.toInt ≤ 2147483647 from (zrg w23v))
                      refine zs_putI (pc := 205) t114_205 (zk1 (w54s.k fk_zMc_242)) rfl ?_
                      obtain ⟨w78v, w78e, w78⟩ := ziadd (a := w8x4) (b := Int32.ofInt 1) rfl (show (Int32.ofInt 1).toInt = 1 by decide) (by omega) (by omega)
                      refine zs_iinc (pc := 208) t114_208 (ls' := [(4, .int w78v), (9, .int w64v), (8, .int w54v), (7, .int w23v), (6, .int w21v), (5, .int (zI w8M 248 w11n)), (0, .ref 242), (1, .int a), (2, .int (24 : Int32)), (3, .int (160 : Int32))]) (zml mf114 (by decide)) rfl (c := w78v) w78e rfl ?_
                      refine zs_goto (pc := 211) t114_211 ?_
                      refine zGo.locals (ls' := [(0, .ref 242), (1, .int a), (2, .int (24 : Int32)), (3, .int (160 : Int32)), (4, .int w78v)]) (by simp) ?_
                      exact w8ih (w8m - 1) (by omega) w78v (zsI (zsI (zsI (zsI w54M 252 w55n w61v) 253 w55n w64v) 242 17 w64v) 242 18 w23v) ⟨by omega, by omega⟩ w54s w77 (((((((zFr.refl).trans (w8F.mono rfl)).trans (w54F.mono rfl)).put rfl).put rfl).put rfl).put rfl) (by omega)
              · refine zs_if_eqF (pc := 129) t114_129 rfl (by omega) ?_
                refine zs_goto (pc := 132) t114_132 ?_
                obtain ⟨w79v, w79e, w79⟩ := ziadd (a := w8x4) (b := Int32.ofInt 1) rfl (show (Int32.ofInt 1).toInt = 1 by decide) (by omega) (by omega)
                refine zs_iinc (pc := 208) t114_208 (ls' := [(4, .int w79v), (8, .int w54v), (7, .int w23v), (6, .int w21v), (5, .int (zI w8M 248 w11n)), (0, .ref 242), (1, .int a), (2, .int (24 : Int32)), (3, .int (160 : Int32))]) (zml mf114 (by decide)) rfl (c := w79v) w79e rfl ?_
                refine zs_goto (pc := 211) t114_211 ?_
                refine zGo.locals (ls' := [(0, .ref 242), (1, .int a), (2, .int (24 : Int32)), (3, .int (160 : Int32)), (4, .int w79v)]) (by simp) ?_
                exact w8ih (w8m - 1) (by omega) w79v w54M ⟨by omega, by omega⟩ w54s w54I (((zFr.refl).trans (w8F.mono rfl)).trans (w54F.mono rfl)) (by omega)
            · refine zs_icmp_eqF (pc := 14) t54_14 rfl rfl (by omega) ?_
              refine zs_iload_n (pc := 17) t54_17 rfl ?_
              refine zs_iconst (pc := 18) t54_18 (v := 1) (by decide) ?_
              obtain ⟨w80v, w80⟩ : ∃ v, v = w23v - (1 : Int32) := ⟨_, rfl⟩
              have w80g := zrg w80v
              refine zs_isub (pc := 19) t54_19 (c := w80v) w80.symm ?_
              refine zs_iret (pc := 20) t54_20 mr54 rfl ?_
              show zGo X l 1 0 0 114 107 [(6, .int w21v), (5, .int (zI w8M 248 w11n)), (0, .ref 242), (1, .int a), (2, .int (24 : Int32)), (3, .int (160 : Int32)), (4, .int w8x4)] [.int w80v] w8M _
              refine zs_istore (pc := 107) t114_107 (ls' := [(7, .int w80v), (6, .int w21v), (5, .int (zI w8M 248 w11n)), (0, .ref 242), (1, .int a), (2, .int (24 : Int32)), (3, .int (160 : Int32)), (4, .int w8x4)]) (zml mf114 (by decide)) rfl ?_
              refine zs_aload_n (pc := 109) t114_109 rfl ?_
              refine zs_iload (pc := 110) t114_110 rfl ?_
              refine zs_invV (pc := 112) (k := 242) (as' := [.int w80v]) (st := []) t114_112 mf117 rfl rfl (Or.inl ⟨by decide, (zk1 (w8s.k fk_zMc_242))⟩) ⟨by decide, by decide, Nat.le_of_ble_eq_true rfl, Nat.le_of_ble_eq_true rfl⟩ (C117_242 w8s w8I ?_) (fun _ _ q => q)
              intro w81M w81v w81s w81I w81F w81a w81b
              show zGo X l 1 0 0 114 115 [(7, .int w80v), (6, .int w21v), (5, .int (zI w8M 248 w11n)), (0, .ref 242), (1, .int a), (2, .int (24 : Int32)), (3, .int (160 : Int32)), (4, .int w8x4)] [.int w81v] w81M _
              refine zs_istore (pc := 115) t114_115 (ls' := [(8, .int w81v), (7, .int w80v), (6, .int w21v), (5, .int (zI w8M 248 w11n)), (0, .ref 242), (1, .int a), (2, .int (24 : Int32)), (3, .int (160 : Int32)), (4, .int w8x4)]) (zml mf114 (by decide)) rfl ?_
              refine zs_aload_n (pc := 117) t114_117 rfl ?_
              refine zs_get (pc := 118) t114_118 (by decide) (zk1 (w81s.k fk_zMc_242)) (w81s.p rfl fv_zMc_242_13) ?_
              refine zs_iload (pc := 121) t114_121 rfl ?_
              obtain ⟨w82n, w82⟩ : ∃ n : Nat, w81v.toInt = (n : Int) := ⟨w81v.toInt.toNat, by omega⟩
              have w83 := ib252 w81I w82n
              refine zs_iald (pc := 123) t114_123 (j := w82n) (by decide) (zk1 (w81s.k fk_zMc_252)) w82 (zk2 (w81s.k fk_zMc_252) (by omega)) rfl ?_
              refine zs_iconst (pc := 124) t114_124 (v := 1) (by decide) ?_
              refine zs_iload (pc := 125) t114_125 rfl ?_
              obtain ⟨w84v, w84⟩ : ∃ v, (1 : Int32) <<< ((zI w8M 248 w11n) &&& 31) = v := ⟨_, rfl⟩
              have w84g := zrg w84v
              refine zs_ishl (pc := 127) t114_127 (c := w84v) w84 ?_
              obtain ⟨w85v, w85⟩ : ∃ v, (zI w81M 252 w82n) &&& w84v = v := ⟨_, rfl⟩
              have w85g := zrg w85v
              refine zs_iand (pc := 128) t114_128 (c := w85v) w85 ?_
              by_cases w86 : w85v.toInt = 0
              · refine zs_if_eqT (pc := 129) t114_129 rfl (by omega) ?_
                refine zs_aload_n (pc := 135) t114_135 rfl ?_
                refine zs_get (pc := 136) t114_136 (by decide) (zk1 (w81s.k fk_zMc_242)) (w81s.p rfl fv_zMc_242_13) ?_
                refine zs_iload (pc := 139) t114_139 rfl ?_
                refine zs_dup2 (pc := 141) t114_141 ⟨rfl, rfl⟩ ?_
                refine zs_iald (pc := 142) t114_142 (j := w82n) (by decide) (zk1 (w81s.k fk_zMc_252)) w82 (zk2 (w81s.k fk_zMc_252) (by omega)) rfl ?_
                refine zs_iconst (pc := 143) t114_143 (v := 1) (by decide) ?_
                refine zs_iload (pc := 144) t114_144 rfl ?_
                obtain ⟨w87v, w87⟩ : ∃ v, (1 : Int32) <<< ((zI w8M 248 w11n) &&& 31) = v := ⟨_, rfl⟩
                have w87g := zrg w87v
                refine zs_ishl (pc := 146) t114_146 (c := w87v) w87 ?_
                obtain ⟨w88v, w88⟩ : ∃ v, (zI w81M 252 w82n) ||| w87v = v := ⟨_, rfl⟩
                have w88g := zrg w88v
                refine zs_ior (pc := 147) t114_147 (c := w88v) w88 ?_
                have w89 : zIv cLo cHi (zsI w81M 252 w82n w88v) := zIv.put w81I (show (-2147483648) ≤ w88v.toInt ∧ w88v.toInt ≤ 2147483647 from (zrg w88v))
                refine zs_iast (pc := 148) t114_148 (j := w82n) (by decide) (zk1 (w81s.k fk_zMc_252)) w82 (zk2 (w81s.k fk_zMc_252) (by omega)) ?_
                refine zs_aload_n (pc := 149) t114_149 rfl ?_
                refine zs_get (pc := 150) t114_150 (by decide) (zk1 (w81s.k fk_zMc_242)) (w81s.p rfl fv_zMc_242_14) ?_
                refine zs_iload (pc := 153) t114_153 rfl ?_
                refine zs_dup2 (pc := 155) t114_155 ⟨rfl, rfl⟩ ?_
                have w90 := ib253 w81I w82n
                refine zs_iald (pc := 156) t114_156 (j := w82n) (by decide) (zk1 (w81s.k fk_zMc_253)) w82 (zk2 (w81s.k fk_zMc_253) (by omega)) ((zIo (by decide)).trans rfl) ?_
                refine zs_iconst (pc := 157) t114_157 (v := 1) (by decide) ?_
                obtain ⟨w91v, w91⟩ : ∃ v, v = (zI w81M 253 w82n) + (1 : Int32) := ⟨_, rfl⟩
                have w91g := zrg w91v
                refine zs_iadd (pc := 158) t114_158 (c := w91v) w91.symm ?_
                have w92 : zIv cLo cHi (zsI (zsI w81M 252 w82n w88v) 253 w82n w91v) := zIv.put w89 (show (-2147483648) ≤ w91v.toInt ∧ w91v.toInt ≤ 2147483647 from (zrg w91v))
                refine zs_iast (pc := 159) t114_159 (j := w82n) (by decide) (zk1 (w81s.k fk_zMc_253)) w82 (zk2 (w81s.k fk_zMc_253) (by omega)) ?_
                refine zs_aload_n (pc := 160) t114_160 rfl ?_
                refine zs_get (pc := 161) t114_161 (by decide) (zk1 (w81s.k fk_zMc_242)) (w81s.p rfl fv_zMc_242_14) ?_
                refine zs_iload (pc := 164) t114_164 rfl ?_
                refine zs_iald (pc := 166) t114_166 (j := w82n) (by decide) (zk1 (w81s.k fk_zMc_253)) w82 (zk2 (w81s.k fk_zMc_253) (by omega)) zIs ?_
                refine zs_istore (pc := 167) t114_167 (ls' := [(9, .int w91v), (8, .int w81v), (7, .int w80v), (6, .int w21v), (5, .int (zI w8M 248 w11n)), (0, .ref 242), (1, .int a), (2, .int (24 : Int32)), (3, .int (160 : Int32)), (4, .int w8x4)]) (zml mf114 (by decide)) rfl ?_
                refine zs_iload (pc := 169) t114_169 rfl ?_
                refine zs_aload_n (pc := 171) t114_171 rfl ?_
                have w93 := ib242_17 w81I
                refine zs_get (pc := 172) t114_172 (by decide) (zk1 (w81s.k fk_zMc_242)) (zfvi rfl ((zIo (by decide)).trans ((zIo (by decide)).trans rfl))) ?_
                by_cases w94 : (zI w81M 242 17).toInt < w91v.toInt
                · refine zs_icmp_gtT (pc := 175) t114_175 rfl rfl (by omega) ?_
                  refine zs_aload_n (pc := 196) t114_196 rfl ?_
                  refine zs_iload (pc := 197) t114_197 rfl ?_
                  have w95 : zIv cLo cHi (zsI (zsI (zsI w81M 252 w82n w88v) 253 w82n w91v) 242 17 w91v) := zIv.put w92 (show (-2147483648) ≤ w91v.toInt ∧ w91v.toInt ≤ 2147483647 from (zrg w91v))
                  refine zs_putI (pc := 199) t114_199 (zk1 (w81s.k fk_zMc_242)) rfl ?_
                  refine zs_aload_n (pc := 202) t114_202 rfl ?_
                  refine zs_iload (pc := 203) t114_203 rfl ?_
                  have w96 : zIv cLo cHi (zsI (zsI (zsI (zsI w81M 252 w82n w88v) 253 w82n w91v) 242 17 w91v) 242 18 w80v) := zIv.put w95 (show (-2147483648) ≤ w80v.toInt ∧ w80v.toInt ≤ 2147483647 from (zrg w80v))
                  refine zs_putI (pc := 205) t114_205 (zk1 (w81s.k fk_zMc_242)) rfl ?_
                  obtain ⟨w97v, w97e, w97⟩ := ziadd (a := w8x4) (b := Int32.ofInt 1) rfl (show (Int32.ofInt 1).toInt = 1 by decide) (by omega) (by omega)
                  refine zs_iinc (pc := 208) t114_208 (ls' := [(4, .int w97v), (9, .int w91v), (8, .int w81v), (7, .int w80v), (6, .int w21v), (5, .int (zI w8M 248 w11n)), (0, .ref 242), (1, .int a), (2, .int (24 : Int32)), (3, .int (160 : Int32))]) (zml mf114 (by decide)) rfl (c := w97v) w97e rfl ?_
                  refine zs_goto (pc := 211) t114_211 ?_
                  refine zGo.locals (ls' := [(0, .ref 242), (1, .int a), (2, .int (24 : Int32)), (3, .int (160 : Int32)), (4, .int w97v)]) (by simp) ?_
                  exact w8ih (w8m - 1) (by omega) w97v (zsI (zsI (zsI (zsI w81M 252 w82n w88v) 253 w82n w91v) 242 17 w91v) 242 18 w80v) ⟨by omega, by omega⟩ w81s w96 (((((((zFr.refl).trans (w8F.mono rfl)).trans (w81F.mono rfl)).put rfl).put rfl).put rfl).put rfl) (by omega)
                · refine zs_icmp_gtF (pc := 175) t114_175 rfl rfl (by omega) ?_
                  refine zs_iload (pc := 178) t114_178 rfl ?_
                  refine zs_aload_n (pc := 180) t114_180 rfl ?_
                  refine zs_get (pc := 181) t114_181 (by decide) (zk1 (w81s.k fk_zMc_242)) (zfvi rfl ((zIo (by decide)).trans ((zIo (by decide)).trans rfl))) ?_
                  by_cases w98 : w91v.toInt ≠ (zI w81M 242 17).toInt
                  · refine zs_icmp_neT (pc := 184) t114_184 rfl rfl (by omega) ?_
                    obtain ⟨w99v, w99e, w99⟩ := ziadd (a := w8x4) (b := Int32.ofInt 1) rfl (show (Int32.ofInt 1).toInt = 1 by decide) (by omega) (by omega)
                    refine zs_iinc (pc := 208) t114_208 (ls' := [(4, .int w99v), (9, .int w91v), (8, .int w81v), (7, .int w80v), (6, .int w21v), (5, .int (zI w8M 248 w11n)), (0, .ref 242), (1, .int a), (2, .int (24 : Int32)), (3, .int (160 : Int32))]) (zml mf114 (by decide)) rfl (c := w99v) w99e rfl ?_
                    refine zs_goto (pc := 211) t114_211 ?_
                    refine zGo.locals (ls' := [(0, .ref 242), (1, .int a), (2, .int (24 : Int32)), (3, .int (160 : Int32)), (4, .int w99v)]) (by simp) ?_
                    exact w8ih (w8m - 1) (by omega) w99v (zsI (zsI w81M 252 w82n w88v) 253 w82n w91v) ⟨by omega, by omega⟩ w81s w92 (((((zFr.refl).trans (w8F.mono rfl)).trans (w81F.mono rfl)).put rfl).put rfl) (by omega)
                  · refine zs_icmp_neF (pc := 184) t114_184 rfl rfl (by omega) ?_
                    refine zs_iload (pc := 187) t114_187 rfl ?_
                    refine zs_aload_n (pc := 189) t114_189 rfl ?_
                    have w100 := ib242_18 w81I
                    refine zs_get (pc := 190) t114_190 (by decide) (zk1 (w81s.k fk_zMc_242)) (zfvi rfl ((zIo (by decide)).trans ((zIo (by decide)).trans rfl))) ?_
                    by_cases w101 : (zI w81M 242 18).toInt ≤ w80v.toInt
                    · refine zs_icmp_geT (pc := 193) t114_193 rfl rfl (by omega) ?_
                      obtain ⟨w102v, w102e, w102⟩ := ziadd (a := w8x4) (b := Int32.ofInt 1) rfl (show (Int32.ofInt 1).toInt = 1 by decide) (by omega) (by omega)
                      refine zs_iinc (pc := 208) t114_208 (ls' := [(4, .int w102v), (9, .int w91v), (8, .int w81v), (7, .int w80v), (6, .int w21v), (5, .int (zI w8M 248 w11n)), (0, .ref 242), (1, .int a), (2, .int (24 : Int32)), (3, .int (160 : Int32))]) (zml mf114 (by decide)) rfl (c := w102v) w102e rfl ?_
                      refine zs_goto (pc := 211) t114_211 ?_
                      refine zGo.locals (ls' := [(0, .ref 242), (1, .int a), (2, .int (24 : Int32)), (3, .int (160 : Int32)), (4, .int w102v)]) (by simp) ?_
                      exact w8ih (w8m - 1) (by omega) w102v (zsI (zsI w81M 252 w82n w88v) 253 w82n w91v) ⟨by omega, by omega⟩ w81s w92 (((((zFr.refl).trans (w8F.mono rfl)).trans (w81F.mono rfl)).put rfl).put rfl) (by omega)
                    · refine zs_icmp_geF (pc := 193) t114_193 rfl rfl (by omega) ?_
                      refine zs_aload_n (pc := 196) t114_196 rfl ?_
                      refine zs_iload (pc := 197) t114_197 rfl ?_
                      have w103 : zIv cLo cHi (zsI (zsI (zsI w81M 252 w82n w88v) 253 w82n w91v) 242 17 w91v) := zIv.put w92 (show (-2147483648) ≤ w91v.toInt ∧ w91v.toInt ≤ 2147483647 from (zrg w91v))
                      refine zs_putI (pc := 199) t114_199 (zk1 (w81s.k fk_zMc_242)) rfl ?_
                      refine zs_aload_n (pc := 202) t114_202 rfl ?_
                      refine zs_iload (pc := 203) t114_203 rfl ?_
                      have w104 : zIv cLo cHi (zsI (zsI (zsI (zsI w81M 252 w82n w88v) 253 w82n w91v) 242 17 w91v) 242 18 w80v) := zIv.put w103 (show (-2147483648) ≤ w80v.toInt ∧ w80v.toInt ≤ 2147483647 from (zrg w80v))
                      refine zs_putI (pc := 205) t114_205 (zk1 (w81s.k fk_zMc_242)) rfl ?_
                      obtain ⟨w105v, w105e, w105⟩ := ziadd (a := w8x4) (b := Int32.ofInt 1) rfl (show (Int32.ofInt 1).toInt = 1 by decide) (by omega) (by omega)
                      refine zs_iinc (pc := 208) t114_208 (ls' := [(4, .int w105v), (9, .int w91v), (8, .int w81v), (7, .int w80v), (6, .int w21v), (5, .int (zI w8M 248 w11n)), (0, .ref 242), (1, .int a), (2, .int (24 : Int32)), (3, .int (160 : Int32))]) (zml mf114 (by decide)) rfl (c := w105v) w105e rfl ?_
                      refine zs_goto (pc := 211) t114_211 ?_
                      refine zGo.locals (ls' := [(0, .ref 242), (1, .int a), (2, .int (24 : Int32)), (3, .int (160 : Int32)), (4, .int w105v)]) (by simp) ?_
                      exact w8ih (w8m - 1) (by omega) w105v (zsI (zsI (zsI (zsI w81M 252 w82n w88v) 253 w82n w91v) 242 17 w91v) 242 18 w80v) ⟨by omega, by omega⟩ w81s w104 (((((((zFr.refl).trans (w8F.mono rfl)).trans (w81F.mono rfl)).put rfl).put rfl).put rfl).put rfl) (by omega)
              · refine zs_if_eqF (pc := 129) t114_129 rfl (by omega) ?_
                refine zs_goto (pc := 132) t114_132 ?_
                obtain ⟨w106v, w106e, w106⟩ := ziadd (a := w8x4) (b := Int32.ofInt 1) rfl (show (Int32.ofInt 1).toInt = 1 by decide) (by omega) (by omega)
                refine zs_iinc (pc := 208) t114_208 (ls' := [(4, .int w106v), (8, .int w81v), (7, .int w80v), (6, .int w21v), (5, .int (zI w8M 248 w11n)), (0, .ref 242), (1, .int a), (2, .int (24 : Int32)), (3, .int (160 : Int32))]) (zml mf114 (by decide)) rfl (c := w106v) w106e rfl ?_
                refine zs_goto (pc := 211) t114_211 ?_
                refine zGo.locals (ls' := [(0, .ref 242), (1, .int a), (2, .int (24 : Int32)), (3, .int (160 : Int32)), (4, .int w106v)]) (by simp) ?_
                exact w8ih (w8m - 1) (by omega) w106v w81M ⟨by omega, by omega⟩ w81s w81I (((zFr.refl).trans (w8F.mono rfl)).trans (w81F.mono rfl)) (by omega)
    refine zGo.locals (ls' := [(0, .ref 242), (1, .int a), (2, .int (24 : Int32)), (3, .int (160 : Int32)), (4, .int (0 : Int32))]) (by simp) ?_
    have w107 := li0
    exact w8L ((60 - 0 : Int).toNat) (0 : Int32) (zsI (zsI (zsI (zsI M 242 10 w3v) 242 15 (0 : Int32)) 242 17 (0 : Int32)) 242 18 (0 : Int32)) ⟨by decide, by decide⟩ hs w7 zFr.refl (by omega)
  · refine zs_if_ltF (pc := 1) t115_1 rfl (by omega) ?_
    refine zs_iload_n (pc := 4) t115_4 rfl ?_
    refine zs_aload_n (pc := 5) t115_5 rfl ?_
    have w108 := ib242_0 hI
    refine zs_get (pc := 6) t115_6 (by decide) (zk1 (hs.k fk_zMc_242)) (zfvi rfl rfl) ?_
    by_cases w109 : (zI M 242 0).toInt ≤ a.toInt
    · refine zs_icmp_geT (pc := 9) t115_9 rfl rfl (by omega) ?_
      refine zs_iconst (pc := 21) t115_21 (v := 0) (by decide) ?_
      refine zs_iret (pc := 22) t115_22 mr115 (by decide) ?_
      show zGo X l 1 0 0 114 5 [(0, .ref 242), (1, .int a)] [.int (0 : Int32)] M _
      refine zs_iconst (pc := 5) t114_5 (v := 3) (by decide) ?_
      refine zs_iadd (pc := 6) t114_6 (c := 3) (by decide) ?_
      refine zs_bipush (pc := 7) t114_7 (v := 8) (by decide) ?_
      refine zs_imul (pc := 9) t114_9 (c := 24) (by decide) ?_
      refine zs_istore_n (pc := 10) t114_10 (ls' := [(2, .int (24 : Int32)), (0, .ref 242), (1, .int a)]) (zml mf114 (by decide)) rfl ?_
      refine zs_aload_n (pc := 11) t114_11 rfl ?_
      refine zs_iload_n (pc := 12) t114_12 rfl ?_
      refine zs_invV (pc := 13) (k := 242) (as' := [.int a]) (st := []) t114_13 mf116 rfl rfl (Or.inl ⟨by decide, (zk1 (hs.k fk_zMc_242))⟩) ⟨by decide, by decide, Nat.le_of_ble_eq_true rfl, Nat.le_of_ble_eq_true rfl⟩ (zs_in (by decide) mf116 (Nat.le_of_ble_eq_true rfl) ?_) (fun _ _ q => q)
      show zGo X l 0 0 0 116 0 [(0, .ref 242), (1, .int a)] [] M _
      refine zs_iload_n (pc := 0) t116_0 rfl ?_
      refine zs_if_ltF (pc := 1) t116_1 rfl (by omega) ?_
      refine zs_iload_n (pc := 4) t116_4 rfl ?_
      refine zs_aload_n (pc := 5) t116_5 rfl ?_
      refine zs_get (pc := 6) t116_6 (by decide) (zk1 (hs.k fk_zMc_242)) (zfvi rfl rfl) ?_
      by_cases w110 : (zI M 242 0).toInt ≤ a.toInt
      · refine zs_icmp_geT (pc := 9) t116_9 rfl rfl (by omega) ?_
        refine zs_iconst (pc := 21) t116_21 (v := 0) (by decide) ?_
        refine zs_iret (pc := 22) t116_22 mr116 (by decide) ?_
        show zGo X l 1 0 0 114 16 [(2, .int (24 : Int32)), (0, .ref 242), (1, .int a)] [.int (0 : Int32)] M _
        refine zs_bipush (pc := 16) t114_16 (v := 20) (by decide) ?_
        refine zs_iadd (pc := 18) t114_18 (c := 20) (by decide) ?_
        refine zs_bipush (pc := 19) t114_19 (v := 8) (by decide) ?_
        refine zs_imul (pc := 21) t114_21 (c := 160) (by decide) ?_
        refine zs_istore_n (pc := 22) t114_22 (ls' := [(3, .int (160 : Int32)), (2, .int (24 : Int32)), (0, .ref 242), (1, .int a)]) (zml mf114 (by decide)) rfl ?_
        refine zs_aload_n (pc := 23) t114_23 rfl ?_
        refine zs_dup (pc := 24) t114_24 rfl ?_
        have w111 := ib242_10 hI
        refine zs_get (pc := 25) t114_25 (by decide) (zk1 (hs.k fk_zMc_242)) (zfvi rfl rfl) ?_
        refine zs_iconst (pc := 28) t114_28 (v := 1) (by decide) ?_
        obtain ⟨w112v, w112⟩ : ∃ v, v = (zI M 242 10) + (1 : Int32) := ⟨_, rfl⟩
        have w112g := zrg w112v
        refine zs_iadd (pc := 29) t114_29 (c := w112v) w112.symm ?_
        have w113 : zIv cLo cHi (zsI M 242 10 w112v) := zIv.put hI (show (-2147483648) ≤ w112v.toInt ∧ w112v.toInt ≤ 2147483647 from (zrg w112v))
        refine zs_putI (pc := 30) t114_30 (zk1 (hs.k fk_zMc_242)) rfl ?_
        refine zs_aload_n (pc := 33) t114_33 rfl ?_
        refine zs_iconst (pc := 34) t114_34 (v := 0) (by decide) ?_
        have w114 : zIv cLo cHi (zsI (zsI M 242 10 w112v) 242 15 (0 : Int32)) := zIv.put w113 (show 0 ≤ (0 : Int32).toInt ∧ (0 : Int32).toInt ≤ 60 from ⟨by decide, by decide⟩)
        refine zs_putI (pc := 35) t114_35 (zk1 (hs.k fk_zMc_242)) rfl ?_
        refine zs_aload_n (pc := 38) t114_38 rfl ?_
        refine zs_iconst (pc := 39) t114_39 (v := 0) (by decide) ?_
        have w115 : zIv cLo cHi (zsI (zsI (zsI M 242 10 w112v) 242 15 (0 : Int32)) 242 17 (0 : Int32)) := zIv.put w114 (show (-2147483648) ≤ (0 : Int32).toInt ∧ (0 : Int32).toInt ≤ 2147483647 from (zrg (0 : Int32)))
        refine zs_putI (pc := 40) t114_40 (zk1 (hs.k fk_zMc_242)) rfl ?_
        refine zs_aload_n (pc := 43) t114_43 rfl ?_
        refine zs_iconst (pc := 44) t114_44 (v := 0) (by decide) ?_
        have w116 : zIv cLo cHi (zsI (zsI (zsI (zsI M 242 10 w112v) 242 15 (0 : Int32)) 242 17 (0 : Int32)) 242 18 (0 : Int32)) := zIv.put w115 (show (-2147483648) ≤ (0 : Int32).toInt ∧ (0 : Int32).toInt ≤ 2147483647 from (zrg (0 : Int32)))
        refine zs_putI (pc := 45) t114_45 (zk1 (hs.k fk_zMc_242)) rfl ?_
        refine zs_iconst (pc := 48) t114_48 (v := 0) (by decide) ?_
        refine zs_istore (pc := 49) t114_49 (ls' := [(4, .int (0 : Int32)), (3, .int (160 : Int32)), (2, .int (24 : Int32)), (0, .ref 242), (1, .int a)]) (zml mf114 (by decide)) rfl ?_
        have w117L : ∀ (m : Nat) (w117x4 : Int32) (w117M : zM), (0 ≤ w117x4.toInt ∧ w117x4.toInt ≤ 60) → zSk zMc w117M → zIv cLo cHi w117M → zFr [(242, 254, none)] (zsI (zsI (zsI (zsI M 242 10 w112v) 242 15 (0 : Int32)) 242 17 (0 : Int32)) 242 18 (0 : Int32)) w117M → 60 - w117x4.toInt ≤ (m : Int) → zGo X l 1 0 0 114 51 [(0, .ref 242), (1, .int a), (2, .int (24 : Int32)), (3, .int (160 : Int32)), (4, .int w117x4)] [] w117M Q := by
          intro m
          induction m using Nat.strongRecOn with
          | ind w117m w117ih =>
            intro w117x4 w117M w117b4 w117s w117I w117F w117q
            refine zs_iload (pc := 51) t114_51 rfl ?_
            refine zs_aload_n (pc := 53) t114_53 rfl ?_
            have w118 := ib242_6 w117I
            refine zs_get (pc := 54) t114_54 (by decide) (zk1 (w117s.k fk_zMc_242)) (zfvi rfl rfl) ?_
            by_cases w119 : (zI w117M 242 6).toInt ≤ w117x4.toInt
            · refine zs_icmp_geT (pc := 57) t114_57 rfl rfl (by omega) ?_
              exact zs_vret (pc := 214) t114_214 mr114 (hQ _ w117s w117I ((((((zFr.refl).put rfl).put rfl).put rfl).put rfl).trans (w117F.mono rfl)))
            · refine zs_icmp_geF (pc := 57) t114_57 rfl rfl (by omega) ?_
              refine zs_aload_n (pc := 60) t114_60 rfl ?_
              refine zs_get (pc := 61) t114_61 (by decide) (zk1 (w117s.k fk_zMc_242)) (w117s.p rfl fv_zMc_242_8) ?_
              refine zs_iload (pc := 64) t114_64 rfl ?_
              obtain ⟨w120n, w120⟩ : ∃ n : Nat, w117x4.toInt = (n : Int) := ⟨w117x4.toInt.toNat, by omega⟩
              have w121 := ib248 w117I w120n
              refine zs_iald (pc := 66) t114_66 (j := w120n) (by decide) (zk1 (w117s.k fk_zMc_248)) w120 (zk2 (w117s.k fk_zMc_248) (by omega)) rfl ?_
              refine zs_istore (pc := 67) t114_67 (ls' := [(5, .int (zI w117M 248 w120n)), (0, .ref 242), (1, .int a), (2, .int (24 : Int32)), (3, .int (160 : Int32)), (4, .int w117x4)]) (zml mf114 (by decide)) rfl ?_
              refine zs_aload_n (pc := 69) t114_69 rfl ?_
              refine zs_get (pc := 70) t114_70 (by decide) (zk1 (w117s.k fk_zMc_242)) (w117s.p rfl fv_zMc_242_9) ?_
              refine zs_iload (pc := 73) t114_73 rfl ?_
              have w122 := ib249 w117I w120n
              refine zs_iald (pc := 75) t114_75 (j := w120n) (by decide) (zk1 (w117s.k fk_zMc_249)) w120 (zk2 (w117s.k fk_zMc_249) (by omega)) rfl ?_
              refine zs_aload_n (pc := 76) t114_76 rfl ?_
              refine zs_get (pc := 77) t114_77 (by decide) (zk1 (w117s.k fk_zMc_242)) (w117s.p rfl fv_zMc_242_3) ?_
              refine zs_iload_n (pc := 80) t114_80 rfl ?_
              refine zs_iload (pc := 81) t114_81 rfl ?_
              obtain ⟨w123v, w123e, w123⟩ := ziadd (a := (24 : Int32)) (b := (zI w117M 248 w120n)) li24 rfl (by omega) (by omega)
              refine zs_iadd (pc := 83) t114_83 (c := w123v) w123e ?_
              obtain ⟨w124n, w124⟩ : ∃ n : Nat, w123v.toInt = (n : Int) := ⟨w123v.toInt.toNat, by omega⟩
              have w125 := ib245 w117I w124n
              refine zs_iald (pc := 84) t114_84 (j := w124n) (by decide) (zk1 (w117s.k fk_zMc_245)) w124 (zk2 (w117s.k fk_zMc_245) (by omega)) rfl ?_
              obtain ⟨w126v, w126⟩ : ∃ v, v = (zI w117M 249 w120n) - (zI w117M 245 w124n) := ⟨_, rfl⟩
              have w126g := zrg w126v
              refine zs_isub (pc := 85) t114_85 (c := w126v) w126.symm ?_
              refine zs_aload_n (pc := 86) t114_86 rfl ?_
              refine zs_get (pc := 87) t114_87 (by decide) (zk1 (w117s.k fk_zMc_242)) (w117s.p rfl fv_zMc_242_4) ?_
              refine zs_iload_n (pc := 90) t114_90 rfl ?_
              refine zs_iload (pc := 91) t114_91 rfl ?_
              obtain ⟨w127v, w127e, w127⟩ := ziadd (a := (160 : Int32)) (b := (zI w117M 248 w120n)) li160 rfl (by omega) (by omega)
              refine zs_iadd (pc := 93) t114_93 (c := w127v) w127e ?_
              obtain ⟨w128n, w128⟩ : ∃ n : Nat, w127v.toInt = (n : Int) := ⟨w127v.toInt.toNat, by omega⟩
              have w129 := ib246 w117I w128n
              refine zs_iald (pc := 94) t114_94 (j := w128n) (by decide) (zk1 (w117s.k fk_zMc_246)) w128 (zk2 (w117s.k fk_zMc_246) (by omega)) rfl ?_
              obtain ⟨w130v, w130⟩ : ∃ v, v = w126v - (zI w117M 246 w128n) := ⟨_, rfl⟩
              have w130g := zrg w130v
              refine zs_isub (pc := 95) t114_95 (c := w130v) w130.symm ?_
              refine zs_istore (pc := 96) t114_96 (ls' := [(6, .int w130v), (5, .int (zI w117M 248 w120n)), (0, .ref 242), (1, .int a), (2, .int (24 : Int32)), (3, .int (160 : Int32)), (4, .int w117x4)]) (zml mf114 (by decide)) rfl ?_
              refine zs_iload (pc := 98) t114_98 rfl ?_
              refine zs_aload_n (pc := 100) t114_100 rfl ?_
              have w131 := ib242_5 w117I
              refine zs_get (pc := 101) t114_101 (by decide) (zk1 (w117s.k fk_zMc_242)) (zfvi rfl rfl) ?_
              refine zs_invS (pc := 104) (as := [.int w130v, .int (zI w117M 242 5)]) (st := []) t114_104 (by decide) mf54 rfl rfl ⟨by decide, by decide, Nat.le_of_ble_eq_true rfl, Nat.le_of_ble_eq_true rfl⟩ (zs_in (by decide) mf54 (Nat.le_of_ble_eq_true rfl) ?_) (fun _ _ q => q)
              show zGo X l 0 0 0 54 0 [(0, .int w130v), (1, .int (zI w117M 242 5))] [] w117M _
              refine zs_iload_n (pc := 0) t54_0 rfl ?_
              refine zs_iload_n (pc := 1) t54_1 rfl ?_
              obtain ⟨w132v, w132⟩ : ∃ v, w130v / (zI w117M 242 5) = v := ⟨_, rfl⟩
              have w132g := zrg w132v
              refine zs_idiv (pc := 2) t54_2 (znz rfl (by omega)) (c := w132v) w132 ?_
              refine zs_istore_n (pc := 3) t54_3 (ls' := [(2, .int w132v), (0, .int w130v), (1, .int (zI w117M 242 5))]) (zml mf54 (by decide)) rfl ?_
              refine zs_iload_n (pc := 4) t54_4 rfl ?_
              refine zs_iload_n (pc := 5) t54_5 rfl ?_
              obtain ⟨w133v, w133⟩ : ∃ v, w130v ^^^ (zI w117M 242 5) = v := ⟨_, rfl⟩
              have w133g := zrg w133v
              refine zs_ixor (pc := 6) t54_6 (c := w133v) w133 ?_
              by_cases w134 : 0 ≤ w133v.toInt
              · refine zs_if_geT (pc := 7) t54_7 rfl (by omega) ?_
                refine zs_iload_n (pc := 21) t54_21 rfl ?_
                refine zs_iret (pc := 22) t54_22 mr54 rfl ?_
                show zGo X l 1 0 0 114 107 [(6, .int w130v), (5, .int (zI w117M 248 w120n)), (0, .ref 242), (1, .int a), (2, .int (24 : Int32)), (3, .int (160 : Int32)), (4, .int w117x4)] [.int w132v] w117M _
                refine zs_istore (pc := 107) t114_107 (ls' := [(7, .int w132v), (6, .int w130v), (5, .int (zI w117M 248 w120n)), (0, .ref 242), (1, .int a), (2, .int (24 : Int32)), (3, .int (160 : Int32)), (4, .int w117x4)]) (zml mf114 (by decide)) rfl ?_
                refine zs_aload_n (pc := 109) t114_109 rfl ?_
                refine zs_iload (pc := 110) t114_110 rfl ?_
                refine zs_invV (pc := 112) (k := 242) (as' := [.int w132v]) (st := []) t114_112 mf117 rfl rfl (Or.inl ⟨by decide, (zk1 (w117s.k fk_zMc_242))⟩) ⟨by decide, by decide, Nat.le_of_ble_eq_true rfl, Nat.le_of_ble_eq_true rfl⟩ (C117_242 w117s w117I ?_) (fun _ _ q => q)
                intro w135M w135v w135s w135I w135F w135a w135b
                show zGo X l 1 0 0 114 115 [(7, .int w132v), (6, .int w130v), (5, .int (zI w117M 248 w120n)), (0, .ref 242), (1, .int a), (2, .int (24 : Int32)), (3, .int (160 : Int32)), (4, .int w117x4)] [.int w135v] w135M _
                refine zs_istore (pc := 115) t114_115 (ls' := [(8, .int w135v), (7, .int w132v), (6, .int w130v), (5, .int (zI w117M 248 w120n)), (0, .ref 242), (1, .int a), (2, .int (24 : Int32)), (3, .int (160 : Int32)), (4, .int w117x4)]) (zml mf114 (by decide)) rfl ?_
                refine zs_aload_n (pc := 117) t114_117 rfl ?_
                refine zs_get (pc := 118) t114_118 (by decide) (zk1 (w135s.k fk_zMc_242)) (w135s.p rfl fv_zMc_242_13) ?_
                refine zs_iload (pc := 121) t114_121 rfl ?_
                obtain ⟨w136n, w136⟩ : ∃ n : Nat, w135v.toInt = (n : Int) := ⟨w135v.toInt.toNat, by omega⟩
                have w137 := ib252 w135I w136n
                refine zs_iald (pc := 123) t114_123 (j := w136n) (by decide) (zk1 (w135s.k fk_zMc_252)) w136 (zk2 (w135s.k fk_zMc_252) (by omega)) rfl ?_
                refine zs_iconst (pc := 124) t114_124 (v := 1) (by decide) ?_
                refine zs_iload (pc := 125) t114_125 rfl ?_
                obtain ⟨w138v, w138⟩ : ∃ v, (1 : Int32) <<< ((zI w117M 248 w120n) &&& 31) = v := ⟨_, rfl⟩
                have w138g := zrg w138v
                refine zs_ishl (pc := 127) t114_127 (c := w138v) w138 ?_
                obtain ⟨w139v, w139⟩ : ∃ v, (zI w135M 252 w136n) &&& w138v = v := ⟨_, rfl⟩
                have w139g := zrg w139v
                refine zs_iand (pc := 128) t114_128 (c := w139v) w139 ?_
                by_cases w140 : w139v.toInt = 0
                · refine zs_if_eqT (pc := 129) t114_129 rfl (by omega) ?_
                  refine zs_aload_n (pc := 135) t114_135 rfl ?_
                  refine zs_get (pc := 136) t114_136 (by decide) (zk1 (w135s.k fk_zMc_242)) (w135s.p rfl fv_zMc_242_13) ?_
                  refine zs_iload (pc := 139) t114_139 rfl ?_
                  refine zs_dup2 (pc := 141) t114_141 ⟨rfl, rfl⟩ ?_
                  refine zs_iald (pc := 142) t114_142 (j := w136n) (by decide) (zk1 (w135s.k fk_zMc_252)) w136 (zk2 (w135s.k fk_zMc_252) (by omega)) rfl ?_
                  refine zs_iconst (pc := 143) t114_143 (v := 1) (by decide) ?_
                  refine zs_iload (pc := 144) t114_144 rfl ?_
                  obtain ⟨w141v, w141⟩ : ∃ v, (1 : Int32) <<< ((zI w117M 248 w120n) &&& 31) = v := ⟨_, rfl⟩
                  have w141g := zrg w141v
                  refine zs_ishl (pc := 146) t114_146 (c := w141v) w141 ?_
                  obtain ⟨w142v, w142⟩ : ∃ v, (zI w135M 252 w136n) ||| w141v = v := ⟨_, rfl⟩
                  have w142g := zrg w142v
                  refine zs_ior (pc := 147) t114_147 (c := w142v) w142 ?_
                  have w143 : zIv cLo cHi (zsI w135M 252 w136n w142v) := zIv.put w135I (show (-2147483648) ≤ w142v.toInt ∧ w142v.toInt ≤ 2147483647 from (zrg w142v))
                  refine zs_iast (pc := 148) t114_148 (j := w136n) (by decide) (zk1 (w135s.k fk_zMc_252)) w136 (zk2 (w135s.k fk_zMc_252) (by omega)) ?_
                  refine zs_aload_n (pc := 149) t114_149 rfl ?_
                  refine zs_get (pc := 150) t114_150 (by decide) (zk1 (w135s.k fk_zMc_242)) (w135s.p rfl fv_zMc_242_14) ?_
                  refine zs_iload (pc := 153) t114_153 rfl ?_
                  refine zs_dup2 (pc := 155) t114_155 ⟨rfl, rfl⟩ ?_
                  have w144 := ib253 w135I w136n
                  refine zs_iald (pc := 156) t114_156 (j := w136n) (by decide) (zk1 (w135s.k fk_zMc_253)) w136 (zk2 (w135s.k fk_zMc_253) (by omega)) ((zIo (by decide)).trans rfl) ?_
                  refine zs_iconst (pc := 157) t114_157 (v := 1) (by decide) ?_
                  obtain ⟨w145v, w145⟩ : ∃ v, v = (zI w135M 253 w136n) + (1 : Int32) := ⟨_, rfl⟩
                  have w145g := zrg w145v
                  refine zs_iadd (pc := 158) t114_158 (c := w145v) w145.symm ?_
                  have w146 : zIv cLo cHi (zsI (zsI w135M 252 w136n w142v) 253 w136n w145v) := zIv.put w143 (show (-2147483648) ≤ w145v.toInt ∧ w145v.toInt ≤ 2147483647 from (zrg w145v))
                  refine zs_iast (pc := 159) t114_159 (j := w136n) (by decide) (zk1 (w135s.k fk_zMc_253)) w136 (zk2 (w135s.k fk_zMc_253) (by omega)) ?_
                  refine zs_aload_n (pc := 160) t114_160 rfl ?_
                  refine zs_get (pc := 161) t114_161 (by decide) (zk1 (w135s.k fk_zMc_242)) (w135s.p rfl fv_zMc_242_14) ?_
                  refine zs_iload (pc := 164) t114_164 rfl ?_
                  refine zs_iald (pc := 166) t114_166 (j := w136n) (by decide) (zk1 (w135s.k fk_zMc_253)) w136 (zk2 (w135s.k fk_zMc_253) (by omega)) zIs ?_
                  refine zs_istore (pc := 167) t114_167 (ls' := [(9, .int w145v), (8, .int w135v), (7, .int w132v), (6, .int w130v), (5, .int (zI w117M 248 w120n)), (0, .ref 242), (1, .int a), (2, .int (24 : Int32)), (3, .int (160 : Int32)), (4, .int w117x4)]) (zml mf114 (by decide)) rfl ?_
                  refine zs_iload (pc := 169) t114_169 rfl ?_
                  refine zs_aload_n (pc := 171) t114_171 rfl ?_
                  have w147 := ib242_17 w135I
                  refine zs_get (pc := 172) t114_172 (by decide) (zk1 (w135s.k fk_zMc_242)) (zfvi rfl ((zIo (by decide)).trans ((zIo (by decide)).trans rfl))) ?_
                  by_cases w148 : (zI w135M 242 17).toInt < w145v.toInt
                  · refine zs_icmp_gtT (pc := 175) t114_175 rfl rfl (by omega) ?_
                    refine zs_aload_n (pc := 196) t114_196 rfl ?_
                    refine zs_iload (pc := 197) t114_197 rfl ?_
                    have w149 : zIv cLo cHi (zsI (zsI (zsI w135M 252 w136n w142v) 253 w136n w145v) 242 17 w145v) := zIv.put w146 (show (-2147483648) ≤ w145v.toInt ∧ w145v.toInt ≤ 2147483647 from (zrg w145v))
                    refine zs_putI (pc := 199) t114_199 (zk1 (w135s.k fk_zMc_242)) rfl ?_
                    refine zs_aload_n (pc := 202) t114_202 rfl ?_
                    refine zs_iload (pc := 203) t114_203 rfl ?_
                    have w150 : zIv cLo cHi (zsI (zsI (zsI (zsI w135M 252 w136n w142v) 253 w136n w145v) 242 17 w145v) 242 18 w132v) := zIv.put w149 (show (-2147483648) ≤ w132v.toInt ∧ w132v.toInt ≤ 2147483647 from (zrg w132v))
                    refine zs_putI (pc := 205) t114_205 (zk1 (w135s.k fk_zMc_242)) rfl ?_
                    obtain ⟨w151v, w151e, w151⟩ := ziadd (a := w117x4) (b := Int32.ofInt 1) rfl (show (Int32.ofInt 1).toInt = 1 by decide) (by omega) (by omega)
                    refine zs_iinc (pc := 208) t114_208 (ls' := [(4, .int w151v), (9, .int w145v), (8, .int w135v), (7, .int w132v), (6, .int w130v), (5, .int (zI w117M 248 w120n)), (0, .ref 242), (1, .int a), (2, .int (24 : Int32)), (3, .int (160 : Int32))]) (zml mf114 (by decide)) rfl (c := w151v) w151e rfl ?_
                    refine zs_goto (pc := 211) t114_211 ?_
                    refine zGo.locals (ls' := [(0, .ref 242), (1, .int a), (2, .int (24 : Int32)), (3, .int (160 : Int32)), (4, .int w151v)]) (by simp) ?_
                    exact w117ih (w117m - 1) (by omega) w151v (zsI (zsI (zsI (zsI w135M 252 w136n w142v) 253 w136n w145v) 242 17 w145v) 242 18 w132v) ⟨by omega, by omega⟩ w135s w150 (((((((zFr.refl).trans (w117F.mono rfl)).trans (w135F.mono rfl)).put rfl).put rfl).put rfl).put rfl) (by omega)
                  · refine zs_icmp_gtF (pc := 175) t114_175 rfl rfl (by omega) ?_
                    refine zs_iload (pc := 178) t114_178 rfl ?_
                    refine zs_aload_n (pc := 180) t114_180 rfl ?_
                    refine zs_get (pc := 181) t114_181 (by decide) (zk1 (w135s.k fk_zMc_242)) (zfvi rfl ((zIo (by decide)).trans ((zIo (by decide)).trans rfl))) ?_
                    by_cases w152 : w145v.toInt ≠ (zI w135M 242 17).toInt
                    · refine zs_icmp_neT (pc := 184) t114_184 rfl rfl (by omega) ?_
                      obtain ⟨w153v, w153e, w153⟩ := ziadd (a := w117x4) (b := Int32.ofInt 1) rfl (show (Int32.ofInt 1).toInt = 1 by decide) (by omega) (by omega)
                      refine zs_iinc (pc := 208) t114_208 (ls' := [(4, .int w153v), (9, .int w145v), (8, .int w135v), (7, .int w132v), (6, .int w130v), (5, .int (zI w117M 248 w120n)), (0, .ref 242), (1, .int a), (2, .int (24 : Int32)), (3, .int (160 : Int32))]) (zml mf114 (by decide)) rfl (c := w153v) w153e rfl ?_
                      refine zs_goto (pc := 211) t114_211 ?_
                      refine zGo.locals (ls' := [(0, .ref 242), (1, .int a), (2, .int (24 : Int32)), (3, .int (160 : Int32)), (4, .int w153v)]) (by simp) ?_
                      exact w117ih (w117m - 1) (by omega) w153v (zsI (zsI w135M 252 w136n w142v) 253 w136n w145v) ⟨by omega, by omega⟩ w135s w146 (((((zFr.refl).trans (w117F.mono rfl)).trans (w135F.mono rfl)).put rfl).put rfl) (by omega)
                    · refine zs_icmp_neF (pc := 184) t114_184 rfl rfl (by omega) ?_
                      refine zs_iload (pc := 187) t114_187 rfl ?_
                      refine zs_aload_n (pc := 189) t114_189 rfl ?_
                      have w154 := ib242_18 w135I
                      refine zs_get (pc := 190) t114_190 (by decide) (zk1 (w135s.k fk_zMc_242)) (zfvi rfl ((zIo (by decide)).trans ((zIo (by decide)).trans rfl))) ?_
                      by_cases w155 : (zI w135M 242 18).toInt ≤ w132v.toInt
                      · refine zs_icmp_geT (pc := 193) t114_193 rfl rfl (by omega) ?_
                        obtain ⟨w156v, w156e, w156⟩ := ziadd (a := w117x4) (b := Int32.ofInt 1) rfl (show (Int32.ofInt 1).toInt = 1 by decide) (by omega) (by omega)
                        refine zs_iinc (pc := 208) t114_208 (ls' := [(4, .int w156v), (9, .int w145v), (8, .int w135v), (7, .int w132v), (6, .int w130v), (5, .int (zI w117M 248 w120n)), (0, .ref 242), (1, .int a), (2, .int (24 : Int32)), (3, .int (160 : Int32))]) (zml mf114 (by decide)) rfl (c := w156v) w156e rfl ?_
                        refine zs_goto (pc := 211) t114_211 ?_
                        refine zGo.locals (ls' := [(0, .ref 242), (1, .int a), (2, .int (24 : Int32)), (3, .int (160 : Int32)), (4, .int w156v)]) (by simp) ?_
                        exact w117ih (w117m - 1) (by omega) w156v (zsI (zsI w135M 252 w136n w142v) 253 w136n w145v) ⟨by omega, by omega⟩ w135s w146 (((((zFr.refl).trans (w117F.mono rfl)).trans (w135F.mono rfl)).put rfl).put rfl) (by omega)
                      · refine zs_icmp_geF (pc := 193) t114_193 rfl rfl (by omega) ?_
                        refine zs_aload_n (pc := 196) t114_196 rfl ?_
                        refine zs_iload (pc := 197) t114_197 rfl ?_
                        have w157 : zIv cLo cHi (zsI (zsI (zsI w135M 252 w136n w142v) 253 w136n w145v) 242 17 w145v) := zIv.put w146 (show (-2147483648) ≤ w145v.toInt ∧ w145v.toInt ≤ 2147483647 from (zrg w145v))
                        refine zs_putI (pc := 199) t114_199 (zk1 (w135s.k fk_zMc_242)) rfl ?_
                        refine zs_aload_n (pc := 202) t114_202 rfl ?_
                        refine zs_iload (pc := 203) t114_203 rfl ?_
                        have w158 : zIv cLo cHi (zsI (zsI (zsI (zsI w135M 252 w136n w142v) 253 w136n w145v) 242 17 w145v) 242 18 w132v) := zIv.put w157 (show (-2147483648) ≤ w132v.toInt ∧ w132v.toInt ≤ 2147483647 from (zrg w132v))
                        refine zs_putI (pc := 205) t114_205 (zk1 (w135s.k fk_zMc_242)) rfl ?_
                        obtain ⟨w159v, w159e, w159⟩ := ziadd (a := w117x4) (b := Int32.ofInt 1) rfl (show (Int32.ofInt 1).toInt = 1 by decide) (by omega) (by omega)
                        refine zs_iinc (pc := 208) t114_208 (ls' := [(4, .int w159v), (9, .int w145v), (8, .int w135v), (7, .int w132v), (6, .int w130v), (5, .int (zI w117M 248 w120n)), (0, .ref 242), (1, .int a), (2, .int (24 : Int32)), (3, .int (160 : Int32))]) (zml mf114 (by decide)) rfl (c := w159v) w159e rfl ?_
                        refine zs_goto (pc := 211) t114_211 ?_
                        refine zGo.locals (ls' := [(0, .ref 242), (1, .int a), (2, .int (24 : Int32)), (3, .int (160 : Int32)), (4, .int w159v)]) (by simp) ?_
                        exact w117ih (w117m - 1) (by omega) w159v (zsI (zsI (zsI (zsI w135M 252 w136n w142v) 253 w136n w145v) 242 17 w145v) 242 18 w132v) ⟨by omega, by omega⟩ w135s w158 (((((((zFr.refl).trans (w117F.mono rfl)).trans (w135F.mono rfl)).put rfl).put rfl).put rfl).put rfl) (by omega)
                · refine zs_if_eqF (pc := 129) t114_129 rfl (by omega) ?_
                  refine zs_goto (pc := 132) t114_132 ?_
                  obtain ⟨w160v, w160e, w160⟩ := ziadd (a := w117x4) (b := Int32.ofInt 1) rfl (show (Int32.ofInt 1).toInt = 1 by decide) (by omega) (by omega)
                  refine zs_iinc (pc := 208) t114_208 (ls' := [(4, .int w160v), (8, .int w135v), (7, .int w132v), (6, .int w130v), (5, .int (zI w117M 248 w120n)), (0, .ref 242), (1, .int a), (2, .int (24 : Int32)), (3, .int (160 : Int32))]) (zml mf114 (by decide)) rfl (c := w160v) w160e rfl ?_
                  refine zs_goto (pc := 211) t114_211 ?_
                  refine zGo.locals (ls' := [(0, .ref 242), (1, .int a), (2, .int (24 : Int32)), (3, .int (160 : Int32)), (4, .int w160v)]) (by simp) ?_
                  exact w117ih (w117m - 1) (by omega) w160v w135M ⟨by omega, by omega⟩ w135s w135I (((zFr.refl).trans (w117F.mono rfl)).trans (w135F.mono rfl)) (by omega)
              · refine zs_if_geF (pc := 7) t54_7 rfl (by omega) ?_
                refine zs_iload_n (pc := 10) t54_10 rfl ?_
                refine zs_iload_n (pc := 11) t54_11 rfl ?_
                obtain ⟨w161v, w161⟩ : ∃ v, w132v * (zI w117M 242 5) = v := ⟨_, rfl⟩
                have w161g := zrg w161v
                refine zs_imul (pc := 12) t54_12 (c := w161v) w161 ?_
                refine zs_iload_n (pc := 13) t54_13 rfl ?_
                by_cases w162 : w161v.toInt = w130v.toInt
                · refine zs_icmp_eqT (pc := 14) t54_14 rfl rfl (by omega) ?_
                  refine zs_iload_n (pc := 21) t54_21 rfl ?_
                  refine zs_iret (pc := 22) t54_22 mr54 rfl ?_
                  show zGo X l 1 0 0 114 107 [(6, .int w130v), (5, .int (zI w117M 248 w120n)), (0, .ref 242), (1, .int a), (2, .int (24 : Int32)), (3, .int (160 : Int32)), (4, .int w117x4)] [.int w132v] w117M _
                  refine zs_istore (pc := 107) t114_107 (ls' := [(7, .int w132v), (6, .int w130v), (5, .int (zI w117M 248 w120n)), (0, .ref 242), (1, .int a), (2, .int (24 : Int32)), (3, .int (160 : Int32)), (4, .int w117x4)]) (zml mf114 (by decide)) rfl ?_
                  refine zs_aload_n (pc := 109) t114_109 rfl ?_
                  refine zs_iload (pc := 110) t114_110 rfl ?_
                  refine zs_invV (pc := 112) (k := 242) (as' := [.int w132v]) (st := []) t114_112 mf117 rfl rfl (Or.inl ⟨by decide, (zk1 (w117s.k fk_zMc_242))⟩) ⟨by decide, by decide, Nat.le_of_ble_eq_true rfl, Nat.le_of_ble_eq_true rfl⟩ (C117_242 w117s w117I ?_) (fun _ _ q => q)
                  intro w163M w163v w163s w163I w163F w163a w163b
                  show zGo X l 1 0 0 114 115 [(7, .int w132v), (6, .int w130v), (5, .int (zI w117M 248 w120n)), (0, .ref 242), (1, .int a), (2, .int (24 : Int32)), (3, .int (160 : Int32)), (4, .int w117x4)] [.int w163v] w163M _
                  refine zs_istore (pc := 115) t114_115 (ls' := [(8, .int w163v), (7, .int w132v), (6, .int w130v), (5, .int (zI w117M 248 w120n)), (0, .ref 242), (1, .int a), (2, .int (24 : Int32)), (3, .int (160 : Int32)), (4, .int w117x4)]) (zml mf114 (by decide)) rfl ?_
                  refine zs_aload_n (pc := 117) t114_117 rfl ?_
                  refine zs_get (pc := 118) t114_118 (by decide) (zk1 (w163s.k fk_zMc_242)) (w163s.p rfl fv_zMc_242_13) ?_
                  refine zs_iload (pc := 121) t114_121 rfl ?_
                  obtain ⟨w164n, w164⟩ : ∃ n : Nat, w163v.toInt = (n : Int) := ⟨w163v.toInt.toNat, by omega⟩
                  have w165 := ib252 w163I w164n
                  refine zs_iald (pc := 123) t114_123 (j := w164n) (by decide) (zk1 (w163s.k fk_zMc_252)) w164 (zk2 (w163s.k fk_zMc_252) (by omega)) rfl ?_
                  refine zs_iconst (pc := 124) t114_124 (v := 1) (by decide) ?_
                  refine zs_iload (pc := 125) t114_125 rfl ?_
                  obtain ⟨w166v, w166⟩ : ∃ v, (1 : Int32) <<< ((zI w117M 248 w120n) &&& 31) = v := ⟨_, rfl⟩
                  have w166g := zrg w166v
                  refine zs_ishl (pc := 127) t114_127 (c := w166v) w166 ?_
                  obtain ⟨w167v, w167⟩ : ∃ v, (zI w163M 252 w164n) &&& w166v = v := ⟨_, rfl⟩
                  have w167g := zrg w167v
                  refine zs_iand (pc := 128) t114_128 (c := w167v) w167 ?_
                  by_cases w168 : w167v.toInt = 0
                  · refine zs_if_eqT (pc := 129) t114_129 rfl (by omega) ?_
                    refine zs_aload_n (pc := 135) t114_135 rfl ?_
                    refine zs_get (pc := 136) t114_136 (by decide) (zk1 (w163s.k fk_zMc_242)) (w163s.p rfl fv_zMc_242_13) ?_
                    refine zs_iload (pc := 139) t114_139 rfl ?_
                    refine zs_dup2 (pc := 141) t114_141 ⟨rfl, rfl⟩ ?_
                    refine zs_iald (pc := 142) t114_142 (j := w164n) (by decide) (zk1 (w163s.k fk_zMc_252)) w164 (zk2 (w163s.k fk_zMc_252) (by omega)) rfl ?_
                    refine zs_iconst (pc := 143) t114_143 (v := 1) (by decide) ?_
                    refine zs_iload (pc := 144) t114_144 rfl ?_
                    obtain ⟨w169v, w169⟩ : ∃ v, (1 : Int32) <<< ((zI w117M 248 w120n) &&& 31) = v := ⟨_, rfl⟩
                    have w169g := zrg w169v
                    refine zs_ishl (pc := 146) t114_146 (c := w169v) w169 ?_
                    obtain ⟨w170v, w170⟩ : ∃ v, (zI w163M 252 w164n) ||| w169v = v := ⟨_, rfl⟩
                    have w170g := zrg w170v
                    refine zs_ior (pc := 147) t114_147 (c := w170v) w170 ?_
                    have w171 : zIv cLo cHi (zsI w163M 252 w164n w170v) := zIv.put w163I (show (-2147483648) ≤ w170v.toInt ∧ w170v.toInt ≤ 2147483647 from (zrg w170v))
                    refine zs_iast (pc := 148) t114_148 (j := w164n) (by decide) (zk1 (w163s.k fk_zMc_252)) w164 (zk2 (w163s.k fk_zMc_252) (by omega)) ?_
                    refine zs_aload_n (pc := 149) t114_149 rfl ?_
                    refine zs_get (pc := 150) t114_150 (by decide) (zk1 (w163s.k fk_zMc_242)) (w163s.p rfl fv_zMc_242_14) ?_
                    refine zs_iload (pc := 153) t114_153 rfl ?_
                    refine zs_dup2 (pc := 155) t114_155 ⟨rfl, rfl⟩ ?_
                    have w172 := ib253 w163I w164n
                    refine zs_iald (pc := 156) t114_156 (j := w164n) (by decide) (zk1 (w163s.k fk_zMc_253)) w164 (zk2 (w163s.k fk_zMc_253) (by omega)) ((zIo (by decide)).trans rfl) ?_
                    refine zs_iconst (pc := 157) t114_157 (v := 1) (by decide) ?_
                    obtain ⟨w173v, w173⟩ : ∃ v, v = (zI w163M 253 w164n) + (1 : Int32) := ⟨_, rfl⟩
                    have w173g := zrg w173v
                    refine zs_iadd (pc := 158) t114_158 (c := w173v) w173.symm ?_
                    have w174 : zIv cLo cHi (zsI (zsI w163M 252 w164n w170v) 253 w164n w173v) := zIv.put w171 (show (-2147483648) ≤ w173v.toInt ∧ w173v.toInt ≤ 2147483647 from (zrg w173v))
                    refine zs_iast (pc := 159) t114_159 (j := w164n) (by decide) (zk1 (w163s.k fk_zMc_253)) w164 (zk2 (w163s.k fk_zMc_253) (by omega)) ?_
                    refine zs_aload_n (pc := 160) t114_160 rfl ?_
                    refine zs_get (pc := 161) t114_161 (by decide) (zk1 (w163s.k fk_zMc_242)) (w163s.p rfl fv_zMc_242_14) ?_
                    refine zs_iload (pc := 164) t114_164 rfl ?_
                    refine zs_iald (pc := 166) t114_166 (j := w164n) (by decide) (zk1 (w163s.k fk_zMc_253)) w164 (zk2 (w163s.k fk_zMc_253) (by omega)) zIs ?_
                    refine zs_istore (pc := 167) t114_167 (ls' := [(9, .int w173v), (8, .int w163v), (7, .int w132v), (6, .int w130v), (5, .int (zI w117M 248 w120n)), (0, .ref 242), (1, .int a), (2, .int (24 : Int32)), (3, .int (160 : Int32)), (4, .int w117x4)]) (zml mf114 (by decide)) rfl ?_
                    refine zs_iload (pc := 169) t114_169 rfl ?_
                    refine zs_aload_n (pc := 171) t114_171 rfl ?_
                    have w175 := ib242_17 w163I
                    refine zs_get (pc := 172) t114_172 (by decide) (zk1 (w163s.k fk_zMc_242)) (zfvi rfl ((zIo (by decide)).trans ((zIo (by decide)).trans rfl))) ?_
                    by_cases w176 : (zI w163M 242 17).toInt < w173v.toInt
                    · refine zs_icmp_gtT (pc := 175) t114_175 rfl rfl (by omega) ?_
                      refine zs_aload_n (pc := 196) t114_196 rfl ?_
                      refine zs_iload (pc := 197) t114_197 rfl ?_
                      have w177 : zIv cLo cHi (zsI (zsI (zsI w163M 252 w164n w170v) 253 w164n w173v) 242 17 w173v) := zIv.put w174 (show (-2147483648) ≤ w173v.toInt ∧ w173v.toInt ≤ 2147483647 from (zrg w173v))
                      refine zs_putI (pc := 199) t114_199 (zk1 (w163s.k fk_zMc_242)) rfl ?_
                      refine zs_aload_n (pc := 202) t114_202 rfl ?_
                      refine zs_iload (pc := 203) t114_203 rfl ?_
                      have w178 : zIv cLo cHi (zsI (zsI (zsI (zsI w163M 252 w164n w170v) 253 w164n w173v) 242 17 w173v) 242 18 w132v) := zIv.put w177 (show (-2147483648) ≤ w132v.toInt ∧ w132v.toInt ≤ 2147483647 from (zrg w132v))
                      refine zs_putI (pc := 205) t114_205 (zk1 (w163s.k fk_zMc_242)) rfl ?_
                      obtain ⟨w179v, w179e, w179⟩ := ziadd (a := w117x4) (b := Int32.ofInt 1) rfl (show (Int32.ofInt 1).toInt = 1 by decide) (by omega) (by omega)
                      refine zs_iinc (pc := 208) t114_208 (ls' := [(4, .int w179v), (9, .int w173v), (8, .int w163v), (7, .int w132v), (6, .int w130v), (5, .int (zI w117M 248 w120n)), (0, .ref 242), (1, .int a), (2, .int (24 : Int32)), (3, .int (160 : Int32))]) (zml mf114 (by decide)) rfl (c := w179v) w179e rfl ?_
                      refine zs_goto (pc := 211) t114_211 ?_
                      refine zGo.locals (ls' := [(0, .ref 242), (1, .int a), (2, .int (24 : Int32)), (3, .int (160 : Int32)), (4, .int w179v)]) (by simp) ?_
                      exact w117ih (w117m - 1) (by omega) w179v (zsI (zsI (zsI (zsI w163M 252 w164n w170v) 253 w164n w173v) 242 17 w173v) 242 18 w132v) ⟨by omega, by omega⟩ w163s w178 (((((((zFr.refl).trans (w117F.mono rfl)).trans (w163F.mono rfl)).put rfl).put rfl).put rfl).put rfl) (by omega)
                    · refine zs_icmp_gtF (pc := 175) t114_175 rfl rfl (by omega) ?_
                      refine zs_iload (pc := 178) t114_178 rfl ?_
                      refine zs_aload_n (pc := 180) t114_180 rfl ?_
                      refine zs_get (pc := 181) t114_181 (by decide) (zk1 (w163s.k fk_zMc_242)) (zfvi rfl ((zIo (by decide)).trans ((zIo (by decide)).trans rfl))) ?_
                      by_cases w180 : w173v.toInt ≠ (zI w163M 242 17).toInt
                      · refine zs_icmp_neT (pc := 184) t114_184 rfl rfl (by omega) ?_
                        obtain ⟨w181v, w181e, w181⟩ := ziadd (a := w117x4) (b := Int32.ofInt 1) rfl (show (Int32.ofInt 1).toInt = 1 by decide) (by omega) (by omega)
                        refine zs_iinc (pc := 208) t114_208 (ls' := [(4, .int w181v), (9, .int w173v), (8, .int w163v), (7, .int w132v), (6, .int w130v), (5, .int (zI w117M 248 w120n)), (0, .ref 242), (1, .int a), (2, .int (24 : Int32)), (3, .int (160 : Int32))]) (zml mf114 (by decide)) rfl (c := w181v) w181e rfl ?_
                        refine zs_goto (pc := 211) t114_211 ?_
                        refine zGo.locals (ls' := [(0, .ref 242), (1, .int a), (2, .int (24 : Int32)), (3, .int (160 : Int32)), (4, .int w181v)]) (by simp) ?_
                        exact w117ih (w117m - 1) (by omega) w181v (zsI (zsI w163M 252 w164n w170v) 253 w164n w173v) ⟨by omega, by omega⟩ w163s w174 (((((zFr.refl).trans (w117F.mono rfl)).trans (w163F.mono rfl)).put rfl).put rfl) (by omega)
                      · refine zs_icmp_neF (pc := 184) t114_184 rfl rfl (by omega) ?_
                        refine zs_iload (pc := 187) t114_187 rfl ?_
                        refine zs_aload_n (pc := 189) t114_189 rfl ?_
                        have w182 := ib242_18 w163I
                        refine zs_get (pc := 190) t114_190 (by decide) (zk1 (w163s.k fk_zMc_242)) (zfvi rfl ((zIo (by decide)).trans ((zIo (by decide)).trans rfl))) ?_
                        by_cases w183 : (zI w163M 242 18).toInt ≤ w132v.toInt
                        · refine zs_icmp_geT (pc := 193) t114_193 rfl rfl (by omega) ?_
                          obtain ⟨w184v, w184e, w184⟩ := ziadd (a := w117x4) (b := Int32.ofInt 1) rfl (show (Int32.ofInt 1).toInt = 1 by decide) (by omega) (by omega)
                          refine zs_iinc (pc := 208) t114_208 (ls' := [(4, .int w184v), (9, .int w173v), (8, .int w163v), (7, .int w132v), (6, .int w130v), (5, .int (zI w117M 248 w120n)), (0, .ref 242), (1, .int a), (2, .int (24 : Int32)), (3, .int (160 : Int32))]) (zml mf114 (by decide)) rfl (c := w184v) w184e rfl ?_
                          refine zs_goto (pc := 211) t114_211 ?_
                          refine zGo.locals (ls' := [(0, .ref 242), (1, .int a), (2, .int (24 : Int32)), (3, .int (160 : Int32)), (4, .int w184v)]) (by simp) ?_
                          exact w117ih (w117m - 1) (by omega) w184v (zsI (zsI w163M 252 w164n w170v) 253 w164n w173v) ⟨by omega, by omega⟩ w163s w174 (((((zFr.refl).trans (w117F.mono rfl)).trans (w163F.mono rfl)).put rfl).put rfl) (by omega)
                        · refine zs_icmp_geF (pc := 193) t114_193 rfl rfl (by omega) ?_
                          refine zs_aload_n (pc := 196) t114_196 rfl ?_
                          refine zs_iload (pc := 197) t114_197 rfl ?_
                          have w185 : zIv cLo cHi (zsI (zsI (zsI w163M 252 w164n w170v) 253 w164n w173v) 242 17 w173v) := zIv.put w174 (show (-2147483648) ≤ w173v.toInt ∧ w173v.toInt ≤ 2147483647 from (zrg w173v))
                          refine zs_putI (pc := 199) t114_199 (zk1 (w163s.k fk_zMc_242)) rfl ?_
                          refine zs_aload_n (pc := 202) t114_202 rfl ?_
                          refine zs_iload (pc := 203) t114_203 rfl ?_
                          have w186 : zIv cLo cHi (zsI (zsI (zsI (zsI w163M 252 w164n w170v) 253 w164n w173v) 242 17 w173v) 242 18 w132v) := zIv.put w185 (show (-2147483648) ≤ w132v.toInt ∧ w132v.toInt ≤ 2147483647 from (zrg w132v))
                          refine zs_putI (pc := 205) t114_205 (zk1 (w163s.k fk_zMc_242)) rfl ?_
                          obtain ⟨w187v, w187e, w187⟩ := ziadd (a := w117x4) (b := Int32.ofInt 1) rfl (show (Int32.ofInt 1).toInt = 1 by decide) (by omega) (by omega)
                          refine zs_iinc (pc := 208) t114_208 (ls' := [(4, .int w187v), (9, .int w173v), (8, .int w163v), (7, .int w132v), (6, .int w130v), (5, .int (zI w117M 248 w120n)), (0, .ref 242), (1, .int a), (2, .int (24 : Int32)), (3, .int (160 : Int32))]) (zml mf114 (by decide)) rfl (c := w187v) w187e rfl ?_
                          refine zs_goto (pc := 211) t114_211 ?_
                          refine zGo.locals (ls' := [(0, .ref 242), (1, .int a), (2, .int (24 : Int32)), (3, .int (160 : Int32)), (4, .int w187v)]) (by simp) ?_
                          exact w117ih (w117m - 1) (by omega) w187v (zsI (zsI (zsI (zsI w163M 252 w164n w170v) 253 w164n w173v) 242 17 w173v) 242 18 w132v) ⟨by omega, by omega⟩ w163s w186 (((((((zFr.refl).trans (w117F.mono rfl)).trans (w163F.mono rfl)).put rfl).put rfl).put rfl).put rfl) (by omega)
                  · refine zs_if_eqF (pc := 129) t114_129 rfl (by omega) ?_
                    refine zs_goto (pc := 132) t114_132 ?_
                    obtain ⟨w188v, w188e, w188⟩ := ziadd (a := w117x4) (b := Int32.ofInt 1) rfl (show (Int32.ofInt 1).toInt = 1 by decide) (by omega) (by omega)
                    refine zs_iinc (pc := 208) t114_208 (ls' := [(4, .int w188v), (8, .int w163v), (7, .int w132v), (6, .int w130v), (5, .int (zI w117M 248 w120n)), (0, .ref 242), (1, .int a), (2, .int (24 : Int32)), (3, .int (160 : Int32))]) (zml mf114 (by decide)) rfl (c := w188v) w188e rfl ?_
                    refine zs_goto (pc := 211) t114_211 ?_
                    refine zGo.locals (ls' := [(0, .ref 242), (1, .int a), (2, .int (24 : Int32)), (3, .int (160 : Int32)), (4, .int w188v)]) (by simp) ?_
                    exact w117ih (w117m - 1) (by omega) w188v w163M ⟨by omega, by omega⟩ w163s w163I (((zFr.refl).trans (w117F.mono rfl)).trans (w163F.mono rfl)) (by omega)
                · refine zs_icmp_eqF (pc := 14) t54_14 rfl rfl (by omega) ?_
                  refine zs_iload_n (pc := 17) t54_17 rfl ?_
                  refine zs_iconst (pc := 18) t54_18 (v := 1) (by decide) ?_
                  obtain ⟨w189v, w189⟩ : ∃ v, v = w132v - (1 : Int32) := ⟨_, rfl⟩
                  have w189g := zrg w189v
                  refine zs_isub (pc := 19) t54_19 (c := w189v) w189.symm ?_
                  refine zs_iret (pc := 20) t54_20 mr54 rfl ?_
                  show zGo X l 1 0 0 114 107 [(6, .int w130v), (5, .int (zI w117M 248 w120n)), (0, .ref 242), (1, .int a), (2, .int (24 : Int32)), (3, .int (160 : Int32)), (4, .int w117x4)] [.int w189v] w117M _
                  refine zs_istore (pc := 107) t114_107 (ls' := [(7, .int w189v), (6, .int w130v), (5, .int (zI w117M 248 w120n)), (0, .ref 242), (1, .int a), (2, .int (24 : Int32)), (3, .int (160 : Int32)), (4, .int w117x4)]) (zml mf114 (by decide)) rfl ?_
                  refine zs_aload_n (pc := 109) t114_109 rfl ?_
                  refine zs_iload (pc := 110) t114_110 rfl ?_
                  refine zs_invV (pc := 112) (k := 242) (as' := [.int w189v]) (st := []) t114_112 mf117 rfl rfl (Or.inl ⟨by decide, (zk1 (w117s.k fk_zMc_242))⟩) ⟨by decide, by decide, Nat.le_of_ble_eq_true rfl, Nat.le_of_ble_eq_true rfl⟩ (C117_242 w117s w117I ?_) (fun _ _ q => q)
                  intro w190M w190v w190s w190I w190F w190a w190b
                  show zGo X l 1 0 0 114 115 [(7, .int w189v), (6, .int w130v), (5, .int (zI w117M 248 w120n)), (0, .ref 242), (1, .int a), (2, .int (24 : Int32)), (3, .int (160 : Int32)), (4, .int w117x4)] [.int w190v] w190M _
                  refine zs_istore (pc := 115) t114_115 (ls' := [(8, .int w190v), (7, .int w189v), (6, .int w130v), (5, .int (zI w117M 248 w120n)), (0, .ref 242), (1, .int a), (2, .int (24 : Int32)), (3, .int (160 : Int32)), (4, .int w117x4)]) (zml mf114 (by decide)) rfl ?_
                  refine zs_aload_n (pc := 117) t114_117 rfl ?_
                  refine zs_get (pc := 118) t114_118 (by decide) (zk1 (w190s.k fk_zMc_242)) (w190s.p rfl fv_zMc_242_13) ?_
                  refine zs_iload (pc := 121) t114_121 rfl ?_
                  obtain ⟨w191n, w191⟩ : ∃ n : Nat, w190v.toInt = (n : Int) := ⟨w190v.toInt.toNat, by omega⟩
                  have w192 := ib252 w190I w191n
                  refine zs_iald (pc := 123) t114_123 (j := w191n) (by decide) (zk1 (w190s.k fk_zMc_252)) w191 (zk2 (w190s.k fk_zMc_252) (by omega)) rfl ?_
                  refine zs_iconst (pc := 124) t114_124 (v := 1) (by decide) ?_
                  refine zs_iload (pc := 125) t114_125 rfl ?_
                  obtain ⟨w193v, w193⟩ : ∃ v, (1 : Int32) <<< ((zI w117M 248 w120n) &&& 31) = v := ⟨_, rfl⟩
                  have w193g := zrg w193v
                  refine zs_ishl (pc := 127) t114_127 (c := w193v) w193 ?_
                  obtain ⟨w194v, w194⟩ : ∃ v, (zI w190M 252 w191n) &&& w193v = v := ⟨_, rfl⟩
                  have w194g := zrg w194v
                  refine zs_iand (pc := 128) t114_128 (c := w194v) w194 ?_
                  by_cases w195 : w194v.toInt = 0
                  · refine zs_if_eqT (pc := 129) t114_129 rfl (by omega) ?_
                    refine zs_aload_n (pc := 135) t114_135 rfl ?_
                    refine zs_get (pc := 136) t114_136 (by decide) (zk1 (w190s.k fk_zMc_242)) (w190s.p rfl fv_zMc_242_13) ?_
                    refine zs_iload (pc := 139) t114_139 rfl ?_
                    refine zs_dup2 (pc := 141) t114_141 ⟨rfl, rfl⟩ ?_
                    refine zs_iald (pc := 142) t114_142 (j := w191n) (by decide) (zk1 (w190s.k fk_zMc_252)) w191 (zk2 (w190s.k fk_zMc_252) (by omega)) rfl ?_
                    refine zs_iconst (pc := 143) t114_143 (v := 1) (by decide) ?_
                    refine zs_iload (pc := 144) t114_144 rfl ?_
                    obtain ⟨w196v, w196⟩ : ∃ v, (1 : Int32) <<< ((zI w117M 248 w120n) &&& 31) = v := ⟨_, rfl⟩
                    have w196g := zrg w196v
                    refine zs_ishl (pc := 146) t114_146 (c := w196v) w196 ?_
                    obtain ⟨w197v, w197⟩ : ∃ v, (zI w190M 252 w191n) ||| w196v = v := ⟨_, rfl⟩
                    have w197g := zrg w197v
                    refine zs_ior (pc := 147) t114_147 (c := w197v) w197 ?_
                    have w198 : zIv cLo cHi (zsI w190M 252 w191n w197v) := zIv.put w190I (show (-2147483648) ≤ w197v.toInt ∧ w197v.toInt ≤ 2147483647 from (zrg w197v))
                    refine zs_iast (pc := 148) t114_148 (j := w191n) (by decide) (zk1 (w190s.k fk_zMc_252)) w191 (zk2 (w190s.k fk_zMc_252) (by omega)) ?_
                    refine zs_aload_n (pc := 149) t114_149 rfl ?_
                    refine zs_get (pc := 150) t114_150 (by decide) (zk1 (w190s.k fk_zMc_242)) (w190s.p rfl fv_zMc_242_14) ?_
                    refine zs_iload (pc := 153) t114_153 rfl ?_
                    refine zs_dup2 (pc := 155) t114_155 ⟨rfl, rfl⟩ ?_
                    have w199 := ib253 w190I w191n
                    refine zs_iald (pc := 156) t114_156 (j := w191n) (by decide) (zk1 (w190s.k fk_zMc_253)) w191 (zk2 (w190s.k fk_zMc_253) (by omega)) ((zIo (by decide)).trans rfl) ?_
                    refine zs_iconst (pc := 157) t114_157 (v := 1) (by decide) ?_
                    obtain ⟨w200v, w200⟩ : ∃ v, v = (zI w190M 253 w191n) + (1 : Int32) := ⟨_, rfl⟩
                    have w200g := zrg w200v
                    refine zs_iadd (pc := 158) t114_158 (c := w200v) w200.symm ?_
                    have w201 : zIv cLo cHi (zsI (zsI w190M 252 w191n w197v) 253 w191n w200v) := zIv.put w198 (show (-2147483648) ≤ w200v.toInt ∧ w200v.toInt ≤ 2147483647 from (zrg w200v))
                    refine zs_iast (pc := 159) t114_159 (j := w191n) (by decide) (zk1 (w190s.k fk_zMc_253)) w191 (zk2 (w190s.k fk_zMc_253) (by omega)) ?_
                    refine zs_aload_n (pc := 160) t114_160 rfl ?_
                    refine zs_get (pc := 161) t114_161 (by decide) (zk1 (w190s.k fk_zMc_242)) (w190s.p rfl fv_zMc_242_14) ?_
                    refine zs_iload (pc := 164) t114_164 rfl ?_
                    refine zs_iald (pc := 166) t114_166 (j := w191n) (by decide) (zk1 (w190s.k fk_zMc_253)) w191 (zk2 (w190s.k fk_zMc_253) (by omega)) zIs ?_
                    refine zs_istore (pc := 167) t114_167 (ls' := [(9, .int w200v), (8, .int w190v), (7, .int w189v), (6, .int w130v), (5, .int (zI w117M 248 w120n)), (0, .ref 242), (1, .int a), (2, .int (24 : Int32)), (3, .int (160 : Int32)), (4, .int w117x4)]) (zml mf114 (by decide)) rfl ?_
                    refine zs_iload (pc := 169) t114_169 rfl ?_
                    refine zs_aload_n (pc := 171) t114_171 rfl ?_
                    have w202 := ib242_17 w190I
                    refine zs_get (pc := 172) t114_172 (by decide) (zk1 (w190s.k fk_zMc_242)) (zfvi rfl ((zIo (by decide)).trans ((zIo (by decide)).trans rfl))) ?_
                    by_cases w203 : (zI w190M 242 17).toInt < w200v.toInt
                    · refine zs_icmp_gtT (pc := 175) t114_175 rfl rfl (by omega) ?_
                      refine zs_aload_n (pc := 196) t114_196 rfl ?_
                      refine zs_iload (pc := 197) t114_197 rfl ?_
                      have w204 : zIv cLo cHi (zsI (zsI (zsI w190M 252 w191n w197v) 253 w191n w200v) 242 17 w200v) := zIv.put w201 (show (-2147483648) ≤ w200v.toInt ∧ w200v.toInt ≤ 2147483647 from (zrg w200v))
                      refine zs_putI (pc := 199) t114_199 (zk1 (w190s.k fk_zMc_242)) rfl ?_
                      refine zs_aload_n (pc := 202) t114_202 rfl ?_
                      refine zs_iload (pc := 203) t114_203 rfl ?_
                      have w205 : zIv cLo cHi (zsI (zsI (zsI (zsI w190M 252 w191n w197v) 253 w191n w200v) 242 17 w200v) 242 18 w189v) := zIv.put w204 (show (-2147483648) ≤ w189v.toInt ∧ w189v.toInt ≤ 2147483647 from (zrg w189v))
                      refine zs_putI (pc := 205) t114_205 (zk1 (w190s.k fk_zMc_242)) rfl ?_
                      obtain ⟨w206v, w206e, w206⟩ := ziadd (a := w117x4) (b := Int32.ofInt 1) rfl (show (Int32.ofInt 1).toInt = 1 by decide) (by omega) (by omega)
                      refine zs_iinc (pc := 208) t114_208 (ls' := [(4, .int w206v), (9, .int w200v), (8, .int w190v), (7, .int w189v), (6, .int w130v), (5, .int (zI w117M 248 w120n)), (0, .ref 242), (1, .int a), (2, .int (24 : Int32)), (3, .int (160 : Int32))]) (zml mf114 (by decide)) rfl (c := w206v) w206e rfl ?_
                      refine zs_goto (pc := 211) t114_211 ?_
                      refine zGo.locals (ls' := [(0, .ref 242), (1, .int a), (2, .int (24 : Int32)), (3, .int (160 : Int32)), (4, .int w206v)]) (by simp) ?_
                      exact w117ih (w117m - 1) (by omega) w206v (zsI (zsI (zsI (zsI w190M 252 w191n w197v) 253 w191n w200v) 242 17 w200v) 242 18 w189v) ⟨by omega, by omega⟩ w190s w205 (((((((zFr.refl).trans (w117F.mono rfl)).trans (w190F.mono rfl)).put rfl).put rfl).put rfl).put rfl) (by omega)
                    · refine zs_icmp_gtF (pc := 175) t114_175 rfl rfl (by omega) ?_
                      refine zs_iload (pc := 178) t114_178 rfl ?_
                      refine zs_aload_n (pc := 180) t114_180 rfl ?_
                      refine zs_get (pc := 181) t114_181 (by decide) (zk1 (w190s.k fk_zMc_242)) (zfvi rfl ((zIo (by decide)).trans ((zIo (by decide)).trans rfl))) ?_
                      by_cases w207 : w200v.toInt ≠ (zI w190M 242 17).toInt
                      · refine zs_icmp_neT (pc := 184) t114_184 rfl rfl (by omega) ?_
                        obtain ⟨w208v, w208e, w208⟩ := ziadd (a := w117x4) (b := Int32.ofInt 1) rfl (show (Int32.ofInt 1).toInt = 1 by decide) (by omega) (by omega)
                        refine zs_iinc (pc := 208) t114_208 (ls' := [(4, .int w208v), (9, .int w200v), (8, .int w190v), (7, .int w189v), (6, .int w130v), (5, .int (zI w117M 248 w120n)), (0, .ref 242), (1, .int a), (2, .int (24 : Int32)), (3, .int (160 : Int32))]) (zml mf114 (by decide)) rfl (c := w208v) w208e rfl ?_
                        refine zs_goto (pc := 211) t114_211 ?_
                        refine zGo.locals (ls' := [(0, .ref 242), (1, .int a), (2, .int (24 : Int32)), (3, .int (160 : Int32)), (4, .int w208v)]) (by simp) ?_
                        exact w117ih (w117m - 1) (by omega) w208v (zsI (zsI w190M 252 w191n w197v) 253 w191n w200v) ⟨by omega, by omega⟩ w190s w201 (((((zFr.refl).trans (w117F.mono rfl)).trans (w190F.mono rfl)).put rfl).put rfl) (by omega)
                      · refine zs_icmp_neF (pc := 184) t114_184 rfl rfl (by omega) ?_
                        refine zs_iload (pc := 187) t114_187 rfl ?_
                        refine zs_aload_n (pc := 189) t114_189 rfl ?_
                        have w209 := ib242_18 w190I
                        refine zs_get (pc := 190) t114_190 (by decide) (zk1 (w190s.k fk_zMc_242)) (zfvi rfl ((zIo (by decide)).trans ((zIo (by decide)).trans rfl))) ?_
                        by_cases w210 : (zI w190M 242 18).toInt ≤ w189v.toInt
                        · refine zs_icmp_geT (pc := 193) t114_193 rfl rfl (by omega) ?_
                          obtain ⟨w211v, w211e, w211⟩ := ziadd (a := w117x4) (b := Int32.ofInt 1) rfl (show (Int32.ofInt 1).toInt = 1 by decide) (by omega) (by omega)
                          refine zs_iinc (pc := 208) t114_208 (ls' := [(4, .int w211v), (9, .int w200v), (8, .int w190v), (7, .int w189v), (6, .int w130v), (5, .int (zI w117M 248 w120n)), (0, .ref 242), (1, .int a), (2, .int (24 : Int32)), (3, .int (160 : Int32))]) (zml mf114 (by decide)) rfl (c := w211v) w211e rfl ?_
                          refine zs_goto (pc := 211) t114_211 ?_
                          refine zGo.locals (ls' := [(0, .ref 242), (1, .int a), (2, .int (24 : Int32)), (3, .int (160 : Int32)), (4, .int w211v)]) (by simp) ?_
                          exact w117ih (w117m - 1) (by omega) w211v (zsI (zsI w190M 252 w191n w197v) 253 w191n w200v) ⟨by omega, by omega⟩ w190s w201 (((((zFr.refl).trans (w117F.mono rfl)).trans (w190F.mono rfl)).put rfl).put rfl) (by omega)
                        · refine zs_icmp_geF (pc := 193) t114_193 rfl rfl (by omega) ?_
                          refine zs_aload_n (pc := 196) t114_196 rfl ?_
                          refine zs_iload (pc := 197) t114_197 rfl ?_
                          have w212 : zIv cLo cHi (zsI (zsI (zsI w190M 252 w191n w197v) 253 w191n w200v) 242 17 w200v) := zIv.put w201 (show (-2147483648) ≤ w200v.toInt ∧ w200v.toInt ≤ 2147483647 from (zrg w200v))
                          refine zs_putI (pc := 199) t114_199 (zk1 (w190s.k fk_zMc_242)) rfl ?_
                          refine zs_aload_n (pc := 202) t114_202 rfl ?_
                          refine zs_iload (pc := 203) t114_203 rfl ?_
                          have w213 : zIv cLo cHi (zsI (zsI (zsI (zsI w190M 252 w191n w197v) 253 w191n w200v) 242 17 w200v) 242 18 w189v) := zIv.put w212 (show (-2147483648) ≤ w189v.toInt ∧ w189v.toInt ≤ 2147483647 from (zrg w189v))
                          refine zs_putI (pc := 205) t114_205 (zk1 (w190s.k fk_zMc_242)) rfl ?_
                          obtain ⟨w214v, w214e, w214⟩ := ziadd (a := w117x4) (b := Int32.ofInt 1) rfl (show (Int32.ofInt 1).toInt = 1 by decide) (by omega) (by omega)
                          refine zs_iinc (pc := 208) t114_208 (ls' := [(4, .int w214v), (9, .int w200v), (8, .int w190v), (7, .int w189v), (6, .int w130v), (5, .int (zI w117M 248 w120n)), (0, .ref 242), (1, .int a), (2, .int (24 : Int32)), (3, .int (160 : Int32))]) (zml mf114 (by decide)) rfl (c := w214v) w214e rfl ?_
                          refine zs_goto (pc := 211) t114_211 ?_
                          refine zGo.locals (ls' := [(0, .ref 242), (1, .int a), (2, .int (24 : Int32)), (3, .int (160 : Int32)), (4, .int w214v)]) (by simp) ?_
                          exact w117ih (w117m - 1) (by omega) w214v (zsI (zsI (zsI (zsI w190M 252 w191n w197v) 253 w191n w200v) 242 17 w200v) 242 18 w189v) ⟨by omega, by omega⟩ w190s w213 (((((((zFr.refl).trans (w117F.mono rfl)).trans (w190F.mono rfl)).put rfl).put rfl).put rfl).put rfl) (by omega)
                  · refine zs_if_eqF (pc := 129) t114_129 rfl (by omega) ?_
                    refine zs_goto (pc := 132) t114_132 ?_
                    obtain ⟨w215v, w215e, w215⟩ := ziadd (a := w117x4) (b := Int32.ofInt 1) rfl (show (Int32.ofInt 1).toInt = 1 by decide) (by omega) (by omega)
                    refine zs_iinc (pc := 208) t114_208 (ls' := [(4, .int w215v), (8, .int w190v), (7, .int w189v), (6, .int w130v), (5, .int (zI w117M 248 w120n)), (0, .ref 242), (1, .int a), (2, .int (24 : Int32)), (3, .int (160 : Int32))]) (zml mf114 (by decide)) rfl (c := w215v) w215e rfl ?_
                    refine zs_goto (pc := 211) t114_211 ?_
                    refine zGo.locals (ls' := [(0, .ref 242), (1, .int a), (2, .int (24 : Int32)), (3, .int (160 : Int32)), (4, .int w215v)]) (by simp) ?_
                    exact w117ih (w117m - 1) (by omega) w215v w190M ⟨by omega, by omega⟩ w190s w190I (((zFr.refl).trans (w117F.mono rfl)).trans (w190F.mono rfl)) (by omega)
        refine zGo.locals (ls' := [(0, .ref 242), (1, .int a), (2, .int (24 : Int32)), (3, .int (160 : Int32)), (4, .int (0 : Int32))]) (by simp) ?_
        have w216 := li0
        exact w117L ((60 - 0 : Int).toNat) (0 : Int32) (zsI (zsI (zsI (zsI M 242 10 w112v) 242 15 (0 : Int32)) 242 17 (0 : Int32)) 242 18 (0 : Int32)) ⟨by decide, by decide⟩ hs w116 zFr.refl (by omega)
      · refine zs_icmp_geF (pc := 9) t116_9 rfl rfl (by omega) ?_
        refine zs_aload_n (pc := 12) t116_12 rfl ?_
        refine zs_get (pc := 13) t116_13 (by decide) (zk1 (hs.k fk_zMc_242)) (hs.p rfl fv_zMc_242_2) ?_
        refine zs_iload_n (pc := 16) t116_16 rfl ?_
        obtain ⟨w217n, w217⟩ : ∃ n : Nat, a.toInt = (n : Int) := ⟨a.toInt.toNat, by omega⟩
        have w218 := ib244 hI w217n
        refine zs_iald (pc := 17) t116_17 (j := w217n) (by decide) (zk1 (hs.k fk_zMc_244)) w217 (zk2 (hs.k fk_zMc_244) (by omega)) rfl ?_
        refine zs_goto (pc := 18) t116_18 ?_
        refine zs_iret (pc := 22) t116_22 mr116 rfl ?_
        show zGo X l 1 0 0 114 16 [(2, .int (24 : Int32)), (0, .ref 242), (1, .int a)] [.int (zI M 244 w217n)] M _
        refine zs_bipush (pc := 16) t114_16 (v := 20) (by decide) ?_
        obtain ⟨w219v, w219e, w219⟩ := ziadd (a := (zI M 244 w217n)) (b := (20 : Int32)) rfl li20 (by omega) (by omega)
        refine zs_iadd (pc := 18) t114_18 (c := w219v) w219e ?_
        refine zs_bipush (pc := 19) t114_19 (v := 8) (by decide) ?_
        obtain ⟨w220v, w220⟩ : ∃ v, w219v * (8 : Int32) = v := ⟨_, rfl⟩
        have w220g : w220v.toInt = ((zI M 244 w217n).toInt + 20) * 8 := by rw [← w220]; exact zmulc w219 li8 (by omega) (by omega)
        refine zs_imul (pc := 21) t114_21 (c := w220v) w220 ?_
        refine zs_istore_n (pc := 22) t114_22 (ls' := [(3, .int w220v), (2, .int (24 : Int32)), (0, .ref 242), (1, .int a)]) (zml mf114 (by decide)) rfl ?_
        refine zs_aload_n (pc := 23) t114_23 rfl ?_
        refine zs_dup (pc := 24) t114_24 rfl ?_
        have w221 := ib242_10 hI
        refine zs_get (pc := 25) t114_25 (by decide) (zk1 (hs.k fk_zMc_242)) (zfvi rfl rfl) ?_
        refine zs_iconst (pc := 28) t114_28 (v := 1) (by decide) ?_
        obtain ⟨w222v, w222⟩ : ∃ v, v = (zI M 242 10) + (1 : Int32) := ⟨_, rfl⟩
        have w222g := zrg w222v
        refine zs_iadd (pc := 29) t114_29 (c := w222v) w222.symm ?_
        have w223 : zIv cLo cHi (zsI M 242 10 w222v) := zIv.put hI (show (-2147483648) ≤ w222v.toInt ∧ w222v.toInt ≤ 2147483647 from (zrg w222v))
        refine zs_putI (pc := 30) t114_30 (zk1 (hs.k fk_zMc_242)) rfl ?_
        refine zs_aload_n (pc := 33) t114_33 rfl ?_
        refine zs_iconst (pc := 34) t114_34 (v := 0) (by decide) ?_
        have w224 : zIv cLo cHi (zsI (zsI M 242 10 w222v) 242 15 (0 : Int32)) := zIv.put w223 (show 0 ≤ (0 : Int32).toInt ∧ (0 : Int32).toInt ≤ 60 from ⟨by decide, by decide⟩)
        refine zs_putI (pc := 35) t114_35 (zk1 (hs.k fk_zMc_242)) rfl ?_
        refine zs_aload_n (pc := 38) t114_38 rfl ?_
        refine zs_iconst (pc := 39) t114_39 (v := 0) (by decide) ?_
        have w225 : zIv cLo cHi (zsI (zsI (zsI M 242 10 w222v) 242 15 (0 : Int32)) 242 17 (0 : Int32)) := zIv.put w224 (show (-2147483648) ≤ (0 : Int32).toInt ∧ (0 : Int32).toInt ≤ 2147483647 from (zrg (0 : Int32)))
        refine zs_putI (pc := 40) t114_40 (zk1 (hs.k fk_zMc_242)) rfl ?_
        refine zs_aload_n (pc := 43) t114_43 rfl ?_
        refine zs_iconst (pc := 44) t114_44 (v := 0) (by decide) ?_
        have w226 : zIv cLo cHi (zsI (zsI (zsI (zsI M 242 10 w222v) 242 15 (0 : Int32)) 242 17 (0 : Int32)) 242 18 (0 : Int32)) := zIv.put w225 (show (-2147483648) ≤ (0 : Int32).toInt ∧ (0 : Int32).toInt ≤ 2147483647 from (zrg (0 : Int32)))
        refine zs_putI (pc := 45) t114_45 (zk1 (hs.k fk_zMc_242)) rfl ?_
        refine zs_iconst (pc := 48) t114_48 (v := 0) (by decide) ?_
        refine zs_istore (pc := 49) t114_49 (ls' := [(4, .int (0 : Int32)), (3, .int w220v), (2, .int (24 : Int32)), (0, .ref 242), (1, .int a)]) (zml mf114 (by decide)) rfl ?_
        have w227L : ∀ (m : Nat) (w227x4 : Int32) (w227M : zM), (0 ≤ w227x4.toInt ∧ w227x4.toInt ≤ 60) → zSk zMc w227M → zIv cLo cHi w227M → zFr [(242, 254, none)] (zsI (zsI (zsI (zsI M 242 10 w222v) 242 15 (0 : Int32)) 242 17 (0 : Int32)) 242 18 (0 : Int32)) w227M → 60 - w227x4.toInt ≤ (m : Int) → zGo X l 1 0 0 114 51 [(0, .ref 242), (1, .int a), (2, .int (24 : Int32)), (3, .int w220v), (4, .int w227x4)] [] w227M Q := by
          intro m
          induction m using Nat.strongRecOn with
          | ind w227m w227ih =>
            intro w227x4 w227M w227b4 w227s w227I w227F w227q
            refine zs_iload (pc := 51) t114_51 rfl ?_
            refine zs_aload_n (pc := 53) t114_53 rfl ?_
            have w228 := ib242_6 w227I
            refine zs_get (pc := 54) t114_54 (by decide) (zk1 (w227s.k fk_zMc_242)) (zfvi rfl rfl) ?_
            by_cases w229 : (zI w227M 242 6).toInt ≤ w227x4.toInt
            · refine zs_icmp_geT (pc := 57) t114_57 rfl rfl (by omega) ?_
              exact zs_vret (pc := 214) t114_214 mr114 (hQ _ w227s w227I ((((((zFr.refl).put rfl).put rfl).put rfl).put rfl).trans (w227F.mono rfl)))
            · refine zs_icmp_geF (pc := 57) t114_57 rfl rfl (by omega) ?_
              refine zs_aload_n (pc := 60) t114_60 rfl ?_
              refine zs_get (pc := 61) t114_61 (by decide) (zk1 (w227s.k fk_zMc_242)) (w227s.p rfl fv_zMc_242_8) ?_
              refine zs_iload (pc := 64) t114_64 rfl ?_
              obtain ⟨w230n, w230⟩ : ∃ n : Nat, w227x4.toInt = (n : Int) := ⟨w227x4.toInt.toNat, by omega⟩
              have w231 := ib248 w227I w230n
              refine zs_iald (pc := 66) t114_66 (j := w230n) (by decide) (zk1 (w227s.k fk_zMc_248)) w230 (zk2 (w227s.k fk_zMc_248) (by omega)) rfl ?_
              refine zs_istore (pc := 67) t114_67 (ls' := [(5, .int (zI w227M 248 w230n)), (0, .ref 242), (1, .int a), (2, .int (24 : Int32)), (3, .int w220v), (4, .int w227x4)]) (zml mf114 (by decide)) rfl ?_
              refine zs_aload_n (pc := 69) t114_69 rfl ?_
              refine zs_get (pc := 70) t114_70 (by decide) (zk1 (w227s.k fk_zMc_242)) (w227s.p rfl fv_zMc_242_9) ?_
              refine zs_iload (pc := 73) t114_73 rfl ?_
              have w232 := ib249 w227I w230n
              refine zs_iald (pc := 75) t114_75 (j := w230n) (by decide) (zk1 (w227s.k fk_zMc_249)) w230 (zk2 (w227s.k fk_zMc_249) (by omega)) rfl ?_
              refine zs_aload_n (pc := 76) t114_76 rfl ?_
              refine zs_get (pc := 77) t114_77 (by decide) (zk1 (w227s.k fk_zMc_242)) (w227s.p rfl fv_zMc_242_3) ?_
              refine zs_iload_n (pc := 80) t114_80 rfl ?_
              refine zs_iload (pc := 81) t114_81 rfl ?_
              obtain ⟨w233v, w233e, w233⟩ := ziadd (a := (24 : Int32)) (b := (zI w227M 248 w230n)) li24 rfl (by omega) (by omega)
              refine zs_iadd (pc := 83) t114_83 (c := w233v) w233e ?_
              obtain ⟨w234n, w234⟩ : ∃ n : Nat, w233v.toInt = (n : Int) := ⟨w233v.toInt.toNat, by omega⟩
              have w235 := ib245 w227I w234n
              refine zs_iald (pc := 84) t114_84 (j := w234n) (by decide) (zk1 (w227s.k fk_zMc_245)) w234 (zk2 (w227s.k fk_zMc_245) (by omega)) rfl ?_
              obtain ⟨w236v, w236⟩ : ∃ v, v = (zI w227M 249 w230n) - (zI w227M 245 w234n) := ⟨_, rfl⟩
              have w236g := zrg w236v
              refine zs_isub (pc := 85) t114_85 (c := w236v) w236.symm ?_
              refine zs_aload_n (pc := 86) t114_86 rfl ?_
              refine zs_get (pc := 87) t114_87 (by decide) (zk1 (w227s.k fk_zMc_242)) (w227s.p rfl fv_zMc_242_4) ?_
              refine zs_iload_n (pc := 90) t114_90 rfl ?_
              refine zs_iload (pc := 91) t114_91 rfl ?_
              obtain ⟨w237v, w237e, w237⟩ := ziadd (a := w220v) (b := (zI w227M 248 w230n)) rfl rfl (by omega) (by omega)
              refine zs_iadd (pc := 93) t114_93 (c := w237v) w237e ?_
              obtain ⟨w238n, w238⟩ : ∃ n : Nat, w237v.toInt = (n : Int) := ⟨w237v.toInt.toNat, by omega⟩
              have w239 := ib246 w227I w238n
              refine zs_iald (pc := 94) t114_94 (j := w238n) (by decide) (zk1 (w227s.k fk_zMc_246)) w238 (zk2 (w227s.k fk_zMc_246) (by omega)) rfl ?_
              obtain ⟨w240v, w240⟩ : ∃ v, v = w236v - (zI w227M 246 w238n) := ⟨_, rfl⟩
              have w240g := zrg w240v
              refine zs_isub (pc := 95) t114_95 (c := w240v) w240.symm ?_
              refine zs_istore (pc := 96) t114_96 (ls' := [(6, .int w240v), (5, .int (zI w227M 248 w230n)), (0, .ref 242), (1, .int a), (2, .int (24 : Int32)), (3, .int w220v), (4, .int w227x4)]) (zml mf114 (by decide)) rfl ?_
              refine zs_iload (pc := 98) t114_98 rfl ?_
              refine zs_aload_n (pc := 100) t114_100 rfl ?_
              have w241 := ib242_5 w227I
              refine zs_get (pc := 101) t114_101 (by decide) (zk1 (w227s.k fk_zMc_242)) (zfvi rfl rfl) ?_
              refine zs_invS (pc := 104) (as := [.int w240v, .int (zI w227M 242 5)]) (st := []) t114_104 (by decide) mf54 rfl rfl ⟨by decide, by decide, Nat.le_of_ble_eq_true rfl, Nat.le_of_ble_eq_true rfl⟩ (zs_in (by decide) mf54 (Nat.le_of_ble_eq_true rfl) ?_) (fun _ _ q => q)
              show zGo X l 0 0 0 54 0 [(0, .int w240v), (1, .int (zI w227M 242 5))] [] w227M _
              refine zs_iload_n (pc := 0) t54_0 rfl ?_
              refine zs_iload_n (pc := 1) t54_1 rfl ?_
              obtain ⟨w242v, w242⟩ : ∃ v, w240v / (zI w227M 242 5) = v := ⟨_, rfl⟩
              have w242g := zrg w242v
              refine zs_idiv (pc := 2) t54_2 (znz rfl (by omega)) (c := w242v) w242 ?_
              refine zs_istore_n (pc := 3) t54_3 (ls' := [(2, .int w242v), (0, .int w240v), (1, .int (zI w227M 242 5))]) (zml mf54 (by decide)) rfl ?_
              refine zs_iload_n (pc := 4) t54_4 rfl ?_
              refine zs_iload_n (pc := 5) t54_5 rfl ?_
              obtain ⟨w243v, w243⟩ : ∃ v, w240v ^^^ (zI w227M 242 5) = v := ⟨_, rfl⟩
              have w243g := zrg w243v
              refine zs_ixor (pc := 6) t54_6 (c := w243v) w243 ?_
              by_cases w244 : 0 ≤ w243v.toInt
              · refine zs_if_geT (pc := 7) t54_7 rfl (by omega) ?_
                refine zs_iload_n (pc := 21) t54_21 rfl ?_
                refine zs_iret (pc := 22) t54_22 mr54 rfl ?_
                show zGo X l 1 0 0 114 107 [(6, .int w240v), (5, .int (zI w227M 248 w230n)), (0, .ref 242), (1, .int a), (2, .int (24 : Int32)), (3, .int w220v), (4, .int w227x4)] [.int w242v] w227M _
                refine zs_istore (pc := 107) t114_107 (ls' := [(7, .int w242v), (6, .int w240v), (5, .int (zI w227M 248 w230n)), (0, .ref 242), (1, .int a), (2, .int (24 : Int32)), (3, .int w220v), (4, .int w227x4)]) (zml mf114 (by decide)) rfl ?_
                refine zs_aload_n (pc := 109) t114_109 rfl ?_
                refine zs_iload (pc := 110) t114_110 rfl ?_
                refine zs_invV (pc := 112) (k := 242) (as' := [.int w242v]) (st := []) t114_112 mf117 rfl rfl (Or.inl ⟨by decide, (zk1 (w227s.k fk_zMc_242))⟩) ⟨by decide, by decide, Nat.le_of_ble_eq_true rfl, Nat.le_of_ble_eq_true rfl⟩ (C117_242 w227s w227I ?_) (fun _ _ q => q)
                intro w245M w245v w245s w245I w245F w245a w245b
                show zGo X l 1 0 0 114 115 [(7, .int w242v), (6, .int w240v), (5, .int (zI w227M 248 w230n)), (0, .ref 242), (1, .int a), (2, .int (24 : Int32)), (3, .int w220v), (4, .int w227x4)] [.int w245v] w245M _
                refine zs_istore (pc := 115) t114_115 (ls' := [(8, .int w245v), (7, .int w242v), (6, .int w240v), (5, .int (zI w227M 248 w230n)), (0, .ref 242), (1, .int a), (2, .int (24 : Int32)), (3, .int w220v), (4, .int w227x4)]) (zml mf114 (by decide)) rfl ?_
                refine zs_aload_n (pc := 117) t114_117 rfl ?_
                refine zs_get (pc := 118) t114_118 (by decide) (zk1 (w245s.k fk_zMc_242)) (w245s.p rfl fv_zMc_242_13) ?_
                refine zs_iload (pc := 121) t114_121 rfl ?_
                obtain ⟨w246n, w246⟩ : ∃ n : Nat, w245v.toInt = (n : Int) := ⟨w245v.toInt.toNat, by omega⟩
                have w247 := ib252 w245I w246n
                refine zs_iald (pc := 123) t114_123 (j := w246n) (by decide) (zk1 (w245s.k fk_zMc_252)) w246 (zk2 (w245s.k fk_zMc_252) (by omega)) rfl ?_
                refine zs_iconst (pc := 124) t114_124 (v := 1) (by decide) ?_
                refine zs_iload (pc := 125) t114_125 rfl ?_
                obtain ⟨w248v, w248⟩ : ∃ v, (1 : Int32) <<< ((zI w227M 248 w230n) &&& 31) = v := ⟨_, rfl⟩
                have w248g := zrg w248v
                refine zs_ishl (pc := 127) t114_127 (c := w248v) w248 ?_
                obtain ⟨w249v, w249⟩ : ∃ v, (zI w245M 252 w246n) &&& w248v = v := ⟨_, rfl⟩
                have w249g := zrg w249v
                refine zs_iand (pc := 128) t114_128 (c := w249v) w249 ?_
                by_cases w250 : w249v.toInt = 0
                · refine zs_if_eqT (pc := 129) t114_129 rfl (by omega) ?_
                  refine zs_aload_n (pc := 135) t114_135 rfl ?_
                  refine zs_get (pc := 136) t114_136 (by decide) (zk1 (w245s.k fk_zMc_242)) (w245s.p rfl fv_zMc_242_13) ?_
                  refine zs_iload (pc := 139) t114_139 rfl ?_
                  refine zs_dup2 (pc := 141) t114_141 ⟨rfl, rfl⟩ ?_
                  refine zs_iald (pc := 142) t114_142 (j := w246n) (by decide) (zk1 (w245s.k fk_zMc_252)) w246 (zk2 (w245s.k fk_zMc_252) (by omega)) rfl ?_
                  refine zs_iconst (pc := 143) t114_143 (v := 1) (by decide) ?_
                  refine zs_iload (pc := 144) t114_144 rfl ?_
                  obtain ⟨w251v, w251⟩ : ∃ v, (1 : Int32) <<< ((zI w227M 248 w230n) &&& 31) = v := ⟨_, rfl⟩
                  have w251g := zrg w251v
                  refine zs_ishl (pc := 146) t114_146 (c := w251v) w251 ?_
                  obtain ⟨w252v, w252⟩ : ∃ v, (zI w245M 252 w246n) ||| w251v = v := ⟨_, rfl⟩
                  have w252g := zrg w252v
                  refine zs_ior (pc := 147) t114_147 (c := w252v) w252 ?_
                  have w253 : zIv cLo cHi (zsI w245M 252 w246n w252v) := zIv.put w245I (show (-2147483648) ≤ w252v.toInt ∧ w252v.toInt ≤ 2147483647 from (zrg w252v))
                  refine zs_iast (pc := 148) t114_148 (j := w246n) (by decide) (zk1 (w245s.k fk_zMc_252)) w246 (zk2 (w245s.k fk_zMc_252) (by omega)) ?_
                  refine zs_aload_n (pc := 149) t114_149 rfl ?_
                  refine zs_get (pc := 150) t114_150 (by decide) (zk1 (w245s.k fk_zMc_242)) (w245s.p rfl fv_zMc_242_14) ?_
                  refine zs_iload (pc := 153) t114_153 rfl ?_
                  refine zs_dup2 (pc := 155) t114_155 ⟨rfl, rfl⟩ ?_
                  have w254 := ib253 w245I w246n
                  refine zs_iald (pc := 156) t114_156 (j := w246n) (by decide) (zk1 (w245s.k fk_zMc_253)) w246 (zk2 (w245s.k fk_zMc_253) (by omega)) ((zIo (by decide)).trans rfl) ?_
                  refine zs_iconst (pc := 157) t114_157 (v := 1) (by decide) ?_
                  obtain ⟨w255v, w255⟩ : ∃ v, v = (zI w245M 253 w246n) + (1 : Int32) := ⟨_, rfl⟩
                  have w255g := zrg w255v
                  refine zs_iadd (pc := 158) t114_158 (c := w255v) w255.symm ?_
                  have w256 : zIv cLo cHi (zsI (zsI w245M 252 w246n w252v) 253 w246n w255v) := zIv.put w253 (show (-2147483648) ≤ w255v.toInt ∧ w255v.toInt ≤ 2147483647 from (zrg w255v))
                  refine zs_iast (pc := 159) t114_159 (j := w246n) (by decide) (zk1 (w245s.k fk_zMc_253)) w246 (zk2 (w245s.k fk_zMc_253) (by omega)) ?_
                  refine zs_aload_n (pc := 160) t114_160 rfl ?_
                  refine zs_get (pc := 161) t114_161 (by decide) (zk1 (w245s.k fk_zMc_242)) (w245s.p rfl fv_zMc_242_14) ?_
                  refine zs_iload (pc := 164) t114_164 rfl ?_
                  refine zs_iald (pc := 166) t114_166 (j := w246n) (by decide) (zk1 (w245s.k fk_zMc_253)) w246 (zk2 (w245s.k fk_zMc_253) (by omega)) zIs ?_
                  refine zs_istore (pc := 167) t114_167 (ls' := [(9, .int w255v), (8, .int w245v), (7, .int w242v), (6, .int w240v), (5, .int (zI w227M 248 w230n)), (0, .ref 242), (1, .int a), (2, .int (24 : Int32)), (3, .int w220v), (4, .int w227x4)]) (zml mf114 (by decide)) rfl ?_
                  refine zs_iload (pc := 169) t114_169 rfl ?_
                  refine zs_aload_n (pc := 171) t114_171 rfl ?_
                  have w257 := ib242_17 w245I
                  refine zs_get (pc := 172) t114_172 (by decide) (zk1 (w245s.k fk_zMc_242)) (zfvi rfl ((zIo (by decide)).trans ((zIo (by decide)).trans rfl))) ?_
                  by_cases w258 : (zI w245M 242 17).toInt < w255v.toInt
                  · refine zs_icmp_gtT (pc := 175) t114_175 rfl rfl (by omega) ?_
                    refine zs_aload_n (pc := 196) t114_196 rfl ?_
                    refine zs_iload (pc := 197) t114_197 rfl ?_
                    have w259 : zIv cLo cHi (zsI (zsI (zsI w245M 252 w246n w252v) 253 w246n w255v) 242 17 w255v) := zIv.put w256 (show (-2147483648) ≤ w255v.toInt ∧ w255v.toInt ≤ 2147483647 from (zrg w255v))
                    refine zs_putI (pc := 199) t114_199 (zk1 (w245s.k fk_zMc_242)) rfl ?_
                    refine zs_aload_n (pc := 202) t114_202 rfl ?_
                    refine zs_iload (pc := 203) t114_203 rfl ?_
                    have w260 : zIv cLo cHi (zsI (zsI (zsI (zsI w245M 252 w246n w252v) 253 w246n w255v) 242 17 w255v) 242 18 w242v) := zIv.put w259 (show (-2147483648) ≤ w242v.toInt ∧ w242v.toInt ≤ 2147483647 from (zrg w242v))
                    refine zs_putI (pc := 205) t114_205 (zk1 (w245s.k fk_zMc_242)) rfl ?_
                    obtain ⟨w261v, w261e, w261⟩ := ziadd (a := w227x4) (b := Int32.ofInt 1) rfl (show (Int32.ofInt 1).toInt = 1 by decide) (by omega) (by omega)
                    refine zs_iinc (pc := 208) t114_208 (ls' := [(4, .int w261v), (9, .int w255v), (8, .int w245v), (7, .int w242v), (6, .int w240v), (5, .int (zI w227M 248 w230n)), (0, .ref 242), (1, .int a), (2, .int (24 : Int32)), (3, .int w220v)]) (zml mf114 (by decide)) rfl (c := w261v) w261e rfl ?_
                    refine zs_goto (pc := 211) t114_211 ?_
                    refine zGo.locals (ls' := [(0, .ref 242), (1, .int a), (2, .int (24 : Int32)), (3, .int w220v), (4, .int w261v)]) (by simp) ?_
                    exact w227ih (w227m - 1) (by omega) w261v (zsI (zsI (zsI (zsI w245M 252 w246n w252v) 253 w246n w255v) 242 17 w255v) 242 18 w242v) ⟨by omega, by omega⟩ w245s w260 (((((((zFr.refl).trans (w227F.mono rfl)).trans (w245F.mono rfl)).put rfl).put rfl).put rfl).put rfl) (by omega)
                  · refine zs_icmp_gtF (pc := 175) t114_175 rfl rfl (by omega) ?_
                    refine zs_iload (pc := 178) t114_178 rfl ?_
                    refine zs_aload_n (pc := 180) t114_180 rfl ?_
                    refine zs_get (pc := 181) t114_181 (by decide) (zk1 (w245s.k fk_zMc_242)) (zfvi rfl ((zIo (by decide)).trans ((zIo (by decide)).trans rfl))) ?_
                    by_cases w262 : w255v.toInt ≠ (zI w245M 242 17).toInt
                    · refine zs_icmp_neT (pc := 184) t114_184 rfl rfl (by omega) ?_
                      obtain ⟨w263v, w263e, w263⟩ := ziadd (a := w227x4) (b := Int32.ofInt 1) rfl (show (Int32.ofInt 1).toInt = 1 by decide) (by omega) (by omega)
                      refine zs_iinc (pc := 208) t114_208 (ls' := [(4, .int w263v), (9, .int w255v), (8, .int w245v), (7, .int w242v), (6, .int w240v), (5, .int (zI w227M 248 w230n)), (0, .ref 242), (1, .int a), (2, .int (24 : Int32)), (3, .int w220v)]) (zml mf114 (by decide)) rfl (c := w263v) w263e rfl ?_
                      refine zs_goto (pc := 211) t114_211 ?_
                      refine zGo.locals (ls' := [(0, .ref 242), (1, .int a), (2, .int (24 : Int32)), (3, .int w220v), (4, .int w263v)]) (by simp) ?_
                      exact w227ih (w227m - 1) (by omega) w263v (zsI (zsI w245M 252 w246n w252v) 253 w246n w255v) ⟨by omega, by omega⟩ w245s w256 (((((zFr.refl).trans (w227F.mono rfl)).trans (w245F.mono rfl)).put rfl).put rfl) (by omega)
                    · refine zs_icmp_neF (pc := 184) t114_184 rfl rfl (by omega) ?_
                      refine zs_iload (pc := 187) t114_187 rfl ?_
                      refine zs_aload_n (pc := 189) t114_189 rfl ?_
                      have w264 := ib242_18 w245I
                      refine zs_get (pc := 190) t114_190 (by decide) (zk1 (w245s.k fk_zMc_242)) (zfvi rfl ((zIo (by decide)).trans ((zIo (by decide)).trans rfl))) ?_
                      by_cases w265 : (zI w245M 242 18).toInt ≤ w242v.toInt
                      · refine zs_icmp_geT (pc := 193) t114_193 rfl rfl (by omega) ?_
                        obtain ⟨w266v, w266e, w266⟩ := ziadd (a := w227x4) (b := Int32.ofInt 1) rfl (show (Int32.ofInt 1).toInt = 1 by decide) (by omega) (by omega)
                        refine zs_iinc (pc := 208) t114_208 (ls' := [(4, .int w266v), (9, .int w255v), (8, .int w245v), (7, .int w242v), (6, .int w240v), (5, .int (zI w227M 248 w230n)), (0, .ref 242), (1, .int a), (2, .int (24 : Int32)), (3, .int w220v)]) (zml mf114 (by decide)) rfl (c := w266v) w266e rfl ?_
                        refine zs_goto (pc := 211) t114_211 ?_
                        refine zGo.locals (ls' := [(0, .ref 242), (1, .int a), (2, .int (24 : Int32)), (3, .int w220v), (4, .int w266v)]) (by simp) ?_
                        exact w227ih (w227m - 1) (by omega) w266v (zsI (zsI w245M 252 w246n w252v) 253 w246n w255v) ⟨by omega, by omega⟩ w245s w256 (((((zFr.refl).trans (w227F.mono rfl)).trans (w245F.mono rfl)).put rfl).put rfl) (by omega)
                      · refine zs_icmp_geF (pc := 193) t114_193 rfl rfl (by omega) ?_
                        refine zs_aload_n (pc := 196) t114_196 rfl ?_
                        refine zs_iload (pc := 197) t114_197 rfl ?_
                        have w267 : zIv cLo cHi (zsI (zsI (zsI w245M 252 w246n w252v) 253 w246n w255v) 242 17 w255v) := zIv.put w256 (show (-2147483648) ≤ w255v.toInt ∧ w255v.toInt ≤ 2147483647 from (zrg w255v))
                        refine zs_putI (pc := 199) t114_199 (zk1 (w245s.k fk_zMc_242)) rfl ?_
                        refine zs_aload_n (pc := 202) t114_202 rfl ?_
                        refine zs_iload (pc := 203) t114_203 rfl ?_
                        have w268 : zIv cLo cHi (zsI (zsI (zsI (zsI w245M 252 w246n w252v) 253 w246n w255v) 242 17 w255v) 242 18 w242v) := zIv.put w267 (show (-2147483648) ≤ w242v.toInt ∧ w242v.toInt ≤ 2147483647 from (zrg w242v))
                        refine zs_putI (pc := 205) t114_205 (zk1 (w245s.k fk_zMc_242)) rfl ?_
                        obtain ⟨w269v, w269e, w269⟩ := ziadd (a := w227x4) (b := Int32.ofInt 1) rfl (show (Int32.ofInt 1).toInt = 1 by decide) (by omega) (by omega)
                        refine zs_iinc (pc := 208) t114_208 (ls' := [(4, .int w269v), (9, .int w255v), (8, .int w245v), (7, .int w242v), (6, .int w240v), (5, .int (zI w227M 248 w230n)), (0, .ref 242), (1, .int a), (2, .int (24 : Int32)), (3, .int w220v)]) (zml mf114 (by decide)) rfl (c := w269v) w269e rfl ?_
                        refine zs_goto (pc := 211) t114_211 ?_
                        refine zGo.locals (ls' := [(0, .ref 242), (1, .int a), (2, .int (24 : Int32)), (3, .int w220v), (4, .int w269v)]) (by simp) ?_
                        exact w227ih (w227m - 1) (by omega) w269v (zsI (zsI (zsI (zsI w245M 252 w246n w252v) 253 w246n w255v) 242 17 w255v) 242 18 w242v) ⟨by omega, by omega⟩ w245s w268 (((((((zFr.refl).trans (w227F.mono rfl)).trans (w245F.mono rfl)).put rfl).put rfl).put rfl).put rfl) (by omega)
                · refine zs_if_eqF (pc := 129) t114_129 rfl (by omega) ?_
                  refine zs_goto (pc := 132) t114_132 ?_
                  obtain ⟨w270v, w270e, w270⟩ := ziadd (a := w227x4) (b := Int32.ofInt 1) rfl (show (Int32.ofInt 1).toInt = 1 by decide) (by omega) (by omega)
                  refine zs_iinc (pc := 208) t114_208 (ls' := [(4, .int w270v), (8, .int w245v), (7, .int w242v), (6, .int w240v), (5, .int (zI w227M 248 w230n)), (0, .ref 242), (1, .int a), (2, .int (24 : Int32)), (3, .int w220v)]) (zml mf114 (by decide)) rfl (c := w270v) w270e rfl ?_
                  refine zs_goto (pc := 211) t114_211 ?_
                  refine zGo.locals (ls' := [(0, .ref 242), (1, .int a), (2, .int (24 : Int32)), (3, .int w220v), (4, .int w270v)]) (by simp) ?_
                  exact w227ih (w227m - 1) (by omega) w270v w245M ⟨by omega, by omega⟩ w245s w245I (((zFr.refl).trans (w227F.mono rfl)).trans (w245F.mono rfl)) (by omega)
              · refine zs_if_geF (pc := 7) t54_7 rfl (by omega) ?_
                refine zs_iload_n (pc := 10) t54_10 rfl ?_
                refine zs_iload_n (pc := 11) t54_11 rfl ?_
                obtain ⟨w271v, w271⟩ : ∃ v, w242v * (zI w227M 242 5) = v := ⟨_, rfl⟩
                have w271g := zrg w271v
                refine zs_imul (pc := 12) t54_12 (c := w271v) w271 ?_
                refine zs_iload_n (pc := 13) t54_13 rfl ?_
                by_cases w272 : w271v.toInt = w240v.toInt
                · refine zs_icmp_eqT (pc := 14) t54_14 rfl rfl (by omega) ?_
                  refine zs_iload_n (pc := 21) t54_21 rfl ?_
                  refine zs_iret (pc := 22) t54_22 mr54 rfl ?_
                  show zGo X l 1 0 0 114 107 [(6, .int w240v), (5, .int (zI w227M 248 w230n)), (0, .ref 242), (1, .int a), (2, .int (24 : Int32)), (3, .int w220v), (4, .int w227x4)] [.int w242v] w227M _
                  refine zs_istore (pc := 107) t114_107 (ls' := [(7, .int w242v), (6, .int w240v), (5, .int (zI w227M 248 w230n)), (0, .ref 242), (1, .int a), (2, .int (24 : Int32)), (3, .int w220v), (4, .int w227x4)]) (zml mf114 (by decide)) rfl ?_
                  refine zs_aload_n (pc := 109) t114_109 rfl ?_
                  refine zs_iload (pc := 110) t114_110 rfl ?_
                  refine zs_invV (pc := 112) (k := 242) (as' := [.int w242v]) (st := []) t114_112 mf117 rfl rfl (Or.inl ⟨by decide, (zk1 (w227s.k fk_zMc_242))⟩) ⟨by decide, by decide, Nat.le_of_ble_eq_true rfl, Nat.le_of_ble_eq_true rfl⟩ (C117_242 w227s w227I ?_) (fun _ _ q => q)
                  intro w273M w273v w273s w273I w273F w273a w273b
                  show zGo X l 1 0 0 114 115 [(7, .int w242v), (6, .int w240v), (5, .int (zI w227M 248 w230n)), (0, .ref 242), (1, .int a), (2, .int (24 : Int32)), (3, .int w220v), (4, .int w227x4)] [.int w273v] w273M _
                  refine zs_istore (pc := 115) t114_115 (ls' := [(8, .int w273v), (7, .int w242v), (6, .int w240v), (5, .int (zI w227M 248 w230n)), (0, .ref 242), (1, .int a), (2, .int (24 : Int32)), (3, .int w220v), (4, .int w227x4)]) (zml mf114 (by decide)) rfl ?_
                  refine zs_aload_n (pc := 117) t114_117 rfl ?_
                  refine zs_get (pc := 118) t114_118 (by decide) (zk1 (w273s.k fk_zMc_242)) (w273s.p rfl fv_zMc_242_13) ?_
                  refine zs_iload (pc := 121) t114_121 rfl ?_
                  obtain ⟨w274n, w274⟩ : ∃ n : Nat, w273v.toInt = (n : Int) := ⟨w273v.toInt.toNat, by omega⟩
                  have w275 := ib252 w273I w274n
                  refine zs_iald (pc := 123) t114_123 (j := w274n) (by decide) (zk1 (w273s.k fk_zMc_252)) w274 (zk2 (w273s.k fk_zMc_252) (by omega)) rfl ?_
                  refine zs_iconst (pc := 124) t114_124 (v := 1) (by decide) ?_
                  refine zs_iload (pc := 125) t114_125 rfl ?_
                  obtain ⟨w276v, w276⟩ : ∃ v, (1 : Int32) <<< ((zI w227M 248 w230n) &&& 31) = v := ⟨_, rfl⟩
                  have w276g := zrg w276v
                  refine zs_ishl (pc := 127) t114_127 (c := w276v) w276 ?_
                  obtain ⟨w277v, w277⟩ : ∃ v, (zI w273M 252 w274n) &&& w276v = v := ⟨_, rfl⟩
                  have w277g := zrg w277v
                  refine zs_iand (pc := 128) t114_128 (c := w277v) w277 ?_
                  by_cases w278 : w277v.toInt = 0
                  · refine zs_if_eqT (pc := 129) t114_129 rfl (by omega) ?_
                    refine zs_aload_n (pc := 135) t114_135 rfl ?_
                    refine zs_get (pc := 136) t114_136 (by decide) (zk1 (w273s.k fk_zMc_242)) (w273s.p rfl fv_zMc_242_13) ?_
                    refine zs_iload (pc := 139) t114_139 rfl ?_
                    refine zs_dup2 (pc := 141) t114_141 ⟨rfl, rfl⟩ ?_
                    refine zs_iald (pc := 142) t114_142 (j := w274n) (by decide) (zk1 (w273s.k fk_zMc_252)) w274 (zk2 (w273s.k fk_zMc_252) (by omega)) rfl ?_
                    refine zs_iconst (pc := 143) t114_143 (v := 1) (by decide) ?_
                    refine zs_iload (pc := 144) t114_144 rfl ?_
                    obtain ⟨w279v, w279⟩ : ∃ v, (1 : Int32) <<< ((zI w227M 248 w230n) &&& 31) = v := ⟨_, rfl⟩
                    have w279g := zrg w279v
                    refine zs_ishl (pc := 146) t114_146 (c := w279v) w279 ?_
                    obtain ⟨w280v, w280⟩ : ∃ v, (zI w273M 252 w274n) ||| w279v = v := ⟨_, rfl⟩
                    have w280g := zrg w280v
                    refine zs_ior (pc := 147) t114_147 (c := w280v) w280 ?_
                    have w281 : zIv cLo cHi (zsI w273M 252 w274n w280v) := zIv.put w273I (show (-2147483648) ≤ w280v.toInt ∧ w280v.toInt ≤ 2147483647 from (zrg w280v))
                    refine zs_iast (pc := 148) t114_148 (j := w274n) (by decide) (zk1 (w273s.k fk_zMc_252)) w274 (zk2 (w273s.k fk_zMc_252) (by omega)) ?_
                    refine zs_aload_n (pc := 149) t114_149 rfl ?_
                    refine zs_get (pc := 150) t114_150 (by decide) (zk1 (w273s.k fk_zMc_242)) (w273s.p rfl fv_zMc_242_14) ?_
                    refine zs_iload (pc := 153) t114_153 rfl ?_
                    refine zs_dup2 (pc := 155) t114_155 ⟨rfl, rfl⟩ ?_
                    have w282 := ib253 w273I w274n
                    refine zs_iald (pc := 156) t114_156 (j := w274n) (by decide) (zk1 (w273s.k fk_zMc_253)) w274 (zk2 (w273s.k fk_zMc_253) (by omega)) ((zIo (by decide)).trans rfl) ?_
                    refine zs_iconst (pc := 157) t114_157 (v := 1) (by decide) ?_
                    obtain ⟨w283v, w283⟩ : ∃ v, v = (zI w273M 253 w274n) + (1 : Int32) := ⟨_, rfl⟩
                    have w283g := zrg w283v
                    refine zs_iadd (pc := 158) t114_158 (c := w283v) w283.symm ?_
                    have w284 : zIv cLo cHi (zsI (zsI w273M 252 w274n w280v) 253 w274n w283v) := zIv.put w281 (show (-2147483648) ≤ w283v.toInt ∧ w283v.toInt ≤ 2147483647 from (zrg w283v))
                    refine zs_iast (pc := 159) t114_159 (j := w274n) (by decide) (zk1 (w273s.k fk_zMc_253)) w274 (zk2 (w273s.k fk_zMc_253) (by omega)) ?_
                    refine zs_aload_n (pc := 160) t114_160 rfl ?_
                    refine zs_get (pc := 161) t114_161 (by decide) (zk1 (w273s.k fk_zMc_242)) (w273s.p rfl fv_zMc_242_14) ?_
                    refine zs_iload (pc := 164) t114_164 rfl ?_
                    refine zs_iald (pc := 166) t114_166 (j := w274n) (by decide) (zk1 (w273s.k fk_zMc_253)) w274 (zk2 (w273s.k fk_zMc_253) (by omega)) zIs ?_
                    refine zs_istore (pc := 167) t114_167 (ls' := [(9, .int w283v), (8, .int w273v), (7, .int w242v), (6, .int w240v), (5, .int (zI w227M 248 w230n)), (0, .ref 242), (1, .int a), (2, .int (24 : Int32)), (3, .int w220v), (4, .int w227x4)]) (zml mf114 (by decide)) rfl ?_
                    refine zs_iload (pc := 169) t114_169 rfl ?_
                    refine zs_aload_n (pc := 171) t114_171 rfl ?_
                    have w285 := ib242_17 w273I
                    refine zs_get (pc := 172) t114_172 (by decide) (zk1 (w273s.k fk_zMc_242)) (zfvi rfl ((zIo (by decide)).trans ((zIo (by decide)).trans rfl))) ?_
                    by_cases w286 : (zI w273M 242 17).toInt < w283v.toInt
                    · refine zs_icmp_gtT (pc := 175) t114_175 rfl rfl (by omega) ?_
                      refine zs_aload_n (pc := 196) t114_196 rfl ?_
                      refine zs_iload (pc := 197) t114_197 rfl ?_
                      have w287 : zIv cLo cHi (zsI (zsI (zsI w273M 252 w274n w280v) 253 w274n w283v) 242 17 w283v) := zIv.put w284 (show (-2147483648) ≤ w283v.toInt ∧ w283v.toInt ≤ 2147483647 from (zrg w283v))
                      refine zs_putI (pc := 199) t114_199 (zk1 (w273s.k fk_zMc_242)) rfl ?_
                      refine zs_aload_n (pc := 202) t114_202 rfl ?_
                      refine zs_iload (pc := 203) t114_203 rfl ?_
                      have w288 : zIv cLo cHi (zsI (zsI (zsI (zsI w273M 252 w274n w280v) 253 w274n w283v) 242 17 w283v) 242 18 w242v) := zIv.put w287 (show (-2147483648) ≤ w242v.toInt ∧ w242v.toInt ≤ 2147483647 from (zrg w242v))
                      refine zs_putI (pc := 205) t114_205 (zk1 (w273s.k fk_zMc_242)) rfl ?_
                      obtain ⟨w289v, w289e, w289⟩ := ziadd (a := w227x4) (b := Int32.ofInt 1) rfl (show (Int32.ofInt 1).toInt = 1 by decide) (by omega) (by omega)
                      refine zs_iinc (pc := 208) t114_208 (ls' := [(4, .int w289v), (9, .int w283v), (8, .int w273v), (7, .int w242v), (6, .int w240v), (5, .int (zI w227M 248 w230n)), (0, .ref 242), (1, .int a), (2, .int (24 : Int32)), (3, .int w220v)]) (zml mf114 (by decide)) rfl (c := w289v) w289e rfl ?_
                      refine zs_goto (pc := 211) t114_211 ?_
                      refine zGo.locals (ls' := [(0, .ref 242), (1, .int a), (2, .int (24 : Int32)), (3, .int w220v), (4, .int w289v)]) (by simp) ?_
                      exact w227ih (w227m - 1) (by omega) w289v (zsI (zsI (zsI (zsI w273M 252 w274n w280v) 253 w274n w283v) 242 17 w283v) 242 18 w242v) ⟨by omega, by omega⟩ w273s w288 (((((((zFr.refl).trans (w227F.mono rfl)).trans (w273F.mono rfl)).put rfl).put rfl).put rfl).put rfl) (by omega)
                    · refine zs_icmp_gtF (pc := 175) t114_175 rfl rfl (by omega) ?_
                      refine zs_iload (pc := 178) t114_178 rfl ?_
                      refine zs_aload_n (pc := 180) t114_180 rfl ?_
                      refine zs_get (pc := 181) t114_181 (by decide) (zk1 (w273s.k fk_zMc_242)) (zfvi rfl ((zIo (by decide)).trans ((zIo (by decide)).trans rfl))) ?_
                      by_cases w290 : w283v.toInt ≠ (zI w273M 242 17).toInt
                      · refine zs_icmp_neT (pc := 184) t114_184 rfl rfl (by omega) ?_
                        obtain ⟨w291v, w291e, w291⟩ := ziadd (a := w227x4) (b := Int32.ofInt 1) rfl (show (Int32.ofInt 1).toInt = 1 by decide) (by omega) (by omega)
                        refine zs_iinc (pc := 208) t114_208 (ls' := [(4, .int w291v), (9, .int w283v), (8, .int w273v), (7, .int w242v), (6, .int w240v), (5, .int (zI w227M 248 w230n)), (0, .ref 242), (1, .int a), (2, .int (24 : Int32)), (3, .int w220v)]) (zml mf114 (by decide)) rfl (c := w291v) w291e rfl ?_
                        refine zs_goto (pc := 211) t114_211 ?_
                        refine zGo.locals (ls' := [(0, .ref 242), (1, .int a), (2, .int (24 : Int32)), (3, .int w220v), (4, .int w291v)]) (by simp) ?_
                        exact w227ih (w227m - 1) (by omega) w291v (zsI (zsI w273M 252 w274n w280v) 253 w274n w283v) ⟨by omega, by omega⟩ w273s w284 (((((zFr.refl).trans (w227F.mono rfl)).trans (w273F.mono rfl)).put rfl).put rfl) (by omega)
                      · refine zs_icmp_neF (pc := 184) t114_184 rfl rfl (by omega) ?_
                        refine zs_iload (pc := 187) t114_187 rfl ?_
                        refine zs_aload_n (pc := 189) t114_189 rfl ?_
                        have w292 := ib242_18 w273I
                        refine zs_get (pc := 190) t114_190 (by decide) (zk1 (w273s.k fk_zMc_242)) (zfvi rfl ((zIo (by decide)).trans ((zIo (by decide)).trans rfl))) ?_
                        by_cases w293 : (zI w273M 242 18).toInt ≤ w242v.toInt
                        · refine zs_icmp_geT (pc := 193) t114_193 rfl rfl (by omega) ?_
                          obtain ⟨w294v, w294e, w294⟩ := ziadd (a := w227x4) (b := Int32.ofInt 1) rfl (show (Int32.ofInt 1).toInt = 1 by decide) (by omega) (by omega)
                          refine zs_iinc (pc := 208) t114_208 (ls' := [(4, .int w294v), (9, .int w283v), (8, .int w273v), (7, .int w242v), (6, .int w240v), (5, .int (zI w227M 248 w230n)), (0, .ref 242), (1, .int a), (2, .int (24 : Int32)), (3, .int w220v)]) (zml mf114 (by decide)) rfl (c := w294v) w294e rfl ?_
                          refine zs_goto (pc := 211) t114_211 ?_
                          refine zGo.locals (ls' := [(0, .ref 242), (1, .int a), (2, .int (24 : Int32)), (3, .int w220v), (4, .int w294v)]) (by simp) ?_
                          exact w227ih (w227m - 1) (by omega) w294v (zsI (zsI w273M 252 w274n w280v) 253 w274n w283v) ⟨by omega, by omega⟩ w273s w284 (((((zFr.refl).trans (w227F.mono rfl)).trans (w273F.mono rfl)).put rfl).put rfl) (by omega)
                        · refine zs_icmp_geF (pc := 193) t114_193 rfl rfl (by omega) ?_
                          refine zs_aload_n (pc := 196) t114_196 rfl ?_
                          refine zs_iload (pc := 197) t114_197 rfl ?_
                          have w295 : zIv cLo cHi (zsI (zsI (zsI w273M 252 w274n w280v) 253 w274n w283v) 242 17 w283v) := zIv.put w284 (show (-2147483648) ≤ w283v.toInt ∧ w283v.toInt ≤ 2147483647 from (zrg w283v))
                          refine zs_putI (pc := 199) t114_199 (zk1 (w273s.k fk_zMc_242)) rfl ?_
                          refine zs_aload_n (pc := 202) t114_202 rfl ?_
                          refine zs_iload (pc := 203) t114_203 rfl ?_
                          have w296 : zIv cLo cHi (zsI (zsI (zsI (zsI w273M 252 w274n w280v) 253 w274n w283v) 242 17 w283v) 242 18 w242v) := zIv.put w295 (show (-2147483648) ≤ w242v.toInt ∧ w242v.toInt ≤ 2147483647 from (zrg w242v))
                          refine zs_putI (pc := 205) t114_205 (zk1 (w273s.k fk_zMc_242)) rfl ?_
                          obtain ⟨w297v, w297e, w297⟩ := ziadd (a := w227x4) (b := Int32.ofInt 1) rfl (show (Int32.ofInt 1).toInt = 1 by decide) (by omega) (by omega)
                          refine zs_iinc (pc := 208) t114_208 (ls' := [(4, .int w297v), (9, .int w283v), (8, .int w273v), (7, .int w242v), (6, .int w240v), (5, .int (zI w227M 248 w230n)), (0, .ref 242), (1, .int a), (2, .int (24 : Int32)), (3, .int w220v)]) (zml mf114 (by decide)) rfl (c := w297v) w297e rfl ?_
                          refine zs_goto (pc := 211) t114_211 ?_
                          refine zGo.locals (ls' := [(0, .ref 242), (1, .int a), (2, .int (24 : Int32)), (3, .int w220v), (4, .int w297v)]) (by simp) ?_
                          exact w227ih (w227m - 1) (by omega) w297v (zsI (zsI (zsI (zsI w273M 252 w274n w280v) 253 w274n w283v) 242 17 w283v) 242 18 w242v) ⟨by omega, by omega⟩ w273s w296 (((((((zFr.refl).trans (w227F.mono rfl)).trans (w273F.mono rfl)).put rfl).put rfl).put rfl).put rfl) (by omega)
                  · refine zs_if_eqF (pc := 129) t114_129 rfl (by omega) ?_
                    refine zs_goto (pc := 132) t114_132 ?_
                    obtain ⟨w298v, w298e, w298⟩ := ziadd (a := w227x4) (b := Int32.ofInt 1) rfl (show (Int32.ofInt 1).toInt = 1 by decide) (by omega) (by omega)
                    refine zs_iinc (pc := 208) t114_208 (ls' := [(4, .int w298v), (8, .int w273v), (7, .int w242v), (6, .int w240v), (5, .int (zI w227M 248 w230n)), (0, .ref 242), (1, .int a), (2, .int (24 : Int32)), (3, .int w220v)]) (zml mf114 (by decide)) rfl (c := w298v) w298e rfl ?_
                    refine zs_goto (pc := 211) t114_211 ?_
                    refine zGo.locals (ls' := [(0, .ref 242), (1, .int a), (2, .int (24 : Int32)), (3, .int w220v), (4, .int w298v)]) (by simp) ?_
                    exact w227ih (w227m - 1) (by omega) w298v w273M ⟨by omega, by omega⟩ w273s w273I (((zFr.refl).trans (w227F.mono rfl)).trans (w273F.mono rfl)) (by omega)
                · refine zs_icmp_eqF (pc := 14) t54_14 rfl rfl (by omega) ?_
                  refine zs_iload_n (pc := 17) t54_17 rfl ?_
                  refine zs_iconst (pc := 18) t54_18 (v := 1) (by decide) ?_
                  obtain ⟨w299v, w299⟩ : ∃ v, v = w242v - (1 : Int32) := ⟨_, rfl⟩
                  have w299g := zrg w299v
                  refine zs_isub (pc := 19) t54_19 (c := w299v) w299.symm ?_
                  refine zs_iret (pc := 20) t54_20 mr54 rfl ?_
                  show zGo X l 1 0 0 114 107 [(6, .int w240v), (5, .int (zI w227M 248 w230n)), (0, .ref 242), (1, .int a), (2, .int (24 : Int32)), (3, .int w220v), (4, .int w227x4)] [.int w299v] w227M _
                  refine zs_istore (pc := 107) t114_107 (ls' := [(7, .int w299v), (6, .int w240v), (5, .int (zI w227M 248 w230n)), (0, .ref 242), (1, .int a), (2, .int (24 : Int32)), (3, .int w220v), (4, .int w227x4)]) (zml mf114 (by decide)) rfl ?_
                  refine zs_aload_n (pc := 109) t114_109 rfl ?_
                  refine zs_iload (pc := 110) t114_110 rfl ?_
                  refine zs_invV (pc := 112) (k := 242) (as' := [.int w299v]) (st := []) t114_112 mf117 rfl rfl (Or.inl ⟨by decide, (zk1 (w227s.k fk_zMc_242))⟩) ⟨by decide, by decide, Nat.le_of_ble_eq_true rfl, Nat.le_of_ble_eq_true rfl⟩ (C117_242 w227s w227I ?_) (fun _ _ q => q)
                  intro w300M w300v w300s w300I w300F w300a w300b
                  show zGo X l 1 0 0 114 115 [(7, .int w299v), (6, .int w240v), (5, .int (zI w227M 248 w230n)), (0, .ref 242), (1, .int a), (2, .int (24 : Int32)), (3, .int w220v), (4, .int w227x4)] [.int w300v] w300M _
                  refine zs_istore (pc := 115) t114_115 (ls' := [(8, .int w300v), (7, .int w299v), (6, .int w240v), (5, .int (zI w227M 248 w230n)), (0, .ref 242), (1, .int a), (2, .int (24 : Int32)), (3, .int w220v), (4, .int w227x4)]) (zml mf114 (by decide)) rfl ?_
                  refine zs_aload_n (pc := 117) t114_117 rfl ?_
                  refine zs_get (pc := 118) t114_118 (by decide) (zk1 (w300s.k fk_zMc_242)) (w300s.p rfl fv_zMc_242_13) ?_
                  refine zs_iload (pc := 121) t114_121 rfl ?_
                  obtain ⟨w301n, w301⟩ : ∃ n : Nat, w300v.toInt = (n : Int) := ⟨w300v.toInt.toNat, by omega⟩
                  have w302 := ib252 w300I w301n
                  refine zs_iald (pc := 123) t114_123 (j := w301n) (by decide) (zk1 (w300s.k fk_zMc_252)) w301 (zk2 (w300s.k fk_zMc_252) (by omega)) rfl ?_
                  refine zs_iconst (pc := 124) t114_124 (v := 1) (by decide) ?_
                  refine zs_iload (pc := 125) t114_125 rfl ?_
                  obtain ⟨w303v, w303⟩ : ∃ v, (1 : Int32) <<< ((zI w227M 248 w230n) &&& 31) = v := ⟨_, rfl⟩
                  have w303g := zrg w303v
                  refine zs_ishl (pc := 127) t114_127 (c := w303v) w303 ?_
                  obtain ⟨w304v, w304⟩ : ∃ v, (zI w300M 252 w301n) &&& w303v = v := ⟨_, rfl⟩
                  have w304g := zrg w304v
                  refine zs_iand (pc := 128) t114_128 (c := w304v) w304 ?_
                  by_cases w305 : w304v.toInt = 0
                  · refine zs_if_eqT (pc := 129) t114_129 rfl (by omega) ?_
                    refine zs_aload_n (pc := 135) t114_135 rfl ?_
                    refine zs_get (pc := 136) t114_136 (by decide) (zk1 (w300s.k fk_zMc_242)) (w300s.p rfl fv_zMc_242_13) ?_
                    refine zs_iload (pc := 139) t114_139 rfl ?_
                    refine zs_dup2 (pc := 141) t114_141 ⟨rfl, rfl⟩ ?_
                    refine zs_iald (pc := 142) t114_142 (j := w301n) (by decide) (zk1 (w300s.k fk_zMc_252)) w301 (zk2 (w300s.k fk_zMc_252) (by omega)) rfl ?_
                    refine zs_iconst (pc := 143) t114_143 (v := 1) (by decide) ?_
                    refine zs_iload (pc := 144) t114_144 rfl ?_
                    obtain ⟨w306v, w306⟩ : ∃ v, (1 : Int32) <<< ((zI w227M 248 w230n) &&& 31) = v := ⟨_, rfl⟩
                    have w306g := zrg w306v
                    refine zs_ishl (pc := 146) t114_146 (c := w306v) w306 ?_
                    obtain ⟨w307v, w307⟩ : ∃ v, (zI w300M 252 w301n) ||| w306v = v := ⟨_, rfl⟩
                    have w307g := zrg w307v
                    refine zs_ior (pc := 147) t114_147 (c := w307v) w307 ?_
                    have w308 : zIv cLo cHi (zsI w300M 252 w301n w307v) := zIv.put w300I (show (-2147483648) ≤ w307v.toInt ∧ w307v.toInt ≤ 2147483647 from (zrg w307v))
                    refine zs_iast (pc := 148) t114_148 (j := w301n) (by decide) (zk1 (w300s.k fk_zMc_252)) w301 (zk2 (w300s.k fk_zMc_252) (by omega)) ?_
                    refine zs_aload_n (pc := 149) t114_149 rfl ?_
                    refine zs_get (pc := 150) t114_150 (by decide) (zk1 (w300s.k fk_zMc_242)) (w300s.p rfl fv_zMc_242_14) ?_
                    refine zs_iload (pc := 153) t114_153 rfl ?_
                    refine zs_dup2 (pc := 155) t114_155 ⟨rfl, rfl⟩ ?_
                    have w309 := ib253 w300I w301n
                    refine zs_iald (pc := 156) t114_156 (j := w301n) (by decide) (zk1 (w300s.k fk_zMc_253)) w301 (zk2 (w300s.k fk_zMc_253) (by omega)) ((zIo (by decide)).trans rfl) ?_
                    refine zs_iconst (pc := 157) t114_157 (v := 1) (by decide) ?_
                    obtain ⟨w310v, w310⟩ : ∃ v, v = (zI w300M 253 w301n) + (1 : Int32) := ⟨_, rfl⟩
                    have w310g := zrg w310v
                    refine zs_iadd (pc := 158) t114_158 (c := w310v) w310.symm ?_
                    have w311 : zIv cLo cHi (zsI (zsI w300M 252 w301n w307v) 253 w301n w310v) := zIv.put w308 (show (-2147483648) ≤ w310v.toInt ∧ w310v.toInt ≤ 2147483647 from (zrg w310v))
                    refine zs_iast (pc := 159) t114_159 (j := w301n) (by decide) (zk1 (w300s.k fk_zMc_253)) w301 (zk2 (w300s.k fk_zMc_253) (by omega)) ?_
                    refine zs_aload_n (pc := 160) t114_160 rfl ?_
                    refine zs_get (pc := 161) t114_161 (by decide) (zk1 (w300s.k fk_zMc_242)) (w300s.p rfl fv_zMc_242_14) ?_
                    refine zs_iload (pc := 164) t114_164 rfl ?_
                    refine zs_iald (pc := 166) t114_166 (j := w301n) (by decide) (zk1 (w300s.k fk_zMc_253)) w301 (zk2 (w300s.k fk_zMc_253) (by omega)) zIs ?_
                    refine zs_istore (pc := 167) t114_167 (ls' := [(9, .int w310v), (8, .int w300v), (7, .int w299v), (6, .int w240v), (5, .int (zI w227M 248 w230n)), (0, .ref 242), (1, .int a), (2, .int (24 : Int32)), (3, .int w220v), (4, .int w227x4)]) (zml mf114 (by decide)) rfl ?_
                    refine zs_iload (pc := 169) t114_169 rfl ?_
                    refine zs_aload_n (pc := 171) t114_171 rfl ?_
                    have w312 := ib242_17 w300I
                    refine zs_get (pc := 172) t114_172 (by decide) (zk1 (w300s.k fk_zMc_242)) (zfvi rfl ((zIo (by decide)).trans ((zIo (by decide)).trans rfl))) ?_
                    by_cases w313 : (zI w300M 242 17).toInt < w310v.toInt
                    · refine zs_icmp_gtT (pc := 175) t114_175 rfl rfl (by omega) ?_
                      refine zs_aload_n (pc := 196) t114_196 rfl ?_
                      refine zs_iload (pc := 197) t114_197 rfl ?_
                      have w314 : zIv cLo cHi (zsI (zsI (zsI w300M 252 w301n w307v) 253 w301n w310v) 242 17 w310v) := zIv.put w311 (show (-2147483648) ≤ w310v.toInt ∧ w310v.toInt ≤ 2147483647 from (zrg w310v))
                      refine zs_putI (pc := 199) t114_199 (zk1 (w300s.k fk_zMc_242)) rfl ?_
                      refine zs_aload_n (pc := 202) t114_202 rfl ?_
                      refine zs_iload (pc := 203) t114_203 rfl ?_
                      have w315 : zIv cLo cHi (zsI (zsI (zsI (zsI w300M 252 w301n w307v) 253 w301n w310v) 242 17 w310v) 242 18 w299v) := zIv.put w314 (show (-2147483648) ≤ w299v.toInt ∧ w299v.toInt ≤ 2147483647 from (zrg w299v))
                      refine zs_putI (pc := 205) t114_205 (zk1 (w300s.k fk_zMc_242)) rfl ?_
                      obtain ⟨w316v, w316e, w316⟩ := ziadd (a := w227x4) (b := Int32.ofInt 1) rfl (show (Int32.ofInt 1).toInt = 1 by decide) (by omega) (by omega)
                      refine zs_iinc (pc := 208) t114_208 (ls' := [(4, .int w316v), (9, .int w310v), (8, .int w300v), (7, .int w299v), (6, .int w240v), (5, .int (zI w227M 248 w230n)), (0, .ref 242), (1, .int a), (2, .int (24 : Int32)), (3, .int w220v)]) (zml mf114 (by decide)) rfl (c := w316v) w316e rfl ?_
                      refine zs_goto (pc := 211) t114_211 ?_
                      refine zGo.locals (ls' := [(0, .ref 242), (1, .int a), (2, .int (24 : Int32)), (3, .int w220v), (4, .int w316v)]) (by simp) ?_
                      exact w227ih (w227m - 1) (by omega) w316v (zsI (zsI (zsI (zsI w300M 252 w301n w307v) 253 w301n w310v) 242 17 w310v) 242 18 w299v) ⟨by omega, by omega⟩ w300s w315 (((((((zFr.refl).trans (w227F.mono rfl)).trans (w300F.mono rfl)).put rfl).put rfl).put rfl).put rfl) (by omega)
                    · refine zs_icmp_gtF (pc := 175) t114_175 rfl rfl (by omega) ?_
                      refine zs_iload (pc := 178) t114_178 rfl ?_
                      refine zs_aload_n (pc := 180) t114_180 rfl ?_
                      refine zs_get (pc := 181) t114_181 (by decide) (zk1 (w300s.k fk_zMc_242)) (zfvi rfl ((zIo (by decide)).trans ((zIo (by decide)).trans rfl))) ?_
                      by_cases w317 : w310v.toInt ≠ (zI w300M 242 17).toInt
                      · refine zs_icmp_neT (pc := 184) t114_184 rfl rfl (by omega) ?_
                        obtain ⟨w318v, w318e, w318⟩ := ziadd (a := w227x4) (b := Int32.ofInt 1) rfl (show (Int32.ofInt 1).toInt = 1 by decide) (by omega) (by omega)
                        refine zs_iinc (pc := 208) t114_208 (ls' := [(4, .int w318v), (9, .int w310v), (8, .int w300v), (7, .int w299v), (6, .int w240v), (5, .int (zI w227M 248 w230n)), (0, .ref 242), (1, .int a), (2, .int (24 : Int32)), (3, .int w220v)]) (zml mf114 (by decide)) rfl (c := w318v) w318e rfl ?_
                        refine zs_goto (pc := 211) t114_211 ?_
                        refine zGo.locals (ls' := [(0, .ref 242), (1, .int a), (2, .int (24 : Int32)), (3, .int w220v), (4, .int w318v)]) (by simp) ?_
                        exact w227ih (w227m - 1) (by omega) w318v (zsI (zsI w300M 252 w301n w307v) 253 w301n w310v) ⟨by omega, by omega⟩ w300s w311 (((((zFr.refl).trans (w227F.mono rfl)).trans (w300F.mono rfl)).put rfl).put rfl) (by omega)
                      · refine zs_icmp_neF (pc := 184) t114_184 rfl rfl (by omega) ?_
                        refine zs_iload (pc := 187) t114_187 rfl ?_
                        refine zs_aload_n (pc := 189) t114_189 rfl ?_
                        have w319 := ib242_18 w300I
                        refine zs_get (pc := 190) t114_190 (by decide) (zk1 (w300s.k fk_zMc_242)) (zfvi rfl ((zIo (by decide)).trans ((zIo (by decide)).trans rfl))) ?_
                        by_cases w320 : (zI w300M 242 18).toInt ≤ w299v.toInt
                        · refine zs_icmp_geT (pc := 193) t114_193 rfl rfl (by omega) ?_
                          obtain ⟨w321v, w321e, w321⟩ := ziadd (a := w227x4) (b := Int32.ofInt 1) rfl (show (Int32.ofInt 1).toInt = 1 by decide) (by omega) (by omega)
                          refine zs_iinc (pc := 208) t114_208 (ls' := [(4, .int w321v), (9, .int w310v), (8, .int w300v), (7, .int w299v), (6, .int w240v), (5, .int (zI w227M 248 w230n)), (0, .ref 242), (1, .int a), (2, .int (24 : Int32)), (3, .int w220v)]) (zml mf114 (by decide)) rfl (c := w321v) w321e rfl ?_
                          refine zs_goto (pc := 211) t114_211 ?_
                          refine zGo.locals (ls' := [(0, .ref 242), (1, .int a), (2, .int (24 : Int32)), (3, .int w220v), (4, .int w321v)]) (by simp) ?_
                          exact w227ih (w227m - 1) (by omega) w321v (zsI (zsI w300M 252 w301n w307v) 253 w301n w310v) ⟨by omega, by omega⟩ w300s w311 (((((zFr.refl).trans (w227F.mono rfl)).trans (w300F.mono rfl)).put rfl).put rfl) (by omega)
                        · refine zs_icmp_geF (pc := 193) t114_193 rfl rfl (by omega) ?_
                          refine zs_aload_n (pc := 196) t114_196 rfl ?_
                          refine zs_iload (pc := 197) t114_197 rfl ?_
                          have w322 : zIv cLo cHi (zsI (zsI (zsI w300M 252 w301n w307v) 253 w301n w310v) 242 17 w310v) := zIv.put w311 (show (-2147483648) ≤ w310v.toInt ∧ w310v.toInt ≤ 2147483647 from (zrg w310v))
                          refine zs_putI (pc := 199) t114_199 (zk1 (w300s.k fk_zMc_242)) rfl ?_
                          refine zs_aload_n (pc := 202) t114_202 rfl ?_
                          refine zs_iload (pc := 203) t114_203 rfl ?_
                          have w323 : zIv cLo cHi (zsI (zsI (zsI (zsI w300M 252 w301n w307v) 253 w301n w310v) 242 17 w310v) 242 18 w299v) := zIv.put w322 (show (-2147483648) ≤ w299v.toInt ∧ w299v.toInt ≤ 2147483647 from (zrg w299v))
                          refine zs_putI (pc := 205) t114_205 (zk1 (w300s.k fk_zMc_242)) rfl ?_
                          obtain ⟨w324v, w324e, w324⟩ := ziadd (a := w227x4) (b := Int32.ofInt 1) rfl (show (Int32.ofInt 1).toInt = 1 by decide) (by omega) (by omega)
                          refine zs_iinc (pc := 208) t114_208 (ls' := [(4, .int w324v), (9, .int w310v), (8, .int w300v), (7, .int w299v), (6, .int w240v), (5, .int (zI w227M 248 w230n)), (0, .ref 242), (1, .int a), (2, .int (24 : Int32)), (3, .int w220v)]) (zml mf114 (by decide)) rfl (c := w324v) w324e rfl ?_
                          refine zs_goto (pc := 211) t114_211 ?_
                          refine zGo.locals (ls' := [(0, .ref 242), (1, .int a), (2, .int (24 : Int32)), (3, .int w220v), (4, .int w324v)]) (by simp) ?_
                          exact w227ih (w227m - 1) (by omega) w324v (zsI (zsI (zsI (zsI w300M 252 w301n w307v) 253 w301n w310v) 242 17 w310v) 242 18 w299v) ⟨by omega, by omega⟩ w300s w323 (((((((zFr.refl).trans (w227F.mono rfl)).trans (w300F.mono rfl)).put rfl).put rfl).put rfl).put rfl) (by omega)
                  · refine zs_if_eqF (pc := 129) t114_129 rfl (by omega) ?_
                    refine zs_goto (pc := 132) t114_132 ?_
                    obtain ⟨w325v, w325e, w325⟩ := ziadd (a := w227x4) (b := Int32.ofInt 1) rfl (show (Int32.ofInt 1).toInt = 1 by decide) (by omega) (by omega)
                    refine zs_iinc (pc := 208) t114_208 (ls' := [(4, .int w325v), (8, .int w300v), (7, .int w299v), (6, .int w240v), (5, .int (zI w227M 248 w230n)), (0, .ref 242), (1, .int a), (2, .int (24 : Int32)), (3, .int w220v)]) (zml mf114 (by decide)) rfl (c := w325v) w325e rfl ?_
                    refine zs_goto (pc := 211) t114_211 ?_
                    refine zGo.locals (ls' := [(0, .ref 242), (1, .int a), (2, .int (24 : Int32)), (3, .int w220v), (4, .int w325v)]) (by simp) ?_
                    exact w227ih (w227m - 1) (by omega) w325v w300M ⟨by omega, by omega⟩ w300s w300I (((zFr.refl).trans (w227F.mono rfl)).trans (w300F.mono rfl)) (by omega)
        refine zGo.locals (ls' := [(0, .ref 242), (1, .int a), (2, .int (24 : Int32)), (3, .int w220v), (4, .int (0 : Int32))]) (by simp) ?_
        have w326 := li0
        exact w227L ((60 - 0 : Int).toNat) (0 : Int32) (zsI (zsI (zsI (zsI M 242 10 w222v) 242 15 (0 : Int32)) 242 17 (0 : Int32)) 242 18 (0 : Int32)) ⟨by decide, by decide⟩ hs w226 zFr.refl (by omega)
    · refine zs_icmp_geF (pc := 9) t115_9 rfl rfl (by omega) ?_
      refine zs_aload_n (pc := 12) t115_12 rfl ?_
      refine zs_get (pc := 13) t115_13 (by decide) (zk1 (hs.k fk_zMc_242)) (hs.p rfl fv_zMc_242_1) ?_
      refine zs_iload_n (pc := 16) t115_16 rfl ?_
      obtain ⟨w327n, w327⟩ : ∃ n : Nat, a.toInt = (n : Int) := ⟨a.toInt.toNat, by omega⟩
      have w328 := ib243 hI w327n
      refine zs_iald (pc := 17) t115_17 (j := w327n) (by decide) (zk1 (hs.k fk_zMc_243)) w327 (zk2 (hs.k fk_zMc_243) (by omega)) rfl ?_
      refine zs_goto (pc := 18) t115_18 ?_
      refine zs_iret (pc := 22) t115_22 mr115 rfl ?_
      show zGo X l 1 0 0 114 5 [(0, .ref 242), (1, .int a)] [.int (zI M 243 w327n)] M _
      refine zs_iconst (pc := 5) t114_5 (v := 3) (by decide) ?_
      obtain ⟨w329v, w329e, w329⟩ := ziadd (a := (zI M 243 w327n)) (b := (3 : Int32)) rfl li3 (by omega) (by omega)
      refine zs_iadd (pc := 6) t114_6 (c := w329v) w329e ?_
      refine zs_bipush (pc := 7) t114_7 (v := 8) (by decide) ?_
      obtain ⟨w330v, w330⟩ : ∃ v, w329v * (8 : Int32) = v := ⟨_, rfl⟩
      have w330g : w330v.toInt = ((zI M 243 w327n).toInt + 3) * 8 := by rw [← w330]; exact zmulc w329 li8 (by omega) (by omega)
      refine zs_imul (pc := 9) t114_9 (c := w330v) w330 ?_
      refine zs_istore_n (pc := 10) t114_10 (ls' := [(2, .int w330v), (0, .ref 242), (1, .int a)]) (zml mf114 (by decide)) rfl ?_
      refine zs_aload_n (pc := 11) t114_11 rfl ?_
      refine zs_iload_n (pc := 12) t114_12 rfl ?_
      refine zs_invV (pc := 13) (k := 242) (as' := [.int a]) (st := []) t114_13 mf116 rfl rfl (Or.inl ⟨by decide, (zk1 (hs.k fk_zMc_242))⟩) ⟨by decide, by decide, Nat.le_of_ble_eq_true rfl, Nat.le_of_ble_eq_true rfl⟩ (zs_in (by decide) mf116 (Nat.le_of_ble_eq_true rfl) ?_) (fun _ _ q => q)
      show zGo X l 0 0 0 116 0 [(0, .ref 242), (1, .int a)] [] M _
      refine zs_iload_n (pc := 0) t116_0 rfl ?_
      refine zs_if_ltF (pc := 1) t116_1 rfl (by omega) ?_
      refine zs_iload_n (pc := 4) t116_4 rfl ?_
      refine zs_aload_n (pc := 5) t116_5 rfl ?_
      refine zs_get (pc := 6) t116_6 (by decide) (zk1 (hs.k fk_zMc_242)) (zfvi rfl rfl) ?_
      by_cases w331 : (zI M 242 0).toInt ≤ a.toInt
      · refine zs_icmp_geT (pc := 9) t116_9 rfl rfl (by omega) ?_
        refine zs_iconst (pc := 21) t116_21 (v := 0) (by decide) ?_
        refine zs_iret (pc := 22) t116_22 mr116 (by decide) ?_
        show zGo X l 1 0 0 114 16 [(2, .int w330v), (0, .ref 242), (1, .int a)] [.int (0 : Int32)] M _
        refine zs_bipush (pc := 16) t114_16 (v := 20) (by decide) ?_
        refine zs_iadd (pc := 18) t114_18 (c := 20) (by decide) ?_
        refine zs_bipush (pc := 19) t114_19 (v := 8) (by decide) ?_
        refine zs_imul (pc := 21) t114_21 (c := 160) (by decide) ?_
        refine zs_istore_n (pc := 22) t114_22 (ls' := [(3, .int (160 : Int32)), (2, .int w330v), (0, .ref 242), (1, .int a)]) (zml mf114 (by decide)) rfl ?_
        refine zs_aload_n (pc := 23) t114_23 rfl ?_
        refine zs_dup (pc := 24) t114_24 rfl ?_
        have w332 := ib242_10 hI
        refine zs_get (pc := 25) t114_25 (by decide) (zk1 (hs.k fk_zMc_242)) (zfvi rfl rfl) ?_
        refine zs_iconst (pc := 28) t114_28 (v := 1) (by decide) ?_
        obtain ⟨w333v, w333⟩ : ∃ v, v = (zI M 242 10) + (1 : Int32) := ⟨_, rfl⟩
        have w333g := zrg w333v
        refine zs_iadd (pc := 29) t114_29 (c := w333v) w333.symm ?_
        have w334 : zIv cLo cHi (zsI M 242 10 w333v) := zIv.put hI (show (-2147483648) ≤ w333v.toInt ∧ w333v.toInt ≤ 2147483647 from (zrg w333v))
        refine zs_putI (pc := 30) t114_30 (zk1 (hs.k fk_zMc_242)) rfl ?_
        refine zs_aload_n (pc := 33) t114_33 rfl ?_
        refine zs_iconst (pc := 34) t114_34 (v := 0) (by decide) ?_
        have w335 : zIv cLo cHi (zsI (zsI M 242 10 w333v) 242 15 (0 : Int32)) := zIv.put w334 (show 0 ≤ (0 : Int32).toInt ∧ (0 : Int32).toInt ≤ 60 from ⟨by decide, by decide⟩)
        refine zs_putI (pc := 35) t114_35 (zk1 (hs.k fk_zMc_242)) rfl ?_
        refine zs_aload_n (pc := 38) t114_38 rfl ?_
        refine zs_iconst (pc := 39) t114_39 (v := 0) (by decide) ?_
        have w336 : zIv cLo cHi (zsI (zsI (zsI M 242 10 w333v) 242 15 (0 : Int32)) 242 17 (0 : Int32)) := zIv.put w335 (show (-2147483648) ≤ (0 : Int32).toInt ∧ (0 : Int32).toInt ≤ 2147483647 from (zrg (0 : Int32)))
        refine zs_putI (pc := 40) t114_40 (zk1 (hs.k fk_zMc_242)) rfl ?_
        refine zs_aload_n (pc := 43) t114_43 rfl ?_
        refine zs_iconst (pc := 44) t114_44 (v := 0) (by decide) ?_
        have w337 : zIv cLo cHi (zsI (zsI (zsI (zsI M 242 10 w333v) 242 15 (0 : Int32)) 242 17 (0 : Int32)) 242 18 (0 : Int32)) := zIv.put w336 (show (-2147483648) ≤ (0 : Int32).toInt ∧ (0 : Int32).toInt ≤ 2147483647 from (zrg (0 : Int32)))
        refine zs_putI (pc := 45) t114_45 (zk1 (hs.k fk_zMc_242)) rfl ?_
        refine zs_iconst (pc := 48) t114_48 (v := 0) (by decide) ?_
        refine zs_istore (pc := 49) t114_49 (ls' := [(4, .int (0 : Int32)), (3, .int (160 : Int32)), (2, .int w330v), (0, .ref 242), (1, .int a)]) (zml mf114 (by decide)) rfl ?_
        have w338L : ∀ (m : Nat) (w338x4 : Int32) (w338M : zM), (0 ≤ w338x4.toInt ∧ w338x4.toInt ≤ 60) → zSk zMc w338M → zIv cLo cHi w338M → zFr [(242, 254, none)] (zsI (zsI (zsI (zsI M 242 10 w333v) 242 15 (0 : Int32)) 242 17 (0 : Int32)) 242 18 (0 : Int32)) w338M → 60 - w338x4.toInt ≤ (m : Int) → zGo X l 1 0 0 114 51 [(0, .ref 242), (1, .int a), (2, .int w330v), (3, .int (160 : Int32)), (4, .int w338x4)] [] w338M Q := by
          intro m
          induction m using Nat.strongRecOn with
          | ind w338m w338ih =>
            intro w338x4 w338M w338b4 w338s w338I w338F w338q
            refine zs_iload (pc := 51) t114_51 rfl ?_
            refine zs_aload_n (pc := 53) t114_53 rfl ?_
            have w339 := ib242_6 w338I
            refine zs_get (pc := 54) t114_54 (by decide) (zk1 (w338s.k fk_zMc_242)) (zfvi rfl rfl) ?_
            by_cases w340 : (zI w338M 242 6).toInt ≤ w338x4.toInt
            · refine zs_icmp_geT (pc := 57) t114_57 rfl rfl (by omega) ?_
              exact zs_vret (pc := 214) t114_214 mr114 (hQ _ w338s w338I ((((((zFr.refl).put rfl).put rfl).put rfl).put rfl).trans (w338F.mono rfl)))
            · refine zs_icmp_geF (pc := 57) t114_57 rfl rfl (by omega) ?_
              refine zs_aload_n (pc := 60) t114_60 rfl ?_
              refine zs_get (pc := 61) t114_61 (by decide) (zk1 (w338s.k fk_zMc_242)) (w338s.p rfl fv_zMc_242_8) ?_
              refine zs_iload (pc := 64) t114_64 rfl ?_
              obtain ⟨w341n, w341⟩ : ∃ n : Nat, w338x4.toInt = (n : Int) := ⟨w338x4.toInt.toNat, by omega⟩
              have w342 := ib248 w338I w341n
              refine zs_iald (pc := 66) t114_66 (j := w341n) (by decide) (zk1 (w338s.k fk_zMc_248)) w341 (zk2 (w338s.k fk_zMc_248) (by omega)) rfl ?_
              refine zs_istore (pc := 67) t114_67 (ls' := [(5, .int (zI w338M 248 w341n)), (0, .ref 242), (1, .int a), (2, .int w330v), (3, .int (160 : Int32)), (4, .int w338x4)]) (zml mf114 (by decide)) rfl ?_
              refine zs_aload_n (pc := 69) t114_69 rfl ?_
              refine zs_get (pc := 70) t114_70 (by decide) (zk1 (w338s.k fk_zMc_242)) (w338s.p rfl fv_zMc_242_9) ?_
              refine zs_iload (pc := 73) t114_73 rfl ?_
              have w343 := ib249 w338I w341n
              refine zs_iald (pc := 75) t114_75 (j := w341n) (by decide) (zk1 (w338s.k fk_zMc_249)) w341 (zk2 (w338s.k fk_zMc_249) (by omega)) rfl ?_
              refine zs_aload_n (pc := 76) t114_76 rfl ?_
              refine zs_get (pc := 77) t114_77 (by decide) (zk1 (w338s.k fk_zMc_242)) (w338s.p rfl fv_zMc_242_3) ?_
              refine zs_iload_n (pc := 80) t114_80 rfl ?_
              refine zs_iload (pc := 81) t114_81 rfl ?_
              obtain ⟨w344v, w344e, w344⟩ := ziadd (a := w330v) (b := (zI w338M 248 w341n)) rfl rfl (by omega) (by omega)
              refine zs_iadd (pc := 83) t114_83 (c := w344v) w344e ?_
              obtain ⟨w345n, w345⟩ : ∃ n : Nat, w344v.toInt = (n : Int) := ⟨w344v.toInt.toNat, by omega⟩
              have w346 := ib245 w338I w345n
              refine zs_iald (pc := 84) t114_84 (j := w345n) (by decide) (zk1 (w338s.k fk_zMc_245)) w345 (zk2 (w338s.k fk_zMc_245) (by omega)) rfl ?_
              obtain ⟨w347v, w347⟩ : ∃ v, v = (zI w338M 249 w341n) - (zI w338M 245 w345n) := ⟨_, rfl⟩
              have w347g := zrg w347v
              refine zs_isub (pc := 85) t114_85 (c := w347v) w347.symm ?_
              refine zs_aload_n (pc := 86) t114_86 rfl ?_
              refine zs_get (pc := 87) t114_87 (by decide) (zk1 (w338s.k fk_zMc_242)) (w338s.p rfl fv_zMc_242_4) ?_
              refine zs_iload_n (pc := 90) t114_90 rfl ?_
              refine zs_iload (pc := 91) t114_91 rfl ?_
              obtain ⟨w348v, w348e, w348⟩ := ziadd (a := (160 : Int32)) (b := (zI w338M 248 w341n)) li160 rfl (by omega) (by omega)
              refine zs_iadd (pc := 93) t114_93 (c := w348v) w348e ?_
              obtain ⟨w349n, w349⟩ : ∃ n : Nat, w348v.toInt = (n : Int) := ⟨w348v.toInt.toNat, by omega⟩
              have w350 := ib246 w338I w349n
              refine zs_iald (pc := 94) t114_94 (j := w349n) (by decide) (zk1 (w338s.k fk_zMc_246)) w349 (zk2 (w338s.k fk_zMc_246) (by omega)) rfl ?_
              obtain ⟨w351v, w351⟩ : ∃ v, v = w347v - (zI w338M 246 w349n) := ⟨_, rfl⟩
              have w351g := zrg w351v
              refine zs_isub (pc := 95) t114_95 (c := w351v) w351.symm ?_
              refine zs_istore (pc := 96) t114_96 (ls' := [(6, .int w351v), (5, .int (zI w338M 248 w341n)), (0, .ref 242), (1, .int a), (2, .int w330v), (3, .int (160 : Int32)), (4, .int w338x4)]) (zml mf114 (by decide)) rfl ?_
              refine zs_iload (pc := 98) t114_98 rfl ?_
              refine zs_aload_n (pc := 100) t114_100 rfl ?_
              have w352 := ib242_5 w338I
              refine zs_get (pc := 101) t114_101 (by decide) (zk1 (w338s.k fk_zMc_242)) (zfvi rfl rfl) ?_
              refine zs_invS (pc := 104) (as := [.int w351v, .int (zI w338M 242 5)]) (st := []) t114_104 (by decide) mf54 rfl rfl ⟨by decide, by decide, Nat.le_of_ble_eq_true rfl, Nat.le_of_ble_eq_true rfl⟩ (zs_in (by decide) mf54 (Nat.le_of_ble_eq_true rfl) ?_) (fun _ _ q => q)
              show zGo X l 0 0 0 54 0 [(0, .int w351v), (1, .int (zI w338M 242 5))] [] w338M _
              refine zs_iload_n (pc := 0) t54_0 rfl ?_
              refine zs_iload_n (pc := 1) t54_1 rfl ?_
              obtain ⟨w353v, w353⟩ : ∃ v, w351v / (zI w338M 242 5) = v := ⟨_, rfl⟩
              have w353g := zrg w353v
              refine zs_idiv (pc := 2) t54_2 (znz rfl (by omega)) (c := w353v) w353 ?_
              refine zs_istore_n (pc := 3) t54_3 (ls' := [(2, .int w353v), (0, .int w351v), (1, .int (zI w338M 242 5))]) (zml mf54 (by decide)) rfl ?_
              refine zs_iload_n (pc := 4) t54_4 rfl ?_
              refine zs_iload_n (pc := 5) t54_5 rfl ?_
              obtain ⟨w354v, w354⟩ : ∃ v, w351v ^^^ (zI w338M 242 5) = v := ⟨_, rfl⟩
              have w354g := zrg w354v
              refine zs_ixor (pc := 6) t54_6 (c := w354v) w354 ?_
              by_cases w355 : 0 ≤ w354v.toInt
              · refine zs_if_geT (pc := 7) t54_7 rfl (by omega) ?_
                refine zs_iload_n (pc := 21) t54_21 rfl ?_
                refine zs_iret (pc := 22) t54_22 mr54 rfl ?_
                show zGo X l 1 0 0 114 107 [(6, .int w351v), (5, .int (zI w338M 248 w341n)), (0, .ref 242), (1, .int a), (2, .int w330v), (3, .int (160 : Int32)), (4, .int w338x4)] [.int w353v] w338M _
                refine zs_istore (pc := 107) t114_107 (ls' := [(7, .int w353v), (6, .int w351v), (5, .int (zI w338M 248 w341n)), (0, .ref 242), (1, .int a), (2, .int w330v), (3, .int (160 : Int32)), (4, .int w338x4)]) (zml mf114 (by decide)) rfl ?_
                refine zs_aload_n (pc := 109) t114_109 rfl ?_
                refine zs_iload (pc := 110) t114_110 rfl ?_
                refine zs_invV (pc := 112) (k := 242) (as' := [.int w353v]) (st := []) t114_112 mf117 rfl rfl (Or.inl ⟨by decide, (zk1 (w338s.k fk_zMc_242))⟩) ⟨by decide, by decide, Nat.le_of_ble_eq_true rfl, Nat.le_of_ble_eq_true rfl⟩ (C117_242 w338s w338I ?_) (fun _ _ q => q)
                intro w356M w356v w356s w356I w356F w356a w356b
                show zGo X l 1 0 0 114 115 [(7, .int w353v), (6, .int w351v), (5, .int (zI w338M 248 w341n)), (0, .ref 242), (1, .int a), (2, .int w330v), (3, .int (160 : Int32)), (4, .int w338x4)] [.int w356v] w356M _
                refine zs_istore (pc := 115) t114_115 (ls' := [(8, .int w356v), (7, .int w353v), (6, .int w351v), (5, .int (zI w338M 248 w341n)), (0, .ref 242), (1, .int a), (2, .int w330v), (3, .int (160 : Int32)), (4, .int w338x4)]) (zml mf114 (by decide)) rfl ?_
                refine zs_aload_n (pc := 117) t114_117 rfl ?_
                refine zs_get (pc := 118) t114_118 (by decide) (zk1 (w356s.k fk_zMc_242)) (w356s.p rfl fv_zMc_242_13) ?_
                refine zs_iload (pc := 121) t114_121 rfl ?_
                obtain ⟨w357n, w357⟩ : ∃ n : Nat, w356v.toInt = (n : Int) := ⟨w356v.toInt.toNat, by omega⟩
                have w358 := ib252 w356I w357n
                refine zs_iald (pc := 123) t114_123 (j := w357n) (by decide) (zk1 (w356s.k fk_zMc_252)) w357 (zk2 (w356s.k fk_zMc_252) (by omega)) rfl ?_
                refine zs_iconst (pc := 124) t114_124 (v := 1) (by decide) ?_
                refine zs_iload (pc := 125) t114_125 rfl ?_
                obtain ⟨w359v, w359⟩ : ∃ v, (1 : Int32) <<< ((zI w338M 248 w341n) &&& 31) = v := ⟨_, rfl⟩
                have w359g := zrg w359v
                refine zs_ishl (pc := 127) t114_127 (c := w359v) w359 ?_
                obtain ⟨w360v, w360⟩ : ∃ v, (zI w356M 252 w357n) &&& w359v = v := ⟨_, rfl⟩
                have w360g := zrg w360v
                refine zs_iand (pc := 128) t114_128 (c := w360v) w360 ?_
                by_cases w361 : w360v.toInt = 0
                · refine zs_if_eqT (pc := 129) t114_129 rfl (by omega) ?_
                  refine zs_aload_n (pc := 135) t114_135 rfl ?_
                  refine zs_get (pc := 136) t114_136 (by decide) (zk1 (w356s.k fk_zMc_242)) (w356s.p rfl fv_zMc_242_13) ?_
                  refine zs_iload (pc := 139) t114_139 rfl ?_
                  refine zs_dup2 (pc := 141) t114_141 ⟨rfl, rfl⟩ ?_
                  refine zs_iald (pc := 142) t114_142 (j := w357n) (by decide) (zk1 (w356s.k fk_zMc_252)) w357 (zk2 (w356s.k fk_zMc_252) (by omega)) rfl ?_
                  refine zs_iconst (pc := 143) t114_143 (v := 1) (by decide) ?_
                  refine zs_iload (pc := 144) t114_144 rfl ?_
                  obtain ⟨w362v, w362⟩ : ∃ v, (1 : Int32) <<< ((zI w338M 248 w341n) &&& 31) = v := ⟨_, rfl⟩
                  have w362g := zrg w362v
                  refine zs_ishl (pc := 146) t114_146 (c := w362v) w362 ?_
                  obtain ⟨w363v, w363⟩ : ∃ v, (zI w356M 252 w357n) ||| w362v = v := ⟨_, rfl⟩
                  have w363g := zrg w363v
                  refine zs_ior (pc := 147) t114_147 (c := w363v) w363 ?_
                  have w364 : zIv cLo cHi (zsI w356M 252 w357n w363v) := zIv.put w356I (show (-2147483648) ≤ w363v.toInt ∧ w363v.toInt ≤ 2147483647 from (zrg w363v))
                  refine zs_iast (pc := 148) t114_148 (j := w357n) (by decide) (zk1 (w356s.k fk_zMc_252)) w357 (zk2 (w356s.k fk_zMc_252) (by omega)) ?_
                  refine zs_aload_n (pc := 149) t114_149 rfl ?_
                  refine zs_get (pc := 150) t114_150 (by decide) (zk1 (w356s.k fk_zMc_242)) (w356s.p rfl fv_zMc_242_14) ?_
                  refine zs_iload (pc := 153) t114_153 rfl ?_
                  refine zs_dup2 (pc := 155) t114_155 ⟨rfl, rfl⟩ ?_
                  have w365 := ib253 w356I w357n
                  refine zs_iald (pc := 156) t114_156 (j := w357n) (by decide) (zk1 (w356s.k fk_zMc_253)) w357 (zk2 (w356s.k fk_zMc_253) (by omega)) ((zIo (by decide)).trans rfl) ?_
                  refine zs_iconst (pc := 157) t114_157 (v := 1) (by decide) ?_
                  obtain ⟨w366v, w366⟩ : ∃ v, v = (zI w356M 253 w357n) + (1 : Int32) := ⟨_, rfl⟩
                  have w366g := zrg w366v
                  refine zs_iadd (pc := 158) t114_158 (c := w366v) w366.symm ?_
                  have w367 : zIv cLo cHi (zsI (zsI w356M 252 w357n w363v) 253 w357n w366v) := zIv.put w364 (show (-2147483648) ≤ w366v.toInt ∧ w366v.toInt ≤ 2147483647 from (zrg w366v))
                  refine zs_iast (pc := 159) t114_159 (j := w357n) (by decide) (zk1 (w356s.k fk_zMc_253)) w357 (zk2 (w356s.k fk_zMc_253) (by omega)) ?_
                  refine zs_aload_n (pc := 160) t114_160 rfl ?_
                  refine zs_get (pc := 161) t114_161 (by decide) (zk1 (w356s.k fk_zMc_242)) (w356s.p rfl fv_zMc_242_14) ?_
                  refine zs_iload (pc := 164) t114_164 rfl ?_
                  refine zs_iald (pc := 166) t114_166 (j := w357n) (by decide) (zk1 (w356s.k fk_zMc_253)) w357 (zk2 (w356s.k fk_zMc_253) (by omega)) zIs ?_
                  refine zs_istore (pc := 167) t114_167 (ls' := [(9, .int w366v), (8, .int w356v), (7, .int w353v), (6, .int w351v), (5, .int (zI w338M 248 w341n)), (0, .ref 242), (1, .int a), (2, .int w330v), (3, .int (160 : Int32)), (4, .int w338x4)]) (zml mf114 (by decide)) rfl ?_
                  refine zs_iload (pc := 169) t114_169 rfl ?_
                  refine zs_aload_n (pc := 171) t114_171 rfl ?_
                  have w368 := ib242_17 w356I
                  refine zs_get (pc := 172) t114_172 (by decide) (zk1 (w356s.k fk_zMc_242)) (zfvi rfl ((zIo (by decide)).trans ((zIo (by decide)).trans rfl))) ?_
                  by_cases w369 : (zI w356M 242 17).toInt < w366v.toInt
                  · refine zs_icmp_gtT (pc := 175) t114_175 rfl rfl (by omega) ?_
                    refine zs_aload_n (pc := 196) t114_196 rfl ?_
                    refine zs_iload (pc := 197) t114_197 rfl ?_
                    have w370 : zIv cLo cHi (zsI (zsI (zsI w356M 252 w357n w363v) 253 w357n w366v) 242 17 w366v) := zIv.put w367 (show (-2147483648) ≤ w366v.toInt ∧ w366v.toInt ≤ 2147483647 from (zrg w366v))
                    refine zs_putI (pc := 199) t114_199 (zk1 (w356s.k fk_zMc_242)) rfl ?_
                    refine zs_aload_n (pc := 202) t114_202 rfl ?_
                    refine zs_iload (pc := 203) t114_203 rfl ?_
                    have w371 : zIv cLo cHi (zsI (zsI (zsI (zsI w356M 252 w357n w363v) 253 w357n w366v) 242 17 w366v) 242 18 w353v) := zIv.put w370 (show (-2147483648) ≤ w353v.toInt ∧ w353v.toInt ≤ 2147483647 from (zrg w353v))
                    refine zs_putI (pc := 205) t114_205 (zk1 (w356s.k fk_zMc_242)) rfl ?_
                    obtain ⟨w372v, w372e, w372⟩ := ziadd (a := w338x4) (b := Int32.ofInt 1) rfl (show (Int32.ofInt 1).toInt = 1 by decide) (by omega) (by omega)
                    refine zs_iinc (pc := 208) t114_208 (ls' := [(4, .int w372v), (9, .int w366v), (8, .int w356v), (7, .int w353v), (6, .int w351v), (5, .int (zI w338M 248 w341n)), (0, .ref 242), (1, .int a), (2, .int w330v), (3, .int (160 : Int32))]) (zml mf114 (by decide)) rfl (c := w372v) w372e rfl ?_
                    refine zs_goto (pc := 211) t114_211 ?_
                    refine zGo.locals (ls' := [(0, .ref 242), (1, .int a), (2, .int w330v), (3, .int (160 : Int32)), (4, .int w372v)]) (by simp) ?_
                    exact w338ih (w338m - 1) (by omega) w372v (zsI (zsI (zsI (zsI w356M 252 w357n w363v) 253 w357n w366v) 242 17 w366v) 242 18 w353v) ⟨by omega, by omega⟩ w356s w371 (((((((zFr.refl).trans (w338F.mono rfl)).trans (w356F.mono rfl)).put rfl).put rfl).put rfl).put rfl) (by omega)
                  · refine zs_icmp_gtF (pc := 175) t114_175 rfl rfl (by omega) ?_
                    refine zs_iload (pc := 178) t114_178 rfl ?_
                    refine zs_aload_n (pc := 180) t114_180 rfl ?_
                    refine zs_get (pc := 181) t114_181 (by decide) (zk1 (w356s.k fk_zMc_242)) (zfvi rfl ((zIo (by decide)).trans ((zIo (by decide)).trans rfl))) ?_
                    by_cases w373 : w366v.toInt ≠ (zI w356M 242 17).toInt
                    · refine zs_icmp_neT (pc := 184) t114_184 rfl rfl (by omega) ?_
                      obtain ⟨w374v, w374e, w374⟩ := ziadd (a := w338x4) (b := Int32.ofInt 1) rfl (show (Int32.ofInt 1).toInt = 1 by decide) (by omega) (by omega)
                      refine zs_iinc (pc := 208) t114_208 (ls' := [(4, .int w374v), (9, .int w366v), (8, .int w356v), (7, .int w353v), (6, .int w351v), (5, .int (zI w338M 248 w341n)), (0, .ref 242), (1, .int a), (2, .int w330v), (3, .int (160 : Int32))]) (zml mf114 (by decide)) rfl (c := w374v) w374e rfl ?_
                      refine zs_goto (pc := 211) t114_211 ?_
                      refine zGo.locals (ls' := [(0, .ref 242), (1, .int a), (2, .int w330v), (3, .int (160 : Int32)), (4, .int w374v)]) (by simp) ?_
                      exact w338ih (w338m - 1) (by omega) w374v (zsI (zsI w356M 252 w357n w363v) 253 w357n w366v) ⟨by omega, by omega⟩ w356s w367 (((((zFr.refl).trans (w338F.mono rfl)).trans (w356F.mono rfl)).put rfl).put rfl) (by omega)
                    · refine zs_icmp_neF (pc := 184) t114_184 rfl rfl (by omega) ?_
                      refine zs_iload (pc := 187) t114_187 rfl ?_
                      refine zs_aload_n (pc := 189) t114_189 rfl ?_
                      have w375 := ib242_18 w356I
                      refine zs_get (pc := 190) t114_190 (by decide) (zk1 (w356s.k fk_zMc_242)) (zfvi rfl ((zIo (by decide)).trans ((zIo (by decide)).trans rfl))) ?_
                      by_cases w376 : (zI w356M 242 18).toInt ≤ w353v.toInt
                      · refine zs_icmp_geT (pc := 193) t114_193 rfl rfl (by omega) ?_
                        obtain ⟨w377v, w377e, w377⟩ := ziadd (a := w338x4) (b := Int32.ofInt 1) rfl (show (Int32.ofInt 1).toInt = 1 by decide) (by omega) (by omega)
                        refine zs_iinc (pc := 208) t114_208 (ls' := [(4, .int w377v), (9, .int w366v), (8, .int w356v), (7, .int w353v), (6, .int w351v), (5, .int (zI w338M 248 w341n)), (0, .ref 242), (1, .int a), (2, .int w330v), (3, .int (160 : Int32))]) (zml mf114 (by decide)) rfl (c := w377v) w377e rfl ?_
                        refine zs_goto (pc := 211) t114_211 ?_
                        refine zGo.locals (ls' := [(0, .ref 242), (1, .int a), (2, .int w330v), (3, .int (160 : Int32)), (4, .int w377v)]) (by simp) ?_
                        exact w338ih (w338m - 1) (by omega) w377v (zsI (zsI w356M 252 w357n w363v) 253 w357n w366v) ⟨by omega, by omega⟩ w356s w367 (((((zFr.refl).trans (w338F.mono rfl)).trans (w356F.mono rfl)).put rfl).put rfl) (by omega)
                      · refine zs_icmp_geF (pc := 193) t114_193 rfl rfl (by omega) ?_
                        refine zs_aload_n (pc := 196) t114_196 rfl ?_
                        refine zs_iload (pc := 197) t114_197 rfl ?_
                        have w378 : zIv cLo cHi (zsI (zsI (zsI w356M 252 w357n w363v) 253 w357n w366v) 242 17 w366v) := zIv.put w367 (show (-2147483648) ≤ w366v.toInt ∧ w366v.toInt ≤ 2147483647 from (zrg w366v))
                        refine zs_putI (pc := 199) t114_199 (zk1 (w356s.k fk_zMc_242)) rfl ?_
                        refine zs_aload_n (pc := 202) t114_202 rfl ?_
                        refine zs_iload (pc := 203) t114_203 rfl ?_
                        have w379 : zIv cLo cHi (zsI (zsI (zsI (zsI w356M 252 w357n w363v) 253 w357n w366v) 242 17 w366v) 242 18 w353v) := zIv.put w378 (show (-2147483648) ≤ w353v.toInt ∧ w353v.toInt ≤ 2147483647 from (zrg w353v))
                        refine zs_putI (pc := 205) t114_205 (zk1 (w356s.k fk_zMc_242)) rfl ?_
                        obtain ⟨w380v, w380e, w380⟩ := ziadd (a := w338x4) (b := Int32.ofInt 1) rfl (show (Int32.ofInt 1).toInt = 1 by decide) (by omega) (by omega)
                        refine zs_iinc (pc := 208) t114_208 (ls' := [(4, .int w380v), (9, .int w366v), (8, .int w356v), (7, .int w353v), (6, .int w351v), (5, .int (zI w338M 248 w341n)), (0, .ref 242), (1, .int a), (2, .int w330v), (3, .int (160 : Int32))]) (zml mf114 (by decide)) rfl (c := w380v) w380e rfl ?_
                        refine zs_goto (pc := 211) t114_211 ?_
                        refine zGo.locals (ls' := [(0, .ref 242), (1, .int a), (2, .int w330v), (3, .int (160 : Int32)), (4, .int w380v)]) (by simp) ?_
                        exact w338ih (w338m - 1) (by omega) w380v (zsI (zsI (zsI (zsI w356M 252 w357n w363v) 253 w357n w366v) 242 17 w366v) 242 18 w353v) ⟨by omega, by omega⟩ w356s w379 (((((((zFr.refl).trans (w338F.mono rfl)).trans (w356F.mono rfl)).put rfl).put rfl).put rfl).put rfl) (by omega)
                · refine zs_if_eqF (pc := 129) t114_129 rfl (by omega) ?_
                  refine zs_goto (pc := 132) t114_132 ?_
                  obtain ⟨w381v, w381e, w381⟩ := ziadd (a := w338x4) (b := Int32.ofInt 1) rfl (show (Int32.ofInt 1).toInt = 1 by decide) (by omega) (by omega)
                  refine zs_iinc (pc := 208) t114_208 (ls' := [(4, .int w381v), (8, .int w356v), (7, .int w353v), (6, .int w351v), (5, .int (zI w338M 248 w341n)), (0, .ref 242), (1, .int a), (2, .int w330v), (3, .int (160 : Int32))]) (zml mf114 (by decide)) rfl (c := w381v) w381e rfl ?_
                  refine zs_goto (pc := 211) t114_211 ?_
                  refine zGo.locals (ls' := [(0, .ref 242), (1, .int a), (2, .int w330v), (3, .int (160 : Int32)), (4, .int w381v)]) (by simp) ?_
                  exact w338ih (w338m - 1) (by omega) w381v w356M ⟨by omega, by omega⟩ w356s w356I (((zFr.refl).trans (w338F.mono rfl)).trans (w356F.mono rfl)) (by omega)
              · refine zs_if_geF (pc := 7) t54_7 rfl (by omega) ?_
                refine zs_iload_n (pc := 10) t54_10 rfl ?_
                refine zs_iload_n (pc := 11) t54_11 rfl ?_
                obtain ⟨w382v, w382⟩ : ∃ v, w353v * (zI w338M 242 5) = v := ⟨_, rfl⟩
                have w382g := zrg w382v
                refine zs_imul (pc := 12) t54_12 (c := w382v) w382 ?_
                refine zs_iload_n (pc := 13) t54_13 rfl ?_
                by_cases w383 : w382v.toInt = w351v.toInt
                · refine zs_icmp_eqT (pc := 14) t54_14 rfl rfl (by omega) ?_
                  refine zs_iload_n (pc := 21) t54_21 rfl ?_
                  refine zs_iret (pc := 22) t54_22 mr54 rfl ?_
                  show zGo X l 1 0 0 114 107 [(6, .int w351v), (5, .int (zI w338M 248 w341n)), (0, .ref 242), (1, .int a), (2, .int w330v), (3, .int (160 : Int32)), (4, .int w338x4)] [.int w353v] w338M _
                  refine zs_istore (pc := 107) t114_107 (ls' := [(7, .int w353v), (6, .int w351v), (5, .int (zI w338M 248 w341n)), (0, .ref 242), (1, .int a), (2, .int w330v), (3, .int (160 : Int32)), (4, .int w338x4)]) (zml mf114 (by decide)) rfl ?_
                  refine zs_aload_n (pc := 109) t114_109 rfl ?_
                  refine zs_iload (pc := 110) t114_110 rfl ?_
                  refine zs_invV (pc := 112) (k := 242) (as' := [.int w353v]) (st := []) t114_112 mf117 rfl rfl (Or.inl ⟨by decide, (zk1 (w338s.k fk_zMc_242))⟩) ⟨by decide, by decide, Nat.le_of_ble_eq_true rfl, Nat.le_of_ble_eq_true rfl⟩ (C117_242 w338s w338I ?_) (fun _ _ q => q)
                  intro w384M w384v w384s w384I w384F w384a w384b
                  show zGo X l 1 0 0 114 115 [(7, .int w353v), (6, .int w351v), (5, .int (zI w338M 248 w341n)), (0, .ref 242), (1, .int a), (2, .int w330v), (3, .int (160 : Int32)), (4, .int w338x4)] [.int w384v] w384M _
                  refine zs_istore (pc := 115) t114_115 (ls' := [(8, .int w384v), (7, .int w353v), (6, .int w351v), (5, .int (zI w338M 248 w341n)), (0, .ref 242), (1, .int a), (2, .int w330v), (3, .int (160 : Int32)), (4, .int w338x4)]) (zml mf114 (by decide)) rfl ?_
                  refine zs_aload_n (pc := 117) t114_117 rfl ?_
                  refine zs_get (pc := 118) t114_118 (by decide) (zk1 (w384s.k fk_zMc_242)) (w384s.p rfl fv_zMc_242_13) ?_
                  refine zs_iload (pc := 121) t114_121 rfl ?_
                  obtain ⟨w385n, w385⟩ : ∃ n : Nat, w384v.toInt = (n : Int) := ⟨w384v.toInt.toNat, by omega⟩
                  have w386 := ib252 w384I w385n
                  refine zs_iald (pc := 123) t114_123 (j := w385n) (by decide) (zk1 (w384s.k fk_zMc_252)) w385 (zk2 (w384s.k fk_zMc_252) (by omega)) rfl ?_
                  refine zs_iconst (pc := 124) t114_124 (v := 1) (by decide) ?_
                  refine zs_iload (pc := 125) t114_125 rfl ?_
                  obtain ⟨w387v, w387⟩ : ∃ v, (1 : Int32) <<< ((zI w338M 248 w341n) &&& 31) = v := ⟨_, rfl⟩
                  have w387g := zrg w387v
                  refine zs_ishl (pc := 127) t114_127 (c := w387v) w387 ?_
                  obtain ⟨w388v, w388⟩ : ∃ v, (zI w384M 252 w385n) &&& w387v = v := ⟨_, rfl⟩
                  have w388g := zrg w388v
                  refine zs_iand (pc := 128) t114_128 (c := w388v) w388 ?_
                  by_cases w389 : w388v.toInt = 0
                  · refine zs_if_eqT (pc := 129) t114_129 rfl (by omega) ?_
                    refine zs_aload_n (pc := 135) t114_135 rfl ?_
                    refine zs_get (pc := 136) t114_136 (by decide) (zk1 (w384s.k fk_zMc_242)) (w384s.p rfl fv_zMc_242_13) ?_
                    refine zs_iload (pc := 139) t114_139 rfl ?_
                    refine zs_dup2 (pc := 141) t114_141 ⟨rfl, rfl⟩ ?_
                    refine zs_iald (pc := 142) t114_142 (j := w385n) (by decide) (zk1 (w384s.k fk_zMc_252)) w385 (zk2 (w384s.k fk_zMc_252) (by omega)) rfl ?_
                    refine zs_iconst (pc := 143) t114_143 (v := 1) (by decide) ?_
                    refine zs_iload (pc := 144) t114_144 rfl ?_
                    obtain ⟨w390v, w390⟩ : ∃ v, (1 : Int32) <<< ((zI w338M 248 w341n) &&& 31) = v := ⟨_, rfl⟩
                    have w390g := zrg w390v
                    refine zs_ishl (pc := 146) t114_146 (c := w390v) w390 ?_
                    obtain ⟨w391v, w391⟩ : ∃ v, (zI w384M 252 w385n) ||| w390v = v := ⟨_, rfl⟩
                    have w391g := zrg w391v
                    refine zs_ior (pc := 147) t114_147 (c := w391v) w391 ?_
                    have w392 : zIv cLo cHi (zsI w384M 252 w385n w391v) := zIv.put w384I (show (-2147483648) ≤ w391v.toInt ∧ w391v.toInt ≤ 2147483647 from (zrg w391v))
                    refine zs_iast (pc := 148) t114_148 (j := w385n) (by decide) (zk1 (w384s.k fk_zMc_252)) w385 (zk2 (w384s.k fk_zMc_252) (by omega)) ?_
                    refine zs_aload_n (pc := 149) t114_149 rfl ?_
                    refine zs_get (pc := 150) t114_150 (by decide) (zk1 (w384s.k fk_zMc_242)) (w384s.p rfl fv_zMc_242_14) ?_
                    refine zs_iload (pc := 153) t114_153 rfl ?_
                    refine zs_dup2 (pc := 155) t114_155 ⟨rfl, rfl⟩ ?_
                    have w393 := ib253 w384I w385n
                    refine zs_iald (pc := 156) t114_156 (j := w385n) (by decide) (zk1 (w384s.k fk_zMc_253)) w385 (zk2 (w384s.k fk_zMc_253) (by omega)) ((zIo (by decide)).trans rfl) ?_
                    refine zs_iconst (pc := 157) t114_157 (v := 1) (by decide) ?_
                    obtain ⟨w394v, w394⟩ : ∃ v, v = (zI w384M 253 w385n) + (1 : Int32) := ⟨_, rfl⟩
                    have w394g := zrg w394v
                    refine zs_iadd (pc := 158) t114_158 (c := w394v) w394.symm ?_
                    have w395 : zIv cLo cHi (zsI (zsI w384M 252 w385n w391v) 253 w385n w394v) := zIv.put w392 (show (-2147483648) ≤ w394v.toInt ∧ w394v.toInt ≤ 2147483647 from (zrg w394v))
                    refine zs_iast (pc := 159) t114_159 (j := w385n) (by decide) (zk1 (w384s.k fk_zMc_253)) w385 (zk2 (w384s.k fk_zMc_253) (by omega)) ?_
                    refine zs_aload_n (pc := 160) t114_160 rfl ?_
                    refine zs_get (pc := 161) t114_161 (by decide) (zk1 (w384s.k fk_zMc_242)) (w384s.p rfl fv_zMc_242_14) ?_
                    refine zs_iload (pc := 164) t114_164 rfl ?_
                    refine zs_iald (pc := 166) t114_166 (j := w385n) (by decide) (zk1 (w384s.k fk_zMc_253)) w385 (zk2 (w384s.k fk_zMc_253) (by omega)) zIs ?_
                    refine zs_istore (pc := 167) t114_167 (ls' := [(9, .int w394v), (8, .int w384v), (7, .int w353v), (6, .int w351v), (5, .int (zI w338M 248 w341n)), (0, .ref 242), (1, .int a), (2, .int w330v), (3, .int (160 : Int32)), (4, .int w338x4)]) (zml mf114 (by decide)) rfl ?_
                    refine zs_iload (pc := 169) t114_169 rfl ?_
                    refine zs_aload_n (pc := 171) t114_171 rfl ?_
                    have w396 := ib242_17 w384I
                    refine zs_get (pc := 172) t114_172 (by decide) (zk1 (w384s.k fk_zMc_242)) (zfvi rfl ((zIo (by decide)).trans ((zIo (by decide)).trans rfl))) ?_
                    by_cases w397 : (zI w384M 242 17).toInt < w394v.toInt
                    · refine zs_icmp_gtT (pc := 175) t114_175 rfl rfl (by omega) ?_
                      refine zs_aload_n (pc := 196) t114_196 rfl ?_
                      refine zs_iload (pc := 197) t114_197 rfl ?_
                      have w398 : zIv cLo cHi (zsI (zsI (zsI w384M 252 w385n w391v) 253 w385n w394v) 242 17 w394v) := zIv.put w395 (show (-2147483648) ≤ w394v.toInt ∧ w394v.toInt ≤ 2147483647 from (zrg w394v))
                      refine zs_putI (pc := 199) t114_199 (zk1 (w384s.k fk_zMc_242)) rfl ?_
                      refine zs_aload_n (pc := 202) t114_202 rfl ?_
                      refine zs_iload (pc := 203) t114_203 rfl ?_
                      have w399 : zIv cLo cHi (zsI (zsI (zsI (zsI w384M 252 w385n w391v) 253 w385n w394v) 242 17 w394v) 242 18 w353v) := zIv.put w398 (show (-2147483648) ≤ w353v.toInt ∧ w353v.toInt ≤ 2147483647 from (zrg w353v))
                      refine zs_putI (pc := 205) t114_205 (zk1 (w384s.k fk_zMc_242)) rfl ?_
                      obtain ⟨w400v, w400e, w400⟩ := ziadd (a := w338x4) (b := Int32.ofInt 1) rfl (show (Int32.ofInt 1).toInt = 1 by decide) (by omega) (by omega)
                      refine zs_iinc (pc := 208) t114_208 (ls' := [(4, .int w400v), (9, .int w394v), (8, .int w384v), (7, .int w353v), (6, .int w351v), (5, .int (zI w338M 248 w341n)), (0, .ref 242), (1, .int a), (2, .int w330v), (3, .int (160 : Int32))]) (zml mf114 (by decide)) rfl (c := w400v) w400e rfl ?_
                      refine zs_goto (pc := 211) t114_211 ?_
                      refine zGo.locals (ls' := [(0, .ref 242), (1, .int a), (2, .int w330v), (3, .int (160 : Int32)), (4, .int w400v)]) (by simp) ?_
                      exact w338ih (w338m - 1) (by omega) w400v (zsI (zsI (zsI (zsI w384M 252 w385n w391v) 253 w385n w394v) 242 17 w394v) 242 18 w353v) ⟨by omega, by omega⟩ w384s w399 (((((((zFr.refl).trans (w338F.mono rfl)).trans (w384F.mono rfl)).put rfl).put rfl).put rfl).put rfl) (by omega)
                    · refine zs_icmp_gtF (pc := 175) t114_175 rfl rfl (by omega) ?_
                      refine zs_iload (pc := 178) t114_178 rfl ?_
                      refine zs_aload_n (pc := 180) t114_180 rfl ?_
                      refine zs_get (pc := 181) t114_181 (by decide) (zk1 (w384s.k fk_zMc_242)) (zfvi rfl ((zIo (by decide)).trans ((zIo (by decide)).trans rfl))) ?_
                      by_cases w401 : w394v.toInt ≠ (zI w384M 242 17).toInt
                      · refine zs_icmp_neT (pc := 184) t114_184 rfl rfl (by omega) ?_
                        obtain ⟨w402v, w402e, w402⟩ := ziadd (a := w338x4) (b := Int32.ofInt 1) rfl (show (Int32.ofInt 1).toInt = 1 by decide) (by omega) (by omega)
                        refine zs_iinc (pc := 208) t114_208 (ls' := [(4, .int w402v), (9, .int w394v), (8, .int w384v), (7, .int w353v), (6, .int w351v), (5, .int (zI w338M 248 w341n)), (0, .ref 242), (1, .int a), (2, .int w330v), (3, .int (160 : Int32))]) (zml mf114 (by decide)) rfl (c := w402v) w402e rfl ?_
                        refine zs_goto (pc := 211) t114_211 ?_
                        refine zGo.locals (ls' := [(0, .ref 242), (1, .int a), (2, .int w330v), (3, .int (160 : Int32)), (4, .int w402v)]) (by simp) ?_
                        exact w338ih (w338m - 1) (by omega) w402v (zsI (zsI w384M 252 w385n w391v) 253 w385n w394v) ⟨by omega, by omega⟩ w384s w395 (((((zFr.refl).trans (w338F.mono rfl)).trans (w384F.mono rfl)).put rfl).put rfl) (by omega)
                      · refine zs_icmp_neF (pc := 184) t114_184 rfl rfl (by omega) ?_
                        refine zs_iload (pc := 187) t114_187 rfl ?_
                        refine zs_aload_n (pc := 189) t114_189 rfl ?_
                        have w403 := ib242_18 w384I
                        refine zs_get (pc := 190) t114_190 (by decide) (zk1 (w384s.k fk_zMc_242)) (zfvi rfl ((zIo (by decide)).trans ((zIo (by decide)).trans rfl))) ?_
                        by_cases w404 : (zI w384M 242 18).toInt ≤ w353v.toInt
                        · refine zs_icmp_geT (pc := 193) t114_193 rfl rfl (by omega) ?_
                          obtain ⟨w405v, w405e, w405⟩ := ziadd (a := w338x4) (b := Int32.ofInt 1) rfl (show (Int32.ofInt 1).toInt = 1 by decide) (by omega) (by omega)
                          refine zs_iinc (pc := 208) t114_208 (ls' := [(4, .int w405v), (9, .int w394v), (8, .int w384v), (7, .int w353v), (6, .int w351v), (5, .int (zI w338M 248 w341n)), (0, .ref 242), (1, .int a), (2, .int w330v), (3, .int (160 : Int32))]) (zml mf114 (by decide)) rfl (c := w405v) w405e rfl ?_
                          refine zs_goto (pc := 211) t114_211 ?_
                          refine zGo.locals (ls' := [(0, .ref 242), (1, .int a), (2, .int w330v), (3, .int (160 : Int32)), (4, .int w405v)]) (by simp) ?_
                          exact w338ih (w338m - 1) (by omega) w405v (zsI (zsI w384M 252 w385n w391v) 253 w385n w394v) ⟨by omega, by omega⟩ w384s w395 (((((zFr.refl).trans (w338F.mono rfl)).trans (w384F.mono rfl)).put rfl).put rfl) (by omega)
                        · refine zs_icmp_geF (pc := 193) t114_193 rfl rfl (by omega) ?_
                          refine zs_aload_n (pc := 196) t114_196 rfl ?_
                          refine zs_iload (pc := 197) t114_197 rfl ?_
                          have w406 : zIv cLo cHi (zsI (zsI (zsI w384M 252 w385n w391v) 253 w385n w394v) 242 17 w394v) := zIv.put w395 (show (-2147483648) ≤ w394v.toInt ∧ w394v.toInt ≤ 2147483647 from (zrg w394v))
                          refine zs_putI (pc := 199) t114_199 (zk1 (w384s.k fk_zMc_242)) rfl ?_
                          refine zs_aload_n (pc := 202) t114_202 rfl ?_
                          refine zs_iload (pc := 203) t114_203 rfl ?_
                          have w407 : zIv cLo cHi (zsI (zsI (zsI (zsI w384M 252 w385n w391v) 253 w385n w394v) 242 17 w394v) 242 18 w353v) := zIv.put w406 (show (-2147483648) ≤ w353v.toInt ∧ w353v.toInt ≤ 2147483647 from (zrg w353v))
                          refine zs_putI (pc := 205) t114_205 (zk1 (w384s.k fk_zMc_242)) rfl ?_
                          obtain ⟨w408v, w408e, w408⟩ := ziadd (a := w338x4) (b := Int32.ofInt 1) rfl (show (Int32.ofInt 1).toInt = 1 by decide) (by omega) (by omega)
                          refine zs_iinc (pc := 208) t114_208 (ls' := [(4, .int w408v), (9, .int w394v), (8, .int w384v), (7, .int w353v), (6, .int w351v), (5, .int (zI w338M 248 w341n)), (0, .ref 242), (1, .int a), (2, .int w330v), (3, .int (160 : Int32))]) (zml mf114 (by decide)) rfl (c := w408v) w408e rfl ?_
                          refine zs_goto (pc := 211) t114_211 ?_
                          refine zGo.locals (ls' := [(0, .ref 242), (1, .int a), (2, .int w330v), (3, .int (160 : Int32)), (4, .int w408v)]) (by simp) ?_
                          exact w338ih (w338m - 1) (by omega) w408v (zsI (zsI (zsI (zsI w384M 252 w385n w391v) 253 w385n w394v) 242 17 w394v) 242 18 w353v) ⟨by omega, by omega⟩ w384s w407 (((((((zFr.refl).trans (w338F.mono rfl)).trans (w384F.mono rfl)).put rfl).put rfl).put rfl).put rfl) (by omega)
                  · refine zs_if_eqF (pc := 129) t114_129 rfl (by omega) ?_
                    refine zs_goto (pc := 132) t114_132 ?_
                    obtain ⟨w409v, w409e, w409⟩ := ziadd (a := w338x4) (b := Int32.ofInt 1) rfl (show (Int32.ofInt 1).toInt = 1 by decide) (by omega) (by omega)
                    refine zs_iinc (pc := 208) t114_208 (ls' := [(4, .int w409v), (8, .int w384v), (7, .int w353v), (6, .int w351v), (5, .int (zI w338M 248 w341n)), (0, .ref 242), (1, .int a), (2, .int w330v), (3, .int (160 : Int32))]) (zml mf114 (by decide)) rfl (c := w409v) w409e rfl ?_
                    refine zs_goto (pc := 211) t114_211 ?_
                    refine zGo.locals (ls' := [(0, .ref 242), (1, .int a), (2, .int w330v), (3, .int (160 : Int32)), (4, .int w409v)]) (by simp) ?_
                    exact w338ih (w338m - 1) (by omega) w409v w384M ⟨by omega, by omega⟩ w384s w384I (((zFr.refl).trans (w338F.mono rfl)).trans (w384F.mono rfl)) (by omega)
                · refine zs_icmp_eqF (pc := 14) t54_14 rfl rfl (by omega) ?_
                  refine zs_iload_n (pc := 17) t54_17 rfl ?_
                  refine zs_iconst (pc := 18) t54_18 (v := 1) (by decide) ?_
                  obtain ⟨w410v, w410⟩ : ∃ v, v = w353v - (1 : Int32) := ⟨_, rfl⟩
                  have w410g := zrg w410v
                  refine zs_isub (pc := 19) t54_19 (c := w410v) w410.symm ?_
                  refine zs_iret (pc := 20) t54_20 mr54 rfl ?_
                  show zGo X l 1 0 0 114 107 [(6, .int w351v), (5, .int (zI w338M 248 w341n)), (0, .ref 242), (1, .int a), (2, .int w330v), (3, .int (160 : Int32)), (4, .int w338x4)] [.int w410v] w338M _
                  refine zs_istore (pc := 107) t114_107 (ls' := [(7, .int w410v), (6, .int w351v), (5, .int (zI w338M 248 w341n)), (0, .ref 242), (1, .int a), (2, .int w330v), (3, .int (160 : Int32)), (4, .int w338x4)]) (zml mf114 (by decide)) rfl ?_
                  refine zs_aload_n (pc := 109) t114_109 rfl ?_
                  refine zs_iload (pc := 110) t114_110 rfl ?_
                  refine zs_invV (pc := 112) (k := 242) (as' := [.int w410v]) (st := []) t114_112 mf117 rfl rfl (Or.inl ⟨by decide, (zk1 (w338s.k fk_zMc_242))⟩) ⟨by decide, by decide, Nat.le_of_ble_eq_true rfl, Nat.le_of_ble_eq_true rfl⟩ (C117_242 w338s w338I ?_) (fun _ _ q => q)
                  intro w411M w411v w411s w411I w411F w411a w411b
                  show zGo X l 1 0 0 114 115 [(7, .int w410v), (6, .int w351v), (5, .int (zI w338M 248 w341n)), (0, .ref 242), (1, .int a), (2, .int w330v), (3, .int (160 : Int32)), (4, .int w338x4)] [.int w411v] w411M _
                  refine zs_istore (pc := 115) t114_115 (ls' := [(8, .int w411v), (7, .int w410v), (6, .int w351v), (5, .int (zI w338M 248 w341n)), (0, .ref 242), (1, .int a), (2, .int w330v), (3, .int (160 : Int32)), (4, .int w338x4)]) (zml mf114 (by decide)) rfl ?_
                  refine zs_aload_n (pc := 117) t114_117 rfl ?_
                  refine zs_get (pc := 118) t114_118 (by decide) (zk1 (w411s.k fk_zMc_242)) (w411s.p rfl fv_zMc_242_13) ?_
                  refine zs_iload (pc := 121) t114_121 rfl ?_
                  obtain ⟨w412n, w412⟩ : ∃ n : Nat, w411v.toInt = (n : Int) := ⟨w411v.toInt.toNat, by omega⟩
                  have w413 := ib252 w411I w412n
                  refine zs_iald (pc := 123) t114_123 (j := w412n) (by decide) (zk1 (w411s.k fk_zMc_252)) w412 (zk2 (w411s.k fk_zMc_252) (by omega)) rfl ?_
                  refine zs_iconst (pc := 124) t114_124 (v := 1) (by decide) ?_
                  refine zs_iload (pc := 125) t114_125 rfl ?_
                  obtain ⟨w414v, w414⟩ : ∃ v, (1 : Int32) <<< ((zI w338M 248 w341n) &&& 31) = v := ⟨_, rfl⟩
                  have w414g := zrg w414v
                  refine zs_ishl (pc := 127) t114_127 (c := w414v) w414 ?_
                  obtain ⟨w415v, w415⟩ : ∃ v, (zI w411M 252 w412n) &&& w414v = v := ⟨_, rfl⟩
                  have w415g := zrg w415v
                  refine zs_iand (pc := 128) t114_128 (c := w415v) w415 ?_
                  by_cases w416 : w415v.toInt = 0
                  · refine zs_if_eqT (pc := 129) t114_129 rfl (by omega) ?_
                    refine zs_aload_n (pc := 135) t114_135 rfl ?_
                    refine zs_get (pc := 136) t114_136 (by decide) (zk1 (w411s.k fk_zMc_242)) (w411s.p rfl fv_zMc_242_13) ?_
                    refine zs_iload (pc := 139) t114_139 rfl ?_
                    refine zs_dup2 (pc := 141) t114_141 ⟨rfl, rfl⟩ ?_
                    refine zs_iald (pc := 142) t114_142 (j := w412n) (by decide) (zk1 (w411s.k fk_zMc_252)) w412 (zk2 (w411s.k fk_zMc_252) (by omega)) rfl ?_
                    refine zs_iconst (pc := 143) t114_143 (v := 1) (by decide) ?_
                    refine zs_iload (pc := 144) t114_144 rfl ?_
                    obtain ⟨w417v, w417⟩ : ∃ v, (1 : Int32) <<< ((zI w338M 248 w341n) &&& 31) = v := ⟨_, rfl⟩
                    have w417g := zrg w417v
                    refine zs_ishl (pc := 146) t114_146 (c := w417v) w417 ?_
                    obtain ⟨w418v, w418⟩ : ∃ v, (zI w411M 252 w412n) ||| w417v = v := ⟨_, rfl⟩
                    have w418g := zrg w418v
                    refine zs_ior (pc := 147) t114_147 (c := w418v) w418 ?_
                    have w419 : zIv cLo cHi (zsI w411M 252 w412n w418v) := zIv.put w411I (show (-2147483648) ≤ w418v.toInt ∧ w418v.toInt ≤ 2147483647 from (zrg w418v))
                    refine zs_iast (pc := 148) t114_148 (j := w412n) (by decide) (zk1 (w411s.k fk_zMc_252)) w412 (zk2 (w411s.k fk_zMc_252) (by omega)) ?_
                    refine zs_aload_n (pc := 149) t114_149 rfl ?_
                    refine zs_get (pc := 150) t114_150 (by decide) (zk1 (w411s.k fk_zMc_242)) (w411s.p rfl fv_zMc_242_14) ?_
                    refine zs_iload (pc := 153) t114_153 rfl ?_
                    refine zs_dup2 (pc := 155) t114_155 ⟨rfl, rfl⟩ ?_
                    have w420 := ib253 w411I w412n
                    refine zs_iald (pc := 156) t114_156 (j := w412n) (by decide) (zk1 (w411s.k fk_zMc_253)) w412 (zk2 (w411s.k fk_zMc_253) (by omega)) ((zIo (by decide)).trans rfl) ?_
                    refine zs_iconst (pc := 157) t114_157 (v := 1) (by decide) ?_
                    obtain ⟨w421v, w421⟩ : ∃ v, v = (zI w411M 253 w412n) + (1 : Int32) := ⟨_, rfl⟩
                    have w421g := zrg w421v
                    refine zs_iadd (pc := 158) t114_158 (c := w421v) w421.symm ?_
                    have w422 : zIv cLo cHi (zsI (zsI w411M 252 w412n w418v) 253 w412n w421v) := zIv.put w419 (show (-2147483648) ≤ w421v.toInt ∧ w421v.toInt ≤ 2147483647 from (zrg w421v))
                    refine zs_iast (pc := 159) t114_159 (j := w412n) (by decide) (zk1 (w411s.k fk_zMc_253)) w412 (zk2 (w411s.k fk_zMc_253) (by omega)) ?_
                    refine zs_aload_n (pc := 160) t114_160 rfl ?_
                    refine zs_get (pc := 161) t114_161 (by decide) (zk1 (w411s.k fk_zMc_242)) (w411s.p rfl fv_zMc_242_14) ?_
                    refine zs_iload (pc := 164) t114_164 rfl ?_
                    refine zs_iald (pc := 166) t114_166 (j := w412n) (by decide) (zk1 (w411s.k fk_zMc_253)) w412 (zk2 (w411s.k fk_zMc_253) (by omega)) zIs ?_
                    refine zs_istore (pc := 167) t114_167 (ls' := [(9, .int w421v), (8, .int w411v), (7, .int w410v), (6, .int w351v), (5, .int (zI w338M 248 w341n)), (0, .ref 242), (1, .int a), (2, .int w330v), (3, .int (160 : Int32)), (4, .int w338x4)]) (zml mf114 (by decide)) rfl ?_
                    refine zs_iload (pc := 169) t114_169 rfl ?_
                    refine zs_aload_n (pc := 171) t114_171 rfl ?_
                    have w423 := ib242_17 w411I
                    refine zs_get (pc := 172) t114_172 (by decide) (zk1 (w411s.k fk_zMc_242)) (zfvi rfl ((zIo (by decide)).trans ((zIo (by decide)).trans rfl))) ?_
                    by_cases w424 : (zI w411M 242 17).toInt < w421v.toInt
                    · refine zs_icmp_gtT (pc := 175) t114_175 rfl rfl (by omega) ?_
                      refine zs_aload_n (pc := 196) t114_196 rfl ?_
                      refine zs_iload (pc := 197) t114_197 rfl ?_
                      have w425 : zIv cLo cHi (zsI (zsI (zsI w411M 252 w412n w418v) 253 w412n w421v) 242 17 w421v) := zIv.put w422 (show (-2147483648) ≤ w421v.toInt ∧ w421v.toInt ≤ 2147483647 from (zrg w421v))
                      refine zs_putI (pc := 199) t114_199 (zk1 (w411s.k fk_zMc_242)) rfl ?_
                      refine zs_aload_n (pc := 202) t114_202 rfl ?_
                      refine zs_iload (pc := 203) t114_203 rfl ?_
                      have w426 : zIv cLo cHi (zsI (zsI (zsI (zsI w411M 252 w412n w418v) 253 w412n w421v) 242 17 w421v) 242 18 w410v) := zIv.put w425 (show (-2147483648) ≤ w410v.toInt ∧ w410v.toInt ≤ 2147483647 from (zrg w410v))
                      refine zs_putI (pc := 205) t114_205 (zk1 (w411s.k fk_zMc_242)) rfl ?_
                      obtain ⟨w427v, w427e, w427⟩ := ziadd (a := w338x4) (b := Int32.ofInt 1) rfl (show (Int32.ofInt 1).toInt = 1 by decide) (by omega) (by omega)
                      refine zs_iinc (pc := 208) t114_208 (ls' := [(4, .int w427v), (9, .int w421v), (8, .int w411v), (7, .int w410v), (6, .int w351v), (5, .int (zI w338M 248 w341n)), (0, .ref 242), (1, .int a), (2, .int w330v), (3, .int (160 : Int32))]) (zml mf114 (by decide)) rfl (c := w427v) w427e rfl ?_
                      refine zs_goto (pc := 211) t114_211 ?_
                      refine zGo.locals (ls' := [(0, .ref 242), (1, .int a), (2, .int w330v), (3, .int (160 : Int32)), (4, .int w427v)]) (by simp) ?_
                      exact w338ih (w338m - 1) (by omega) w427v (zsI (zsI (zsI (zsI w411M 252 w412n w418v) 253 w412n w421v) 242 17 w421v) 242 18 w410v) ⟨by omega, by omega⟩ w411s w426 (((((((zFr.refl).trans (w338F.mono rfl)).trans (w411F.mono rfl)).put rfl).put rfl).put rfl).put rfl) (by omega)
                    · refine zs_icmp_gtF (pc := 175) t114_175 rfl rfl (by omega) ?_
                      refine zs_iload (pc := 178) t114_178 rfl ?_
                      refine zs_aload_n (pc := 180) t114_180 rfl ?_
                      refine zs_get (pc := 181) t114_181 (by decide) (zk1 (w411s.k fk_zMc_242)) (zfvi rfl ((zIo (by decide)).trans ((zIo (by decide)).trans rfl))) ?_
                      by_cases w428 : w421v.toInt ≠ (zI w411M 242 17).toInt
                      · refine zs_icmp_neT (pc := 184) t114_184 rfl rfl (by omega) ?_
                        obtain ⟨w429v, w429e, w429⟩ := ziadd (a := w338x4) (b := Int32.ofInt 1) rfl (show (Int32.ofInt 1).toInt = 1 by decide) (by omega) (by omega)
                        refine zs_iinc (pc := 208) t114_208 (ls' := [(4, .int w429v), (9, .int w421v), (8, .int w411v), (7, .int w410v), (6, .int w351v), (5, .int (zI w338M 248 w341n)), (0, .ref 242), (1, .int a), (2, .int w330v), (3, .int (160 : Int32))]) (zml mf114 (by decide)) rfl (c := w429v) w429e rfl ?_
                        refine zs_goto (pc := 211) t114_211 ?_
                        refine zGo.locals (ls' := [(0, .ref 242), (1, .int a), (2, .int w330v), (3, .int (160 : Int32)), (4, .int w429v)]) (by simp) ?_
                        exact w338ih (w338m - 1) (by omega) w429v (zsI (zsI w411M 252 w412n w418v) 253 w412n w421v) ⟨by omega, by omega⟩ w411s w422 (((((zFr.refl).trans (w338F.mono rfl)).trans (w411F.mono rfl)).put rfl).put rfl) (by omega)
                      · refine zs_icmp_neF (pc := 184) t114_184 rfl rfl (by omega) ?_
                        refine zs_iload (pc := 187) t114_187 rfl ?_
                        refine zs_aload_n (pc := 189) t114_189 rfl ?_
                        have w430 := ib242_18 w411I
                        refine zs_get (pc := 190) t114_190 (by decide) (zk1 (w411s.k fk_zMc_242)) (zfvi rfl ((zIo (by decide)).trans ((zIo (by decide)).trans rfl))) ?_
                        by_cases w431 : (zI w411M 242 18).toInt ≤ w410v.toInt
                        · refine zs_icmp_geT (pc := 193) t114_193 rfl rfl (by omega) ?_
                          obtain ⟨w432v, w432e, w432⟩ := ziadd (a := w338x4) (b := Int32.ofInt 1) rfl (show (Int32.ofInt 1).toInt = 1 by decide) (by omega) (by omega)
                          refine zs_iinc (pc := 208) t114_208 (ls' := [(4, .int w432v), (9, .int w421v), (8, .int w411v), (7, .int w410v), (6, .int w351v), (5, .int (zI w338M 248 w341n)), (0, .ref 242), (1, .int a), (2, .int w330v), (3, .int (160 : Int32))]) (zml mf114 (by decide)) rfl (c := w432v) w432e rfl ?_
                          refine zs_goto (pc := 211) t114_211 ?_
                          refine zGo.locals (ls' := [(0, .ref 242), (1, .int a), (2, .int w330v), (3, .int (160 : Int32)), (4, .int w432v)]) (by simp) ?_
                          exact w338ih (w338m - 1) (by omega) w432v (zsI (zsI w411M 252 w412n w418v) 253 w412n w421v) ⟨by omega, by omega⟩ w411s w422 (((((zFr.refl).trans (w338F.mono rfl)).trans (w411F.mono rfl)).put rfl).put rfl) (by omega)
                        · refine zs_icmp_geF (pc := 193) t114_193 rfl rfl (by omega) ?_
                          refine zs_aload_n (pc := 196) t114_196 rfl ?_
                          refine zs_iload (pc := 197) t114_197 rfl ?_
                          have w433 : zIv cLo cHi (zsI (zsI (zsI w411M 252 w412n w418v) 253 w412n w421v) 242 17 w421v) := zIv.put w422 (show (-2147483648) ≤ w421v.toInt ∧ w421v.toInt ≤ 2147483647 from (zrg w421v))
                          refine zs_putI (pc := 199) t114_199 (zk1 (w411s.k fk_zMc_242)) rfl ?_
                          refine zs_aload_n (pc := 202) t114_202 rfl ?_
                          refine zs_iload (pc := 203) t114_203 rfl ?_
                          have w434 : zIv cLo cHi (zsI (zsI (zsI (zsI w411M 252 w412n w418v) 253 w412n w421v) 242 17 w421v) 242 18 w410v) := zIv.put w433 (show (-2147483648) ≤ w410v.toInt ∧ w410v.toInt ≤ 2147483647 from (zrg w410v))
                          refine zs_putI (pc := 205) t114_205 (zk1 (w411s.k fk_zMc_242)) rfl ?_
                          obtain ⟨w435v, w435e, w435⟩ := ziadd (a := w338x4) (b := Int32.ofInt 1) rfl (show (Int32.ofInt 1).toInt = 1 by decide) (by omega) (by omega)
                          refine zs_iinc (pc := 208) t114_208 (ls' := [(4, .int w435v), (9, .int w421v), (8, .int w411v), (7, .int w410v), (6, .int w351v), (5, .int (zI w338M 248 w341n)), (0, .ref 242), (1, .int a), (2, .int w330v), (3, .int (160 : Int32))]) (zml mf114 (by decide)) rfl (c := w435v) w435e rfl ?_
                          refine zs_goto (pc := 211) t114_211 ?_
                          refine zGo.locals (ls' := [(0, .ref 242), (1, .int a), (2, .int w330v), (3, .int (160 : Int32)), (4, .int w435v)]) (by simp) ?_
                          exact w338ih (w338m - 1) (by omega) w435v (zsI (zsI (zsI (zsI w411M 252 w412n w418v) 253 w412n w421v) 242 17 w421v) 242 18 w410v) ⟨by omega, by omega⟩ w411s w434 (((((((zFr.refl).trans (w338F.mono rfl)).trans (w411F.mono rfl)).put rfl).put rfl).put rfl).put rfl) (by omega)
                  · refine zs_if_eqF (pc := 129) t114_129 rfl (by omega) ?_
                    refine zs_goto (pc := 132) t114_132 ?_
                    obtain ⟨w436v, w436e, w436⟩ := ziadd (a := w338x4) (b := Int32.ofInt 1) rfl (show (Int32.ofInt 1).toInt = 1 by decide) (by omega) (by omega)
                    refine zs_iinc (pc := 208) t114_208 (ls' := [(4, .int w436v), (8, .int w411v), (7, .int w410v), (6, .int w351v), (5, .int (zI w338M 248 w341n)), (0, .ref 242), (1, .int a), (2, .int w330v), (3, .int (160 : Int32))]) (zml mf114 (by decide)) rfl (c := w436v) w436e rfl ?_
                    refine zs_goto (pc := 211) t114_211 ?_
                    refine zGo.locals (ls' := [(0, .ref 242), (1, .int a), (2, .int w330v), (3, .int (160 : Int32)), (4, .int w436v)]) (by simp) ?_
                    exact w338ih (w338m - 1) (by omega) w436v w411M ⟨by omega, by omega⟩ w411s w411I (((zFr.refl).trans (w338F.mono rfl)).trans (w411F.mono rfl)) (by omega)
        refine zGo.locals (ls' := [(0, .ref 242), (1, .int a), (2, .int w330v), (3, .int (160 : Int32)), (4, .int (0 : Int32))]) (by simp) ?_
        have w437 := li0
        exact w338L ((60 - 0 : Int).toNat) (0 : Int32) (zsI (zsI (zsI (zsI M 242 10 w333v) 242 15 (0 : Int32)) 242 17 (0 : Int32)) 242 18 (0 : Int32)) ⟨by decide, by decide⟩ hs w337 zFr.refl (by omega)
      · refine zs_icmp_geF (pc := 9) t116_9 rfl rfl (by omega) ?_
        refine zs_aload_n (pc := 12) t116_12 rfl ?_
        refine zs_get (pc := 13) t116_13 (by decide) (zk1 (hs.k fk_zMc_242)) (hs.p rfl fv_zMc_242_2) ?_
        refine zs_iload_n (pc := 16) t116_16 rfl ?_
        have w438 := ib244 hI w327n
        refine zs_iald (pc := 17) t116_17 (j := w327n) (by decide) (zk1 (hs.k fk_zMc_244)) w327 (zk2 (hs.k fk_zMc_244) (by omega)) rfl ?_
        refine zs_goto (pc := 18) t116_18 ?_
        refine zs_iret (pc := 22) t116_22 mr116 rfl ?_
        show zGo X l 1 0 0 114 16 [(2, .int w330v), (0, .ref 242), (1, .int a)] [.int (zI M 244 w327n)] M _
        refine zs_bipush (pc := 16) t114_16 (v := 20) (by decide) ?_
        obtain ⟨w439v, w439e, w439⟩ := ziadd (a := (zI M 244 w327n)) (b := (20 : Int32)) rfl li20 (by omega) (by omega)
        refine zs_iadd (pc := 18) t114_18 (c := w439v) w439e ?_
        refine zs_bipush (pc := 19) t114_19 (v := 8) (by decide) ?_
        obtain ⟨w440v, w440⟩ : ∃ v, w439v * (8 : Int32) = v := ⟨_, rfl⟩
        have w440g : w440v.toInt = ((zI M 244 w327n).toInt + 20) * 8 := by rw [← w440]; exact zmulc w439 li8 (by omega) (by omega)
        refine zs_imul (pc := 21) t114_21 (c := w440v) w440 ?_
        refine zs_istore_n (pc := 22) t114_22 (ls' := [(3, .int w440v), (2, .int w330v), (0, .ref 242), (1, .int a)]) (zml mf114 (by decide)) rfl ?_
        refine zs_aload_n (pc := 23) t114_23 rfl ?_
        refine zs_dup (pc := 24) t114_24 rfl ?_
        have w441 := ib242_10 hI
        refine zs_get (pc := 25) t114_25 (by decide) (zk1 (hs.k fk_zMc_242)) (zfvi rfl rfl) ?_
        refine zs_iconst (pc := 28) t114_28 (v := 1) (by decide) ?_
        obtain ⟨w442v, w442⟩ : ∃ v, v = (zI M 242 10) + (1 : Int32) := ⟨_, rfl⟩
        have w442g := zrg w442v
        refine zs_iadd (pc := 29) t114_29 (c := w442v) w442.symm ?_
        have w443 : zIv cLo cHi (zsI M 242 10 w442v) := zIv.put hI (show (-2147483648) ≤ w442v.toInt ∧ w442v.toInt ≤ 2147483647 from (zrg w442v))
        refine zs_putI (pc := 30) t114_30 (zk1 (hs.k fk_zMc_242)) rfl ?_
        refine zs_aload_n (pc := 33) t114_33 rfl ?_
        refine zs_iconst (pc := 34) t114_34 (v := 0) (by decide) ?_
        have w444 : zIv cLo cHi (zsI (zsI M 242 10 w442v) 242 15 (0 : Int32)) := zIv.put w443 (show 0 ≤ (0 : Int32).toInt ∧ (0 : Int32).toInt ≤ 60 from ⟨by decide, by decide⟩)
        refine zs_putI (pc := 35) t114_35 (zk1 (hs.k fk_zMc_242)) rfl ?_
        refine zs_aload_n (pc := 38) t114_38 rfl ?_
        refine zs_iconst (pc := 39) t114_39 (v := 0) (by decide) ?_
        have w445 : zIv cLo cHi (zsI (zsI (zsI M 242 10 w442v) 242 15 (0 : Int32)) 242 17 (0 : Int32)) := zIv.put w444 (show (-2147483648) ≤ (0 : Int32).toInt ∧ (0 : Int32).toInt ≤ 2147483647 from (zrg (0 : Int32)))
        refine zs_putI (pc := 40) t114_40 (zk1 (hs.k fk_zMc_242)) rfl ?_
        refine zs_aload_n (pc := 43) t114_43 rfl ?_
        refine zs_iconst (pc := 44) t114_44 (v := 0) (by decide) ?_
        have w446 : zIv cLo cHi (zsI (zsI (zsI (zsI M 242 10 w442v) 242 15 (0 : Int32)) 242 17 (0 : Int32)) 242 18 (0 : Int32)) := zIv.put w445 (show (-2147483648) ≤ (0 : Int32).toInt ∧ (0 : Int32).toInt ≤ 2147483647 from (zrg (0 : Int32)))
        refine zs_putI (pc := 45) t114_45 (zk1 (hs.k fk_zMc_242)) rfl ?_
        refine zs_iconst (pc := 48) t114_48 (v := 0) (by decide) ?_
        refine zs_istore (pc := 49) t114_49 (ls' := [(4, .int (0 : Int32)), (3, .int w440v), (2, .int w330v), (0, .ref 242), (1, .int a)]) (zml mf114 (by decide)) rfl ?_
        have w447L : ∀ (m : Nat) (w447x4 : Int32) (w447M : zM), (0 ≤ w447x4.toInt ∧ w447x4.toInt ≤ 60) → zSk zMc w447M → zIv cLo cHi w447M → zFr [(242, 254, none)] (zsI (zsI (zsI (zsI M 242 10 w442v) 242 15 (0 : Int32)) 242 17 (0 : Int32)) 242 18 (0 : Int32)) w447M → 60 - w447x4.toInt ≤ (m : Int) → zGo X l 1 0 0 114 51 [(0, .ref 242), (1, .int a), (2, .int w330v), (3, .int w440v), (4, .int w447x4)] [] w447M Q := by
          intro m
          induction m using Nat.strongRecOn with
          | ind w447m w447ih =>
            intro w447x4 w447M w447b4 w447s w447I w447F w447q
            refine zs_iload (pc := 51) t114_51 rfl ?_
            refine zs_aload_n (pc := 53) t114_53 rfl ?_
            have w448 := ib242_6 w447I
            refine zs_get (pc := 54) t114_54 (by decide) (zk1 (w447s.k fk_zMc_242)) (zfvi rfl rfl) ?_
            by_cases w449 : (zI w447M 242 6).toInt ≤ w447x4.toInt
            · refine zs_icmp_geT (pc := 57) t114_57 rfl rfl (by omega) ?_
              exact zs_vret (pc := 214) t114_214 mr114 (hQ _ w447s w447I ((((((zFr.refl).put rfl).put rfl).put rfl).put rfl).trans (w447F.mono rfl)))
            · refine zs_icmp_geF (pc := 57) t114_57 rfl rfl (by omega) ?_
              refine zs_aload_n (pc := 60) t114_60 rfl ?_
              refine zs_get (pc := 61) t114_61 (by decide) (zk1 (w447s.k fk_zMc_242)) (w447s.p rfl fv_zMc_242_8) ?_
              refine zs_iload (pc := 64) t114_64 rfl ?_
              obtain ⟨w450n, w450⟩ : ∃ n : Nat, w447x4.toInt = (n : Int) := ⟨w447x4.toInt.toNat, by omega⟩
              have w451 := ib248 w447I w450n
              refine zs_iald (pc := 66) t114_66 (j := w450n) (by decide) (zk1 (w447s.k fk_zMc_248)) w450 (zk2 (w447s.k fk_zMc_248) (by omega)) rfl ?_
              refine zs_istore (pc := 67) t114_67 (ls' := [(5, .int (zI w447M 248 w450n)), (0, .ref 242), (1, .int a), (2, .int w330v), (3, .int w440v), (4, .int w447x4)]) (zml mf114 (by decide)) rfl ?_
              refine zs_aload_n (pc := 69) t114_69 rfl ?_
              refine zs_get (pc := 70) t114_70 (by decide) (zk1 (w447s.k fk_zMc_242)) (w447s.p rfl fv_zMc_242_9) ?_
              refine zs_iload (pc := 73) t114_73 rfl ?_
              have w452 := ib249 w447I w450n
              refine zs_iald (pc := 75) t114_75 (j := w450n) (by decide) (zk1 (w447s.k fk_zMc_249)) w450 (zk2 (w447s.k fk_zMc_249) (by omega)) rfl ?_
              refine zs_aload_n (pc := 76) t114_76 rfl ?_
              refine zs_get (pc := 77) t114_77 (by decide) (zk1 (w447s.k fk_zMc_242)) (w447s.p rfl fv_zMc_242_3) ?_
              refine zs_iload_n (pc := 80) t114_80 rfl ?_
              refine zs_iload (pc := 81) t114_81 rfl ?_
              obtain ⟨w453v, w453e, w453⟩ := ziadd (a := w330v) (b := (zI w447M 248 w450n)) rfl rfl (by omega) (by omega)
              refine zs_iadd (pc := 83) t114_83 (c := w453v) w453e ?_
              obtain ⟨w454n, w454⟩ : ∃ n : Nat, w453v.toInt = (n : Int) := ⟨w453v.toInt.toNat, by omega⟩
              have w455 := ib245 w447I w454n
              refine zs_iald (pc := 84) t114_84 (j := w454n) (by decide) (zk1 (w447s.k fk_zMc_245)) w454 (zk2 (w447s.k fk_zMc_245) (by omega)) rfl ?_
              obtain ⟨w456v, w456⟩ : ∃ v, v = (zI w447M 249 w450n) - (zI w447M 245 w454n) := ⟨_, rfl⟩
              have w456g := zrg w456v
              refine zs_isub (pc := 85) t114_85 (c := w456v) w456.symm ?_
              refine zs_aload_n (pc := 86) t114_86 rfl ?_
              refine zs_get (pc := 87) t114_87 (by decide) (zk1 (w447s.k fk_zMc_242)) (w447s.p rfl fv_zMc_242_4) ?_
              refine zs_iload_n (pc := 90) t114_90 rfl ?_
              refine zs_iload (pc := 91) t114_91 rfl ?_
              obtain ⟨w457v, w457e, w457⟩ := ziadd (a := w440v) (b := (zI w447M 248 w450n)) rfl rfl (by omega) (by omega)
              refine zs_iadd (pc := 93) t114_93 (c := w457v) w457e ?_
              obtain ⟨w458n, w458⟩ : ∃ n : Nat, w457v.toInt = (n : Int) := ⟨w457v.toInt.toNat, by omega⟩
              have w459 := ib246 w447I w458n
              refine zs_iald (pc := 94) t114_94 (j := w458n) (by decide) (zk1 (w447s.k fk_zMc_246)) w458 (zk2 (w447s.k fk_zMc_246) (by omega)) rfl ?_
              obtain ⟨w460v, w460⟩ : ∃ v, v = w456v - (zI w447M 246 w458n) := ⟨_, rfl⟩
              have w460g := zrg w460v
              refine zs_isub (pc := 95) t114_95 (c := w460v) w460.symm ?_
              refine zs_istore (pc := 96) t114_96 (ls' := [(6, .int w460v), (5, .int (zI w447M 248 w450n)), (0, .ref 242), (1, .int a), (2, .int w330v), (3, .int w440v), (4, .int w447x4)]) (zml mf114 (by decide)) rfl ?_
              refine zs_iload (pc := 98) t114_98 rfl ?_
              refine zs_aload_n (pc := 100) t114_100 rfl ?_
              have w461 := ib242_5 w447I
              refine zs_get (pc := 101) t114_101 (by decide) (zk1 (w447s.k fk_zMc_242)) (zfvi rfl rfl) ?_
              refine zs_invS (pc := 104) (as := [.int w460v, .int (zI w447M 242 5)]) (st := []) t114_104 (by decide) mf54 rfl rfl ⟨by decide, by decide, Nat.le_of_ble_eq_true rfl, Nat.le_of_ble_eq_true rfl⟩ (zs_in (by decide) mf54 (Nat.le_of_ble_eq_true rfl) ?_) (fun _ _ q => q)
              show zGo X l 0 0 0 54 0 [(0, .int w460v), (1, .int (zI w447M 242 5))] [] w447M _
              refine zs_iload_n (pc := 0) t54_0 rfl ?_
              refine zs_iload_n (pc := 1) t54_1 rfl ?_
              obtain ⟨w462v, w462⟩ : ∃ v, w460v / (zI w447M 242 5) = v := ⟨_, rfl⟩
              have w462g := zrg w462v
              refine zs_idiv (pc := 2) t54_2 (znz rfl (by omega)) (c := w462v) w462 ?_
              refine zs_istore_n (pc := 3) t54_3 (ls' := [(2, .int w462v), (0, .int w460v), (1, .int (zI w447M 242 5))]) (zml mf54 (by decide)) rfl ?_
              refine zs_iload_n (pc := 4) t54_4 rfl ?_
              refine zs_iload_n (pc := 5) t54_5 rfl ?_
              obtain ⟨w463v, w463⟩ : ∃ v, w460v ^^^ (zI w447M 242 5) = v := ⟨_, rfl⟩
              have w463g := zrg w463v
              refine zs_ixor (pc := 6) t54_6 (c := w463v) w463 ?_
              by_cases w464 : 0 ≤ w463v.toInt
              · refine zs_if_geT (pc := 7) t54_7 rfl (by omega) ?_
                refine zs_iload_n (pc := 21) t54_21 rfl ?_
                refine zs_iret (pc := 22) t54_22 mr54 rfl ?_
                show zGo X l 1 0 0 114 107 [(6, .int w460v), (5, .int (zI w447M 248 w450n)), (0, .ref 242), (1, .int a), (2, .int w330v), (3, .int w440v), (4, .int w447x4)] [.int w462v] w447M _
                refine zs_istore (pc := 107) t114_107 (ls' := [(7, .int w462v), (6, .int w460v), (5, .int (zI w447M 248 w450n)), (0, .ref 242), (1, .int a), (2, .int w330v), (3, .int w440v), (4, .int w447x4)]) (zml mf114 (by decide)) rfl ?_
                refine zs_aload_n (pc := 109) t114_109 rfl ?_
                refine zs_iload (pc := 110) t114_110 rfl ?_
                refine zs_invV (pc := 112) (k := 242) (as' := [.int w462v]) (st := []) t114_112 mf117 rfl rfl (Or.inl ⟨by decide, (zk1 (w447s.k fk_zMc_242))⟩) ⟨by decide, by decide, Nat.le_of_ble_eq_true rfl, Nat.le_of_ble_eq_true rfl⟩ (C117_242 w447s w447I ?_) (fun _ _ q => q)
                intro w465M w465v w465s w465I w465F w465a w465b
                show zGo X l 1 0 0 114 115 [(7, .int w462v), (6, .int w460v), (5, .int (zI w447M 248 w450n)), (0, .ref 242), (1, .int a), (2, .int w330v), (3, .int w440v), (4, .int w447x4)] [.int w465v] w465M _
                refine zs_istore (pc := 115) t114_115 (ls' := [(8, .int w465v), (7, .int w462v), (6, .int w460v), (5, .int (zI w447M 248 w450n)), (0, .ref 242), (1, .int a), (2, .int w330v), (3, .int w440v), (4, .int w447x4)]) (zml mf114 (by decide)) rfl ?_
                refine zs_aload_n (pc := 117) t114_117 rfl ?_
                refine zs_get (pc := 118) t114_118 (by decide) (zk1 (w465s.k fk_zMc_242)) (w465s.p rfl fv_zMc_242_13) ?_
                refine zs_iload (pc := 121) t114_121 rfl ?_
                obtain ⟨w466n, w466⟩ : ∃ n : Nat, w465v.toInt = (n : Int) := ⟨w465v.toInt.toNat, by omega⟩
                have w467 := ib252 w465I w466n
                refine zs_iald (pc := 123) t114_123 (j := w466n) (by decide) (zk1 (w465s.k fk_zMc_252)) w466 (zk2 (w465s.k fk_zMc_252) (by omega)) rfl ?_
                refine zs_iconst (pc := 124) t114_124 (v := 1) (by decide) ?_
                refine zs_iload (pc := 125) t114_125 rfl ?_
                obtain ⟨w468v, w468⟩ : ∃ v, (1 : Int32) <<< ((zI w447M 248 w450n) &&& 31) = v := ⟨_, rfl⟩
                have w468g := zrg w468v
                refine zs_ishl (pc := 127) t114_127 (c := w468v) w468 ?_
                obtain ⟨w469v, w469⟩ : ∃ v, (zI w465M 252 w466n) &&& w468v = v := ⟨_, rfl⟩
                have w469g := zrg w469v
                refine zs_iand (pc := 128) t114_128 (c := w469v) w469 ?_
                by_cases w470 : w469v.toInt = 0
                · refine zs_if_eqT (pc := 129) t114_129 rfl (by omega) ?_
                  refine zs_aload_n (pc := 135) t114_135 rfl ?_
                  refine zs_get (pc := 136) t114_136 (by decide) (zk1 (w465s.k fk_zMc_242)) (w465s.p rfl fv_zMc_242_13) ?_
                  refine zs_iload (pc := 139) t114_139 rfl ?_
                  refine zs_dup2 (pc := 141) t114_141 ⟨rfl, rfl⟩ ?_
                  refine zs_iald (pc := 142) t114_142 (j := w466n) (by decide) (zk1 (w465s.k fk_zMc_252)) w466 (zk2 (w465s.k fk_zMc_252) (by omega)) rfl ?_
                  refine zs_iconst (pc := 143) t114_143 (v := 1) (by decide) ?_
                  refine zs_iload (pc := 144) t114_144 rfl ?_
                  obtain ⟨w471v, w471⟩ : ∃ v, (1 : Int32) <<< ((zI w447M 248 w450n) &&& 31) = v := ⟨_, rfl⟩
                  have w471g := zrg w471v
                  refine zs_ishl (pc := 146) t114_146 (c := w471v) w471 ?_
                  obtain ⟨w472v, w472⟩ : ∃ v, (zI w465M 252 w466n) ||| w471v = v := ⟨_, rfl⟩
                  have w472g := zrg w472v
                  refine zs_ior (pc := 147) t114_147 (c := w472v) w472 ?_
                  have w473 : zIv cLo cHi (zsI w465M 252 w466n w472v) := zIv.put w465I (show (-2147483648) ≤ w472v.toInt ∧ w472v.toInt ≤ 2147483647 from (zrg w472v))
                  refine zs_iast (pc := 148) t114_148 (j := w466n) (by decide) (zk1 (w465s.k fk_zMc_252)) w466 (zk2 (w465s.k fk_zMc_252) (by omega)) ?_
                  refine zs_aload_n (pc := 149) t114_149 rfl ?_
                  refine zs_get (pc := 150) t114_150 (by decide) (zk1 (w465s.k fk_zMc_242)) (w465s.p rfl fv_zMc_242_14) ?_
                  refine zs_iload (pc := 153) t114_153 rfl ?_
                  refine zs_dup2 (pc := 155) t114_155 ⟨rfl, rfl⟩ ?_
                  have w474 := ib253 w465I w466n
                  refine zs_iald (pc := 156) t114_156 (j := w466n) (by decide) (zk1 (w465s.k fk_zMc_253)) w466 (zk2 (w465s.k fk_zMc_253) (by omega)) ((zIo (by decide)).trans rfl) ?_
                  refine zs_iconst (pc := 157) t114_157 (v := 1) (by decide) ?_
                  obtain ⟨w475v, w475⟩ : ∃ v, v = (zI w465M 253 w466n) + (1 : Int32) := ⟨_, rfl⟩
                  have w475g := zrg w475v
                  refine zs_iadd (pc := 158) t114_158 (c := w475v) w475.symm ?_
                  have w476 : zIv cLo cHi (zsI (zsI w465M 252 w466n w472v) 253 w466n w475v) := zIv.put w473 (show (-2147483648) ≤ w475v.toInt ∧ w475v.toInt ≤ 2147483647 from (zrg w475v))
                  refine zs_iast (pc := 159) t114_159 (j := w466n) (by decide) (zk1 (w465s.k fk_zMc_253)) w466 (zk2 (w465s.k fk_zMc_253) (by omega)) ?_
                  refine zs_aload_n (pc := 160) t114_160 rfl ?_
                  refine zs_get (pc := 161) t114_161 (by decide) (zk1 (w465s.k fk_zMc_242)) (w465s.p rfl fv_zMc_242_14) ?_
                  refine zs_iload (pc := 164) t114_164 rfl ?_
                  refine zs_iald (pc := 166) t114_166 (j := w466n) (by decide) (zk1 (w465s.k fk_zMc_253)) w466 (zk2 (w465s.k fk_zMc_253) (by omega)) zIs ?_
                  refine zs_istore (pc := 167) t114_167 (ls' := [(9, .int w475v), (8, .int w465v), (7, .int w462v), (6, .int w460v), (5, .int (zI w447M 248 w450n)), (0, .ref 242), (1, .int a), (2, .int w330v), (3, .int w440v), (4, .int w447x4)]) (zml mf114 (by decide)) rfl ?_
                  refine zs_iload (pc := 169) t114_169 rfl ?_
                  refine zs_aload_n (pc := 171) t114_171 rfl ?_
                  have w477 := ib242_17 w465I
                  refine zs_get (pc := 172) t114_172 (by decide) (zk1 (w465s.k fk_zMc_242)) (zfvi rfl ((zIo (by decide)).trans ((zIo (by decide)).trans rfl))) ?_
                  by_cases w478 : (zI w465M 242 17).toInt < w475v.toInt
                  · refine zs_icmp_gtT (pc := 175) t114_175 rfl rfl (by omega) ?_
                    refine zs_aload_n (pc := 196) t114_196 rfl ?_
                    refine zs_iload (pc := 197) t114_197 rfl ?_
                    have w479 : zIv cLo cHi (zsI (zsI (zsI w465M 252 w466n w472v) 253 w466n w475v) 242 17 w475v) := zIv.put w476 (show (-2147483648) ≤ w475v.toInt ∧ w475v.toInt ≤ 2147483647 from (zrg w475v))
                    refine zs_putI (pc := 199) t114_199 (zk1 (w465s.k fk_zMc_242)) rfl ?_
                    refine zs_aload_n (pc := 202) t114_202 rfl ?_
                    refine zs_iload (pc := 203) t114_203 rfl ?_
                    have w480 : zIv cLo cHi (zsI (zsI (zsI (zsI w465M 252 w466n w472v) 253 w466n w475v) 242 17 w475v) 242 18 w462v) := zIv.put w479 (show (-2147483648) ≤ w462v.toInt ∧ w462v.toInt ≤ 2147483647 from (zrg w462v))
                    refine zs_putI (pc := 205) t114_205 (zk1 (w465s.k fk_zMc_242)) rfl ?_
                    obtain ⟨w481v, w481e, w481⟩ := ziadd (a := w447x4) (b := Int32.ofInt 1) rfl (show (Int32.ofInt 1).toInt = 1 by decide) (by omega) (by omega)
                    refine zs_iinc (pc := 208) t114_208 (ls' := [(4, .int w481v), (9, .int w475v), (8, .int w465v), (7, .int w462v), (6, .int w460v), (5, .int (zI w447M 248 w450n)), (0, .ref 242), (1, .int a), (2, .int w330v), (3, .int w440v)]) (zml mf114 (by decide)) rfl (c := w481v) w481e rfl ?_
                    refine zs_goto (pc := 211) t114_211 ?_
                    refine zGo.locals (ls' := [(0, .ref 242), (1, .int a), (2, .int w330v), (3, .int w440v), (4, .int w481v)]) (by simp) ?_
                    exact w447ih (w447m - 1) (by omega) w481v (zsI (zsI (zsI (zsI w465M 252 w466n w472v) 253 w466n w475v) 242 17 w475v) 242 18 w462v) ⟨by omega, by omega⟩ w465s w480 (((((((zFr.refl).trans (w447F.mono rfl)).trans (w465F.mono rfl)).put rfl).put rfl).put rfl).put rfl) (by omega)
                  · refine zs_icmp_gtF (pc := 175) t114_175 rfl rfl (by omega) ?_
                    refine zs_iload (pc := 178) t114_178 rfl ?_
                    refine zs_aload_n (pc := 180) t114_180 rfl ?_
                    refine zs_get (pc := 181) t114_181 (by decide) (zk1 (w465s.k fk_zMc_242)) (zfvi rfl ((zIo (by decide)).trans ((zIo (by decide)).trans rfl))) ?_
                    by_cases w482 : w475v.toInt ≠ (zI w465M 242 17).toInt
                    · refine zs_icmp_neT (pc := 184) t114_184 rfl rfl (by omega) ?_
                      obtain ⟨w483v, w483e, w483⟩ := ziadd (a := w447x4) (b := Int32.ofInt 1) rfl (show (Int32.ofInt 1).toInt = 1 by decide) (by omega) (by omega)
                      refine zs_iinc (pc := 208) t114_208 (ls' := [(4, .int w483v), (9, .int w475v), (8, .int w465v), (7, .int w462v), (6, .int w460v), (5, .int (zI w447M 248 w450n)), (0, .ref 242), (1, .int a), (2, .int w330v), (3, .int w440v)]) (zml mf114 (by decide)) rfl (c := w483v) w483e rfl ?_
                      refine zs_goto (pc := 211) t114_211 ?_
                      refine zGo.locals (ls' := [(0, .ref 242), (1, .int a), (2, .int w330v), (3, .int w440v), (4, .int w483v)]) (by simp) ?_
                      exact w447ih (w447m - 1) (by omega) w483v (zsI (zsI w465M 252 w466n w472v) 253 w466n w475v) ⟨by omega, by omega⟩ w465s w476 (((((zFr.refl).trans (w447F.mono rfl)).trans (w465F.mono rfl)).put rfl).put rfl) (by omega)
                    · refine zs_icmp_neF (pc := 184) t114_184 rfl rfl (by omega) ?_
                      refine zs_iload (pc := 187) t114_187 rfl ?_
                      refine zs_aload_n (pc := 189) t114_189 rfl ?_
                      have w484 := ib242_18 w465I
                      refine zs_get (pc := 190) t114_190 (by decide) (zk1 (w465s.k fk_zMc_242)) (zfvi rfl ((zIo (by decide)).trans ((zIo (by decide)).trans rfl))) ?_
                      by_cases w485 : (zI w465M 242 18).toInt ≤ w462v.toInt
                      · refine zs_icmp_geT (pc := 193) t114_193 rfl rfl (by omega) ?_
                        obtain ⟨w486v, w486e, w486⟩ := ziadd (a := w447x4) (b := Int32.ofInt 1) rfl (show (Int32.ofInt 1).toInt = 1 by decide) (by omega) (by omega)
                        refine zs_iinc (pc := 208) t114_208 (ls' := [(4, .int w486v), (9, .int w475v), (8, .int w465v), (7, .int w462v), (6, .int w460v), (5, .int (zI w447M 248 w450n)), (0, .ref 242), (1, .int a), (2, .int w330v), (3, .int w440v)]) (zml mf114 (by decide)) rfl (c := w486v) w486e rfl ?_
                        refine zs_goto (pc := 211) t114_211 ?_
                        refine zGo.locals (ls' := [(0, .ref 242), (1, .int a), (2, .int w330v), (3, .int w440v), (4, .int w486v)]) (by simp) ?_
                        exact w447ih (w447m - 1) (by omega) w486v (zsI (zsI w465M 252 w466n w472v) 253 w466n w475v) ⟨by omega, by omega⟩ w465s w476 (((((zFr.refl).trans (w447F.mono rfl)).trans (w465F.mono rfl)).put rfl).put rfl) (by omega)
                      · refine zs_icmp_geF (pc := 193) t114_193 rfl rfl (by omega) ?_
                        refine zs_aload_n (pc := 196) t114_196 rfl ?_
                        refine zs_iload (pc := 197) t114_197 rfl ?_
                        have w487 : zIv cLo cHi (zsI (zsI (zsI w465M 252 w466n w472v) 253 w466n w475v) 242 17 w475v) := zIv.put w476 (show (-2147483648) ≤ w475v.toInt ∧ w475v.toInt ≤ 2147483647 from (zrg w475v))
                        refine zs_putI (pc := 199) t114_199 (zk1 (w465s.k fk_zMc_242)) rfl ?_
                        refine zs_aload_n (pc := 202) t114_202 rfl ?_
                        refine zs_iload (pc := 203) t114_203 rfl ?_
                        have w488 : zIv cLo cHi (zsI (zsI (zsI (zsI w465M 252 w466n w472v) 253 w466n w475v) 242 17 w475v) 242 18 w462v) := zIv.put w487 (show (-2147483648) ≤ w462v.toInt ∧ w462v.toInt ≤ 2147483647 from (zrg w462v))
                        refine zs_putI (pc := 205) t114_205 (zk1 (w465s.k fk_zMc_242)) rfl ?_
                        obtain ⟨w489v, w489e, w489⟩ := ziadd (a := w447x4) (b := Int32.ofInt 1) rfl (show (Int32.ofInt 1).toInt = 1 by decide) (by omega) (by omega)
                        refine zs_iinc (pc := 208) t114_208 (ls' := [(4, .int w489v), (9, .int w475v), (8, .int w465v), (7, .int w462v), (6, .int w460v), (5, .int (zI w447M 248 w450n)), (0, .ref 242), (1, .int a), (2, .int w330v), (3, .int w440v)]) (zml mf114 (by decide)) rfl (c := w489v) w489e rfl ?_
                        refine zs_goto (pc := 211) t114_211 ?_
                        refine zGo.locals (ls' := [(0, .ref 242), (1, .int a), (2, .int w330v), (3, .int w440v), (4, .int w489v)]) (by simp) ?_
                        exact w447ih (w447m - 1) (by omega) w489v (zsI (zsI (zsI (zsI w465M 252 w466n w472v) 253 w466n w475v) 242 17 w475v) 242 18 w462v) ⟨by omega, by omega⟩ w465s w488 (((((((zFr.refl).trans (w447F.mono rfl)).trans (w465F.mono rfl)).put rfl).put rfl).put rfl).put rfl) (by omega)
                · refine zs_if_eqF (pc := 129) t114_129 rfl (by omega) ?_
                  refine zs_goto (pc := 132) t114_132 ?_
                  obtain ⟨w490v, w490e, w490⟩ := ziadd (a := w447x4) (b := Int32.ofInt 1) rfl (show (Int32.ofInt 1).toInt = 1 by decide) (by omega) (by omega)
                  refine zs_iinc (pc := 208) t114_208 (ls' := [(4, .int w490v), (8, .int w465v), (7, .int w462v), (6, .int w460v), (5, .int (zI w447M 248 w450n)), (0, .ref 242), (1, .int a), (2, .int w330v), (3, .int w440v)]) (zml mf114 (by decide)) rfl (c := w490v) w490e rfl ?_
                  refine zs_goto (pc := 211) t114_211 ?_
                  refine zGo.locals (ls' := [(0, .ref 242), (1, .int a), (2, .int w330v), (3, .int w440v), (4, .int w490v)]) (by simp) ?_
                  exact w447ih (w447m - 1) (by omega) w490v w465M ⟨by omega, by omega⟩ w465s w465I (((zFr.refl).trans (w447F.mono rfl)).trans (w465F.mono rfl)) (by omega)
              · refine zs_if_geF (pc := 7) t54_7 rfl (by omega) ?_
                refine zs_iload_n (pc := 10) t54_10 rfl ?_
                refine zs_iload_n (pc := 11) t54_11 rfl ?_
                obtain ⟨w491v, w491⟩ : ∃ v, w462v * (zI w447M 242 5) = v := ⟨_, rfl⟩
                have w491g := zrg w491v
                refine zs_imul (pc := 12) t54_12 (c := w491v) w491 ?_
                refine zs_iload_n (pc := 13) t54_13 rfl ?_
                by_cases w492 : w491v.toInt = w460v.toInt
                · refine zs_icmp_eqT (pc := 14) t54_14 rfl rfl (by omega) ?_
                  refine zs_iload_n (pc := 21) t54_21 rfl ?_
                  refine zs_iret (pc := 22) t54_22 mr54 rfl ?_
                  show zGo X l 1 0 0 114 107 [(6, .int w460v), (5, .int (zI w447M 248 w450n)), (0, .ref 242), (1, .int a), (2, .int w330v), (3, .int w440v), (4, .int w447x4)] [.int w462v] w447M _
                  refine zs_istore (pc := 107) t114_107 (ls' := [(7, .int w462v), (6, .int w460v), (5, .int (zI w447M 248 w450n)), (0, .ref 242), (1, .int a), (2, .int w330v), (3, .int w440v), (4, .int w447x4)]) (zml mf114 (by decide)) rfl ?_
                  refine zs_aload_n (pc := 109) t114_109 rfl ?_
                  refine zs_iload (pc := 110) t114_110 rfl ?_
                  refine zs_invV (pc := 112) (k := 242) (as' := [.int w462v]) (st := []) t114_112 mf117 rfl rfl (Or.inl ⟨by decide, (zk1 (w447s.k fk_zMc_242))⟩) ⟨by decide, by decide, Nat.le_of_ble_eq_true rfl, Nat.le_of_ble_eq_true rfl⟩ (C117_242 w447s w447I ?_) (fun _ _ q => q)
                  intro w493M w493v w493s w493I w493F w493a w493b
                  show zGo X l 1 0 0 114 115 [(7, .int w462v), (6, .int w460v), (5, .int (zI w447M 248 w450n)), (0, .ref 242), (1, .int a), (2, .int w330v), (3, .int w440v), (4, .int w447x4)] [.int w493v] w493M _
                  refine zs_istore (pc := 115) t114_115 (ls' := [(8, .int w493v), (7, .int w462v), (6, .int w460v), (5, .int (zI w447M 248 w450n)), (0, .ref 242), (1, .int a), (2, .int w330v), (3, .int w440v), (4, .int w447x4)]) (zml mf114 (by decide)) rfl ?_
                  refine zs_aload_n (pc := 117) t114_117 rfl ?_
                  refine zs_get (pc := 118) t114_118 (by decide) (zk1 (w493s.k fk_zMc_242)) (w493s.p rfl fv_zMc_242_13) ?_
                  refine zs_iload (pc := 121) t114_121 rfl ?_
                  obtain ⟨w494n, w494⟩ : ∃ n : Nat, w493v.toInt = (n : Int) := ⟨w493v.toInt.toNat, by omega⟩
                  have w495 := ib252 w493I w494n
                  refine zs_iald (pc := 123) t114_123 (j := w494n) (by decide) (zk1 (w493s.k fk_zMc_252)) w494 (zk2 (w493s.k fk_zMc_252) (by omega)) rfl ?_
                  refine zs_iconst (pc := 124) t114_124 (v := 1) (by decide) ?_
                  refine zs_iload (pc := 125) t114_125 rfl ?_
                  obtain ⟨w496v, w496⟩ : ∃ v, (1 : Int32) <<< ((zI w447M 248 w450n) &&& 31) = v := ⟨_, rfl⟩
                  have w496g := zrg w496v
                  refine zs_ishl (pc := 127) t114_127 (c := w496v) w496 ?_
                  obtain ⟨w497v, w497⟩ : ∃ v, (zI w493M 252 w494n) &&& w496v = v := ⟨_, rfl⟩
                  have w497g := zrg w497v
                  refine zs_iand (pc := 128) t114_128 (c := w497v) w497 ?_
                  by_cases w498 : w497v.toInt = 0
                  · refine zs_if_eqT (pc := 129) t114_129 rfl (by omega) ?_
                    refine zs_aload_n (pc := 135) t114_135 rfl ?_
                    refine zs_get (pc := 136) t114_136 (by decide) (zk1 (w493s.k fk_zMc_242)) (w493s.p rfl fv_zMc_242_13) ?_
                    refine zs_iload (pc := 139) t114_139 rfl ?_
                    refine zs_dup2 (pc := 141) t114_141 ⟨rfl, rfl⟩ ?_
                    refine zs_iald (pc := 142) t114_142 (j := w494n) (by decide) (zk1 (w493s.k fk_zMc_252)) w494 (zk2 (w493s.k fk_zMc_252) (by omega)) rfl ?_
                    refine zs_iconst (pc := 143) t114_143 (v := 1) (by decide) ?_
                    refine zs_iload (pc := 144) t114_144 rfl ?_
                    obtain ⟨w499v, w499⟩ : ∃ v, (1 : Int32) <<< ((zI w447M 248 w450n) &&& 31) = v := ⟨_, rfl⟩
                    have w499g := zrg w499v
                    refine zs_ishl (pc := 146) t114_146 (c := w499v) w499 ?_
                    obtain ⟨w500v, w500⟩ : ∃ v, (zI w493M 252 w494n) ||| w499v = v := ⟨_, rfl⟩
                    have w500g := zrg w500v
                    refine zs_ior (pc := 147) t114_147 (c := w500v) w500 ?_
                    have w501 : zIv cLo cHi (zsI w493M 252 w494n w500v) := zIv.put w493I (show (-2147483648) ≤ w500v.toInt ∧ w500v.toInt ≤ 2147483647 from (zrg w500v))
                    refine zs_iast (pc := 148) t114_148 (j := w494n) (by decide) (zk1 (w493s.k fk_zMc_252)) w494 (zk2 (w493s.k fk_zMc_252) (by omega)) ?_
                    refine zs_aload_n (pc := 149) t114_149 rfl ?_
                    refine zs_get (pc := 150) t114_150 (by decide) (zk1 (w493s.k fk_zMc_242)) (w493s.p rfl fv_zMc_242_14) ?_
                    refine zs_iload (pc := 153) t114_153 rfl ?_
                    refine zs_dup2 (pc := 155) t114_155 ⟨rfl, rfl⟩ ?_
                    have w502 := ib253 w493I w494n
                    refine zs_iald (pc := 156) t114_156 (j := w494n) (by decide) (zk1 (w493s.k fk_zMc_253)) w494 (zk2 (w493s.k fk_zMc_253) (by omega)) ((zIo (by decide)).trans rfl) ?_
                    refine zs_iconst (pc := 157) t114_157 (v := 1) (by decide) ?_
                    obtain ⟨w503v, w503⟩ : ∃ v, v = (zI w493M 253 w494n) + (1 : Int32) := ⟨_, rfl⟩
                    have w503g := zrg w503v
                    refine zs_iadd (pc := 158) t114_158 (c := w503v) w503.symm ?_
                    have w504 : zIv cLo cHi (zsI (zsI w493M 252 w494n w500v) 253 w494n w503v) := zIv.put w501 (show (-2147483648) ≤ w503v.toInt ∧ w503v.toInt ≤ 2147483647 from (zrg w503v))
                    refine zs_iast (pc := 159) t114_159 (j := w494n) (by decide) (zk1 (w493s.k fk_zMc_253)) w494 (zk2 (w493s.k fk_zMc_253) (by omega)) ?_
                    refine zs_aload_n (pc := 160) t114_160 rfl ?_
                    refine zs_get (pc := 161) t114_161 (by decide) (zk1 (w493s.k fk_zMc_242)) (w493s.p rfl fv_zMc_242_14) ?_
                    refine zs_iload (pc := 164) t114_164 rfl ?_
                    refine zs_iald (pc := 166) t114_166 (j := w494n) (by decide) (zk1 (w493s.k fk_zMc_253)) w494 (zk2 (w493s.k fk_zMc_253) (by omega)) zIs ?_
                    refine zs_istore (pc := 167) t114_167 (ls' := [(9, .int w503v), (8, .int w493v), (7, .int w462v), (6, .int w460v), (5, .int (zI w447M 248 w450n)), (0, .ref 242), (1, .int a), (2, .int w330v), (3, .int w440v), (4, .int w447x4)]) (zml mf114 (by decide)) rfl ?_
                    refine zs_iload (pc := 169) t114_169 rfl ?_
                    refine zs_aload_n (pc := 171) t114_171 rfl ?_
                    have w505 := ib242_17 w493I
                    refine zs_get (pc := 172) t114_172 (by decide) (zk1 (w493s.k fk_zMc_242)) (zfvi rfl ((zIo (by decide)).trans ((zIo (by decide)).trans rfl))) ?_
                    by_cases w506 : (zI w493M 242 17).toInt < w503v.toInt
                    · refine zs_icmp_gtT (pc := 175) t114_175 rfl rfl (by omega) ?_
                      refine zs_aload_n (pc := 196) t114_196 rfl ?_
                      refine zs_iload (pc := 197) t114_197 rfl ?_
                      have w507 : zIv cLo cHi (zsI (zsI (zsI w493M 252 w494n w500v) 253 w494n w503v) 242 17 w503v) := zIv.put w504 (show (-2147483648) ≤ w503v.toInt ∧ w503v.toInt ≤ 2147483647 from (zrg w503v))
                      refine zs_putI (pc := 199) t114_199 (zk1 (w493s.k fk_zMc_242)) rfl ?_
                      refine zs_aload_n (pc := 202) t114_202 rfl ?_
                      refine zs_iload (pc := 203) t114_203 rfl ?_
                      have w508 : zIv cLo cHi (zsI (zsI (zsI (zsI w493M 252 w494n w500v) 253 w494n w503v) 242 17 w503v) 242 18 w462v) := zIv.put w507 (show (-2147483648) ≤ w462v.toInt ∧ w462v.toInt ≤ 2147483647 from (zrg w462v))
                      refine zs_putI (pc := 205) t114_205 (zk1 (w493s.k fk_zMc_242)) rfl ?_
                      obtain ⟨w509v, w509e, w509⟩ := ziadd (a := w447x4) (b := Int32.ofInt 1) rfl (show (Int32.ofInt 1).toInt = 1 by decide) (by omega) (by omega)
                      refine zs_iinc (pc := 208) t114_208 (ls' := [(4, .int w509v), (9, .int w503v), (8, .int w493v), (7, .int w462v), (6, .int w460v), (5, .int (zI w447M 248 w450n)), (0, .ref 242), (1, .int a), (2, .int w330v), (3, .int w440v)]) (zml mf114 (by decide)) rfl (c := w509v) w509e rfl ?_
                      refine zs_goto (pc := 211) t114_211 ?_
                      refine zGo.locals (ls' := [(0, .ref 242), (1, .int a), (2, .int w330v), (3, .int w440v), (4, .int w509v)]) (by simp) ?_
                      exact w447ih (w447m - 1) (by omega) w509v (zsI (zsI (zsI (zsI w493M 252 w494n w500v) 253 w494n w503v) 242 17 w503v) 242 18 w462v) ⟨by omega, by omega⟩ w493s w508 (((((((zFr.refl).trans (w447F.mono rfl)).trans (w493F.mono rfl)).put rfl).put rfl).put rfl).put rfl) (by omega)
                    · refine zs_icmp_gtF (pc := 175) t114_175 rfl rfl (by omega) ?_
                      refine zs_iload (pc := 178) t114_178 rfl ?_
                      refine zs_aload_n (pc := 180) t114_180 rfl ?_
                      refine zs_get (pc := 181) t114_181 (by decide) (zk1 (w493s.k fk_zMc_242)) (zfvi rfl ((zIo (by decide)).trans ((zIo (by decide)).trans rfl))) ?_
                      by_cases w510 : w503v.toInt ≠ (zI w493M 242 17).toInt
                      · refine zs_icmp_neT (pc := 184) t114_184 rfl rfl (by omega) ?_
                        obtain ⟨w511v, w511e, w511⟩ := ziadd (a := w447x4) (b := Int32.ofInt 1) rfl (show (Int32.ofInt 1).toInt = 1 by decide) (by omega) (by omega)
                        refine zs_iinc (pc := 208) t114_208 (ls' := [(4, .int w511v), (9, .int w503v), (8, .int w493v), (7, .int w462v), (6, .int w460v), (5, .int (zI w447M 248 w450n)), (0, .ref 242), (1, .int a), (2, .int w330v), (3, .int w440v)]) (zml mf114 (by decide)) rfl (c := w511v) w511e rfl ?_
                        refine zs_goto (pc := 211) t114_211 ?_
                        refine zGo.locals (ls' := [(0, .ref 242), (1, .int a), (2, .int w330v), (3, .int w440v), (4, .int w511v)]) (by simp) ?_
                        exact w447ih (w447m - 1) (by omega) w511v (zsI (zsI w493M 252 w494n w500v) 253 w494n w503v) ⟨by omega, by omega⟩ w493s w504 (((((zFr.refl).trans (w447F.mono rfl)).trans (w493F.mono rfl)).put rfl).put rfl) (by omega)
                      · refine zs_icmp_neF (pc := 184) t114_184 rfl rfl (by omega) ?_
                        refine zs_iload (pc := 187) t114_187 rfl ?_
                        refine zs_aload_n (pc := 189) t114_189 rfl ?_
                        have w512 := ib242_18 w493I
                        refine zs_get (pc := 190) t114_190 (by decide) (zk1 (w493s.k fk_zMc_242)) (zfvi rfl ((zIo (by decide)).trans ((zIo (by decide)).trans rfl))) ?_
                        by_cases w513 : (zI w493M 242 18).toInt ≤ w462v.toInt
                        · refine zs_icmp_geT (pc := 193) t114_193 rfl rfl (by omega) ?_
                          obtain ⟨w514v, w514e, w514⟩ := ziadd (a := w447x4) (b := Int32.ofInt 1) rfl (show (Int32.ofInt 1).toInt = 1 by decide) (by omega) (by omega)
                          refine zs_iinc (pc := 208) t114_208 (ls' := [(4, .int w514v), (9, .int w503v), (8, .int w493v), (7, .int w462v), (6, .int w460v), (5, .int (zI w447M 248 w450n)), (0, .ref 242), (1, .int a), (2, .int w330v), (3, .int w440v)]) (zml mf114 (by decide)) rfl (c := w514v) w514e rfl ?_
                          refine zs_goto (pc := 211) t114_211 ?_
                          refine zGo.locals (ls' := [(0, .ref 242), (1, .int a), (2, .int w330v), (3, .int w440v), (4, .int w514v)]) (by simp) ?_
                          exact w447ih (w447m - 1) (by omega) w514v (zsI (zsI w493M 252 w494n w500v) 253 w494n w503v) ⟨by omega, by omega⟩ w493s w504 (((((zFr.refl).trans (w447F.mono rfl)).trans (w493F.mono rfl)).put rfl).put rfl) (by omega)
                        · refine zs_icmp_geF (pc := 193) t114_193 rfl rfl (by omega) ?_
                          refine zs_aload_n (pc := 196) t114_196 rfl ?_
                          refine zs_iload (pc := 197) t114_197 rfl ?_
                          have w515 : zIv cLo cHi (zsI (zsI (zsI w493M 252 w494n w500v) 253 w494n w503v) 242 17 w503v) := zIv.put w504 (show (-2147483648) ≤ w503v.toInt ∧ w503v.toInt ≤ 2147483647 from (zrg w503v))
                          refine zs_putI (pc := 199) t114_199 (zk1 (w493s.k fk_zMc_242)) rfl ?_
                          refine zs_aload_n (pc := 202) t114_202 rfl ?_
                          refine zs_iload (pc := 203) t114_203 rfl ?_
                          have w516 : zIv cLo cHi (zsI (zsI (zsI (zsI w493M 252 w494n w500v) 253 w494n w503v) 242 17 w503v) 242 18 w462v) := zIv.put w515 (show (-2147483648) ≤ w462v.toInt ∧ w462v.toInt ≤ 2147483647 from (zrg w462v))
                          refine zs_putI (pc := 205) t114_205 (zk1 (w493s.k fk_zMc_242)) rfl ?_
                          obtain ⟨w517v, w517e, w517⟩ := ziadd (a := w447x4) (b := Int32.ofInt 1) rfl (show (Int32.ofInt 1).toInt = 1 by decide) (by omega) (by omega)
                          refine zs_iinc (pc := 208) t114_208 (ls' := [(4, .int w517v), (9, .int w503v), (8, .int w493v), (7, .int w462v), (6, .int w460v), (5, .int (zI w447M 248 w450n)), (0, .ref 242), (1, .int a), (2, .int w330v), (3, .int w440v)]) (zml mf114 (by decide)) rfl (c := w517v) w517e rfl ?_
                          refine zs_goto (pc := 211) t114_211 ?_
                          refine zGo.locals (ls' := [(0, .ref 242), (1, .int a), (2, .int w330v), (3, .int w440v), (4, .int w517v)]) (by simp) ?_
                          exact w447ih (w447m - 1) (by omega) w517v (zsI (zsI (zsI (zsI w493M 252 w494n w500v) 253 w494n w503v) 242 17 w503v) 242 18 w462v) ⟨by omega, by omega⟩ w493s w516 (((((((zFr.refl).trans (w447F.mono rfl)).trans (w493F.mono rfl)).put rfl).put rfl).put rfl).put rfl) (by omega)
                  · refine zs_if_eqF (pc := 129) t114_129 rfl (by omega) ?_
                    refine zs_goto (pc := 132) t114_132 ?_
                    obtain ⟨w518v, w518e, w518⟩ := ziadd (a := w447x4) (b := Int32.ofInt 1) rfl (show (Int32.ofInt 1).toInt = 1 by decide) (by omega) (by omega)
                    refine zs_iinc (pc := 208) t114_208 (ls' := [(4, .int w518v), (8, .int w493v), (7, .int w462v), (6, .int w460v), (5, .int (zI w447M 248 w450n)), (0, .ref 242), (1, .int a), (2, .int w330v), (3, .int w440v)]) (zml mf114 (by decide)) rfl (c := w518v) w518e rfl ?_
                    refine zs_goto (pc := 211) t114_211 ?_
                    refine zGo.locals (ls' := [(0, .ref 242), (1, .int a), (2, .int w330v), (3, .int w440v), (4, .int w518v)]) (by simp) ?_
                    exact w447ih (w447m - 1) (by omega) w518v w493M ⟨by omega, by omega⟩ w493s w493I (((zFr.refl).trans (w447F.mono rfl)).trans (w493F.mono rfl)) (by omega)
                · refine zs_icmp_eqF (pc := 14) t54_14 rfl rfl (by omega) ?_
                  refine zs_iload_n (pc := 17) t54_17 rfl ?_
                  refine zs_iconst (pc := 18) t54_18 (v := 1) (by decide) ?_
                  obtain ⟨w519v, w519⟩ : ∃ v, v = w462v - (1 : Int32) := ⟨_, rfl⟩
                  have w519g := zrg w519v
                  refine zs_isub (pc := 19) t54_19 (c := w519v) w519.symm ?_
                  refine zs_iret (pc := 20) t54_20 mr54 rfl ?_
                  show zGo X l 1 0 0 114 107 [(6, .int w460v), (5, .int (zI w447M 248 w450n)), (0, .ref 242), (1, .int a), (2, .int w330v), (3, .int w440v), (4, .int w447x4)] [.int w519v] w447M _
                  refine zs_istore (pc := 107) t114_107 (ls' := [(7, .int w519v), (6, .int w460v), (5, .int (zI w447M 248 w450n)), (0, .ref 242), (1, .int a), (2, .int w330v), (3, .int w440v), (4, .int w447x4)]) (zml mf114 (by decide)) rfl ?_
                  refine zs_aload_n (pc := 109) t114_109 rfl ?_
                  refine zs_iload (pc := 110) t114_110 rfl ?_
                  refine zs_invV (pc := 112) (k := 242) (as' := [.int w519v]) (st := []) t114_112 mf117 rfl rfl (Or.inl ⟨by decide, (zk1 (w447s.k fk_zMc_242))⟩) ⟨by decide, by decide, Nat.le_of_ble_eq_true rfl, Nat.le_of_ble_eq_true rfl⟩ (C117_242 w447s w447I ?_) (fun _ _ q => q)
                  intro w520M w520v w520s w520I w520F w520a w520b
                  show zGo X l 1 0 0 114 115 [(7, .int w519v), (6, .int w460v), (5, .int (zI w447M 248 w450n)), (0, .ref 242), (1, .int a), (2, .int w330v), (3, .int w440v), (4, .int w447x4)] [.int w520v] w520M _
                  refine zs_istore (pc := 115) t114_115 (ls' := [(8, .int w520v), (7, .int w519v), (6, .int w460v), (5, .int (zI w447M 248 w450n)), (0, .ref 242), (1, .int a), (2, .int w330v), (3, .int w440v), (4, .int w447x4)]) (zml mf114 (by decide)) rfl ?_
                  refine zs_aload_n (pc := 117) t114_117 rfl ?_
                  refine zs_get (pc := 118) t114_118 (by decide) (zk1 (w520s.k fk_zMc_242)) (w520s.p rfl fv_zMc_242_13) ?_
                  refine zs_iload (pc := 121) t114_121 rfl ?_
                  obtain ⟨w521n, w521⟩ : ∃ n : Nat, w520v.toInt = (n : Int) := ⟨w520v.toInt.toNat, by omega⟩
                  have w522 := ib252 w520I w521n
                  refine zs_iald (pc := 123) t114_123 (j := w521n) (by decide) (zk1 (w520s.k fk_zMc_252)) w521 (zk2 (w520s.k fk_zMc_252) (by omega)) rfl ?_
                  refine zs_iconst (pc := 124) t114_124 (v := 1) (by decide) ?_
                  refine zs_iload (pc := 125) t114_125 rfl ?_
                  obtain ⟨w523v, w523⟩ : ∃ v, (1 : Int32) <<< ((zI w447M 248 w450n) &&& 31) = v := ⟨_, rfl⟩
                  have w523g := zrg w523v
                  refine zs_ishl (pc := 127) t114_127 (c := w523v) w523 ?_
                  obtain ⟨w524v, w524⟩ : ∃ v, (zI w520M 252 w521n) &&& w523v = v := ⟨_, rfl⟩
                  have w524g := zrg w524v
                  refine zs_iand (pc := 128) t114_128 (c := w524v) w524 ?_
                  by_cases w525 : w524v.toInt = 0
                  · refine zs_if_eqT (pc := 129) t114_129 rfl (by omega) ?_
                    refine zs_aload_n (pc := 135) t114_135 rfl ?_
                    refine zs_get (pc := 136) t114_136 (by decide) (zk1 (w520s.k fk_zMc_242)) (w520s.p rfl fv_zMc_242_13) ?_
                    refine zs_iload (pc := 139) t114_139 rfl ?_
                    refine zs_dup2 (pc := 141) t114_141 ⟨rfl, rfl⟩ ?_
                    refine zs_iald (pc := 142) t114_142 (j := w521n) (by decide) (zk1 (w520s.k fk_zMc_252)) w521 (zk2 (w520s.k fk_zMc_252) (by omega)) rfl ?_
                    refine zs_iconst (pc := 143) t114_143 (v := 1) (by decide) ?_
                    refine zs_iload (pc := 144) t114_144 rfl ?_
                    obtain ⟨w526v, w526⟩ : ∃ v, (1 : Int32) <<< ((zI w447M 248 w450n) &&& 31) = v := ⟨_, rfl⟩
                    have w526g := zrg w526v
                    refine zs_ishl (pc := 146) t114_146 (c := w526v) w526 ?_
                    obtain ⟨w527v, w527⟩ : ∃ v, (zI w520M 252 w521n) ||| w526v = v := ⟨_, rfl⟩
                    have w527g := zrg w527v
                    refine zs_ior (pc := 147) t114_147 (c := w527v) w527 ?_
                    have w528 : zIv cLo cHi (zsI w520M 252 w521n w527v) := zIv.put w520I (show (-2147483648) ≤ w527v.toInt ∧ w527v.toInt ≤ 2147483647 from (zrg w527v))
                    refine zs_iast (pc := 148) t114_148 (j := w521n) (by decide) (zk1 (w520s.k fk_zMc_252)) w521 (zk2 (w520s.k fk_zMc_252) (by omega)) ?_
                    refine zs_aload_n (pc := 149) t114_149 rfl ?_
                    refine zs_get (pc := 150) t114_150 (by decide) (zk1 (w520s.k fk_zMc_242)) (w520s.p rfl fv_zMc_242_14) ?_
                    refine zs_iload (pc := 153) t114_153 rfl ?_
                    refine zs_dup2 (pc := 155) t114_155 ⟨rfl, rfl⟩ ?_
                    have w529 := ib253 w520I w521n
                    refine zs_iald (pc := 156) t114_156 (j := w521n) (by decide) (zk1 (w520s.k fk_zMc_253)) w521 (zk2 (w520s.k fk_zMc_253) (by omega)) ((zIo (by decide)).trans rfl) ?_
                    refine zs_iconst (pc := 157) t114_157 (v := 1) (by decide) ?_
                    obtain ⟨w530v, w530⟩ : ∃ v, v = (zI w520M 253 w521n) + (1 : Int32) := ⟨_, rfl⟩
                    have w530g := zrg w530v
                    refine zs_iadd (pc := 158) t114_158 (c := w530v) w530.symm ?_
                    have w531 : zIv cLo cHi (zsI (zsI w520M 252 w521n w527v) 253 w521n w530v) := zIv.put w528 (show (-2147483648) ≤ w530v.toInt ∧ w530v.toInt ≤ 2147483647 from (zrg w530v))
                    refine zs_iast (pc := 159) t114_159 (j := w521n) (by decide) (zk1 (w520s.k fk_zMc_253)) w521 (zk2 (w520s.k fk_zMc_253) (by omega)) ?_
                    refine zs_aload_n (pc := 160) t114_160 rfl ?_
                    refine zs_get (pc := 161) t114_161 (by decide) (zk1 (w520s.k fk_zMc_242)) (w520s.p rfl fv_zMc_242_14) ?_
                    refine zs_iload (pc := 164) t114_164 rfl ?_
                    refine zs_iald (pc := 166) t114_166 (j := w521n) (by decide) (zk1 (w520s.k fk_zMc_253)) w521 (zk2 (w520s.k fk_zMc_253) (by omega)) zIs ?_
                    refine zs_istore (pc := 167) t114_167 (ls' := [(9, .int w530v), (8, .int w520v), (7, .int w519v), (6, .int w460v), (5, .int (zI w447M 248 w450n)), (0, .ref 242), (1, .int a), (2, .int w330v), (3, .int w440v), (4, .int w447x4)]) (zml mf114 (by decide)) rfl ?_
                    refine zs_iload (pc := 169) t114_169 rfl ?_
                    refine zs_aload_n (pc := 171) t114_171 rfl ?_
                    have w532 := ib242_17 w520I
                    refine zs_get (pc := 172) t114_172 (by decide) (zk1 (w520s.k fk_zMc_242)) (zfvi rfl ((zIo (by decide)).trans ((zIo (by decide)).trans rfl))) ?_
                    by_cases w533 : (zI w520M 242 17).toInt < w530v.toInt
                    · refine zs_icmp_gtT (pc := 175) t114_175 rfl rfl (by omega) ?_
                      refine zs_aload_n (pc := 196) t114_196 rfl ?_
                      refine zs_iload (pc := 197) t114_197 rfl ?_
                      have w534 : zIv cLo cHi (zsI (zsI (zsI w520M 252 w521n w527v) 253 w521n w530v) 242 17 w530v) := zIv.put w531 (show (-2147483648) ≤ w530v.toInt ∧ w530v.toInt ≤ 2147483647 from (zrg w530v))
                      refine zs_putI (pc := 199) t114_199 (zk1 (w520s.k fk_zMc_242)) rfl ?_
                      refine zs_aload_n (pc := 202) t114_202 rfl ?_
                      refine zs_iload (pc := 203) t114_203 rfl ?_
                      have w535 : zIv cLo cHi (zsI (zsI (zsI (zsI w520M 252 w521n w527v) 253 w521n w530v) 242 17 w530v) 242 18 w519v) := zIv.put w534 (show (-2147483648) ≤ w519v.toInt ∧ w519v.toInt ≤ 2147483647 from (zrg w519v))
                      refine zs_putI (pc := 205) t114_205 (zk1 (w520s.k fk_zMc_242)) rfl ?_
                      obtain ⟨w536v, w536e, w536⟩ := ziadd (a := w447x4) (b := Int32.ofInt 1) rfl (show (Int32.ofInt 1).toInt = 1 by decide) (by omega) (by omega)
                      refine zs_iinc (pc := 208) t114_208 (ls' := [(4, .int w536v), (9, .int w530v), (8, .int w520v), (7, .int w519v), (6, .int w460v), (5, .int (zI w447M 248 w450n)), (0, .ref 242), (1, .int a), (2, .int w330v), (3, .int w440v)]) (zml mf114 (by decide)) rfl (c := w536v) w536e rfl ?_
                      refine zs_goto (pc := 211) t114_211 ?_
                      refine zGo.locals (ls' := [(0, .ref 242), (1, .int a), (2, .int w330v), (3, .int w440v), (4, .int w536v)]) (by simp) ?_
                      exact w447ih (w447m - 1) (by omega) w536v (zsI (zsI (zsI (zsI w520M 252 w521n w527v) 253 w521n w530v) 242 17 w530v) 242 18 w519v) ⟨by omega, by omega⟩ w520s w535 (((((((zFr.refl).trans (w447F.mono rfl)).trans (w520F.mono rfl)).put rfl).put rfl).put rfl).put rfl) (by omega)
                    · refine zs_icmp_gtF (pc := 175) t114_175 rfl rfl (by omega) ?_
                      refine zs_iload (pc := 178) t114_178 rfl ?_
                      refine zs_aload_n (pc := 180) t114_180 rfl ?_
                      refine zs_get (pc := 181) t114_181 (by decide) (zk1 (w520s.k fk_zMc_242)) (zfvi rfl ((zIo (by decide)).trans ((zIo (by decide)).trans rfl))) ?_
                      by_cases w537 : w530v.toInt ≠ (zI w520M 242 17).toInt
                      · refine zs_icmp_neT (pc := 184) t114_184 rfl rfl (by omega) ?_
                        obtain ⟨w538v, w538e, w538⟩ := ziadd (a := w447x4) (b := Int32.ofInt 1) rfl (show (Int32.ofInt 1).toInt = 1 by decide) (by omega) (by omega)
                        refine zs_iinc (pc := 208) t114_208 (ls' := [(4, .int w538v), (9, .int w530v), (8, .int w520v), (7, .int w519v), (6, .int w460v), (5, .int (zI w447M 248 w450n)), (0, .ref 242), (1, .int a), (2, .int w330v), (3, .int w440v)]) (zml mf114 (by decide)) rfl (c := w538v) w538e rfl ?_
                        refine zs_goto (pc := 211) t114_211 ?_
                        refine zGo.locals (ls' := [(0, .ref 242), (1, .int a), (2, .int w330v), (3, .int w440v), (4, .int w538v)]) (by simp) ?_
                        exact w447ih (w447m - 1) (by omega) w538v (zsI (zsI w520M 252 w521n w527v) 253 w521n w530v) ⟨by omega, by omega⟩ w520s w531 (((((zFr.refl).trans (w447F.mono rfl)).trans (w520F.mono rfl)).put rfl).put rfl) (by omega)
                      · refine zs_icmp_neF (pc := 184) t114_184 rfl rfl (by omega) ?_
                        refine zs_iload (pc := 187) t114_187 rfl ?_
                        refine zs_aload_n (pc := 189) t114_189 rfl ?_
                        have w539 := ib242_18 w520I
                        refine zs_get (pc := 190) t114_190 (by decide) (zk1 (w520s.k fk_zMc_242)) (zfvi rfl ((zIo (by decide)).trans ((zIo (by decide)).trans rfl))) ?_
                        by_cases w540 : (zI w520M 242 18).toInt ≤ w519v.toInt
                        · refine zs_icmp_geT (pc := 193) t114_193 rfl rfl (by omega) ?_
                          obtain ⟨w541v, w541e, w541⟩ := ziadd (a := w447x4) (b := Int32.ofInt 1) rfl (show (Int32.ofInt 1).toInt = 1 by decide) (by omega) (by omega)
                          refine zs_iinc (pc := 208) t114_208 (ls' := [(4, .int w541v), (9, .int w530v), (8, .int w520v), (7, .int w519v), (6, .int w460v), (5, .int (zI w447M 248 w450n)), (0, .ref 242), (1, .int a), (2, .int w330v), (3, .int w440v)]) (zml mf114 (by decide)) rfl (c := w541v) w541e rfl ?_
                          refine zs_goto (pc := 211) t114_211 ?_
                          refine zGo.locals (ls' := [(0, .ref 242), (1, .int a), (2, .int w330v), (3, .int w440v), (4, .int w541v)]) (by simp) ?_
                          exact w447ih (w447m - 1) (by omega) w541v (zsI (zsI w520M 252 w521n w527v) 253 w521n w530v) ⟨by omega, by omega⟩ w520s w531 (((((zFr.refl).trans (w447F.mono rfl)).trans (w520F.mono rfl)).put rfl).put rfl) (by omega)
                        · refine zs_icmp_geF (pc := 193) t114_193 rfl rfl (by omega) ?_
                          refine zs_aload_n (pc := 196) t114_196 rfl ?_
                          refine zs_iload (pc := 197) t114_197 rfl ?_
                          have w542 : zIv cLo cHi (zsI (zsI (zsI w520M 252 w521n w527v) 253 w521n w530v) 242 17 w530v) := zIv.put w531 (show (-2147483648) ≤ w530v.toInt ∧ w530v.toInt ≤ 2147483647 from (zrg w530v))
                          refine zs_putI (pc := 199) t114_199 (zk1 (w520s.k fk_zMc_242)) rfl ?_
                          refine zs_aload_n (pc := 202) t114_202 rfl ?_
                          refine zs_iload (pc := 203) t114_203 rfl ?_
                          have w543 : zIv cLo cHi (zsI (zsI (zsI (zsI w520M 252 w521n w527v) 253 w521n w530v) 242 17 w530v) 242 18 w519v) := zIv.put w542 (show (-2147483648) ≤ w519v.toInt ∧ w519v.toInt ≤ 2147483647 from (zrg w519v))
                          refine zs_putI (pc := 205) t114_205 (zk1 (w520s.k fk_zMc_242)) rfl ?_
                          obtain ⟨w544v, w544e, w544⟩ := ziadd (a := w447x4) (b := Int32.ofInt 1) rfl (show (Int32.ofInt 1).toInt = 1 by decide) (by omega) (by omega)
                          refine zs_iinc (pc := 208) t114_208 (ls' := [(4, .int w544v), (9, .int w530v), (8, .int w520v), (7, .int w519v), (6, .int w460v), (5, .int (zI w447M 248 w450n)), (0, .ref 242), (1, .int a), (2, .int w330v), (3, .int w440v)]) (zml mf114 (by decide)) rfl (c := w544v) w544e rfl ?_
                          refine zs_goto (pc := 211) t114_211 ?_
                          refine zGo.locals (ls' := [(0, .ref 242), (1, .int a), (2, .int w330v), (3, .int w440v), (4, .int w544v)]) (by simp) ?_
                          exact w447ih (w447m - 1) (by omega) w544v (zsI (zsI (zsI (zsI w520M 252 w521n w527v) 253 w521n w530v) 242 17 w530v) 242 18 w519v) ⟨by omega, by omega⟩ w520s w543 (((((((zFr.refl).trans (w447F.mono rfl)).trans (w520F.mono rfl)).put rfl).put rfl).put rfl).put rfl) (by omega)
                  · refine zs_if_eqF (pc := 129) t114_129 rfl (by omega) ?_
                    refine zs_goto (pc := 132) t114_132 ?_
                    obtain ⟨w545v, w545e, w545⟩ := ziadd (a := w447x4) (b := Int32.ofInt 1) rfl (show (Int32.ofInt 1).toInt = 1 by decide) (by omega) (by omega)
                    refine zs_iinc (pc := 208) t114_208 (ls' := [(4, .int w545v), (8, .int w520v), (7, .int w519v), (6, .int w460v), (5, .int (zI w447M 248 w450n)), (0, .ref 242), (1, .int a), (2, .int w330v), (3, .int w440v)]) (zml mf114 (by decide)) rfl (c := w545v) w545e rfl ?_
                    refine zs_goto (pc := 211) t114_211 ?_
                    refine zGo.locals (ls' := [(0, .ref 242), (1, .int a), (2, .int w330v), (3, .int w440v), (4, .int w545v)]) (by simp) ?_
                    exact w447ih (w447m - 1) (by omega) w545v w520M ⟨by omega, by omega⟩ w520s w520I (((zFr.refl).trans (w447F.mono rfl)).trans (w520F.mono rfl)) (by omega)
        refine zGo.locals (ls' := [(0, .ref 242), (1, .int a), (2, .int w330v), (3, .int w440v), (4, .int (0 : Int32))]) (by simp) ?_
        have w546 := li0
        exact w447L ((60 - 0 : Int).toNat) (0 : Int32) (zsI (zsI (zsI (zsI M 242 10 w442v) 242 15 (0 : Int32)) 242 17 (0 : Int32)) 242 18 (0 : Int32)) ⟨by decide, by decide⟩ hs w446 zFr.refl (by omega)
