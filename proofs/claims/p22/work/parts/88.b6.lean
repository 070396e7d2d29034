set_option maxHeartbeats 8000000 in
theorem V107_242 {X : zX} {l : Launch} {M : zM} {Q : Option Value → zM → Prop} {a : Int32} (hs : zSk zMc M) (hI : zIv cLo cHi M) {F : Nat → Int} (x0 : zSo M 7 F) (x1 : zWF F) (hQ : ∀ M', zSk zMc M' → zIv cLo cHi M' → zFr [(242, 242, some 0), (242, 242, some 5), (242, 242, some 6), (243, 249, none)] M M' → (∃ (n : Nat) (φ : Nat → Nat) (m : Nat), zVt M' 242 247 248 249 F (zL0 F a.toInt) n φ ∧ zSl M' 242 243 244 F m ∧ zPn M' 242 245 246 F) → Q none M') : zCall X l 3 0 0 107 [.ref 242, .ref 7, .int a] M Q := by
  have ga := zrg a
  refine zs_in (by decide) mf107 (Nat.le_of_ble_eq_true rfl) ?_
  show zGo X l 3 0 0 107 0 [(0, .ref 242), (1, .ref 7), (2, .int a)] [] M _
  have f0 := x0.1
  have w1 := ib7_0 hI
  have w2 : (zI M 7 0).toInt = (zI M 7 0).toInt := (congrArg Int32.toInt rfl).trans rfl
  have w3 := ib7_3 hI
  have w4 : (zI M 7 3).toInt = (zI M 7 3).toInt := (congrArg Int32.toInt rfl).trans rfl
  have w5 := ib7_8 hI
  have w6 : (zI M 7 8).toInt = (zI M 7 8).toInt := (congrArg Int32.toInt rfl).trans rfl
  have f1 := x1.1
  have f3 := x1.2.2.2
  have f2 := (show (zI M 7 0).toInt = F 0 ∧ (zI M 7 3).toInt = F 1 ∧ (zI M 7 8).toInt = F 2 from ⟨x0.1.1, x0.1.2.1, x0.1.2.2.1⟩)
  refine zs_aload_n (pc := 0) t107_0 rfl ?_
  refine zs_iconst (pc := 1) t107_1 (v := 1) (by decide) ?_
  refine zs_aload_n (pc := 2) t107_2 rfl ?_
  refine zs_iconst (pc := 3) t107_3 (v := 2) (by decide) ?_
  refine zs_invV (pc := 4) (k := 7) (as' := [.int (2 : Int32)]) (st := [.int (1 : Int32), .ref 242]) t107_4 mf96 rfl rfl (Or.inl ⟨by decide, (zk1 (hs.k fk_zMc_7))⟩) ⟨by decide, by decide, Nat.le_of_ble_eq_true rfl, Nat.le_of_ble_eq_true rfl⟩ (zs_in (by decide) mf96 (Nat.le_of_ble_eq_true rfl) ?_) (fun _ _ q => q)
  show zGo X l 0 0 0 96 0 [(0, .ref 7), (1, .int (2 : Int32))] [] M _
  refine zs_iload_n (pc := 0) t96_0 rfl ?_
  refine zs_if_ltF (pc := 1) t96_1 li2 (by decide) ?_
  refine zs_iload_n (pc := 4) t96_4 rfl ?_
  refine zs_bipush (pc := 5) t96_5 (v := 9) (by decide) ?_
  refine zs_icmp_geF (pc := 7) t96_7 li2 li9 (by decide) ?_
  refine zs_aload_n (pc := 10) t96_10 rfl ?_
  refine zs_get (pc := 11) t96_11 (by decide) (zk1 (hs.k fk_zMc_7)) (hs.p rfl fv_zMc_7_12) ?_
  refine zs_iload_n (pc := 14) t96_14 rfl ?_
  have w7 := ib17 hI 2
  have w8 : (zI M 17 2).toInt = F 7 := x0.2.2.2.2.1 2 (by decide)
  refine zs_iald (pc := 15) t96_15 (j := 2) (by decide) (zk1 (hs.k fk_zMc_17)) li2 (zk2 (hs.k fk_zMc_17) (by decide)) rfl ?_
  refine zs_goto (pc := 16) t96_16 ?_
  refine zs_iret (pc := 20) t96_20 mr96 rfl ?_
  show zGo X l 3 0 0 107 7 [(0, .ref 242), (1, .ref 7), (2, .int a)] [.int (zI M 17 2), .int (1 : Int32), .ref 242] M _
  refine zs_invS (pc := 7) (as := [.int (1 : Int32), .int (zI M 17 2)]) (st := [.ref 242]) t107_7 (by decide) mf21 rfl rfl ⟨by decide, by decide, Nat.le_of_ble_eq_true rfl, Nat.le_of_ble_eq_true rfl⟩ (zs_in (by decide) mf21 (Nat.le_of_ble_eq_true rfl) ?_) (fun _ _ q => q)
  show zGo X l 0 0 0 21 0 [(0, .int (1 : Int32)), (1, .int (zI M 17 2))] [] M _
  refine zs_iload_n (pc := 0) t21_0 rfl ?_
  refine zs_iload_n (pc := 1) t21_1 rfl ?_
  by_cases w9 : 1 < (zI M 17 2).toInt
  · refine zs_icmp_ltT (pc := 2) t21_2 li1 rfl (by omega) ?_
    refine zs_iload_n (pc := 9) t21_9 rfl ?_
    refine zs_iret (pc := 10) t21_10 mr21 rfl ?_
    show zGo X l 3 0 0 107 10 [(0, .ref 242), (1, .ref 7), (2, .int a)] [.int (zI M 17 2), .ref 242] M _
    have w10 : zIv cLo cHi (zsI M 242 5 (zI M 17 2)) := zIv.put hI (show 1 ≤ (zI M 17 2).toInt ∧ (zI M 17 2).toInt ≤ 2147483647 from ⟨by omega, by omega⟩)
    refine zs_putI (pc := 10) t107_10 (zk1 (hs.k fk_zMc_242)) rfl ?_
    refine zs_aload_n (pc := 13) t107_13 rfl ?_
    refine zs_aload_n (pc := 14) t107_14 rfl ?_
    refine zs_iconst (pc := 15) t107_15 (v := 0) (by decide) ?_
    refine zs_invV (pc := 16) (k := 7) (as' := [.int (0 : Int32)]) (st := [.ref 242]) t107_16 mf96 rfl rfl (Or.inl ⟨by decide, (zk1 (hs.k fk_zMc_7))⟩) ⟨by decide, by decide, Nat.le_of_ble_eq_true rfl, Nat.le_of_ble_eq_true rfl⟩ (zs_in (by decide) mf96 (Nat.le_of_ble_eq_true rfl) ?_) (fun _ _ q => q)
    show zGo X l 0 0 0 96 0 [(0, .ref 7), (1, .int (0 : Int32))] [] (zsI M 242 5 (zI M 17 2)) _
    refine zs_iload_n (pc := 0) t96_0 rfl ?_
    refine zs_if_ltF (pc := 1) t96_1 li0 (by decide) ?_
    refine zs_iload_n (pc := 4) t96_4 rfl ?_
    refine zs_bipush (pc := 5) t96_5 (v := 9) (by decide) ?_
    refine zs_icmp_geF (pc := 7) t96_7 li0 li9 (by decide) ?_
    refine zs_aload_n (pc := 10) t96_10 rfl ?_
    refine zs_get (pc := 11) t96_11 (by decide) (zk1 (hs.k fk_zMc_7)) (hs.p rfl fv_zMc_7_12) ?_
    refine zs_iload_n (pc := 14) t96_14 rfl ?_
    have w11 := ib17 hI 0
    have w12 : (zI M 17 0).toInt = F 5 := x0.2.2.2.2.1 0 (by decide)
    refine zs_iald (pc := 15) t96_15 (j := 0) (by decide) (zk1 (hs.k fk_zMc_17)) li0 (zk2 (hs.k fk_zMc_17) (by decide)) ((zIo (by decide)).trans rfl) ?_
    refine zs_goto (pc := 16) t96_16 ?_
    refine zs_iret (pc := 20) t96_20 mr96 rfl ?_
    show zGo X l 3 0 0 107 19 [(0, .ref 242), (1, .ref 7), (2, .int a)] [.int (zI M 17 0), .ref 242] (zsI M 242 5 (zI M 17 2)) _
    refine zs_aload_n (pc := 19) t107_19 rfl ?_
    refine zs_iconst (pc := 20) t107_20 (v := 1) (by decide) ?_
    refine zs_invV (pc := 21) (k := 7) (as' := [.int (1 : Int32)]) (st := [.int (zI M 17 0), .ref 242]) t107_21 mf96 rfl rfl (Or.inl ⟨by decide, (zk1 (hs.k fk_zMc_7))⟩) ⟨by decide, by decide, Nat.le_of_ble_eq_true rfl, Nat.le_of_ble_eq_true rfl⟩ (zs_in (by decide) mf96 (Nat.le_of_ble_eq_true rfl) ?_) (fun _ _ q => q)
    show zGo X l 0 0 0 96 0 [(0, .ref 7), (1, .int (1 : Int32))] [] (zsI M 242 5 (zI M 17 2)) _
    refine zs_iload_n (pc := 0) t96_0 rfl ?_
    refine zs_if_ltF (pc := 1) t96_1 li1 (by decide) ?_
    refine zs_iload_n (pc := 4) t96_4 rfl ?_
    refine zs_bipush (pc := 5) t96_5 (v := 9) (by decide) ?_
    refine zs_icmp_geF (pc := 7) t96_7 li1 li9 (by decide) ?_
    refine zs_aload_n (pc := 10) t96_10 rfl ?_
    refine zs_get (pc := 11) t96_11 (by decide) (zk1 (hs.k fk_zMc_7)) (hs.p rfl fv_zMc_7_12) ?_
    refine zs_iload_n (pc := 14) t96_14 rfl ?_
    have w13 := ib17 hI 1
    have w14 : (zI M 17 1).toInt = F 6 := x0.2.2.2.2.1 1 (by decide)
    refine zs_iald (pc := 15) t96_15 (j := 1) (by decide) (zk1 (hs.k fk_zMc_17)) li1 (zk2 (hs.k fk_zMc_17) (by decide)) ((zIo (by decide)).trans rfl) ?_
    refine zs_goto (pc := 16) t96_16 ?_
    refine zs_iret (pc := 20) t96_20 mr96 rfl ?_
    show zGo X l 3 0 0 107 24 [(0, .ref 242), (1, .ref 7), (2, .int a)] [.int (zI M 17 1), .int (zI M 17 0), .ref 242] (zsI M 242 5 (zI M 17 2)) _
    refine zs_invV (pc := 24) (k := 242) (as' := [.int (zI M 17 0), .int (zI M 17 1)]) (st := []) t107_24 mf108 rfl rfl (Or.inl ⟨by decide, (zk1 (hs.k fk_zMc_242))⟩) ⟨by decide, by decide, Nat.le_of_ble_eq_true rfl, Nat.le_of_ble_eq_true rfl⟩ (V108_242 hs w10 ⟨by omega, by omega⟩ ⟨by omega, by omega⟩ x1 ⟨by omega, by omega⟩ ?_) (fun _ _ q => q)
    intro w15M w15s w15I w15F w15x0
    obtain ⟨w15m, w15z⟩ := w15x0
    show zGo X l 3 0 0 107 27 [(0, .ref 242), (1, .ref 7), (2, .int a)] [] w15M _
    refine zs_aload_n (pc := 27) t107_27 rfl ?_
    refine zs_aload_n (pc := 28) t107_28 rfl ?_
    refine zs_invV (pc := 29) (k := 242) (as' := [.ref 7]) (st := []) t107_29 mf109 rfl rfl (Or.inl ⟨by decide, (zk1 (w15s.k fk_zMc_242))⟩) ⟨by decide, by decide, Nat.le_of_ble_eq_true rfl, Nat.le_of_ble_eq_true rfl⟩ (V109_242 w15s w15I (zSo.fr x0 (zEq.tr (zEq.put rfl) (zFr.eq w15F rfl))) x1 ?_) (fun _ _ q => q)
    intro w16M w16s w16I w16F w16x0
    have w17 : (zI w16M 242 5).toInt = (zI M 17 2).toInt := (congrArg Int32.toInt ((w16F 242 5 rfl).trans ((w15F 242 5 rfl).trans zIs))).trans rfl
    have w16p := w16x0 (by omega)
    show zGo X l 3 0 0 107 32 [(0, .ref 242), (1, .ref 7), (2, .int a)] [] w16M _
    refine zs_aload_n (pc := 32) t107_32 rfl ?_
    refine zs_iconst (pc := 33) t107_33 (v := 0) (by decide) ?_
    have w18 : zIv cLo cHi (zsI w16M 242 6 (0 : Int32)) := zIv.put w16I (show 0 ≤ (0 : Int32).toInt ∧ (0 : Int32).toInt ≤ 60 from ⟨by decide, by decide⟩)
    refine zs_putI (pc := 34) t107_34 (zk1 (w16s.k fk_zMc_242)) rfl ?_
    refine zs_iconst (pc := 37) t107_37 (v := 0) (by decide) ?_
    refine zs_istore_n (pc := 38) t107_38 (ls' := [(3, .int (0 : Int32)), (0, .ref 242), (1, .ref 7), (2, .int a)]) (zml mf107 (by decide)) rfl ?_
    have w19L : ∀ (m : Nat) (w19x3 : Int32) (w19M : zM), (0 ≤ w19x3.toInt ∧ w19x3.toInt ≤ 60) → zSk zMc w19M → zIv cLo cHi w19M → zFr [(242, 242, some 6), (247, 249, none)] (zsI w16M 242 6 (0 : Int32)) w19M → (w19x3.toInt ≤ F 1) → (0 ≤ (zI w19M 242 6).toInt) → ((zI w19M 242 6).toInt ≤ w19x3.toInt) → (∀ h : Nat, (h : Int) = w19x3.toInt → ∃ (n : Nat) (φ : Nat → Nat), (zI w19M 242 6).toInt = (n : Int) ∧ zVj w19M 247 248 249 F (zL0 F a.toInt) n φ h) → 60 - w19x3.toInt ≤ (m : Int) → zGo X l 3 0 0 107 39 [(0, .ref 242), (1, .ref 7), (2, .int a), (3, .int w19x3)] [] w19M Q := by
      intro m
      induction m using Nat.strongRecOn with
      | ind w19m w19ih =>
        intro w19x3 w19M w19b3 w19s w19I w19F w19r0 w19r1 w19r2 w19t0 w19q
        obtain ⟨w20n, w20⟩ : ∃ n : Nat, w19x3.toInt = (n : Int) := ⟨(w19x3.toInt).toNat, by omega⟩
        obtain ⟨w19k, w19f, w19e, w19v⟩ := w19t0 w20n (by omega)
        have w21 := ib242_6 w19I
        refine zs_iload_n (pc := 39) t107_39 rfl ?_
        refine zs_aload_n (pc := 40) t107_40 rfl ?_
        refine zs_get (pc := 41) t107_41 (by decide) (zk1 (w19s.k fk_zMc_7)) (zfvi rfl ((w19F 7 3 rfl).trans ((zIo (by decide)).trans ((w16F 7 3 rfl).trans ((w15F 7 3 rfl).trans ((zIo (by decide)).trans rfl)))))) ?_
        by_cases w22 : (zI M 7 3).toInt ≤ w19x3.toInt
        · refine zs_icmp_geT (pc := 44) t107_44 rfl rfl (by omega) ?_
          exact zs_vret (pc := 121) t107_121 mr107 (hQ _ w19s w19I ((((((zFr.refl).put rfl).trans (w15F.mono rfl)).trans (w16F.mono rfl)).put rfl).trans (w19F.mono rfl)) ⟨w19k, w19f, w15m, w19v.vt (by omega) w19e (by omega), zSl.fr w15z ((w19F 242 0 rfl).trans ((zIoj (by decide)).trans (w16F 242 0 rfl))) (fun j => ((w19F 243 j rfl).trans ((zIo (by decide)).trans (w16F 243 j rfl)))) (fun j => ((w19F 244 j rfl).trans ((zIo (by decide)).trans (w16F 244 j rfl)))), zPn.fr w16p ((w19F 242 5 rfl).trans (zIoj (by decide))) (fun j => ((w19F 245 j rfl).trans (zIo (by decide)))) (fun j => ((w19F 246 j rfl).trans (zIo (by decide))))⟩)
        · refine zs_icmp_geF (pc := 44) t107_44 rfl rfl (by omega) ?_
          refine zs_aload_n (pc := 47) t107_47 rfl ?_
          refine zs_get (pc := 48) t107_48 (by decide) (zk1 (w19s.k fk_zMc_7)) (w19s.p rfl fv_zMc_7_4) ?_
          refine zs_iload_n (pc := 51) t107_51 rfl ?_
          have w23 := ib10 hI w20n
          have w24 : (zI M 10 w20n).toInt = F (30 + 4 * w20n) ∧ (zI M 11 w20n).toInt = F (31 + 4 * w20n) ∧ (zI M 12 w20n).toInt = F (32 + 4 * w20n) ∧ (zI M 13 w20n).toInt = F (33 + 4 * w20n) := x0.2.2.1 w20n (by omega)
          have w25 := x1.2.2.1 w20n (by omega)
          refine zs_iald (pc := 52) t107_52 (j := w20n) (by decide) (zk1 (w19s.k fk_zMc_10)) (show w19x3.toInt = ((w20n : Nat) : Int) by omega) (zk2 (w19s.k fk_zMc_10) (by omega)) ((w19F 10 w20n rfl).trans ((zIo (by decide)).trans ((w16F 10 w20n rfl).trans ((w15F 10 w20n rfl).trans ((zIo (by decide)).trans rfl))))) ?_
          refine zs_iload_n (pc := 53) t107_53 rfl ?_
          by_cases w26 : (zI M 10 w20n).toInt = a.toInt
          · refine zs_icmp_eqT (pc := 54) t107_54 rfl rfl (by omega) ?_
            obtain ⟨w27v, w27e, w27⟩ := ziadd (a := w19x3) (b := Int32.ofInt 1) rfl (show (Int32.ofInt 1).toInt = 1 by decide) (by omega) (by omega)
            refine zs_iinc (pc := 115) t107_115 (ls' := [(3, .int w27v), (0, .ref 242), (1, .ref 7), (2, .int a)]) (zml mf107 (by decide)) rfl (c := w27v) w27e rfl ?_
            refine zs_goto (pc := 118) t107_118 ?_
            refine zGo.locals (ls' := [(0, .ref 242), (1, .ref 7), (2, .int a), (3, .int w27v)]) (by simp) ?_
            have w28 := w27
            have w29 : (zI w19M 242 6).toInt = (zI w19M 242 6).toInt := (congrArg Int32.toInt rfl).trans rfl
            have w30 : (zI w19M 242 6).toInt = (zI w19M 242 6).toInt := (congrArg Int32.toInt rfl).trans rfl
            have w31 : (zI w19M 242 6).toInt = (zI w19M 242 6).toInt := (congrArg Int32.toInt rfl).trans rfl
            exact w19ih (w19m - 1) (by omega) w27v w19M ⟨by omega, by omega⟩ w19s w19I ((zFr.refl).trans (w19F.mono rfl)) (by omega) (by omega) (by omega) (fun h hh => by obtain rfl : h = w20n + 1 := (by omega); have hw := x1.2.2.1 w20n (by omega); exact ⟨w19k, w19f, by omega, w19v.skip (zL0.n (Or.inr (by omega)))⟩) (by omega)
          · refine zs_icmp_eqF (pc := 54) t107_54 rfl rfl (by omega) ?_
            refine zs_aload_n (pc := 57) t107_57 rfl ?_
            refine zs_iload_n (pc := 58) t107_58 rfl ?_
            refine zs_invV (pc := 59) (k := 7) (as' := [.int w19x3]) (st := []) t107_59 mf93 rfl rfl (Or.inl ⟨by decide, (zk1 (w19s.k fk_zMc_7))⟩) ⟨by decide, by decide, Nat.le_of_ble_eq_true rfl, Nat.le_of_ble_eq_true rfl⟩ (X93_7 w19s w19I (zSo.fr x0 (zEq.tr (zEq.tr (zEq.tr (zEq.tr (zEq.put rfl) (zFr.eq w15F rfl)) (zFr.eq w16F rfl)) (zEq.put rfl)) (zFr.eq w19F rfl))) x1 ?_) (fun _ _ q => q)
            intro w32v w32x0 w32a w32b
            show zGo X l 3 0 0 107 62 [(0, .ref 242), (1, .ref 7), (2, .int a), (3, .int w19x3)] [.int w32v] w19M _
            by_cases w33 : w32v.toInt = 0
            · refine zs_if_eqT (pc := 62) t107_62 rfl (by omega) ?_
              obtain ⟨w34v, w34e, w34⟩ := ziadd (a := w19x3) (b := Int32.ofInt 1) rfl (show (Int32.ofInt 1).toInt = 1 by decide) (by omega) (by omega)
              refine zs_iinc (pc := 115) t107_115 (ls' := [(3, .int w34v), (0, .ref 242), (1, .ref 7), (2, .int a)]) (zml mf107 (by decide)) rfl (c := w34v) w34e rfl ?_
              refine zs_goto (pc := 118) t107_118 ?_
              refine zGo.locals (ls' := [(0, .ref 242), (1, .ref 7), (2, .int a), (3, .int w34v)]) (by simp) ?_
              have w35 := w34
              have w36 : (zI w19M 242 6).toInt = (zI w19M 242 6).toInt := (congrArg Int32.toInt rfl).trans rfl
              have w37 : (zI w19M 242 6).toInt = (zI w19M 242 6).toInt := (congrArg Int32.toInt rfl).trans rfl
              have w38 : (zI w19M 242 6).toInt = (zI w19M 242 6).toInt := (congrArg Int32.toInt rfl).trans rfl
              exact w19ih (w19m - 1) (by omega) w34v w19M ⟨by omega, by omega⟩ w19s w19I ((zFr.refl).trans (w19F.mono rfl)) (by omega) (by omega) (by omega) (fun h hh => by obtain rfl : h = w20n + 1 := (by omega); have hw := x1.2.2.1 w20n (by omega); exact ⟨w19k, w19f, by omega, w19v.skip (zL0.n (Or.inl (((w32x0 w20n (by omega) (by omega)).resolve_left (fun q => by have z := q.1; omega)).2)))⟩) (by omega)
            · refine zs_if_eqF (pc := 62) t107_62 rfl (by omega) ?_
              refine zs_aload_n (pc := 65) t107_65 rfl ?_
              refine zs_get (pc := 66) t107_66 (by decide) (zk1 (w19s.k fk_zMc_242)) (w19s.p rfl fv_zMc_242_7) ?_
              refine zs_aload_n (pc := 69) t107_69 rfl ?_
              refine zs_get (pc := 70) t107_70 (by decide) (zk1 (w19s.k fk_zMc_242)) (zfvi rfl rfl) ?_
              refine zs_iload_n (pc := 73) t107_73 rfl ?_
              have w39 : zIv cLo cHi (zsI w19M 247 w19k w19x3) := zIv.put w19I (show 0 ≤ w19x3.toInt ∧ w19x3.toInt ≤ 59 from ⟨by omega, by omega⟩)
              refine zs_iast (pc := 74) t107_74 (j := w19k) (by decide) (zk1 (w19s.k fk_zMc_247)) (show (zI w19M 242 6).toInt = ((w19k : Nat) : Int) by omega) (zk2 (w19s.k fk_zMc_247) (by omega)) ?_
              refine zs_aload_n (pc := 75) t107_75 rfl ?_
              refine zs_get (pc := 76) t107_76 (by decide) (zk1 (w19s.k fk_zMc_242)) (w19s.p rfl fv_zMc_242_8) ?_
              refine zs_aload_n (pc := 79) t107_79 rfl ?_
              refine zs_get (pc := 80) t107_80 (by decide) (zk1 (w19s.k fk_zMc_242)) (zfvi rfl ((zIo (by decide)).trans rfl)) ?_
              refine zs_aload_n (pc := 83) t107_83 rfl ?_
              refine zs_get (pc := 84) t107_84 (by decide) (zk1 (w19s.k fk_zMc_7)) (w19s.p rfl fv_zMc_7_4) ?_
              refine zs_iload_n (pc := 87) t107_87 rfl ?_
              have w40 : (zI M 10 w20n).toInt = F (30 + 4 * w20n) ∧ (zI M 11 w20n).toInt = F (31 + 4 * w20n) ∧ (zI M 12 w20n).toInt = F (32 + 4 * w20n) ∧ (zI M 13 w20n).toInt = F (33 + 4 * w20n) := x0.2.2.1 w20n (by omega)
              have w41 := x1.2.2.1 w20n (by omega)
              refine zs_iald (pc := 88) t107_88 (j := w20n) (by decide) (zk1 (w19s.k fk_zMc_10)) (show w19x3.toInt = ((w20n : Nat) : Int) by omega) (zk2 (w19s.k fk_zMc_10) (by omega)) ((zIo (by decide)).trans ((w19F 10 w20n rfl).trans ((zIo (by decide)).trans ((w16F 10 w20n rfl).trans ((w15F 10 w20n rfl).trans ((zIo (by decide)).trans rfl)))))) ?_
              have w42 : zIv cLo cHi (zsI (zsI w19M 247 w19k w19x3) 248 w19k (zI M 10 w20n)) := zIv.put w39 (show 0 ≤ (zI M 10 w20n).toInt ∧ (zI M 10 w20n).toInt ≤ 7 from ⟨by omega, by omega⟩)
              refine zs_iast (pc := 89) t107_89 (j := w19k) (by decide) (zk1 (w19s.k fk_zMc_248)) (show (zI w19M 242 6).toInt = ((w19k : Nat) : Int) by omega) (zk2 (w19s.k fk_zMc_248) (by omega)) ?_
              refine zs_aload_n (pc := 90) t107_90 rfl ?_
              refine zs_get (pc := 91) t107_91 (by decide) (zk1 (w19s.k fk_zMc_242)) (w19s.p rfl fv_zMc_242_9) ?_
              refine zs_aload_n (pc := 94) t107_94 rfl ?_
              refine zs_get (pc := 95) t107_95 (by decide) (zk1 (w19s.k fk_zMc_242)) (zfvi rfl ((zIo (by decide)).trans ((zIo (by decide)).trans rfl))) ?_
              refine zs_aload_n (pc := 98) t107_98 rfl ?_
              refine zs_get (pc := 99) t107_99 (by decide) (zk1 (w19s.k fk_zMc_7)) (w19s.p rfl fv_zMc_7_5) ?_
              refine zs_iload_n (pc := 102) t107_102 rfl ?_
              have w43 := zrg (zI M 11 w20n)
              have w44 : (zI M 10 w20n).toInt = F (30 + 4 * w20n) ∧ (zI M 11 w20n).toInt = F (31 + 4 * w20n) ∧ (zI M 12 w20n).toInt = F (32 + 4 * w20n) ∧ (zI M 13 w20n).toInt = F (33 + 4 * w20n) := x0.2.2.1 w20n (by omega)
              have w45 := x1.2.2.1 w20n (by omega)
              refine zs_iald (pc := 103) t107_103 (j := w20n) (by decide) (zk1 (w19s.k fk_zMc_11)) (show w19x3.toInt = ((w20n : Nat) : Int) by omega) (zk2 (w19s.k fk_zMc_11) (by omega)) ((zIo (by decide)).trans ((zIo (by decide)).trans ((w19F 11 w20n rfl).trans ((zIo (by decide)).trans ((w16F 11 w20n rfl).trans ((w15F 11 w20n rfl).trans ((zIo (by decide)).trans rfl))))))) ?_
              have w46 : zIv cLo cHi (zsI (zsI (zsI w19M 247 w19k w19x3) 248 w19k (zI M 10 w20n)) 249 w19k (zI M 11 w20n)) := zIv.put w42 (show (-2147483648) ≤ (zI M 11 w20n).toInt ∧ (zI M 11 w20n).toInt ≤ 2147483647 from zrg (zI M 11 w20n))
              refine zs_iast (pc := 104) t107_104 (j := w19k) (by decide) (zk1 (w19s.k fk_zMc_249)) (show (zI w19M 242 6).toInt = ((w19k : Nat) : Int) by omega) (zk2 (w19s.k fk_zMc_249) (by omega)) ?_
              refine zs_aload_n (pc := 105) t107_105 rfl ?_
              refine zs_dup (pc := 106) t107_106 rfl ?_
              refine zs_get (pc := 107) t107_107 (by decide) (zk1 (w19s.k fk_zMc_242)) (zfvi rfl ((zIo (by decide)).trans ((zIo (by decide)).trans ((zIo (by decide)).trans rfl)))) ?_
              refine zs_iconst (pc := 110) t107_110 (v := 1) (by decide) ?_
              obtain ⟨w47v, w47e, w47⟩ := ziadd (a := (zI w19M 242 6)) (b := (1 : Int32)) rfl li1 (by omega) (by omega)
              refine zs_iadd (pc := 111) t107_111 (c := w47v) w47e ?_
              have w48 : zIv cLo cHi (zsI (zsI (zsI (zsI w19M 247 w19k w19x3) 248 w19k (zI M 10 w20n)) 249 w19k (zI M 11 w20n)) 242 6 w47v) := zIv.put w46 (show 0 ≤ w47v.toInt ∧ w47v.toInt ≤ 60 from ⟨by omega, by omega⟩)
              refine zs_putI (pc := 112) t107_112 (zk1 (w19s.k fk_zMc_242)) rfl ?_
              obtain ⟨w49v, w49e, w49⟩ := ziadd (a := w19x3) (b := Int32.ofInt 1) rfl (show (Int32.ofInt 1).toInt = 1 by decide) (by omega) (by omega)
              refine zs_iinc (pc := 115) t107_115 (ls' := [(3, .int w49v), (0, .ref 242), (1, .ref 7), (2, .int a)]) (zml mf107 (by decide)) rfl (c := w49v) w49e rfl ?_
              refine zs_goto (pc := 118) t107_118 ?_
              refine zGo.locals (ls' := [(0, .ref 242), (1, .ref 7), (2, .int a), (3, .int w49v)]) (by simp) ?_
              have w50 := w49
              have w51 : (zI (zsI (zsI (zsI (zsI w19M 247 w19k w19x3) 248 w19k (zI M 10 w20n)) 249 w19k (zI M 11 w20n)) 242 6 w47v) 242 6).toInt = ((zI w19M 242 6).toInt + 1) := (congrArg Int32.toInt zIs).trans w47
              have w52 : (zI (zsI (zsI (zsI (zsI w19M 247 w19k w19x3) 248 w19k (zI M 10 w20n)) 249 w19k (zI M 11 w20n)) 242 6 w47v) 242 6).toInt = ((zI w19M 242 6).toInt + 1) := (congrArg Int32.toInt zIs).trans w47
              have w53 : (zI (zsI (zsI (zsI (zsI w19M 247 w19k w19x3) 248 w19k (zI M 10 w20n)) 249 w19k (zI M 11 w20n)) 242 6 w47v) 242 6).toInt = ((zI w19M 242 6).toInt + 1) := (congrArg Int32.toInt zIs).trans w47
              exact w19ih (w19m - 1) (by omega) w49v (zsI (zsI (zsI (zsI w19M 247 w19k w19x3) 248 w19k (zI M 10 w20n)) 249 w19k (zI M 11 w20n)) 242 6 w47v) ⟨by omega, by omega⟩ w19s w48 ((((((zFr.refl).trans (w19F.mono rfl)).put rfl).put rfl).put rfl).put rfl) (by omega) (by omega) (by omega) (fun h hh => by obtain rfl : h = w20n + 1 := (by omega); have hw := x1.2.2.1 w20n (by omega); exact ⟨w19k + 1, uV w19f w19k w20n, by omega, w19v.put (zL0.y (((w32x0 w20n (by omega) (by omega)).resolve_right (fun q => by have z := q.1; omega)).2) (by omega)) ((congrArg Int32.toInt ((zIo (by decide)).trans ((zIo (by decide)).trans ((zIo (by decide)).trans (zIs))))).trans (by omega)) ((congrArg Int32.toInt ((zIo (by decide)).trans ((zIo (by decide)).trans (zIs)))).trans (by omega)) ((congrArg Int32.toInt ((zIo (by decide)).trans (zIs))).trans (by omega)) (fun j q => ((zIo (by decide)).trans ((zIo (by decide)).trans ((zIo (by decide)).trans ((zIoj q).trans rfl))))) (fun j q => ((zIo (by decide)).trans ((zIo (by decide)).trans ((zIoj q).trans ((zIo (by decide)).trans rfl))))) (fun j q => ((zIo (by decide)).trans ((zIoj q).trans ((zIo (by decide)).trans ((zIo (by decide)).trans rfl)))))⟩) (by omega)
    refine zGo.locals (ls' := [(0, .ref 242), (1, .ref 7), (2, .int a), (3, .int (0 : Int32))]) (by simp) ?_
    have w54 := li0
    have w55 : (zI (zsI w16M 242 6 (0 : Int32)) 242 6).toInt = 0 := (congrArg Int32.toInt zIs).trans li0
    have w56 : (zI (zsI w16M 242 6 (0 : Int32)) 242 6).toInt = 0 := (congrArg Int32.toInt zIs).trans li0
    have w57 : (zI (zsI w16M 242 6 (0 : Int32)) 242 6).toInt = 0 := (congrArg Int32.toInt zIs).trans li0
    exact w19L ((60 - 0 : Int).toNat) (0 : Int32) (zsI w16M 242 6 (0 : Int32)) ⟨by decide, by decide⟩ w16s w18 zFr.refl (by omega) (by omega) (by omega) (fun h hh => ⟨0, fun _ => 0, by omega, zVj.zero rfl (by omega)⟩) (by omega)
  · refine zs_icmp_ltF (pc := 2) t21_2 li1 rfl (by omega) ?_
    refine zs_iload_n (pc := 5) t21_5 rfl ?_
    refine zs_goto (pc := 6) t21_6 ?_
    refine zs_iret (pc := 10) t21_10 mr21 (by decide) ?_
    show zGo X l 3 0 0 107 10 [(0, .ref 242), (1, .ref 7), (2, .int a)] [.int (1 : Int32), .ref 242] M _
    have w58 : zIv cLo cHi (zsI M 242 5 (1 : Int32)) := zIv.put hI (show 1 ≤ (1 : Int32).toInt ∧ (1 : Int32).toInt ≤ 2147483647 from ⟨by decide, by decide⟩)
    refine zs_putI (pc := 10) t107_10 (zk1 (hs.k fk_zMc_242)) rfl ?_
    refine zs_aload_n (pc := 13) t107_13 rfl ?_
    refine zs_aload_n (pc := 14) t107_14 rfl ?_
    refine zs_iconst (pc := 15) t107_15 (v := 0) (by decide) ?_
    refine zs_invV (pc := 16) (k := 7) (as' := [.int (0 : Int32)]) (st := [.ref 242]) t107_16 mf96 rfl rfl (Or.inl ⟨by decide, (zk1 (hs.k fk_zMc_7))⟩) ⟨by decide, by decide, Nat.le_of_ble_eq_true rfl, Nat.le_of_ble_eq_true rfl⟩ (zs_in (by decide) mf96 (Nat.le_of_ble_eq_true rfl) ?_) (fun _ _ q => q)
    show zGo X l 0 0 0 96 0 [(0, .ref 7), (1, .int (0 : Int32))] [] (zsI M 242 5 (1 : Int32)) _
    refine zs_iload_n (pc := 0) t96_0 rfl ?_
    refine zs_if_ltF (pc := 1) t96_1 li0 (by decide) ?_
    refine zs_iload_n (pc := 4) t96_4 rfl ?_
    refine zs_bipush (pc := 5) t96_5 (v := 9) (by decide) ?_
    refine zs_icmp_geF (pc := 7) t96_7 li0 li9 (by decide) ?_
    refine zs_aload_n (pc := 10) t96_10 rfl ?_
    refine zs_get (pc := 11) t96_11 (by decide) (zk1 (hs.k fk_zMc_7)) (hs.p rfl fv_zMc_7_12) ?_
    refine zs_iload_n (pc := 14) t96_14 rfl ?_
    have w59 := ib17 hI 0
    have w60 : (zI M 17 0).toInt = F 5 := x0.2.2.2.2.1 0 (by decide)
    refine zs_iald (pc := 15) t96_15 (j := 0) (by decide) (zk1 (hs.k fk_zMc_17)) li0 (zk2 (hs.k fk_zMc_17) (by decide)) ((zIo (by decide)).trans rfl) ?_
    refine zs_goto (pc := 16) t96_16 ?_
    refine zs_iret (pc := 20) t96_20 mr96 rfl ?_
    show zGo X l 3 0 0 107 19 [(0, .ref 242), (1, .ref 7), (2, .int a)] [.int (zI M 17 0), .ref 242] (zsI M 242 5 (1 : Int32)) _
    refine zs_aload_n (pc := 19) t107_19 rfl ?_
    refine zs_iconst (pc := 20) t107_20 (v := 1) (by decide) ?_
    refine zs_invV (pc := 21) (k := 7) (as' := [.int (1 : Int32)]) (st := [.int (zI M 17 0), .ref 242]) t107_21 mf96 rfl rfl (Or.inl ⟨by decide, (zk1 (hs.k fk_zMc_7))⟩) ⟨by decide, by decide, Nat.le_of_ble_eq_true rfl, Nat.le_of_ble_eq_true rfl⟩ (zs_in (by decide) mf96 (Nat.le_of_ble_eq_true rfl) ?_) (fun _ _ q => q)
    show zGo X l 0 0 0 96 0 [(0, .ref 7), (1, .int (1 : Int32))] [] (zsI M 242 5 (1 : Int32)) _
    refine zs_iload_n (pc := 0) t96_0 rfl ?_
    refine zs_if_ltF (pc := 1) t96_1 li1 (by decide) ?_
    refine zs_iload_n (pc := 4) t96_4 rfl ?_
    refine zs_bipush (pc := 5) t96_5 (v := 9) (by decide) ?_
    refine zs_icmp_geF (pc := 7) t96_7 li1 li9 (by decide) ?_
    refine zs_aload_n (pc := 10) t96_10 rfl ?_
    refine zs_get (pc := 11) t96_11 (by decide) (zk1 (hs.k fk_zMc_7)) (hs.p rfl fv_zMc_7_12) ?_
    refine zs_iload_n (pc := 14) t96_14 rfl ?_
    have w61 := ib17 hI 1
    have w62 : (zI M 17 1).toInt = F 6 := x0.2.2.2.2.1 1 (by decide)
    refine zs_iald (pc := 15) t96_15 (j := 1) (by decide) (zk1 (hs.k fk_zMc_17)) li1 (zk2 (hs.k fk_zMc_17) (by decide)) ((zIo (by decide)).trans rfl) ?_
    refine zs_goto (pc := 16) t96_16 ?_
    refine zs_iret (pc := 20) t96_20 mr96 rfl ?_
    show zGo X l 3 0 0 107 24 [(0, .ref 242), (1, .ref 7), (2, .int a)] [.int (zI M 17 1), .int (zI M 17 0), .ref 242] (zsI M 242 5 (1 : Int32)) _
    refine zs_invV (pc := 24) (k := 242) (as' := [.int (zI M 17 0), .int (zI M 17 1)]) (st := []) t107_24 mf108 rfl rfl (Or.inl ⟨by decide, (zk1 (hs.k fk_zMc_242))⟩) ⟨by decide, by decide, Nat.le_of_ble_eq_true rfl, Nat.le_of_ble_eq_true rfl⟩ (V108_242 hs w58 ⟨by omega, by omega⟩ ⟨by omega, by omega⟩ x1 ⟨by omega, by omega⟩ ?_) (fun _ _ q => q)
    intro w63M w63s w63I w63F w63x0
    obtain ⟨w63m, w63z⟩ := w63x0
    show zGo X l 3 0 0 107 27 [(0, .ref 242), (1, .ref 7), (2, .int a)] [] w63M _
    refine zs_aload_n (pc := 27) t107_27 rfl ?_
    refine zs_aload_n (pc := 28) t107_28 rfl ?_
    refine zs_invV (pc := 29) (k := 242) (as' := [.ref 7]) (st := []) t107_29 mf109 rfl rfl (Or.inl ⟨by decide, (zk1 (w63s.k fk_zMc_242))⟩) ⟨by decide, by decide, Nat.le_of_ble_eq_true rfl, Nat.le_of_ble_eq_true rfl⟩ (V109_242 w63s w63I (zSo.fr x0 (zEq.tr (zEq.put rfl) (zFr.eq w63F rfl))) x1 ?_) (fun _ _ q => q)
    intro w64M w64s w64I w64F w64x0
    have w65 : (zI w64M 242 5).toInt = 1 := (congrArg Int32.toInt ((w64F 242 5 rfl).trans ((w63F 242 5 rfl).trans zIs))).trans li1
    have w64p := w64x0 (by omega)
    show zGo X l 3 0 0 107 32 [(0, .ref 242), (1, .ref 7), (2, .int a)] [] w64M _
    refine zs_aload_n (pc := 32) t107_32 rfl ?_
    refine zs_iconst (pc := 33) t107_33 (v := 0) (by decide) ?_
    have w66 : zIv cLo cHi (zsI w64M 242 6 (0 : Int32)) := zIv.put w64I (show 0 ≤ (0 : Int32).toInt ∧ (0 : Int32).toInt ≤ 60 from ⟨by decide, by decide⟩)
    refine zs_putI (pc := 34) t107_34 (zk1 (w64s.k fk_zMc_242)) rfl ?_
    refine zs_iconst (pc := 37) t107_37 (v := 0) (by decide) ?_
    refine zs_istore_n (pc := 38) t107_38 (ls' := [(3, .int (0 : Int32)), (0, .ref 242), (1, .ref 7), (2, .int a)]) (zml mf107 (by decide)) rfl ?_
    have w67L : ∀ (m : Nat) (w67x3 : Int32) (w67M : zM), (0 ≤ w67x3.toInt ∧ w67x3.toInt ≤ 60) → zSk zMc w67M → zIv cLo cHi w67M → zFr [(242, 242, some 6), (247, 249, none)] (zsI w64M 242 6 (0 : Int32)) w67M → (w67x3.toInt ≤ F 1) → (0 ≤ (zI w67M 242 6).toInt) → ((zI w67M 242 6).toInt ≤ w67x3.toInt) → (∀ h : Nat, (h : Int) = w67x3.toInt → ∃ (n : Nat) (φ : Nat → Nat), (zI w67M 242 6).toInt = (n : Int) ∧ zVj w67M 247 248 249 F (zL0 F a.toInt) n φ h) → 60 - w67x3.toInt ≤ (m : Int) → zGo X l 3 0 0 107 39 [(0, .ref 242), (1, .ref 7), (2, .int a), (3, .int w67x3)] [] w67M Q := by
      intro m
      induction m using Nat.strongRecOn with
      | ind w67m w67ih =>
        intro w67x3 w67M w67b3 w67s w67I w67F w67r0 w67r1 w67r2 w67t0 w67q
        obtain ⟨w68n, w68⟩ : ∃ n : Nat, w67x3.toInt = (n : Int) := ⟨(w67x3.toInt).toNat, by omega⟩
        obtain ⟨w67k, w67f, w67e, w67v⟩ := w67t0 w68n (by omega)
        have w69 := ib242_6 w67I
        refine zs_iload_n (pc := 39) t107_39 rfl ?_
        refine zs_aload_n (pc := 40) t107_40 rfl ?_
        refine zs_get (pc := 41) t107_41 (by decide) (zk1 (w67s.k fk_zMc_7)) (zfvi rfl ((w67F 7 3 rfl).trans ((zIo (by decide)).trans ((w64F 7 3 rfl).trans ((w63F 7 3 rfl).trans ((zIo (by decide)).trans rfl)))))) ?_
        by_cases w70 : (zI M 7 3).toInt ≤ w67x3.toInt
        · refine zs_icmp_geT (pc := 44) t107_44 rfl rfl (by omega) ?_
          exact zs_vret (pc := 121) t107_121 mr107 (hQ _ w67s w67I ((((((zFr.refl).put rfl).trans (w63F.mono rfl)).trans (w64F.mono rfl)).put rfl).trans (w67F.mono rfl)) ⟨w67k, w67f, w63m, w67v.vt (by omega) w67e (by omega), zSl.fr w63z ((w67F 242 0 rfl).trans ((zIoj (by decide)).trans (w64F 242 0 rfl))) (fun j => ((w67F 243 j rfl).trans ((zIo (by decide)).trans (w64F 243 j rfl)))) (fun j => ((w67F 244 j rfl).trans ((zIo (by decide)).trans (w64F 244 j rfl)))), zPn.fr w64p ((w67F 242 5 rfl).trans (zIoj (by decide))) (fun j => ((w67F 245 j rfl).trans (zIo (by decide)))) (fun j => ((w67F 246 j rfl).trans (zIo (by decide))))⟩)
        · refine zs_icmp_geF (pc := 44) t107_44 rfl rfl (by omega) ?_
          refine zs_aload_n (pc := 47) t107_47 rfl ?_
          refine zs_get (pc := 48) t107_48 (by decide) (zk1 (w67s.k fk_zMc_7)) (w67s.p rfl fv_zMc_7_4) ?_
          refine zs_iload_n (pc := 51) t107_51 rfl ?_
          have w71 := ib10 hI w68n
          have w72 : (zI M 10 w68n).toInt = F (30 + 4 * w68n) ∧ (zI M 11 w68n).toInt = F (31 + 4 * w68n) ∧ (zI M 12 w68n).toInt = F (32 + 4 * w68n) ∧ (zI M 13 w68n).toInt = F (33 + 4 * w68n) := x0.2.2.1 w68n (by omega)
          have w73 := x1.2.2.1 w68n (by omega)
          refine zs_iald (pc := 52) t107_52 (j := w68n) (by decide) (zk1 (w67s.k fk_zMc_10)) (show w67x3.toInt = ((w68n : Nat) : Int) by omega) (zk2 (w67s.k fk_zMc_10) (by omega)) ((w67F 10 w68n rfl).trans ((zIo (by decide)).trans ((w64F 10 w68n rfl).trans ((w63F 10 w68n rfl).trans ((zIo (by decide)).trans rfl))))) ?_
          refine zs_iload_n (pc := 53) t107_53 rfl ?_
          by_cases w74 : (zI M 10 w68n).toInt = a.toInt
          · refine zs_icmp_eqT (pc := 54) t107_54 rfl rfl (by omega) ?_
            obtain ⟨w75v, w75e, w75⟩ := ziadd (a := w67x3) (b := Int32.ofInt 1) rfl (show (Int32.ofInt 1).toInt = 1 by decide) (by omega) (by omega)
            refine zs_iinc (pc := 115) t107_115 (ls' := [(3, .int w75v), (0, .ref 242), (1, .ref 7), (2, .int a)]) (zml mf107 (by decide)) rfl (c := w75v) w75e rfl ?_
            refine zs_goto (pc := 118) t107_118 ?_
            refine zGo.locals (ls' := [(0, .ref 242), (1, .ref 7), (2, .int a), (3, .int w75v)]) (by simp) ?_
            have w76 := w75
            have w77 : (zI w67M 242 6).toInt = (zI w67M 242 6).toInt := (congrArg Int32.toInt rfl).trans rfl
            have w78 : (zI w67M 242 6).toInt = (zI w67M 242 6).toInt := (congrArg Int32.toInt rfl).trans rfl
            have w79 : (zI w67M 242 6).toInt = (zI w67M 242 6).toInt := (congrArg Int32.toInt rfl).trans rfl
            exact w67ih (w67m - 1) (by omega) w75v w67M ⟨by omega, by omega⟩ w67s w67I ((zFr.refl).trans (w67F.mono rfl)) (by omega) (by omega) (by omega) (fun h hh => by obtain rfl : h = w68n + 1 := (by omega); have hw := x1.2.2.1 w68n (by omega); exact ⟨w67k, w67f, by omega, w67v.skip (zL0.n (Or.inr (by omega)))⟩) (by omega)
          · refine zs_icmp_eqF (pc := 54) t107_54 rfl rfl (by omega) ?_
            refine zs_aload_n (pc := 57) t107_57 rfl ?_
            refine zs_iload_n (pc := 58) t107_58 rfl ?_
            refine zs_invV (pc := 59) (k := 7) (as' := [.int w67x3]) (st := []) t107_59 mf93 rfl rfl (Or.inl ⟨by decide, (zk1 (w67s.k fk_zMc_7))⟩) ⟨by decide, by decide, Nat.le_of_ble_eq_true rfl, Nat.le_of_ble_eq_true rfl⟩ (X93_7 w67s w67I (zSo.fr x0 (zEq.tr (zEq.tr (zEq.tr (zEq.tr (zEq.put rfl) (zFr.eq w63F rfl)) (zFr.eq w64F rfl)) (zEq.put rfl)) (zFr.eq w67F rfl))) x1 ?_) (fun _ _ q => q)
            intro w80v w80x0 w80a w80b
            show zGo X l 3 0 0 107 62 [(0, .ref 242), (1, .ref 7), (2, .int a), (3, .int w67x3)] [.int w80v] w67M _
            by_cases w81 : w80v.toInt = 0
            · refine zs_if_eqT (pc := 62) t107_62 rfl (by omega) ?_
              obtain ⟨w82v, w82e, w82⟩ := ziadd (a := w67x3) (b := Int32.ofInt 1) rfl (show (Int32.ofInt 1).toInt = 1 by decide) (by omega) (by omega)
              refine zs_iinc (pc := 115) t107_115 (ls' := [(3, .int w82v), (0, .ref 242), (1, .ref 7), (2, .int a)]) (zml mf107 (by decide)) rfl (c := w82v) w82e rfl ?_
              refine zs_goto (pc := 118) t107_118 ?_
              refine zGo.locals (ls' := [(0, .ref 242), (1, .ref 7), (2, .int a), (3, .int w82v)]) (by simp) ?_
              have w83 := w82
              have w84 : (zI w67M 242 6).toInt = (zI w67M 242 6).toInt := (congrArg Int32.toInt rfl).trans rfl
              have w85 : (zI w67M 242 6).toInt = (zI w67M 242 6).toInt := (congrArg Int32.toInt rfl).trans rfl
              have w86 : (zI w67M 242 6).toInt = (zI w67M 242 6).toInt := (congrArg Int32.toInt rfl).trans rfl
              exact w67ih (w67m - 1) (by omega) w82v w67M ⟨by omega, by omega⟩ w67s w67I ((zFr.refl).trans (w67F.mono rfl)) (by omega) (by omega) (by omega) (fun h hh => by obtain rfl : h = w68n + 1 := (by omega); have hw := x1.2.2.1 w68n (by omega); exact ⟨w67k, w67f, by omega, w67v.skip (zL0.n (Or.inl (((w80x0 w68n (by omega) (by omega)).resolve_left (fun q => by have z := q.1; omega)).2)))⟩) (by omega)
            · refine zs_if_eqF (pc := 62) t107_62 rfl (by omega) ?_
              refine zs_aload_n (pc := 65) t107_65 rfl ?_
              refine zs_get (pc := 66) t107_66 (by decide) (zk1 (w67s.k fk_zMc_242)) (w67s.p rfl fv_zMc_242_7) ?_
              refine zs_aload_n (pc := 69) t107_69 rfl ?_
              refine zs_get (pc := 70) t107_70 (by decide) (zk1 (w67s.k fk_zMc_242)) (zfvi rfl rfl) ?_
              refine zs_iload_n (pc := 73) t107_73 rfl ?_
              have w87 : zIv cLo cHi (zsI w67M 247 w67k w67x3) := zIv.put w67I (show 0 ≤ w67x3.toInt ∧ w67x3.toInt ≤ 59 from ⟨by omega, by omega⟩)
              refine zs_iast (pc := 74) t107_74 (j := w67k) (by decide) (zk1 (w67s.k fk_zMc_247)) (show (zI w67M 242 6).toInt = ((w67k : Nat) : Int) by omega) (zk2 (w67s.k fk_zMc_247) (by omega)) ?_
              refine zs_aload_n (pc := 75) t107_75 rfl ?_
              refine zs_get (pc := 76) t107_76 (by decide) (zk1 (w67s.k fk_zMc_242)) (w67s.p rfl fv_zMc_242_8) ?_
              refine zs_aload_n (pc := 79) t107_79 rfl ?_
              refine zs_get (pc := 80) t107_80 (by decide) (zk1 (w67s.k fk_zMc_242)) (zfvi rfl ((zIo (by decide)).trans rfl)) ?_
              refine zs_aload_n (pc := 83) t107_83 rfl ?_
              refine zs_get (pc := 84) t107_84 (by decide) (zk1 (w67s.k fk_zMc_7)) (w67s.p rfl fv_zMc_7_4) ?_
              refine zs_iload_n (pc := 87) t107_87 rfl ?_
              have w88 : (zI M 10 w68n).toInt = F (30 + 4 * w68n) ∧ (zI M 11 w68n).toInt = F (31 + 4 * w68n) ∧ (zI M 12 w68n).toInt = F (32 + 4 * w68n) ∧ (zI M 13 w68n).toInt = F (33 + 4 * w68n) := x0.2.2.1 w68n (by omega)
              have w89 := x1.2.2.1 w68n (by omega)
              refine zs_iald (pc := 88) t107_88 (j := w68n) (by decide) (zk1 (w67s.k fk_zMc_10)) (show w67x3.toInt = ((w68n : Nat) : Int) by omega) (zk2 (w67s.k fk_zMc_10) (by omega)) ((zIo (by decide)).trans ((w67F 10 w68n rfl).trans ((zIo (by decide)).trans ((w64F 10 w68n rfl).trans ((w63F 10 w68n rfl).trans ((zIo (by decide)).trans rfl)))))) ?_
              have w90 : zIv cLo cHi (zsI (zsI w67M 247 w67k w67x3) 248 w67k (zI M 10 w68n)) := zIv.put w87 (show 0 ≤ (zI M 10 w68n).toInt ∧ (zI M 10 w68n).toInt ≤ 7 from ⟨by omega, by omega⟩)
              refine zs_iast (pc := 89) t107_89 (j := w67k) (by decide) (zk1 (w67s.k fk_zMc_248)) (show (zI w67M 242 6).toInt = ((w67k : Nat) : Int) by omega) (zk2 (w67s.k fk_zMc_248) (by omega)) ?_
              refine zs_aload_n (pc := 90) t107_90 rfl ?_
              refine zs_get (pc := 91) t107_91 (by decide) (zk1 (w67s.k fk_zMc_242)) (w67s.p rfl fv_zMc_242_9) ?_
              refine zs_aload_n (pc := 94) t107_94 rfl ?_
              refine zs_get (pc := 95) t107_95 (by decide) (zk1 (w67s.k fk_zMc_242)) (zfvi rfl ((zIo (by decide)).trans ((zIo (by decide)).trans rfl))) ?_
              refine zs_aload_n (pc := 98) t107_98 rfl ?_
              refine zs_get (pc := 99) t107_99 (by decide) (zk1 (w67s.k fk_zMc_7)) (w67s.p rfl fv_zMc_7_5) ?_
              refine zs_iload_n (pc := 102) t107_102 rfl ?_
              have w91 := zrg (zI M 11 w68n)
              have w92 : (zI M 10 w68n).toInt = F (30 + 4 * w68n) ∧ (zI M 11 w68n).toInt = F (31 + 4 * w68n) ∧ (zI M 12 w68n).toInt = F (32 + 4 * w68n) ∧ (zI M 13 w68n).toInt = F (33 + 4 * w68n) := x0.2.2.1 w68n (by omega)
              have w93 := x1.2.2.1 w68n (by omega)
              refine zs_iald (pc := 103) t107_103 (j := w68n) (by decide) (zk1 (w67s.k fk_zMc_11)) (show w67x3.toInt = ((w68n : Nat) : Int) by omega) (zk2 (w67s.k fk_zMc_11) (by omega)) ((zIo (by decide)).trans ((zIo (by decide)).trans ((w67F 11 w68n rfl).trans ((zIo (by decide)).trans ((w64F 11 w68n rfl).trans ((w63F 11 w68n rfl).trans ((zIo (by decide)).trans rfl))))))) ?_
              have w94 : zIv cLo cHi (zsI (zsI (zsI w67M 247 w67k w67x3) 248 w67k (zI M 10 w68n)) 249 w67k (zI M 11 w68n)) := zIv.put w90 (show (-2147483648) ≤ (zI M 11 w68n).toInt ∧ (zI M 11 w68n).toInt ≤ 2147483647 from zrg (zI M 11 w68n))
              refine zs_iast (pc := 104) t107_104 (j := w67k) (by decide) (zk1 (w67s.k fk_zMc_249)) (show (zI w67M 242 6).toInt = ((w67k : Nat) : Int) by omega) (zk2 (w67s.k fk_zMc_249) (by omega)) ?_
              refine zs_aload_n (pc := 105) t107_105 rfl ?_
              refine zs_dup (pc := 106) t107_106 rfl ?_
              refine zs_get (pc := 107) t107_107 (by decide) (zk1 (w67s.k fk_zMc_242)) (zfvi rfl ((zIo (by decide)).trans ((zIo (by decide)).trans ((zIo (by decide)).trans rfl)))) ?_
              refine zs_iconst (pc := 110) t107_110 (v := 1) (by decide) ?_
              obtain ⟨w95v, w95e, w95⟩ := ziadd (a := (zI w67M 242 6)) (b := (1 : Int32)) rfl li1 (by omega) (by omega)
              refine zs_iadd (pc := 111) t107_111 (c := w95v) w95e ?_
              have w96 : zIv cLo cHi (zsI (zsI (zsI (zsI w67M 247 w67k w67x3) 248 w67k (zI M 10 w68n)) 249 w67k (zI M 11 w68n)) 242 6 w95v) := zIv.put w94 (show 0 ≤ w95v.toInt ∧ w95v.toInt ≤ 60 from ⟨by omega, by omega⟩)
              refine zs_putI (pc := 112) t107_112 (zk1 (w67s.k fk_zMc_242)) rfl ?_
              obtain ⟨w97v, w97e, w97⟩ := ziadd (a := w67x3) (b := Int32.ofInt 1) rfl (show (Int32.ofInt 1).toInt = 1 by decide) (by omega) (by omega)
              refine zs_iinc (pc := 115) t107_115 (ls' := [(3, .int w97v), (0, .ref 242), (1, .ref 7), (2, .int a)]) (zml mf107 (by decide)) rfl (c := w97v) w97e rfl ?_
              refine zs_goto (pc := 118) t107_118 ?_
              refine zGo.locals (ls' := [(0, .ref 242), (1, .ref 7), (2, .int a), (3, .int w97v)]) (by simp) ?_
              have w98 := w97
              have w99 : (zI (zsI (zsI (zsI (zsI w67M 247 w67k w67x3) 248 w67k (zI M 10 w68n)) 249 w67k (zI M 11 w68n)) 242 6 w95v) 242 6).toInt = ((zI w67M 242 6).toInt + 1) := (congrArg Int32.toInt zIs).trans w95
              have w100 : (zI (zsI (zsI (zsI (zsI w67M 247 w67k w67x3) 248 w67k (zI M 10 w68n)) 249 w67k (zI M 11 w68n)) 242 6 w95v) 242 6).toInt = ((zI w67M 242 6).toInt + 1) := (congrArg Int32.toInt zIs).trans w95
              have w101 : (zI (zsI (zsI (zsI (zsI w67M 247 w67k w67x3) 248 w67k (zI M 10 w68n)) 249 w67k (zI M 11 w68n)) 242 6 w95v) 242 6).toInt = ((zI w67M 242 6).toInt + 1) := (congrArg Int32.toInt zIs).trans w95
              exact w67ih (w67m - 1) (by omega) w97v (zsI (zsI (zsI (zsI w67M 247 w67k w67x3) 248 w67k (zI M 10 w68n)) 249 w67k (zI M 11 w68n)) 242 6 w95v) ⟨by omega, by omega⟩ w67s w96 ((((((zFr.refl).trans (w67F.mono rfl)).put rfl).put rfl).put rfl).put rfl) (by omega) (by omega) (by omega) (fun h hh => by obtain rfl : h = w68n + 1 := (by omega); have hw := x1.2.2.1 w68n (by omega); exact ⟨w67k + 1, uV w67f w67k w68n, by omega, w67v.put (zL0.y (((w80x0 w68n (by omega) (by omega)).resolve_right (fun q => by have z := q.1; omega)).2) (by omega)) ((congrArg Int32.toInt ((zIo (by decide)).trans ((zIo (by decide)).trans ((zIo (by decide)).trans (zIs))))).trans (by omega)) ((congrArg Int32.toInt ((zIo (by decide)).trans ((zIo (by decide)).trans (zIs)))).trans (by omega)) ((congrArg Int32.toInt ((zIo (by decide)).trans (zIs))).trans (by omega)) (fun j q => ((zIo (by decide)).trans ((zIo (by decide)).trans ((zIo (by decide)).trans ((zIoj q).trans rfl))))) (fun j q => ((zIo (by decide)).trans ((zIo (by decide)).trans ((zIoj q).trans ((zIo (by decide)).trans rfl))))) (fun j q => ((zIo (by decide)).trans ((zIoj q).trans ((zIo (by decide)).trans ((zIo (by decide)).trans rfl)))))⟩) (by omega)
    refine zGo.locals (ls' := [(0, .ref 242), (1, .ref 7), (2, .int a), (3, .int (0 : Int32))]) (by simp) ?_
    have w102 := li0
    have w103 : (zI (zsI w64M 242 6 (0 : Int32)) 242 6).toInt = 0 := (congrArg Int32.toInt zIs).trans li0
    have w104 : (zI (zsI w64M 242 6 (0 : Int32)) 242 6).toInt = 0 := (congrArg Int32.toInt zIs).trans li0
    have w105 : (zI (zsI w64M 242 6 (0 : Int32)) 242 6).toInt = 0 := (congrArg Int32.toInt zIs).trans li0
    exact w67L ((60 - 0 : Int).toNat) (0 : Int32) (zsI w64M 242 6 (0 : Int32)) ⟨by decide, by decide⟩ w64s w66 zFr.refl (by omega) (by omega) (by omega) (fun h hh => ⟨0, fun _ => 0, by omega, zVj.zero rfl (by omega)⟩) (by omega)
