theorem S206 {X : zX} {l : Launch} {M : zM} {Q : Option Value → zM → Prop} {a b : Int32} (hs : zSk zMc M) (hI : zIv cLo cHi M) {F : Nat → Int} {H : Nat → Nat → Int} {n : Int} {K : Nat → Nat → Int} {T : Nat → Int} (x0 : zSo M 7 F) (x1 : zHC M H n) (x2 : zKC M K T) (x3 : zWF F) (hQ : ∀ (M' : zM) (v : Int32), zSk zMc M' → zIv cLo cHi M' → zFr [(7, 18, none), (31, 154, none), (164, 164, some 0), (325, 325, some 0)] M M' → (((zI M' 164 0).toInt = 0 ∧ (zI M' 325 0).toInt = 0) ∨ (v.toInt = -1 ∧ (zI M' 164 0).toInt = (zI M 164 0).toInt ∧ (zI M' 325 0).toInt = (zI M 325 0).toInt)) → ((v.toInt = -1 ∧ (a.toInt < 0 ∨ F 0 ≤ a.toInt ∨ b.toInt < -999 ∨ 999 < b.toInt) ∧ zSC M' F H n K T) ∨ (0 ≤ a.toInt ∧ a.toInt < F 0 ∧ -999 ≤ b.toInt ∧ b.toInt ≤ 999 ∧ v.toInt = pct (zab F a.toInt b.toInt) (F 1).toNat ∧ zSC M' (pAl F a.toInt b.toInt (F 1).toNat) (pushH F H) (nP n) K T)) → Q (some (.int v)) M') : zCall X l 4 0 0 206 [.ref 6, .int a, .int b] M Q := by
  have ga := zrg a
  have gb := zrg b
  refine zs_in (by decide) mf206 (Nat.le_of_ble_eq_true rfl) ?_
  show zGo X l 4 0 0 206 0 [(0, .ref 6), (1, .int a), (2, .int b)] [] M _
  have f0 := x0.1
  have w1 := ib7_0 hI
  have w2 : (zI M 7 0).toInt = (zI M 7 0).toInt := (congrArg Int32.toInt rfl).trans rfl
  have w3 := ib7_3 hI
  have w4 : (zI M 7 3).toInt = (zI M 7 3).toInt := (congrArg Int32.toInt rfl).trans rfl
  have w5 := ib7_8 hI
  have w6 : (zI M 7 8).toInt = (zI M 7 8).toInt := (congrArg Int32.toInt rfl).trans rfl
  have f1 := x3.1
  have f3 := x3.2.2.2
  have f2 := (show (zI M 7 0).toInt = F 0 ∧ (zI M 7 3).toInt = F 1 ∧ (zI M 7 8).toInt = F 2 from ⟨x0.1.1, x0.1.2.1, x0.1.2.2.1⟩)
  refine zs_aload_n (pc := 0) t206_0 rfl ?_
  refine zs_get (pc := 1) t206_1 (by decide) (zk1 (hs.k fk_zMc_6)) (hs.p rfl fv_zMc_6_0) ?_
  refine zs_iload_n (pc := 4) t206_4 rfl ?_
  refine zs_invV (pc := 5) (k := 7) (as' := [.int a]) (st := []) t206_5 mf41 rfl rfl (Or.inl ⟨by decide, (zk1 (hs.k fk_zMc_7))⟩) ⟨by decide, by decide, Nat.le_of_ble_eq_true rfl, Nat.le_of_ble_eq_true rfl⟩ (zs_in (by decide) mf41 (Nat.le_of_ble_eq_true rfl) ?_) (fun _ _ q => q)
  show zGo X l 0 0 0 41 0 [(0, .ref 7), (1, .int a)] [] M _
  refine zs_iload_n (pc := 0) t41_0 rfl ?_
  by_cases w7 : a.toInt < 0
  · refine zs_if_ltT (pc := 1) t41_1 rfl (by omega) ?_
    refine zs_iconst (pc := 16) t41_16 (v := 0) (by decide) ?_
    refine zs_iret (pc := 17) t41_17 mr41 (by decide) ?_
    show zGo X l 4 0 0 206 8 [(0, .ref 6), (1, .int a), (2, .int b)] [.int (0 : Int32)] M _
    refine zs_if_eqT (pc := 8) t206_8 li0 (by decide) ?_
    refine zs_iconst (pc := 24) t206_24 (v := -1) (by decide) ?_
    have w8 := ib164_0 hI
    have w9 : (zI M 164 0).toInt = (zI M 164 0).toInt := (congrArg Int32.toInt rfl).trans rfl
    have w10 := ib325_0 hI
    have w11 : (zI M 325 0).toInt = (zI M 325 0).toInt := (congrArg Int32.toInt rfl).trans rfl
    have w12 := lin1
    exact zs_iret (pc := 25) t206_25 mr206 (by decide) (hQ _ _ hs hI (zFr.refl) (by omega) (Or.inl ⟨by decide, by omega, x0, x1, x2⟩))
  · refine zs_if_ltF (pc := 1) t41_1 rfl (by omega) ?_
    refine zs_iload_n (pc := 4) t41_4 rfl ?_
    refine zs_aload_n (pc := 5) t41_5 rfl ?_
    refine zs_get (pc := 6) t41_6 (by decide) (zk1 (hs.k fk_zMc_7)) (zfvi rfl rfl) ?_
    by_cases w13 : (zI M 7 0).toInt ≤ a.toInt
    · refine zs_icmp_geT (pc := 9) t41_9 rfl rfl (by omega) ?_
      refine zs_iconst (pc := 16) t41_16 (v := 0) (by decide) ?_
      refine zs_iret (pc := 17) t41_17 mr41 (by decide) ?_
      show zGo X l 4 0 0 206 8 [(0, .ref 6), (1, .int a), (2, .int b)] [.int (0 : Int32)] M _
      refine zs_if_eqT (pc := 8) t206_8 li0 (by decide) ?_
      refine zs_iconst (pc := 24) t206_24 (v := -1) (by decide) ?_
      have w14 := ib164_0 hI
      have w15 : (zI M 164 0).toInt = (zI M 164 0).toInt := (congrArg Int32.toInt rfl).trans rfl
      have w16 := ib325_0 hI
      have w17 : (zI M 325 0).toInt = (zI M 325 0).toInt := (congrArg Int32.toInt rfl).trans rfl
      have w18 := lin1
      exact zs_iret (pc := 25) t206_25 mr206 (by decide) (hQ _ _ hs hI (zFr.refl) (by omega) (Or.inl ⟨by decide, by omega, x0, x1, x2⟩))
    · refine zs_icmp_geF (pc := 9) t41_9 rfl rfl (by omega) ?_
      refine zs_iconst (pc := 12) t41_12 (v := 1) (by decide) ?_
      refine zs_goto (pc := 13) t41_13 ?_
      refine zs_iret (pc := 17) t41_17 mr41 (by decide) ?_
      show zGo X l 4 0 0 206 8 [(0, .ref 6), (1, .int a), (2, .int b)] [.int (1 : Int32)] M _
      refine zs_if_eqF (pc := 8) t206_8 li1 (by decide) ?_
      refine zs_iload_n (pc := 11) t206_11 rfl ?_
      refine zs_sipush (pc := 12) t206_12 (v := -999) (by decide) ?_
      refine zs_sipush (pc := 15) t206_15 (v := 999) (by decide) ?_
      refine zs_invS (pc := 18) (as := [.int b, .int (-999 : Int32), .int (999 : Int32)]) (st := []) t206_18 (by decide) mf39 rfl rfl ⟨by decide, by decide, Nat.le_of_ble_eq_true rfl, Nat.le_of_ble_eq_true rfl⟩ (zs_in (by decide) mf39 (Nat.le_of_ble_eq_true rfl) ?_) (fun _ _ q => q)
      show zGo X l 0 0 0 39 0 [(0, .int b), (1, .int (-999 : Int32)), (2, .int (999 : Int32))] [] M _
      refine zs_iload_n (pc := 0) t39_0 rfl ?_
      refine zs_iload_n (pc := 1) t39_1 rfl ?_
      by_cases w19 : b.toInt < (-999)
      · refine zs_icmp_ltT (pc := 2) t39_2 rfl lin999 (by omega) ?_
        refine zs_iconst (pc := 14) t39_14 (v := 0) (by decide) ?_
        refine zs_iret (pc := 15) t39_15 mr39 (by decide) ?_
        show zGo X l 4 0 0 206 21 [(0, .ref 6), (1, .int a), (2, .int b)] [.int (0 : Int32)] M _
        refine zs_if_neF (pc := 21) t206_21 li0 (by decide) ?_
        refine zs_iconst (pc := 24) t206_24 (v := -1) (by decide) ?_
        have w20 := ib164_0 hI
        have w21 : (zI M 164 0).toInt = (zI M 164 0).toInt := (congrArg Int32.toInt rfl).trans rfl
        have w22 := ib325_0 hI
        have w23 : (zI M 325 0).toInt = (zI M 325 0).toInt := (congrArg Int32.toInt rfl).trans rfl
        have w24 := lin1
        exact zs_iret (pc := 25) t206_25 mr206 (by decide) (hQ _ _ hs hI (zFr.refl) (by omega) (Or.inl ⟨by decide, by omega, x0, x1, x2⟩))
      · refine zs_icmp_ltF (pc := 2) t39_2 rfl lin999 (by omega) ?_
        refine zs_iload_n (pc := 5) t39_5 rfl ?_
        refine zs_iload_n (pc := 6) t39_6 rfl ?_
        by_cases w25 : 999 < b.toInt
        · refine zs_icmp_gtT (pc := 7) t39_7 rfl li999 (by omega) ?_
          refine zs_iconst (pc := 14) t39_14 (v := 0) (by decide) ?_
          refine zs_iret (pc := 15) t39_15 mr39 (by decide) ?_
          show zGo X l 4 0 0 206 21 [(0, .ref 6), (1, .int a), (2, .int b)] [.int (0 : Int32)] M _
          refine zs_if_neF (pc := 21) t206_21 li0 (by decide) ?_
          refine zs_iconst (pc := 24) t206_24 (v := -1) (by decide) ?_
          have w26 := ib164_0 hI
          have w27 : (zI M 164 0).toInt = (zI M 164 0).toInt := (congrArg Int32.toInt rfl).trans rfl
          have w28 := ib325_0 hI
          have w29 : (zI M 325 0).toInt = (zI M 325 0).toInt := (congrArg Int32.toInt rfl).trans rfl
          have w30 := lin1
          exact zs_iret (pc := 25) t206_25 mr206 (by decide) (hQ _ _ hs hI (zFr.refl) (by omega) (Or.inl ⟨by decide, by omega, x0, x1, x2⟩))
        · refine zs_icmp_gtF (pc := 7) t39_7 rfl li999 (by omega) ?_
          refine zs_iconst (pc := 10) t39_10 (v := 1) (by decide) ?_
          refine zs_goto (pc := 11) t39_11 ?_
          refine zs_iret (pc := 15) t39_15 mr39 (by decide) ?_
          show zGo X l 4 0 0 206 21 [(0, .ref 6), (1, .int a), (2, .int b)] [.int (1 : Int32)] M _
          refine zs_if_neT (pc := 21) t206_21 li1 (by decide) ?_
          refine zs_aload_n (pc := 26) t206_26 rfl ?_
          refine zs_get (pc := 27) t206_27 (by decide) (zk1 (hs.k fk_zMc_6)) (hs.p rfl fv_zMc_6_2) ?_
          refine zs_aload_n (pc := 30) t206_30 rfl ?_
          refine zs_get (pc := 31) t206_31 (by decide) (zk1 (hs.k fk_zMc_6)) (hs.p rfl fv_zMc_6_0) ?_
          refine zs_invV (pc := 34) (k := 31) (as' := [.ref 7]) (st := []) t206_34 mf58 rfl rfl (Or.inl ⟨by decide, (zk1 (hs.k fk_zMc_31))⟩) ⟨by decide, by decide, Nat.le_of_ble_eq_true rfl, Nat.le_of_ble_eq_true rfl⟩ (X58_31_7 hs hI x0 x1 ?_) (fun _ _ q => q)
          intro w31M w31s w31I w31F w31x0
          show zGo X l 4 0 0 206 37 [(0, .ref 6), (1, .int a), (2, .int b)] [] w31M _
          refine zs_aload_n (pc := 37) t206_37 rfl ?_
          refine zs_invV (pc := 38) (k := 6) (as' := []) (st := []) t206_38 mf59 rfl rfl (Or.inl ⟨by decide, (zk1 (w31s.k fk_zMc_6))⟩) ⟨by decide, by decide, Nat.le_of_ble_eq_true rfl, Nat.le_of_ble_eq_true rfl⟩ (zs_in (by decide) mf59 (Nat.le_of_ble_eq_true rfl) ?_) (fun _ _ q => q)
          show zGo X l 1 0 0 59 0 [(0, .ref 6)] [] w31M _
          refine zs_aload_n (pc := 0) t59_0 rfl ?_
          refine zs_get (pc := 1) t59_1 (by decide) (zk1 (w31s.k fk_zMc_6)) (w31s.p rfl fv_zMc_6_6) ?_
          refine zs_invV (pc := 4) (k := 164) (as' := []) (st := []) t59_4 mf60 rfl rfl (Or.inl ⟨by decide, (zk1 (w31s.k fk_zMc_164))⟩) ⟨by decide, by decide, Nat.le_of_ble_eq_true rfl, Nat.le_of_ble_eq_true rfl⟩ (zs_in (by decide) mf60 (Nat.le_of_ble_eq_true rfl) ?_) (fun _ _ q => q)
          show zGo X l 0 0 0 60 0 [(0, .ref 164)] [] w31M _
          refine zs_aload_n (pc := 0) t60_0 rfl ?_
          refine zs_iconst (pc := 1) t60_1 (v := 0) (by decide) ?_
          have w32 : zIv cLo cHi (zsI w31M 164 0 (0 : Int32)) := zIv.put w31I (show 0 ≤ (0 : Int32).toInt ∧ (0 : Int32).toInt ≤ 1 from ⟨by decide, by decide⟩)
          refine zs_putI (pc := 2) t60_2 (zk1 (w31s.k fk_zMc_164)) (by decide) ?_
          refine zs_vret (pc := 5) t60_5 mr60 ?_
          show zGo X l 1 0 0 59 7 [(0, .ref 6)] [] (zsI w31M 164 0 (0 : Int32)) _
          refine zs_aload_n (pc := 7) t59_7 rfl ?_
          refine zs_get (pc := 8) t59_8 (by decide) (zk1 (w31s.k fk_zMc_6)) (w31s.p rfl fv_zMc_6_7) ?_
          refine zs_invV (pc := 11) (k := 325) (as' := []) (st := []) t59_11 mf61 rfl rfl (Or.inl ⟨by decide, (zk1 (w31s.k fk_zMc_325))⟩) ⟨by decide, by decide, Nat.le_of_ble_eq_true rfl, Nat.le_of_ble_eq_true rfl⟩ (zs_in (by decide) mf61 (Nat.le_of_ble_eq_true rfl) ?_) (fun _ _ q => q)
          show zGo X l 0 0 0 61 0 [(0, .ref 325)] [] (zsI w31M 164 0 (0 : Int32)) _
          refine zs_aload_n (pc := 0) t61_0 rfl ?_
          refine zs_iconst (pc := 1) t61_1 (v := 0) (by decide) ?_
          have w33 : zIv cLo cHi (zsI (zsI w31M 164 0 (0 : Int32)) 325 0 (0 : Int32)) := zIv.put w32 (show 0 ≤ (0 : Int32).toInt ∧ (0 : Int32).toInt ≤ 1 from ⟨by decide, by decide⟩)
          refine zs_putI (pc := 2) t61_2 (zk1 (w31s.k fk_zMc_325)) (by decide) ?_
          refine zs_vret (pc := 5) t61_5 mr61 ?_
          show zGo X l 1 0 0 59 14 [(0, .ref 6)] [] (zsI (zsI w31M 164 0 (0 : Int32)) 325 0 (0 : Int32)) _
          refine zs_vret (pc := 14) t59_14 mr59 ?_
          show zGo X l 4 0 0 206 41 [(0, .ref 6), (1, .int a), (2, .int b)] [] (zsI (zsI w31M 164 0 (0 : Int32)) 325 0 (0 : Int32)) _
          refine zs_iconst (pc := 41) t206_41 (v := 0) (by decide) ?_
          refine zs_istore_n (pc := 42) t206_42 (ls' := [(3, .int (0 : Int32)), (0, .ref 6), (1, .int a), (2, .int b)]) (zml mf206 (by decide)) rfl ?_
          refine zs_iconst (pc := 43) t206_43 (v := 0) (by decide) ?_
          refine zs_istore (pc := 44) t206_44 (ls' := [(4, .int (0 : Int32)), (3, .int (0 : Int32)), (0, .ref 6), (1, .int a), (2, .int b)]) (zml mf206 (by decide)) rfl ?_
          have w34L : ∀ (m : Nat) (w34x3 : Int32) (w34x4 : Int32) (w34M : zM), (0 ≤ w34x3.toInt ∧ w34x3.toInt ≤ 60) → (0 ≤ w34x4.toInt ∧ w34x4.toInt ≤ 60) → zSk zMc w34M → zIv cLo cHi w34M → zFr [(11, 11, none)] (zsI (zsI w31M 164 0 (0 : Int32)) 325 0 (0 : Int32)) w34M → (w34x3.toInt ≤ w34x4.toInt) → ((zI w34M 7 3).toInt = (zI M 7 3).toInt) → (w34x4.toInt ≤ F 1) → (∀ k : Nat, (k : Int) = w34x4.toInt → w34x3.toInt = pct (zab F a.toInt b.toInt) k) → (∀ k : Nat, (k : Int) = w34x4.toInt → zSo w34M 7 (pAl F a.toInt b.toInt k)) → 60 - w34x4.toInt ≤ (m : Int) → zGo X l 4 0 0 206 46 [(0, .ref 6), (1, .int a), (2, .int b), (3, .int w34x3), (4, .int w34x4)] [] w34M Q := by
            intro m
            induction m using Nat.strongRecOn with
            | ind w34m w34ih =>
              intro w34x3 w34x4 w34M w34b3 w34b4 w34s w34I w34F w34r0 w34r1 w34r2 w34t0 w34t1 w34q
              obtain ⟨w35n, w35⟩ : ∃ n : Nat, w34x4.toInt = (n : Int) := ⟨(w34x4.toInt).toNat, by omega⟩
              refine zs_iload (pc := 46) t206_46 rfl ?_
              refine zs_aload_n (pc := 48) t206_48 rfl ?_
              refine zs_get (pc := 49) t206_49 (by decide) (zk1 (w34s.k fk_zMc_6)) (w34s.p rfl fv_zMc_6_0) ?_
              refine zs_get (pc := 52) t206_52 (by decide) (zk1 (w34s.k fk_zMc_7)) (zfvi rfl ((w34F 7 3 rfl).trans ((zIo (by decide)).trans ((zIo (by decide)).trans ((w31F 7 3 rfl).trans rfl))))) ?_
              by_cases w36 : (zI M 7 3).toInt ≤ w34x4.toInt
              · refine zs_icmp_geT (pc := 55) t206_55 rfl rfl (by omega) ?_
                refine zs_iload_n (pc := 113) t206_113 rfl ?_
                have w37 : (zI w34M 164 0).toInt = 0 := (congrArg Int32.toInt ((w34F 164 0 rfl).trans ((zIo (by decide)).trans zIs))).trans li0
                have w38 : (zI w34M 325 0).toInt = 0 := (congrArg Int32.toInt ((w34F 325 0 rfl).trans zIs)).trans li0
                exact zs_iret (pc := 114) t206_114 mr206 rfl (hQ _ _ w34s w34I (((((zFr.refl).trans (w31F.mono rfl)).put rfl).put rfl).trans (w34F.mono rfl)) (by omega) (Or.inr ⟨by omega, by omega, by omega, by omega, by have q := w34t0 (F 1).toNat (by omega); omega, (w34t1 (F 1).toNat (by omega)), (zHC.fr w31x0 (zEq.tr (zEq.tr (zEq.put rfl) (zEq.put rfl)) (zFr.eq w34F rfl))), (zKC.fr x2 (zEq.tr (zEq.tr (zEq.tr (zFr.eq w31F rfl) (zEq.put rfl)) (zEq.put rfl)) (zFr.eq w34F rfl)))⟩))
              · refine zs_icmp_geF (pc := 55) t206_55 rfl rfl (by omega) ?_
                refine zs_aload_n (pc := 58) t206_58 rfl ?_
                refine zs_get (pc := 59) t206_59 (by decide) (zk1 (w34s.k fk_zMc_6)) (w34s.p rfl fv_zMc_6_0) ?_
                refine zs_get (pc := 62) t206_62 (by decide) (zk1 (w34s.k fk_zMc_7)) (w34s.p rfl fv_zMc_7_4) ?_
                refine zs_iload (pc := 65) t206_65 rfl ?_
                have w39 := ib10 hI w35n
                have w40 : (zI M 10 w35n).toInt = F (30 + 4 * w35n) := (x0.2.2.1 w35n (by omega)).1
                have w41 : (zI w34M 11 w35n).toInt = F (31 + 4 * w35n) := by have q := (w34t1 w35n (by omega)).2.2.1 w35n (by rw [pAl.o _ _ (by omega)]; omega); rw [pAl.o _ (31 + 4 * w35n) (by omega)] at q; exact q.2.1
                have w42 := x3.2.2.1 w35n (by omega)
                refine zs_iald (pc := 67) t206_67 (j := w35n) (by decide) (zk1 (w34s.k fk_zMc_10)) (show w34x4.toInt = ((w35n : Nat) : Int) by omega) (zk2 (w34s.k fk_zMc_10) (by omega)) ((w34F 10 w35n rfl).trans ((zIo (by decide)).trans ((zIo (by decide)).trans ((w31F 10 w35n rfl).trans rfl)))) ?_
                refine zs_iload_n (pc := 68) t206_68 rfl ?_
                by_cases w43 : (zI M 10 w35n).toInt ≠ a.toInt
                · refine zs_icmp_neT (pc := 69) t206_69 rfl rfl (by omega) ?_
                  obtain ⟨w44v, w44e, w44⟩ := ziadd (a := w34x4) (b := Int32.ofInt 1) rfl (show (Int32.ofInt 1).toInt = 1 by decide) (by omega) (by omega)
                  refine zs_iinc (pc := 107) t206_107 (ls' := [(4, .int w44v), (0, .ref 6), (1, .int a), (2, .int b), (3, .int w34x3)]) (zml mf206 (by decide)) rfl (c := w44v) w44e rfl ?_
                  refine zs_goto (pc := 110) t206_110 ?_
                  refine zGo.locals (ls' := [(0, .ref 6), (1, .int a), (2, .int b), (3, .int w34x3), (4, .int w44v)]) (by simp) ?_
                  have w45 := w44
                  have w46 : (zI w34M 7 3).toInt = (zI M 7 3).toInt := (congrArg Int32.toInt ((w34F 7 3 rfl).trans ((zIo (by decide)).trans ((zIo (by decide)).trans ((w31F 7 3 rfl).trans rfl))))).trans rfl
                  exact w34ih (w34m - 1) (by omega) w34x3 w44v w34M ⟨by omega, by omega⟩ ⟨by omega, by omega⟩ w34s w34I ((zFr.refl).trans (w34F.mono rfl)) (by omega) (by omega) (by omega) (fun k hk => by obtain rfl : k = w35n + 1 := (by omega); first | exact pct.up (n := w35n) (fun k hk => w34t0 k (by omega)) (zab.y (by omega) (by omega) (by omega)) (by omega) rfl | exact pct.no (n := w35n) (fun k hk => w34t0 k (by omega)) (zab.n (by omega)) (by omega) rfl) (fun k hk => by obtain rfl : k = w35n + 1 := (by omega); rw [pAl.n (zab.n (by omega))]; exact (w34t1 w35n (by omega))) (by omega)
                · refine zs_icmp_neF (pc := 69) t206_69 rfl rfl (by omega) ?_
                  refine zs_aload_n (pc := 72) t206_72 rfl ?_
                  refine zs_get (pc := 73) t206_73 (by decide) (zk1 (w34s.k fk_zMc_6)) (w34s.p rfl fv_zMc_6_0) ?_
                  refine zs_get (pc := 76) t206_76 (by decide) (zk1 (w34s.k fk_zMc_7)) (w34s.p rfl fv_zMc_7_5) ?_
                  refine zs_iload (pc := 79) t206_79 rfl ?_
                  have w47 := zrg (zI w34M 11 w35n)
                  have w48 : (zI M 10 w35n).toInt = F (30 + 4 * w35n) := (x0.2.2.1 w35n (by omega)).1
                  have w49 : (zI w34M 11 w35n).toInt = F (31 + 4 * w35n) := by have q := (w34t1 w35n (by omega)).2.2.1 w35n (by rw [pAl.o _ _ (by omega)]; omega); rw [pAl.o _ (31 + 4 * w35n) (by omega)] at q; exact q.2.1
                  have w50 := x3.2.2.1 w35n (by omega)
                  refine zs_iald (pc := 81) t206_81 (j := w35n) (by decide) (zk1 (w34s.k fk_zMc_11)) (show w34x4.toInt = ((w35n : Nat) : Int) by omega) (zk2 (w34s.k fk_zMc_11) (by omega)) rfl ?_
                  refine zs_iload_n (pc := 82) t206_82 rfl ?_
                  obtain ⟨w51v, w51e, w51⟩ := ziadd (a := (zI w34M 11 w35n)) (b := b) rfl rfl (by omega) (by omega)
                  refine zs_iadd (pc := 83) t206_83 (c := w51v) w51e ?_
                  refine zs_invS (pc := 84) (as := [.int w51v]) (st := []) t206_84 (by decide) mf42 rfl rfl ⟨by decide, by decide, Nat.le_of_ble_eq_true rfl, Nat.le_of_ble_eq_true rfl⟩ (zs_in (by decide) mf42 (Nat.le_of_ble_eq_true rfl) ?_) (fun _ _ q => q)
                  show zGo X l 0 0 0 42 0 [(0, .int w51v)] [] w34M _
                  refine zs_iload_n (pc := 0) t42_0 rfl ?_
                  refine zs_sipush (pc := 1) t42_1 (v := -9999) (by decide) ?_
                  by_cases w52 : ((zI w34M 11 w35n).toInt + b.toInt) < (-9999)
                  · refine zs_icmp_ltT (pc := 4) t42_4 w51 lin9999 (by omega) ?_
                    refine zs_iconst (pc := 18) t42_18 (v := 0) (by decide) ?_
                    refine zs_iret (pc := 19) t42_19 mr42 (by decide) ?_
                    show zGo X l 4 0 0 206 87 [(0, .ref 6), (1, .int a), (2, .int b), (3, .int w34x3), (4, .int w34x4)] [.int (0 : Int32)] w34M _
                    refine zs_if_eqT (pc := 87) t206_87 li0 (by decide) ?_
                    obtain ⟨w53v, w53e, w53⟩ := ziadd (a := w34x4) (b := Int32.ofInt 1) rfl (show (Int32.ofInt 1).toInt = 1 by decide) (by omega) (by omega)
                    refine zs_iinc (pc := 107) t206_107 (ls' := [(4, .int w53v), (0, .ref 6), (1, .int a), (2, .int b), (3, .int w34x3)]) (zml mf206 (by decide)) rfl (c := w53v) w53e rfl ?_
                    refine zs_goto (pc := 110) t206_110 ?_
                    refine zGo.locals (ls' := [(0, .ref 6), (1, .int a), (2, .int b), (3, .int w34x3), (4, .int w53v)]) (by simp) ?_
                    have w54 := w53
                    have w55 : (zI w34M 7 3).toInt = (zI M 7 3).toInt := (congrArg Int32.toInt ((w34F 7 3 rfl).trans ((zIo (by decide)).trans ((zIo (by decide)).trans ((w31F 7 3 rfl).trans rfl))))).trans rfl
                    exact w34ih (w34m - 1) (by omega) w34x3 w53v w34M ⟨by omega, by omega⟩ ⟨by omega, by omega⟩ w34s w34I ((zFr.refl).trans (w34F.mono rfl)) (by omega) (by omega) (by omega) (fun k hk => by obtain rfl : k = w35n + 1 := (by omega); first | exact pct.up (n := w35n) (fun k hk => w34t0 k (by omega)) (zab.y (by omega) (by omega) (by omega)) (by omega) rfl | exact pct.no (n := w35n) (fun k hk => w34t0 k (by omega)) (zab.n (by omega)) (by omega) rfl) (fun k hk => by obtain rfl : k = w35n + 1 := (by omega); rw [pAl.n (zab.n (by omega))]; exact (w34t1 w35n (by omega))) (by omega)
                  · refine zs_icmp_ltF (pc := 4) t42_4 w51 lin9999 (by omega) ?_
                    refine zs_iload_n (pc := 7) t42_7 rfl ?_
                    refine zs_sipush (pc := 8) t42_8 (v := 9999) (by decide) ?_
                    by_cases w56 : 9999 < ((zI w34M 11 w35n).toInt + b.toInt)
                    · refine zs_icmp_gtT (pc := 11) t42_11 w51 li9999 (by omega) ?_
                      refine zs_iconst (pc := 18) t42_18 (v := 0) (by decide) ?_
                      refine zs_iret (pc := 19) t42_19 mr42 (by decide) ?_
                      show zGo X l 4 0 0 206 87 [(0, .ref 6), (1, .int a), (2, .int b), (3, .int w34x3), (4, .int w34x4)] [.int (0 : Int32)] w34M _
                      refine zs_if_eqT (pc := 87) t206_87 li0 (by decide) ?_
                      obtain ⟨w57v, w57e, w57⟩ := ziadd (a := w34x4) (b := Int32.ofInt 1) rfl (show (Int32.ofInt 1).toInt = 1 by decide) (by omega) (by omega)
                      refine zs_iinc (pc := 107) t206_107 (ls' := [(4, .int w57v), (0, .ref 6), (1, .int a), (2, .int b), (3, .int w34x3)]) (zml mf206 (by decide)) rfl (c := w57v) w57e rfl ?_
                      refine zs_goto (pc := 110) t206_110 ?_
                      refine zGo.locals (ls' := [(0, .ref 6), (1, .int a), (2, .int b), (3, .int w34x3), (4, .int w57v)]) (by simp) ?_
                      have w58 := w57
                      have w59 : (zI w34M 7 3).toInt = (zI M 7 3).toInt := (congrArg Int32.toInt ((w34F 7 3 rfl).trans ((zIo (by decide)).trans ((zIo (by decide)).trans ((w31F 7 3 rfl).trans rfl))))).trans rfl
                      exact w34ih (w34m - 1) (by omega) w34x3 w57v w34M ⟨by omega, by omega⟩ ⟨by omega, by omega⟩ w34s w34I ((zFr.refl).trans (w34F.mono rfl)) (by omega) (by omega) (by omega) (fun k hk => by obtain rfl : k = w35n + 1 := (by omega); first | exact pct.up (n := w35n) (fun k hk => w34t0 k (by omega)) (zab.y (by omega) (by omega) (by omega)) (by omega) rfl | exact pct.no (n := w35n) (fun k hk => w34t0 k (by omega)) (zab.n (by omega)) (by omega) rfl) (fun k hk => by obtain rfl : k = w35n + 1 := (by omega); rw [pAl.n (zab.n (by omega))]; exact (w34t1 w35n (by omega))) (by omega)
                    · refine zs_icmp_gtF (pc := 11) t42_11 w51 li9999 (by omega) ?_
                      refine zs_iconst (pc := 14) t42_14 (v := 1) (by decide) ?_
                      refine zs_goto (pc := 15) t42_15 ?_
                      refine zs_iret (pc := 19) t42_19 mr42 (by decide) ?_
                      show zGo X l 4 0 0 206 87 [(0, .ref 6), (1, .int a), (2, .int b), (3, .int w34x3), (4, .int w34x4)] [.int (1 : Int32)] w34M _
                      refine zs_if_eqF (pc := 87) t206_87 li1 (by decide) ?_
                      refine zs_aload_n (pc := 90) t206_90 rfl ?_
                      refine zs_get (pc := 91) t206_91 (by decide) (zk1 (w34s.k fk_zMc_6)) (w34s.p rfl fv_zMc_6_0) ?_
                      refine zs_get (pc := 94) t206_94 (by decide) (zk1 (w34s.k fk_zMc_7)) (w34s.p rfl fv_zMc_7_5) ?_
                      refine zs_iload (pc := 97) t206_97 rfl ?_
                      refine zs_dup2 (pc := 99) t206_99 ⟨rfl, rfl⟩ ?_
                      have w60 : (zI M 10 w35n).toInt = F (30 + 4 * w35n) := (x0.2.2.1 w35n (by omega)).1
                      have w61 : (zI w34M 11 w35n).toInt = F (31 + 4 * w35n) := by have q := (w34t1 w35n (by omega)).2.2.1 w35n (by rw [pAl.o _ _ (by omega)]; omega); rw [pAl.o _ (31 + 4 * w35n) (by omega)] at q; exact q.2.1
                      have w62 := x3.2.2.1 w35n (by omega)
                      refine zs_iald (pc := 100) t206_100 (j := w35n) (by decide) (zk1 (w34s.k fk_zMc_11)) (show w34x4.toInt = ((w35n : Nat) : Int) by omega) (zk2 (w34s.k fk_zMc_11) (by omega)) rfl ?_
                      refine zs_iload_n (pc := 101) t206_101 rfl ?_
                      obtain ⟨w63v, w63e, w63⟩ := ziadd (a := (zI w34M 11 w35n)) (b := b) rfl rfl (by omega) (by omega)
                      refine zs_iadd (pc := 102) t206_102 (c := w63v) w63e ?_
                      have w64 : zIv cLo cHi (zsI w34M 11 w35n w63v) := zIv.put w34I (show (-2147483648) ≤ w63v.toInt ∧ w63v.toInt ≤ 2147483647 from zrg w63v)
                      have w66 : w63v.toInt = ((zI w34M 11 w35n).toInt + b.toInt) := w63
                      have w65 : zSo (zsI w34M 11 w35n w63v) 7 (pAl F a.toInt b.toInt (w35n + 1)) := by
                        rw [pAl.y (zab.y (by omega) (by omega) (by omega))]
                        exact zSo.hl (o := 1) (w34t1 w35n (by omega)) (by decide) rfl (by omega) (by rw [pAl.o _ _ (by omega)]; omega) (by rw [pAl.o _ _ (by omega)]; omega) (by omega)
                      refine zs_iast (pc := 103) t206_103 (j := w35n) (by decide) (zk1 (w34s.k fk_zMc_11)) (show w34x4.toInt = ((w35n : Nat) : Int) by omega) (zk2 (w34s.k fk_zMc_11) (by omega)) ?_
                      obtain ⟨w67v, w67e, w67⟩ := ziadd (a := w34x3) (b := Int32.ofInt 1) rfl (show (Int32.ofInt 1).toInt = 1 by decide) (by omega) (by omega)
                      refine zs_iinc (pc := 104) t206_104 (ls' := [(3, .int w67v), (0, .ref 6), (1, .int a), (2, .int b), (4, .int w34x4)]) (zml mf206 (by decide)) rfl (c := w67v) w67e rfl ?_
                      obtain ⟨w68v, w68e, w68⟩ := ziadd (a := w34x4) (b := Int32.ofInt 1) rfl (show (Int32.ofInt 1).toInt = 1 by decide) (by omega) (by omega)
                      refine zs_iinc (pc := 107) t206_107 (ls' := [(4, .int w68v), (3, .int w67v), (0, .ref 6), (1, .int a), (2, .int b)]) (zml mf206 (by decide)) rfl (c := w68v) w68e rfl ?_
                      refine zs_goto (pc := 110) t206_110 ?_
                      refine zGo.locals (ls' := [(0, .ref 6), (1, .int a), (2, .int b), (3, .int w67v), (4, .int w68v)]) (by simp) ?_
                      have w69 := w67
                      have w70 := w68
                      have w71 : (zI (zsI w34M 11 w35n w63v) 7 3).toInt = (zI M 7 3).toInt := (congrArg Int32.toInt ((zIo (by decide)).trans ((w34F 7 3 rfl).trans ((zIo (by decide)).trans ((zIo (by decide)).trans ((w31F 7 3 rfl).trans rfl)))))).trans rfl
                      exact w34ih (w34m - 1) (by omega) w67v w68v (zsI w34M 11 w35n w63v) ⟨by omega, by omega⟩ ⟨by omega, by omega⟩ w34s w64 (((zFr.refl).trans (w34F.mono rfl)).put rfl) (by omega) (by omega) (by omega) (fun k hk => by obtain rfl : k = w35n + 1 := (by omega); first | exact pct.up (n := w35n) (fun k hk => w34t0 k (by omega)) (zab.y (by omega) (by omega) (by omega)) (by omega) rfl | exact pct.no (n := w35n) (fun k hk => w34t0 k (by omega)) (zab.n (by omega)) (by omega) rfl) (fun k hk => by obtain rfl : k = w35n + 1 := (by omega); exact w65) (by omega)
          refine zGo.locals (ls' := [(0, .ref 6), (1, .int a), (2, .int b), (3, .int (0 : Int32)), (4, .int (0 : Int32))]) (by simp) ?_
          have w72 := li0
          have w73 := li0
          have w74 : (zI (zsI (zsI w31M 164 0 (0 : Int32)) 325 0 (0 : Int32)) 7 3).toInt = (zI M 7 3).toInt := (congrArg Int32.toInt ((zIo (by decide)).trans ((zIo (by decide)).trans ((w31F 7 3 rfl).trans rfl)))).trans rfl
          exact w34L ((60 - 0 : Int).toNat) (0 : Int32) (0 : Int32) (zsI (zsI w31M 164 0 (0 : Int32)) 325 0 (0 : Int32)) ⟨by decide, by decide⟩ ⟨by decide, by decide⟩ w31s w33 zFr.refl (by omega) (by omega) (by omega) (fun k hk => by obtain rfl : k = 0 := (by omega); rfl) (fun k hk => by obtain rfl : k = 0 := (by omega); exact (zSo.fr x0 (zEq.tr (zEq.tr (zFr.eq w31F rfl) (zEq.put rfl)) (zEq.put rfl)))) (by omega)
