theorem P31 {X : zX} {l : Launch} {M : zM} {Q : Option Value → zM → Prop} (hs : zSk zMc M) (hI : zIv cLo cHi M) (hQ : Q (some (.int (zpt M))) M) : zCall X l 0 0 0 31 [.ref 155] M Q := by
  refine zs_in (by decide) mf31 (Nat.le_of_ble_eq_true rfl) ?_
  show zGo X l 0 0 0 31 0 [(0, .ref 155)] [] M _
  refine zs_aload_n (pc := 0) t31_0 rfl ?_
  have w1 := zrg (zI M 155 2)
  refine zs_get (pc := 1) t31_1 (by decide) (zk1 (hs.k fk_zMc_155)) (zfvi rfl rfl) ?_
  by_cases w2 : (zI M 155 2).toInt < 0
  · refine zs_if_ltT (pc := 4) t31_4 rfl (by omega) ?_
    refine zs_iconst (pc := 34) t31_34 (v := -1) (by decide) ?_
    exact zs_iret (pc := 35) t31_35 mr31 (by decide) (by unfold zpt at hQ; rw [if_neg (by omega)] at hQ; exact hQ)
  · refine zs_if_ltF (pc := 4) t31_4 rfl (by omega) ?_
    refine zs_aload_n (pc := 7) t31_7 rfl ?_
    refine zs_get (pc := 8) t31_8 (by decide) (zk1 (hs.k fk_zMc_155)) (zfvi rfl rfl) ?_
    refine zs_aload_n (pc := 11) t31_11 rfl ?_
    have w3 := ib155_1 hI
    refine zs_get (pc := 12) t31_12 (by decide) (zk1 (hs.k fk_zMc_155)) (zfvi rfl rfl) ?_
    by_cases w4 : (zI M 155 1).toInt ≤ (zI M 155 2).toInt
    · refine zs_icmp_geT (pc := 15) t31_15 rfl rfl (by omega) ?_
      refine zs_iconst (pc := 34) t31_34 (v := -1) (by decide) ?_
      exact zs_iret (pc := 35) t31_35 mr31 (by decide) (by unfold zpt at hQ; rw [if_neg (by omega)] at hQ; exact hQ)
    · refine zs_icmp_geF (pc := 15) t31_15 rfl rfl (by omega) ?_
      refine zs_aload_n (pc := 18) t31_18 rfl ?_
      refine zs_get (pc := 19) t31_19 (by decide) (zk1 (hs.k fk_zMc_155)) (hs.p rfl fv_zMc_155_0) ?_
      refine zs_aload_n (pc := 22) t31_22 rfl ?_
      refine zs_get (pc := 23) t31_23 (by decide) (zk1 (hs.k fk_zMc_155)) (zfvi rfl rfl) ?_
      obtain ⟨w5n, w5⟩ : ∃ n : Nat, (zI M 155 2).toInt = (n : Int) := ⟨((zI M 155 2).toInt).toNat, by omega⟩
      have w6 := ib156 hI w5n
      refine zs_bald (pc := 26) t31_26 (j := w5n) (Or.inl (zk1 (hs.k fk_zMc_156))) (show (zI M 155 2).toInt = ((w5n : Nat) : Int) by omega) (zk2 (hs.k fk_zMc_156) (by omega)) rfl ?_
      refine zs_sipush (pc := 27) t31_27 (v := 255) (by decide) ?_
      obtain ⟨w7v, w7⟩ : ∃ v, (zI M 156 w5n) &&& (255 : Int32) = v := ⟨_, rfl⟩
      have w7g : 0 ≤ w7v.toInt ∧ w7v.toInt ≤ 255 := by rw [← w7]; exact zand li255 (by decide)
      refine zs_iand (pc := 30) t31_30 (c := w7v) w7 ?_
      refine zs_goto (pc := 31) t31_31 ?_
      exact zs_iret (pc := 35) t31_35 mr31 rfl (by unfold zpt at hQ; rw [if_pos (by omega), show (zI M 155 2).toInt.toNat = w5n by omega] at hQ; subst_vars; exact hQ)
theorem X35_155 {X : zX} {l : Launch} {M : zM} {Q : Option Value → zM → Prop} (hs : zSk zMc M) (hI : zIv cLo cHi M) {g : Nat → Int} {nn : Int} (u0 : 0 ≤ (zI M 155 2).toInt) (u1 : (zI M 155 2).toInt ≤ (zI M 155 1).toInt) (x0 : zTa M g nn) (hQ : ∀ (M' : zM) (v : Int32), zSk zMc M' → zIv cLo cHi M' → zFr [(155, 155, some 2), (155, 155, some 3), (155, 155, some 4), (155, 155, some 5)] M M' → (∀ p : Nat, (zI M 155 2).toInt = (p : Int) → (v.toInt = 0 ∧ pN g p = none) ∨ (v.toInt = 1 ∧ ∃ (e : Nat) (x : Int), pN g p = some (e, x) ∧ (zI M' 155 2).toInt = (e : Int) ∧ (zI M' 155 4).toInt = x ∧ p < e ∧ (e : Int) ≤ nn ∧ -9999 ≤ x ∧ x ≤ 9999)) → 0 ≤ v.toInt → v.toInt ≤ 1 → Q (some (.int v)) M') : zCall X l 2 0 0 35 [.ref 155] M Q := by
  refine zs_in (by decide) mf35 (Nat.le_of_ble_eq_true rfl) ?_
  show zGo X l 2 0 0 35 0 [(0, .ref 155)] [] M _
  have hn := x0.2
  have w1 := ib155_1 hI
  have w2 : (zI M 155 1).toInt = (zI M 155 1).toInt := (congrArg Int32.toInt rfl).trans rfl
  have w3 := zrg (zI M 155 2)
  have w4 : (zI M 155 2).toInt = (zI M 155 2).toInt := (congrArg Int32.toInt rfl).trans rfl
  obtain ⟨w5n, w5⟩ : ∃ n : Nat, (zI M 155 2).toInt = (n : Int) := ⟨((zI M 155 2).toInt).toNat, by omega⟩
  refine zs_aload_n (pc := 0) t35_0 rfl ?_
  refine zs_aload_n (pc := 1) t35_1 rfl ?_
  refine zs_get (pc := 2) t35_2 (by decide) (zk1 (hs.k fk_zMc_155)) (zfvi rfl rfl) ?_
  have w6 : zIv cLo cHi (zsI M 155 5 (zI M 155 2)) := zIv.put hI (show (-2147483648) ≤ (zI M 155 2).toInt ∧ (zI M 155 2).toInt ≤ 2147483647 from zrg (zI M 155 2))
  refine zs_putI (pc := 5) t35_5 (zk1 (hs.k fk_zMc_155)) rfl ?_
  refine zs_aload_n (pc := 8) t35_8 rfl ?_
  refine zs_invV (pc := 9) (k := 155) (as' := []) (st := []) t35_9 mf31 rfl rfl (Or.inl ⟨by decide, (zk1 (hs.k fk_zMc_155))⟩) ⟨by decide, by decide, Nat.le_of_ble_eq_true rfl, Nat.le_of_ble_eq_true rfl⟩ (P31 hs w6 ?_) (fun _ _ q => q)
  have w8 : (zI (zsI M 155 5 (zI M 155 2)) 155 2).toInt = (zI M 155 2).toInt := (congrArg Int32.toInt ((zIoj (by decide)).trans rfl)).trans rfl
  have w9 : (zI (zsI M 155 5 (zI M 155 2)) 155 1).toInt = (zI M 155 1).toInt := (congrArg Int32.toInt ((zIoj (by decide)).trans rfl)).trans rfl
  have w7 : (zpt (zsI M 155 5 (zI M 155 2))).toInt = g w5n := zpt.tr (zTa.fr x0 (zEq.put rfl)) (by omega)
  have w10 := zTa.rg (M := (zsI M 155 5 (zI M 155 2))) (zTa.fr x0 (zEq.put rfl)) w5n
  show zGo X l 2 0 0 35 12 [(0, .ref 155)] [.int (zpt (zsI M 155 5 (zI M 155 2)))] (zsI M 155 5 (zI M 155 2)) _
  refine zs_bipush (pc := 12) t35_12 (v := 45) (by decide) ?_
  by_cases w11 : (g w5n) ≠ 45
  · refine zs_icmp_neT (pc := 14) t35_14 w7 li45 (by omega) ?_
    refine zs_iconst (pc := 21) t35_21 (v := 0) (by decide) ?_
    refine zs_istore_n (pc := 22) t35_22 (ls' := [(1, .int (0 : Int32)), (0, .ref 155)]) (zml mf35 (by decide)) rfl ?_
    refine zs_iload_n (pc := 23) t35_23 rfl ?_
    refine zs_if_eqT (pc := 24) t35_24 li0 (by decide) ?_
    refine zs_iconst (pc := 37) t35_37 (v := 0) (by decide) ?_
    refine zs_istore_n (pc := 38) t35_38 (ls' := [(2, .int (0 : Int32)), (1, .int (0 : Int32)), (0, .ref 155)]) (zml mf35 (by decide)) rfl ?_
    refine zs_iconst (pc := 39) t35_39 (v := 0) (by decide) ?_
    refine zs_istore_n (pc := 40) t35_40 (ls' := [(3, .int (0 : Int32)), (2, .int (0 : Int32)), (1, .int (0 : Int32)), (0, .ref 155)]) (zml mf35 (by decide)) rfl ?_
    have w12 : (zI (zsI M 155 5 (zI M 155 2)) 155 2).toInt = (zI M 155 2).toInt := (congrArg Int32.toInt ((zIoj (by decide)).trans rfl)).trans rfl
    have w13L : ∀ (m : Nat) (w13x2 : Int32) (w13x3 : Int32) (w13M : zM), (0 ≤ w13x2.toInt ∧ w13x2.toInt ≤ 9999) → (0 ≤ w13x3.toInt ∧ w13x3.toInt ≤ 4) → zSk zMc w13M → zIv cLo cHi w13M → zFr [(155, 155, some 2)] (zsI M 155 5 (zI M 155 2)) w13M → ((zI w13M 155 2).toInt = ((w5n : Nat) : Int) + w13x3.toInt) → ((zI w13M 155 1).toInt = (zI M 155 1).toInt) → ((zI w13M 155 2).toInt ≤ (zI w13M 155 1).toInt) → ((w13x3.toInt = 0 ∧ w13x2.toInt = 0) ∨ (w13x3.toInt = 1 ∧ w13x2.toInt ≤ 9) ∨ (w13x3.toInt = 2 ∧ w13x2.toInt ≤ 99) ∨ (w13x3.toInt = 3 ∧ w13x2.toInt ≤ 999) ∨ w13x3.toInt = 4) → (∀ d : Nat, (d : Int) = w13x3.toInt → w13x2.toInt = pVal g w5n d) → (∀ d k : Nat, (d : Int) = w13x3.toInt → (k : Int) = 4 - (d : Int) → pDg g 4 w5n = pDg g k (w5n + d)) → 4 - w13x3.toInt ≤ (m : Int) → zGo X l 2 0 0 35 41 [(0, .ref 155), (1, .int (0 : Int32)), (2, .int w13x2), (3, .int w13x3)] [] w13M Q := by
      intro m
      induction m using Nat.strongRecOn with
      | ind w13m w13ih =>
        intro w13x2 w13x3 w13M w13b2 w13b3 w13s w13I w13F w13r0 w13r1 w13r2 w13r3 w13t0 w13t1 w13q
        have w14 := zrg (zI w13M 155 2)
        refine zs_iload_n (pc := 41) t35_41 rfl ?_
        refine zs_iconst (pc := 42) t35_42 (v := 4) (by decide) ?_
        by_cases w15 : 4 ≤ w13x3.toInt
        · refine zs_icmp_geT (pc := 43) t35_43 rfl li4 (by omega) ?_
          refine zs_iload_n (pc := 75) t35_75 rfl ?_
          refine zs_if_eqF (pc := 76) t35_76 rfl (by omega) ?_
          refine zs_aload_n (pc := 79) t35_79 rfl ?_
          refine zs_invV (pc := 80) (k := 155) (as' := []) (st := []) t35_80 mf31 rfl rfl (Or.inl ⟨by decide, (zk1 (w13s.k fk_zMc_155))⟩) ⟨by decide, by decide, Nat.le_of_ble_eq_true rfl, Nat.le_of_ble_eq_true rfl⟩ (P31 w13s w13I ?_) (fun _ _ q => q)
          have w17 : (zI w13M 155 2).toInt = (zI w13M 155 2).toInt := (congrArg Int32.toInt rfl).trans rfl
          obtain ⟨w18n, w18⟩ : ∃ n : Nat, (zI w13M 155 2).toInt = (n : Int) := ⟨((zI w13M 155 2).toInt).toNat, by omega⟩
          have w19 : (zI w13M 155 1).toInt = (zI M 155 1).toInt := (congrArg Int32.toInt ((w13F 155 1 rfl).trans ((zIoj (by decide)).trans rfl))).trans rfl
          have w16 : (zpt w13M).toInt = g w18n := zpt.tr (zTa.fr x0 (zEq.tr (zEq.put rfl) (zFr.eq w13F rfl))) (by omega)
          have w20 := zTa.rg (M := w13M) (zTa.fr x0 (zEq.tr (zEq.put rfl) (zFr.eq w13F rfl))) w18n
          show zGo X l 2 0 0 35 83 [(0, .ref 155), (1, .int (0 : Int32)), (2, .int w13x2), (3, .int w13x3)] [.int (zpt w13M)] w13M _
          refine zs_invS (pc := 83) (as := [.int (zpt w13M)]) (st := []) t35_83 (by decide) mf36 rfl rfl ⟨by decide, by decide, Nat.le_of_ble_eq_true rfl, Nat.le_of_ble_eq_true rfl⟩ (zs_in (by decide) mf36 (Nat.le_of_ble_eq_true rfl) ?_) (fun _ _ q => q)
          show zGo X l 0 0 0 36 0 [(0, .int (zpt w13M))] [] w13M _
          refine zs_iload_n (pc := 0) t36_0 rfl ?_
          refine zs_bipush (pc := 1) t36_1 (v := 48) (by decide) ?_
          by_cases w21 : (g w18n) < 48
          · refine zs_icmp_ltT (pc := 3) t36_3 w16 li48 (by omega) ?_
            refine zs_iconst (pc := 16) t36_16 (v := 0) (by decide) ?_
            refine zs_iret (pc := 17) t36_17 mr36 (by decide) ?_
            show zGo X l 2 0 0 35 86 [(0, .ref 155), (1, .int (0 : Int32)), (2, .int w13x2), (3, .int w13x3)] [.int (0 : Int32)] w13M _
            refine zs_if_eqT (pc := 86) t35_86 li0 (by decide) ?_
            refine zs_aload_n (pc := 98) t35_98 rfl ?_
            refine zs_iload_n (pc := 99) t35_99 rfl ?_
            refine zs_if_eqT (pc := 100) t35_100 li0 (by decide) ?_
            refine zs_iload_n (pc := 108) t35_108 rfl ?_
            have w22 : zIv cLo cHi (zsI w13M 155 4 w13x2) := zIv.put w13I (show (-300000) ≤ w13x2.toInt ∧ w13x2.toInt ≤ 300000 from ⟨by omega, by omega⟩)
            refine zs_putI (pc := 109) t35_109 (zk1 (w13s.k fk_zMc_155)) rfl ?_
            refine zs_iconst (pc := 112) t35_112 (v := 1) (by decide) ?_
            obtain ⟨w23n, w23⟩ : ∃ n : Nat, w13x3.toInt = (n : Int) := ⟨(w13x3.toInt).toNat, by omega⟩
            have w24 : (zI (zsI w13M 155 4 w13x2) 155 2).toInt = (zI w13M 155 2).toInt := (congrArg Int32.toInt ((zIoj (by decide)).trans rfl)).trans rfl
            have w25 : (zI (zsI w13M 155 4 w13x2) 155 4).toInt = w13x2.toInt := (congrArg Int32.toInt zIs).trans rfl
            have w26 : pDg g 4 w5n = w18n := by
              by_cases q : w23n = 4
              · exact (w13t1 w23n 0 (by omega) (by omega)).trans (by show w5n + w23n = w18n; omega)
              · have z := w13t1 w23n (4 - w23n) (by omega) (by omega)
                rw [show w5n + w23n = w18n by omega] at z
                exact z.trans (pDg.zz (by omega))
            have w27 : pNq g w5n = w5n := by first | exact (pNq.m (by omega)).trans (by omega) | exact (pNq.o (by omega)).trans (by omega)
            exact zs_iret (pc := 113) t35_113 mr35 (by decide) (hQ _ _ w13s w22 ((((zFr.refl).put rfl).trans (w13F.mono rfl)).put rfl) (fun p hp => by obtain rfl : w5n = p := (by omega); exact Or.inr ⟨by decide, w18n, _, pN.y w27 w26 (by omega) (by omega) (k := w23n) (by omega) (w13t0 w23n (by omega)).symm (by omega), by omega, rfl, by omega, by omega, by omega, by omega⟩) (by decide) (by decide))
          · refine zs_icmp_ltF (pc := 3) t36_3 w16 li48 (by omega) ?_
            refine zs_iload_n (pc := 6) t36_6 rfl ?_
            refine zs_bipush (pc := 7) t36_7 (v := 57) (by decide) ?_
            by_cases w28 : 57 < (g w18n)
            · refine zs_icmp_gtT (pc := 9) t36_9 w16 li57 (by omega) ?_
              refine zs_iconst (pc := 16) t36_16 (v := 0) (by decide) ?_
              refine zs_iret (pc := 17) t36_17 mr36 (by decide) ?_
              show zGo X l 2 0 0 35 86 [(0, .ref 155), (1, .int (0 : Int32)), (2, .int w13x2), (3, .int w13x3)] [.int (0 : Int32)] w13M _
              refine zs_if_eqT (pc := 86) t35_86 li0 (by decide) ?_
              refine zs_aload_n (pc := 98) t35_98 rfl ?_
              refine zs_iload_n (pc := 99) t35_99 rfl ?_
              refine zs_if_eqT (pc := 100) t35_100 li0 (by decide) ?_
              refine zs_iload_n (pc := 108) t35_108 rfl ?_
              have w29 : zIv cLo cHi (zsI w13M 155 4 w13x2) := zIv.put w13I (show (-300000) ≤ w13x2.toInt ∧ w13x2.toInt ≤ 300000 from ⟨by omega, by omega⟩)
              refine zs_putI (pc := 109) t35_109 (zk1 (w13s.k fk_zMc_155)) rfl ?_
              refine zs_iconst (pc := 112) t35_112 (v := 1) (by decide) ?_
              obtain ⟨w30n, w30⟩ : ∃ n : Nat, w13x3.toInt = (n : Int) := ⟨(w13x3.toInt).toNat, by omega⟩
              have w31 : (zI (zsI w13M 155 4 w13x2) 155 2).toInt = (zI w13M 155 2).toInt := (congrArg Int32.toInt ((zIoj (by decide)).trans rfl)).trans rfl
              have w32 : (zI (zsI w13M 155 4 w13x2) 155 4).toInt = w13x2.toInt := (congrArg Int32.toInt zIs).trans rfl
              have w33 : pDg g 4 w5n = w18n := by
                by_cases q : w30n = 4
                · exact (w13t1 w30n 0 (by omega) (by omega)).trans (by show w5n + w30n = w18n; omega)
                · have z := w13t1 w30n (4 - w30n) (by omega) (by omega)
                  rw [show w5n + w30n = w18n by omega] at z
                  exact z.trans (pDg.zz (by omega))
              have w34 : pNq g w5n = w5n := by first | exact (pNq.m (by omega)).trans (by omega) | exact (pNq.o (by omega)).trans (by omega)
              exact zs_iret (pc := 113) t35_113 mr35 (by decide) (hQ _ _ w13s w29 ((((zFr.refl).put rfl).trans (w13F.mono rfl)).put rfl) (fun p hp => by obtain rfl : w5n = p := (by omega); exact Or.inr ⟨by decide, w18n, _, pN.y w34 w33 (by omega) (by omega) (k := w30n) (by omega) (w13t0 w30n (by omega)).symm (by omega), by omega, rfl, by omega, by omega, by omega, by omega⟩) (by decide) (by decide))
            · refine zs_icmp_gtF (pc := 9) t36_9 w16 li57 (by omega) ?_
              refine zs_iconst (pc := 12) t36_12 (v := 1) (by decide) ?_
              refine zs_goto (pc := 13) t36_13 ?_
              refine zs_iret (pc := 17) t36_17 mr36 (by decide) ?_
              show zGo X l 2 0 0 35 86 [(0, .ref 155), (1, .int (0 : Int32)), (2, .int w13x2), (3, .int w13x3)] [.int (1 : Int32)] w13M _
              refine zs_if_eqF (pc := 86) t35_86 li1 (by decide) ?_
              refine zs_aload_n (pc := 89) t35_89 rfl ?_
              refine zs_aload_n (pc := 90) t35_90 rfl ?_
              refine zs_get (pc := 91) t35_91 (by decide) (zk1 (w13s.k fk_zMc_155)) (zfvi rfl rfl) ?_
              refine zs_invV (pc := 94) (k := 155) (as' := [.int (zI w13M 155 2)]) (st := []) t35_94 mf34 rfl rfl (Or.inl ⟨by decide, (zk1 (w13s.k fk_zMc_155))⟩) ⟨by decide, by decide, Nat.le_of_ble_eq_true rfl, Nat.le_of_ble_eq_true rfl⟩ (zs_in (by decide) mf34 (Nat.le_of_ble_eq_true rfl) ?_) (fun _ _ q => q)
              show zGo X l 0 0 0 34 0 [(0, .ref 155), (1, .int (zI w13M 155 2))] [] w13M _
              refine zs_aload_n (pc := 0) t34_0 rfl ?_
              refine zs_iload_n (pc := 1) t34_1 rfl ?_
              have w35 : zIv cLo cHi (zsI w13M 155 3 (zI w13M 155 2)) := zIv.put w13I (show (-2147483648) ≤ (zI w13M 155 2).toInt ∧ (zI w13M 155 2).toInt ≤ 2147483647 from zrg (zI w13M 155 2))
              refine zs_putI (pc := 2) t34_2 (zk1 (w13s.k fk_zMc_155)) rfl ?_
              refine zs_iconst (pc := 5) t34_5 (v := 0) (by decide) ?_
              refine zs_iret (pc := 6) t34_6 mr34 (by decide) ?_
              show zGo X l 2 0 0 35 97 [(0, .ref 155), (1, .int (0 : Int32)), (2, .int w13x2), (3, .int w13x3)] [.int (0 : Int32)] (zsI w13M 155 3 (zI w13M 155 2)) _
              obtain ⟨w36n, w36⟩ : ∃ n : Nat, w13x3.toInt = (n : Int) := ⟨(w13x3.toInt).toNat, by omega⟩
              have w37 : (zI (zsI w13M 155 3 (zI w13M 155 2)) 155 2).toInt = (zI w13M 155 2).toInt := (congrArg Int32.toInt ((zIoj (by decide)).trans rfl)).trans rfl
              have w38 := ib155_4 hI
              have w39 : (zI (zsI w13M 155 3 (zI w13M 155 2)) 155 4).toInt = (zI M 155 4).toInt := (congrArg Int32.toInt ((zIoj (by decide)).trans ((w13F 155 4 rfl).trans ((zIoj (by decide)).trans rfl)))).trans rfl
              have w40 : pDg g 4 w5n = w18n := by
                by_cases q : w36n = 4
                · exact (w13t1 w36n 0 (by omega) (by omega)).trans (by show w5n + w36n = w18n; omega)
                · have z := w13t1 w36n (4 - w36n) (by omega) (by omega)
                  rw [show w5n + w36n = w18n by omega] at z
                  exact z.trans (pDg.zz (by omega))
              have w41 : pNq g w5n = w5n := by first | exact (pNq.m (by omega)).trans (by omega) | exact (pNq.o (by omega)).trans (by omega)
              exact zs_iret (pc := 97) t35_97 mr35 (by decide) (hQ _ _ w13s w35 ((((zFr.refl).put rfl).trans (w13F.mono rfl)).put rfl) (fun p hp => by obtain rfl : w5n = p := (by omega); exact Or.inl ⟨by decide, pN.n w41 w40 (by omega)⟩) (by decide) (by decide))
        · refine zs_icmp_geF (pc := 43) t35_43 rfl li4 (by omega) ?_
          refine zs_aload_n (pc := 46) t35_46 rfl ?_
          refine zs_invV (pc := 47) (k := 155) (as' := []) (st := []) t35_47 mf31 rfl rfl (Or.inl ⟨by decide, (zk1 (w13s.k fk_zMc_155))⟩) ⟨by decide, by decide, Nat.le_of_ble_eq_true rfl, Nat.le_of_ble_eq_true rfl⟩ (P31 w13s w13I ?_) (fun _ _ q => q)
          have w43 : (zI w13M 155 2).toInt = (zI w13M 155 2).toInt := (congrArg Int32.toInt rfl).trans rfl
          obtain ⟨w44n, w44⟩ : ∃ n : Nat, (zI w13M 155 2).toInt = (n : Int) := ⟨((zI w13M 155 2).toInt).toNat, by omega⟩
          have w45 : (zI w13M 155 1).toInt = (zI M 155 1).toInt := (congrArg Int32.toInt ((w13F 155 1 rfl).trans ((zIoj (by decide)).trans rfl))).trans rfl
          have w42 : (zpt w13M).toInt = g w44n := zpt.tr (zTa.fr x0 (zEq.tr (zEq.put rfl) (zFr.eq w13F rfl))) (by omega)
          have w46 := zTa.rg (M := w13M) (zTa.fr x0 (zEq.tr (zEq.put rfl) (zFr.eq w13F rfl))) w44n
          show zGo X l 2 0 0 35 50 [(0, .ref 155), (1, .int (0 : Int32)), (2, .int w13x2), (3, .int w13x3)] [.int (zpt w13M)] w13M _
          refine zs_invS (pc := 50) (as := [.int (zpt w13M)]) (st := []) t35_50 (by decide) mf36 rfl rfl ⟨by decide, by decide, Nat.le_of_ble_eq_true rfl, Nat.le_of_ble_eq_true rfl⟩ (zs_in (by decide) mf36 (Nat.le_of_ble_eq_true rfl) ?_) (fun _ _ q => q)
          show zGo X l 0 0 0 36 0 [(0, .int (zpt w13M))] [] w13M _
          refine zs_iload_n (pc := 0) t36_0 rfl ?_
          refine zs_bipush (pc := 1) t36_1 (v := 48) (by decide) ?_
          by_cases w47 : (g w44n) < 48
          · refine zs_icmp_ltT (pc := 3) t36_3 w42 li48 (by omega) ?_
            refine zs_iconst (pc := 16) t36_16 (v := 0) (by decide) ?_
            refine zs_iret (pc := 17) t36_17 mr36 (by decide) ?_
            show zGo X l 2 0 0 35 53 [(0, .ref 155), (1, .int (0 : Int32)), (2, .int w13x2), (3, .int w13x3)] [.int (0 : Int32)] w13M _
            refine zs_if_eqT (pc := 53) t35_53 li0 (by decide) ?_
            refine zs_iload_n (pc := 75) t35_75 rfl ?_
            by_cases w48 : w13x3.toInt = 0
            · refine zs_if_eqT (pc := 76) t35_76 rfl (by omega) ?_
              refine zs_aload_n (pc := 89) t35_89 rfl ?_
              refine zs_aload_n (pc := 90) t35_90 rfl ?_
              refine zs_get (pc := 91) t35_91 (by decide) (zk1 (w13s.k fk_zMc_155)) (zfvi rfl rfl) ?_
              refine zs_invV (pc := 94) (k := 155) (as' := [.int (zI w13M 155 2)]) (st := []) t35_94 mf34 rfl rfl (Or.inl ⟨by decide, (zk1 (w13s.k fk_zMc_155))⟩) ⟨by decide, by decide, Nat.le_of_ble_eq_true rfl, Nat.le_of_ble_eq_true rfl⟩ (zs_in (by decide) mf34 (Nat.le_of_ble_eq_true rfl) ?_) (fun _ _ q => q)
              show zGo X l 0 0 0 34 0 [(0, .ref 155), (1, .int (zI w13M 155 2))] [] w13M _
              refine zs_aload_n (pc := 0) t34_0 rfl ?_
              refine zs_iload_n (pc := 1) t34_1 rfl ?_
              have w49 : zIv cLo cHi (zsI w13M 155 3 (zI w13M 155 2)) := zIv.put w13I (show (-2147483648) ≤ (zI w13M 155 2).toInt ∧ (zI w13M 155 2).toInt ≤ 2147483647 from zrg (zI w13M 155 2))
              refine zs_putI (pc := 2) t34_2 (zk1 (w13s.k fk_zMc_155)) rfl ?_
              refine zs_iconst (pc := 5) t34_5 (v := 0) (by decide) ?_
              refine zs_iret (pc := 6) t34_6 mr34 (by decide) ?_
              show zGo X l 2 0 0 35 97 [(0, .ref 155), (1, .int (0 : Int32)), (2, .int w13x2), (3, .int w13x3)] [.int (0 : Int32)] (zsI w13M 155 3 (zI w13M 155 2)) _
              obtain ⟨w50n, w50⟩ : ∃ n : Nat, w13x3.toInt = (n : Int) := ⟨(w13x3.toInt).toNat, by omega⟩
              have w51 : (zI (zsI w13M 155 3 (zI w13M 155 2)) 155 2).toInt = (zI w13M 155 2).toInt := (congrArg Int32.toInt ((zIoj (by decide)).trans rfl)).trans rfl
              have w52 : (zI (zsI w13M 155 3 (zI w13M 155 2)) 155 4).toInt = (zI M 155 4).toInt := (congrArg Int32.toInt ((zIoj (by decide)).trans ((w13F 155 4 rfl).trans ((zIoj (by decide)).trans rfl)))).trans rfl
              have w53 : pDg g 4 w5n = w44n := by
                by_cases q : w50n = 4
                · exact (w13t1 w50n 0 (by omega) (by omega)).trans (by show w5n + w50n = w44n; omega)
                · have z := w13t1 w50n (4 - w50n) (by omega) (by omega)
                  rw [show w5n + w50n = w44n by omega] at z
                  exact z.trans (pDg.zz (by omega))
              have w54 : pNq g w5n = w5n := by first | exact (pNq.m (by omega)).trans (by omega) | exact (pNq.o (by omega)).trans (by omega)
              exact zs_iret (pc := 97) t35_97 mr35 (by decide) (hQ _ _ w13s w49 ((((zFr.refl).put rfl).trans (w13F.mono rfl)).put rfl) (fun p hp => by obtain rfl : w5n = p := (by omega); exact Or.inl ⟨by decide, pN.n w54 w53 (by omega)⟩) (by decide) (by decide))
            · refine zs_if_eqF (pc := 76) t35_76 rfl (by omega) ?_
              refine zs_aload_n (pc := 79) t35_79 rfl ?_
              refine zs_invV (pc := 80) (k := 155) (as' := []) (st := []) t35_80 mf31 rfl rfl (Or.inl ⟨by decide, (zk1 (w13s.k fk_zMc_155))⟩) ⟨by decide, by decide, Nat.le_of_ble_eq_true rfl, Nat.le_of_ble_eq_true rfl⟩ (P31 w13s w13I ?_) (fun _ _ q => q)
              have w56 : (zI w13M 155 2).toInt = (zI w13M 155 2).toInt := (congrArg Int32.toInt rfl).trans rfl
              have w57 : (zI w13M 155 1).toInt = (zI M 155 1).toInt := (congrArg Int32.toInt ((w13F 155 1 rfl).trans ((zIoj (by decide)).trans rfl))).trans rfl
              have w55 : (zpt w13M).toInt = g w44n := zpt.tr (zTa.fr x0 (zEq.tr (zEq.put rfl) (zFr.eq w13F rfl))) (by omega)
              have w58 := zTa.rg (M := w13M) (zTa.fr x0 (zEq.tr (zEq.put rfl) (zFr.eq w13F rfl))) w44n
              show zGo X l 2 0 0 35 83 [(0, .ref 155), (1, .int (0 : Int32)), (2, .int w13x2), (3, .int w13x3)] [.int (zpt w13M)] w13M _
              refine zs_invS (pc := 83) (as := [.int (zpt w13M)]) (st := []) t35_83 (by decide) mf36 rfl rfl ⟨by decide, by decide, Nat.le_of_ble_eq_true rfl, Nat.le_of_ble_eq_true rfl⟩ (zs_in (by decide) mf36 (Nat.le_of_ble_eq_true rfl) ?_) (fun _ _ q => q)
              show zGo X l 0 0 0 36 0 [(0, .int (zpt w13M))] [] w13M _
              refine zs_iload_n (pc := 0) t36_0 rfl ?_
              refine zs_bipush (pc := 1) t36_1 (v := 48) (by decide) ?_
              refine zs_icmp_ltT (pc := 3) t36_3 w55 li48 (by omega) ?_
              refine zs_iconst (pc := 16) t36_16 (v := 0) (by decide) ?_
              refine zs_iret (pc := 17) t36_17 mr36 (by decide) ?_
              show zGo X l 2 0 0 35 86 [(0, .ref 155), (1, .int (0 : Int32)), (2, .int w13x2), (3, .int w13x3)] [.int (0 : Int32)] w13M _
              refine zs_if_eqT (pc := 86) t35_86 li0 (by decide) ?_
              refine zs_aload_n (pc := 98) t35_98 rfl ?_
              refine zs_iload_n (pc := 99) t35_99 rfl ?_
              refine zs_if_eqT (pc := 100) t35_100 li0 (by decide) ?_
              refine zs_iload_n (pc := 108) t35_108 rfl ?_
              have w59 : zIv cLo cHi (zsI w13M 155 4 w13x2) := zIv.put w13I (show (-300000) ≤ w13x2.toInt ∧ w13x2.toInt ≤ 300000 from ⟨by omega, by omega⟩)
              refine zs_putI (pc := 109) t35_109 (zk1 (w13s.k fk_zMc_155)) rfl ?_
              refine zs_iconst (pc := 112) t35_112 (v := 1) (by decide) ?_
              obtain ⟨w60n, w60⟩ : ∃ n : Nat, w13x3.toInt = (n : Int) := ⟨(w13x3.toInt).toNat, by omega⟩
              have w61 : (zI (zsI w13M 155 4 w13x2) 155 2).toInt = (zI w13M 155 2).toInt := (congrArg Int32.toInt ((zIoj (by decide)).trans rfl)).trans rfl
              have w62 : (zI (zsI w13M 155 4 w13x2) 155 4).toInt = w13x2.toInt := (congrArg Int32.toInt zIs).trans rfl
              have w63 : pDg g 4 w5n = w44n := by
                by_cases q : w60n = 4
                · exact (w13t1 w60n 0 (by omega) (by omega)).trans (by show w5n + w60n = w44n; omega)
                · have z := w13t1 w60n (4 - w60n) (by omega) (by omega)
                  rw [show w5n + w60n = w44n by omega] at z
                  exact z.trans (pDg.zz (by omega))
              have w64 : pNq g w5n = w5n := by first | exact (pNq.m (by omega)).trans (by omega) | exact (pNq.o (by omega)).trans (by omega)
              exact zs_iret (pc := 113) t35_113 mr35 (by decide) (hQ _ _ w13s w59 ((((zFr.refl).put rfl).trans (w13F.mono rfl)).put rfl) (fun p hp => by obtain rfl : w5n = p := (by omega); exact Or.inr ⟨by decide, w44n, _, pN.y w64 w63 (by omega) (by omega) (k := w60n) (by omega) (w13t0 w60n (by omega)).symm (by omega), by omega, rfl, by omega, by omega, by omega, by omega⟩) (by decide) (by decide))
          · refine zs_icmp_ltF (pc := 3) t36_3 w42 li48 (by omega) ?_
            refine zs_iload_n (pc := 6) t36_6 rfl ?_
            refine zs_bipush (pc := 7) t36_7 (v := 57) (by decide) ?_
            by_cases w65 : 57 < (g w44n)
            · refine zs_icmp_gtT (pc := 9) t36_9 w42 li57 (by omega) ?_
              refine zs_iconst (pc := 16) t36_16 (v := 0) (by decide) ?_
              refine zs_iret (pc := 17) t36_17 mr36 (by decide) ?_
              show zGo X l 2 0 0 35 53 [(0, .ref 155), (1, .int (0 : Int32)), (2, .int w13x2), (3, .int w13x3)] [.int (0 : Int32)] w13M _
              refine zs_if_eqT (pc := 53) t35_53 li0 (by decide) ?_
              refine zs_iload_n (pc := 75) t35_75 rfl ?_
              by_cases w66 : w13x3.toInt = 0
              · refine zs_if_eqT (pc := 76) t35_76 rfl (by omega) ?_
                refine zs_aload_n (pc := 89) t35_89 rfl ?_
                refine zs_aload_n (pc := 90) t35_90 rfl ?_
                refine zs_get (pc := 91) t35_91 (by decide) (zk1 (w13s.k fk_zMc_155)) (zfvi rfl rfl) ?_
                refine zs_invV (pc := 94) (k := 155) (as' := [.int (zI w13M 155 2)]) (st := []) t35_94 mf34 rfl rfl (Or.inl ⟨by decide, (zk1 (w13s.k fk_zMc_155))⟩) ⟨by decide, by decide, Nat.le_of_ble_eq_true rfl, Nat.le_of_ble_eq_true rfl⟩ (zs_in (by decide) mf34 (Nat.le_of_ble_eq_true rfl) ?_) (fun _ _ q => q)
                show zGo X l 0 0 0 34 0 [(0, .ref 155), (1, .int (zI w13M 155 2))] [] w13M _
                refine zs_aload_n (pc := 0) t34_0 rfl ?_
                refine zs_iload_n (pc := 1) t34_1 rfl ?_
                have w67 : zIv cLo cHi (zsI w13M 155 3 (zI w13M 155 2)) := zIv.put w13I (show (-2147483648) ≤ (zI w13M 155 2).toInt ∧ (zI w13M 155 2).toInt ≤ 2147483647 from zrg (zI w13M 155 2))
                refine zs_putI (pc := 2) t34_2 (zk1 (w13s.k fk_zMc_155)) rfl ?_
                refine zs_iconst (pc := 5) t34_5 (v := 0) (by decide) ?_
                refine zs_iret (pc := 6) t34_6 mr34 (by decide) ?_
                show zGo X l 2 0 0 35 97 [(0, .ref 155), (1, .int (0 : Int32)), (2, .int w13x2), (3, .int w13x3)] [.int (0 : Int32)] (zsI w13M 155 3 (zI w13M 155 2)) _
                obtain ⟨w68n, w68⟩ : ∃ n : Nat, w13x3.toInt = (n : Int) := ⟨(w13x3.toInt).toNat, by omega⟩
                have w69 : (zI (zsI w13M 155 3 (zI w13M 155 2)) 155 2).toInt = (zI w13M 155 2).toInt := (congrArg Int32.toInt ((zIoj (by decide)).trans rfl)).trans rfl
                have w70 : (zI (zsI w13M 155 3 (zI w13M 155 2)) 155 4).toInt = (zI M 155 4).toInt := (congrArg Int32.toInt ((zIoj (by decide)).trans ((w13F 155 4 rfl).trans ((zIoj (by decide)).trans rfl)))).trans rfl
                have w71 : pDg g 4 w5n = w44n := by
                  by_cases q : w68n = 4
                  · exact (w13t1 w68n 0 (by omega) (by omega)).trans (by show w5n + w68n = w44n; omega)
                  · have z := w13t1 w68n (4 - w68n) (by omega) (by omega)
                    rw [show w5n + w68n = w44n by omega] at z
                    exact z.trans (pDg.zz (by omega))
                have w72 : pNq g w5n = w5n := by first | exact (pNq.m (by omega)).trans (by omega) | exact (pNq.o (by omega)).trans (by omega)
                exact zs_iret (pc := 97) t35_97 mr35 (by decide) (hQ _ _ w13s w67 ((((zFr.refl).put rfl).trans (w13F.mono rfl)).put rfl) (fun p hp => by obtain rfl : w5n = p := (by omega); exact Or.inl ⟨by decide, pN.n w72 w71 (by omega)⟩) (by decide) (by decide))
              · refine zs_if_eqF (pc := 76) t35_76 rfl (by omega) ?_
                refine zs_aload_n (pc := 79) t35_79 rfl ?_
                refine zs_invV (pc := 80) (k := 155) (as' := []) (st := []) t35_80 mf31 rfl rfl (Or.inl ⟨by decide, (zk1 (w13s.k fk_zMc_155))⟩) ⟨by decide, by decide, Nat.le_of_ble_eq_true rfl, Nat.le_of_ble_eq_true rfl⟩ (P31 w13s w13I ?_) (fun _ _ q => q)
                have w74 : (zI w13M 155 2).toInt = (zI w13M 155 2).toInt := (congrArg Int32.toInt rfl).trans rfl
                have w75 : (zI w13M 155 1).toInt = (zI M 155 1).toInt := (congrArg Int32.toInt ((w13F 155 1 rfl).trans ((zIoj (by decide)).trans rfl))).trans rfl
                have w73 : (zpt w13M).toInt = g w44n := zpt.tr (zTa.fr x0 (zEq.tr (zEq.put rfl) (zFr.eq w13F rfl))) (by omega)
                have w76 := zTa.rg (M := w13M) (zTa.fr x0 (zEq.tr (zEq.put rfl) (zFr.eq w13F rfl))) w44n
                show zGo X l 2 0 0 35 83 [(0, .ref 155), (1, .int (0 : Int32)), (2, .int w13x2), (3, .int w13x3)] [.int (zpt w13M)] w13M _
                refine zs_invS (pc := 83) (as := [.int (zpt w13M)]) (st := []) t35_83 (by decide) mf36 rfl rfl ⟨by decide, by decide, Nat.le_of_ble_eq_true rfl, Nat.le_of_ble_eq_true rfl⟩ (zs_in (by decide) mf36 (Nat.le_of_ble_eq_true rfl) ?_) (fun _ _ q => q)
                show zGo X l 0 0 0 36 0 [(0, .int (zpt w13M))] [] w13M _
                refine zs_iload_n (pc := 0) t36_0 rfl ?_
                refine zs_bipush (pc := 1) t36_1 (v := 48) (by decide) ?_
                refine zs_icmp_ltF (pc := 3) t36_3 w73 li48 (by omega) ?_
                refine zs_iload_n (pc := 6) t36_6 rfl ?_
                refine zs_bipush (pc := 7) t36_7 (v := 57) (by decide) ?_
                refine zs_icmp_gtT (pc := 9) t36_9 w73 li57 (by omega) ?_
                refine zs_iconst (pc := 16) t36_16 (v := 0) (by decide) ?_
                refine zs_iret (pc := 17) t36_17 mr36 (by decide) ?_
                show zGo X l 2 0 0 35 86 [(0, .ref 155), (1, .int (0 : Int32)), (2, .int w13x2), (3, .int w13x3)] [.int (0 : Int32)] w13M _
                refine zs_if_eqT (pc := 86) t35_86 li0 (by decide) ?_
                refine zs_aload_n (pc := 98) t35_98 rfl ?_
                refine zs_iload_n (pc := 99) t35_99 rfl ?_
                refine zs_if_eqT (pc := 100) t35_100 li0 (by decide) ?_
                refine zs_iload_n (pc := 108) t35_108 rfl ?_
                have w77 : zIv cLo cHi (zsI w13M 155 4 w13x2) := zIv.put w13I (show (-300000) ≤ w13x2.toInt ∧ w13x2.toInt ≤ 300000 from ⟨by omega, by omega⟩)
                refine zs_putI (pc := 109) t35_109 (zk1 (w13s.k fk_zMc_155)) rfl ?_
                refine zs_iconst (pc := 112) t35_112 (v := 1) (by decide) ?_
                obtain ⟨w78n, w78⟩ : ∃ n : Nat, w13x3.toInt = (n : Int) := ⟨(w13x3.toInt).toNat, by omega⟩
                have w79 : (zI (zsI w13M 155 4 w13x2) 155 2).toInt = (zI w13M 155 2).toInt := (congrArg Int32.toInt ((zIoj (by decide)).trans rfl)).trans rfl
                have w80 : (zI (zsI w13M 155 4 w13x2) 155 4).toInt = w13x2.toInt := (congrArg Int32.toInt zIs).trans rfl
                have w81 : pDg g 4 w5n = w44n := by
                  by_cases q : w78n = 4
                  · exact (w13t1 w78n 0 (by omega) (by omega)).trans (by show w5n + w78n = w44n; omega)
                  · have z := w13t1 w78n (4 - w78n) (by omega) (by omega)
                    rw [show w5n + w78n = w44n by omega] at z
                    exact z.trans (pDg.zz (by omega))
                have w82 : pNq g w5n = w5n := by first | exact (pNq.m (by omega)).trans (by omega) | exact (pNq.o (by omega)).trans (by omega)
                exact zs_iret (pc := 113) t35_113 mr35 (by decide) (hQ _ _ w13s w77 ((((zFr.refl).put rfl).trans (w13F.mono rfl)).put rfl) (fun p hp => by obtain rfl : w5n = p := (by omega); exact Or.inr ⟨by decide, w44n, _, pN.y w82 w81 (by omega) (by omega) (k := w78n) (by omega) (w13t0 w78n (by omega)).symm (by omega), by omega, rfl, by omega, by omega, by omega, by omega⟩) (by decide) (by decide))
            · refine zs_icmp_gtF (pc := 9) t36_9 w42 li57 (by omega) ?_
              refine zs_iconst (pc := 12) t36_12 (v := 1) (by decide) ?_
              refine zs_goto (pc := 13) t36_13 ?_
              refine zs_iret (pc := 17) t36_17 mr36 (by decide) ?_
              show zGo X l 2 0 0 35 53 [(0, .ref 155), (1, .int (0 : Int32)), (2, .int w13x2), (3, .int w13x3)] [.int (1 : Int32)] w13M _
              refine zs_if_eqF (pc := 53) t35_53 li1 (by decide) ?_
              refine zs_iload_n (pc := 56) t35_56 rfl ?_
              refine zs_bipush (pc := 57) t35_57 (v := 10) (by decide) ?_
              obtain ⟨w83v, w83⟩ : ∃ v, w13x2 * (10 : Int32) = v := ⟨_, rfl⟩
              have w83g : w83v.toInt = w13x2.toInt * 10 := by rw [← w83]; exact zmulc rfl li10 (by omega) (by omega)
              refine zs_imul (pc := 59) t35_59 (c := w83v) w83 ?_
              refine zs_aload_n (pc := 60) t35_60 rfl ?_
              refine zs_invV (pc := 61) (k := 155) (as' := []) (st := [.int w83v]) t35_61 mf30 rfl rfl (Or.inl ⟨by decide, (zk1 (w13s.k fk_zMc_155))⟩) ⟨by decide, by decide, Nat.le_of_ble_eq_true rfl, Nat.le_of_ble_eq_true rfl⟩ (zs_in (by decide) mf30 (Nat.le_of_ble_eq_true rfl) ?_) (fun _ _ q => q)
              show zGo X l 1 0 0 30 0 [(0, .ref 155)] [] w13M _
              refine zs_aload_n (pc := 0) t30_0 rfl ?_
              refine zs_invV (pc := 1) (k := 155) (as' := []) (st := []) t30_1 mf31 rfl rfl (Or.inl ⟨by decide, (zk1 (w13s.k fk_zMc_155))⟩) ⟨by decide, by decide, Nat.le_of_ble_eq_true rfl, Nat.le_of_ble_eq_true rfl⟩ (P31 w13s w13I ?_) (fun _ _ q => q)
              have w85 : (zI w13M 155 2).toInt = (zI w13M 155 2).toInt := (congrArg Int32.toInt rfl).trans rfl
              have w86 : (zI w13M 155 1).toInt = (zI M 155 1).toInt := (congrArg Int32.toInt ((w13F 155 1 rfl).trans ((zIoj (by decide)).trans rfl))).trans rfl
              have w84 : (zpt w13M).toInt = g w44n := zpt.tr (zTa.fr x0 (zEq.tr (zEq.put rfl) (zFr.eq w13F rfl))) (by omega)
              have w87 := zTa.rg (M := w13M) (zTa.fr x0 (zEq.tr (zEq.put rfl) (zFr.eq w13F rfl))) w44n
              show zGo X l 1 0 0 30 4 [(0, .ref 155)] [.int (zpt w13M)] w13M _
              refine zs_istore_n (pc := 4) t30_4 (ls' := [(1, .int (zpt w13M)), (0, .ref 155)]) (zml mf30 (by decide)) rfl ?_
              refine zs_iload_n (pc := 5) t30_5 rfl ?_
              refine zs_iconst (pc := 6) t30_6 (v := -1) (by decide) ?_
              refine zs_icmp_eqF (pc := 7) t30_7 w84 lin1 (by omega) ?_
              refine zs_aload_n (pc := 10) t30_10 rfl ?_
              refine zs_dup (pc := 11) t30_11 rfl ?_
              refine zs_get (pc := 12) t30_12 (by decide) (zk1 (w13s.k fk_zMc_155)) (zfvi rfl rfl) ?_
              refine zs_iconst (pc := 15) t30_15 (v := 1) (by decide) ?_
              obtain ⟨w88v, w88e, w88⟩ := ziadd (a := (zI w13M 155 2)) (b := (1 : Int32)) rfl li1 (by omega) (by omega)
              refine zs_iadd (pc := 16) t30_16 (c := w88v) w88e ?_
              have w89 : zIv cLo cHi (zsI w13M 155 2 w88v) := zIv.put w13I (show (-2147483648) ≤ w88v.toInt ∧ w88v.toInt ≤ 2147483647 from zrg w88v)
              refine zs_putI (pc := 17) t30_17 (zk1 (w13s.k fk_zMc_155)) rfl ?_
              refine zs_iload_n (pc := 20) t30_20 rfl ?_
              refine zs_iret (pc := 21) t30_21 mr30 rfl ?_
              show zGo X l 2 0 0 35 64 [(0, .ref 155), (1, .int (0 : Int32)), (2, .int w13x2), (3, .int w13x3)] [.int (zpt w13M), .int w83v] (zsI w13M 155 2 w88v) _
              obtain ⟨w90v, w90e, w90⟩ := ziadd (a := w83v) (b := (zpt w13M)) w83g w84 (by omega) (by omega)
              refine zs_iadd (pc := 64) t35_64 (c := w90v) w90e ?_
              refine zs_bipush (pc := 65) t35_65 (v := 48) (by decide) ?_
              obtain ⟨w91v, w91e, w91⟩ := zisub (a := w90v) (b := (48 : Int32)) w90 li48 (by omega) (by omega)
              refine zs_isub (pc := 67) t35_67 (c := w91v) w91e ?_
              refine zs_istore_n (pc := 68) t35_68 (ls' := [(2, .int w91v), (0, .ref 155), (1, .int (0 : Int32)), (3, .int w13x3)]) (zml mf35 (by decide)) rfl ?_
              obtain ⟨w92v, w92e, w92⟩ := ziadd (a := w13x3) (b := Int32.ofInt 1) rfl (show (Int32.ofInt 1).toInt = 1 by decide) (by omega) (by omega)
              refine zs_iinc (pc := 69) t35_69 (ls' := [(3, .int w92v), (2, .int w91v), (0, .ref 155), (1, .int (0 : Int32))]) (zml mf35 (by decide)) rfl (c := w92v) w92e rfl ?_
              refine zs_goto (pc := 72) t35_72 ?_
              refine zGo.locals (ls' := [(0, .ref 155), (1, .int (0 : Int32)), (2, .int w91v), (3, .int w92v)]) (by simp) ?_
              have w93 := w91
              have w94 := w92
              have w95 : (zI (zsI w13M 155 2 w88v) 155 2).toInt = ((zI w13M 155 2).toInt + 1) := (congrArg Int32.toInt zIs).trans w88
              have w96 : (zI (zsI w13M 155 2 w88v) 155 1).toInt = (zI M 155 1).toInt := (congrArg Int32.toInt ((zIoj (by decide)).trans ((w13F 155 1 rfl).trans ((zIoj (by decide)).trans rfl)))).trans rfl
              have w97 : (zI (zsI w13M 155 2 w88v) 155 2).toInt = ((zI w13M 155 2).toInt + 1) := (congrArg Int32.toInt zIs).trans w88
              have w98 : (zI (zsI w13M 155 2 w88v) 155 1).toInt = (zI M 155 1).toInt := (congrArg Int32.toInt ((zIoj (by decide)).trans ((w13F 155 1 rfl).trans ((zIoj (by decide)).trans rfl)))).trans rfl
              obtain ⟨w99n, w99⟩ : ∃ n : Nat, w13x3.toInt = (n : Int) := ⟨(w13x3.toInt).toNat, by omega⟩
              have w100 : w91v.toInt = (((w13x2.toInt * 10) + (g w44n)) - 48) := w91
              exact w13ih (w13m - 1) (by omega) w91v w92v (zsI w13M 155 2 w88v) ⟨by omega, by omega⟩ ⟨by omega, by omega⟩ w13s w89 (((zFr.refl).trans (w13F.mono rfl)).put rfl) (by omega) (by omega) (by omega) (by omega) (fun d hd => by obtain rfl : d = w99n + 1 := (by omega); show _ = 10 * pVal g w5n w99n + (g (w5n + w99n) - 48); rw [show w5n + w99n = w44n by omega]; have z := w13t0 w99n (by omega); omega) (fun d k hd hk => by obtain rfl : d = w99n + 1 := (by omega); have z := w13t1 w99n (k + 1) (by omega) (by omega); rw [show w5n + w99n = w44n by omega] at z; rw [z, pDg.y (by omega)]; exact congrArg (pDg g k) (by omega)) (by omega)
    refine zGo.locals (ls' := [(0, .ref 155), (1, .int (0 : Int32)), (2, .int (0 : Int32)), (3, .int (0 : Int32))]) (by simp) ?_
    have w101 := li0
    have w102 := li0
    have w103 : (zI (zsI M 155 5 (zI M 155 2)) 155 2).toInt = (zI M 155 2).toInt := (congrArg Int32.toInt ((zIoj (by decide)).trans rfl)).trans rfl
    have w104 : (zI (zsI M 155 5 (zI M 155 2)) 155 1).toInt = (zI M 155 1).toInt := (congrArg Int32.toInt ((zIoj (by decide)).trans rfl)).trans rfl
    have w105 : (zI (zsI M 155 5 (zI M 155 2)) 155 2).toInt = (zI M 155 2).toInt := (congrArg Int32.toInt ((zIoj (by decide)).trans rfl)).trans rfl
    have w106 : (zI (zsI M 155 5 (zI M 155 2)) 155 1).toInt = (zI M 155 1).toInt := (congrArg Int32.toInt ((zIoj (by decide)).trans rfl)).trans rfl
    exact w13L ((4 - 0 : Int).toNat) (0 : Int32) (0 : Int32) (zsI M 155 5 (zI M 155 2)) ⟨by decide, by decide⟩ ⟨by decide, by decide⟩ hs w6 zFr.refl (by omega) (by omega) (by omega) (by omega) (fun d hd => by obtain rfl : d = 0 := (by omega); rfl) (fun d k hd hk => by obtain rfl : d = 0 := (by omega); obtain rfl : k = 4 := (by omega); rfl) (by omega)
  · refine zs_icmp_neF (pc := 14) t35_14 w7 li45 (by omega) ?_
    refine zs_iconst (pc := 17) t35_17 (v := 1) (by decide) ?_
    refine zs_goto (pc := 18) t35_18 ?_
    refine zs_istore_n (pc := 22) t35_22 (ls' := [(1, .int (1 : Int32)), (0, .ref 155)]) (zml mf35 (by decide)) rfl ?_
    refine zs_iload_n (pc := 23) t35_23 rfl ?_
    refine zs_if_eqF (pc := 24) t35_24 li1 (by decide) ?_
    refine zs_aload_n (pc := 27) t35_27 rfl ?_
    refine zs_dup (pc := 28) t35_28 rfl ?_
    refine zs_get (pc := 29) t35_29 (by decide) (zk1 (hs.k fk_zMc_155)) (zfvi rfl ((zIoj (by decide)).trans rfl)) ?_
    refine zs_iconst (pc := 32) t35_32 (v := 1) (by decide) ?_
    obtain ⟨w107v, w107e, w107⟩ := ziadd (a := (zI M 155 2)) (b := (1 : Int32)) rfl li1 (by omega) (by omega)
    refine zs_iadd (pc := 33) t35_33 (c := w107v) w107e ?_
    have w108 : zIv cLo cHi (zsI (zsI M 155 5 (zI M 155 2)) 155 2 w107v) := zIv.put w6 (show (-2147483648) ≤ w107v.toInt ∧ w107v.toInt ≤ 2147483647 from zrg w107v)
    refine zs_putI (pc := 34) t35_34 (zk1 (hs.k fk_zMc_155)) rfl ?_
    refine zs_iconst (pc := 37) t35_37 (v := 0) (by decide) ?_
    refine zs_istore_n (pc := 38) t35_38 (ls' := [(2, .int (0 : Int32)), (1, .int (1 : Int32)), (0, .ref 155)]) (zml mf35 (by decide)) rfl ?_
    refine zs_iconst (pc := 39) t35_39 (v := 0) (by decide) ?_
    refine zs_istore_n (pc := 40) t35_40 (ls' := [(3, .int (0 : Int32)), (2, .int (0 : Int32)), (1, .int (1 : Int32)), (0, .ref 155)]) (zml mf35 (by decide)) rfl ?_
    have w109 : (zI (zsI (zsI M 155 5 (zI M 155 2)) 155 2 w107v) 155 2).toInt = ((zI M 155 2).toInt + 1) := (congrArg Int32.toInt zIs).trans w107
    have w110L : ∀ (m : Nat) (w110x2 : Int32) (w110x3 : Int32) (w110M : zM), (0 ≤ w110x2.toInt ∧ w110x2.toInt ≤ 9999) → (0 ≤ w110x3.toInt ∧ w110x3.toInt ≤ 4) → zSk zMc w110M → zIv cLo cHi w110M → zFr [(155, 155, some 2)] (zsI (zsI M 155 5 (zI M 155 2)) 155 2 w107v) w110M → ((zI w110M 155 2).toInt = (((w5n + 1) : Nat) : Int) + w110x3.toInt) → ((zI w110M 155 1).toInt = (zI M 155 1).toInt) → ((zI w110M 155 2).toInt ≤ (zI w110M 155 1).toInt) → ((w110x3.toInt = 0 ∧ w110x2.toInt = 0) ∨ (w110x3.toInt = 1 ∧ w110x2.toInt ≤ 9) ∨ (w110x3.toInt = 2 ∧ w110x2.toInt ≤ 99) ∨ (w110x3.toInt = 3 ∧ w110x2.toInt ≤ 999) ∨ w110x3.toInt = 4) → (∀ d : Nat, (d : Int) = w110x3.toInt → w110x2.toInt = pVal g (w5n + 1) d) → (∀ d k : Nat, (d : Int) = w110x3.toInt → (k : Int) = 4 - (d : Int) → pDg g 4 (w5n + 1) = pDg g k ((w5n + 1) + d)) → 4 - w110x3.toInt ≤ (m : Int) → zGo X l 2 0 0 35 41 [(0, .ref 155), (1, .int (1 : Int32)), (2, .int w110x2), (3, .int w110x3)] [] w110M Q := by
      intro m
      induction m using Nat.strongRecOn with
      | ind w110m w110ih =>
        intro w110x2 w110x3 w110M w110b2 w110b3 w110s w110I w110F w110r0 w110r1 w110r2 w110r3 w110t0 w110t1 w110q
        have w111 := zrg (zI w110M 155 2)
        refine zs_iload_n (pc := 41) t35_41 rfl ?_
        refine zs_iconst (pc := 42) t35_42 (v := 4) (by decide) ?_
        by_cases w112 : 4 ≤ w110x3.toInt
        · refine zs_icmp_geT (pc := 43) t35_43 rfl li4 (by omega) ?_
          refine zs_iload_n (pc := 75) t35_75 rfl ?_
          refine zs_if_eqF (pc := 76) t35_76 rfl (by omega) ?_
          refine zs_aload_n (pc := 79) t35_79 rfl ?_
          refine zs_invV (pc := 80) (k := 155) (as' := []) (st := []) t35_80 mf31 rfl rfl (Or.inl ⟨by decide, (zk1 (w110s.k fk_zMc_155))⟩) ⟨by decide, by decide, Nat.le_of_ble_eq_true rfl, Nat.le_of_ble_eq_true rfl⟩ (P31 w110s w110I ?_) (fun _ _ q => q)
          have w114 : (zI w110M 155 2).toInt = (zI w110M 155 2).toInt := (congrArg Int32.toInt rfl).trans rfl
          obtain ⟨w115n, w115⟩ : ∃ n : Nat, (zI w110M 155 2).toInt = (n : Int) := ⟨((zI w110M 155 2).toInt).toNat, by omega⟩
          have w116 : (zI w110M 155 1).toInt = (zI M 155 1).toInt := (congrArg Int32.toInt ((w110F 155 1 rfl).trans ((zIoj (by decide)).trans ((zIoj (by decide)).trans rfl)))).trans rfl
          have w113 : (zpt w110M).toInt = g w115n := zpt.tr (zTa.fr x0 (zEq.tr (zEq.tr (zEq.put rfl) (zEq.put rfl)) (zFr.eq w110F rfl))) (by omega)
          have w117 := zTa.rg (M := w110M) (zTa.fr x0 (zEq.tr (zEq.tr (zEq.put rfl) (zEq.put rfl)) (zFr.eq w110F rfl))) w115n
          show zGo X l 2 0 0 35 83 [(0, .ref 155), (1, .int (1 : Int32)), (2, .int w110x2), (3, .int w110x3)] [.int (zpt w110M)] w110M _
          refine zs_invS (pc := 83) (as := [.int (zpt w110M)]) (st := []) t35_83 (by decide) mf36 rfl rfl ⟨by decide, by decide, Nat.le_of_ble_eq_true rfl, Nat.le_of_ble_eq_true rfl⟩ (zs_in (by decide) mf36 (Nat.le_of_ble_eq_true rfl) ?_) (fun _ _ q => q)
          show zGo X l 0 0 0 36 0 [(0, .int (zpt w110M))] [] w110M _
          refine zs_iload_n (pc := 0) t36_0 rfl ?_
          refine zs_bipush (pc := 1) t36_1 (v := 48) (by decide) ?_
          by_cases w118 : (g w115n) < 48
          · refine zs_icmp_ltT (pc := 3) t36_3 w113 li48 (by omega) ?_
            refine zs_iconst (pc := 16) t36_16 (v := 0) (by decide) ?_
            refine zs_iret (pc := 17) t36_17 mr36 (by decide) ?_
            show zGo X l 2 0 0 35 86 [(0, .ref 155), (1, .int (1 : Int32)), (2, .int w110x2), (3, .int w110x3)] [.int (0 : Int32)] w110M _
            refine zs_if_eqT (pc := 86) t35_86 li0 (by decide) ?_
            refine zs_aload_n (pc := 98) t35_98 rfl ?_
            refine zs_iload_n (pc := 99) t35_99 rfl ?_
            refine zs_if_eqF (pc := 100) t35_100 li1 (by decide) ?_
            refine zs_iload_n (pc := 103) t35_103 rfl ?_
            obtain ⟨w119v, w119e⟩ : ∃ v, -w110x2 = v := ⟨_, rfl⟩
            have w119 : w119v.toInt = -w110x2.toInt := by rw [← w119e]; exact zneg rfl (by omega)
            refine zs_ineg (pc := 104) t35_104 (c := w119v) w119e ?_
            refine zs_goto (pc := 105) t35_105 ?_
            have w120 : zIv cLo cHi (zsI w110M 155 4 w119v) := zIv.put w110I (show (-300000) ≤ w119v.toInt ∧ w119v.toInt ≤ 300000 from ⟨by omega, by omega⟩)
            refine zs_putI (pc := 109) t35_109 (zk1 (w110s.k fk_zMc_155)) rfl ?_
            refine zs_iconst (pc := 112) t35_112 (v := 1) (by decide) ?_
            obtain ⟨w121n, w121⟩ : ∃ n : Nat, w110x3.toInt = (n : Int) := ⟨(w110x3.toInt).toNat, by omega⟩
            have w122 : (zI (zsI w110M 155 4 w119v) 155 2).toInt = (zI w110M 155 2).toInt := (congrArg Int32.toInt ((zIoj (by decide)).trans rfl)).trans rfl
            have w123 : (zI (zsI w110M 155 4 w119v) 155 4).toInt = (-w110x2.toInt) := (congrArg Int32.toInt zIs).trans w119
            have w124 : pDg g 4 (w5n + 1) = w115n := by
              by_cases q : w121n = 4
              · exact (w110t1 w121n 0 (by omega) (by omega)).trans (by show (w5n + 1) + w121n = w115n; omega)
              · have z := w110t1 w121n (4 - w121n) (by omega) (by omega)
                rw [show (w5n + 1) + w121n = w115n by omega] at z
                exact z.trans (pDg.zz (by omega))
            have w125 : pNq g w5n = (w5n + 1) := by first | exact (pNq.m (by omega)).trans (by omega) | exact (pNq.o (by omega)).trans (by omega)
            exact zs_iret (pc := 113) t35_113 mr35 (by decide) (hQ _ _ w110s w120 (((((zFr.refl).put rfl).put rfl).trans (w110F.mono rfl)).put rfl) (fun p hp => by obtain rfl : w5n = p := (by omega); exact Or.inr ⟨by decide, w115n, _, pN.y w125 w124 (by omega) (by omega) (k := w121n) (by omega) (w110t0 w121n (by omega)).symm (by omega), by omega, rfl, by omega, by omega, by omega, by omega⟩) (by decide) (by decide))
          · refine zs_icmp_ltF (pc := 3) t36_3 w113 li48 (by omega) ?_
            refine zs_iload_n (pc := 6) t36_6 rfl ?_
            refine zs_bipush (pc := 7) t36_7 (v := 57) (by decide) ?_
            by_cases w126 : 57 < (g w115n)
            · refine zs_icmp_gtT (pc := 9) t36_9 w113 li57 (by omega) ?_
              refine zs_iconst (pc := 16) t36_16 (v := 0) (by decide) ?_
              refine zs_iret (pc := 17) t36_17 mr36 (by decide) ?_
              show zGo X l 2 0 0 35 86 [(0, .ref 155), (1, .int (1 : Int32)), (2, .int w110x2), (3, .int w110x3)] [.int (0 : Int32)] w110M _
              refine zs_if_eqT (pc := 86) t35_86 li0 (by decide) ?_
              refine zs_aload_n (pc := 98) t35_98 rfl ?_
              refine zs_iload_n (pc := 99) t35_99 rfl ?_
              refine zs_if_eqF (pc := 100) t35_100 li1 (by decide) ?_
              refine zs_iload_n (pc := 103) t35_103 rfl ?_
              obtain ⟨w127v, w127e⟩ : ∃ v, -w110x2 = v := ⟨_, rfl⟩
              have w127 : w127v.toInt = -w110x2.toInt := by rw [← w127e]; exact zneg rfl (by omega)
              refine zs_ineg (pc := 104) t35_104 (c := w127v) w127e ?_
              refine zs_goto (pc := 105) t35_105 ?_
              have w128 : zIv cLo cHi (zsI w110M 155 4 w127v) := zIv.put w110I (show (-300000) ≤ w127v.toInt ∧ w127v.toInt ≤ 300000 from ⟨by omega, by omega⟩)
              refine zs_putI (pc := 109) t35_109 (zk1 (w110s.k fk_zMc_155)) rfl ?_
              refine zs_iconst (pc := 112) t35_112 (v := 1) (by decide) ?_
              obtain ⟨w129n, w129⟩ : ∃ n : Nat, w110x3.toInt = (n : Int) := ⟨(w110x3.toInt).toNat, by omega⟩
              have w130 : (zI (zsI w110M 155 4 w127v) 155 2).toInt = (zI w110M 155 2).toInt := (congrArg Int32.toInt ((zIoj (by decide)).trans rfl)).trans rfl
              have w131 : (zI (zsI w110M 155 4 w127v) 155 4).toInt = (-w110x2.toInt) := (congrArg Int32.toInt zIs).trans w127
              have w132 : pDg g 4 (w5n + 1) = w115n := by
                by_cases q : w129n = 4
                · exact (w110t1 w129n 0 (by omega) (by omega)).trans (by show (w5n + 1) + w129n = w115n; omega)
                · have z := w110t1 w129n (4 - w129n) (by omega) (by omega)
                  rw [show (w5n + 1) + w129n = w115n by omega] at z
                  exact z.trans (pDg.zz (by omega))
              have w133 : pNq g w5n = (w5n + 1) := by first | exact (pNq.m (by omega)).trans (by omega) | exact (pNq.o (by omega)).trans (by omega)
              exact zs_iret (pc := 113) t35_113 mr35 (by decide) (hQ _ _ w110s w128 (((((zFr.refl).put rfl).put rfl).trans (w110F.mono rfl)).put rfl) (fun p hp => by obtain rfl : w5n = p := (by omega); exact Or.inr ⟨by decide, w115n, _, pN.y w133 w132 (by omega) (by omega) (k := w129n) (by omega) (w110t0 w129n (by omega)).symm (by omega), by omega, rfl, by omega, by omega, by omega, by omega⟩) (by decide) (by decide))
            · refine zs_icmp_gtF (pc := 9) t36_9 w113 li57 (by omega) ?_
              refine zs_iconst (pc := 12) t36_12 (v := 1) (by decide) ?_
              refine zs_goto (pc := 13) t36_13 ?_
              refine zs_iret (pc := 17) t36_17 mr36 (by decide) ?_
              show zGo X l 2 0 0 35 86 [(0, .ref 155), (1, .int (1 : Int32)), (2, .int w110x2), (3, .int w110x3)] [.int (1 : Int32)] w110M _
              refine zs_if_eqF (pc := 86) t35_86 li1 (by decide) ?_
              refine zs_aload_n (pc := 89) t35_89 rfl ?_
              refine zs_aload_n (pc := 90) t35_90 rfl ?_
              refine zs_get (pc := 91) t35_91 (by decide) (zk1 (w110s.k fk_zMc_155)) (zfvi rfl rfl) ?_
              refine zs_invV (pc := 94) (k := 155) (as' := [.int (zI w110M 155 2)]) (st := []) t35_94 mf34 rfl rfl (Or.inl ⟨by decide, (zk1 (w110s.k fk_zMc_155))⟩) ⟨by decide, by decide, Nat.le_of_ble_eq_true rfl, Nat.le_of_ble_eq_true rfl⟩ (zs_in (by decide) mf34 (Nat.le_of_ble_eq_true rfl) ?_) (fun _ _ q => q)
              show zGo X l 0 0 0 34 0 [(0, .ref 155), (1, .int (zI w110M 155 2))] [] w110M _
              refine zs_aload_n (pc := 0) t34_0 rfl ?_
              refine zs_iload_n (pc := 1) t34_1 rfl ?_
              have w134 : zIv cLo cHi (zsI w110M 155 3 (zI w110M 155 2)) := zIv.put w110I (show (-2147483648) ≤ (zI w110M 155 2).toInt ∧ (zI w110M 155 2).toInt ≤ 2147483647 from zrg (zI w110M 155 2))
              refine zs_putI (pc := 2) t34_2 (zk1 (w110s.k fk_zMc_155)) rfl ?_
              refine zs_iconst (pc := 5) t34_5 (v := 0) (by decide) ?_
              refine zs_iret (pc := 6) t34_6 mr34 (by decide) ?_
              show zGo X l 2 0 0 35 97 [(0, .ref 155), (1, .int (1 : Int32)), (2, .int w110x2), (3, .int w110x3)] [.int (0 : Int32)] (zsI w110M 155 3 (zI w110M 155 2)) _
              obtain ⟨w135n, w135⟩ : ∃ n : Nat, w110x3.toInt = (n : Int) := ⟨(w110x3.toInt).toNat, by omega⟩
              have w136 : (zI (zsI w110M 155 3 (zI w110M 155 2)) 155 2).toInt = (zI w110M 155 2).toInt := (congrArg Int32.toInt ((zIoj (by decide)).trans rfl)).trans rfl
              have w137 := ib155_4 hI
              have w138 : (zI (zsI w110M 155 3 (zI w110M 155 2)) 155 4).toInt = (zI M 155 4).toInt := (congrArg Int32.toInt ((zIoj (by decide)).trans ((w110F 155 4 rfl).trans ((zIoj (by decide)).trans ((zIoj (by decide)).trans rfl))))).trans rfl
              have w139 : pDg g 4 (w5n + 1) = w115n := by
                by_cases q : w135n = 4
                · exact (w110t1 w135n 0 (by omega) (by omega)).trans (by show (w5n + 1) + w135n = w115n; omega)
                · have z := w110t1 w135n (4 - w135n) (by omega) (by omega)
                  rw [show (w5n + 1) + w135n = w115n by omega] at z
                  exact z.trans (pDg.zz (by omega))
              have w140 : pNq g w5n = (w5n + 1) := by first | exact (pNq.m (by omega)).trans (by omega) | exact (pNq.o (by omega)).trans (by omega)
              exact zs_iret (pc := 97) t35_97 mr35 (by decide) (hQ _ _ w110s w134 (((((zFr.refl).put rfl).put rfl).trans (w110F.mono rfl)).put rfl) (fun p hp => by obtain rfl : w5n = p := (by omega); exact Or.inl ⟨by decide, pN.n w140 w139 (by omega)⟩) (by decide) (by decide))
        · refine zs_icmp_geF (pc := 43) t35_43 rfl li4 (by omega) ?_
          refine zs_aload_n (pc := 46) t35_46 rfl ?_
          refine zs_invV (pc := 47) (k := 155) (as' := []) (st := []) t35_47 mf31 rfl rfl (Or.inl ⟨by decide, (zk1 (w110s.k fk_zMc_155))⟩) ⟨by decide, by decide, Nat.le_of_ble_eq_true rfl, Nat.le_of_ble_eq_true rfl⟩ (P31 w110s w110I ?_) (fun _ _ q => q)
          have w142 : (zI w110M 155 2).toInt = (zI w110M 155 2).toInt := (congrArg Int32.toInt rfl).trans rfl
          obtain ⟨w143n, w143⟩ : ∃ n : Nat, (zI w110M 155 2).toInt = (n : Int) := ⟨((zI w110M 155 2).toInt).toNat, by omega⟩
          have w144 : (zI w110M 155 1).toInt = (zI M 155 1).toInt := (congrArg Int32.toInt ((w110F 155 1 rfl).trans ((zIoj (by decide)).trans ((zIoj (by decide)).trans rfl)))).trans rfl
          have w141 : (zpt w110M).toInt = g w143n := zpt.tr (zTa.fr x0 (zEq.tr (zEq.tr (zEq.put rfl) (zEq.put rfl)) (zFr.eq w110F rfl))) (by omega)
          have w145 := zTa.rg (M := w110M) (zTa.fr x0 (zEq.tr (zEq.tr (zEq.put rfl) (zEq.put rfl)) (zFr.eq w110F rfl))) w143n
          show zGo X l 2 0 0 35 50 [(0, .ref 155), (1, .int (1 : Int32)), (2, .int w110x2), (3, .int w110x3)] [.int (zpt w110M)] w110M _
          refine zs_invS (pc := 50) (as := [.int (zpt w110M)]) (st := []) t35_50 (by decide) mf36 rfl rfl ⟨by decide, by decide, Nat.le_of_ble_eq_true rfl, Nat.le_of_ble_eq_true rfl⟩ (zs_in (by decide) mf36 (Nat.le_of_ble_eq_true rfl) ?_) (fun _ _ q => q)
          show zGo X l 0 0 0 36 0 [(0, .int (zpt w110M))] [] w110M _
          refine zs_iload_n (pc := 0) t36_0 rfl ?_
          refine zs_bipush (pc := 1) t36_1 (v := 48) (by decide) ?_
          by_cases w146 : (g w143n) < 48
          · refine zs_icmp_ltT (pc := 3) t36_3 w141 li48 (by omega) ?_
            refine zs_iconst (pc := 16) t36_16 (v := 0) (by decide) ?_
            refine zs_iret (pc := 17) t36_17 mr36 (by decide) ?_
            show zGo X l 2 0 0 35 53 [(0, .ref 155), (1, .int (1 : Int32)), (2, .int w110x2), (3, .int w110x3)] [.int (0 : Int32)] w110M _
            refine zs_if_eqT (pc := 53) t35_53 li0 (by decide) ?_
            refine zs_iload_n (pc := 75) t35_75 rfl ?_
            by_cases w147 : w110x3.toInt = 0
            · refine zs_if_eqT (pc := 76) t35_76 rfl (by omega) ?_
              refine zs_aload_n (pc := 89) t35_89 rfl ?_
              refine zs_aload_n (pc := 90) t35_90 rfl ?_
              refine zs_get (pc := 91) t35_91 (by decide) (zk1 (w110s.k fk_zMc_155)) (zfvi rfl rfl) ?_
              refine zs_invV (pc := 94) (k := 155) (as' := [.int (zI w110M 155 2)]) (st := []) t35_94 mf34 rfl rfl (Or.inl ⟨by decide, (zk1 (w110s.k fk_zMc_155))⟩) ⟨by decide, by decide, Nat.le_of_ble_eq_true rfl, Nat.le_of_ble_eq_true rfl⟩ (zs_in (by decide) mf34 (Nat.le_of_ble_eq_true rfl) ?_) (fun _ _ q => q)
              show zGo X l 0 0 0 34 0 [(0, .ref 155), (1, .int (zI w110M 155 2))] [] w110M _
              refine zs_aload_n (pc := 0) t34_0 rfl ?_
              refine zs_iload_n (pc := 1) t34_1 rfl ?_
              have w148 : zIv cLo cHi (zsI w110M 155 3 (zI w110M 155 2)) := zIv.put w110I (show (-2147483648) ≤ (zI w110M 155 2).toInt ∧ (zI w110M 155 2).toInt ≤ 2147483647 from zrg (zI w110M 155 2))
              refine zs_putI (pc := 2) t34_2 (zk1 (w110s.k fk_zMc_155)) rfl ?_
              refine zs_iconst (pc := 5) t34_5 (v := 0) (by decide) ?_
              refine zs_iret (pc := 6) t34_6 mr34 (by decide) ?_
              show zGo X l 2 0 0 35 97 [(0, .ref 155), (1, .int (1 : Int32)), (2, .int w110x2), (3, .int w110x3)] [.int (0 : Int32)] (zsI w110M 155 3 (zI w110M 155 2)) _
              obtain ⟨w149n, w149⟩ : ∃ n : Nat, w110x3.toInt = (n : Int) := ⟨(w110x3.toInt).toNat, by omega⟩
              have w150 : (zI (zsI w110M 155 3 (zI w110M 155 2)) 155 2).toInt = (zI w110M 155 2).toInt := (congrArg Int32.toInt ((zIoj (by decide)).trans rfl)).trans rfl
              have w151 : (zI (zsI w110M 155 3 (zI w110M 155 2)) 155 4).toInt = (zI M 155 4).toInt := (congrArg Int32.toInt ((zIoj (by decide)).trans ((w110F 155 4 rfl).trans ((zIoj (by decide)).trans ((zIoj (by decide)).trans rfl))))).trans rfl
              have w152 : pDg g 4 (w5n + 1) = w143n := by
                by_cases q : w149n = 4
                · exact (w110t1 w149n 0 (by omega) (by omega)).trans (by show (w5n + 1) + w149n = w143n; omega)
                · have z := w110t1 w149n (4 - w149n) (by omega) (by omega)
                  rw [show (w5n + 1) + w149n = w143n by omega] at z
                  exact z.trans (pDg.zz (by omega))
              have w153 : pNq g w5n = (w5n + 1) := by first | exact (pNq.m (by omega)).trans (by omega) | exact (pNq.o (by omega)).trans (by omega)
              exact zs_iret (pc := 97) t35_97 mr35 (by decide) (hQ _ _ w110s w148 (((((zFr.refl).put rfl).put rfl).trans (w110F.mono rfl)).put rfl) (fun p hp => by obtain rfl : w5n = p := (by omega); exact Or.inl ⟨by decide, pN.n w153 w152 (by omega)⟩) (by decide) (by decide))
            · refine zs_if_eqF (pc := 76) t35_76 rfl (by omega) ?_
              refine zs_aload_n (pc := 79) t35_79 rfl ?_
              refine zs_invV (pc := 80) (k := 155) (as' := []) (st := []) t35_80 mf31 rfl rfl (Or.inl ⟨by decide, (zk1 (w110s.k fk_zMc_155))⟩) ⟨by decide, by decide, Nat.le_of_ble_eq_true rfl, Nat.le_of_ble_eq_true rfl⟩ (P31 w110s w110I ?_) (fun _ _ q => q)
              have w155 : (zI w110M 155 2).toInt = (zI w110M 155 2).toInt := (congrArg Int32.toInt rfl).trans rfl
              have w156 : (zI w110M 155 1).toInt = (zI M 155 1).toInt := (congrArg Int32.toInt ((w110F 155 1 rfl).trans ((zIoj (by decide)).trans ((zIoj (by decide)).trans rfl)))).trans rfl
              have w154 : (zpt w110M).toInt = g w143n := zpt.tr (zTa.fr x0 (zEq.tr (zEq.tr (zEq.put rfl) (zEq.put rfl)) (zFr.eq w110F rfl))) (by omega)
              have w157 := zTa.rg (M := w110M) (zTa.fr x0 (zEq.tr (zEq.tr (zEq.put rfl) (zEq.put rfl)) (zFr.eq w110F rfl))) w143n
              show zGo X l 2 0 0 35 83 [(0, .ref 155), (1, .int (1 : Int32)), (2, .int w110x2), (3, .int w110x3)] [.int (zpt w110M)] w110M _
              refine zs_invS (pc := 83) (as := [.int (zpt w110M)]) (st := []) t35_83 (by decide) mf36 rfl rfl ⟨by decide, by decide, Nat.le_of_ble_eq_true rfl, Nat.le_of_ble_eq_true rfl⟩ (zs_in (by decide) mf36 (Nat.le_of_ble_eq_true rfl) ?_) (fun _ _ q => q)
              show zGo X l 0 0 0 36 0 [(0, .int (zpt w110M))] [] w110M _
              refine zs_iload_n (pc := 0) t36_0 rfl ?_
              refine zs_bipush (pc := 1) t36_1 (v := 48) (by decide) ?_
              refine zs_icmp_ltT (pc := 3) t36_3 w154 li48 (by omega) ?_
              refine zs_iconst (pc := 16) t36_16 (v := 0) (by decide) ?_
              refine zs_iret (pc := 17) t36_17 mr36 (by decide) ?_
              show zGo X l 2 0 0 35 86 [(0, .ref 155), (1, .int (1 : Int32)), (2, .int w110x2), (3, .int w110x3)] [.int (0 : Int32)] w110M _
              refine zs_if_eqT (pc := 86) t35_86 li0 (by decide) ?_
              refine zs_aload_n (pc := 98) t35_98 rfl ?_
              refine zs_iload_n (pc := 99) t35_99 rfl ?_
              refine zs_if_eqF (pc := 100) t35_100 li1 (by decide) ?_
              refine zs_iload_n (pc := 103) t35_103 rfl ?_
              obtain ⟨w158v, w158e⟩ : ∃ v, -w110x2 = v := ⟨_, rfl⟩
              have w158 : w158v.toInt = -w110x2.toInt := by rw [← w158e]; exact zneg rfl (by omega)
              refine zs_ineg (pc := 104) t35_104 (c := w158v) w158e ?_
              refine zs_goto (pc := 105) t35_105 ?_
              have w159 : zIv cLo cHi (zsI w110M 155 4 w158v) := zIv.put w110I (show (-300000) ≤ w158v.toInt ∧ w158v.toInt ≤ 300000 from ⟨by omega, by omega⟩)
              refine zs_putI (pc := 109) t35_109 (zk1 (w110s.k fk_zMc_155)) rfl ?_
              refine zs_iconst (pc := 112) t35_112 (v := 1) (by decide) ?_
              obtain ⟨w160n, w160⟩ : ∃ n : Nat, w110x3.toInt = (n : Int) := ⟨(w110x3.toInt).toNat, by omega⟩
              have w161 : (zI (zsI w110M 155 4 w158v) 155 2).toInt = (zI w110M 155 2).toInt := (congrArg Int32.toInt ((zIoj (by decide)).trans rfl)).trans rfl
              have w162 : (zI (zsI w110M 155 4 w158v) 155 4).toInt = (-w110x2.toInt) := (congrArg Int32.toInt zIs).trans w158
              have w163 : pDg g 4 (w5n + 1) = w143n := by
                by_cases q : w160n = 4
                · exact (w110t1 w160n 0 (by omega) (by omega)).trans (by show (w5n + 1) + w160n = w143n; omega)
                · have z := w110t1 w160n (4 - w160n) (by omega) (by omega)
                  rw [show (w5n + 1) + w160n = w143n by omega] at z
                  exact z.trans (pDg.zz (by omega))
              have w164 : pNq g w5n = (w5n + 1) := by first | exact (pNq.m (by omega)).trans (by omega) | exact (pNq.o (by omega)).trans (by omega)
              exact zs_iret (pc := 113) t35_113 mr35 (by decide) (hQ _ _ w110s w159 (((((zFr.refl).put rfl).put rfl).trans (w110F.mono rfl)).put rfl) (fun p hp => by obtain rfl : w5n = p := (by omega); exact Or.inr ⟨by decide, w143n, _, pN.y w164 w163 (by omega) (by omega) (k := w160n) (by omega) (w110t0 w160n (by omega)).symm (by omega), by omega, rfl, by omega, by omega, by omega, by omega⟩) (by decide) (by decide))
          · refine zs_icmp_ltF (pc := 3) t36_3 w141 li48 (by omega) ?_
            refine zs_iload_n (pc := 6) t36_6 rfl ?_
            refine zs_bipush (pc := 7) t36_7 (v := 57) (by decide) ?_
            by_cases w165 : 57 < (g w143n)
            · refine zs_icmp_gtT (pc := 9) t36_9 w141 li57 (by omega) ?_
              refine zs_iconst (pc := 16) t36_16 (v := 0) (by decide) ?_
              refine zs_iret (pc := 17) t36_17 mr36 (by decide) ?_
              show zGo X l 2 0 0 35 53 [(0, .ref 155), (1, .int (1 : Int32)), (2, .int w110x2), (3, .int w110x3)] [.int (0 : Int32)] w110M _
              refine zs_if_eqT (pc := 53) t35_53 li0 (by decide) ?_
              refine zs_iload_n (pc := 75) t35_75 rfl ?_
              by_cases w166 : w110x3.toInt = 0
              · refine zs_if_eqT (pc := 76) t35_76 rfl (by omega) ?_
                refine zs_aload_n (pc := 89) t35_89 rfl ?_
                refine zs_aload_n (pc := 90) t35_90 rfl ?_
                refine zs_get (pc := 91) t35_91 (by decide) (zk1 (w110s.k fk_zMc_155)) (zfvi rfl rfl) ?_
                refine zs_invV (pc := 94) (k := 155) (as' := [.int (zI w110M 155 2)]) (st := []) t35_94 mf34 rfl rfl (Or.inl ⟨by decide, (zk1 (w110s.k fk_zMc_155))⟩) ⟨by decide, by decide, Nat.le_of_ble_eq_true rfl, Nat.le_of_ble_eq_true rfl⟩ (zs_in (by decide) mf34 (Nat.le_of_ble_eq_true rfl) ?_) (fun _ _ q => q)
                show zGo X l 0 0 0 34 0 [(0, .ref 155), (1, .int (zI w110M 155 2))] [] w110M _
                refine zs_aload_n (pc := 0) t34_0 rfl ?_
                refine zs_iload_n (pc := 1) t34_1 rfl ?_
                have w167 : zIv cLo cHi (zsI w110M 155 3 (zI w110M 155 2)) := zIv.put w110I (show (-2147483648) ≤ (zI w110M 155 2).toInt ∧ (zI w110M 155 2).toInt ≤ 2147483647 from zrg (zI w110M 155 2))
                refine zs_putI (pc := 2) t34_2 (zk1 (w110s.k fk_zMc_155)) rfl ?_
                refine zs_iconst (pc := 5) t34_5 (v := 0) (by decide) ?_
                refine zs_iret (pc := 6) t34_6 mr34 (by decide) ?_
                show zGo X l 2 0 0 35 97 [(0, .ref 155), (1, .int (1 : Int32)), (2, .int w110x2), (3, .int w110x3)] [.int (0 : Int32)] (zsI w110M 155 3 (zI w110M 155 2)) _
                obtain ⟨w168n, w168⟩ : ∃ n : Nat, w110x3.toInt = (n : Int) := ⟨(w110x3.toInt).toNat, by omega⟩
                have w169 : (zI (zsI w110M 155 3 (zI w110M 155 2)) 155 2).toInt = (zI w110M 155 2).toInt := (congrArg Int32.toInt ((zIoj (by decide)).trans rfl)).trans rfl
                have w170 : (zI (zsI w110M 155 3 (zI w110M 155 2)) 155 4).toInt = (zI M 155 4).toInt := (congrArg Int32.toInt ((zIoj (by decide)).trans ((w110F 155 4 rfl).trans ((zIoj (by decide)).trans ((zIoj (by decide)).trans rfl))))).trans rfl
                have w171 : pDg g 4 (w5n + 1) = w143n := by
                  by_cases q : w168n = 4
                  · exact (w110t1 w168n 0 (by omega) (by omega)).trans (by show (w5n + 1) + w168n = w143n; omega)
                  · have z := w110t1 w168n (4 - w168n) (by omega) (by omega)
                    rw [show (w5n + 1) + w168n = w143n by omega] at z
                    exact z.trans (pDg.zz (by omega))
                have w172 : pNq g w5n = (w5n + 1) := by first | exact (pNq.m (by omega)).trans (by omega) | exact (pNq.o (by omega)).trans (by omega)
                exact zs_iret (pc := 97) t35_97 mr35 (by decide) (hQ _ _ w110s w167 (((((zFr.refl).put rfl).put rfl).trans (w110F.mono rfl)).put rfl) (fun p hp => by obtain rfl : w5n = p := (by omega); exact Or.inl ⟨by decide, pN.n w172 w171 (by omega)⟩) (by decide) (by decide))
              · refine zs_if_eqF (pc := 76) t35_76 rfl (by omega) ?_
                refine zs_aload_n (pc := 79) t35_79 rfl ?_
                refine zs_invV (pc := 80) (k := 155) (as' := []) (st := []) t35_80 mf31 rfl rfl (Or.inl ⟨by decide, (zk1 (w110s.k fk_zMc_155))⟩) ⟨by decide, by decide, Nat.le_of_ble_eq_true rfl, Nat.le_of_ble_eq_true rfl⟩ (P31 w110s w110I ?_) (fun _ _ q => q)
                have w174 : (zI w110M 155 2).toInt = (zI w110M 155 2).toInt := (congrArg Int32.toInt rfl).trans rfl
                have w175 : (zI w110M 155 1).toInt = (zI M 155 1).toInt := (congrArg Int32.toInt ((w110F 155 1 rfl).trans ((zIoj (by decide)).trans ((zIoj (by decide)).trans rfl)))).trans rfl
                have w173 : (zpt w110M).toInt = g w143n := zpt.tr (zTa.fr x0 (zEq.tr (zEq.tr (zEq.put rfl) (zEq.put rfl)) (zFr.eq w110F rfl))) (by omega)
                have w176 := zTa.rg (M := w110M) (zTa.fr x0 (zEq.tr (zEq.tr (zEq.put rfl) (zEq.put rfl)) (zFr.eq w110F rfl))) w143n
                show zGo X l 2 0 0 35 83 [(0, .ref 155), (1, .int (1 : Int32)), (2, .int w110x2), (3, .int w110x3)] [.int (zpt w110M)] w110M _
                refine zs_invS (pc := 83) (as := [.int (zpt w110M)]) (st := []) t35_83 (by decide) mf36 rfl rfl ⟨by decide, by decide, Nat.le_of_ble_eq_true rfl, Nat.le_of_ble_eq_true rfl⟩ (zs_in (by decide) mf36 (Nat.le_of_ble_eq_true rfl) ?_) (fun _ _ q => q)
                show zGo X l 0 0 0 36 0 [(0, .int (zpt w110M))] [] w110M _
                refine zs_iload_n (pc := 0) t36_0 rfl ?_
                refine zs_bipush (pc := 1) t36_1 (v := 48) (by decide) ?_
                refine zs_icmp_ltF (pc := 3) t36_3 w173 li48 (by omega) ?_
                refine zs_iload_n (pc := 6) t36_6 rfl ?_
                refine zs_bipush (pc := 7) t36_7 (v := 57) (by decide) ?_
                refine zs_icmp_gtT (pc := 9) t36_9 w173 li57 (by omega) ?_
                refine zs_iconst (pc := 16) t36_16 (v := 0) (by decide) ?_
                refine zs_iret (pc := 17) t36_17 mr36 (by decide) ?_
                show zGo X l 2 0 0 35 86 [(0, .ref 155), (1, .int (1 : Int32)), (2, .int w110x2), (3, .int w110x3)] [.int (0 : Int32)] w110M _
                refine zs_if_eqT (pc := 86) t35_86 li0 (by decide) ?_
                refine zs_aload_n (pc := 98) t35_98 rfl ?_
                refine zs_iload_n (pc := 99) t35_99 rfl ?_
                refine zs_if_eqF (pc := 100) t35_100 li1 (by decide) ?_
                refine zs_iload_n (pc := 103) t35_103 rfl ?_
                obtain ⟨w177v, w177e⟩ : ∃ v, -w110x2 = v := ⟨_, rfl⟩
                have w177 : w177v.toInt = -w110x2.toInt := by rw [← w177e]; exact zneg rfl (by omega)
                refine zs_ineg (pc := 104) t35_104 (c := w177v) w177e ?_
                refine zs_goto (pc := 105) t35_105 ?_
                have w178 : zIv cLo cHi (zsI w110M 155 4 w177v) := zIv.put w110I (show (-300000) ≤ w177v.toInt ∧ w177v.toInt ≤ 300000 from ⟨by omega, by omega⟩)
                refine zs_putI (pc := 109) t35_109 (zk1 (w110s.k fk_zMc_155)) rfl ?_
                refine zs_iconst (pc := 112) t35_112 (v := 1) (by decide) ?_
                obtain ⟨w179n, w179⟩ : ∃ n : Nat, w110x3.toInt = (n : Int) := ⟨(w110x3.toInt).toNat, by omega⟩
                have w180 : (zI (zsI w110M 155 4 w177v) 155 2).toInt = (zI w110M 155 2).toInt := (congrArg Int32.toInt ((zIoj (by decide)).trans rfl)).trans rfl
                have w181 : (zI (zsI w110M 155 4 w177v) 155 4).toInt = (-w110x2.toInt) := (congrArg Int32.toInt zIs).trans w177
                have w182 : pDg g 4 (w5n + 1) = w143n := by
                  by_cases q : w179n = 4
                  · exact (w110t1 w179n 0 (by omega) (by omega)).trans (by show (w5n + 1) + w179n = w143n; omega)
                  · have z := w110t1 w179n (4 - w179n) (by omega) (by omega)
                    rw [show (w5n + 1) + w179n = w143n by omega] at z
                    exact z.trans (pDg.zz (by omega))
                have w183 : pNq g w5n = (w5n + 1) := by first | exact (pNq.m (by omega)).trans (by omega) | exact (pNq.o (by omega)).trans (by omega)
                exact zs_iret (pc := 113) t35_113 mr35 (by decide) (hQ _ _ w110s w178 (((((zFr.refl).put rfl).put rfl).trans (w110F.mono rfl)).put rfl) (fun p hp => by obtain rfl : w5n = p := (by omega); exact Or.inr ⟨by decide, w143n, _, pN.y w183 w182 (by omega) (by omega) (k := w179n) (by omega) (w110t0 w179n (by omega)).symm (by omega), by omega, rfl, by omega, by omega, by omega, by omega⟩) (by decide) (by decide))
            · refine zs_icmp_gtF (pc := 9) t36_9 w141 li57 (by omega) ?_
              refine zs_iconst (pc := 12) t36_12 (v := 1) (by decide) ?_
              refine zs_goto (pc := 13) t36_13 ?_
              refine zs_iret (pc := 17) t36_17 mr36 (by decide) ?_
              show zGo X l 2 0 0 35 53 [(0, .ref 155), (1, .int (1 : Int32)), (2, .int w110x2), (3, .int w110x3)] [.int (1 : Int32)] w110M _
              refine zs_if_eqF (pc := 53) t35_53 li1 (by decide) ?_
              refine zs_iload_n (pc := 56) t35_56 rfl ?_
              refine zs_bipush (pc := 57) t35_57 (v := 10) (by decide) ?_
              obtain ⟨w184v, w184⟩ : ∃ v, w110x2 * (10 : Int32) = v := ⟨_, rfl⟩
              have w184g : w184v.toInt = w110x2.toInt * 10 := by rw [← w184]; exact zmulc rfl li10 (by omega) (by omega)
              refine zs_imul (pc := 59) t35_59 (c := w184v) w184 ?_
              refine zs_aload_n (pc := 60) t35_60 rfl ?_
              refine zs_invV (pc := 61) (k := 155) (as' := []) (st := [.int w184v]) t35_61 mf30 rfl rfl (Or.inl ⟨by decide, (zk1 (w110s.k fk_zMc_155))⟩) ⟨by decide, by decide, Nat.le_of_ble_eq_true rfl, Nat.le_of_ble_eq_true rfl⟩ (zs_in (by decide) mf30 (Nat.le_of_ble_eq_true rfl) ?_) (fun _ _ q => q)
              show zGo X l 1 0 0 30 0 [(0, .ref 155)] [] w110M _
              refine zs_aload_n (pc := 0) t30_0 rfl ?_
              refine zs_invV (pc := 1) (k := 155) (as' := []) (st := []) t30_1 mf31 rfl rfl (Or.inl ⟨by decide, (zk1 (w110s.k fk_zMc_155))⟩) ⟨by decide, by decide, Nat.le_of_ble_eq_true rfl, Nat.le_of_ble_eq_true rfl⟩ (P31 w110s w110I ?_) (fun _ _ q => q)
              have w186 : (zI w110M 155 2).toInt = (zI w110M 155 2).toInt := (congrArg Int32.toInt rfl).trans rfl
              have w187 : (zI w110M 155 1).toInt = (zI M 155 1).toInt := (congrArg Int32.toInt ((w110F 155 1 rfl).trans ((zIoj (by decide)).trans ((zIoj (by decide)).trans rfl)))).trans rfl
              have w185 : (zpt w110M).toInt = g w143n := zpt.tr (zTa.fr x0 (zEq.tr (zEq.tr (zEq.put rfl) (zEq.put rfl)) (zFr.eq w110F rfl))) (by omega)
              have w188 := zTa.rg (M := w110M) (zTa.fr x0 (zEq.tr (zEq.tr (zEq.put rfl) (zEq.put rfl)) (zFr.eq w110F rfl))) w143n
              show zGo X l 1 0 0 30 4 [(0, .ref 155)] [.int (zpt w110M)] w110M _
              refine zs_istore_n (pc := 4) t30_4 (ls' := [(1, .int (zpt w110M)), (0, .ref 155)]) (zml mf30 (by decide)) rfl ?_
              refine zs_iload_n (pc := 5) t30_5 rfl ?_
              refine zs_iconst (pc := 6) t30_6 (v := -1) (by decide) ?_
              refine zs_icmp_eqF (pc := 7) t30_7 w185 lin1 (by omega) ?_
              refine zs_aload_n (pc := 10) t30_10 rfl ?_
              refine zs_dup (pc := 11) t30_11 rfl ?_
              refine zs_get (pc := 12) t30_12 (by decide) (zk1 (w110s.k fk_zMc_155)) (zfvi rfl rfl) ?_
              refine zs_iconst (pc := 15) t30_15 (v := 1) (by decide) ?_
              obtain ⟨w189v, w189e, w189⟩ := ziadd (a := (zI w110M 155 2)) (b := (1 : Int32)) rfl li1 (by omega) (by omega)
              refine zs_iadd (pc := 16) t30_16 (c := w189v) w189e ?_
              have w190 : zIv cLo cHi (zsI w110M 155 2 w189v) := zIv.put w110I (show (-2147483648) ≤ w189v.toInt ∧ w189v.toInt ≤ 2147483647 from zrg w189v)
              refine zs_putI (pc := 17) t30_17 (zk1 (w110s.k fk_zMc_155)) rfl ?_
              refine zs_iload_n (pc := 20) t30_20 rfl ?_
              refine zs_iret (pc := 21) t30_21 mr30 rfl ?_
              show zGo X l 2 0 0 35 64 [(0, .ref 155), (1, .int (1 : Int32)), (2, .int w110x2), (3, .int w110x3)] [.int (zpt w110M), .int w184v] (zsI w110M 155 2 w189v) _
              obtain ⟨w191v, w191e, w191⟩ := ziadd (a := w184v) (b := (zpt w110M)) w184g w185 (by omega) (by omega)
              refine zs_iadd (pc := 64) t35_64 (c := w191v) w191e ?_
              refine zs_bipush (pc := 65) t35_65 (v := 48) (by decide) ?_
              obtain ⟨w192v, w192e, w192⟩ := zisub (a := w191v) (b := (48 : Int32)) w191 li48 (by omega) (by omega)
              refine zs_isub (pc := 67) t35_67 (c := w192v) w192e ?_
              refine zs_istore_n (pc := 68) t35_68 (ls' := [(2, .int w192v), (0, .ref 155), (1, .int (1 : Int32)), (3, .int w110x3)]) (zml mf35 (by decide)) rfl ?_
              obtain ⟨w193v, w193e, w193⟩ := ziadd (a := w110x3) (b := Int32.ofInt 1) rfl (show (Int32.ofInt 1).toInt = 1 by decide) (by omega) (by omega)
              refine zs_iinc (pc := 69) t35_69 (ls' := [(3, .int w193v), (2, .int w192v), (0, .ref 155), (1, .int (1 : Int32))]) (zml mf35 (by decide)) rfl (c := w193v) w193e rfl ?_
              refine zs_goto (pc := 72) t35_72 ?_
              refine zGo.locals (ls' := [(0, .ref 155), (1, .int (1 : Int32)), (2, .int w192v), (3, .int w193v)]) (by simp) ?_
              have w194 := w192
              have w195 := w193
              have w196 : (zI (zsI w110M 155 2 w189v) 155 2).toInt = ((zI w110M 155 2).toInt + 1) := (congrArg Int32.toInt zIs).trans w189
              have w197 : (zI (zsI w110M 155 2 w189v) 155 1).toInt = (zI M 155 1).toInt := (congrArg Int32.toInt ((zIoj (by decide)).trans ((w110F 155 1 rfl).trans ((zIoj (by decide)).trans ((zIoj (by decide)).trans rfl))))).trans rfl
              have w198 : (zI (zsI w110M 155 2 w189v) 155 2).toInt = ((zI w110M 155 2).toInt + 1) := (congrArg Int32.toInt zIs).trans w189
              have w199 : (zI (zsI w110M 155 2 w189v) 155 1).toInt = (zI M 155 1).toInt := (congrArg Int32.toInt ((zIoj (by decide)).trans ((w110F 155 1 rfl).trans ((zIoj (by decide)).trans ((zIoj (by decide)).trans rfl))))).trans rfl
              obtain ⟨w200n, w200⟩ : ∃ n : Nat, w110x3.toInt = (n : Int) := ⟨(w110x3.toInt).toNat, by omega⟩
              have w201 : w192v.toInt = (((w110x2.toInt * 10) + (g w143n)) - 48) := w192
              exact w110ih (w110m - 1) (by omega) w192v w193v (zsI w110M 155 2 w189v) ⟨by omega, by omega⟩ ⟨by omega, by omega⟩ w110s w190 (((zFr.refl).trans (w110F.mono rfl)).put rfl) (by omega) (by omega) (by omega) (by omega) (fun d hd => by obtain rfl : d = w200n + 1 := (by omega); show _ = 10 * pVal g (w5n + 1) w200n + (g ((w5n + 1) + w200n) - 48); rw [show (w5n + 1) + w200n = w143n by omega]; have z := w110t0 w200n (by omega); omega) (fun d k hd hk => by obtain rfl : d = w200n + 1 := (by omega); have z := w110t1 w200n (k + 1) (by omega) (by omega); rw [show (w5n + 1) + w200n = w143n by omega] at z; rw [z, pDg.y (by omega)]; exact congrArg (pDg g k) (by omega)) (by omega)
    refine zGo.locals (ls' := [(0, .ref 155), (1, .int (1 : Int32)), (2, .int (0 : Int32)), (3, .int (0 : Int32))]) (by simp) ?_
    have w202 := li0
    have w203 := li0
    have w204 : (zI (zsI (zsI M 155 5 (zI M 155 2)) 155 2 w107v) 155 2).toInt = ((zI M 155 2).toInt + 1) := (congrArg Int32.toInt zIs).trans w107
    have w205 : (zI (zsI (zsI M 155 5 (zI M 155 2)) 155 2 w107v) 155 1).toInt = (zI M 155 1).toInt := (congrArg Int32.toInt ((zIoj (by decide)).trans ((zIoj (by decide)).trans rfl))).trans rfl
    have w206 : (zI (zsI (zsI M 155 5 (zI M 155 2)) 155 2 w107v) 155 2).toInt = ((zI M 155 2).toInt + 1) := (congrArg Int32.toInt zIs).trans w107
    have w207 : (zI (zsI (zsI M 155 5 (zI M 155 2)) 155 2 w107v) 155 1).toInt = (zI M 155 1).toInt := (congrArg Int32.toInt ((zIoj (by decide)).trans ((zIoj (by decide)).trans rfl))).trans rfl
    exact w110L ((4 - 0 : Int).toNat) (0 : Int32) (0 : Int32) (zsI (zsI M 155 5 (zI M 155 2)) 155 2 w107v) ⟨by decide, by decide⟩ ⟨by decide, by decide⟩ hs w108 zFr.refl (by omega) (by omega) (by omega) (by omega) (fun d hd => by obtain rfl : d = 0 := (by omega); rfl) (fun d k hd hk => by obtain rfl : d = 0 := (by omega); obtain rfl : k = 4 := (by omega); rfl) (by omega)
theorem X49_19 {X : zX} {l : Launch} {M : zM} {Q : Option Value → zM → Prop} {a : Int32} (hs : zSk zMc M) (hI : zIv cLo cHi M) {F : Nat → Int} (x0 : zSo M 19 F) (hQ : ∀ (M' : zM) (v : Int32), zSk zMc M' → zIv cLo cHi M' → zFr [(19, 19, some 0), (20, 21, none)] M M' → ((v.toInt = 0 ∧ 8 ≤ F 0 ∧ zSo M' 19 F) ∨ (v.toInt = 1 ∧ F 0 < 8 ∧ zSo M' 19 (pLay F a.toInt))) → 0 ≤ v.toInt → v.toInt ≤ 1 → Q (some (.int v)) M') : zCall X l 0 0 0 49 [.ref 19, .int a] M Q := by
  have ga := zrg a
  refine zs_in (by decide) mf49 (Nat.le_of_ble_eq_true rfl) ?_
  show zGo X l 0 0 0 49 0 [(0, .ref 19), (1, .int a)] [] M _
  have f0 := x0.1
  have w1 := ib19_0 hI
  have w2 : (zI M 19 0).toInt = (zI M 19 0).toInt := (congrArg Int32.toInt rfl).trans rfl
  have w3 := ib19_3 hI
  have w4 : (zI M 19 3).toInt = (zI M 19 3).toInt := (congrArg Int32.toInt rfl).trans rfl
  have w5 := ib19_8 hI
  have w6 : (zI M 19 8).toInt = (zI M 19 8).toInt := (congrArg Int32.toInt rfl).trans rfl
  have f2 := (show (zI M 19 0).toInt = F 0 ∧ (zI M 19 3).toInt = F 1 ∧ (zI M 19 8).toInt = F 2 from ⟨x0.1.1, x0.1.2.1, x0.1.2.2.1⟩)
  refine zs_aload_n (pc := 0) t49_0 rfl ?_
  refine zs_get (pc := 1) t49_1 (by decide) (zk1 (hs.k fk_zMc_19)) (zfvi rfl rfl) ?_
  refine zs_bipush (pc := 4) t49_4 (v := 8) (by decide) ?_
  by_cases w7 : (zI M 19 0).toInt < 8
  · refine zs_icmp_ltT (pc := 6) t49_6 rfl li8 (by omega) ?_
    refine zs_aload_n (pc := 11) t49_11 rfl ?_
    refine zs_get (pc := 12) t49_12 (by decide) (zk1 (hs.k fk_zMc_19)) (hs.p rfl fv_zMc_19_1) ?_
    refine zs_aload_n (pc := 15) t49_15 rfl ?_
    refine zs_get (pc := 16) t49_16 (by decide) (zk1 (hs.k fk_zMc_19)) (zfvi rfl rfl) ?_
    refine zs_iload_n (pc := 19) t49_19 rfl ?_
    obtain ⟨w8n, w8⟩ : ∃ n : Nat, (zI M 19 0).toInt = (n : Int) := ⟨((zI M 19 0).toInt).toNat, by omega⟩
    have w9 : zIv cLo cHi (zsI M 20 w8n a) := zIv.put hI (show (-2147483648) ≤ a.toInt ∧ a.toInt ≤ 2147483647 from zrg a)
    refine zs_iast (pc := 20) t49_20 (j := w8n) (by decide) (zk1 (hs.k fk_zMc_20)) (show (zI M 19 0).toInt = ((w8n : Nat) : Int) by omega) (zk2 (hs.k fk_zMc_20) (by omega)) ?_
    refine zs_aload_n (pc := 21) t49_21 rfl ?_
    refine zs_get (pc := 22) t49_22 (by decide) (zk1 (hs.k fk_zMc_19)) (hs.p rfl fv_zMc_19_2) ?_
    refine zs_aload_n (pc := 25) t49_25 rfl ?_
    refine zs_get (pc := 26) t49_26 (by decide) (zk1 (hs.k fk_zMc_19)) (zfvi rfl ((zIo (by decide)).trans rfl)) ?_
    refine zs_iconst (pc := 29) t49_29 (v := 1) (by decide) ?_
    have w10e : vp_nar .boolean (1 : Int32) = (1 : Int32) := by decide
    have w11 : zIv cLo cHi (zsI (zsI M 20 w8n a) 21 w8n (1 : Int32)) := zIv.put w9 (show 0 ≤ (1 : Int32).toInt ∧ (1 : Int32).toInt ≤ 1 from ⟨by decide, by decide⟩)
    refine zs_bastZ (pc := 30) t49_30 (j := w8n) (by decide) (zk1 (hs.k fk_zMc_21)) (show (zI M 19 0).toInt = ((w8n : Nat) : Int) by omega) (zk2 (hs.k fk_zMc_21) (by omega)) w10e ?_
    refine zs_aload_n (pc := 31) t49_31 rfl ?_
    refine zs_dup (pc := 32) t49_32 rfl ?_
    refine zs_get (pc := 33) t49_33 (by decide) (zk1 (hs.k fk_zMc_19)) (zfvi rfl ((zIo (by decide)).trans ((zIo (by decide)).trans rfl))) ?_
    refine zs_iconst (pc := 36) t49_36 (v := 1) (by decide) ?_
    obtain ⟨w12v, w12e, w12⟩ := ziadd (a := (zI M 19 0)) (b := (1 : Int32)) rfl li1 (by omega) (by omega)
    refine zs_iadd (pc := 37) t49_37 (c := w12v) w12e ?_
    have w13 : zIv cLo cHi (zsI (zsI (zsI M 20 w8n a) 21 w8n (1 : Int32)) 19 0 w12v) := zIv.put w11 (show 0 ≤ w12v.toInt ∧ w12v.toInt ≤ 8 from ⟨by omega, by omega⟩)
    refine zs_putI (pc := 38) t49_38 (zk1 (hs.k fk_zMc_19)) rfl ?_
    refine zs_iconst (pc := 41) t49_41 (v := 1) (by decide) ?_
    have w14 : (1 : Int32).toInt = 1 := li1
    have w15 : w12v.toInt = ((zI M 19 0).toInt + 1) := w12
    exact zs_iret (pc := 42) t49_42 mr49 (by decide) (hQ _ _ hs w13 ((((zFr.refl).put rfl).put rfl).put rfl) (Or.inr ⟨by decide, by omega, zSo.lay (n := w8n) x0 rfl rfl (by omega) (by omega) (by omega) rfl (by omega) (by omega)⟩) (by decide) (by decide))
  · refine zs_icmp_ltF (pc := 6) t49_6 rfl li8 (by omega) ?_
    refine zs_iconst (pc := 9) t49_9 (v := 0) (by decide) ?_
    exact zs_iret (pc := 10) t49_10 mr49 (by decide) (hQ _ _ hs hI (zFr.refl) (Or.inl ⟨by decide, by omega, x0⟩) (by decide) (by decide))
theorem X54 {X : zX} {l : Launch} {M : zM} {Q : Option Value → zM → Prop} {a b : Int32} (hs : zSk zMc M) (hI : zIv cLo cHi M) (hb : 1 ≤ b.toInt ∧ b.toInt ≤ 2147483647) (hQ : ∀ v : Int32, (v.toInt = a.toInt / b.toInt) → Q (some (.int v)) M) : zCall X l 0 0 0 54 [.int a, .int b] M Q := by
  have ga := zrg a
  have gb := zrg b
  refine zs_in (by decide) mf54 (Nat.le_of_ble_eq_true rfl) ?_
  show zGo X l 0 0 0 54 0 [(0, .int a), (1, .int b)] [] M _
  refine zs_iload_n (pc := 0) t54_0 rfl ?_
  refine zs_iload_n (pc := 1) t54_1 rfl ?_
  obtain ⟨w1v, w1⟩ : ∃ v, a / b = v := ⟨_, rfl⟩
  have w1g := zrg w1v
  refine zs_idiv (pc := 2) t54_2 (znz rfl (by omega)) (c := w1v) w1 ?_
  refine zs_istore_n (pc := 3) t54_3 (ls' := [(2, .int w1v), (0, .int a), (1, .int b)]) (zml mf54 (by decide)) rfl ?_
  refine zs_iload_n (pc := 4) t54_4 rfl ?_
  refine zs_iload_n (pc := 5) t54_5 rfl ?_
  obtain ⟨w2v, w2⟩ : ∃ v, a ^^^ b = v := ⟨_, rfl⟩
  have w2g := zrg w2v
  refine zs_ixor (pc := 6) t54_6 (c := w2v) w2 ?_
  by_cases w3 : 0 ≤ w2v.toInt
  · refine zs_if_geT (pc := 7) t54_7 rfl (by omega) ?_
    refine zs_iload_n (pc := 21) t54_21 rfl ?_
    exact zs_iret (pc := 22) t54_22 mr54 rfl (hQ _ (zfloor (eb := b.toInt) rfl (by omega) w1 w2 (m := w1v * b) rfl (Or.inl ⟨Or.inl (by omega), rfl⟩)))
  · refine zs_if_geF (pc := 7) t54_7 rfl (by omega) ?_
    refine zs_iload_n (pc := 10) t54_10 rfl ?_
    refine zs_iload_n (pc := 11) t54_11 rfl ?_
    obtain ⟨w4v, w4⟩ : ∃ v, w1v * b = v := ⟨_, rfl⟩
    have w4g := zrg w4v
    refine zs_imul (pc := 12) t54_12 (c := w4v) w4 ?_
    refine zs_iload_n (pc := 13) t54_13 rfl ?_
    by_cases w5 : w4v.toInt = a.toInt
    · refine zs_icmp_eqT (pc := 14) t54_14 rfl rfl (by omega) ?_
      refine zs_iload_n (pc := 21) t54_21 rfl ?_
      exact zs_iret (pc := 22) t54_22 mr54 rfl (hQ _ (zfloor (eb := b.toInt) rfl (by omega) w1 w2 w4 (Or.inl ⟨Or.inr (Int32.toInt_inj.mp (by omega)), rfl⟩)))
    · refine zs_icmp_eqF (pc := 14) t54_14 rfl rfl (by omega) ?_
      refine zs_iload_n (pc := 17) t54_17 rfl ?_
      refine zs_iconst (pc := 18) t54_18 (v := 1) (by decide) ?_
      obtain ⟨w6v, w6⟩ : ∃ v, v = w1v - (1 : Int32) := ⟨_, rfl⟩
      have w6g := zrg w6v
      refine zs_isub (pc := 19) t54_19 (c := w6v) w6.symm ?_
      exact zs_iret (pc := 20) t54_20 mr54 rfl (hQ _ (zfloor (eb := b.toInt) rfl (by omega) w1 w2 w4 (Or.inr ⟨by omega, fun z => absurd (congrArg Int32.toInt z) (by omega), w6⟩)))
theorem X53_7 {X : zX} {l : Launch} {M : zM} {Q : Option Value → zM → Prop} {a b : Int32} (hs : zSk zMc M) (hI : zIv cLo cHi M) {F : Nat → Int} (x0 : zSo M 7 F) (x1 : zWF F) (hQ : ∀ v : Int32, (∀ l : Nat, (l : Int) = a.toInt → (l : Int) < F 0 → -99 ≤ b.toInt → b.toInt ≤ 99 → v.toInt = b.toInt * F (14 + 2 * l) / 100) → Q (some (.int v)) M) : zCall X l 1 0 0 53 [.ref 7, .int a, .int b] M Q := by
  have ga := zrg a
  have gb := zrg b
  refine zs_in (by decide) mf53 (Nat.le_of_ble_eq_true rfl) ?_
  show zGo X l 1 0 0 53 0 [(0, .ref 7), (1, .int a), (2, .int b)] [] M _
  have f0 := x0.1
  have w1 := ib7_0 hI
  have w2 : (zI M 7 0).toInt = (zI M 7 0).toInt := (congrArg Int32.toInt rfl).trans rfl
  have w3 := ib7_3 hI
  have w4 : (zI M 7 3).toInt = (zI M 7 3).toInt := (congrArg Int32.toInt rfl).trans rfl
  have w5 := ib7_8 hI
  have w6 : (zI M 7 8).toInt = (zI M 7 8).toInt := (congrArg Int32.toInt rfl).trans rfl
  have f1 := x1.1
  have f3 := x1.2.2.2
  have f2 := (show (zI M 7 0).toInt = F 0 ∧ (zI M 7 3).toInt = F 1 ∧ (zI M 7 8).toInt = F 2 from ⟨x0.1.1, x0.1.2.1, x0.1.2.2.1⟩)
  refine zs_aload_n (pc := 0) t53_0 rfl ?_
  refine zs_iload_n (pc := 1) t53_1 rfl ?_
  refine zs_invV (pc := 2) (k := 7) (as' := [.int a]) (st := []) t53_2 mf41 rfl rfl (Or.inl ⟨by decide, (zk1 (hs.k fk_zMc_7))⟩) ⟨by decide, by decide, Nat.le_of_ble_eq_true rfl, Nat.le_of_ble_eq_true rfl⟩ (zs_in (by decide) mf41 (Nat.le_of_ble_eq_true rfl) ?_) (fun _ _ q => q)
  show zGo X l 0 0 0 41 0 [(0, .ref 7), (1, .int a)] [] M _
  refine zs_iload_n (pc := 0) t41_0 rfl ?_
  by_cases w7 : a.toInt < 0
  · refine zs_if_ltT (pc := 1) t41_1 rfl (by omega) ?_
    refine zs_iconst (pc := 16) t41_16 (v := 0) (by decide) ?_
    refine zs_iret (pc := 17) t41_17 mr41 (by decide) ?_
    show zGo X l 1 0 0 53 5 [(0, .ref 7), (1, .int a), (2, .int b)] [.int (0 : Int32)] M _
    refine zs_if_eqT (pc := 5) t53_5 li0 (by decide) ?_
    refine zs_iconst (pc := 24) t53_24 (v := 0) (by decide) ?_
    exact zs_iret (pc := 25) t53_25 mr53 (by decide) (hQ _ (fun l h1 h2 h3 h4 => absurd h2 (by omega)))
  · refine zs_if_ltF (pc := 1) t41_1 rfl (by omega) ?_
    refine zs_iload_n (pc := 4) t41_4 rfl ?_
    refine zs_aload_n (pc := 5) t41_5 rfl ?_
    refine zs_get (pc := 6) t41_6 (by decide) (zk1 (hs.k fk_zMc_7)) (zfvi rfl rfl) ?_
    by_cases w8 : (zI M 7 0).toInt ≤ a.toInt
    · refine zs_icmp_geT (pc := 9) t41_9 rfl rfl (by omega) ?_
      refine zs_iconst (pc := 16) t41_16 (v := 0) (by decide) ?_
      refine zs_iret (pc := 17) t41_17 mr41 (by decide) ?_
      show zGo X l 1 0 0 53 5 [(0, .ref 7), (1, .int a), (2, .int b)] [.int (0 : Int32)] M _
      refine zs_if_eqT (pc := 5) t53_5 li0 (by decide) ?_
      refine zs_iconst (pc := 24) t53_24 (v := 0) (by decide) ?_
      exact zs_iret (pc := 25) t53_25 mr53 (by decide) (hQ _ (fun l h1 h2 h3 h4 => absurd h2 (by omega)))
    · refine zs_icmp_geF (pc := 9) t41_9 rfl rfl (by omega) ?_
      refine zs_iconst (pc := 12) t41_12 (v := 1) (by decide) ?_
      refine zs_goto (pc := 13) t41_13 ?_
      refine zs_iret (pc := 17) t41_17 mr41 (by decide) ?_
      show zGo X l 1 0 0 53 5 [(0, .ref 7), (1, .int a), (2, .int b)] [.int (1 : Int32)] M _
      refine zs_if_eqF (pc := 5) t53_5 li1 (by decide) ?_
      refine zs_iload_n (pc := 8) t53_8 rfl ?_
      refine zs_aload_n (pc := 9) t53_9 rfl ?_
      refine zs_get (pc := 10) t53_10 (by decide) (zk1 (hs.k fk_zMc_7)) (hs.p rfl fv_zMc_7_1) ?_
      refine zs_iload_n (pc := 13) t53_13 rfl ?_
      obtain ⟨w9n, w9⟩ : ∃ n : Nat, a.toInt = (n : Int) := ⟨(a.toInt).toNat, by omega⟩
      have w10 := zrg (zI M 8 w9n)
      have w11 : (zI M 8 w9n).toInt = F (14 + 2 * w9n) ∧ (zI M 9 w9n).toInt = F (15 + 2 * w9n) := x0.2.1 w9n (by omega)
      have w12 := x1.2.1 w9n (by omega)
      refine zs_iald (pc := 14) t53_14 (j := w9n) (by decide) (zk1 (hs.k fk_zMc_8)) (show a.toInt = ((w9n : Nat) : Int) by omega) (zk2 (hs.k fk_zMc_8) (by omega)) rfl ?_
      obtain ⟨w13v, w13⟩ : ∃ v, b * (zI M 8 w9n) = v := ⟨_, rfl⟩
      have w13g := zrg w13v
      refine zs_imul (pc := 15) t53_15 (c := w13v) w13 ?_
      refine zs_bipush (pc := 16) t53_16 (v := 100) (by decide) ?_
      have w14 : (100 : Int32).toInt = 100 := li100
      refine zs_invS (pc := 18) (as := [.int w13v, .int (100 : Int32)]) (st := []) t53_18 (by decide) mf54 rfl rfl ⟨by decide, by decide, Nat.le_of_ble_eq_true rfl, Nat.le_of_ble_eq_true rfl⟩ (X54 hs hI ⟨by decide, by decide⟩ ?_) (fun _ _ q => q)
      intro w15v w15x0
      have w15g := zrg w15v
      show zGo X l 1 0 0 53 21 [(0, .ref 7), (1, .int a), (2, .int b)] [.int w15v] M _
      refine zs_goto (pc := 21) t53_21 ?_
      exact zs_iret (pc := 25) t53_25 mr53 rfl (hQ _ (fun l h1 h2 h3 h4 => by
          obtain rfl : w9n = l := (by omega)
          have z := zml3 (A := 99) (B := 999) h3 h4 (show 0 ≤ F (14 + 2 * w9n) by omega) (by omega) (by omega)
          have e : (w13v).toInt = b.toInt * F (14 + 2 * w9n) := (by rw [← w13]; exact zmulc rfl (show (zI M 8 w9n).toInt = F (14 + 2 * w9n) by omega) (by omega) (by omega))
          exact (w15x0).trans (by rw [e, li100])))
theorem X53_19 {X : zX} {l : Launch} {M : zM} {Q : Option Value → zM → Prop} {a b : Int32} (hs : zSk zMc M) (hI : zIv cLo cHi M) {F : Nat → Int} (x0 : zSo M 19 F) (x1 : zWF F) (hQ : ∀ v : Int32, (∀ l : Nat, (l : Int) = a.toInt → (l : Int) < F 0 → -99 ≤ b.toInt → b.toInt ≤ 99 → v.toInt = b.toInt * F (14 + 2 * l) / 100) → Q (some (.int v)) M) : zCall X l 1 0 0 53 [.ref 19, .int a, .int b] M Q := by
  have ga := zrg a
  have gb := zrg b
  refine zs_in (by decide) mf53 (Nat.le_of_ble_eq_true rfl) ?_
  show zGo X l 1 0 0 53 0 [(0, .ref 19), (1, .int a), (2, .int b)] [] M _
  have f0 := x0.1
  have w1 := ib19_0 hI
  have w2 : (zI M 19 0).toInt = (zI M 19 0).toInt := (congrArg Int32.toInt rfl).trans rfl
  have w3 := ib19_3 hI
  have w4 : (zI M 19 3).toInt = (zI M 19 3).toInt := (congrArg Int32.toInt rfl).trans rfl
  have w5 := ib19_8 hI
  have w6 : (zI M 19 8).toInt = (zI M 19 8).toInt := (congrArg Int32.toInt rfl).trans rfl
  have f1 := x1.1
  have f3 := x1.2.2.2
  have f2 := (show (zI M 19 0).toInt = F 0 ∧ (zI M 19 3).toInt = F 1 ∧ (zI M 19 8).toInt = F 2 from ⟨x0.1.1, x0.1.2.1, x0.1.2.2.1⟩)
  refine zs_aload_n (pc := 0) t53_0 rfl ?_
  refine zs_iload_n (pc := 1) t53_1 rfl ?_
  refine zs_invV (pc := 2) (k := 19) (as' := [.int a]) (st := []) t53_2 mf41 rfl rfl (Or.inl ⟨by decide, (zk1 (hs.k fk_zMc_19))⟩) ⟨by decide, by decide, Nat.le_of_ble_eq_true rfl, Nat.le_of_ble_eq_true rfl⟩ (zs_in (by decide) mf41 (Nat.le_of_ble_eq_true rfl) ?_) (fun _ _ q => q)
  show zGo X l 0 0 0 41 0 [(0, .ref 19), (1, .int a)] [] M _
  refine zs_iload_n (pc := 0) t41_0 rfl ?_
  by_cases w7 : a.toInt < 0
  · refine zs_if_ltT (pc := 1) t41_1 rfl (by omega) ?_
    refine zs_iconst (pc := 16) t41_16 (v := 0) (by decide) ?_
    refine zs_iret (pc := 17) t41_17 mr41 (by decide) ?_
    show zGo X l 1 0 0 53 5 [(0, .ref 19), (1, .int a), (2, .int b)] [.int (0 : Int32)] M _
    refine zs_if_eqT (pc := 5) t53_5 li0 (by decide) ?_
    refine zs_iconst (pc := 24) t53_24 (v := 0) (by decide) ?_
    exact zs_iret (pc := 25) t53_25 mr53 (by decide) (hQ _ (fun l h1 h2 h3 h4 => absurd h2 (by omega)))
  · refine zs_if_ltF (pc := 1) t41_1 rfl (by omega) ?_
    refine zs_iload_n (pc := 4) t41_4 rfl ?_
    refine zs_aload_n (pc := 5) t41_5 rfl ?_
    refine zs_get (pc := 6) t41_6 (by decide) (zk1 (hs.k fk_zMc_19)) (zfvi rfl rfl) ?_
    by_cases w8 : (zI M 19 0).toInt ≤ a.toInt
    · refine zs_icmp_geT (pc := 9) t41_9 rfl rfl (by omega) ?_
      refine zs_iconst (pc := 16) t41_16 (v := 0) (by decide) ?_
      refine zs_iret (pc := 17) t41_17 mr41 (by decide) ?_
      show zGo X l 1 0 0 53 5 [(0, .ref 19), (1, .int a), (2, .int b)] [.int (0 : Int32)] M _
      refine zs_if_eqT (pc := 5) t53_5 li0 (by decide) ?_
      refine zs_iconst (pc := 24) t53_24 (v := 0) (by decide) ?_
      exact zs_iret (pc := 25) t53_25 mr53 (by decide) (hQ _ (fun l h1 h2 h3 h4 => absurd h2 (by omega)))
    · refine zs_icmp_geF (pc := 9) t41_9 rfl rfl (by omega) ?_
      refine zs_iconst (pc := 12) t41_12 (v := 1) (by decide) ?_
      refine zs_goto (pc := 13) t41_13 ?_
      refine zs_iret (pc := 17) t41_17 mr41 (by decide) ?_
      show zGo X l 1 0 0 53 5 [(0, .ref 19), (1, .int a), (2, .int b)] [.int (1 : Int32)] M _
      refine zs_if_eqF (pc := 5) t53_5 li1 (by decide) ?_
      refine zs_iload_n (pc := 8) t53_8 rfl ?_
      refine zs_aload_n (pc := 9) t53_9 rfl ?_
      refine zs_get (pc := 10) t53_10 (by decide) (zk1 (hs.k fk_zMc_19)) (hs.p rfl fv_zMc_19_1) ?_
      refine zs_iload_n (pc := 13) t53_13 rfl ?_
      obtain ⟨w9n, w9⟩ : ∃ n : Nat, a.toInt = (n : Int) := ⟨(a.toInt).toNat, by omega⟩
      have w10 := zrg (zI M 20 w9n)
      have w11 : (zI M 20 w9n).toInt = F (14 + 2 * w9n) ∧ (zI M 21 w9n).toInt = F (15 + 2 * w9n) := x0.2.1 w9n (by omega)
      have w12 := x1.2.1 w9n (by omega)
      refine zs_iald (pc := 14) t53_14 (j := w9n) (by decide) (zk1 (hs.k fk_zMc_20)) (show a.toInt = ((w9n : Nat) : Int) by omega) (zk2 (hs.k fk_zMc_20) (by omega)) rfl ?_
      obtain ⟨w13v, w13⟩ : ∃ v, b * (zI M 20 w9n) = v := ⟨_, rfl⟩
      have w13g := zrg w13v
      refine zs_imul (pc := 15) t53_15 (c := w13v) w13 ?_
      refine zs_bipush (pc := 16) t53_16 (v := 100) (by decide) ?_
      have w14 : (100 : Int32).toInt = 100 := li100
      refine zs_invS (pc := 18) (as := [.int w13v, .int (100 : Int32)]) (st := []) t53_18 (by decide) mf54 rfl rfl ⟨by decide, by decide, Nat.le_of_ble_eq_true rfl, Nat.le_of_ble_eq_true rfl⟩ (X54 hs hI ⟨by decide, by decide⟩ ?_) (fun _ _ q => q)
      intro w15v w15x0
      have w15g := zrg w15v
      show zGo X l 1 0 0 53 21 [(0, .ref 19), (1, .int a), (2, .int b)] [.int w15v] M _
      refine zs_goto (pc := 21) t53_21 ?_
      exact zs_iret (pc := 25) t53_25 mr53 rfl (hQ _ (fun l h1 h2 h3 h4 => by
          obtain rfl : w9n = l := (by omega)
          have z := zml3 (A := 99) (B := 999) h3 h4 (show 0 ≤ F (14 + 2 * w9n) by omega) (by omega) (by omega)
          have e : (w13v).toInt = b.toInt * F (14 + 2 * w9n) := (by rw [← w13]; exact zmulc rfl (show (zI M 20 w9n).toInt = F (14 + 2 * w9n) by omega) (by omega) (by omega))
          exact (w15x0).trans (by rw [e, li100])))
theorem X55_7 {X : zX} {l : Launch} {M : zM} {Q : Option Value → zM → Prop} {a b : Int32} (hs : zSk zMc M) (hI : zIv cLo cHi M) {F : Nat → Int} (x0 : zSo M 7 F) (x1 : zWF F) (hQ : ∀ v : Int32, (∀ l : Nat, (l : Int) = a.toInt → (l : Int) < F 0 → -99 ≤ b.toInt → b.toInt ≤ 99 → v.toInt = b.toInt * F (14 + 2 * l) * F (14 + 2 * l) / 10000) → Q (some (.int v)) M) : zCall X l 1 0 0 55 [.ref 7, .int a, .int b] M Q := by
  have ga := zrg a
  have gb := zrg b
  refine zs_in (by decide) mf55 (Nat.le_of_ble_eq_true rfl) ?_
  show zGo X l 1 0 0 55 0 [(0, .ref 7), (1, .int a), (2, .int b)] [] M _
  have f0 := x0.1
  have w1 := ib7_0 hI
  have w2 : (zI M 7 0).toInt = (zI M 7 0).toInt := (congrArg Int32.toInt rfl).trans rfl
  have w3 := ib7_3 hI
  have w4 : (zI M 7 3).toInt = (zI M 7 3).toInt := (congrArg Int32.toInt rfl).trans rfl
  have w5 := ib7_8 hI
  have w6 : (zI M 7 8).toInt = (zI M 7 8).toInt := (congrArg Int32.toInt rfl).trans rfl
  have f1 := x1.1
  have f3 := x1.2.2.2
  have f2 := (show (zI M 7 0).toInt = F 0 ∧ (zI M 7 3).toInt = F 1 ∧ (zI M 7 8).toInt = F 2 from ⟨x0.1.1, x0.1.2.1, x0.1.2.2.1⟩)
  refine zs_aload_n (pc := 0) t55_0 rfl ?_
  refine zs_iload_n (pc := 1) t55_1 rfl ?_
  refine zs_invV (pc := 2) (k := 7) (as' := [.int a]) (st := []) t55_2 mf41 rfl rfl (Or.inl ⟨by decide, (zk1 (hs.k fk_zMc_7))⟩) ⟨by decide, by decide, Nat.le_of_ble_eq_true rfl, Nat.le_of_ble_eq_true rfl⟩ (zs_in (by decide) mf41 (Nat.le_of_ble_eq_true rfl) ?_) (fun _ _ q => q)
  show zGo X l 0 0 0 41 0 [(0, .ref 7), (1, .int a)] [] M _
  refine zs_iload_n (pc := 0) t41_0 rfl ?_
  by_cases w7 : a.toInt < 0
  · refine zs_if_ltT (pc := 1) t41_1 rfl (by omega) ?_
    refine zs_iconst (pc := 16) t41_16 (v := 0) (by decide) ?_
    refine zs_iret (pc := 17) t41_17 mr41 (by decide) ?_
    show zGo X l 1 0 0 55 5 [(0, .ref 7), (1, .int a), (2, .int b)] [.int (0 : Int32)] M _
    refine zs_if_eqT (pc := 5) t55_5 li0 (by decide) ?_
    refine zs_iconst (pc := 32) t55_32 (v := 0) (by decide) ?_
    exact zs_iret (pc := 33) t55_33 mr55 (by decide) (hQ _ (fun l h1 h2 h3 h4 => absurd h2 (by omega)))
  · refine zs_if_ltF (pc := 1) t41_1 rfl (by omega) ?_
    refine zs_iload_n (pc := 4) t41_4 rfl ?_
    refine zs_aload_n (pc := 5) t41_5 rfl ?_
    refine zs_get (pc := 6) t41_6 (by decide) (zk1 (hs.k fk_zMc_7)) (zfvi rfl rfl) ?_
    by_cases w8 : (zI M 7 0).toInt ≤ a.toInt
    · refine zs_icmp_geT (pc := 9) t41_9 rfl rfl (by omega) ?_
      refine zs_iconst (pc := 16) t41_16 (v := 0) (by decide) ?_
      refine zs_iret (pc := 17) t41_17 mr41 (by decide) ?_
      show zGo X l 1 0 0 55 5 [(0, .ref 7), (1, .int a), (2, .int b)] [.int (0 : Int32)] M _
      refine zs_if_eqT (pc := 5) t55_5 li0 (by decide) ?_
      refine zs_iconst (pc := 32) t55_32 (v := 0) (by decide) ?_
      exact zs_iret (pc := 33) t55_33 mr55 (by decide) (hQ _ (fun l h1 h2 h3 h4 => absurd h2 (by omega)))
    · refine zs_icmp_geF (pc := 9) t41_9 rfl rfl (by omega) ?_
      refine zs_iconst (pc := 12) t41_12 (v := 1) (by decide) ?_
      refine zs_goto (pc := 13) t41_13 ?_
      refine zs_iret (pc := 17) t41_17 mr41 (by decide) ?_
      show zGo X l 1 0 0 55 5 [(0, .ref 7), (1, .int a), (2, .int b)] [.int (1 : Int32)] M _
      refine zs_if_eqF (pc := 5) t55_5 li1 (by decide) ?_
      refine zs_iload_n (pc := 8) t55_8 rfl ?_
      refine zs_aload_n (pc := 9) t55_9 rfl ?_
      refine zs_get (pc := 10) t55_10 (by decide) (zk1 (hs.k fk_zMc_7)) (hs.p rfl fv_zMc_7_1) ?_
      refine zs_iload_n (pc := 13) t55_13 rfl ?_
      obtain ⟨w9n, w9⟩ : ∃ n : Nat, a.toInt = (n : Int) := ⟨(a.toInt).toNat, by omega⟩
      have w10 := zrg (zI M 8 w9n)
      have w11 : (zI M 8 w9n).toInt = F (14 + 2 * w9n) ∧ (zI M 9 w9n).toInt = F (15 + 2 * w9n) := x0.2.1 w9n (by omega)
      have w12 := x1.2.1 w9n (by omega)
      refine zs_iald (pc := 14) t55_14 (j := w9n) (by decide) (zk1 (hs.k fk_zMc_8)) (show a.toInt = ((w9n : Nat) : Int) by omega) (zk2 (hs.k fk_zMc_8) (by omega)) rfl ?_
      obtain ⟨w13v, w13⟩ : ∃ v, b * (zI M 8 w9n) = v := ⟨_, rfl⟩
      have w13g := zrg w13v
      refine zs_imul (pc := 15) t55_15 (c := w13v) w13 ?_
      refine zs_aload_n (pc := 16) t55_16 rfl ?_
      refine zs_get (pc := 17) t55_17 (by decide) (zk1 (hs.k fk_zMc_7)) (hs.p rfl fv_zMc_7_1) ?_
      refine zs_iload_n (pc := 20) t55_20 rfl ?_
      have w14 : (zI M 8 w9n).toInt = F (14 + 2 * w9n) ∧ (zI M 9 w9n).toInt = F (15 + 2 * w9n) := x0.2.1 w9n (by omega)
      have w15 := x1.2.1 w9n (by omega)
      refine zs_iald (pc := 21) t55_21 (j := w9n) (by decide) (zk1 (hs.k fk_zMc_8)) (show a.toInt = ((w9n : Nat) : Int) by omega) (zk2 (hs.k fk_zMc_8) (by omega)) rfl ?_
      obtain ⟨w16v, w16⟩ : ∃ v, w13v * (zI M 8 w9n) = v := ⟨_, rfl⟩
      have w16g := zrg w16v
      refine zs_imul (pc := 22) t55_22 (c := w16v) w16 ?_
      refine zs_sipush (pc := 23) t55_23 (v := 10000) (by decide) ?_
      have w17 : (10000 : Int32).toInt = 10000 := li10000
      refine zs_invS (pc := 26) (as := [.int w16v, .int (10000 : Int32)]) (st := []) t55_26 (by decide) mf54 rfl rfl ⟨by decide, by decide, Nat.le_of_ble_eq_true rfl, Nat.le_of_ble_eq_true rfl⟩ (X54 hs hI ⟨by decide, by decide⟩ ?_) (fun _ _ q => q)
      intro w18v w18x0
      have w18g := zrg w18v
      show zGo X l 1 0 0 55 29 [(0, .ref 7), (1, .int a), (2, .int b)] [.int w18v] M _
      refine zs_goto (pc := 29) t55_29 ?_
      exact zs_iret (pc := 33) t55_33 mr55 rfl (hQ _ (fun l h1 h2 h3 h4 => by
          obtain rfl : w9n = l := (by omega)
          have z := zml3 (A := 99) (B := 999) h3 h4 (show 0 ≤ F (14 + 2 * w9n) by omega) (by omega) (by omega)
          have z2 := zml3 (a := b.toInt * F (14 + 2 * w9n)) (A := 98901) (B := 999) (by omega) (by omega) (show 0 ≤ F (14 + 2 * w9n) by omega) (by omega) (by omega)
          have e : (w13v).toInt = b.toInt * F (14 + 2 * w9n) := (by rw [← w13]; exact zmulc rfl (show (zI M 8 w9n).toInt = F (14 + 2 * w9n) by omega) (by omega) (by omega))
          have e2 : (w16v).toInt = b.toInt * F (14 + 2 * w9n) * F (14 + 2 * w9n) := (by rw [← w16]; exact zmulc e (show (zI M 8 w9n).toInt = F (14 + 2 * w9n) by omega) (by omega) (by omega))
          exact (w18x0).trans (by rw [e2, li10000])))
theorem X55_19 {X : zX} {l : Launch} {M : zM} {Q : Option Value → zM → Prop} {a b : Int32} (hs : zSk zMc M) (hI : zIv cLo cHi M) {F : Nat → Int} (x0 : zSo M 19 F) (x1 : zWF F) (hQ : ∀ v : Int32, (∀ l : Nat, (l : Int) = a.toInt → (l : Int) < F 0 → -99 ≤ b.toInt → b.toInt ≤ 99 → v.toInt = b.toInt * F (14 + 2 * l) * F (14 + 2 * l) / 10000) → Q (some (.int v)) M) : zCall X l 1 0 0 55 [.ref 19, .int a, .int b] M Q := by
  have ga := zrg a
  have gb := zrg b
  refine zs_in (by decide) mf55 (Nat.le_of_ble_eq_true rfl) ?_
  show zGo X l 1 0 0 55 0 [(0, .ref 19), (1, .int a), (2, .int b)] [] M _
  have f0 := x0.1
  have w1 := ib19_0 hI
  have w2 : (zI M 19 0).toInt = (zI M 19 0).toInt := (congrArg Int32.toInt rfl).trans rfl
  have w3 := ib19_3 hI
  have w4 : (zI M 19 3).toInt = (zI M 19 3).toInt := (congrArg Int32.toInt rfl).trans rfl
  have w5 := ib19_8 hI
  have w6 : (zI M 19 8).toInt = (zI M 19 8).toInt := (congrArg Int32.toInt rfl).trans rfl
  have f1 := x1.1
  have f3 := x1.2.2.2
  have f2 := (show (zI M 19 0).toInt = F 0 ∧ (zI M 19 3).toInt = F 1 ∧ (zI M 19 8).toInt = F 2 from ⟨x0.1.1, x0.1.2.1, x0.1.2.2.1⟩)
  refine zs_aload_n (pc := 0) t55_0 rfl ?_
  refine zs_iload_n (pc := 1) t55_1 rfl ?_
  refine zs_invV (pc := 2) (k := 19) (as' := [.int a]) (st := []) t55_2 mf41 rfl rfl (Or.inl ⟨by decide, (zk1 (hs.k fk_zMc_19))⟩) ⟨by decide, by decide, Nat.le_of_ble_eq_true rfl, Nat.le_of_ble_eq_true rfl⟩ (zs_in (by decide) mf41 (Nat.le_of_ble_eq_true rfl) ?_) (fun _ _ q => q)
  show zGo X l 0 0 0 41 0 [(0, .ref 19), (1, .int a)] [] M _
  refine zs_iload_n (pc := 0) t41_0 rfl ?_
  by_cases w7 : a.toInt < 0
  · refine zs_if_ltT (pc := 1) t41_1 rfl (by omega) ?_
    refine zs_iconst (pc := 16) t41_16 (v := 0) (by decide) ?_
    refine zs_iret (pc := 17) t41_17 mr41 (by decide) ?_
    show zGo X l 1 0 0 55 5 [(0, .ref 19), (1, .int a), (2, .int b)] [.int (0 : Int32)] M _
    refine zs_if_eqT (pc := 5) t55_5 li0 (by decide) ?_
    refine zs_iconst (pc := 32) t55_32 (v := 0) (by decide) ?_
    exact zs_iret (pc := 33) t55_33 mr55 (by decide) (hQ _ (fun l h1 h2 h3 h4 => absurd h2 (by omega)))
  · refine zs_if_ltF (pc := 1) t41_1 rfl (by omega) ?_
    refine zs_iload_n (pc := 4) t41_4 rfl ?_
    refine zs_aload_n (pc := 5) t41_5 rfl ?_
    refine zs_get (pc := 6) t41_6 (by decide) (zk1 (hs.k fk_zMc_19)) (zfvi rfl rfl) ?_
    by_cases w8 : (zI M 19 0).toInt ≤ a.toInt
    · refine zs_icmp_geT (pc := 9) t41_9 rfl rfl (by omega) ?_
      refine zs_iconst (pc := 16) t41_16 (v := 0) (by decide) ?_
      refine zs_iret (pc := 17) t41_17 mr41 (by decide) ?_
      show zGo X l 1 0 0 55 5 [(0, .ref 19), (1, .int a), (2, .int b)] [.int (0 : Int32)] M _
      refine zs_if_eqT (pc := 5) t55_5 li0 (by decide) ?_
      refine zs_iconst (pc := 32) t55_32 (v := 0) (by decide) ?_
      exact zs_iret (pc := 33) t55_33 mr55 (by decide) (hQ _ (fun l h1 h2 h3 h4 => absurd h2 (by omega)))
    · refine zs_icmp_geF (pc := 9) t41_9 rfl rfl (by omega) ?_
      refine zs_iconst (pc := 12) t41_12 (v := 1) (by decide) ?_
      refine zs_goto (pc := 13) t41_13 ?_
      refine zs_iret (pc := 17) t41_17 mr41 (by decide) ?_
      show zGo X l 1 0 0 55 5 [(0, .ref 19), (1, .int a), (2, .int b)] [.int (1 : Int32)] M _
      refine zs_if_eqF (pc := 5) t55_5 li1 (by decide) ?_
      refine zs_iload_n (pc := 8) t55_8 rfl ?_
      refine zs_aload_n (pc := 9) t55_9 rfl ?_
      refine zs_get (pc := 10) t55_10 (by decide) (zk1 (hs.k fk_zMc_19)) (hs.p rfl fv_zMc_19_1) ?_
      refine zs_iload_n (pc := 13) t55_13 rfl ?_
      obtain ⟨w9n, w9⟩ : ∃ n : Nat, a.toInt = (n : Int) := ⟨(a.toInt).toNat, by omega⟩
      have w10 := zrg (zI M 20 w9n)
      have w11 : (zI M 20 w9n).toInt = F (14 + 2 * w9n) ∧ (zI M 21 w9n).toInt = F (15 + 2 * w9n) := x0.2.1 w9n (by omega)
      have w12 := x1.2.1 w9n (by omega)
      refine zs_iald (pc := 14) t55_14 (j := w9n) (by decide) (zk1 (hs.k fk_zMc_20)) (show a.toInt = ((w9n : Nat) : Int) by omega) (zk2 (hs.k fk_zMc_20) (by omega)) rfl ?_
      obtain ⟨w13v, w13⟩ : ∃ v, b * (zI M 20 w9n) = v := ⟨_, rfl⟩
      have w13g := zrg w13v
      refine zs_imul (pc := 15) t55_15 (c := w13v) w13 ?_
      refine zs_aload_n (pc := 16) t55_16 rfl ?_
      refine zs_get (pc := 17) t55_17 (by decide) (zk1 (hs.k fk_zMc_19)) (hs.p rfl fv_zMc_19_1) ?_
      refine zs_iload_n (pc := 20) t55_20 rfl ?_
      have w14 : (zI M 20 w9n).toInt = F (14 + 2 * w9n) ∧ (zI M 21 w9n).toInt = F (15 + 2 * w9n) := x0.2.1 w9n (by omega)
      have w15 := x1.2.1 w9n (by omega)
      refine zs_iald (pc := 21) t55_21 (j := w9n) (by decide) (zk1 (hs.k fk_zMc_20)) (show a.toInt = ((w9n : Nat) : Int) by omega) (zk2 (hs.k fk_zMc_20) (by omega)) rfl ?_
      obtain ⟨w16v, w16⟩ : ∃ v, w13v * (zI M 20 w9n) = v := ⟨_, rfl⟩
      have w16g := zrg w16v
      refine zs_imul (pc := 22) t55_22 (c := w16v) w16 ?_
      refine zs_sipush (pc := 23) t55_23 (v := 10000) (by decide) ?_
      have w17 : (10000 : Int32).toInt = 10000 := li10000
      refine zs_invS (pc := 26) (as := [.int w16v, .int (10000 : Int32)]) (st := []) t55_26 (by decide) mf54 rfl rfl ⟨by decide, by decide, Nat.le_of_ble_eq_true rfl, Nat.le_of_ble_eq_true rfl⟩ (X54 hs hI ⟨by decide, by decide⟩ ?_) (fun _ _ q => q)
      intro w18v w18x0
      have w18g := zrg w18v
      show zGo X l 1 0 0 55 29 [(0, .ref 19), (1, .int a), (2, .int b)] [.int w18v] M _
      refine zs_goto (pc := 29) t55_29 ?_
      exact zs_iret (pc := 33) t55_33 mr55 rfl (hQ _ (fun l h1 h2 h3 h4 => by
          obtain rfl : w9n = l := (by omega)
          have z := zml3 (A := 99) (B := 999) h3 h4 (show 0 ≤ F (14 + 2 * w9n) by omega) (by omega) (by omega)
          have z2 := zml3 (a := b.toInt * F (14 + 2 * w9n)) (A := 98901) (B := 999) (by omega) (by omega) (show 0 ≤ F (14 + 2 * w9n) by omega) (by omega) (by omega)
          have e : (w13v).toInt = b.toInt * F (14 + 2 * w9n) := (by rw [← w13]; exact zmulc rfl (show (zI M 20 w9n).toInt = F (14 + 2 * w9n) by omega) (by omega) (by omega))
          have e2 : (w16v).toInt = b.toInt * F (14 + 2 * w9n) * F (14 + 2 * w9n) := (by rw [← w16]; exact zmulc e (show (zI M 20 w9n).toInt = F (14 + 2 * w9n) by omega) (by omega) (by omega))
          exact (w18x0).trans (by rw [e2, li10000])))
