theorem X83_157_155 {X : zX} {l : Launch} {M : zM} {Q : Option Value → zM → Prop} (hs : zSk zMc M) (hI : zIv cLo cHi M) {g : Nat → Int} {nn : Int} (x0 : zTa M g nn) (hQ : ∀ (M' : zM) (v : Int32), zSk zMc M' → zIv cLo cHi M' → zFr [(159, 160, none), (155, 155, some 2), (155, 155, some 3), (155, 155, some 4), (155, 155, some 5)] M M' → ((v.toInt = -1 ∧ gR (aSt g nn) (0, 0, aZ) none) ∨ (0 ≤ v.toInt ∧ ∃ L : Nat → aT, gR (aSt g nn) (0, 0, aZ) (some (v.toInt.toNat, L)) ∧ zAl M' v.toInt.toNat L)) → (-1) ≤ v.toInt → v.toInt ≤ 20 → Q (some (.int v)) M') : zCall X l 4 0 0 83 [.ref 157, .ref 155] M Q := by
  refine zs_in (by decide) mf83 (Nat.le_of_ble_eq_true rfl) ?_
  show zGo X l 4 0 0 83 0 [(0, .ref 157), (1, .ref 155)] [] M _
  have hn := x0.2
  have w1 := ib155_1 hI
  have w2 : (zI M 155 1).toInt = (zI M 155 1).toInt := (congrArg Int32.toInt rfl).trans rfl
  refine zs_aload_n (pc := 0) t83_0 rfl ?_
  refine zs_invV (pc := 1) (k := 155) (as' := []) (st := []) t83_1 mf26 rfl rfl (Or.inl ⟨by decide, (zk1 (hs.k fk_zMc_155))⟩) ⟨by decide, by decide, Nat.le_of_ble_eq_true rfl, Nat.le_of_ble_eq_true rfl⟩ (zs_in (by decide) mf26 (Nat.le_of_ble_eq_true rfl) ?_) (fun _ _ q => q)
  show zGo X l 0 0 0 26 0 [(0, .ref 155)] [] M _
  refine zs_aload_n (pc := 0) t26_0 rfl ?_
  refine zs_iconst (pc := 1) t26_1 (v := 0) (by decide) ?_
  have w3 : zIv cLo cHi (zsI M 155 2 (0 : Int32)) := zIv.put hI (show (-2147483648) ≤ (0 : Int32).toInt ∧ (0 : Int32).toInt ≤ 2147483647 from zrg (0 : Int32))
  refine zs_putI (pc := 2) t26_2 (zk1 (hs.k fk_zMc_155)) rfl ?_
  refine zs_aload_n (pc := 5) t26_5 rfl ?_
  refine zs_iconst (pc := 6) t26_6 (v := -1) (by decide) ?_
  have w4 : zIv cLo cHi (zsI (zsI M 155 2 (0 : Int32)) 155 3 (-1 : Int32)) := zIv.put w3 (show (-2147483648) ≤ (-1 : Int32).toInt ∧ (-1 : Int32).toInt ≤ 2147483647 from zrg (-1 : Int32))
  refine zs_putI (pc := 7) t26_7 (zk1 (hs.k fk_zMc_155)) rfl ?_
  refine zs_vret (pc := 10) t26_10 mr26 ?_
  show zGo X l 4 0 0 83 4 [(0, .ref 157), (1, .ref 155)] [] (zsI (zsI M 155 2 (0 : Int32)) 155 3 (-1 : Int32)) _
  refine zs_iconst (pc := 4) t83_4 (v := 0) (by decide) ?_
  refine zs_istore_n (pc := 5) t83_5 (ls' := [(2, .int (0 : Int32)), (0, .ref 157), (1, .ref 155)]) (zml mf83 (by decide)) rfl ?_
  have w5L : ∀ (m : Nat) (w5x2 : Int32) (w5M : zM), (0 ≤ w5x2.toInt ∧ w5x2.toInt ≤ 20) → zSk zMc w5M → zIv cLo cHi w5M → zFr [(159, 160, none), (155, 155, some 2), (155, 155, some 3), (155, 155, some 4), (155, 155, some 5)] (zsI (zsI M 155 2 (0 : Int32)) 155 3 (-1 : Int32)) w5M → (0 ≤ (zI w5M 155 2).toInt) → ((zI w5M 155 2).toInt ≤ (zI w5M 155 1).toInt) → ((zI w5M 155 1).toInt = (zI M 155 1).toInt) → (∀ p k : Nat, (p : Int) = (zI w5M 155 2).toInt → (k : Int) = w5x2.toInt → ∃ L, gEq (aSt g nn) (0, 0, aZ) (p, k, L) ∧ zAl w5M k L) → 20 - w5x2.toInt ≤ (m : Int) → zGo X l 4 0 0 83 6 [(0, .ref 157), (1, .ref 155), (2, .int w5x2)] [] w5M Q := by
    intro m
    induction m using Nat.strongRecOn with
    | ind w5m w5ih =>
      intro w5x2 w5M w5b2 w5s w5I w5F w5r0 w5r1 w5r2 w5t0 w5q
      obtain ⟨w6n, w6⟩ : ∃ n : Nat, (zI w5M 155 2).toInt = (n : Int) := ⟨((zI w5M 155 2).toInt).toNat, by omega⟩
      obtain ⟨w7n, w7⟩ : ∃ n : Nat, w5x2.toInt = (n : Int) := ⟨(w5x2.toInt).toNat, by omega⟩
      obtain ⟨w5A, w5d, w5g⟩ := w5t0 w6n w7n (by omega) (by omega)
      have w8 := zrg (zI w5M 155 2)
      refine zs_iload_n (pc := 6) t83_6 rfl ?_
      refine zs_bipush (pc := 7) t83_7 (v := 20) (by decide) ?_
      by_cases w9 : 20 ≤ w5x2.toInt
      · refine zs_icmp_geT (pc := 9) t83_9 rfl li20 (by omega) ?_
        refine zs_aload_n (pc := 36) t83_36 rfl ?_
        refine zs_invV (pc := 37) (k := 155) (as' := []) (st := []) t83_37 mf27 rfl rfl (Or.inl ⟨by decide, (zk1 (w5s.k fk_zMc_155))⟩) ⟨by decide, by decide, Nat.le_of_ble_eq_true rfl, Nat.le_of_ble_eq_true rfl⟩ (zs_in (by decide) mf27 (Nat.le_of_ble_eq_true rfl) ?_) (fun _ _ q => q)
        show zGo X l 0 0 0 27 0 [(0, .ref 155)] [] w5M _
        refine zs_aload_n (pc := 0) t27_0 rfl ?_
        refine zs_get (pc := 1) t27_1 (by decide) (zk1 (w5s.k fk_zMc_155)) (zfvi rfl rfl) ?_
        refine zs_aload_n (pc := 4) t27_4 rfl ?_
        refine zs_get (pc := 5) t27_5 (by decide) (zk1 (w5s.k fk_zMc_155)) (zfvi rfl ((w5F 155 1 rfl).trans ((zIoj (by decide)).trans ((zIoj (by decide)).trans rfl)))) ?_
        by_cases w10 : (zI w5M 155 2).toInt < (zI M 155 1).toInt
        · refine zs_icmp_ltT (pc := 8) t27_8 rfl rfl (by omega) ?_
          refine zs_iconst (pc := 15) t27_15 (v := 0) (by decide) ?_
          refine zs_iret (pc := 16) t27_16 mr27 (by decide) ?_
          show zGo X l 4 0 0 83 40 [(0, .ref 157), (1, .ref 155), (2, .int w5x2)] [.int (0 : Int32)] w5M _
          refine zs_if_neF (pc := 40) t83_40 li0 (by decide) ?_
          refine zs_aload_n (pc := 43) t83_43 rfl ?_
          refine zs_aload_n (pc := 44) t83_44 rfl ?_
          refine zs_invV (pc := 45) (k := 155) (as' := []) (st := [.ref 155]) t83_45 mf29 rfl rfl (Or.inl ⟨by decide, (zk1 (w5s.k fk_zMc_155))⟩) ⟨by decide, by decide, Nat.le_of_ble_eq_true rfl, Nat.le_of_ble_eq_true rfl⟩ (zs_in (by decide) mf29 (Nat.le_of_ble_eq_true rfl) ?_) (fun _ _ q => q)
          show zGo X l 0 0 0 29 0 [(0, .ref 155)] [] w5M _
          refine zs_aload_n (pc := 0) t29_0 rfl ?_
          refine zs_get (pc := 1) t29_1 (by decide) (zk1 (w5s.k fk_zMc_155)) (zfvi rfl rfl) ?_
          refine zs_iret (pc := 4) t29_4 mr29 rfl ?_
          show zGo X l 4 0 0 83 48 [(0, .ref 157), (1, .ref 155), (2, .int w5x2)] [.int (zI w5M 155 2), .ref 155] w5M _
          refine zs_invV (pc := 48) (k := 155) (as' := [.int (zI w5M 155 2)]) (st := []) t83_48 mf34 rfl rfl (Or.inl ⟨by decide, (zk1 (w5s.k fk_zMc_155))⟩) ⟨by decide, by decide, Nat.le_of_ble_eq_true rfl, Nat.le_of_ble_eq_true rfl⟩ (zs_in (by decide) mf34 (Nat.le_of_ble_eq_true rfl) ?_) (fun _ _ q => q)
          show zGo X l 0 0 0 34 0 [(0, .ref 155), (1, .int (zI w5M 155 2))] [] w5M _
          refine zs_aload_n (pc := 0) t34_0 rfl ?_
          refine zs_iload_n (pc := 1) t34_1 rfl ?_
          have w11 : zIv cLo cHi (zsI w5M 155 3 (zI w5M 155 2)) := zIv.put w5I (show (-2147483648) ≤ (zI w5M 155 2).toInt ∧ (zI w5M 155 2).toInt ≤ 2147483647 from zrg (zI w5M 155 2))
          refine zs_putI (pc := 2) t34_2 (zk1 (w5s.k fk_zMc_155)) rfl ?_
          refine zs_iconst (pc := 5) t34_5 (v := 0) (by decide) ?_
          refine zs_iret (pc := 6) t34_6 mr34 (by decide) ?_
          show zGo X l 4 0 0 83 51 [(0, .ref 157), (1, .ref 155), (2, .int w5x2)] [.int (0 : Int32)] (zsI w5M 155 3 (zI w5M 155 2)) _
          refine zs_pop (pc := 51) t83_51 rfl ?_
          refine zs_iconst (pc := 52) t83_52 (v := -1) (by decide) ?_
          exact zs_iret (pc := 53) t83_53 mr83 (by decide) (hQ _ _ w5s w11 (((((zFr.refl).put rfl).put rfl).trans (w5F.mono rfl)).put rfl) (Or.inl ⟨by decide, w5d.fin (aSt.full (by omega) (by omega))⟩) (by decide) (by decide))
        · refine zs_icmp_ltF (pc := 8) t27_8 rfl rfl (by omega) ?_
          refine zs_iconst (pc := 11) t27_11 (v := 1) (by decide) ?_
          refine zs_goto (pc := 12) t27_12 ?_
          refine zs_iret (pc := 16) t27_16 mr27 (by decide) ?_
          show zGo X l 4 0 0 83 40 [(0, .ref 157), (1, .ref 155), (2, .int w5x2)] [.int (1 : Int32)] w5M _
          refine zs_if_neT (pc := 40) t83_40 li1 (by decide) ?_
          refine zs_iload_n (pc := 54) t83_54 rfl ?_
          exact zs_iret (pc := 55) t83_55 mr83 rfl (hQ _ _ w5s w5I ((((zFr.refl).put rfl).put rfl).trans (w5F.mono rfl)) (Or.inr ⟨by omega, w5A, by rw [show w5x2.toInt.toNat = w7n by omega]; exact ⟨w5d.fin (aSt.end (by omega)), w5g⟩⟩) (by omega) (by omega))
      · refine zs_icmp_geF (pc := 9) t83_9 rfl li20 (by omega) ?_
        refine zs_aload_n (pc := 12) t83_12 rfl ?_
        refine zs_invV (pc := 13) (k := 155) (as' := []) (st := []) t83_13 mf27 rfl rfl (Or.inl ⟨by decide, (zk1 (w5s.k fk_zMc_155))⟩) ⟨by decide, by decide, Nat.le_of_ble_eq_true rfl, Nat.le_of_ble_eq_true rfl⟩ (zs_in (by decide) mf27 (Nat.le_of_ble_eq_true rfl) ?_) (fun _ _ q => q)
        show zGo X l 0 0 0 27 0 [(0, .ref 155)] [] w5M _
        refine zs_aload_n (pc := 0) t27_0 rfl ?_
        refine zs_get (pc := 1) t27_1 (by decide) (zk1 (w5s.k fk_zMc_155)) (zfvi rfl rfl) ?_
        refine zs_aload_n (pc := 4) t27_4 rfl ?_
        refine zs_get (pc := 5) t27_5 (by decide) (zk1 (w5s.k fk_zMc_155)) (zfvi rfl ((w5F 155 1 rfl).trans ((zIoj (by decide)).trans ((zIoj (by decide)).trans rfl)))) ?_
        by_cases w12 : (zI w5M 155 2).toInt < (zI M 155 1).toInt
        · refine zs_icmp_ltT (pc := 8) t27_8 rfl rfl (by omega) ?_
          refine zs_iconst (pc := 15) t27_15 (v := 0) (by decide) ?_
          refine zs_iret (pc := 16) t27_16 mr27 (by decide) ?_
          show zGo X l 4 0 0 83 16 [(0, .ref 157), (1, .ref 155), (2, .int w5x2)] [.int (0 : Int32)] w5M _
          refine zs_if_neF (pc := 16) t83_16 li0 (by decide) ?_
          refine zs_aload_n (pc := 19) t83_19 rfl ?_
          refine zs_aload_n (pc := 20) t83_20 rfl ?_
          refine zs_iload_n (pc := 21) t83_21 rfl ?_
          have w13 : (zI w5M 155 2).toInt = (zI w5M 155 2).toInt := (congrArg Int32.toInt rfl).trans rfl
          have w14 : (zI w5M 155 2).toInt = (zI w5M 155 2).toInt := (congrArg Int32.toInt rfl).trans rfl
          have w15 : (zI w5M 155 1).toInt = (zI M 155 1).toInt := (congrArg Int32.toInt ((w5F 155 1 rfl).trans ((zIoj (by decide)).trans ((zIoj (by decide)).trans rfl)))).trans rfl
          refine zs_invV (pc := 22) (k := 157) (as' := [.ref 155, .int w5x2]) (st := []) t83_22 mf84 rfl rfl (Or.inl ⟨by decide, (zk1 (w5s.k fk_zMc_157))⟩) ⟨by decide, by decide, Nat.le_of_ble_eq_true rfl, Nat.le_of_ble_eq_true rfl⟩ (X84_157_155 w5s w5I ⟨by omega, by omega⟩ (by omega) (by omega) (zTa.fr x0 (zEq.tr (zEq.tr (zEq.put rfl) (zEq.put rfl)) (zFr.eq w5F rfl))) ?_) (fun _ _ q => q)
          intro w16M w16v w16s w16I w16F w16x0 w16a w16b
          show zGo X l 4 0 0 83 25 [(0, .ref 157), (1, .ref 155), (2, .int w5x2)] [.int w16v] w16M _
          have w17a := w5g
          rcases w16x0.1 w6n (by omega) with ⟨w17v, w17e⟩ | ⟨w17v, w17q, w17A, w17e, w17_3, w17_4, w17_5, w17t⟩
          · skip
            refine zs_if_neF (pc := 25) t83_25 rfl (by omega) ?_
            refine zs_iconst (pc := 28) t83_28 (v := -1) (by decide) ?_
            exact zs_iret (pc := 29) t83_29 mr83 (by decide) (hQ _ _ w16s w16I (((((zFr.refl).put rfl).put rfl).trans (w5F.mono rfl)).trans (w16F.mono rfl)) (Or.inl ⟨by decide, w5d.fin (aSt.no (by omega) w17e)⟩) (by decide) (by decide))
          · skip
            have w17u := w17a.up (w17t w7n (by omega)) (fun j hj => w16x0.2.1 j (by omega)) (fun j hj => w16x0.2.2 j (by omega))
            refine zs_if_neT (pc := 25) t83_25 rfl (by omega) ?_
            obtain ⟨w18v, w18e, w18⟩ := ziadd (a := w5x2) (b := Int32.ofInt 1) rfl (show (Int32.ofInt 1).toInt = 1 by decide) (by omega) (by omega)
            refine zs_iinc (pc := 30) t83_30 (ls' := [(2, .int w18v), (0, .ref 157), (1, .ref 155)]) (zml mf83 (by decide)) rfl (c := w18v) w18e rfl ?_
            refine zs_goto (pc := 33) t83_33 ?_
            refine zGo.locals (ls' := [(0, .ref 157), (1, .ref 155), (2, .int w18v)]) (by simp) ?_
            have w19 := w18
            have w20 := zrg (zI w16M 155 2)
            have w21 : (zI w16M 155 2).toInt = (zI w16M 155 2).toInt := (congrArg Int32.toInt rfl).trans rfl
            have w22 : (zI w16M 155 2).toInt = (zI w16M 155 2).toInt := (congrArg Int32.toInt rfl).trans rfl
            have w23 : (zI w16M 155 1).toInt = (zI M 155 1).toInt := (congrArg Int32.toInt ((w16F 155 1 rfl).trans ((w5F 155 1 rfl).trans ((zIoj (by decide)).trans ((zIoj (by decide)).trans rfl))))).trans rfl
            have w24 : (zI w16M 155 1).toInt = (zI M 155 1).toInt := (congrArg Int32.toInt ((w16F 155 1 rfl).trans ((w5F 155 1 rfl).trans ((zIoj (by decide)).trans ((zIoj (by decide)).trans rfl))))).trans rfl
            have w25 : w18v.toInt = (w5x2.toInt + 1) := w18
            exact w5ih (w5m - 1) (by omega) w18v w16M ⟨by omega, by omega⟩ w16s w16I (((zFr.refl).trans (w5F.mono rfl)).trans (w16F.mono rfl)) (by omega) (by omega) (by omega) (fun p k hp hk => by obtain rfl : w17q = p := (by omega); obtain rfl : w7n + 1 = k := (by omega); exact ⟨_, w5d.go (aSt.go (by omega) (by omega) w17e), w17u⟩) (by omega)
        · refine zs_icmp_ltF (pc := 8) t27_8 rfl rfl (by omega) ?_
          refine zs_iconst (pc := 11) t27_11 (v := 1) (by decide) ?_
          refine zs_goto (pc := 12) t27_12 ?_
          refine zs_iret (pc := 16) t27_16 mr27 (by decide) ?_
          show zGo X l 4 0 0 83 16 [(0, .ref 157), (1, .ref 155), (2, .int w5x2)] [.int (1 : Int32)] w5M _
          refine zs_if_neT (pc := 16) t83_16 li1 (by decide) ?_
          refine zs_aload_n (pc := 36) t83_36 rfl ?_
          refine zs_invV (pc := 37) (k := 155) (as' := []) (st := []) t83_37 mf27 rfl rfl (Or.inl ⟨by decide, (zk1 (w5s.k fk_zMc_155))⟩) ⟨by decide, by decide, Nat.le_of_ble_eq_true rfl, Nat.le_of_ble_eq_true rfl⟩ (zs_in (by decide) mf27 (Nat.le_of_ble_eq_true rfl) ?_) (fun _ _ q => q)
          show zGo X l 0 0 0 27 0 [(0, .ref 155)] [] w5M _
          refine zs_aload_n (pc := 0) t27_0 rfl ?_
          refine zs_get (pc := 1) t27_1 (by decide) (zk1 (w5s.k fk_zMc_155)) (zfvi rfl rfl) ?_
          refine zs_aload_n (pc := 4) t27_4 rfl ?_
          refine zs_get (pc := 5) t27_5 (by decide) (zk1 (w5s.k fk_zMc_155)) (zfvi rfl ((w5F 155 1 rfl).trans ((zIoj (by decide)).trans ((zIoj (by decide)).trans rfl)))) ?_
          by_cases w26 : (zI w5M 155 2).toInt < (zI M 155 1).toInt
          · refine zs_icmp_ltT (pc := 8) t27_8 rfl rfl (by omega) ?_
            refine zs_iconst (pc := 15) t27_15 (v := 0) (by decide) ?_
            refine zs_iret (pc := 16) t27_16 mr27 (by decide) ?_
            show zGo X l 4 0 0 83 40 [(0, .ref 157), (1, .ref 155), (2, .int w5x2)] [.int (0 : Int32)] w5M _
            refine zs_if_neF (pc := 40) t83_40 li0 (by decide) ?_
            refine zs_aload_n (pc := 43) t83_43 rfl ?_
            refine zs_aload_n (pc := 44) t83_44 rfl ?_
            refine zs_invV (pc := 45) (k := 155) (as' := []) (st := [.ref 155]) t83_45 mf29 rfl rfl (Or.inl ⟨by decide, (zk1 (w5s.k fk_zMc_155))⟩) ⟨by decide, by decide, Nat.le_of_ble_eq_true rfl, Nat.le_of_ble_eq_true rfl⟩ (zs_in (by decide) mf29 (Nat.le_of_ble_eq_true rfl) ?_) (fun _ _ q => q)
            show zGo X l 0 0 0 29 0 [(0, .ref 155)] [] w5M _
            refine zs_aload_n (pc := 0) t29_0 rfl ?_
            refine zs_get (pc := 1) t29_1 (by decide) (zk1 (w5s.k fk_zMc_155)) (zfvi rfl rfl) ?_
            refine zs_iret (pc := 4) t29_4 mr29 rfl ?_
            show zGo X l 4 0 0 83 48 [(0, .ref 157), (1, .ref 155), (2, .int w5x2)] [.int (zI w5M 155 2), .ref 155] w5M _
            refine zs_invV (pc := 48) (k := 155) (as' := [.int (zI w5M 155 2)]) (st := []) t83_48 mf34 rfl rfl (Or.inl ⟨by decide, (zk1 (w5s.k fk_zMc_155))⟩) ⟨by decide, by decide, Nat.le_of_ble_eq_true rfl, Nat.le_of_ble_eq_true rfl⟩ (zs_in (by decide) mf34 (Nat.le_of_ble_eq_true rfl) ?_) (fun _ _ q => q)
            show zGo X l 0 0 0 34 0 [(0, .ref 155), (1, .int (zI w5M 155 2))] [] w5M _
            refine zs_aload_n (pc := 0) t34_0 rfl ?_
            refine zs_iload_n (pc := 1) t34_1 rfl ?_
            have w27 : zIv cLo cHi (zsI w5M 155 3 (zI w5M 155 2)) := zIv.put w5I (show (-2147483648) ≤ (zI w5M 155 2).toInt ∧ (zI w5M 155 2).toInt ≤ 2147483647 from zrg (zI w5M 155 2))
            refine zs_putI (pc := 2) t34_2 (zk1 (w5s.k fk_zMc_155)) rfl ?_
            refine zs_iconst (pc := 5) t34_5 (v := 0) (by decide) ?_
            refine zs_iret (pc := 6) t34_6 mr34 (by decide) ?_
            show zGo X l 4 0 0 83 51 [(0, .ref 157), (1, .ref 155), (2, .int w5x2)] [.int (0 : Int32)] (zsI w5M 155 3 (zI w5M 155 2)) _
            refine zs_pop (pc := 51) t83_51 rfl ?_
            refine zs_iconst (pc := 52) t83_52 (v := -1) (by decide) ?_
            exact zs_iret (pc := 53) t83_53 mr83 (by decide) (hQ _ _ w5s w27 (((((zFr.refl).put rfl).put rfl).trans (w5F.mono rfl)).put rfl) (Or.inl ⟨by decide, w5d.fin (aSt.full (by omega) (by omega))⟩) (by decide) (by decide))
          · refine zs_icmp_ltF (pc := 8) t27_8 rfl rfl (by omega) ?_
            refine zs_iconst (pc := 11) t27_11 (v := 1) (by decide) ?_
            refine zs_goto (pc := 12) t27_12 ?_
            refine zs_iret (pc := 16) t27_16 mr27 (by decide) ?_
            show zGo X l 4 0 0 83 40 [(0, .ref 157), (1, .ref 155), (2, .int w5x2)] [.int (1 : Int32)] w5M _
            refine zs_if_neT (pc := 40) t83_40 li1 (by decide) ?_
            refine zs_iload_n (pc := 54) t83_54 rfl ?_
            exact zs_iret (pc := 55) t83_55 mr83 rfl (hQ _ _ w5s w5I ((((zFr.refl).put rfl).put rfl).trans (w5F.mono rfl)) (Or.inr ⟨by omega, w5A, by rw [show w5x2.toInt.toNat = w7n by omega]; exact ⟨w5d.fin (aSt.end (by omega)), w5g⟩⟩) (by omega) (by omega))
  refine zGo.locals (ls' := [(0, .ref 157), (1, .ref 155), (2, .int (0 : Int32))]) (by simp) ?_
  have w28 := li0
  have w29 : (zI (zsI (zsI M 155 2 (0 : Int32)) 155 3 (-1 : Int32)) 155 2).toInt = 0 := (congrArg Int32.toInt ((zIoj (by decide)).trans zIs)).trans li0
  have w30 : (zI (zsI (zsI M 155 2 (0 : Int32)) 155 3 (-1 : Int32)) 155 2).toInt = 0 := (congrArg Int32.toInt ((zIoj (by decide)).trans zIs)).trans li0
  have w31 : (zI (zsI (zsI M 155 2 (0 : Int32)) 155 3 (-1 : Int32)) 155 1).toInt = (zI M 155 1).toInt := (congrArg Int32.toInt ((zIoj (by decide)).trans ((zIoj (by decide)).trans rfl))).trans rfl
  have w32 : (zI (zsI (zsI M 155 2 (0 : Int32)) 155 3 (-1 : Int32)) 155 1).toInt = (zI M 155 1).toInt := (congrArg Int32.toInt ((zIoj (by decide)).trans ((zIoj (by decide)).trans rfl))).trans rfl
  exact w5L ((20 - 0 : Int).toNat) (0 : Int32) (zsI (zsI M 155 2 (0 : Int32)) 155 3 (-1 : Int32)) ⟨by decide, by decide⟩ hs w4 zFr.refl (by omega) (by omega) (by omega) (fun p k hp hk => by obtain rfl : p = 0 := (by omega); obtain rfl : k = 0 := (by omega); exact ⟨aZ, gEq.refl, zAl.z⟩) (by omega)
theorem X86_6 {X : zX} {l : Launch} {M : zM} {Q : Option Value → zM → Prop} {a : Int32} (hs : zSk zMc M) (hI : zIv cLo cHi M) {F : Nat → Int} {H : Nat → Nat → Int} {n : Int} {K : Nat → Nat → Int} {T : Nat → Int} {A : aT} (ha : 0 ≤ a.toInt ∧ a.toInt ≤ 19) (x0 : zSo M 7 F) (x1 : zHC M H n) (x2 : zKC M K T) (x3 : zWF F) (x4 : ∀ i : Nat, (i : Int) = a.toInt → zAt M i A) (hQ : ∀ (M' : zM) (v : Int32), zSk zMc M' → zIv cLo cHi M' → zFr [(7, 18, none), (31, 154, none), (164, 164, some 0), (325, 325, some 0)] M M' → (((zI M' 164 0).toInt = 0 ∧ (zI M' 325 0).toInt = 0) ∨ (v.toInt = -1 ∧ (zI M' 164 0).toInt = (zI M 164 0).toInt ∧ (zI M' 325 0).toInt = (zI M 325 0).toInt)) → ((v.toInt = -1 ∧ aDo A F = none ∧ zSC M' F H n K T) ∨ (v.toInt ≠ -1 ∧ ∃ G, aDo A F = some G ∧ zSC M' G (pushH F H) (nP n) K T)) → Q (some (.int v)) M') : zCall X l 5 0 0 86 [.ref 6, .int a] M Q := by
  have ga := zrg a
  refine zs_in (by decide) mf86 (Nat.le_of_ble_eq_true rfl) ?_
  show zGo X l 5 0 0 86 0 [(0, .ref 6), (1, .int a)] [] M _
  have f0 := x0.1
  have w1 := ib7_0 hI
  have w2 : (zI M 7 0).toInt = (zI M 7 0).toInt := (congrArg Int32.toInt rfl).trans rfl
  have w3 := ib7_3 hI
  have w4 : (zI M 7 3).toInt = (zI M 7 3).toInt := (congrArg Int32.toInt rfl).trans rfl
  have w5 := ib7_8 hI
  have w6 : (zI M 7 8).toInt = (zI M 7 8).toInt := (congrArg Int32.toInt rfl).trans rfl
  have f1 := x3.1
  have f3 := x3.2.2.2
  have f2 := (show (zI M 7 0).toInt = F 0 ∧ (zI M 7 3).toInt = F 1 ∧ (zI M 7 8).toInt = F 2 from ⟨x0.1.1, x0.1.2.1, x0.1.2.2.1⟩)
  obtain ⟨L, y0, y1, y2⟩ := A
  obtain ⟨w7n, w7⟩ : ∃ n : Nat, a.toInt = (n : Int) := ⟨(a.toInt).toNat, by omega⟩
  have ya := x4 w7n (by omega)
  have yl : (zI M 159 w7n).toInt = L := ya.1
  have y160 : (zI M 160 (4 * w7n)).toInt = y0 := ya.2.1
  have y161 : L = 104 → (zI M 160 (4 * w7n + 1)).toInt = y1 ∧ (zI M 160 (4 * w7n + 2)).toInt = y2 := ya.2.2
  refine zs_aload_n (pc := 0) t86_0 rfl ?_
  refine zs_get (pc := 1) t86_1 (by decide) (zk1 (hs.k fk_zMc_6)) (hs.p rfl fv_zMc_6_4) ?_
  refine zs_iload_n (pc := 4) t86_4 rfl ?_
  refine zs_invV (pc := 5) (k := 157) (as' := [.int a]) (st := []) t86_5 mf87 rfl rfl (Or.inl ⟨by decide, (zk1 (hs.k fk_zMc_157))⟩) ⟨by decide, by decide, Nat.le_of_ble_eq_true rfl, Nat.le_of_ble_eq_true rfl⟩ (zs_in (by decide) mf87 (Nat.le_of_ble_eq_true rfl) ?_) (fun _ _ q => q)
  show zGo X l 1 0 0 87 0 [(0, .ref 157), (1, .int a)] [] M _
  refine zs_iload_n (pc := 0) t87_0 rfl ?_
  refine zs_iconst (pc := 1) t87_1 (v := 0) (by decide) ?_
  refine zs_bipush (pc := 2) t87_2 (v := 19) (by decide) ?_
  refine zs_invS (pc := 4) (as := [.int a, .int (0 : Int32), .int (19 : Int32)]) (st := []) t87_4 (by decide) mf39 rfl rfl ⟨by decide, by decide, Nat.le_of_ble_eq_true rfl, Nat.le_of_ble_eq_true rfl⟩ (zs_in (by decide) mf39 (Nat.le_of_ble_eq_true rfl) ?_) (fun _ _ q => q)
  show zGo X l 0 0 0 39 0 [(0, .int a), (1, .int (0 : Int32)), (2, .int (19 : Int32))] [] M _
  refine zs_iload_n (pc := 0) t39_0 rfl ?_
  refine zs_iload_n (pc := 1) t39_1 rfl ?_
  refine zs_icmp_ltF (pc := 2) t39_2 rfl li0 (by omega) ?_
  refine zs_iload_n (pc := 5) t39_5 rfl ?_
  refine zs_iload_n (pc := 6) t39_6 rfl ?_
  refine zs_icmp_gtF (pc := 7) t39_7 rfl li19 (by omega) ?_
  refine zs_iconst (pc := 10) t39_10 (v := 1) (by decide) ?_
  refine zs_goto (pc := 11) t39_11 ?_
  refine zs_iret (pc := 15) t39_15 mr39 (by decide) ?_
  show zGo X l 1 0 0 87 7 [(0, .ref 157), (1, .int a)] [.int (1 : Int32)] M _
  refine zs_if_eqF (pc := 7) t87_7 li1 (by decide) ?_
  refine zs_aload_n (pc := 10) t87_10 rfl ?_
  refine zs_get (pc := 11) t87_11 (by decide) (zk1 (hs.k fk_zMc_157)) (hs.p rfl fv_zMc_157_1) ?_
  refine zs_iload_n (pc := 14) t87_14 rfl ?_
  have w8 := zrg (zI M 159 w7n)
  refine zs_iald (pc := 15) t87_15 (j := w7n) (by decide) (zk1 (hs.k fk_zMc_159)) (show a.toInt = ((w7n : Nat) : Int) by omega) (zk2 (hs.k fk_zMc_159) (by omega)) rfl ?_
  refine zs_goto (pc := 16) t87_16 ?_
  refine zs_iret (pc := 20) t87_20 mr87 rfl ?_
  show zGo X l 5 0 0 86 8 [(0, .ref 6), (1, .int a)] [.int (zI M 159 w7n)] M _
  by_cases w9 : (zI M 159 w7n).toInt = 100
  · refine zs_lsw (pc := 8) t86_8 (off := 90) ((rfl : (zI M 159 w7n).toInt = (zI M 159 w7n).toInt).trans w9) rfl (pc2 := 98) rfl ?_
    refine zs_aload_n (pc := 98) t86_98 rfl ?_
    refine zs_aload_n (pc := 99) t86_99 rfl ?_
    refine zs_get (pc := 100) t86_100 (by decide) (zk1 (hs.k fk_zMc_6)) (hs.p rfl fv_zMc_6_4) ?_
    refine zs_iload_n (pc := 103) t86_103 rfl ?_
    refine zs_iconst (pc := 104) t86_104 (v := 0) (by decide) ?_
    refine zs_invV (pc := 105) (k := 157) (as' := [.int a, .int (0 : Int32)]) (st := [.ref 6]) t86_105 mf88 rfl rfl (Or.inl ⟨by decide, (zk1 (hs.k fk_zMc_157))⟩) ⟨by decide, by decide, Nat.le_of_ble_eq_true rfl, Nat.le_of_ble_eq_true rfl⟩ (zs_in (by decide) mf88 (Nat.le_of_ble_eq_true rfl) ?_) (fun _ _ q => q)
    show zGo X l 1 0 0 88 0 [(0, .ref 157), (1, .int a), (2, .int (0 : Int32))] [] M _
    refine zs_iload_n (pc := 0) t88_0 rfl ?_
    refine zs_iconst (pc := 1) t88_1 (v := 0) (by decide) ?_
    refine zs_bipush (pc := 2) t88_2 (v := 19) (by decide) ?_
    refine zs_invS (pc := 4) (as := [.int a, .int (0 : Int32), .int (19 : Int32)]) (st := []) t88_4 (by decide) mf39 rfl rfl ⟨by decide, by decide, Nat.le_of_ble_eq_true rfl, Nat.le_of_ble_eq_true rfl⟩ (zs_in (by decide) mf39 (Nat.le_of_ble_eq_true rfl) ?_) (fun _ _ q => q)
    show zGo X l 0 0 0 39 0 [(0, .int a), (1, .int (0 : Int32)), (2, .int (19 : Int32))] [] M _
    refine zs_iload_n (pc := 0) t39_0 rfl ?_
    refine zs_iload_n (pc := 1) t39_1 rfl ?_
    refine zs_icmp_ltF (pc := 2) t39_2 rfl li0 (by omega) ?_
    refine zs_iload_n (pc := 5) t39_5 rfl ?_
    refine zs_iload_n (pc := 6) t39_6 rfl ?_
    refine zs_icmp_gtF (pc := 7) t39_7 rfl li19 (by omega) ?_
    refine zs_iconst (pc := 10) t39_10 (v := 1) (by decide) ?_
    refine zs_goto (pc := 11) t39_11 ?_
    refine zs_iret (pc := 15) t39_15 mr39 (by decide) ?_
    show zGo X l 1 0 0 88 7 [(0, .ref 157), (1, .int a), (2, .int (0 : Int32))] [.int (1 : Int32)] M _
    refine zs_if_eqF (pc := 7) t88_7 li1 (by decide) ?_
    refine zs_iload_n (pc := 10) t88_10 rfl ?_
    refine zs_iconst (pc := 11) t88_11 (v := 0) (by decide) ?_
    refine zs_iconst (pc := 12) t88_12 (v := 3) (by decide) ?_
    refine zs_invS (pc := 13) (as := [.int (0 : Int32), .int (0 : Int32), .int (3 : Int32)]) (st := []) t88_13 (by decide) mf39 rfl rfl ⟨by decide, by decide, Nat.le_of_ble_eq_true rfl, Nat.le_of_ble_eq_true rfl⟩ (zs_in (by decide) mf39 (Nat.le_of_ble_eq_true rfl) ?_) (fun _ _ q => q)
    show zGo X l 0 0 0 39 0 [(0, .int (0 : Int32)), (1, .int (0 : Int32)), (2, .int (3 : Int32))] [] M _
    refine zs_iload_n (pc := 0) t39_0 rfl ?_
    refine zs_iload_n (pc := 1) t39_1 rfl ?_
    refine zs_icmp_ltF (pc := 2) t39_2 li0 li0 (by decide) ?_
    refine zs_iload_n (pc := 5) t39_5 rfl ?_
    refine zs_iload_n (pc := 6) t39_6 rfl ?_
    refine zs_icmp_gtF (pc := 7) t39_7 li0 li3 (by decide) ?_
    refine zs_iconst (pc := 10) t39_10 (v := 1) (by decide) ?_
    refine zs_goto (pc := 11) t39_11 ?_
    refine zs_iret (pc := 15) t39_15 mr39 (by decide) ?_
    show zGo X l 1 0 0 88 16 [(0, .ref 157), (1, .int a), (2, .int (0 : Int32))] [.int (1 : Int32)] M _
    refine zs_if_eqF (pc := 16) t88_16 li1 (by decide) ?_
    refine zs_aload_n (pc := 19) t88_19 rfl ?_
    refine zs_get (pc := 20) t88_20 (by decide) (zk1 (hs.k fk_zMc_157)) (hs.p rfl fv_zMc_157_2) ?_
    refine zs_iload_n (pc := 23) t88_23 rfl ?_
    refine zs_iconst (pc := 24) t88_24 (v := 4) (by decide) ?_
    obtain ⟨w10v, w10⟩ : ∃ v, a * (4 : Int32) = v := ⟨_, rfl⟩
    have w10g : w10v.toInt = a.toInt * 4 := by rw [← w10]; exact zmulc rfl li4 (by omega) (by omega)
    refine zs_imul (pc := 25) t88_25 (c := w10v) w10 ?_
    refine zs_iload_n (pc := 26) t88_26 rfl ?_
    obtain ⟨w11v, w11e, w11⟩ := ziadd (a := w10v) (b := (0 : Int32)) w10g li0 (by omega) (by omega)
    refine zs_iadd (pc := 27) t88_27 (c := w11v) w11e ?_
    have w12 := zrg (zI M 160 (4 * w7n))
    have w13 : (4 * w7n) = 4 * w7n → (zI M 160 (4 * w7n)).toInt = y0 := fun q => by rw [q]; exact y160
    have w14 : L = 104 ∧ (4 * w7n) = 4 * w7n + 1 → (zI M 160 (4 * w7n)).toInt = y1 := fun q => by rw [q.2]; exact (y161 q.1).1
    have w15 : L = 104 ∧ (4 * w7n) = 4 * w7n + 2 → (zI M 160 (4 * w7n)).toInt = y2 := fun q => by rw [q.2]; exact (y161 q.1).2
    refine zs_iald (pc := 28) t88_28 (j := (4 * w7n)) (by decide) (zk1 (hs.k fk_zMc_160)) (show w11v.toInt = (((4 * w7n) : Nat) : Int) by omega) (zk2 (hs.k fk_zMc_160) (by omega)) rfl ?_
    refine zs_goto (pc := 29) t88_29 ?_
    refine zs_iret (pc := 33) t88_33 mr88 rfl ?_
    show zGo X l 5 0 0 86 108 [(0, .ref 6), (1, .int a)] [.int (zI M 160 (4 * w7n)), .ref 6] M _
    have w16 := ib164_0 hI
    have w17 : (zI M 164 0).toInt = (zI M 164 0).toInt := (congrArg Int32.toInt rfl).trans rfl
    have w18 := ib325_0 hI
    have w19 : (zI M 325 0).toInt = (zI M 325 0).toInt := (congrArg Int32.toInt rfl).trans rfl
    refine zs_invV (pc := 108) (k := 6) (as' := [.int (zI M 160 (4 * w7n))]) (st := []) t86_108 mf94 rfl rfl (Or.inl ⟨by decide, (zk1 (hs.k fk_zMc_6))⟩) ⟨by decide, by decide, Nat.le_of_ble_eq_true rfl, Nat.le_of_ble_eq_true rfl⟩ (S94 hs hI x0 x1 x2 x3 ?_) (fun _ _ q => q)
    intro w20M w20v w20s w20I w20F w20t0 w20x0
    have w20g := zrg w20v
    have w21 := ib164_0 w20I
    have w22 := ib325_0 w20I
    show zGo X l 5 0 0 86 111 [(0, .ref 6), (1, .int a)] [.int w20v] w20M _
    have w23 : (zI w20M 164 0).toInt = (zI w20M 164 0).toInt := (congrArg Int32.toInt rfl).trans rfl
    have w24 : (zI w20M 325 0).toInt = (zI w20M 325 0).toInt := (congrArg Int32.toInt rfl).trans rfl
    have w25 := w20x0
    rw [show (zI M 160 (4 * w7n)).toInt = y0 by omega] at w25
    exact zs_iret (pc := 111) t86_111 mr86 rfl (hQ _ _ w20s w20I ((zFr.refl).trans (w20F.mono rfl)) (by omega) (by
        rcases w25 with ⟨q1, q2, q3⟩ | ⟨q1, q2, q3, q4⟩
        · exact Or.inl ⟨by omega, aDo.dn (by omega) (by omega), q3⟩
        · exact Or.inr ⟨by have z := (x3.2.1 y0.toNat (by omega)).2.2; omega, _, aDo.dy (by omega) ⟨q1, q2⟩, (by rw [q3] at q4; exact q4)⟩))
  by_cases w26 : (zI M 159 w7n).toInt = 104
  · refine zs_lsw (pc := 8) t86_8 (off := 44) ((rfl : (zI M 159 w7n).toInt = (zI M 159 w7n).toInt).trans w26) rfl (pc2 := 52) rfl ?_
    refine zs_aload_n (pc := 52) t86_52 rfl ?_
    refine zs_aload_n (pc := 53) t86_53 rfl ?_
    refine zs_get (pc := 54) t86_54 (by decide) (zk1 (hs.k fk_zMc_6)) (hs.p rfl fv_zMc_6_4) ?_
    refine zs_iload_n (pc := 57) t86_57 rfl ?_
    refine zs_iconst (pc := 58) t86_58 (v := 0) (by decide) ?_
    refine zs_invV (pc := 59) (k := 157) (as' := [.int a, .int (0 : Int32)]) (st := [.ref 6]) t86_59 mf88 rfl rfl (Or.inl ⟨by decide, (zk1 (hs.k fk_zMc_157))⟩) ⟨by decide, by decide, Nat.le_of_ble_eq_true rfl, Nat.le_of_ble_eq_true rfl⟩ (zs_in (by decide) mf88 (Nat.le_of_ble_eq_true rfl) ?_) (fun _ _ q => q)
    show zGo X l 1 0 0 88 0 [(0, .ref 157), (1, .int a), (2, .int (0 : Int32))] [] M _
    refine zs_iload_n (pc := 0) t88_0 rfl ?_
    refine zs_iconst (pc := 1) t88_1 (v := 0) (by decide) ?_
    refine zs_bipush (pc := 2) t88_2 (v := 19) (by decide) ?_
    refine zs_invS (pc := 4) (as := [.int a, .int (0 : Int32), .int (19 : Int32)]) (st := []) t88_4 (by decide) mf39 rfl rfl ⟨by decide, by decide, Nat.le_of_ble_eq_true rfl, Nat.le_of_ble_eq_true rfl⟩ (zs_in (by decide) mf39 (Nat.le_of_ble_eq_true rfl) ?_) (fun _ _ q => q)
    show zGo X l 0 0 0 39 0 [(0, .int a), (1, .int (0 : Int32)), (2, .int (19 : Int32))] [] M _
    refine zs_iload_n (pc := 0) t39_0 rfl ?_
    refine zs_iload_n (pc := 1) t39_1 rfl ?_
    refine zs_icmp_ltF (pc := 2) t39_2 rfl li0 (by omega) ?_
    refine zs_iload_n (pc := 5) t39_5 rfl ?_
    refine zs_iload_n (pc := 6) t39_6 rfl ?_
    refine zs_icmp_gtF (pc := 7) t39_7 rfl li19 (by omega) ?_
    refine zs_iconst (pc := 10) t39_10 (v := 1) (by decide) ?_
    refine zs_goto (pc := 11) t39_11 ?_
    refine zs_iret (pc := 15) t39_15 mr39 (by decide) ?_
    show zGo X l 1 0 0 88 7 [(0, .ref 157), (1, .int a), (2, .int (0 : Int32))] [.int (1 : Int32)] M _
    refine zs_if_eqF (pc := 7) t88_7 li1 (by decide) ?_
    refine zs_iload_n (pc := 10) t88_10 rfl ?_
    refine zs_iconst (pc := 11) t88_11 (v := 0) (by decide) ?_
    refine zs_iconst (pc := 12) t88_12 (v := 3) (by decide) ?_
    refine zs_invS (pc := 13) (as := [.int (0 : Int32), .int (0 : Int32), .int (3 : Int32)]) (st := []) t88_13 (by decide) mf39 rfl rfl ⟨by decide, by decide, Nat.le_of_ble_eq_true rfl, Nat.le_of_ble_eq_true rfl⟩ (zs_in (by decide) mf39 (Nat.le_of_ble_eq_true rfl) ?_) (fun _ _ q => q)
    show zGo X l 0 0 0 39 0 [(0, .int (0 : Int32)), (1, .int (0 : Int32)), (2, .int (3 : Int32))] [] M _
    refine zs_iload_n (pc := 0) t39_0 rfl ?_
    refine zs_iload_n (pc := 1) t39_1 rfl ?_
    refine zs_icmp_ltF (pc := 2) t39_2 li0 li0 (by decide) ?_
    refine zs_iload_n (pc := 5) t39_5 rfl ?_
    refine zs_iload_n (pc := 6) t39_6 rfl ?_
    refine zs_icmp_gtF (pc := 7) t39_7 li0 li3 (by decide) ?_
    refine zs_iconst (pc := 10) t39_10 (v := 1) (by decide) ?_
    refine zs_goto (pc := 11) t39_11 ?_
    refine zs_iret (pc := 15) t39_15 mr39 (by decide) ?_
    show zGo X l 1 0 0 88 16 [(0, .ref 157), (1, .int a), (2, .int (0 : Int32))] [.int (1 : Int32)] M _
    refine zs_if_eqF (pc := 16) t88_16 li1 (by decide) ?_
    refine zs_aload_n (pc := 19) t88_19 rfl ?_
    refine zs_get (pc := 20) t88_20 (by decide) (zk1 (hs.k fk_zMc_157)) (hs.p rfl fv_zMc_157_2) ?_
    refine zs_iload_n (pc := 23) t88_23 rfl ?_
    refine zs_iconst (pc := 24) t88_24 (v := 4) (by decide) ?_
    obtain ⟨w27v, w27⟩ : ∃ v, a * (4 : Int32) = v := ⟨_, rfl⟩
    have w27g : w27v.toInt = a.toInt * 4 := by rw [← w27]; exact zmulc rfl li4 (by omega) (by omega)
    refine zs_imul (pc := 25) t88_25 (c := w27v) w27 ?_
    refine zs_iload_n (pc := 26) t88_26 rfl ?_
    obtain ⟨w28v, w28e, w28⟩ := ziadd (a := w27v) (b := (0 : Int32)) w27g li0 (by omega) (by omega)
    refine zs_iadd (pc := 27) t88_27 (c := w28v) w28e ?_
    have w29 := zrg (zI M 160 (4 * w7n))
    have w30 : (4 * w7n) = 4 * w7n → (zI M 160 (4 * w7n)).toInt = y0 := fun q => by rw [q]; exact y160
    have w31 : L = 104 ∧ (4 * w7n) = 4 * w7n + 1 → (zI M 160 (4 * w7n)).toInt = y1 := fun q => by rw [q.2]; exact (y161 q.1).1
    have w32 : L = 104 ∧ (4 * w7n) = 4 * w7n + 2 → (zI M 160 (4 * w7n)).toInt = y2 := fun q => by rw [q.2]; exact (y161 q.1).2
    refine zs_iald (pc := 28) t88_28 (j := (4 * w7n)) (by decide) (zk1 (hs.k fk_zMc_160)) (show w28v.toInt = (((4 * w7n) : Nat) : Int) by omega) (zk2 (hs.k fk_zMc_160) (by omega)) rfl ?_
    refine zs_goto (pc := 29) t88_29 ?_
    refine zs_iret (pc := 33) t88_33 mr88 rfl ?_
    show zGo X l 5 0 0 86 62 [(0, .ref 6), (1, .int a)] [.int (zI M 160 (4 * w7n)), .ref 6] M _
    refine zs_aload_n (pc := 62) t86_62 rfl ?_
    refine zs_get (pc := 63) t86_63 (by decide) (zk1 (hs.k fk_zMc_6)) (hs.p rfl fv_zMc_6_4) ?_
    refine zs_iload_n (pc := 66) t86_66 rfl ?_
    refine zs_iconst (pc := 67) t86_67 (v := 1) (by decide) ?_
    refine zs_invV (pc := 68) (k := 157) (as' := [.int a, .int (1 : Int32)]) (st := [.int (zI M 160 (4 * w7n)), .ref 6]) t86_68 mf88 rfl rfl (Or.inl ⟨by decide, (zk1 (hs.k fk_zMc_157))⟩) ⟨by decide, by decide, Nat.le_of_ble_eq_true rfl, Nat.le_of_ble_eq_true rfl⟩ (zs_in (by decide) mf88 (Nat.le_of_ble_eq_true rfl) ?_) (fun _ _ q => q)
    show zGo X l 1 0 0 88 0 [(0, .ref 157), (1, .int a), (2, .int (1 : Int32))] [] M _
    refine zs_iload_n (pc := 0) t88_0 rfl ?_
    refine zs_iconst (pc := 1) t88_1 (v := 0) (by decide) ?_
    refine zs_bipush (pc := 2) t88_2 (v := 19) (by decide) ?_
    refine zs_invS (pc := 4) (as := [.int a, .int (0 : Int32), .int (19 : Int32)]) (st := []) t88_4 (by decide) mf39 rfl rfl ⟨by decide, by decide, Nat.le_of_ble_eq_true rfl, Nat.le_of_ble_eq_true rfl⟩ (zs_in (by decide) mf39 (Nat.le_of_ble_eq_true rfl) ?_) (fun _ _ q => q)
    show zGo X l 0 0 0 39 0 [(0, .int a), (1, .int (0 : Int32)), (2, .int (19 : Int32))] [] M _
    refine zs_iload_n (pc := 0) t39_0 rfl ?_
    refine zs_iload_n (pc := 1) t39_1 rfl ?_
    refine zs_icmp_ltF (pc := 2) t39_2 rfl li0 (by omega) ?_
    refine zs_iload_n (pc := 5) t39_5 rfl ?_
    refine zs_iload_n (pc := 6) t39_6 rfl ?_
    refine zs_icmp_gtF (pc := 7) t39_7 rfl li19 (by omega) ?_
    refine zs_iconst (pc := 10) t39_10 (v := 1) (by decide) ?_
    refine zs_goto (pc := 11) t39_11 ?_
    refine zs_iret (pc := 15) t39_15 mr39 (by decide) ?_
    show zGo X l 1 0 0 88 7 [(0, .ref 157), (1, .int a), (2, .int (1 : Int32))] [.int (1 : Int32)] M _
    refine zs_if_eqF (pc := 7) t88_7 li1 (by decide) ?_
    refine zs_iload_n (pc := 10) t88_10 rfl ?_
    refine zs_iconst (pc := 11) t88_11 (v := 0) (by decide) ?_
    refine zs_iconst (pc := 12) t88_12 (v := 3) (by decide) ?_
    refine zs_invS (pc := 13) (as := [.int (1 : Int32), .int (0 : Int32), .int (3 : Int32)]) (st := []) t88_13 (by decide) mf39 rfl rfl ⟨by decide, by decide, Nat.le_of_ble_eq_true rfl, Nat.le_of_ble_eq_true rfl⟩ (zs_in (by decide) mf39 (Nat.le_of_ble_eq_true rfl) ?_) (fun _ _ q => q)
    show zGo X l 0 0 0 39 0 [(0, .int (1 : Int32)), (1, .int (0 : Int32)), (2, .int (3 : Int32))] [] M _
    refine zs_iload_n (pc := 0) t39_0 rfl ?_
    refine zs_iload_n (pc := 1) t39_1 rfl ?_
    refine zs_icmp_ltF (pc := 2) t39_2 li1 li0 (by decide) ?_
    refine zs_iload_n (pc := 5) t39_5 rfl ?_
    refine zs_iload_n (pc := 6) t39_6 rfl ?_
    refine zs_icmp_gtF (pc := 7) t39_7 li1 li3 (by decide) ?_
    refine zs_iconst (pc := 10) t39_10 (v := 1) (by decide) ?_
    refine zs_goto (pc := 11) t39_11 ?_
    refine zs_iret (pc := 15) t39_15 mr39 (by decide) ?_
    show zGo X l 1 0 0 88 16 [(0, .ref 157), (1, .int a), (2, .int (1 : Int32))] [.int (1 : Int32)] M _
    refine zs_if_eqF (pc := 16) t88_16 li1 (by decide) ?_
    refine zs_aload_n (pc := 19) t88_19 rfl ?_
    refine zs_get (pc := 20) t88_20 (by decide) (zk1 (hs.k fk_zMc_157)) (hs.p rfl fv_zMc_157_2) ?_
    refine zs_iload_n (pc := 23) t88_23 rfl ?_
    refine zs_iconst (pc := 24) t88_24 (v := 4) (by decide) ?_
    obtain ⟨w33v, w33⟩ : ∃ v, a * (4 : Int32) = v := ⟨_, rfl⟩
    have w33g : w33v.toInt = a.toInt * 4 := by rw [← w33]; exact zmulc rfl li4 (by omega) (by omega)
    refine zs_imul (pc := 25) t88_25 (c := w33v) w33 ?_
    refine zs_iload_n (pc := 26) t88_26 rfl ?_
    obtain ⟨w34v, w34e, w34⟩ := ziadd (a := w33v) (b := (1 : Int32)) w33g li1 (by omega) (by omega)
    refine zs_iadd (pc := 27) t88_27 (c := w34v) w34e ?_
    have w35 := zrg (zI M 160 (1 + 4 * w7n))
    have w36 : (1 + 4 * w7n) = 4 * w7n → (zI M 160 (1 + 4 * w7n)).toInt = y0 := fun q => by rw [q]; exact y160
    have w37 : L = 104 ∧ (1 + 4 * w7n) = 4 * w7n + 1 → (zI M 160 (1 + 4 * w7n)).toInt = y1 := fun q => by rw [q.2]; exact (y161 q.1).1
    have w38 : L = 104 ∧ (1 + 4 * w7n) = 4 * w7n + 2 → (zI M 160 (1 + 4 * w7n)).toInt = y2 := fun q => by rw [q.2]; exact (y161 q.1).2
    refine zs_iald (pc := 28) t88_28 (j := (1 + 4 * w7n)) (by decide) (zk1 (hs.k fk_zMc_160)) (show w34v.toInt = (((1 + 4 * w7n) : Nat) : Int) by omega) (zk2 (hs.k fk_zMc_160) (by omega)) rfl ?_
    refine zs_goto (pc := 29) t88_29 ?_
    refine zs_iret (pc := 33) t88_33 mr88 rfl ?_
    show zGo X l 5 0 0 86 71 [(0, .ref 6), (1, .int a)] [.int (zI M 160 (1 + 4 * w7n)), .int (zI M 160 (4 * w7n)), .ref 6] M _
    refine zs_aload_n (pc := 71) t86_71 rfl ?_
    refine zs_get (pc := 72) t86_72 (by decide) (zk1 (hs.k fk_zMc_6)) (hs.p rfl fv_zMc_6_4) ?_
    refine zs_iload_n (pc := 75) t86_75 rfl ?_
    refine zs_iconst (pc := 76) t86_76 (v := 2) (by decide) ?_
    refine zs_invV (pc := 77) (k := 157) (as' := [.int a, .int (2 : Int32)]) (st := [.int (zI M 160 (1 + 4 * w7n)), .int (zI M 160 (4 * w7n)), .ref 6]) t86_77 mf88 rfl rfl (Or.inl ⟨by decide, (zk1 (hs.k fk_zMc_157))⟩) ⟨by decide, by decide, Nat.le_of_ble_eq_true rfl, Nat.le_of_ble_eq_true rfl⟩ (zs_in (by decide) mf88 (Nat.le_of_ble_eq_true rfl) ?_) (fun _ _ q => q)
    show zGo X l 1 0 0 88 0 [(0, .ref 157), (1, .int a), (2, .int (2 : Int32))] [] M _
    refine zs_iload_n (pc := 0) t88_0 rfl ?_
    refine zs_iconst (pc := 1) t88_1 (v := 0) (by decide) ?_
    refine zs_bipush (pc := 2) t88_2 (v := 19) (by decide) ?_
    refine zs_invS (pc := 4) (as := [.int a, .int (0 : Int32), .int (19 : Int32)]) (st := []) t88_4 (by decide) mf39 rfl rfl ⟨by decide, by decide, Nat.le_of_ble_eq_true rfl, Nat.le_of_ble_eq_true rfl⟩ (zs_in (by decide) mf39 (Nat.le_of_ble_eq_true rfl) ?_) (fun _ _ q => q)
    show zGo X l 0 0 0 39 0 [(0, .int a), (1, .int (0 : Int32)), (2, .int (19 : Int32))] [] M _
    refine zs_iload_n (pc := 0) t39_0 rfl ?_
    refine zs_iload_n (pc := 1) t39_1 rfl ?_
    refine zs_icmp_ltF (pc := 2) t39_2 rfl li0 (by omega) ?_
    refine zs_iload_n (pc := 5) t39_5 rfl ?_
    refine zs_iload_n (pc := 6) t39_6 rfl ?_
    refine zs_icmp_gtF (pc := 7) t39_7 rfl li19 (by omega) ?_
    refine zs_iconst (pc := 10) t39_10 (v := 1) (by decide) ?_
    refine zs_goto (pc := 11) t39_11 ?_
    refine zs_iret (pc := 15) t39_15 mr39 (by decide) ?_
    show zGo X l 1 0 0 88 7 [(0, .ref 157), (1, .int a), (2, .int (2 : Int32))] [.int (1 : Int32)] M _
    refine zs_if_eqF (pc := 7) t88_7 li1 (by decide) ?_
    refine zs_iload_n (pc := 10) t88_10 rfl ?_
    refine zs_iconst (pc := 11) t88_11 (v := 0) (by decide) ?_
    refine zs_iconst (pc := 12) t88_12 (v := 3) (by decide) ?_
    refine zs_invS (pc := 13) (as := [.int (2 : Int32), .int (0 : Int32), .int (3 : Int32)]) (st := []) t88_13 (by decide) mf39 rfl rfl ⟨by decide, by decide, Nat.le_of_ble_eq_true rfl, Nat.le_of_ble_eq_true rfl⟩ (zs_in (by decide) mf39 (Nat.le_of_ble_eq_true rfl) ?_) (fun _ _ q => q)
    show zGo X l 0 0 0 39 0 [(0, .int (2 : Int32)), (1, .int (0 : Int32)), (2, .int (3 : Int32))] [] M _
    refine zs_iload_n (pc := 0) t39_0 rfl ?_
    refine zs_iload_n (pc := 1) t39_1 rfl ?_
    refine zs_icmp_ltF (pc := 2) t39_2 li2 li0 (by decide) ?_
    refine zs_iload_n (pc := 5) t39_5 rfl ?_
    refine zs_iload_n (pc := 6) t39_6 rfl ?_
    refine zs_icmp_gtF (pc := 7) t39_7 li2 li3 (by decide) ?_
    refine zs_iconst (pc := 10) t39_10 (v := 1) (by decide) ?_
    refine zs_goto (pc := 11) t39_11 ?_
    refine zs_iret (pc := 15) t39_15 mr39 (by decide) ?_
    show zGo X l 1 0 0 88 16 [(0, .ref 157), (1, .int a), (2, .int (2 : Int32))] [.int (1 : Int32)] M _
    refine zs_if_eqF (pc := 16) t88_16 li1 (by decide) ?_
    refine zs_aload_n (pc := 19) t88_19 rfl ?_
    refine zs_get (pc := 20) t88_20 (by decide) (zk1 (hs.k fk_zMc_157)) (hs.p rfl fv_zMc_157_2) ?_
    refine zs_iload_n (pc := 23) t88_23 rfl ?_
    refine zs_iconst (pc := 24) t88_24 (v := 4) (by decide) ?_
    obtain ⟨w39v, w39⟩ : ∃ v, a * (4 : Int32) = v := ⟨_, rfl⟩
    have w39g : w39v.toInt = a.toInt * 4 := by rw [← w39]; exact zmulc rfl li4 (by omega) (by omega)
    refine zs_imul (pc := 25) t88_25 (c := w39v) w39 ?_
    refine zs_iload_n (pc := 26) t88_26 rfl ?_
    obtain ⟨w40v, w40e, w40⟩ := ziadd (a := w39v) (b := (2 : Int32)) w39g li2 (by omega) (by omega)
    refine zs_iadd (pc := 27) t88_27 (c := w40v) w40e ?_
    have w41 := zrg (zI M 160 (2 + 4 * w7n))
    have w42 : (2 + 4 * w7n) = 4 * w7n → (zI M 160 (2 + 4 * w7n)).toInt = y0 := fun q => by rw [q]; exact y160
    have w43 : L = 104 ∧ (2 + 4 * w7n) = 4 * w7n + 1 → (zI M 160 (2 + 4 * w7n)).toInt = y1 := fun q => by rw [q.2]; exact (y161 q.1).1
    have w44 : L = 104 ∧ (2 + 4 * w7n) = 4 * w7n + 2 → (zI M 160 (2 + 4 * w7n)).toInt = y2 := fun q => by rw [q.2]; exact (y161 q.1).2
    refine zs_iald (pc := 28) t88_28 (j := (2 + 4 * w7n)) (by decide) (zk1 (hs.k fk_zMc_160)) (show w40v.toInt = (((2 + 4 * w7n) : Nat) : Int) by omega) (zk2 (hs.k fk_zMc_160) (by omega)) rfl ?_
    refine zs_goto (pc := 29) t88_29 ?_
    refine zs_iret (pc := 33) t88_33 mr88 rfl ?_
    show zGo X l 5 0 0 86 80 [(0, .ref 6), (1, .int a)] [.int (zI M 160 (2 + 4 * w7n)), .int (zI M 160 (1 + 4 * w7n)), .int (zI M 160 (4 * w7n)), .ref 6] M _
    have w45 := ib164_0 hI
    have w46 : (zI M 164 0).toInt = (zI M 164 0).toInt := (congrArg Int32.toInt rfl).trans rfl
    have w47 := ib325_0 hI
    have w48 : (zI M 325 0).toInt = (zI M 325 0).toInt := (congrArg Int32.toInt rfl).trans rfl
    refine zs_invV (pc := 80) (k := 6) (as' := [.int (zI M 160 (4 * w7n)), .int (zI M 160 (1 + 4 * w7n)), .int (zI M 160 (2 + 4 * w7n))]) (st := []) t86_80 mf89 rfl rfl (Or.inl ⟨by decide, (zk1 (hs.k fk_zMc_6))⟩) ⟨by decide, by decide, Nat.le_of_ble_eq_true rfl, Nat.le_of_ble_eq_true rfl⟩ (S89 hs hI x0 x1 x2 x3 ?_) (fun _ _ q => q)
    intro w49M w49v w49s w49I w49F w49t0 w49x0
    have w49g := zrg w49v
    have w50 := ib164_0 w49I
    have w51 := ib325_0 w49I
    show zGo X l 5 0 0 86 83 [(0, .ref 6), (1, .int a)] [.int w49v] w49M _
    have w52 : (zI w49M 164 0).toInt = (zI w49M 164 0).toInt := (congrArg Int32.toInt rfl).trans rfl
    have w53 : (zI w49M 325 0).toInt = (zI w49M 325 0).toInt := (congrArg Int32.toInt rfl).trans rfl
    have w54 := w49x0
    rw [show (zI M 160 (4 * w7n)).toInt = y0 by omega, show (zI M 160 (1 + 4 * w7n)).toInt = y1 by omega, show (zI M 160 (2 + 4 * w7n)).toInt = y2 by omega] at w54
    exact zs_iret (pc := 83) t86_83 mr86 rfl (hQ _ _ w49s w49I ((zFr.refl).trans (w49F.mono rfl)) (by omega) (by
        rcases w54 with ⟨q1, q2, q3⟩ | ⟨q1, q2, q3⟩
        · exact Or.inl ⟨by omega, aDo.hn (by omega) (by omega), q3⟩
        · exact Or.inr ⟨by omega, _, aDo.hy (by omega) q1, q3⟩))
  by_cases w55 : (zI M 159 w7n).toInt = 110
  · refine zs_lsw (pc := 8) t86_8 (off := 104) ((rfl : (zI M 159 w7n).toInt = (zI M 159 w7n).toInt).trans w55) rfl (pc2 := 112) rfl ?_
    refine zs_aload_n (pc := 112) t86_112 rfl ?_
    refine zs_aload_n (pc := 113) t86_113 rfl ?_
    refine zs_get (pc := 114) t86_114 (by decide) (zk1 (hs.k fk_zMc_6)) (hs.p rfl fv_zMc_6_4) ?_
    refine zs_iload_n (pc := 117) t86_117 rfl ?_
    refine zs_iconst (pc := 118) t86_118 (v := 0) (by decide) ?_
    refine zs_invV (pc := 119) (k := 157) (as' := [.int a, .int (0 : Int32)]) (st := [.ref 6]) t86_119 mf88 rfl rfl (Or.inl ⟨by decide, (zk1 (hs.k fk_zMc_157))⟩) ⟨by decide, by decide, Nat.le_of_ble_eq_true rfl, Nat.le_of_ble_eq_true rfl⟩ (zs_in (by decide) mf88 (Nat.le_of_ble_eq_true rfl) ?_) (fun _ _ q => q)
    show zGo X l 1 0 0 88 0 [(0, .ref 157), (1, .int a), (2, .int (0 : Int32))] [] M _
    refine zs_iload_n (pc := 0) t88_0 rfl ?_
    refine zs_iconst (pc := 1) t88_1 (v := 0) (by decide) ?_
    refine zs_bipush (pc := 2) t88_2 (v := 19) (by decide) ?_
    refine zs_invS (pc := 4) (as := [.int a, .int (0 : Int32), .int (19 : Int32)]) (st := []) t88_4 (by decide) mf39 rfl rfl ⟨by decide, by decide, Nat.le_of_ble_eq_true rfl, Nat.le_of_ble_eq_true rfl⟩ (zs_in (by decide) mf39 (Nat.le_of_ble_eq_true rfl) ?_) (fun _ _ q => q)
    show zGo X l 0 0 0 39 0 [(0, .int a), (1, .int (0 : Int32)), (2, .int (19 : Int32))] [] M _
    refine zs_iload_n (pc := 0) t39_0 rfl ?_
    refine zs_iload_n (pc := 1) t39_1 rfl ?_
    refine zs_icmp_ltF (pc := 2) t39_2 rfl li0 (by omega) ?_
    refine zs_iload_n (pc := 5) t39_5 rfl ?_
    refine zs_iload_n (pc := 6) t39_6 rfl ?_
    refine zs_icmp_gtF (pc := 7) t39_7 rfl li19 (by omega) ?_
    refine zs_iconst (pc := 10) t39_10 (v := 1) (by decide) ?_
    refine zs_goto (pc := 11) t39_11 ?_
    refine zs_iret (pc := 15) t39_15 mr39 (by decide) ?_
    show zGo X l 1 0 0 88 7 [(0, .ref 157), (1, .int a), (2, .int (0 : Int32))] [.int (1 : Int32)] M _
    refine zs_if_eqF (pc := 7) t88_7 li1 (by decide) ?_
    refine zs_iload_n (pc := 10) t88_10 rfl ?_
    refine zs_iconst (pc := 11) t88_11 (v := 0) (by decide) ?_
    refine zs_iconst (pc := 12) t88_12 (v := 3) (by decide) ?_
    refine zs_invS (pc := 13) (as := [.int (0 : Int32), .int (0 : Int32), .int (3 : Int32)]) (st := []) t88_13 (by decide) mf39 rfl rfl ⟨by decide, by decide, Nat.le_of_ble_eq_true rfl, Nat.le_of_ble_eq_true rfl⟩ (zs_in (by decide) mf39 (Nat.le_of_ble_eq_true rfl) ?_) (fun _ _ q => q)
    show zGo X l 0 0 0 39 0 [(0, .int (0 : Int32)), (1, .int (0 : Int32)), (2, .int (3 : Int32))] [] M _
    refine zs_iload_n (pc := 0) t39_0 rfl ?_
    refine zs_iload_n (pc := 1) t39_1 rfl ?_
    refine zs_icmp_ltF (pc := 2) t39_2 li0 li0 (by decide) ?_
    refine zs_iload_n (pc := 5) t39_5 rfl ?_
    refine zs_iload_n (pc := 6) t39_6 rfl ?_
    refine zs_icmp_gtF (pc := 7) t39_7 li0 li3 (by decide) ?_
    refine zs_iconst (pc := 10) t39_10 (v := 1) (by decide) ?_
    refine zs_goto (pc := 11) t39_11 ?_
    refine zs_iret (pc := 15) t39_15 mr39 (by decide) ?_
    show zGo X l 1 0 0 88 16 [(0, .ref 157), (1, .int a), (2, .int (0 : Int32))] [.int (1 : Int32)] M _
    refine zs_if_eqF (pc := 16) t88_16 li1 (by decide) ?_
    refine zs_aload_n (pc := 19) t88_19 rfl ?_
    refine zs_get (pc := 20) t88_20 (by decide) (zk1 (hs.k fk_zMc_157)) (hs.p rfl fv_zMc_157_2) ?_
    refine zs_iload_n (pc := 23) t88_23 rfl ?_
    refine zs_iconst (pc := 24) t88_24 (v := 4) (by decide) ?_
    obtain ⟨w56v, w56⟩ : ∃ v, a * (4 : Int32) = v := ⟨_, rfl⟩
    have w56g : w56v.toInt = a.toInt * 4 := by rw [← w56]; exact zmulc rfl li4 (by omega) (by omega)
    refine zs_imul (pc := 25) t88_25 (c := w56v) w56 ?_
    refine zs_iload_n (pc := 26) t88_26 rfl ?_
    obtain ⟨w57v, w57e, w57⟩ := ziadd (a := w56v) (b := (0 : Int32)) w56g li0 (by omega) (by omega)
    refine zs_iadd (pc := 27) t88_27 (c := w57v) w57e ?_
    have w58 := zrg (zI M 160 (4 * w7n))
    have w59 : (4 * w7n) = 4 * w7n → (zI M 160 (4 * w7n)).toInt = y0 := fun q => by rw [q]; exact y160
    have w60 : L = 104 ∧ (4 * w7n) = 4 * w7n + 1 → (zI M 160 (4 * w7n)).toInt = y1 := fun q => by rw [q.2]; exact (y161 q.1).1
    have w61 : L = 104 ∧ (4 * w7n) = 4 * w7n + 2 → (zI M 160 (4 * w7n)).toInt = y2 := fun q => by rw [q.2]; exact (y161 q.1).2
    refine zs_iald (pc := 28) t88_28 (j := (4 * w7n)) (by decide) (zk1 (hs.k fk_zMc_160)) (show w57v.toInt = (((4 * w7n) : Nat) : Int) by omega) (zk2 (hs.k fk_zMc_160) (by omega)) rfl ?_
    refine zs_goto (pc := 29) t88_29 ?_
    refine zs_iret (pc := 33) t88_33 mr88 rfl ?_
    show zGo X l 5 0 0 86 122 [(0, .ref 6), (1, .int a)] [.int (zI M 160 (4 * w7n)), .ref 6] M _
    have w62 := ib164_0 hI
    have w63 : (zI M 164 0).toInt = (zI M 164 0).toInt := (congrArg Int32.toInt rfl).trans rfl
    have w64 := ib325_0 hI
    have w65 : (zI M 325 0).toInt = (zI M 325 0).toInt := (congrArg Int32.toInt rfl).trans rfl
    refine zs_invV (pc := 122) (k := 6) (as' := [.int (zI M 160 (4 * w7n))]) (st := []) t86_122 mf95 rfl rfl (Or.inl ⟨by decide, (zk1 (hs.k fk_zMc_6))⟩) ⟨by decide, by decide, Nat.le_of_ble_eq_true rfl, Nat.le_of_ble_eq_true rfl⟩ (S95 hs hI x0 x1 x2 x3 ?_) (fun _ _ q => q)
    intro w66M w66v w66s w66I w66F w66t0 w66x0
    have w66g := zrg w66v
    have w67 := ib164_0 w66I
    have w68 := ib325_0 w66I
    show zGo X l 5 0 0 86 125 [(0, .ref 6), (1, .int a)] [.int w66v] w66M _
    have w69 : (zI w66M 164 0).toInt = (zI w66M 164 0).toInt := (congrArg Int32.toInt rfl).trans rfl
    have w70 : (zI w66M 325 0).toInt = (zI w66M 325 0).toInt := (congrArg Int32.toInt rfl).trans rfl
    have w71 := w66x0
    rw [show (zI M 160 (4 * w7n)).toInt = y0 by omega] at w71
    exact zs_iret (pc := 125) t86_125 mr86 rfl (hQ _ _ w66s w66I ((zFr.refl).trans (w66F.mono rfl)) (by omega) (by
        rcases w71 with ⟨q1, q2, q3⟩ | ⟨q1, q2, q3, q4⟩
        · exact Or.inl ⟨by omega, aDo.nn (by omega) (by omega), q3⟩
        · exact Or.inr ⟨by omega, _, aDo.ny (by omega) ⟨q1, q2⟩, q4⟩))
  by_cases w72 : (zI M 159 w7n).toInt = 120
  · refine zs_lsw (pc := 8) t86_8 (off := 76) ((rfl : (zI M 159 w7n).toInt = (zI M 159 w7n).toInt).trans w72) rfl (pc2 := 84) rfl ?_
    refine zs_aload_n (pc := 84) t86_84 rfl ?_
    refine zs_aload_n (pc := 85) t86_85 rfl ?_
    refine zs_get (pc := 86) t86_86 (by decide) (zk1 (hs.k fk_zMc_6)) (hs.p rfl fv_zMc_6_4) ?_
    refine zs_iload_n (pc := 89) t86_89 rfl ?_
    refine zs_iconst (pc := 90) t86_90 (v := 0) (by decide) ?_
    refine zs_invV (pc := 91) (k := 157) (as' := [.int a, .int (0 : Int32)]) (st := [.ref 6]) t86_91 mf88 rfl rfl (Or.inl ⟨by decide, (zk1 (hs.k fk_zMc_157))⟩) ⟨by decide, by decide, Nat.le_of_ble_eq_true rfl, Nat.le_of_ble_eq_true rfl⟩ (zs_in (by decide) mf88 (Nat.le_of_ble_eq_true rfl) ?_) (fun _ _ q => q)
    show zGo X l 1 0 0 88 0 [(0, .ref 157), (1, .int a), (2, .int (0 : Int32))] [] M _
    refine zs_iload_n (pc := 0) t88_0 rfl ?_
    refine zs_iconst (pc := 1) t88_1 (v := 0) (by decide) ?_
    refine zs_bipush (pc := 2) t88_2 (v := 19) (by decide) ?_
    refine zs_invS (pc := 4) (as := [.int a, .int (0 : Int32), .int (19 : Int32)]) (st := []) t88_4 (by decide) mf39 rfl rfl ⟨by decide, by decide, Nat.le_of_ble_eq_true rfl, Nat.le_of_ble_eq_true rfl⟩ (zs_in (by decide) mf39 (Nat.le_of_ble_eq_true rfl) ?_) (fun _ _ q => q)
    show zGo X l 0 0 0 39 0 [(0, .int a), (1, .int (0 : Int32)), (2, .int (19 : Int32))] [] M _
    refine zs_iload_n (pc := 0) t39_0 rfl ?_
    refine zs_iload_n (pc := 1) t39_1 rfl ?_
    refine zs_icmp_ltF (pc := 2) t39_2 rfl li0 (by omega) ?_
    refine zs_iload_n (pc := 5) t39_5 rfl ?_
    refine zs_iload_n (pc := 6) t39_6 rfl ?_
    refine zs_icmp_gtF (pc := 7) t39_7 rfl li19 (by omega) ?_
    refine zs_iconst (pc := 10) t39_10 (v := 1) (by decide) ?_
    refine zs_goto (pc := 11) t39_11 ?_
    refine zs_iret (pc := 15) t39_15 mr39 (by decide) ?_
    show zGo X l 1 0 0 88 7 [(0, .ref 157), (1, .int a), (2, .int (0 : Int32))] [.int (1 : Int32)] M _
    refine zs_if_eqF (pc := 7) t88_7 li1 (by decide) ?_
    refine zs_iload_n (pc := 10) t88_10 rfl ?_
    refine zs_iconst (pc := 11) t88_11 (v := 0) (by decide) ?_
    refine zs_iconst (pc := 12) t88_12 (v := 3) (by decide) ?_
    refine zs_invS (pc := 13) (as := [.int (0 : Int32), .int (0 : Int32), .int (3 : Int32)]) (st := []) t88_13 (by decide) mf39 rfl rfl ⟨by decide, by decide, Nat.le_of_ble_eq_true rfl, Nat.le_of_ble_eq_true rfl⟩ (zs_in (by decide) mf39 (Nat.le_of_ble_eq_true rfl) ?_) (fun _ _ q => q)
    show zGo X l 0 0 0 39 0 [(0, .int (0 : Int32)), (1, .int (0 : Int32)), (2, .int (3 : Int32))] [] M _
    refine zs_iload_n (pc := 0) t39_0 rfl ?_
    refine zs_iload_n (pc := 1) t39_1 rfl ?_
    refine zs_icmp_ltF (pc := 2) t39_2 li0 li0 (by decide) ?_
    refine zs_iload_n (pc := 5) t39_5 rfl ?_
    refine zs_iload_n (pc := 6) t39_6 rfl ?_
    refine zs_icmp_gtF (pc := 7) t39_7 li0 li3 (by decide) ?_
    refine zs_iconst (pc := 10) t39_10 (v := 1) (by decide) ?_
    refine zs_goto (pc := 11) t39_11 ?_
    refine zs_iret (pc := 15) t39_15 mr39 (by decide) ?_
    show zGo X l 1 0 0 88 16 [(0, .ref 157), (1, .int a), (2, .int (0 : Int32))] [.int (1 : Int32)] M _
    refine zs_if_eqF (pc := 16) t88_16 li1 (by decide) ?_
    refine zs_aload_n (pc := 19) t88_19 rfl ?_
    refine zs_get (pc := 20) t88_20 (by decide) (zk1 (hs.k fk_zMc_157)) (hs.p rfl fv_zMc_157_2) ?_
    refine zs_iload_n (pc := 23) t88_23 rfl ?_
    refine zs_iconst (pc := 24) t88_24 (v := 4) (by decide) ?_
    obtain ⟨w73v, w73⟩ : ∃ v, a * (4 : Int32) = v := ⟨_, rfl⟩
    have w73g : w73v.toInt = a.toInt * 4 := by rw [← w73]; exact zmulc rfl li4 (by omega) (by omega)
    refine zs_imul (pc := 25) t88_25 (c := w73v) w73 ?_
    refine zs_iload_n (pc := 26) t88_26 rfl ?_
    obtain ⟨w74v, w74e, w74⟩ := ziadd (a := w73v) (b := (0 : Int32)) w73g li0 (by omega) (by omega)
    refine zs_iadd (pc := 27) t88_27 (c := w74v) w74e ?_
    have w75 := zrg (zI M 160 (4 * w7n))
    have w76 : (4 * w7n) = 4 * w7n → (zI M 160 (4 * w7n)).toInt = y0 := fun q => by rw [q]; exact y160
    have w77 : L = 104 ∧ (4 * w7n) = 4 * w7n + 1 → (zI M 160 (4 * w7n)).toInt = y1 := fun q => by rw [q.2]; exact (y161 q.1).1
    have w78 : L = 104 ∧ (4 * w7n) = 4 * w7n + 2 → (zI M 160 (4 * w7n)).toInt = y2 := fun q => by rw [q.2]; exact (y161 q.1).2
    refine zs_iald (pc := 28) t88_28 (j := (4 * w7n)) (by decide) (zk1 (hs.k fk_zMc_160)) (show w74v.toInt = (((4 * w7n) : Nat) : Int) by omega) (zk2 (hs.k fk_zMc_160) (by omega)) rfl ?_
    refine zs_goto (pc := 29) t88_29 ?_
    refine zs_iret (pc := 33) t88_33 mr88 rfl ?_
    show zGo X l 5 0 0 86 94 [(0, .ref 6), (1, .int a)] [.int (zI M 160 (4 * w7n)), .ref 6] M _
    have w79 := ib164_0 hI
    have w80 : (zI M 164 0).toInt = (zI M 164 0).toInt := (congrArg Int32.toInt rfl).trans rfl
    have w81 := ib325_0 hI
    have w82 : (zI M 325 0).toInt = (zI M 325 0).toInt := (congrArg Int32.toInt rfl).trans rfl
    refine zs_invV (pc := 94) (k := 6) (as' := [.int (zI M 160 (4 * w7n))]) (st := []) t86_94 mf90 rfl rfl (Or.inl ⟨by decide, (zk1 (hs.k fk_zMc_6))⟩) ⟨by decide, by decide, Nat.le_of_ble_eq_true rfl, Nat.le_of_ble_eq_true rfl⟩ (S90 hs hI x0 x1 x2 x3 ?_) (fun _ _ q => q)
    intro w83M w83v w83s w83I w83F w83t0 w83x0
    have w83g := zrg w83v
    have w84 := ib164_0 w83I
    have w85 := ib325_0 w83I
    show zGo X l 5 0 0 86 97 [(0, .ref 6), (1, .int a)] [.int w83v] w83M _
    have w86 : (zI w83M 164 0).toInt = (zI w83M 164 0).toInt := (congrArg Int32.toInt rfl).trans rfl
    have w87 : (zI w83M 325 0).toInt = (zI w83M 325 0).toInt := (congrArg Int32.toInt rfl).trans rfl
    have w88 := w83x0
    rw [show (zI M 160 (4 * w7n)).toInt = y0 by omega] at w88
    exact zs_iret (pc := 97) t86_97 mr86 rfl (hQ _ _ w83s w83I ((zFr.refl).trans (w83F.mono rfl)) (by omega) (by
        rcases w88 with ⟨q1, q2, q3⟩ | ⟨q1, q2, q3, q4, q5⟩
        · exact Or.inl ⟨by omega, aDo.xn (by omega) (by omega), q3⟩
        · exact Or.inr ⟨by have z := pct.nn (P := zctb (uS F (32 + 4 * y0.toNat) (-1))) ((uS F (32 + 4 * y0.toNat) (-1)) 1).toNat; omega, _, aDo.xy (by omega) ⟨q1, q2, q3⟩, q5⟩))
  refine zs_lsw (pc := 8) t86_8 (off := 118) rfl (by unfold zlsel; repeat (first | rfl | (rw [if_neg (by omega)]; unfold zlsel))) (pc2 := 126) rfl ?_
  refine zs_iconst (pc := 126) t86_126 (v := -1) (by decide) ?_
  have w89 := ib164_0 hI
  have w90 : (zI M 164 0).toInt = (zI M 164 0).toInt := (congrArg Int32.toInt rfl).trans rfl
  have w91 := ib325_0 hI
  have w92 : (zI M 325 0).toInt = (zI M 325 0).toInt := (congrArg Int32.toInt rfl).trans rfl
  have w93 := lin1
  exact zs_iret (pc := 127) t86_127 mr86 (by decide) (hQ _ _ hs hI (zFr.refl) (by omega) (Or.inl ⟨by decide, aDo.no (by omega), x0, x1, x2⟩))
theorem S82 {X : zX} {l : Launch} {M : zM} {Q : Option Value → zM → Prop} (hs : zSk zMc M) (hI : zIv cLo cHi M) {F : Nat → Int} {H : Nat → Nat → Int} {n : Int} {K : Nat → Nat → Int} {T : Nat → Int} {g : Nat → Int} {nn : Int} (x0 : zSo M 7 F) (x1 : zHC M H n) (x2 : zKC M K T) (x3 : zWF F) (x4 : zTa M g nn) (hQ : ∀ (M' : zM) (v : Int32), zSk zMc M' → zIv cLo cHi M' → zFr [(7, 18, none), (31, 154, none), (164, 164, some 0), (325, 325, some 0), (6, 6, some 11), (6, 6, some 12), (155, 155, none), (159, 160, none)] M M' → ((zI M' 155 1).toInt = 0) → (((zI M' 164 0).toInt = 0 ∧ (zI M' 325 0).toInt = 0) ∨ (v.toInt ≤ 0 ∧ (zI M' 164 0).toInt = (zI M 164 0).toInt ∧ (zI M' 325 0).toInt = (zI M 325 0).toInt)) → ((v.toInt = -1 ∧ gR (aSt g nn) (0, 0, aZ) none ∧ zSC M' F H n K T ∧ (zI M' 6 12).toInt = (zI M 6 12).toInt) ∨ (0 ≤ v.toInt ∧ ∃ (k : Nat) (L : Nat → aT) (F2 : Nat → Int) (H2 : Nat → Nat → Int) (n2 : Int), gR (aSt g nn) (0, 0, aZ) (some (k, L)) ∧ gR (dSt L k) (0, F, H, n) (v.toInt, (zI M' 6 12).toInt, F2, H2, n2) ∧ zWF F2 ∧ zSC M' F2 H2 n2 K T)) → Q (some (.int v)) M') : zCall X l 6 0 0 82 [.ref 6] M Q := by
  refine zs_in (by decide) mf82 (Nat.le_of_ble_eq_true rfl) ?_
  show zGo X l 6 0 0 82 0 [(0, .ref 6)] [] M _
  have f0 := x0.1
  have w1 := ib7_0 hI
  have w2 : (zI M 7 0).toInt = (zI M 7 0).toInt := (congrArg Int32.toInt rfl).trans rfl
  have w3 := ib7_3 hI
  have w4 : (zI M 7 3).toInt = (zI M 7 3).toInt := (congrArg Int32.toInt rfl).trans rfl
  have w5 := ib7_8 hI
  have w6 : (zI M 7 8).toInt = (zI M 7 8).toInt := (congrArg Int32.toInt rfl).trans rfl
  have f1 := x3.1
  have f3 := x3.2.2.2
  have f2 := (show (zI M 7 0).toInt = F 0 ∧ (zI M 7 3).toInt = F 1 ∧ (zI M 7 8).toInt = F 2 from ⟨x0.1.1, x0.1.2.1, x0.1.2.2.1⟩)
  have w7 := ib155_1 hI
  have w8 : (zI M 155 1).toInt = (zI M 155 1).toInt := (congrArg Int32.toInt rfl).trans rfl
  refine zs_aload_n (pc := 0) t82_0 rfl ?_
  refine zs_get (pc := 1) t82_1 (by decide) (zk1 (hs.k fk_zMc_6)) (hs.p rfl fv_zMc_6_4) ?_
  refine zs_aload_n (pc := 4) t82_4 rfl ?_
  refine zs_get (pc := 5) t82_5 (by decide) (zk1 (hs.k fk_zMc_6)) (hs.p rfl fv_zMc_6_3) ?_
  refine zs_invV (pc := 8) (k := 157) (as' := [.ref 155]) (st := []) t82_8 mf83 rfl rfl (Or.inl ⟨by decide, (zk1 (hs.k fk_zMc_157))⟩) ⟨by decide, by decide, Nat.le_of_ble_eq_true rfl, Nat.le_of_ble_eq_true rfl⟩ (X83_157_155 hs hI x4 ?_) (fun _ _ q => q)
  intro w9M w9v w9s w9I w9F w9x0 w9a w9b
  show zGo X l 6 0 0 82 11 [(0, .ref 6)] [.int w9v] w9M _
  rcases w9x0 with ⟨w10v, w10e⟩ | ⟨w10v, w10L, w10e, w10l⟩
  · skip
    refine zs_istore_n (pc := 11) t82_11 (ls' := [(1, .int w9v), (0, .ref 6)]) (zml mf82 (by decide)) rfl ?_
    refine zs_aload_n (pc := 12) t82_12 rfl ?_
    refine zs_aload_n (pc := 13) t82_13 rfl ?_
    refine zs_get (pc := 14) t82_14 (by decide) (zk1 (w9s.k fk_zMc_6)) (w9s.p rfl fv_zMc_6_3) ?_
    refine zs_invV (pc := 17) (k := 155) (as' := []) (st := [.ref 6]) t82_17 mf57 rfl rfl (Or.inl ⟨by decide, (zk1 (w9s.k fk_zMc_155))⟩) ⟨by decide, by decide, Nat.le_of_ble_eq_true rfl, Nat.le_of_ble_eq_true rfl⟩ (zs_in (by decide) mf57 (Nat.le_of_ble_eq_true rfl) ?_) (fun _ _ q => q)
    show zGo X l 0 0 0 57 0 [(0, .ref 155)] [] w9M _
    refine zs_aload_n (pc := 0) t57_0 rfl ?_
    have w11 := zrg (zI w9M 155 3)
    refine zs_get (pc := 1) t57_1 (by decide) (zk1 (w9s.k fk_zMc_155)) (zfvi rfl rfl) ?_
    refine zs_iret (pc := 4) t57_4 mr57 rfl ?_
    show zGo X l 6 0 0 82 20 [(1, .int w9v), (0, .ref 6)] [.int (zI w9M 155 3), .ref 6] w9M _
    have w12 : zIv cLo cHi (zsI w9M 6 11 (zI w9M 155 3)) := zIv.put w9I (show (-2147483648) ≤ (zI w9M 155 3).toInt ∧ (zI w9M 155 3).toInt ≤ 2147483647 from zrg (zI w9M 155 3))
    refine zs_putI (pc := 20) t82_20 (zk1 (w9s.k fk_zMc_6)) rfl ?_
    refine zs_aload_n (pc := 23) t82_23 rfl ?_
    refine zs_get (pc := 24) t82_24 (by decide) (zk1 (w9s.k fk_zMc_6)) (w9s.p rfl fv_zMc_6_3) ?_
    refine zs_iconst (pc := 27) t82_27 (v := 0) (by decide) ?_
    refine zs_invV (pc := 28) (k := 155) (as' := [.int (0 : Int32)]) (st := []) t82_28 mf19 rfl rfl (Or.inl ⟨by decide, (zk1 (w9s.k fk_zMc_155))⟩) ⟨by decide, by decide, Nat.le_of_ble_eq_true rfl, Nat.le_of_ble_eq_true rfl⟩ (zs_in (by decide) mf19 (Nat.le_of_ble_eq_true rfl) ?_) (fun _ _ q => q)
    show zGo X l 1 0 0 19 0 [(0, .ref 155), (1, .int (0 : Int32))] [] (zsI w9M 6 11 (zI w9M 155 3)) _
    refine zs_aload_n (pc := 0) t19_0 rfl ?_
    refine zs_iconst (pc := 1) t19_1 (v := 0) (by decide) ?_
    refine zs_iload_n (pc := 2) t19_2 rfl ?_
    refine zs_aload_n (pc := 3) t19_3 rfl ?_
    refine zs_get (pc := 4) t19_4 (by decide) (zk1 (w9s.k fk_zMc_155)) (zfvi rfl ((zIo (by decide)).trans ((w9F 155 1 rfl).trans rfl))) ?_
    refine zs_invS (pc := 7) (as := [.int (0 : Int32), .int (zI M 155 1)]) (st := [.int (0 : Int32), .ref 155]) t19_7 (by decide) mf20 rfl rfl ⟨by decide, by decide, Nat.le_of_ble_eq_true rfl, Nat.le_of_ble_eq_true rfl⟩ (zs_in (by decide) mf20 (Nat.le_of_ble_eq_true rfl) ?_) (fun _ _ q => q)
    show zGo X l 0 0 0 20 0 [(0, .int (0 : Int32)), (1, .int (zI M 155 1))] [] (zsI w9M 6 11 (zI w9M 155 3)) _
    refine zs_iload_n (pc := 0) t20_0 rfl ?_
    refine zs_iload_n (pc := 1) t20_1 rfl ?_
    refine zs_icmp_gtF (pc := 2) t20_2 li0 rfl (by omega) ?_
    refine zs_iload_n (pc := 5) t20_5 rfl ?_
    refine zs_goto (pc := 6) t20_6 ?_
    refine zs_iret (pc := 10) t20_10 mr20 (by decide) ?_
    show zGo X l 1 0 0 19 10 [(0, .ref 155), (1, .int (0 : Int32))] [.int (0 : Int32), .int (0 : Int32), .ref 155] (zsI w9M 6 11 (zI w9M 155 3)) _
    refine zs_invS (pc := 10) (as := [.int (0 : Int32), .int (0 : Int32)]) (st := [.ref 155]) t19_10 (by decide) mf21 rfl rfl ⟨by decide, by decide, Nat.le_of_ble_eq_true rfl, Nat.le_of_ble_eq_true rfl⟩ (zs_in (by decide) mf21 (Nat.le_of_ble_eq_true rfl) ?_) (fun _ _ q => q)
    show zGo X l 0 0 0 21 0 [(0, .int (0 : Int32)), (1, .int (0 : Int32))] [] (zsI w9M 6 11 (zI w9M 155 3)) _
    refine zs_iload_n (pc := 0) t21_0 rfl ?_
    refine zs_iload_n (pc := 1) t21_1 rfl ?_
    refine zs_icmp_ltF (pc := 2) t21_2 li0 li0 (by decide) ?_
    refine zs_iload_n (pc := 5) t21_5 rfl ?_
    refine zs_goto (pc := 6) t21_6 ?_
    refine zs_iret (pc := 10) t21_10 mr21 (by decide) ?_
    show zGo X l 1 0 0 19 13 [(0, .ref 155), (1, .int (0 : Int32))] [.int (0 : Int32), .ref 155] (zsI w9M 6 11 (zI w9M 155 3)) _
    have w13 : zIv cLo cHi (zsI (zsI w9M 6 11 (zI w9M 155 3)) 155 1 (0 : Int32)) := zIv.put w12 (show 0 ≤ (0 : Int32).toInt ∧ (0 : Int32).toInt ≤ 500 from ⟨by decide, by decide⟩)
    refine zs_putI (pc := 13) t19_13 (zk1 (w9s.k fk_zMc_155)) rfl ?_
    refine zs_vret (pc := 16) t19_16 mr19 ?_
    show zGo X l 6 0 0 82 31 [(1, .int w9v), (0, .ref 6)] [] (zsI (zsI w9M 6 11 (zI w9M 155 3)) 155 1 (0 : Int32)) _
    refine zs_iload_n (pc := 31) t82_31 rfl ?_
    refine zs_iconst (pc := 32) t82_32 (v := -1) (by decide) ?_
    refine zs_icmp_neF (pc := 33) t82_33 rfl lin1 (by omega) ?_
    refine zs_iconst (pc := 36) t82_36 (v := -1) (by decide) ?_
    have w14 : (zI (zsI (zsI w9M 6 11 (zI w9M 155 3)) 155 1 (0 : Int32)) 155 1).toInt = 0 := (congrArg Int32.toInt zIs).trans li0
    have w15 := ib164_0 hI
    have w16 : (zI (zsI (zsI w9M 6 11 (zI w9M 155 3)) 155 1 (0 : Int32)) 164 0).toInt = (zI M 164 0).toInt := (congrArg Int32.toInt ((zIo (by decide)).trans ((zIo (by decide)).trans ((w9F 164 0 rfl).trans rfl)))).trans rfl
    have w17 := ib325_0 hI
    have w18 : (zI (zsI (zsI w9M 6 11 (zI w9M 155 3)) 155 1 (0 : Int32)) 325 0).toInt = (zI M 325 0).toInt := (congrArg Int32.toInt ((zIo (by decide)).trans ((zIo (by decide)).trans ((w9F 325 0 rfl).trans rfl)))).trans rfl
    have w19 := lin1
    have w20 := zrg (zI M 6 12)
    have w21 : (zI (zsI (zsI w9M 6 11 (zI w9M 155 3)) 155 1 (0 : Int32)) 6 12).toInt = (zI M 6 12).toInt := (congrArg Int32.toInt ((zIo (by decide)).trans ((zIoj (by decide)).trans ((w9F 6 12 rfl).trans rfl)))).trans rfl
    exact zs_iret (pc := 37) t82_37 mr82 (by decide) (hQ _ _ w9s w13 ((((zFr.refl).trans (w9F.mono rfl)).put rfl).put rfl) (by omega) (by omega) (Or.inl ⟨by decide, w10e, ⟨(zSo.fr x0 (zEq.tr (zEq.tr (zFr.eq w9F rfl) (zEq.put rfl)) (zEq.put rfl))), (zHC.fr x1 (zEq.tr (zEq.tr (zFr.eq w9F rfl) (zEq.put rfl)) (zEq.put rfl))), (zKC.fr x2 (zEq.tr (zEq.tr (zFr.eq w9F rfl) (zEq.put rfl)) (zEq.put rfl)))⟩, by omega⟩))
  · skip
    refine zs_istore_n (pc := 11) t82_11 (ls' := [(1, .int w9v), (0, .ref 6)]) (zml mf82 (by decide)) rfl ?_
    refine zs_aload_n (pc := 12) t82_12 rfl ?_
    refine zs_aload_n (pc := 13) t82_13 rfl ?_
    refine zs_get (pc := 14) t82_14 (by decide) (zk1 (w9s.k fk_zMc_6)) (w9s.p rfl fv_zMc_6_3) ?_
    refine zs_invV (pc := 17) (k := 155) (as' := []) (st := [.ref 6]) t82_17 mf57 rfl rfl (Or.inl ⟨by decide, (zk1 (w9s.k fk_zMc_155))⟩) ⟨by decide, by decide, Nat.le_of_ble_eq_true rfl, Nat.le_of_ble_eq_true rfl⟩ (zs_in (by decide) mf57 (Nat.le_of_ble_eq_true rfl) ?_) (fun _ _ q => q)
    show zGo X l 0 0 0 57 0 [(0, .ref 155)] [] w9M _
    refine zs_aload_n (pc := 0) t57_0 rfl ?_
    have w22 := zrg (zI w9M 155 3)
    refine zs_get (pc := 1) t57_1 (by decide) (zk1 (w9s.k fk_zMc_155)) (zfvi rfl rfl) ?_
    refine zs_iret (pc := 4) t57_4 mr57 rfl ?_
    show zGo X l 6 0 0 82 20 [(1, .int w9v), (0, .ref 6)] [.int (zI w9M 155 3), .ref 6] w9M _
    have w23 : zIv cLo cHi (zsI w9M 6 11 (zI w9M 155 3)) := zIv.put w9I (show (-2147483648) ≤ (zI w9M 155 3).toInt ∧ (zI w9M 155 3).toInt ≤ 2147483647 from zrg (zI w9M 155 3))
    refine zs_putI (pc := 20) t82_20 (zk1 (w9s.k fk_zMc_6)) rfl ?_
    refine zs_aload_n (pc := 23) t82_23 rfl ?_
    refine zs_get (pc := 24) t82_24 (by decide) (zk1 (w9s.k fk_zMc_6)) (w9s.p rfl fv_zMc_6_3) ?_
    refine zs_iconst (pc := 27) t82_27 (v := 0) (by decide) ?_
    refine zs_invV (pc := 28) (k := 155) (as' := [.int (0 : Int32)]) (st := []) t82_28 mf19 rfl rfl (Or.inl ⟨by decide, (zk1 (w9s.k fk_zMc_155))⟩) ⟨by decide, by decide, Nat.le_of_ble_eq_true rfl, Nat.le_of_ble_eq_true rfl⟩ (zs_in (by decide) mf19 (Nat.le_of_ble_eq_true rfl) ?_) (fun _ _ q => q)
    show zGo X l 1 0 0 19 0 [(0, .ref 155), (1, .int (0 : Int32))] [] (zsI w9M 6 11 (zI w9M 155 3)) _
    refine zs_aload_n (pc := 0) t19_0 rfl ?_
    refine zs_iconst (pc := 1) t19_1 (v := 0) (by decide) ?_
    refine zs_iload_n (pc := 2) t19_2 rfl ?_
    refine zs_aload_n (pc := 3) t19_3 rfl ?_
    refine zs_get (pc := 4) t19_4 (by decide) (zk1 (w9s.k fk_zMc_155)) (zfvi rfl ((zIo (by decide)).trans ((w9F 155 1 rfl).trans rfl))) ?_
    refine zs_invS (pc := 7) (as := [.int (0 : Int32), .int (zI M 155 1)]) (st := [.int (0 : Int32), .ref 155]) t19_7 (by decide) mf20 rfl rfl ⟨by decide, by decide, Nat.le_of_ble_eq_true rfl, Nat.le_of_ble_eq_true rfl⟩ (zs_in (by decide) mf20 (Nat.le_of_ble_eq_true rfl) ?_) (fun _ _ q => q)
    show zGo X l 0 0 0 20 0 [(0, .int (0 : Int32)), (1, .int (zI M 155 1))] [] (zsI w9M 6 11 (zI w9M 155 3)) _
    refine zs_iload_n (pc := 0) t20_0 rfl ?_
    refine zs_iload_n (pc := 1) t20_1 rfl ?_
    refine zs_icmp_gtF (pc := 2) t20_2 li0 rfl (by omega) ?_
    refine zs_iload_n (pc := 5) t20_5 rfl ?_
    refine zs_goto (pc := 6) t20_6 ?_
    refine zs_iret (pc := 10) t20_10 mr20 (by decide) ?_
    show zGo X l 1 0 0 19 10 [(0, .ref 155), (1, .int (0 : Int32))] [.int (0 : Int32), .int (0 : Int32), .ref 155] (zsI w9M 6 11 (zI w9M 155 3)) _
    refine zs_invS (pc := 10) (as := [.int (0 : Int32), .int (0 : Int32)]) (st := [.ref 155]) t19_10 (by decide) mf21 rfl rfl ⟨by decide, by decide, Nat.le_of_ble_eq_true rfl, Nat.le_of_ble_eq_true rfl⟩ (zs_in (by decide) mf21 (Nat.le_of_ble_eq_true rfl) ?_) (fun _ _ q => q)
    show zGo X l 0 0 0 21 0 [(0, .int (0 : Int32)), (1, .int (0 : Int32))] [] (zsI w9M 6 11 (zI w9M 155 3)) _
    refine zs_iload_n (pc := 0) t21_0 rfl ?_
    refine zs_iload_n (pc := 1) t21_1 rfl ?_
    refine zs_icmp_ltF (pc := 2) t21_2 li0 li0 (by decide) ?_
    refine zs_iload_n (pc := 5) t21_5 rfl ?_
    refine zs_goto (pc := 6) t21_6 ?_
    refine zs_iret (pc := 10) t21_10 mr21 (by decide) ?_
    show zGo X l 1 0 0 19 13 [(0, .ref 155), (1, .int (0 : Int32))] [.int (0 : Int32), .ref 155] (zsI w9M 6 11 (zI w9M 155 3)) _
    have w24 : zIv cLo cHi (zsI (zsI w9M 6 11 (zI w9M 155 3)) 155 1 (0 : Int32)) := zIv.put w23 (show 0 ≤ (0 : Int32).toInt ∧ (0 : Int32).toInt ≤ 500 from ⟨by decide, by decide⟩)
    refine zs_putI (pc := 13) t19_13 (zk1 (w9s.k fk_zMc_155)) rfl ?_
    refine zs_vret (pc := 16) t19_16 mr19 ?_
    show zGo X l 6 0 0 82 31 [(1, .int w9v), (0, .ref 6)] [] (zsI (zsI w9M 6 11 (zI w9M 155 3)) 155 1 (0 : Int32)) _
    refine zs_iload_n (pc := 31) t82_31 rfl ?_
    refine zs_iconst (pc := 32) t82_32 (v := -1) (by decide) ?_
    refine zs_icmp_neT (pc := 33) t82_33 rfl lin1 (by omega) ?_
    refine zs_aload_n (pc := 38) t82_38 rfl ?_
    refine zs_iconst (pc := 39) t82_39 (v := -1) (by decide) ?_
    have w25 : zIv cLo cHi (zsI (zsI (zsI w9M 6 11 (zI w9M 155 3)) 155 1 (0 : Int32)) 6 12 (-1 : Int32)) := zIv.put w24 (show (-2147483648) ≤ (-1 : Int32).toInt ∧ (-1 : Int32).toInt ≤ 2147483647 from zrg (-1 : Int32))
    refine zs_putI (pc := 40) t82_40 (zk1 (w9s.k fk_zMc_6)) rfl ?_
    refine zs_iconst (pc := 43) t82_43 (v := 0) (by decide) ?_
    refine zs_istore_n (pc := 44) t82_44 (ls' := [(2, .int (0 : Int32)), (1, .int w9v), (0, .ref 6)]) (zml mf82 (by decide)) rfl ?_
    refine zs_iconst (pc := 45) t82_45 (v := 0) (by decide) ?_
    refine zs_istore_n (pc := 46) t82_46 (ls' := [(3, .int (0 : Int32)), (2, .int (0 : Int32)), (1, .int w9v), (0, .ref 6)]) (zml mf82 (by decide)) rfl ?_
    have w26L : ∀ (m : Nat) (w26x2 : Int32) (w26x3 : Int32) (w26M : zM), (0 ≤ w26x2.toInt ∧ w26x2.toInt ≤ 20) → (0 ≤ w26x3.toInt ∧ w26x3.toInt ≤ 20) → zSk zMc w26M → zIv cLo cHi w26M → zFr [(7, 18, none), (31, 154, none), (164, 164, some 0), (325, 325, some 0), (6, 6, some 12)] (zsI (zsI (zsI w9M 6 11 (zI w9M 155 3)) 155 1 (0 : Int32)) 6 12 (-1 : Int32)) w26M → (w26x2.toInt = w26x3.toInt) → ((zI w26M 6 12).toInt = -1) → ((zI w26M 155 1).toInt = 0) → (w26x3.toInt ≤ w9v.toInt) → (((zI w26M 164 0).toInt = 0 ∧ (zI w26M 325 0).toInt = 0) ∨ (w26x3.toInt = 0 ∧ (zI w26M 164 0).toInt = (zI (zsI (zsI (zsI w9M 6 11 (zI w9M 155 3)) 155 1 (0 : Int32)) 6 12 (-1 : Int32)) 164 0).toInt ∧ (zI w26M 325 0).toInt = (zI (zsI (zsI (zsI w9M 6 11 (zI w9M 155 3)) 155 1 (0 : Int32)) 6 12 (-1 : Int32)) 325 0).toInt)) → (∀ i : Nat, (i : Int) = w26x3.toInt → ∃ (F2 : Nat → Int) (H2 : Nat → Nat → Int) (n2 : Int), gEq (dSt w10L w9v.toInt.toNat) (0, F, H, n) (i, F2, H2, n2) ∧ zWF F2 ∧ zSC w26M F2 H2 n2 K T) → 20 - w26x3.toInt ≤ (m : Int) → zGo X l 6 0 0 82 47 [(0, .ref 6), (1, .int w9v), (2, .int w26x2), (3, .int w26x3)] [] w26M Q := by
      intro m
      induction m using Nat.strongRecOn with
      | ind w26m w26ih =>
        intro w26x2 w26x3 w26M w26b2 w26b3 w26s w26I w26F w26r0 w26r1 w26r2 w26r3 w26r4 w26t0 w26q
        obtain ⟨w27n, w27⟩ : ∃ n : Nat, w26x3.toInt = (n : Int) := ⟨(w26x3.toInt).toNat, by omega⟩
        obtain ⟨w26G, w26E, w26nn, w26d, w26wf, w26g⟩ := w26t0 w27n (by omega)
        have w28 := zrg (zI w26M 6 12)
        have w29 := ib164_0 w26I
        have w30 := ib325_0 w26I
        have w31 : (zI (zsI (zsI (zsI w9M 6 11 (zI w9M 155 3)) 155 1 (0 : Int32)) 6 12 (-1 : Int32)) 164 0).toInt = (zI M 164 0).toInt := (congrArg Int32.toInt ((zIo (by decide)).trans ((zIo (by decide)).trans ((zIo (by decide)).trans ((w9F 164 0 rfl).trans rfl))))).trans rfl
        have w32 : (zI (zsI (zsI (zsI w9M 6 11 (zI w9M 155 3)) 155 1 (0 : Int32)) 6 12 (-1 : Int32)) 325 0).toInt = (zI M 325 0).toInt := (congrArg Int32.toInt ((zIo (by decide)).trans ((zIo (by decide)).trans ((zIo (by decide)).trans ((w9F 325 0 rfl).trans rfl))))).trans rfl
        refine zs_iload_n (pc := 47) t82_47 rfl ?_
        refine zs_iload_n (pc := 48) t82_48 rfl ?_
        by_cases w33 : w9v.toInt ≤ w26x3.toInt
        · refine zs_icmp_geT (pc := 49) t82_49 rfl rfl (by omega) ?_
          refine zs_iload_n (pc := 78) t82_78 rfl ?_
          have w34 : (zI w26M 155 1).toInt = 0 := (congrArg Int32.toInt ((w26F 155 1 rfl).trans ((zIo (by decide)).trans zIs))).trans li0
          have w35 : (zI w26M 164 0).toInt = (zI w26M 164 0).toInt := (congrArg Int32.toInt rfl).trans rfl
          have w36 : (zI w26M 325 0).toInt = (zI w26M 325 0).toInt := (congrArg Int32.toInt rfl).trans rfl
          have w37 : (zI w26M 6 12).toInt = (zI w26M 6 12).toInt := (congrArg Int32.toInt rfl).trans rfl
          have w38 := w26d.fin (dSt.end (by omega))
          exact zs_iret (pc := 79) t82_79 mr82 rfl (hQ _ _ w26s w26I ((((((zFr.refl).trans (w9F.mono rfl)).put rfl).put rfl).put rfl).trans (w26F.mono rfl)) (by omega) (by omega) (Or.inr ⟨by omega, w9v.toInt.toNat, w10L, _, _, _, w10e, by rw [show w26x2.toInt = ((w9v.toInt.toNat : Nat) : Int) by omega, show (zI w26M 6 12).toInt = (-1) by omega]; exact w38, w26wf, w26g.1, w26g.2.1, w26g.2.2⟩))
        · refine zs_icmp_geF (pc := 49) t82_49 rfl rfl (by omega) ?_
          refine zs_aload_n (pc := 52) t82_52 rfl ?_
          refine zs_iload_n (pc := 53) t82_53 rfl ?_
          have w39 : (zI w26M 164 0).toInt = (zI w26M 164 0).toInt := (congrArg Int32.toInt rfl).trans rfl
          have w40 : (zI w26M 325 0).toInt = (zI w26M 325 0).toInt := (congrArg Int32.toInt rfl).trans rfl
          refine zs_invV (pc := 54) (k := 6) (as' := [.int w26x3]) (st := []) t82_54 mf86 rfl rfl (Or.inl ⟨by decide, (zk1 (w26s.k fk_zMc_6))⟩) ⟨by decide, by decide, Nat.le_of_ble_eq_true rfl, Nat.le_of_ble_eq_true rfl⟩ (X86_6 w26s w26I ⟨by omega, by omega⟩ w26g.1 w26g.2.1 w26g.2.2 w26wf (fun i hi => by obtain rfl : w27n = i := (by omega); exact (zAl.fr w10l (zEq.tr (zEq.tr (zEq.tr (zEq.put rfl) (zEq.put rfl)) (zEq.put rfl)) (zFr.eq w26F rfl))) w27n (by omega)) ?_) (fun _ _ q => q)
          intro w41M w41v w41s w41I w41F w41t0 w41x0
          have w41g := zrg w41v
          have w42 := ib164_0 w41I
          have w43 := ib325_0 w41I
          show zGo X l 6 0 0 82 57 [(0, .ref 6), (1, .int w9v), (2, .int w26x2), (3, .int w26x3)] [.int w41v] w41M _
          rcases w41x0 with ⟨w44v, w44e, w44g⟩ | ⟨w44v, w44G, w44e, w44g⟩
          · skip
            refine zs_iconst (pc := 57) t82_57 (v := -1) (by decide) ?_
            refine zs_icmp_neF (pc := 58) t82_58 rfl lin1 (by omega) ?_
            refine zs_aload_n (pc := 61) t82_61 rfl ?_
            refine zs_iload_n (pc := 62) t82_62 rfl ?_
            have w45 : zIv cLo cHi (zsI w41M 6 12 w26x3) := zIv.put w41I (show (-2147483648) ≤ w26x3.toInt ∧ w26x3.toInt ≤ 2147483647 from zrg w26x3)
            refine zs_putI (pc := 63) t82_63 (zk1 (w41s.k fk_zMc_6)) rfl ?_
            refine zs_goto (pc := 66) t82_66 ?_
            refine zs_iload_n (pc := 78) t82_78 rfl ?_
            have w46 : (zI (zsI w41M 6 12 w26x3) 155 1).toInt = 0 := (congrArg Int32.toInt ((zIo (by decide)).trans ((w41F 155 1 rfl).trans ((w26F 155 1 rfl).trans ((zIo (by decide)).trans zIs))))).trans li0
            have w47 : (zI (zsI w41M 6 12 w26x3) 164 0).toInt = (zI w41M 164 0).toInt := (congrArg Int32.toInt ((zIo (by decide)).trans rfl)).trans rfl
            have w48 : (zI (zsI w41M 6 12 w26x3) 325 0).toInt = (zI w41M 325 0).toInt := (congrArg Int32.toInt ((zIo (by decide)).trans rfl)).trans rfl
            have w49 : (zI (zsI w41M 6 12 w26x3) 6 12).toInt = w26x3.toInt := (congrArg Int32.toInt zIs).trans rfl
            have w50 := w26d.fin (dSt.no (by omega) w44e)
            exact zs_iret (pc := 79) t82_79 mr82 rfl (hQ _ _ w41s w45 ((((((((zFr.refl).trans (w9F.mono rfl)).put rfl).put rfl).put rfl).trans (w26F.mono rfl)).trans (w41F.mono rfl)).put rfl) (by omega) (by omega) (Or.inr ⟨by omega, w9v.toInt.toNat, w10L, _, _, _, w10e, by rw [show w26x2.toInt = (w27n : Int) by omega, show (zI (zsI w41M 6 12 w26x3) 6 12).toInt = (w27n : Int) by omega]; exact w50, w26wf, (zSo.fr w44g.1 (zEq.put rfl)), (zHC.fr w44g.2.1 (zEq.put rfl)), (zKC.fr w44g.2.2 (zEq.put rfl))⟩))
          · skip
            refine zs_iconst (pc := 57) t82_57 (v := -1) (by decide) ?_
            by_cases w51 : w41v.toInt ≠ (-1)
            · refine zs_icmp_neT (pc := 58) t82_58 rfl lin1 (by omega) ?_
              obtain ⟨w52v, w52e, w52⟩ := ziadd (a := w26x2) (b := Int32.ofInt 1) rfl (show (Int32.ofInt 1).toInt = 1 by decide) (by omega) (by omega)
              refine zs_iinc (pc := 69) t82_69 (ls' := [(2, .int w52v), (0, .ref 6), (1, .int w9v), (3, .int w26x3)]) (zml mf82 (by decide)) rfl (c := w52v) w52e rfl ?_
              obtain ⟨w53v, w53e, w53⟩ := ziadd (a := w26x3) (b := Int32.ofInt 1) rfl (show (Int32.ofInt 1).toInt = 1 by decide) (by omega) (by omega)
              refine zs_iinc (pc := 72) t82_72 (ls' := [(3, .int w53v), (2, .int w52v), (0, .ref 6), (1, .int w9v)]) (zml mf82 (by decide)) rfl (c := w53v) w53e rfl ?_
              refine zs_goto (pc := 75) t82_75 ?_
              refine zGo.locals (ls' := [(0, .ref 6), (1, .int w9v), (2, .int w52v), (3, .int w53v)]) (by simp) ?_
              have w54 := w52
              have w55 := w53
              have w56 : (zI w41M 6 12).toInt = (zI w26M 6 12).toInt := (congrArg Int32.toInt ((w41F 6 12 rfl).trans rfl)).trans rfl
              have w57 : (zI w41M 155 1).toInt = 0 := (congrArg Int32.toInt ((w41F 155 1 rfl).trans ((w26F 155 1 rfl).trans ((zIo (by decide)).trans zIs)))).trans li0
              have w58 : (zI w41M 164 0).toInt = (zI w41M 164 0).toInt := (congrArg Int32.toInt rfl).trans rfl
              have w59 : (zI w41M 325 0).toInt = (zI w41M 325 0).toInt := (congrArg Int32.toInt rfl).trans rfl
              have w60 : w53v.toInt = (w26x3.toInt + 1) := w53
              have w61 : w52v.toInt = (w26x2.toInt + 1) := w52
              exact w26ih (w26m - 1) (by omega) w52v w53v w41M ⟨by omega, by omega⟩ ⟨by omega, by omega⟩ w41s w41I (((zFr.refl).trans (w26F.mono rfl)).trans (w41F.mono rfl)) (by omega) (by omega) (by omega) (by omega) (by omega) (fun i hi => by obtain rfl : w27n + 1 = i := (by omega); exact ⟨_, _, _, w26d.go (dSt.go (by omega) w44e), aDo.wf w26wf w44e, w44g.1, w44g.2.1, w44g.2.2⟩) (by omega)
            · refine zs_icmp_neF (pc := 58) t82_58 rfl lin1 (by omega) ?_
              refine zs_aload_n (pc := 61) t82_61 rfl ?_
              refine zs_iload_n (pc := 62) t82_62 rfl ?_
              have w62 : zIv cLo cHi (zsI w41M 6 12 w26x3) := zIv.put w41I (show (-2147483648) ≤ w26x3.toInt ∧ w26x3.toInt ≤ 2147483647 from zrg w26x3)
              refine zs_putI (pc := 63) t82_63 (zk1 (w41s.k fk_zMc_6)) rfl ?_
              refine zs_goto (pc := 66) t82_66 ?_
              refine zs_iload_n (pc := 78) t82_78 rfl ?_
              have w63 : (zI (zsI w41M 6 12 w26x3) 155 1).toInt = 0 := (congrArg Int32.toInt ((zIo (by decide)).trans ((w41F 155 1 rfl).trans ((w26F 155 1 rfl).trans ((zIo (by decide)).trans zIs))))).trans li0
              have w64 : (zI (zsI w41M 6 12 w26x3) 164 0).toInt = (zI w41M 164 0).toInt := (congrArg Int32.toInt ((zIo (by decide)).trans rfl)).trans rfl
              have w65 : (zI (zsI w41M 6 12 w26x3) 325 0).toInt = (zI w41M 325 0).toInt := (congrArg Int32.toInt ((zIo (by decide)).trans rfl)).trans rfl
              exact zs_iret (pc := 79) t82_79 mr82 rfl (hQ _ _ w41s w62 ((((((((zFr.refl).trans (w9F.mono rfl)).put rfl).put rfl).put rfl).trans (w26F.mono rfl)).trans (w41F.mono rfl)).put rfl) (by omega) (by omega) (absurd (show w41v.toInt = -1 by omega) w44v))
    refine zGo.locals (ls' := [(0, .ref 6), (1, .int w9v), (2, .int (0 : Int32)), (3, .int (0 : Int32))]) (by simp) ?_
    have w66 := li0
    have w67 := li0
    have w68 : (zI (zsI (zsI (zsI w9M 6 11 (zI w9M 155 3)) 155 1 (0 : Int32)) 6 12 (-1 : Int32)) 6 12).toInt = (-1) := (congrArg Int32.toInt zIs).trans lin1
    have w69 : (zI (zsI (zsI (zsI w9M 6 11 (zI w9M 155 3)) 155 1 (0 : Int32)) 6 12 (-1 : Int32)) 155 1).toInt = 0 := (congrArg Int32.toInt ((zIo (by decide)).trans zIs)).trans li0
    have w70 : (zI (zsI (zsI (zsI w9M 6 11 (zI w9M 155 3)) 155 1 (0 : Int32)) 6 12 (-1 : Int32)) 164 0).toInt = (zI M 164 0).toInt := (congrArg Int32.toInt ((zIo (by decide)).trans ((zIo (by decide)).trans ((zIo (by decide)).trans ((w9F 164 0 rfl).trans rfl))))).trans rfl
    have w71 : (zI (zsI (zsI (zsI w9M 6 11 (zI w9M 155 3)) 155 1 (0 : Int32)) 6 12 (-1 : Int32)) 325 0).toInt = (zI M 325 0).toInt := (congrArg Int32.toInt ((zIo (by decide)).trans ((zIo (by decide)).trans ((zIo (by decide)).trans ((w9F 325 0 rfl).trans rfl))))).trans rfl
    exact w26L ((20 - 0 : Int).toNat) (0 : Int32) (0 : Int32) (zsI (zsI (zsI w9M 6 11 (zI w9M 155 3)) 155 1 (0 : Int32)) 6 12 (-1 : Int32)) ⟨by decide, by decide⟩ ⟨by decide, by decide⟩ w9s w25 zFr.refl (by omega) (by omega) (by omega) (by omega) (by omega) (fun i hi => by obtain rfl : i = 0 := (by omega); exact ⟨F, H, n, gEq.refl, x3, (zSo.fr x0 (zEq.tr (zEq.tr (zEq.tr (zFr.eq w9F rfl) (zEq.put rfl)) (zEq.put rfl)) (zEq.put rfl))), (zHC.fr x1 (zEq.tr (zEq.tr (zEq.tr (zFr.eq w9F rfl) (zEq.put rfl)) (zEq.put rfl)) (zEq.put rfl))), (zKC.fr x2 (zEq.tr (zEq.tr (zEq.tr (zFr.eq w9F rfl) (zEq.put rfl)) (zEq.put rfl)) (zEq.put rfl)))⟩) (by omega)
