theorem X84_157_155 {X : zX} {l : Launch} {M : zM} {Q : Option Value → zM → Prop} {a : Int32} (hs : zSk zMc M) (hI : zIv cLo cHi M) {g : Nat → Int} {nn : Int} (ha : 0 ≤ a.toInt ∧ a.toInt ≤ 19) (u0 : (zI M 155 2).toInt < (zI M 155 1).toInt) (u1 : 0 ≤ (zI M 155 2).toInt) (x0 : zTa M g nn) (hQ : ∀ (M' : zM) (v : Int32), zSk zMc M' → zIv cLo cHi M' → zFr [(159, 160, none), (155, 155, some 2), (155, 155, some 3), (155, 155, some 4), (155, 155, some 5)] M M' → ((∀ p : Nat, (zI M 155 2).toInt = (p : Int) → (v.toInt = 0 ∧ pAc g p = none) ∨ (v.toInt = 1 ∧ ∃ (q : Nat) (A : aT), pAc g p = some (q, A) ∧ (zI M' 155 2).toInt = (q : Int) ∧ p < q ∧ (q : Int) ≤ nn ∧ ∀ i : Nat, (i : Int) = a.toInt → zAt M' i A)) ∧ (∀ j : Nat, (j : Int) < a.toInt → zI M' 159 j = zI M 159 j) ∧ (∀ j : Nat, (j : Int) < 4 * a.toInt → zI M' 160 j = zI M 160 j)) → 0 ≤ v.toInt → v.toInt ≤ 1 → Q (some (.int v)) M') : zCall X l 3 0 0 84 [.ref 157, .ref 155, .int a] M Q := by
  have ga := zrg a
  refine zs_in (by decide) mf84 (Nat.le_of_ble_eq_true rfl) ?_
  show zGo X l 3 0 0 84 0 [(0, .ref 157), (1, .ref 155), (2, .int a)] [] M _
  have hn := x0.2
  have w1 := ib155_1 hI
  have w2 : (zI M 155 1).toInt = (zI M 155 1).toInt := (congrArg Int32.toInt rfl).trans rfl
  have w3 := zrg (zI M 155 2)
  have w4 : (zI M 155 2).toInt = (zI M 155 2).toInt := (congrArg Int32.toInt rfl).trans rfl
  obtain ⟨w5n, w5⟩ : ∃ n : Nat, (zI M 155 2).toInt = (n : Int) := ⟨((zI M 155 2).toInt).toNat, by omega⟩
  obtain ⟨w6n, w6⟩ : ∃ n : Nat, a.toInt = (n : Int) := ⟨(a.toInt).toNat, by omega⟩
  refine zs_aload_n (pc := 0) t84_0 rfl ?_
  refine zs_invV (pc := 1) (k := 155) (as' := []) (st := []) t84_1 mf29 rfl rfl (Or.inl ⟨by decide, (zk1 (hs.k fk_zMc_155))⟩) ⟨by decide, by decide, Nat.le_of_ble_eq_true rfl, Nat.le_of_ble_eq_true rfl⟩ (zs_in (by decide) mf29 (Nat.le_of_ble_eq_true rfl) ?_) (fun _ _ q => q)
  show zGo X l 0 0 0 29 0 [(0, .ref 155)] [] M _
  refine zs_aload_n (pc := 0) t29_0 rfl ?_
  refine zs_get (pc := 1) t29_1 (by decide) (zk1 (hs.k fk_zMc_155)) (zfvi rfl rfl) ?_
  refine zs_iret (pc := 4) t29_4 mr29 rfl ?_
  show zGo X l 3 0 0 84 4 [(0, .ref 157), (1, .ref 155), (2, .int a)] [.int (zI M 155 2)] M _
  refine zs_istore_n (pc := 4) t84_4 (ls' := [(3, .int (zI M 155 2)), (0, .ref 157), (1, .ref 155), (2, .int a)]) (zml mf84 (by decide)) rfl ?_
  refine zs_aload_n (pc := 5) t84_5 rfl ?_
  refine zs_invV (pc := 6) (k := 155) (as' := []) (st := []) t84_6 mf30 rfl rfl (Or.inl ⟨by decide, (zk1 (hs.k fk_zMc_155))⟩) ⟨by decide, by decide, Nat.le_of_ble_eq_true rfl, Nat.le_of_ble_eq_true rfl⟩ (zs_in (by decide) mf30 (Nat.le_of_ble_eq_true rfl) ?_) (fun _ _ q => q)
  show zGo X l 1 0 0 30 0 [(0, .ref 155)] [] M _
  refine zs_aload_n (pc := 0) t30_0 rfl ?_
  refine zs_invV (pc := 1) (k := 155) (as' := []) (st := []) t30_1 mf31 rfl rfl (Or.inl ⟨by decide, (zk1 (hs.k fk_zMc_155))⟩) ⟨by decide, by decide, Nat.le_of_ble_eq_true rfl, Nat.le_of_ble_eq_true rfl⟩ (P31 hs hI ?_) (fun _ _ q => q)
  have w8 : (zI M 155 2).toInt = (zI M 155 2).toInt := (congrArg Int32.toInt rfl).trans rfl
  have w9 : (zI M 155 1).toInt = (zI M 155 1).toInt := (congrArg Int32.toInt rfl).trans rfl
  have w7 : (zpt M).toInt = g w5n := zpt.tr x0 (by omega)
  have w10 := zTa.rg (M := M) x0 w5n
  show zGo X l 1 0 0 30 4 [(0, .ref 155)] [.int (zpt M)] M _
  refine zs_istore_n (pc := 4) t30_4 (ls' := [(1, .int (zpt M)), (0, .ref 155)]) (zml mf30 (by decide)) rfl ?_
  refine zs_iload_n (pc := 5) t30_5 rfl ?_
  refine zs_iconst (pc := 6) t30_6 (v := -1) (by decide) ?_
  by_cases w11 : (g w5n) = (-1)
  · refine zs_icmp_eqT (pc := 7) t30_7 w7 lin1 (by omega) ?_
    refine zs_iload_n (pc := 20) t30_20 rfl ?_
    refine zs_iret (pc := 21) t30_21 mr30 rfl ?_
    show zGo X l 3 0 0 84 9 [(3, .int (zI M 155 2)), (0, .ref 157), (1, .ref 155), (2, .int a)] [.int (zpt M)] M _
    refine zs_istore (pc := 9) t84_9 (ls' := [(4, .int (zpt M)), (3, .int (zI M 155 2)), (0, .ref 157), (1, .ref 155), (2, .int a)]) (zml mf84 (by decide)) rfl ?_
    refine zs_iload (pc := 11) t84_11 rfl ?_
    refine zs_invS (pc := 13) (as := [.int (zpt M)]) (st := []) t84_13 (by decide) mf85 rfl rfl ⟨by decide, by decide, Nat.le_of_ble_eq_true rfl, Nat.le_of_ble_eq_true rfl⟩ (zs_in (by decide) mf85 (Nat.le_of_ble_eq_true rfl) ?_) (fun _ _ q => q)
    show zGo X l 0 0 0 85 0 [(0, .int (zpt M))] [] M _
    refine zs_iload_n (pc := 0) t85_0 rfl ?_
    refine zs_lsw (pc := 1) t85_1 (off := 47) w7 (by unfold zlsel; repeat (first | rfl | (rw [if_neg (by omega)]; unfold zlsel))) (pc2 := 48) rfl ?_
    refine zs_iconst (pc := 48) t85_48 (v := 0) (by decide) ?_
    refine zs_iret (pc := 49) t85_49 mr85 (by decide) ?_
    show zGo X l 3 0 0 84 16 [(4, .int (zpt M)), (3, .int (zI M 155 2)), (0, .ref 157), (1, .ref 155), (2, .int a)] [.int (0 : Int32)] M _
    refine zs_istore (pc := 16) t84_16 (ls' := [(5, .int (0 : Int32)), (4, .int (zpt M)), (3, .int (zI M 155 2)), (0, .ref 157), (1, .ref 155), (2, .int a)]) (zml mf84 (by decide)) rfl ?_
    refine zs_iload (pc := 18) t84_18 rfl ?_
    refine zs_if_neF (pc := 20) t84_20 li0 (by decide) ?_
    refine zs_aload_n (pc := 23) t84_23 rfl ?_
    refine zs_iload_n (pc := 24) t84_24 rfl ?_
    refine zs_invV (pc := 25) (k := 155) (as' := [.int (zI M 155 2)]) (st := []) t84_25 mf34 rfl rfl (Or.inl ⟨by decide, (zk1 (hs.k fk_zMc_155))⟩) ⟨by decide, by decide, Nat.le_of_ble_eq_true rfl, Nat.le_of_ble_eq_true rfl⟩ (zs_in (by decide) mf34 (Nat.le_of_ble_eq_true rfl) ?_) (fun _ _ q => q)
    show zGo X l 0 0 0 34 0 [(0, .ref 155), (1, .int (zI M 155 2))] [] M _
    refine zs_aload_n (pc := 0) t34_0 rfl ?_
    refine zs_iload_n (pc := 1) t34_1 rfl ?_
    have w12 : zIv cLo cHi (zsI M 155 3 (zI M 155 2)) := zIv.put hI (show (-2147483648) ≤ (zI M 155 2).toInt ∧ (zI M 155 2).toInt ≤ 2147483647 from zrg (zI M 155 2))
    refine zs_putI (pc := 2) t34_2 (zk1 (hs.k fk_zMc_155)) rfl ?_
    refine zs_iconst (pc := 5) t34_5 (v := 0) (by decide) ?_
    refine zs_iret (pc := 6) t34_6 mr34 (by decide) ?_
    show zGo X l 3 0 0 84 28 [(5, .int (0 : Int32)), (4, .int (zpt M)), (3, .int (zI M 155 2)), (0, .ref 157), (1, .ref 155), (2, .int a)] [.int (0 : Int32)] (zsI M 155 3 (zI M 155 2)) _
    have w13 : (zI (zsI M 155 3 (zI M 155 2)) 155 2).toInt = (zI M 155 2).toInt := (congrArg Int32.toInt ((zIoj (by decide)).trans rfl)).trans rfl
    exact zs_iret (pc := 28) t84_28 mr84 (by decide) (hQ _ _ hs w12 ((zFr.refl).put rfl) ⟨(fun p hp => by obtain rfl : w5n = p := (by omega); exact Or.inl ⟨by decide, pAc.no (by omega)⟩), (fun j hj => (zIo (by decide))), (fun j hj => (zIo (by decide)))⟩ (by decide) (by decide))
  · refine zs_icmp_eqF (pc := 7) t30_7 w7 lin1 (by omega) ?_
    refine zs_aload_n (pc := 10) t30_10 rfl ?_
    refine zs_dup (pc := 11) t30_11 rfl ?_
    refine zs_get (pc := 12) t30_12 (by decide) (zk1 (hs.k fk_zMc_155)) (zfvi rfl rfl) ?_
    refine zs_iconst (pc := 15) t30_15 (v := 1) (by decide) ?_
    obtain ⟨w14v, w14e, w14⟩ := ziadd (a := (zI M 155 2)) (b := (1 : Int32)) rfl li1 (by omega) (by omega)
    refine zs_iadd (pc := 16) t30_16 (c := w14v) w14e ?_
    have w15 : zIv cLo cHi (zsI M 155 2 w14v) := zIv.put hI (show (-2147483648) ≤ w14v.toInt ∧ w14v.toInt ≤ 2147483647 from zrg w14v)
    refine zs_putI (pc := 17) t30_17 (zk1 (hs.k fk_zMc_155)) rfl ?_
    refine zs_iload_n (pc := 20) t30_20 rfl ?_
    refine zs_iret (pc := 21) t30_21 mr30 rfl ?_
    show zGo X l 3 0 0 84 9 [(3, .int (zI M 155 2)), (0, .ref 157), (1, .ref 155), (2, .int a)] [.int (zpt M)] (zsI M 155 2 w14v) _
    refine zs_istore (pc := 9) t84_9 (ls' := [(4, .int (zpt M)), (3, .int (zI M 155 2)), (0, .ref 157), (1, .ref 155), (2, .int a)]) (zml mf84 (by decide)) rfl ?_
    refine zs_iload (pc := 11) t84_11 rfl ?_
    refine zs_invS (pc := 13) (as := [.int (zpt M)]) (st := []) t84_13 (by decide) mf85 rfl rfl ⟨by decide, by decide, Nat.le_of_ble_eq_true rfl, Nat.le_of_ble_eq_true rfl⟩ (zs_in (by decide) mf85 (Nat.le_of_ble_eq_true rfl) ?_) (fun _ _ q => q)
    show zGo X l 0 0 0 85 0 [(0, .int (zpt M))] [] (zsI M 155 2 w14v) _
    refine zs_iload_n (pc := 0) t85_0 rfl ?_
    by_cases w16 : (g w5n) = 100
    · refine zs_lsw (pc := 1) t85_1 (off := 45) ((w7 : (zpt M).toInt = (g w5n)).trans w16) rfl (pc2 := 46) rfl ?_
      refine zs_iconst (pc := 46) t85_46 (v := 1) (by decide) ?_
      refine zs_iret (pc := 47) t85_47 mr85 (by decide) ?_
      show zGo X l 3 0 0 84 16 [(4, .int (zpt M)), (3, .int (zI M 155 2)), (0, .ref 157), (1, .ref 155), (2, .int a)] [.int (1 : Int32)] (zsI M 155 2 w14v) _
      refine zs_istore (pc := 16) t84_16 (ls' := [(5, .int (1 : Int32)), (4, .int (zpt M)), (3, .int (zI M 155 2)), (0, .ref 157), (1, .ref 155), (2, .int a)]) (zml mf84 (by decide)) rfl ?_
      refine zs_iload (pc := 18) t84_18 rfl ?_
      refine zs_if_neT (pc := 20) t84_20 li1 (by decide) ?_
      refine zs_aload_n (pc := 29) t84_29 rfl ?_
      refine zs_get (pc := 30) t84_30 (by decide) (zk1 (hs.k fk_zMc_157)) (hs.p rfl fv_zMc_157_1) ?_
      refine zs_iload_n (pc := 33) t84_33 rfl ?_
      refine zs_iload (pc := 34) t84_34 rfl ?_
      have w17 : zIv cLo cHi (zsI (zsI M 155 2 w14v) 159 w6n (zpt M)) := zIv.put w15 (show (-2147483648) ≤ (zpt M).toInt ∧ (zpt M).toInt ≤ 2147483647 from zrg (zpt M))
      refine zs_iast (pc := 36) t84_36 (j := w6n) (by decide) (zk1 (hs.k fk_zMc_159)) (show a.toInt = ((w6n : Nat) : Int) by omega) (zk2 (hs.k fk_zMc_159) (by omega)) ?_
      refine zs_iconst (pc := 37) t84_37 (v := 0) (by decide) ?_
      refine zs_istore (pc := 38) t84_38 (ls' := [(6, .int (0 : Int32)), (5, .int (1 : Int32)), (4, .int (zpt M)), (3, .int (zI M 155 2)), (0, .ref 157), (1, .ref 155), (2, .int a)]) (zml mf84 (by decide)) rfl ?_
      refine zs_iload (pc := 40) t84_40 rfl ?_
      refine zs_iload (pc := 42) t84_42 rfl ?_
      refine zs_icmp_geF (pc := 44) t84_44 li0 li1 (by decide) ?_
      refine zs_aload_n (pc := 47) t84_47 rfl ?_
      have w18 : (zI (zsI (zsI M 155 2 w14v) 159 w6n (zpt M)) 155 2).toInt = ((zI M 155 2).toInt + 1) := (congrArg Int32.toInt ((zIo (by decide)).trans zIs)).trans w14
      have w19 : (zI (zsI (zsI M 155 2 w14v) 159 w6n (zpt M)) 155 2).toInt = ((zI M 155 2).toInt + 1) := (congrArg Int32.toInt ((zIo (by decide)).trans zIs)).trans w14
      have w20 : (zI (zsI (zsI M 155 2 w14v) 159 w6n (zpt M)) 155 1).toInt = (zI M 155 1).toInt := (congrArg Int32.toInt ((zIo (by decide)).trans ((zIoj (by decide)).trans rfl))).trans rfl
      refine zs_invV (pc := 48) (k := 155) (as' := []) (st := []) t84_48 mf35 rfl rfl (Or.inl ⟨by decide, (zk1 (hs.k fk_zMc_155))⟩) ⟨by decide, by decide, Nat.le_of_ble_eq_true rfl, Nat.le_of_ble_eq_true rfl⟩ (X35_155 hs w17 (by omega) (by omega) (zTa.fr x0 (zEq.tr (zEq.put rfl) (zEq.put rfl))) ?_) (fun _ _ q => q)
      intro w21M w21v w21s w21I w21F w21x0 w21a w21b
      show zGo X l 3 0 0 84 51 [(6, .int (0 : Int32)), (5, .int (1 : Int32)), (4, .int (zpt M)), (3, .int (zI M 155 2)), (0, .ref 157), (1, .ref 155), (2, .int a)] [.int w21v] w21M _
      rcases w21x0 (w5n + 1) (by omega) with ⟨w22v, w22e⟩ | ⟨w22v, w22E, w22x, w22e, w22_3, w22_4, w22_5, w22_6, w22_7, w22_8⟩
      · skip
        refine zs_if_neF (pc := 51) t84_51 rfl (by omega) ?_
        refine zs_iconst (pc := 54) t84_54 (v := 0) (by decide) ?_
        have w23 := zrg (zI w21M 155 2)
        have w24 : (zI w21M 155 2).toInt = (zI w21M 155 2).toInt := (congrArg Int32.toInt rfl).trans rfl
        exact zs_iret (pc := 55) t84_55 mr84 (by decide) (hQ _ _ w21s w21I ((((zFr.refl).put rfl).put rfl).trans (w21F.mono rfl)) ⟨(fun p hp => by obtain rfl : w5n = p := (by omega); exact Or.inl ⟨by decide, (pAc.o (L := 100) (by omega) (by decide)).trans (pB.f (pRd.f w22e))⟩), (fun j hj => ((w21F 159 j rfl).trans ((zIoj (by omega)).trans (zIo (by decide))))), (fun j hj => ((w21F 160 j rfl).trans ((zIo (by decide)).trans (zIo (by decide)))))⟩ (by decide) (by decide))
      · skip
        subst w22_4
        refine zs_if_neT (pc := 51) t84_51 rfl (by omega) ?_
        refine zs_aload_n (pc := 56) t84_56 rfl ?_
        refine zs_get (pc := 57) t84_57 (by decide) (zk1 (w21s.k fk_zMc_157)) (w21s.p rfl fv_zMc_157_2) ?_
        refine zs_iload_n (pc := 60) t84_60 rfl ?_
        refine zs_iconst (pc := 61) t84_61 (v := 4) (by decide) ?_
        obtain ⟨w25v, w25⟩ : ∃ v, a * (4 : Int32) = v := ⟨_, rfl⟩
        have w25g : w25v.toInt = a.toInt * 4 := by rw [← w25]; exact zmulc rfl li4 (by omega) (by omega)
        refine zs_imul (pc := 62) t84_62 (c := w25v) w25 ?_
        refine zs_iload (pc := 63) t84_63 rfl ?_
        obtain ⟨w26v, w26e, w26⟩ := ziadd (a := w25v) (b := (0 : Int32)) w25g li0 (by omega) (by omega)
        refine zs_iadd (pc := 65) t84_65 (c := w26v) w26e ?_
        refine zs_aload_n (pc := 66) t84_66 rfl ?_
        refine zs_invV (pc := 67) (k := 155) (as' := []) (st := [.int w26v, .ref 160]) t84_67 mf37 rfl rfl (Or.inl ⟨by decide, (zk1 (w21s.k fk_zMc_155))⟩) ⟨by decide, by decide, Nat.le_of_ble_eq_true rfl, Nat.le_of_ble_eq_true rfl⟩ (zs_in (by decide) mf37 (Nat.le_of_ble_eq_true rfl) ?_) (fun _ _ q => q)
        show zGo X l 0 0 0 37 0 [(0, .ref 155)] [] w21M _
        refine zs_aload_n (pc := 0) t37_0 rfl ?_
        have w27 := ib155_4 w21I
        refine zs_get (pc := 1) t37_1 (by decide) (zk1 (w21s.k fk_zMc_155)) (zfvi rfl rfl) ?_
        refine zs_iret (pc := 4) t37_4 mr37 rfl ?_
        show zGo X l 3 0 0 84 70 [(6, .int (0 : Int32)), (5, .int (1 : Int32)), (4, .int (zpt M)), (3, .int (zI M 155 2)), (0, .ref 157), (1, .ref 155), (2, .int a)] [.int (zI w21M 155 4), .int w26v, .ref 160] w21M _
        have w28 : zIv cLo cHi (zsI w21M 160 (4 * w6n) (zI w21M 155 4)) := zIv.put w21I (show (-2147483648) ≤ (zI w21M 155 4).toInt ∧ (zI w21M 155 4).toInt ≤ 2147483647 from zrg (zI w21M 155 4))
        refine zs_iast (pc := 70) t84_70 (j := (4 * w6n)) (by decide) (zk1 (w21s.k fk_zMc_160)) (show w26v.toInt = (((4 * w6n) : Nat) : Int) by omega) (zk2 (w21s.k fk_zMc_160) (by omega)) ?_
        refine zs_aload_n (pc := 71) t84_71 rfl ?_
        refine zs_iload (pc := 72) t84_72 rfl ?_
        refine zs_iconst (pc := 74) t84_74 (v := 1) (by decide) ?_
        refine zs_iadd (pc := 75) t84_75 (c := 1) (by decide) ?_
        refine zs_iload (pc := 76) t84_76 rfl ?_
        refine zs_icmp_geT (pc := 78) t84_78 li1 li1 (by decide) ?_
        refine zs_bipush (pc := 86) t84_86 (v := 59) (by decide) ?_
        refine zs_invV (pc := 88) (k := 155) (as' := [.int (59 : Int32)]) (st := []) t84_88 mf47 rfl rfl (Or.inl ⟨by decide, (zk1 (w21s.k fk_zMc_155))⟩) ⟨by decide, by decide, Nat.le_of_ble_eq_true rfl, Nat.le_of_ble_eq_true rfl⟩ (zs_in (by decide) mf47 (Nat.le_of_ble_eq_true rfl) ?_) (fun _ _ q => q)
        show zGo X l 1 0 0 47 0 [(0, .ref 155), (1, .int (59 : Int32))] [] (zsI w21M 160 (4 * w6n) (zI w21M 155 4)) _
        refine zs_aload_n (pc := 0) t47_0 rfl ?_
        refine zs_invV (pc := 1) (k := 155) (as' := []) (st := []) t47_1 mf31 rfl rfl (Or.inl ⟨by decide, (zk1 (w21s.k fk_zMc_155))⟩) ⟨by decide, by decide, Nat.le_of_ble_eq_true rfl, Nat.le_of_ble_eq_true rfl⟩ (P31 w21s w28 ?_) (fun _ _ q => q)
        have w30 := zrg (zI w21M 155 2)
        have w31 : (zI (zsI w21M 160 (4 * w6n) (zI w21M 155 4)) 155 2).toInt = (zI w21M 155 2).toInt := (congrArg Int32.toInt ((zIo (by decide)).trans rfl)).trans rfl
        have w32 : (zI (zsI w21M 160 (4 * w6n) (zI w21M 155 4)) 155 1).toInt = (zI M 155 1).toInt := (congrArg Int32.toInt ((zIo (by decide)).trans ((w21F 155 1 rfl).trans ((zIo (by decide)).trans ((zIoj (by decide)).trans rfl))))).trans rfl
        have w29 : (zpt (zsI w21M 160 (4 * w6n) (zI w21M 155 4))).toInt = g w22E := zpt.tr (zTa.fr x0 (zEq.tr (zEq.tr (zEq.tr (zEq.put rfl) (zEq.put rfl)) (zFr.eq w21F rfl)) (zEq.put rfl))) (by omega)
        have w33 := zTa.rg (M := (zsI w21M 160 (4 * w6n) (zI w21M 155 4))) (zTa.fr x0 (zEq.tr (zEq.tr (zEq.tr (zEq.put rfl) (zEq.put rfl)) (zFr.eq w21F rfl)) (zEq.put rfl))) w22E
        show zGo X l 1 0 0 47 4 [(0, .ref 155), (1, .int (59 : Int32))] [.int (zpt (zsI w21M 160 (4 * w6n) (zI w21M 155 4)))] (zsI w21M 160 (4 * w6n) (zI w21M 155 4)) _
        refine zs_iload_n (pc := 4) t47_4 rfl ?_
        by_cases w34 : (g w22E) = 59
        · refine zs_icmp_eqT (pc := 5) t47_5 w29 li59 (by omega) ?_
          refine zs_aload_n (pc := 17) t47_17 rfl ?_
          refine zs_dup (pc := 18) t47_18 rfl ?_
          refine zs_get (pc := 19) t47_19 (by decide) (zk1 (w21s.k fk_zMc_155)) (zfvi rfl ((zIo (by decide)).trans rfl)) ?_
          refine zs_iconst (pc := 22) t47_22 (v := 1) (by decide) ?_
          obtain ⟨w35v, w35e, w35⟩ := ziadd (a := (zI w21M 155 2)) (b := (1 : Int32)) rfl li1 (by omega) (by omega)
          refine zs_iadd (pc := 23) t47_23 (c := w35v) w35e ?_
          have w36 : zIv cLo cHi (zsI (zsI w21M 160 (4 * w6n) (zI w21M 155 4)) 155 2 w35v) := zIv.put w28 (show (-2147483648) ≤ w35v.toInt ∧ w35v.toInt ≤ 2147483647 from zrg w35v)
          refine zs_putI (pc := 24) t47_24 (zk1 (w21s.k fk_zMc_155)) rfl ?_
          refine zs_iconst (pc := 27) t47_27 (v := 1) (by decide) ?_
          refine zs_iret (pc := 28) t47_28 mr47 (by decide) ?_
          show zGo X l 3 0 0 84 91 [(6, .int (0 : Int32)), (5, .int (1 : Int32)), (4, .int (zpt M)), (3, .int (zI M 155 2)), (0, .ref 157), (1, .ref 155), (2, .int a)] [.int (1 : Int32)] (zsI (zsI w21M 160 (4 * w6n) (zI w21M 155 4)) 155 2 w35v) _
          refine zs_if_neT (pc := 91) t84_91 li1 (by decide) ?_
          refine zs_iinc (pc := 96) t84_96 (ls' := [(6, .int (1 : Int32)), (5, .int (1 : Int32)), (4, .int (zpt M)), (3, .int (zI M 155 2)), (0, .ref 157), (1, .ref 155), (2, .int a)]) (zml mf84 (by decide)) rfl (c := 1) (by decide) rfl ?_
          refine zs_goto (pc := 99) t84_99 ?_
          refine zs_iload (pc := 40) t84_40 rfl ?_
          refine zs_iload (pc := 42) t84_42 rfl ?_
          refine zs_icmp_geT (pc := 44) t84_44 li1 li1 (by decide) ?_
          refine zs_iconst (pc := 102) t84_102 (v := 1) (by decide) ?_
          have w37 : (zI (zsI (zsI w21M 160 (4 * w6n) (zI w21M 155 4)) 155 2 w35v) 155 2).toInt = ((zI w21M 155 2).toInt + 1) := (congrArg Int32.toInt zIs).trans w35
          exact zs_iret (pc := 103) t84_103 mr84 (by decide) (hQ _ _ w21s w36 ((((((zFr.refl).put rfl).put rfl).trans (w21F.mono rfl)).put rfl).put rfl) ⟨(fun p hp => by obtain rfl : w5n = p := (by omega); exact Or.inr ⟨by decide, w22E + 1, _, ((pAc.o (L := 100) (by omega) (by decide)).trans (pB.y (pRd.y w22e (by omega) (by omega) (by omega)))), by omega, by omega, by omega, fun i hi => ⟨(by rw [show i = w6n by omega]; have z : (zI (zsI (zsI w21M 160 (4 * w6n) (zI w21M 155 4)) 155 2 w35v) 159 w6n).toInt = (g w5n) := ((congrArg Int32.toInt ((zIo (by decide)).trans ((zIo (by decide)).trans ((w21F 159 w6n rfl).trans zIs)))).trans w7); show (zI (zsI (zsI w21M 160 (4 * w6n) (zI w21M 155 4)) 155 2 w35v) 159 w6n).toInt = 100; omega), (by rw [show 4 * i = (4 * w6n) by omega]; have z : (zI (zsI (zsI w21M 160 (4 * w6n) (zI w21M 155 4)) 155 2 w35v) 160 (4 * w6n)).toInt = (zI w21M 155 4).toInt := ((congrArg Int32.toInt ((zIo (by decide)).trans zIs)).trans rfl); show (zI (zsI (zsI w21M 160 (4 * w6n) (zI w21M 155 4)) 155 2 w35v) 160 (4 * w6n)).toInt = (zI w21M 155 4).toInt; omega), (fun z => absurd (show (100 : Int) = 104 from z) (by decide))⟩⟩), (fun j hj => ((zIo (by decide)).trans ((zIo (by decide)).trans ((w21F 159 j rfl).trans ((zIoj (by omega)).trans (zIo (by decide))))))), (fun j hj => ((zIo (by decide)).trans ((zIoj (by omega)).trans ((w21F 160 j rfl).trans ((zIo (by decide)).trans (zIo (by decide)))))))⟩ (by decide) (by decide))
        · refine zs_icmp_eqF (pc := 5) t47_5 w29 li59 (by omega) ?_
          refine zs_aload_n (pc := 8) t47_8 rfl ?_
          refine zs_aload_n (pc := 9) t47_9 rfl ?_
          refine zs_get (pc := 10) t47_10 (by decide) (zk1 (w21s.k fk_zMc_155)) (zfvi rfl ((zIo (by decide)).trans rfl)) ?_
          refine zs_invV (pc := 13) (k := 155) (as' := [.int (zI w21M 155 2)]) (st := []) t47_13 mf34 rfl rfl (Or.inl ⟨by decide, (zk1 (w21s.k fk_zMc_155))⟩) ⟨by decide, by decide, Nat.le_of_ble_eq_true rfl, Nat.le_of_ble_eq_true rfl⟩ (zs_in (by decide) mf34 (Nat.le_of_ble_eq_true rfl) ?_) (fun _ _ q => q)
          show zGo X l 0 0 0 34 0 [(0, .ref 155), (1, .int (zI w21M 155 2))] [] (zsI w21M 160 (4 * w6n) (zI w21M 155 4)) _
          refine zs_aload_n (pc := 0) t34_0 rfl ?_
          refine zs_iload_n (pc := 1) t34_1 rfl ?_
          have w38 : zIv cLo cHi (zsI (zsI w21M 160 (4 * w6n) (zI w21M 155 4)) 155 3 (zI w21M 155 2)) := zIv.put w28 (show (-2147483648) ≤ (zI w21M 155 2).toInt ∧ (zI w21M 155 2).toInt ≤ 2147483647 from zrg (zI w21M 155 2))
          refine zs_putI (pc := 2) t34_2 (zk1 (w21s.k fk_zMc_155)) rfl ?_
          refine zs_iconst (pc := 5) t34_5 (v := 0) (by decide) ?_
          refine zs_iret (pc := 6) t34_6 mr34 (by decide) ?_
          show zGo X l 1 0 0 47 16 [(0, .ref 155), (1, .int (59 : Int32))] [.int (0 : Int32)] (zsI (zsI w21M 160 (4 * w6n) (zI w21M 155 4)) 155 3 (zI w21M 155 2)) _
          refine zs_iret (pc := 16) t47_16 mr47 (by decide) ?_
          show zGo X l 3 0 0 84 91 [(6, .int (0 : Int32)), (5, .int (1 : Int32)), (4, .int (zpt M)), (3, .int (zI M 155 2)), (0, .ref 157), (1, .ref 155), (2, .int a)] [.int (0 : Int32)] (zsI (zsI w21M 160 (4 * w6n) (zI w21M 155 4)) 155 3 (zI w21M 155 2)) _
          refine zs_if_neF (pc := 91) t84_91 li0 (by decide) ?_
          refine zs_iconst (pc := 94) t84_94 (v := 0) (by decide) ?_
          have w39 : (zI (zsI (zsI w21M 160 (4 * w6n) (zI w21M 155 4)) 155 3 (zI w21M 155 2)) 155 2).toInt = (zI w21M 155 2).toInt := (congrArg Int32.toInt ((zIoj (by decide)).trans ((zIo (by decide)).trans rfl))).trans rfl
          exact zs_iret (pc := 95) t84_95 mr84 (by decide) (hQ _ _ w21s w38 ((((((zFr.refl).put rfl).put rfl).trans (w21F.mono rfl)).put rfl).put rfl) ⟨(fun p hp => by obtain rfl : w5n = p := (by omega); exact Or.inl ⟨by decide, (pAc.o (L := 100) (by omega) (by decide)).trans (pB.f (pRd.n w22e (by omega)))⟩), (fun j hj => ((zIo (by decide)).trans ((zIo (by decide)).trans ((w21F 159 j rfl).trans ((zIoj (by omega)).trans (zIo (by decide))))))), (fun j hj => ((zIo (by decide)).trans ((zIoj (by omega)).trans ((w21F 160 j rfl).trans ((zIo (by decide)).trans (zIo (by decide)))))))⟩ (by decide) (by decide))
    by_cases w40 : (g w5n) = 104
    · refine zs_lsw (pc := 1) t85_1 (off := 43) ((w7 : (zpt M).toInt = (g w5n)).trans w40) rfl (pc2 := 44) rfl ?_
      refine zs_iconst (pc := 44) t85_44 (v := 3) (by decide) ?_
      refine zs_iret (pc := 45) t85_45 mr85 (by decide) ?_
      show zGo X l 3 0 0 84 16 [(4, .int (zpt M)), (3, .int (zI M 155 2)), (0, .ref 157), (1, .ref 155), (2, .int a)] [.int (3 : Int32)] (zsI M 155 2 w14v) _
      refine zs_istore (pc := 16) t84_16 (ls' := [(5, .int (3 : Int32)), (4, .int (zpt M)), (3, .int (zI M 155 2)), (0, .ref 157), (1, .ref 155), (2, .int a)]) (zml mf84 (by decide)) rfl ?_
      refine zs_iload (pc := 18) t84_18 rfl ?_
      refine zs_if_neT (pc := 20) t84_20 li3 (by decide) ?_
      refine zs_aload_n (pc := 29) t84_29 rfl ?_
      refine zs_get (pc := 30) t84_30 (by decide) (zk1 (hs.k fk_zMc_157)) (hs.p rfl fv_zMc_157_1) ?_
      refine zs_iload_n (pc := 33) t84_33 rfl ?_
      refine zs_iload (pc := 34) t84_34 rfl ?_
      have w41 : zIv cLo cHi (zsI (zsI M 155 2 w14v) 159 w6n (zpt M)) := zIv.put w15 (show (-2147483648) ≤ (zpt M).toInt ∧ (zpt M).toInt ≤ 2147483647 from zrg (zpt M))
      refine zs_iast (pc := 36) t84_36 (j := w6n) (by decide) (zk1 (hs.k fk_zMc_159)) (show a.toInt = ((w6n : Nat) : Int) by omega) (zk2 (hs.k fk_zMc_159) (by omega)) ?_
      refine zs_iconst (pc := 37) t84_37 (v := 0) (by decide) ?_
      refine zs_istore (pc := 38) t84_38 (ls' := [(6, .int (0 : Int32)), (5, .int (3 : Int32)), (4, .int (zpt M)), (3, .int (zI M 155 2)), (0, .ref 157), (1, .ref 155), (2, .int a)]) (zml mf84 (by decide)) rfl ?_
      refine zs_iload (pc := 40) t84_40 rfl ?_
      refine zs_iload (pc := 42) t84_42 rfl ?_
      refine zs_icmp_geF (pc := 44) t84_44 li0 li3 (by decide) ?_
      refine zs_aload_n (pc := 47) t84_47 rfl ?_
      have w42 : (zI (zsI (zsI M 155 2 w14v) 159 w6n (zpt M)) 155 2).toInt = ((zI M 155 2).toInt + 1) := (congrArg Int32.toInt ((zIo (by decide)).trans zIs)).trans w14
      have w43 : (zI (zsI (zsI M 155 2 w14v) 159 w6n (zpt M)) 155 2).toInt = ((zI M 155 2).toInt + 1) := (congrArg Int32.toInt ((zIo (by decide)).trans zIs)).trans w14
      have w44 : (zI (zsI (zsI M 155 2 w14v) 159 w6n (zpt M)) 155 1).toInt = (zI M 155 1).toInt := (congrArg Int32.toInt ((zIo (by decide)).trans ((zIoj (by decide)).trans rfl))).trans rfl
      refine zs_invV (pc := 48) (k := 155) (as' := []) (st := []) t84_48 mf35 rfl rfl (Or.inl ⟨by decide, (zk1 (hs.k fk_zMc_155))⟩) ⟨by decide, by decide, Nat.le_of_ble_eq_true rfl, Nat.le_of_ble_eq_true rfl⟩ (X35_155 hs w41 (by omega) (by omega) (zTa.fr x0 (zEq.tr (zEq.put rfl) (zEq.put rfl))) ?_) (fun _ _ q => q)
      intro w45M w45v w45s w45I w45F w45x0 w45a w45b
      show zGo X l 3 0 0 84 51 [(6, .int (0 : Int32)), (5, .int (3 : Int32)), (4, .int (zpt M)), (3, .int (zI M 155 2)), (0, .ref 157), (1, .ref 155), (2, .int a)] [.int w45v] w45M _
      rcases w45x0 (w5n + 1) (by omega) with ⟨w46v, w46e⟩ | ⟨w46v, w46E, w46x, w46e, w46_3, w46_4, w46_5, w46_6, w46_7, w46_8⟩
      · skip
        refine zs_if_neF (pc := 51) t84_51 rfl (by omega) ?_
        refine zs_iconst (pc := 54) t84_54 (v := 0) (by decide) ?_
        have w47 := zrg (zI w45M 155 2)
        have w48 : (zI w45M 155 2).toInt = (zI w45M 155 2).toInt := (congrArg Int32.toInt rfl).trans rfl
        exact zs_iret (pc := 55) t84_55 mr84 (by decide) (hQ _ _ w45s w45I ((((zFr.refl).put rfl).put rfl).trans (w45F.mono rfl)) ⟨(fun p hp => by obtain rfl : w5n = p := (by omega); exact Or.inl ⟨by decide, (pAc.h (by omega)).trans (pB.f (pRd.f w46e))⟩), (fun j hj => ((w45F 159 j rfl).trans ((zIoj (by omega)).trans (zIo (by decide))))), (fun j hj => ((w45F 160 j rfl).trans ((zIo (by decide)).trans (zIo (by decide)))))⟩ (by decide) (by decide))
      · skip
        subst w46_4
        refine zs_if_neT (pc := 51) t84_51 rfl (by omega) ?_
        refine zs_aload_n (pc := 56) t84_56 rfl ?_
        refine zs_get (pc := 57) t84_57 (by decide) (zk1 (w45s.k fk_zMc_157)) (w45s.p rfl fv_zMc_157_2) ?_
        refine zs_iload_n (pc := 60) t84_60 rfl ?_
        refine zs_iconst (pc := 61) t84_61 (v := 4) (by decide) ?_
        obtain ⟨w49v, w49⟩ : ∃ v, a * (4 : Int32) = v := ⟨_, rfl⟩
        have w49g : w49v.toInt = a.toInt * 4 := by rw [← w49]; exact zmulc rfl li4 (by omega) (by omega)
        refine zs_imul (pc := 62) t84_62 (c := w49v) w49 ?_
        refine zs_iload (pc := 63) t84_63 rfl ?_
        obtain ⟨w50v, w50e, w50⟩ := ziadd (a := w49v) (b := (0 : Int32)) w49g li0 (by omega) (by omega)
        refine zs_iadd (pc := 65) t84_65 (c := w50v) w50e ?_
        refine zs_aload_n (pc := 66) t84_66 rfl ?_
        refine zs_invV (pc := 67) (k := 155) (as' := []) (st := [.int w50v, .ref 160]) t84_67 mf37 rfl rfl (Or.inl ⟨by decide, (zk1 (w45s.k fk_zMc_155))⟩) ⟨by decide, by decide, Nat.le_of_ble_eq_true rfl, Nat.le_of_ble_eq_true rfl⟩ (zs_in (by decide) mf37 (Nat.le_of_ble_eq_true rfl) ?_) (fun _ _ q => q)
        show zGo X l 0 0 0 37 0 [(0, .ref 155)] [] w45M _
        refine zs_aload_n (pc := 0) t37_0 rfl ?_
        have w51 := ib155_4 w45I
        refine zs_get (pc := 1) t37_1 (by decide) (zk1 (w45s.k fk_zMc_155)) (zfvi rfl rfl) ?_
        refine zs_iret (pc := 4) t37_4 mr37 rfl ?_
        show zGo X l 3 0 0 84 70 [(6, .int (0 : Int32)), (5, .int (3 : Int32)), (4, .int (zpt M)), (3, .int (zI M 155 2)), (0, .ref 157), (1, .ref 155), (2, .int a)] [.int (zI w45M 155 4), .int w50v, .ref 160] w45M _
        have w52 : zIv cLo cHi (zsI w45M 160 (4 * w6n) (zI w45M 155 4)) := zIv.put w45I (show (-2147483648) ≤ (zI w45M 155 4).toInt ∧ (zI w45M 155 4).toInt ≤ 2147483647 from zrg (zI w45M 155 4))
        refine zs_iast (pc := 70) t84_70 (j := (4 * w6n)) (by decide) (zk1 (w45s.k fk_zMc_160)) (show w50v.toInt = (((4 * w6n) : Nat) : Int) by omega) (zk2 (w45s.k fk_zMc_160) (by omega)) ?_
        refine zs_aload_n (pc := 71) t84_71 rfl ?_
        refine zs_iload (pc := 72) t84_72 rfl ?_
        refine zs_iconst (pc := 74) t84_74 (v := 1) (by decide) ?_
        refine zs_iadd (pc := 75) t84_75 (c := 1) (by decide) ?_
        refine zs_iload (pc := 76) t84_76 rfl ?_
        refine zs_icmp_geF (pc := 78) t84_78 li1 li3 (by decide) ?_
        refine zs_bipush (pc := 81) t84_81 (v := 44) (by decide) ?_
        refine zs_goto (pc := 83) t84_83 ?_
        refine zs_invV (pc := 88) (k := 155) (as' := [.int (44 : Int32)]) (st := []) t84_88 mf47 rfl rfl (Or.inl ⟨by decide, (zk1 (w45s.k fk_zMc_155))⟩) ⟨by decide, by decide, Nat.le_of_ble_eq_true rfl, Nat.le_of_ble_eq_true rfl⟩ (zs_in (by decide) mf47 (Nat.le_of_ble_eq_true rfl) ?_) (fun _ _ q => q)
        show zGo X l 1 0 0 47 0 [(0, .ref 155), (1, .int (44 : Int32))] [] (zsI w45M 160 (4 * w6n) (zI w45M 155 4)) _
        refine zs_aload_n (pc := 0) t47_0 rfl ?_
        refine zs_invV (pc := 1) (k := 155) (as' := []) (st := []) t47_1 mf31 rfl rfl (Or.inl ⟨by decide, (zk1 (w45s.k fk_zMc_155))⟩) ⟨by decide, by decide, Nat.le_of_ble_eq_true rfl, Nat.le_of_ble_eq_true rfl⟩ (P31 w45s w52 ?_) (fun _ _ q => q)
        have w54 := zrg (zI w45M 155 2)
        have w55 : (zI (zsI w45M 160 (4 * w6n) (zI w45M 155 4)) 155 2).toInt = (zI w45M 155 2).toInt := (congrArg Int32.toInt ((zIo (by decide)).trans rfl)).trans rfl
        have w56 : (zI (zsI w45M 160 (4 * w6n) (zI w45M 155 4)) 155 1).toInt = (zI M 155 1).toInt := (congrArg Int32.toInt ((zIo (by decide)).trans ((w45F 155 1 rfl).trans ((zIo (by decide)).trans ((zIoj (by decide)).trans rfl))))).trans rfl
        have w53 : (zpt (zsI w45M 160 (4 * w6n) (zI w45M 155 4))).toInt = g w46E := zpt.tr (zTa.fr x0 (zEq.tr (zEq.tr (zEq.tr (zEq.put rfl) (zEq.put rfl)) (zFr.eq w45F rfl)) (zEq.put rfl))) (by omega)
        have w57 := zTa.rg (M := (zsI w45M 160 (4 * w6n) (zI w45M 155 4))) (zTa.fr x0 (zEq.tr (zEq.tr (zEq.tr (zEq.put rfl) (zEq.put rfl)) (zFr.eq w45F rfl)) (zEq.put rfl))) w46E
        show zGo X l 1 0 0 47 4 [(0, .ref 155), (1, .int (44 : Int32))] [.int (zpt (zsI w45M 160 (4 * w6n) (zI w45M 155 4)))] (zsI w45M 160 (4 * w6n) (zI w45M 155 4)) _
        refine zs_iload_n (pc := 4) t47_4 rfl ?_
        by_cases w58 : (g w46E) = 44
        · refine zs_icmp_eqT (pc := 5) t47_5 w53 li44 (by omega) ?_
          refine zs_aload_n (pc := 17) t47_17 rfl ?_
          refine zs_dup (pc := 18) t47_18 rfl ?_
          refine zs_get (pc := 19) t47_19 (by decide) (zk1 (w45s.k fk_zMc_155)) (zfvi rfl ((zIo (by decide)).trans rfl)) ?_
          refine zs_iconst (pc := 22) t47_22 (v := 1) (by decide) ?_
          obtain ⟨w59v, w59e, w59⟩ := ziadd (a := (zI w45M 155 2)) (b := (1 : Int32)) rfl li1 (by omega) (by omega)
          refine zs_iadd (pc := 23) t47_23 (c := w59v) w59e ?_
          have w60 : zIv cLo cHi (zsI (zsI w45M 160 (4 * w6n) (zI w45M 155 4)) 155 2 w59v) := zIv.put w52 (show (-2147483648) ≤ w59v.toInt ∧ w59v.toInt ≤ 2147483647 from zrg w59v)
          refine zs_putI (pc := 24) t47_24 (zk1 (w45s.k fk_zMc_155)) rfl ?_
          refine zs_iconst (pc := 27) t47_27 (v := 1) (by decide) ?_
          refine zs_iret (pc := 28) t47_28 mr47 (by decide) ?_
          show zGo X l 3 0 0 84 91 [(6, .int (0 : Int32)), (5, .int (3 : Int32)), (4, .int (zpt M)), (3, .int (zI M 155 2)), (0, .ref 157), (1, .ref 155), (2, .int a)] [.int (1 : Int32)] (zsI (zsI w45M 160 (4 * w6n) (zI w45M 155 4)) 155 2 w59v) _
          refine zs_if_neT (pc := 91) t84_91 li1 (by decide) ?_
          refine zs_iinc (pc := 96) t84_96 (ls' := [(6, .int (1 : Int32)), (5, .int (3 : Int32)), (4, .int (zpt M)), (3, .int (zI M 155 2)), (0, .ref 157), (1, .ref 155), (2, .int a)]) (zml mf84 (by decide)) rfl (c := 1) (by decide) rfl ?_
          refine zs_goto (pc := 99) t84_99 ?_
          refine zs_iload (pc := 40) t84_40 rfl ?_
          refine zs_iload (pc := 42) t84_42 rfl ?_
          refine zs_icmp_geF (pc := 44) t84_44 li1 li3 (by decide) ?_
          refine zs_aload_n (pc := 47) t84_47 rfl ?_
          have w61 : (zI (zsI (zsI w45M 160 (4 * w6n) (zI w45M 155 4)) 155 2 w59v) 155 2).toInt = ((zI w45M 155 2).toInt + 1) := (congrArg Int32.toInt zIs).trans w59
          have w62 : (zI (zsI (zsI w45M 160 (4 * w6n) (zI w45M 155 4)) 155 2 w59v) 155 2).toInt = ((zI w45M 155 2).toInt + 1) := (congrArg Int32.toInt zIs).trans w59
          have w63 : (zI (zsI (zsI w45M 160 (4 * w6n) (zI w45M 155 4)) 155 2 w59v) 155 1).toInt = (zI M 155 1).toInt := (congrArg Int32.toInt ((zIoj (by decide)).trans ((zIo (by decide)).trans ((w45F 155 1 rfl).trans ((zIo (by decide)).trans ((zIoj (by decide)).trans rfl)))))).trans rfl
          refine zs_invV (pc := 48) (k := 155) (as' := []) (st := []) t84_48 mf35 rfl rfl (Or.inl ⟨by decide, (zk1 (w45s.k fk_zMc_155))⟩) ⟨by decide, by decide, Nat.le_of_ble_eq_true rfl, Nat.le_of_ble_eq_true rfl⟩ (X35_155 w45s w60 (by omega) (by omega) (zTa.fr x0 (zEq.tr (zEq.tr (zEq.tr (zEq.tr (zEq.put rfl) (zEq.put rfl)) (zFr.eq w45F rfl)) (zEq.put rfl)) (zEq.put rfl))) ?_) (fun _ _ q => q)
          intro w64M w64v w64s w64I w64F w64x0 w64a w64b
          show zGo X l 3 0 0 84 51 [(6, .int (1 : Int32)), (5, .int (3 : Int32)), (4, .int (zpt M)), (3, .int (zI M 155 2)), (0, .ref 157), (1, .ref 155), (2, .int a)] [.int w64v] w64M _
          rcases w64x0 (w46E + 1) (by omega) with ⟨w65v, w65e⟩ | ⟨w65v, w65E, w65x, w65e, w65_3, w65_4, w65_5, w65_6, w65_7, w65_8⟩
          · skip
            refine zs_if_neF (pc := 51) t84_51 rfl (by omega) ?_
            refine zs_iconst (pc := 54) t84_54 (v := 0) (by decide) ?_
            have w66 := zrg (zI w64M 155 2)
            have w67 : (zI w64M 155 2).toInt = (zI w64M 155 2).toInt := (congrArg Int32.toInt rfl).trans rfl
            exact zs_iret (pc := 55) t84_55 mr84 (by decide) (hQ _ _ w64s w64I (((((((zFr.refl).put rfl).put rfl).trans (w45F.mono rfl)).put rfl).put rfl).trans (w64F.mono rfl)) ⟨(fun p hp => by obtain rfl : w5n = p := (by omega); exact Or.inl ⟨by decide, ((pAc.h (by omega)).trans (pB.y (pRd.y w46e (by omega) (by omega) (by omega)))).trans (pB.f (pRd.f w65e))⟩), (fun j hj => ((w64F 159 j rfl).trans ((zIo (by decide)).trans ((zIo (by decide)).trans ((w45F 159 j rfl).trans ((zIoj (by omega)).trans (zIo (by decide)))))))), (fun j hj => ((w64F 160 j rfl).trans ((zIo (by decide)).trans ((zIoj (by omega)).trans ((w45F 160 j rfl).trans ((zIo (by decide)).trans (zIo (by decide))))))))⟩ (by decide) (by decide))
          · skip
            subst w65_4
            refine zs_if_neT (pc := 51) t84_51 rfl (by omega) ?_
            refine zs_aload_n (pc := 56) t84_56 rfl ?_
            refine zs_get (pc := 57) t84_57 (by decide) (zk1 (w64s.k fk_zMc_157)) (w64s.p rfl fv_zMc_157_2) ?_
            refine zs_iload_n (pc := 60) t84_60 rfl ?_
            refine zs_iconst (pc := 61) t84_61 (v := 4) (by decide) ?_
            obtain ⟨w68v, w68⟩ : ∃ v, a * (4 : Int32) = v := ⟨_, rfl⟩
            have w68g : w68v.toInt = a.toInt * 4 := by rw [← w68]; exact zmulc rfl li4 (by omega) (by omega)
            refine zs_imul (pc := 62) t84_62 (c := w68v) w68 ?_
            refine zs_iload (pc := 63) t84_63 rfl ?_
            obtain ⟨w69v, w69e, w69⟩ := ziadd (a := w68v) (b := (1 : Int32)) w68g li1 (by omega) (by omega)
            refine zs_iadd (pc := 65) t84_65 (c := w69v) w69e ?_
            refine zs_aload_n (pc := 66) t84_66 rfl ?_
            refine zs_invV (pc := 67) (k := 155) (as' := []) (st := [.int w69v, .ref 160]) t84_67 mf37 rfl rfl (Or.inl ⟨by decide, (zk1 (w64s.k fk_zMc_155))⟩) ⟨by decide, by decide, Nat.le_of_ble_eq_true rfl, Nat.le_of_ble_eq_true rfl⟩ (zs_in (by decide) mf37 (Nat.le_of_ble_eq_true rfl) ?_) (fun _ _ q => q)
            show zGo X l 0 0 0 37 0 [(0, .ref 155)] [] w64M _
            refine zs_aload_n (pc := 0) t37_0 rfl ?_
            have w70 := ib155_4 w64I
            refine zs_get (pc := 1) t37_1 (by decide) (zk1 (w64s.k fk_zMc_155)) (zfvi rfl rfl) ?_
            refine zs_iret (pc := 4) t37_4 mr37 rfl ?_
            show zGo X l 3 0 0 84 70 [(6, .int (1 : Int32)), (5, .int (3 : Int32)), (4, .int (zpt M)), (3, .int (zI M 155 2)), (0, .ref 157), (1, .ref 155), (2, .int a)] [.int (zI w64M 155 4), .int w69v, .ref 160] w64M _
            have w71 : zIv cLo cHi (zsI w64M 160 (1 + 4 * w6n) (zI w64M 155 4)) := zIv.put w64I (show (-2147483648) ≤ (zI w64M 155 4).toInt ∧ (zI w64M 155 4).toInt ≤ 2147483647 from zrg (zI w64M 155 4))
            refine zs_iast (pc := 70) t84_70 (j := (1 + 4 * w6n)) (by decide) (zk1 (w64s.k fk_zMc_160)) (show w69v.toInt = (((1 + 4 * w6n) : Nat) : Int) by omega) (zk2 (w64s.k fk_zMc_160) (by omega)) ?_
            refine zs_aload_n (pc := 71) t84_71 rfl ?_
            refine zs_iload (pc := 72) t84_72 rfl ?_
            refine zs_iconst (pc := 74) t84_74 (v := 1) (by decide) ?_
            refine zs_iadd (pc := 75) t84_75 (c := 2) (by decide) ?_
            refine zs_iload (pc := 76) t84_76 rfl ?_
            refine zs_icmp_geF (pc := 78) t84_78 li2 li3 (by decide) ?_
            refine zs_bipush (pc := 81) t84_81 (v := 44) (by decide) ?_
            refine zs_goto (pc := 83) t84_83 ?_
            refine zs_invV (pc := 88) (k := 155) (as' := [.int (44 : Int32)]) (st := []) t84_88 mf47 rfl rfl (Or.inl ⟨by decide, (zk1 (w64s.k fk_zMc_155))⟩) ⟨by decide, by decide, Nat.le_of_ble_eq_true rfl, Nat.le_of_ble_eq_true rfl⟩ (zs_in (by decide) mf47 (Nat.le_of_ble_eq_true rfl) ?_) (fun _ _ q => q)
            show zGo X l 1 0 0 47 0 [(0, .ref 155), (1, .int (44 : Int32))] [] (zsI w64M 160 (1 + 4 * w6n) (zI w64M 155 4)) _
            refine zs_aload_n (pc := 0) t47_0 rfl ?_
            refine zs_invV (pc := 1) (k := 155) (as' := []) (st := []) t47_1 mf31 rfl rfl (Or.inl ⟨by decide, (zk1 (w64s.k fk_zMc_155))⟩) ⟨by decide, by decide, Nat.le_of_ble_eq_true rfl, Nat.le_of_ble_eq_true rfl⟩ (P31 w64s w71 ?_) (fun _ _ q => q)
            have w73 := zrg (zI w64M 155 2)
            have w74 : (zI (zsI w64M 160 (1 + 4 * w6n) (zI w64M 155 4)) 155 2).toInt = (zI w64M 155 2).toInt := (congrArg Int32.toInt ((zIo (by decide)).trans rfl)).trans rfl
            have w75 : (zI (zsI w64M 160 (1 + 4 * w6n) (zI w64M 155 4)) 155 1).toInt = (zI M 155 1).toInt := (congrArg Int32.toInt ((zIo (by decide)).trans ((w64F 155 1 rfl).trans ((zIoj (by decide)).trans ((zIo (by decide)).trans ((w45F 155 1 rfl).trans ((zIo (by decide)).trans ((zIoj (by decide)).trans rfl)))))))).trans rfl
            have w72 : (zpt (zsI w64M 160 (1 + 4 * w6n) (zI w64M 155 4))).toInt = g w65E := zpt.tr (zTa.fr x0 (zEq.tr (zEq.tr (zEq.tr (zEq.tr (zEq.tr (zEq.tr (zEq.put rfl) (zEq.put rfl)) (zFr.eq w45F rfl)) (zEq.put rfl)) (zEq.put rfl)) (zFr.eq w64F rfl)) (zEq.put rfl))) (by omega)
            have w76 := zTa.rg (M := (zsI w64M 160 (1 + 4 * w6n) (zI w64M 155 4))) (zTa.fr x0 (zEq.tr (zEq.tr (zEq.tr (zEq.tr (zEq.tr (zEq.tr (zEq.put rfl) (zEq.put rfl)) (zFr.eq w45F rfl)) (zEq.put rfl)) (zEq.put rfl)) (zFr.eq w64F rfl)) (zEq.put rfl))) w65E
            show zGo X l 1 0 0 47 4 [(0, .ref 155), (1, .int (44 : Int32))] [.int (zpt (zsI w64M 160 (1 + 4 * w6n) (zI w64M 155 4)))] (zsI w64M 160 (1 + 4 * w6n) (zI w64M 155 4)) _
            refine zs_iload_n (pc := 4) t47_4 rfl ?_
            by_cases w77 : (g w65E) = 44
            · refine zs_icmp_eqT (pc := 5) t47_5 w72 li44 (by omega) ?_
              refine zs_aload_n (pc := 17) t47_17 rfl ?_
              refine zs_dup (pc := 18) t47_18 rfl ?_
              refine zs_get (pc := 19) t47_19 (by decide) (zk1 (w64s.k fk_zMc_155)) (zfvi rfl ((zIo (by decide)).trans rfl)) ?_
              refine zs_iconst (pc := 22) t47_22 (v := 1) (by decide) ?_
              obtain ⟨w78v, w78e, w78⟩ := ziadd (a := (zI w64M 155 2)) (b := (1 : Int32)) rfl li1 (by omega) (by omega)
              refine zs_iadd (pc := 23) t47_23 (c := w78v) w78e ?_
              have w79 : zIv cLo cHi (zsI (zsI w64M 160 (1 + 4 * w6n) (zI w64M 155 4)) 155 2 w78v) := zIv.put w71 (show (-2147483648) ≤ w78v.toInt ∧ w78v.toInt ≤ 2147483647 from zrg w78v)
              refine zs_putI (pc := 24) t47_24 (zk1 (w64s.k fk_zMc_155)) rfl ?_
              refine zs_iconst (pc := 27) t47_27 (v := 1) (by decide) ?_
              refine zs_iret (pc := 28) t47_28 mr47 (by decide) ?_
              show zGo X l 3 0 0 84 91 [(6, .int (1 : Int32)), (5, .int (3 : Int32)), (4, .int (zpt M)), (3, .int (zI M 155 2)), (0, .ref 157), (1, .ref 155), (2, .int a)] [.int (1 : Int32)] (zsI (zsI w64M 160 (1 + 4 * w6n) (zI w64M 155 4)) 155 2 w78v) _
              refine zs_if_neT (pc := 91) t84_91 li1 (by decide) ?_
              refine zs_iinc (pc := 96) t84_96 (ls' := [(6, .int (2 : Int32)), (5, .int (3 : Int32)), (4, .int (zpt M)), (3, .int (zI M 155 2)), (0, .ref 157), (1, .ref 155), (2, .int a)]) (zml mf84 (by decide)) rfl (c := 2) (by decide) rfl ?_
              refine zs_goto (pc := 99) t84_99 ?_
              refine zs_iload (pc := 40) t84_40 rfl ?_
              refine zs_iload (pc := 42) t84_42 rfl ?_
              refine zs_icmp_geF (pc := 44) t84_44 li2 li3 (by decide) ?_
              refine zs_aload_n (pc := 47) t84_47 rfl ?_
              have w80 : (zI (zsI (zsI w64M 160 (1 + 4 * w6n) (zI w64M 155 4)) 155 2 w78v) 155 2).toInt = ((zI w64M 155 2).toInt + 1) := (congrArg Int32.toInt zIs).trans w78
              have w81 : (zI (zsI (zsI w64M 160 (1 + 4 * w6n) (zI w64M 155 4)) 155 2 w78v) 155 2).toInt = ((zI w64M 155 2).toInt + 1) := (congrArg Int32.toInt zIs).trans w78
              have w82 : (zI (zsI (zsI w64M 160 (1 + 4 * w6n) (zI w64M 155 4)) 155 2 w78v) 155 1).toInt = (zI M 155 1).toInt := (congrArg Int32.toInt ((zIoj (by decide)).trans ((zIo (by decide)).trans ((w64F 155 1 rfl).trans ((zIoj (by decide)).trans ((zIo (by decide)).trans ((w45F 155 1 rfl).trans ((zIo (by decide)).trans ((zIoj (by decide)).trans rfl))))))))).trans rfl
              refine zs_invV (pc := 48) (k := 155) (as' := []) (st := []) t84_48 mf35 rfl rfl (Or.inl ⟨by decide, (zk1 (w64s.k fk_zMc_155))⟩) ⟨by decide, by decide, Nat.le_of_ble_eq_true rfl, Nat.le_of_ble_eq_true rfl⟩ (X35_155 w64s w79 (by omega) (by omega) (zTa.fr x0 (zEq.tr (zEq.tr (zEq.tr (zEq.tr (zEq.tr (zEq.tr (zEq.tr (zEq.put rfl) (zEq.put rfl)) (zFr.eq w45F rfl)) (zEq.put rfl)) (zEq.put rfl)) (zFr.eq w64F rfl)) (zEq.put rfl)) (zEq.put rfl))) ?_) (fun _ _ q => q)
              intro w83M w83v w83s w83I w83F w83x0 w83a w83b
              show zGo X l 3 0 0 84 51 [(6, .int (2 : Int32)), (5, .int (3 : Int32)), (4, .int (zpt M)), (3, .int (zI M 155 2)), (0, .ref 157), (1, .ref 155), (2, .int a)] [.int w83v] w83M _
              rcases w83x0 (w65E + 1) (by omega) with ⟨w84v, w84e⟩ | ⟨w84v, w84E, w84x, w84e, w84_3, w84_4, w84_5, w84_6, w84_7, w84_8⟩
              · skip
                refine zs_if_neF (pc := 51) t84_51 rfl (by omega) ?_
                refine zs_iconst (pc := 54) t84_54 (v := 0) (by decide) ?_
                have w85 := zrg (zI w83M 155 2)
                have w86 : (zI w83M 155 2).toInt = (zI w83M 155 2).toInt := (congrArg Int32.toInt rfl).trans rfl
                exact zs_iret (pc := 55) t84_55 mr84 (by decide) (hQ _ _ w83s w83I ((((((((((zFr.refl).put rfl).put rfl).trans (w45F.mono rfl)).put rfl).put rfl).trans (w64F.mono rfl)).put rfl).put rfl).trans (w83F.mono rfl)) ⟨(fun p hp => by obtain rfl : w5n = p := (by omega); exact Or.inl ⟨by decide, (((pAc.h (by omega)).trans (pB.y (pRd.y w46e (by omega) (by omega) (by omega)))).trans (pB.y (pRd.y w65e (by omega) (by omega) (by omega)))).trans (pB.f (pRd.f w84e))⟩), (fun j hj => ((w83F 159 j rfl).trans ((zIo (by decide)).trans ((zIo (by decide)).trans ((w64F 159 j rfl).trans ((zIo (by decide)).trans ((zIo (by decide)).trans ((w45F 159 j rfl).trans ((zIoj (by omega)).trans (zIo (by decide))))))))))), (fun j hj => ((w83F 160 j rfl).trans ((zIo (by decide)).trans ((zIoj (by omega)).trans ((w64F 160 j rfl).trans ((zIo (by decide)).trans ((zIoj (by omega)).trans ((w45F 160 j rfl).trans ((zIo (by decide)).trans (zIo (by decide)))))))))))⟩ (by decide) (by decide))
              · skip
                subst w84_4
                refine zs_if_neT (pc := 51) t84_51 rfl (by omega) ?_
                refine zs_aload_n (pc := 56) t84_56 rfl ?_
                refine zs_get (pc := 57) t84_57 (by decide) (zk1 (w83s.k fk_zMc_157)) (w83s.p rfl fv_zMc_157_2) ?_
                refine zs_iload_n (pc := 60) t84_60 rfl ?_
                refine zs_iconst (pc := 61) t84_61 (v := 4) (by decide) ?_
                obtain ⟨w87v, w87⟩ : ∃ v, a * (4 : Int32) = v := ⟨_, rfl⟩
                have w87g : w87v.toInt = a.toInt * 4 := by rw [← w87]; exact zmulc rfl li4 (by omega) (by omega)
                refine zs_imul (pc := 62) t84_62 (c := w87v) w87 ?_
                refine zs_iload (pc := 63) t84_63 rfl ?_
                obtain ⟨w88v, w88e, w88⟩ := ziadd (a := w87v) (b := (2 : Int32)) w87g li2 (by omega) (by omega)
                refine zs_iadd (pc := 65) t84_65 (c := w88v) w88e ?_
                refine zs_aload_n (pc := 66) t84_66 rfl ?_
                refine zs_invV (pc := 67) (k := 155) (as' := []) (st := [.int w88v, .ref 160]) t84_67 mf37 rfl rfl (Or.inl ⟨by decide, (zk1 (w83s.k fk_zMc_155))⟩) ⟨by decide, by decide, Nat.le_of_ble_eq_true rfl, Nat.le_of_ble_eq_true rfl⟩ (zs_in (by decide) mf37 (Nat.le_of_ble_eq_true rfl) ?_) (fun _ _ q => q)
                show zGo X l 0 0 0 37 0 [(0, .ref 155)] [] w83M _
                refine zs_aload_n (pc := 0) t37_0 rfl ?_
                have w89 := ib155_4 w83I
                refine zs_get (pc := 1) t37_1 (by decide) (zk1 (w83s.k fk_zMc_155)) (zfvi rfl rfl) ?_
                refine zs_iret (pc := 4) t37_4 mr37 rfl ?_
                show zGo X l 3 0 0 84 70 [(6, .int (2 : Int32)), (5, .int (3 : Int32)), (4, .int (zpt M)), (3, .int (zI M 155 2)), (0, .ref 157), (1, .ref 155), (2, .int a)] [.int (zI w83M 155 4), .int w88v, .ref 160] w83M _
                have w90 : zIv cLo cHi (zsI w83M 160 (2 + 4 * w6n) (zI w83M 155 4)) := zIv.put w83I (show (-2147483648) ≤ (zI w83M 155 4).toInt ∧ (zI w83M 155 4).toInt ≤ 2147483647 from zrg (zI w83M 155 4))
                refine zs_iast (pc := 70) t84_70 (j := (2 + 4 * w6n)) (by decide) (zk1 (w83s.k fk_zMc_160)) (show w88v.toInt = (((2 + 4 * w6n) : Nat) : Int) by omega) (zk2 (w83s.k fk_zMc_160) (by omega)) ?_
                refine zs_aload_n (pc := 71) t84_71 rfl ?_
                refine zs_iload (pc := 72) t84_72 rfl ?_
                refine zs_iconst (pc := 74) t84_74 (v := 1) (by decide) ?_
                refine zs_iadd (pc := 75) t84_75 (c := 3) (by decide) ?_
                refine zs_iload (pc := 76) t84_76 rfl ?_
                refine zs_icmp_geT (pc := 78) t84_78 li3 li3 (by decide) ?_
                refine zs_bipush (pc := 86) t84_86 (v := 59) (by decide) ?_
                refine zs_invV (pc := 88) (k := 155) (as' := [.int (59 : Int32)]) (st := []) t84_88 mf47 rfl rfl (Or.inl ⟨by decide, (zk1 (w83s.k fk_zMc_155))⟩) ⟨by decide, by decide, Nat.le_of_ble_eq_true rfl, Nat.le_of_ble_eq_true rfl⟩ (zs_in (by decide) mf47 (Nat.le_of_ble_eq_true rfl) ?_) (fun _ _ q => q)
                show zGo X l 1 0 0 47 0 [(0, .ref 155), (1, .int (59 : Int32))] [] (zsI w83M 160 (2 + 4 * w6n) (zI w83M 155 4)) _
                refine zs_aload_n (pc := 0) t47_0 rfl ?_
                refine zs_invV (pc := 1) (k := 155) (as' := []) (st := []) t47_1 mf31 rfl rfl (Or.inl ⟨by decide, (zk1 (w83s.k fk_zMc_155))⟩) ⟨by decide, by decide, Nat.le_of_ble_eq_true rfl, Nat.le_of_ble_eq_true rfl⟩ (P31 w83s w90 ?_) (fun _ _ q => q)
                have w92 := zrg (zI w83M 155 2)
                have w93 : (zI (zsI w83M 160 (2 + 4 * w6n) (zI w83M 155 4)) 155 2).toInt = (zI w83M 155 2).toInt := (congrArg Int32.toInt ((zIo (by decide)).trans rfl)).trans rfl
                have w94 : (zI (zsI w83M 160 (2 + 4 * w6n) (zI w83M 155 4)) 155 1).toInt = (zI M 155 1).toInt := (congrArg Int32.toInt ((zIo (by decide)).trans ((w83F 155 1 rfl).trans ((zIoj (by decide)).trans ((zIo (by decide)).trans ((w64F 155 1 rfl).trans ((zIoj (by decide)).trans ((zIo (by decide)).trans ((w45F 155 1 rfl).trans ((zIo (by decide)).trans ((zIoj (by decide)).trans rfl))))))))))).trans rfl
                have w91 : (zpt (zsI w83M 160 (2 + 4 * w6n) (zI w83M 155 4))).toInt = g w84E := zpt.tr (zTa.fr x0 (zEq.tr (zEq.tr (zEq.tr (zEq.tr (zEq.tr (zEq.tr (zEq.tr (zEq.tr (zEq.tr (zEq.put rfl) (zEq.put rfl)) (zFr.eq w45F rfl)) (zEq.put rfl)) (zEq.put rfl)) (zFr.eq w64F rfl)) (zEq.put rfl)) (zEq.put rfl)) (zFr.eq w83F rfl)) (zEq.put rfl))) (by omega)
                have w95 := zTa.rg (M := (zsI w83M 160 (2 + 4 * w6n) (zI w83M 155 4))) (zTa.fr x0 (zEq.tr (zEq.tr (zEq.tr (zEq.tr (zEq.tr (zEq.tr (zEq.tr (zEq.tr (zEq.tr (zEq.put rfl) (zEq.put rfl)) (zFr.eq w45F rfl)) (zEq.put rfl)) (zEq.put rfl)) (zFr.eq w64F rfl)) (zEq.put rfl)) (zEq.put rfl)) (zFr.eq w83F rfl)) (zEq.put rfl))) w84E
                show zGo X l 1 0 0 47 4 [(0, .ref 155), (1, .int (59 : Int32))] [.int (zpt (zsI w83M 160 (2 + 4 * w6n) (zI w83M 155 4)))] (zsI w83M 160 (2 + 4 * w6n) (zI w83M 155 4)) _
                refine zs_iload_n (pc := 4) t47_4 rfl ?_
                by_cases w96 : (g w84E) = 59
                · refine zs_icmp_eqT (pc := 5) t47_5 w91 li59 (by omega) ?_
                  refine zs_aload_n (pc := 17) t47_17 rfl ?_
                  refine zs_dup (pc := 18) t47_18 rfl ?_
                  refine zs_get (pc := 19) t47_19 (by decide) (zk1 (w83s.k fk_zMc_155)) (zfvi rfl ((zIo (by decide)).trans rfl)) ?_
                  refine zs_iconst (pc := 22) t47_22 (v := 1) (by decide) ?_
                  obtain ⟨w97v, w97e, w97⟩ := ziadd (a := (zI w83M 155 2)) (b := (1 : Int32)) rfl li1 (by omega) (by omega)
                  refine zs_iadd (pc := 23) t47_23 (c := w97v) w97e ?_
                  have w98 : zIv cLo cHi (zsI (zsI w83M 160 (2 + 4 * w6n) (zI w83M 155 4)) 155 2 w97v) := zIv.put w90 (show (-2147483648) ≤ w97v.toInt ∧ w97v.toInt ≤ 2147483647 from zrg w97v)
                  refine zs_putI (pc := 24) t47_24 (zk1 (w83s.k fk_zMc_155)) rfl ?_
                  refine zs_iconst (pc := 27) t47_27 (v := 1) (by decide) ?_
                  refine zs_iret (pc := 28) t47_28 mr47 (by decide) ?_
                  show zGo X l 3 0 0 84 91 [(6, .int (2 : Int32)), (5, .int (3 : Int32)), (4, .int (zpt M)), (3, .int (zI M 155 2)), (0, .ref 157), (1, .ref 155), (2, .int a)] [.int (1 : Int32)] (zsI (zsI w83M 160 (2 + 4 * w6n) (zI w83M 155 4)) 155 2 w97v) _
                  refine zs_if_neT (pc := 91) t84_91 li1 (by decide) ?_
                  refine zs_iinc (pc := 96) t84_96 (ls' := [(6, .int (3 : Int32)), (5, .int (3 : Int32)), (4, .int (zpt M)), (3, .int (zI M 155 2)), (0, .ref 157), (1, .ref 155), (2, .int a)]) (zml mf84 (by decide)) rfl (c := 3) (by decide) rfl ?_
                  refine zs_goto (pc := 99) t84_99 ?_
                  refine zs_iload (pc := 40) t84_40 rfl ?_
                  refine zs_iload (pc := 42) t84_42 rfl ?_
                  refine zs_icmp_geT (pc := 44) t84_44 li3 li3 (by decide) ?_
                  refine zs_iconst (pc := 102) t84_102 (v := 1) (by decide) ?_
                  have w99 : (zI (zsI (zsI w83M 160 (2 + 4 * w6n) (zI w83M 155 4)) 155 2 w97v) 155 2).toInt = ((zI w83M 155 2).toInt + 1) := (congrArg Int32.toInt zIs).trans w97
                  exact zs_iret (pc := 103) t84_103 mr84 (by decide) (hQ _ _ w83s w98 ((((((((((((zFr.refl).put rfl).put rfl).trans (w45F.mono rfl)).put rfl).put rfl).trans (w64F.mono rfl)).put rfl).put rfl).trans (w83F.mono rfl)).put rfl).put rfl) ⟨(fun p hp => by obtain rfl : w5n = p := (by omega); exact Or.inr ⟨by decide, w84E + 1, _, ((((pAc.h (by omega)).trans (pB.y (pRd.y w46e (by omega) (by omega) (by omega)))).trans (pB.y (pRd.y w65e (by omega) (by omega) (by omega)))).trans (pB.y (pRd.y w84e (by omega) (by omega) (by omega)))), by omega, by omega, by omega, fun i hi => ⟨(by rw [show i = w6n by omega]; have z : (zI (zsI (zsI w83M 160 (2 + 4 * w6n) (zI w83M 155 4)) 155 2 w97v) 159 w6n).toInt = (g w5n) := ((congrArg Int32.toInt ((zIo (by decide)).trans ((zIo (by decide)).trans ((w83F 159 w6n rfl).trans ((zIo (by decide)).trans ((zIo (by decide)).trans ((w64F 159 w6n rfl).trans ((zIo (by decide)).trans ((zIo (by decide)).trans ((w45F 159 w6n rfl).trans zIs)))))))))).trans w7); show (zI (zsI (zsI w83M 160 (2 + 4 * w6n) (zI w83M 155 4)) 155 2 w97v) 159 w6n).toInt = 104; omega), (by rw [show 4 * i = (4 * w6n) by omega]; have z : (zI (zsI (zsI w83M 160 (2 + 4 * w6n) (zI w83M 155 4)) 155 2 w97v) 160 (4 * w6n)).toInt = (zI w45M 155 4).toInt := ((congrArg Int32.toInt ((zIo (by decide)).trans ((zIoj (by omega)).trans ((w83F 160 (4 * w6n) rfl).trans ((zIo (by decide)).trans ((zIoj (by omega)).trans ((w64F 160 (4 * w6n) rfl).trans ((zIo (by decide)).trans zIs)))))))).trans rfl); show (zI (zsI (zsI w83M 160 (2 + 4 * w6n) (zI w83M 155 4)) 155 2 w97v) 160 (4 * w6n)).toInt = (zI w45M 155 4).toInt; omega), (fun _ => ⟨(by rw [show 4 * i + 1 = (1 + 4 * w6n) by omega]; have z : (zI (zsI (zsI w83M 160 (2 + 4 * w6n) (zI w83M 155 4)) 155 2 w97v) 160 (1 + 4 * w6n)).toInt = (zI w64M 155 4).toInt := ((congrArg Int32.toInt ((zIo (by decide)).trans ((zIoj (by omega)).trans ((w83F 160 (1 + 4 * w6n) rfl).trans ((zIo (by decide)).trans zIs))))).trans rfl); show (zI (zsI (zsI w83M 160 (2 + 4 * w6n) (zI w83M 155 4)) 155 2 w97v) 160 (1 + 4 * w6n)).toInt = (zI w64M 155 4).toInt; omega), (by rw [show 4 * i + 2 = (2 + 4 * w6n) by omega]; have z : (zI (zsI (zsI w83M 160 (2 + 4 * w6n) (zI w83M 155 4)) 155 2 w97v) 160 (2 + 4 * w6n)).toInt = (zI w83M 155 4).toInt := ((congrArg Int32.toInt ((zIo (by decide)).trans zIs)).trans rfl); show (zI (zsI (zsI w83M 160 (2 + 4 * w6n) (zI w83M 155 4)) 155 2 w97v) 160 (2 + 4 * w6n)).toInt = (zI w83M 155 4).toInt; omega)⟩)⟩⟩), (fun j hj => ((zIo (by decide)).trans ((zIo (by decide)).trans ((w83F 159 j rfl).trans ((zIo (by decide)).trans ((zIo (by decide)).trans ((w64F 159 j rfl).trans ((zIo (by decide)).trans ((zIo (by decide)).trans ((w45F 159 j rfl).trans ((zIoj (by omega)).trans (zIo (by decide))))))))))))), (fun j hj => ((zIo (by decide)).trans ((zIoj (by omega)).trans ((w83F 160 j rfl).trans ((zIo (by decide)).trans ((zIoj (by omega)).trans ((w64F 160 j rfl).trans ((zIo (by decide)).trans ((zIoj (by omega)).trans ((w45F 160 j rfl).trans ((zIo (by decide)).trans (zIo (by decide)))))))))))))⟩ (by decide) (by decide))
                · refine zs_icmp_eqF (pc := 5) t47_5 w91 li59 (by omega) ?_
                  refine zs_aload_n (pc := 8) t47_8 rfl ?_
                  refine zs_aload_n (pc := 9) t47_9 rfl ?_
                  refine zs_get (pc := 10) t47_10 (by decide) (zk1 (w83s.k fk_zMc_155)) (zfvi rfl ((zIo (by decide)).trans rfl)) ?_
                  refine zs_invV (pc := 13) (k := 155) (as' := [.int (zI w83M 155 2)]) (st := []) t47_13 mf34 rfl rfl (Or.inl ⟨by decide, (zk1 (w83s.k fk_zMc_155))⟩) ⟨by decide, by decide, Nat.le_of_ble_eq_true rfl, Nat.le_of_ble_eq_true rfl⟩ (zs_in (by decide) mf34 (Nat.le_of_ble_eq_true rfl) ?_) (fun _ _ q => q)
                  show zGo X l 0 0 0 34 0 [(0, .ref 155), (1, .int (zI w83M 155 2))] [] (zsI w83M 160 (2 + 4 * w6n) (zI w83M 155 4)) _
                  refine zs_aload_n (pc := 0) t34_0 rfl ?_
                  refine zs_iload_n (pc := 1) t34_1 rfl ?_
                  have w100 : zIv cLo cHi (zsI (zsI w83M 160 (2 + 4 * w6n) (zI w83M 155 4)) 155 3 (zI w83M 155 2)) := zIv.put w90 (show (-2147483648) ≤ (zI w83M 155 2).toInt ∧ (zI w83M 155 2).toInt ≤ 2147483647 from zrg (zI w83M 155 2))
                  refine zs_putI (pc := 2) t34_2 (zk1 (w83s.k fk_zMc_155)) rfl ?_
                  refine zs_iconst (pc := 5) t34_5 (v := 0) (by decide) ?_
                  refine zs_iret (pc := 6) t34_6 mr34 (by decide) ?_
                  show zGo X l 1 0 0 47 16 [(0, .ref 155), (1, .int (59 : Int32))] [.int (0 : Int32)] (zsI (zsI w83M 160 (2 + 4 * w6n) (zI w83M 155 4)) 155 3 (zI w83M 155 2)) _
                  refine zs_iret (pc := 16) t47_16 mr47 (by decide) ?_
                  show zGo X l 3 0 0 84 91 [(6, .int (2 : Int32)), (5, .int (3 : Int32)), (4, .int (zpt M)), (3, .int (zI M 155 2)), (0, .ref 157), (1, .ref 155), (2, .int a)] [.int (0 : Int32)] (zsI (zsI w83M 160 (2 + 4 * w6n) (zI w83M 155 4)) 155 3 (zI w83M 155 2)) _
                  refine zs_if_neF (pc := 91) t84_91 li0 (by decide) ?_
                  refine zs_iconst (pc := 94) t84_94 (v := 0) (by decide) ?_
                  have w101 : (zI (zsI (zsI w83M 160 (2 + 4 * w6n) (zI w83M 155 4)) 155 3 (zI w83M 155 2)) 155 2).toInt = (zI w83M 155 2).toInt := (congrArg Int32.toInt ((zIoj (by decide)).trans ((zIo (by decide)).trans rfl))).trans rfl
                  exact zs_iret (pc := 95) t84_95 mr84 (by decide) (hQ _ _ w83s w100 ((((((((((((zFr.refl).put rfl).put rfl).trans (w45F.mono rfl)).put rfl).put rfl).trans (w64F.mono rfl)).put rfl).put rfl).trans (w83F.mono rfl)).put rfl).put rfl) ⟨(fun p hp => by obtain rfl : w5n = p := (by omega); exact Or.inl ⟨by decide, (((pAc.h (by omega)).trans (pB.y (pRd.y w46e (by omega) (by omega) (by omega)))).trans (pB.y (pRd.y w65e (by omega) (by omega) (by omega)))).trans (pB.f (pRd.n w84e (by omega)))⟩), (fun j hj => ((zIo (by decide)).trans ((zIo (by decide)).trans ((w83F 159 j rfl).trans ((zIo (by decide)).trans ((zIo (by decide)).trans ((w64F 159 j rfl).trans ((zIo (by decide)).trans ((zIo (by decide)).trans ((w45F 159 j rfl).trans ((zIoj (by omega)).trans (zIo (by decide))))))))))))), (fun j hj => ((zIo (by decide)).trans ((zIoj (by omega)).trans ((w83F 160 j rfl).trans ((zIo (by decide)).trans ((zIoj (by omega)).trans ((w64F 160 j rfl).trans ((zIo (by decide)).trans ((zIoj (by omega)).trans ((w45F 160 j rfl).trans ((zIo (by decide)).trans (zIo (by decide)))))))))))))⟩ (by decide) (by decide))
            · refine zs_icmp_eqF (pc := 5) t47_5 w72 li44 (by omega) ?_
              refine zs_aload_n (pc := 8) t47_8 rfl ?_
              refine zs_aload_n (pc := 9) t47_9 rfl ?_
              refine zs_get (pc := 10) t47_10 (by decide) (zk1 (w64s.k fk_zMc_155)) (zfvi rfl ((zIo (by decide)).trans rfl)) ?_
              refine zs_invV (pc := 13) (k := 155) (as' := [.int (zI w64M 155 2)]) (st := []) t47_13 mf34 rfl rfl (Or.inl ⟨by decide, (zk1 (w64s.k fk_zMc_155))⟩) ⟨by decide, by decide, Nat.le_of_ble_eq_true rfl, Nat.le_of_ble_eq_true rfl⟩ (zs_in (by decide) mf34 (Nat.le_of_ble_eq_true rfl) ?_) (fun _ _ q => q)
              show zGo X l 0 0 0 34 0 [(0, .ref 155), (1, .int (zI w64M 155 2))] [] (zsI w64M 160 (1 + 4 * w6n) (zI w64M 155 4)) _
              refine zs_aload_n (pc := 0) t34_0 rfl ?_
              refine zs_iload_n (pc := 1) t34_1 rfl ?_
              have w102 : zIv cLo cHi (zsI (zsI w64M 160 (1 + 4 * w6n) (zI w64M 155 4)) 155 3 (zI w64M 155 2)) := zIv.put w71 (show (-2147483648) ≤ (zI w64M 155 2).toInt ∧ (zI w64M 155 2).toInt ≤ 2147483647 from zrg (zI w64M 155 2))
              refine zs_putI (pc := 2) t34_2 (zk1 (w64s.k fk_zMc_155)) rfl ?_
              refine zs_iconst (pc := 5) t34_5 (v := 0) (by decide) ?_
              refine zs_iret (pc := 6) t34_6 mr34 (by decide) ?_
              show zGo X l 1 0 0 47 16 [(0, .ref 155), (1, .int (44 : Int32))] [.int (0 : Int32)] (zsI (zsI w64M 160 (1 + 4 * w6n) (zI w64M 155 4)) 155 3 (zI w64M 155 2)) _
              refine zs_iret (pc := 16) t47_16 mr47 (by decide) ?_
              show zGo X l 3 0 0 84 91 [(6, .int (1 : Int32)), (5, .int (3 : Int32)), (4, .int (zpt M)), (3, .int (zI M 155 2)), (0, .ref 157), (1, .ref 155), (2, .int a)] [.int (0 : Int32)] (zsI (zsI w64M 160 (1 + 4 * w6n) (zI w64M 155 4)) 155 3 (zI w64M 155 2)) _
              refine zs_if_neF (pc := 91) t84_91 li0 (by decide) ?_
              refine zs_iconst (pc := 94) t84_94 (v := 0) (by decide) ?_
              have w103 : (zI (zsI (zsI w64M 160 (1 + 4 * w6n) (zI w64M 155 4)) 155 3 (zI w64M 155 2)) 155 2).toInt = (zI w64M 155 2).toInt := (congrArg Int32.toInt ((zIoj (by decide)).trans ((zIo (by decide)).trans rfl))).trans rfl
              exact zs_iret (pc := 95) t84_95 mr84 (by decide) (hQ _ _ w64s w102 (((((((((zFr.refl).put rfl).put rfl).trans (w45F.mono rfl)).put rfl).put rfl).trans (w64F.mono rfl)).put rfl).put rfl) ⟨(fun p hp => by obtain rfl : w5n = p := (by omega); exact Or.inl ⟨by decide, ((pAc.h (by omega)).trans (pB.y (pRd.y w46e (by omega) (by omega) (by omega)))).trans (pB.f (pRd.n w65e (by omega)))⟩), (fun j hj => ((zIo (by decide)).trans ((zIo (by decide)).trans ((w64F 159 j rfl).trans ((zIo (by decide)).trans ((zIo (by decide)).trans ((w45F 159 j rfl).trans ((zIoj (by omega)).trans (zIo (by decide)))))))))), (fun j hj => ((zIo (by decide)).trans ((zIoj (by omega)).trans ((w64F 160 j rfl).trans ((zIo (by decide)).trans ((zIoj (by omega)).trans ((w45F 160 j rfl).trans ((zIo (by decide)).trans (zIo (by decide))))))))))⟩ (by decide) (by decide))
        · refine zs_icmp_eqF (pc := 5) t47_5 w53 li44 (by omega) ?_
          refine zs_aload_n (pc := 8) t47_8 rfl ?_
          refine zs_aload_n (pc := 9) t47_9 rfl ?_
          refine zs_get (pc := 10) t47_10 (by decide) (zk1 (w45s.k fk_zMc_155)) (zfvi rfl ((zIo (by decide)).trans rfl)) ?_
          refine zs_invV (pc := 13) (k := 155) (as' := [.int (zI w45M 155 2)]) (st := []) t47_13 mf34 rfl rfl (Or.inl ⟨by decide, (zk1 (w45s.k fk_zMc_155))⟩) ⟨by decide, by decide, Nat.le_of_ble_eq_true rfl, Nat.le_of_ble_eq_true rfl⟩ (zs_in (by decide) mf34 (Nat.le_of_ble_eq_true rfl) ?_) (fun _ _ q => q)
          show zGo X l 0 0 0 34 0 [(0, .ref 155), (1, .int (zI w45M 155 2))] [] (zsI w45M 160 (4 * w6n) (zI w45M 155 4)) _
          refine zs_aload_n (pc := 0) t34_0 rfl ?_
          refine zs_iload_n (pc := 1) t34_1 rfl ?_
          have w104 : zIv cLo cHi (zsI (zsI w45M 160 (4 * w6n) (zI w45M 155 4)) 155 3 (zI w45M 155 2)) := zIv.put w52 (show (-2147483648) ≤ (zI w45M 155 2).toInt ∧ (zI w45M 155 2).toInt ≤ 2147483647 from zrg (zI w45M 155 2))
          refine zs_putI (pc := 2) t34_2 (zk1 (w45s.k fk_zMc_155)) rfl ?_
          refine zs_iconst (pc := 5) t34_5 (v := 0) (by decide) ?_
          refine zs_iret (pc := 6) t34_6 mr34 (by decide) ?_
          show zGo X l 1 0 0 47 16 [(0, .ref 155), (1, .int (44 : Int32))] [.int (0 : Int32)] (zsI (zsI w45M 160 (4 * w6n) (zI w45M 155 4)) 155 3 (zI w45M 155 2)) _
          refine zs_iret (pc := 16) t47_16 mr47 (by decide) ?_
          show zGo X l 3 0 0 84 91 [(6, .int (0 : Int32)), (5, .int (3 : Int32)), (4, .int (zpt M)), (3, .int (zI M 155 2)), (0, .ref 157), (1, .ref 155), (2, .int a)] [.int (0 : Int32)] (zsI (zsI w45M 160 (4 * w6n) (zI w45M 155 4)) 155 3 (zI w45M 155 2)) _
          refine zs_if_neF (pc := 91) t84_91 li0 (by decide) ?_
          refine zs_iconst (pc := 94) t84_94 (v := 0) (by decide) ?_
          have w105 : (zI (zsI (zsI w45M 160 (4 * w6n) (zI w45M 155 4)) 155 3 (zI w45M 155 2)) 155 2).toInt = (zI w45M 155 2).toInt := (congrArg Int32.toInt ((zIoj (by decide)).trans ((zIo (by decide)).trans rfl))).trans rfl
          exact zs_iret (pc := 95) t84_95 mr84 (by decide) (hQ _ _ w45s w104 ((((((zFr.refl).put rfl).put rfl).trans (w45F.mono rfl)).put rfl).put rfl) ⟨(fun p hp => by obtain rfl : w5n = p := (by omega); exact Or.inl ⟨by decide, (pAc.h (by omega)).trans (pB.f (pRd.n w46e (by omega)))⟩), (fun j hj => ((zIo (by decide)).trans ((zIo (by decide)).trans ((w45F 159 j rfl).trans ((zIoj (by omega)).trans (zIo (by decide))))))), (fun j hj => ((zIo (by decide)).trans ((zIoj (by omega)).trans ((w45F 160 j rfl).trans ((zIo (by decide)).trans (zIo (by decide)))))))⟩ (by decide) (by decide))
    by_cases w106 : (g w5n) = 110
    · refine zs_lsw (pc := 1) t85_1 (off := 45) ((w7 : (zpt M).toInt = (g w5n)).trans w106) rfl (pc2 := 46) rfl ?_
      refine zs_iconst (pc := 46) t85_46 (v := 1) (by decide) ?_
      refine zs_iret (pc := 47) t85_47 mr85 (by decide) ?_
      show zGo X l 3 0 0 84 16 [(4, .int (zpt M)), (3, .int (zI M 155 2)), (0, .ref 157), (1, .ref 155), (2, .int a)] [.int (1 : Int32)] (zsI M 155 2 w14v) _
      refine zs_istore (pc := 16) t84_16 (ls' := [(5, .int (1 : Int32)), (4, .int (zpt M)), (3, .int (zI M 155 2)), (0, .ref 157), (1, .ref 155), (2, .int a)]) (zml mf84 (by decide)) rfl ?_
      refine zs_iload (pc := 18) t84_18 rfl ?_
      refine zs_if_neT (pc := 20) t84_20 li1 (by decide) ?_
      refine zs_aload_n (pc := 29) t84_29 rfl ?_
      refine zs_get (pc := 30) t84_30 (by decide) (zk1 (hs.k fk_zMc_157)) (hs.p rfl fv_zMc_157_1) ?_
      refine zs_iload_n (pc := 33) t84_33 rfl ?_
      refine zs_iload (pc := 34) t84_34 rfl ?_
      have w107 : zIv cLo cHi (zsI (zsI M 155 2 w14v) 159 w6n (zpt M)) := zIv.put w15 (show (-2147483648) ≤ (zpt M).toInt ∧ (zpt M).toInt ≤ 2147483647 from zrg (zpt M))
      refine zs_iast (pc := 36) t84_36 (j := w6n) (by decide) (zk1 (hs.k fk_zMc_159)) (show a.toInt = ((w6n : Nat) : Int) by omega) (zk2 (hs.k fk_zMc_159) (by omega)) ?_
      refine zs_iconst (pc := 37) t84_37 (v := 0) (by decide) ?_
      refine zs_istore (pc := 38) t84_38 (ls' := [(6, .int (0 : Int32)), (5, .int (1 : Int32)), (4, .int (zpt M)), (3, .int (zI M 155 2)), (0, .ref 157), (1, .ref 155), (2, .int a)]) (zml mf84 (by decide)) rfl ?_
      refine zs_iload (pc := 40) t84_40 rfl ?_
      refine zs_iload (pc := 42) t84_42 rfl ?_
      refine zs_icmp_geF (pc := 44) t84_44 li0 li1 (by decide) ?_
      refine zs_aload_n (pc := 47) t84_47 rfl ?_
      have w108 : (zI (zsI (zsI M 155 2 w14v) 159 w6n (zpt M)) 155 2).toInt = ((zI M 155 2).toInt + 1) := (congrArg Int32.toInt ((zIo (by decide)).trans zIs)).trans w14
      have w109 : (zI (zsI (zsI M 155 2 w14v) 159 w6n (zpt M)) 155 2).toInt = ((zI M 155 2).toInt + 1) := (congrArg Int32.toInt ((zIo (by decide)).trans zIs)).trans w14
      have w110 : (zI (zsI (zsI M 155 2 w14v) 159 w6n (zpt M)) 155 1).toInt = (zI M 155 1).toInt := (congrArg Int32.toInt ((zIo (by decide)).trans ((zIoj (by decide)).trans rfl))).trans rfl
      refine zs_invV (pc := 48) (k := 155) (as' := []) (st := []) t84_48 mf35 rfl rfl (Or.inl ⟨by decide, (zk1 (hs.k fk_zMc_155))⟩) ⟨by decide, by decide, Nat.le_of_ble_eq_true rfl, Nat.le_of_ble_eq_true rfl⟩ (X35_155 hs w107 (by omega) (by omega) (zTa.fr x0 (zEq.tr (zEq.put rfl) (zEq.put rfl))) ?_) (fun _ _ q => q)
      intro w111M w111v w111s w111I w111F w111x0 w111a w111b
      show zGo X l 3 0 0 84 51 [(6, .int (0 : Int32)), (5, .int (1 : Int32)), (4, .int (zpt M)), (3, .int (zI M 155 2)), (0, .ref 157), (1, .ref 155), (2, .int a)] [.int w111v] w111M _
      rcases w111x0 (w5n + 1) (by omega) with ⟨w112v, w112e⟩ | ⟨w112v, w112E, w112x, w112e, w112_3, w112_4, w112_5, w112_6, w112_7, w112_8⟩
      · skip
        refine zs_if_neF (pc := 51) t84_51 rfl (by omega) ?_
        refine zs_iconst (pc := 54) t84_54 (v := 0) (by decide) ?_
        have w113 := zrg (zI w111M 155 2)
        have w114 : (zI w111M 155 2).toInt = (zI w111M 155 2).toInt := (congrArg Int32.toInt rfl).trans rfl
        exact zs_iret (pc := 55) t84_55 mr84 (by decide) (hQ _ _ w111s w111I ((((zFr.refl).put rfl).put rfl).trans (w111F.mono rfl)) ⟨(fun p hp => by obtain rfl : w5n = p := (by omega); exact Or.inl ⟨by decide, (pAc.o (L := 110) (by omega) (by decide)).trans (pB.f (pRd.f w112e))⟩), (fun j hj => ((w111F 159 j rfl).trans ((zIoj (by omega)).trans (zIo (by decide))))), (fun j hj => ((w111F 160 j rfl).trans ((zIo (by decide)).trans (zIo (by decide)))))⟩ (by decide) (by decide))
      · skip
        subst w112_4
        refine zs_if_neT (pc := 51) t84_51 rfl (by omega) ?_
        refine zs_aload_n (pc := 56) t84_56 rfl ?_
        refine zs_get (pc := 57) t84_57 (by decide) (zk1 (w111s.k fk_zMc_157)) (w111s.p rfl fv_zMc_157_2) ?_
        refine zs_iload_n (pc := 60) t84_60 rfl ?_
        refine zs_iconst (pc := 61) t84_61 (v := 4) (by decide) ?_
        obtain ⟨w115v, w115⟩ : ∃ v, a * (4 : Int32) = v := ⟨_, rfl⟩
        have w115g : w115v.toInt = a.toInt * 4 := by rw [← w115]; exact zmulc rfl li4 (by omega) (by omega)
        refine zs_imul (pc := 62) t84_62 (c := w115v) w115 ?_
        refine zs_iload (pc := 63) t84_63 rfl ?_
        obtain ⟨w116v, w116e, w116⟩ := ziadd (a := w115v) (b := (0 : Int32)) w115g li0 (by omega) (by omega)
        refine zs_iadd (pc := 65) t84_65 (c := w116v) w116e ?_
        refine zs_aload_n (pc := 66) t84_66 rfl ?_
        refine zs_invV (pc := 67) (k := 155) (as' := []) (st := [.int w116v, .ref 160]) t84_67 mf37 rfl rfl (Or.inl ⟨by decide, (zk1 (w111s.k fk_zMc_155))⟩) ⟨by decide, by decide, Nat.le_of_ble_eq_true rfl, Nat.le_of_ble_eq_true rfl⟩ (zs_in (by decide) mf37 (Nat.le_of_ble_eq_true rfl) ?_) (fun _ _ q => q)
        show zGo X l 0 0 0 37 0 [(0, .ref 155)] [] w111M _
        refine zs_aload_n (pc := 0) t37_0 rfl ?_
        have w117 := ib155_4 w111I
        refine zs_get (pc := 1) t37_1 (by decide) (zk1 (w111s.k fk_zMc_155)) (zfvi rfl rfl) ?_
        refine zs_iret (pc := 4) t37_4 mr37 rfl ?_
        show zGo X l 3 0 0 84 70 [(6, .int (0 : Int32)), (5, .int (1 : Int32)), (4, .int (zpt M)), (3, .int (zI M 155 2)), (0, .ref 157), (1, .ref 155), (2, .int a)] [.int (zI w111M 155 4), .int w116v, .ref 160] w111M _
        have w118 : zIv cLo cHi (zsI w111M 160 (4 * w6n) (zI w111M 155 4)) := zIv.put w111I (show (-2147483648) ≤ (zI w111M 155 4).toInt ∧ (zI w111M 155 4).toInt ≤ 2147483647 from zrg (zI w111M 155 4))
        refine zs_iast (pc := 70) t84_70 (j := (4 * w6n)) (by decide) (zk1 (w111s.k fk_zMc_160)) (show w116v.toInt = (((4 * w6n) : Nat) : Int) by omega) (zk2 (w111s.k fk_zMc_160) (by omega)) ?_
        refine zs_aload_n (pc := 71) t84_71 rfl ?_
        refine zs_iload (pc := 72) t84_72 rfl ?_
        refine zs_iconst (pc := 74) t84_74 (v := 1) (by decide) ?_
        refine zs_iadd (pc := 75) t84_75 (c := 1) (by decide) ?_
        refine zs_iload (pc := 76) t84_76 rfl ?_
        refine zs_icmp_geT (pc := 78) t84_78 li1 li1 (by decide) ?_
        refine zs_bipush (pc := 86) t84_86 (v := 59) (by decide) ?_
        refine zs_invV (pc := 88) (k := 155) (as' := [.int (59 : Int32)]) (st := []) t84_88 mf47 rfl rfl (Or.inl ⟨by decide, (zk1 (w111s.k fk_zMc_155))⟩) ⟨by decide, by decide, Nat.le_of_ble_eq_true rfl, Nat.le_of_ble_eq_true rfl⟩ (zs_in (by decide) mf47 (Nat.le_of_ble_eq_true rfl) ?_) (fun _ _ q => q)
        show zGo X l 1 0 0 47 0 [(0, .ref 155), (1, .int (59 : Int32))] [] (zsI w111M 160 (4 * w6n) (zI w111M 155 4)) _
        refine zs_aload_n (pc := 0) t47_0 rfl ?_
        refine zs_invV (pc := 1) (k := 155) (as' := []) (st := []) t47_1 mf31 rfl rfl (Or.inl ⟨by decide, (zk1 (w111s.k fk_zMc_155))⟩) ⟨by decide, by decide, Nat.le_of_ble_eq_true rfl, Nat.le_of_ble_eq_true rfl⟩ (P31 w111s w118 ?_) (fun _ _ q => q)
        have w120 := zrg (zI w111M 155 2)
        have w121 : (zI (zsI w111M 160 (4 * w6n) (zI w111M 155 4)) 155 2).toInt = (zI w111M 155 2).toInt := (congrArg Int32.toInt ((zIo (by decide)).trans rfl)).trans rfl
        have w122 : (zI (zsI w111M 160 (4 * w6n) (zI w111M 155 4)) 155 1).toInt = (zI M 155 1).toInt := (congrArg Int32.toInt ((zIo (by decide)).trans ((w111F 155 1 rfl).trans ((zIo (by decide)).trans ((zIoj (by decide)).trans rfl))))).trans rfl
        have w119 : (zpt (zsI w111M 160 (4 * w6n) (zI w111M 155 4))).toInt = g w112E := zpt.tr (zTa.fr x0 (zEq.tr (zEq.tr (zEq.tr (zEq.put rfl) (zEq.put rfl)) (zFr.eq w111F rfl)) (zEq.put rfl))) (by omega)
        have w123 := zTa.rg (M := (zsI w111M 160 (4 * w6n) (zI w111M 155 4))) (zTa.fr x0 (zEq.tr (zEq.tr (zEq.tr (zEq.put rfl) (zEq.put rfl)) (zFr.eq w111F rfl)) (zEq.put rfl))) w112E
        show zGo X l 1 0 0 47 4 [(0, .ref 155), (1, .int (59 : Int32))] [.int (zpt (zsI w111M 160 (4 * w6n) (zI w111M 155 4)))] (zsI w111M 160 (4 * w6n) (zI w111M 155 4)) _
        refine zs_iload_n (pc := 4) t47_4 rfl ?_
        by_cases w124 : (g w112E) = 59
        · refine zs_icmp_eqT (pc := 5) t47_5 w119 li59 (by omega) ?_
          refine zs_aload_n (pc := 17) t47_17 rfl ?_
          refine zs_dup (pc := 18) t47_18 rfl ?_
          refine zs_get (pc := 19) t47_19 (by decide) (zk1 (w111s.k fk_zMc_155)) (zfvi rfl ((zIo (by decide)).trans rfl)) ?_
          refine zs_iconst (pc := 22) t47_22 (v := 1) (by decide) ?_
          obtain ⟨w125v, w125e, w125⟩ := ziadd (a := (zI w111M 155 2)) (b := (1 : Int32)) rfl li1 (by omega) (by omega)
          refine zs_iadd (pc := 23) t47_23 (c := w125v) w125e ?_
          have w126 : zIv cLo cHi (zsI (zsI w111M 160 (4 * w6n) (zI w111M 155 4)) 155 2 w125v) := zIv.put w118 (show (-2147483648) ≤ w125v.toInt ∧ w125v.toInt ≤ 2147483647 from zrg w125v)
          refine zs_putI (pc := 24) t47_24 (zk1 (w111s.k fk_zMc_155)) rfl ?_
          refine zs_iconst (pc := 27) t47_27 (v := 1) (by decide) ?_
          refine zs_iret (pc := 28) t47_28 mr47 (by decide) ?_
          show zGo X l 3 0 0 84 91 [(6, .int (0 : Int32)), (5, .int (1 : Int32)), (4, .int (zpt M)), (3, .int (zI M 155 2)), (0, .ref 157), (1, .ref 155), (2, .int a)] [.int (1 : Int32)] (zsI (zsI w111M 160 (4 * w6n) (zI w111M 155 4)) 155 2 w125v) _
          refine zs_if_neT (pc := 91) t84_91 li1 (by decide) ?_
          refine zs_iinc (pc := 96) t84_96 (ls' := [(6, .int (1 : Int32)), (5, .int (1 : Int32)), (4, .int (zpt M)), (3, .int (zI M 155 2)), (0, .ref 157), (1, .ref 155), (2, .int a)]) (zml mf84 (by decide)) rfl (c := 1) (by decide) rfl ?_
          refine zs_goto (pc := 99) t84_99 ?_
          refine zs_iload (pc := 40) t84_40 rfl ?_
          refine zs_iload (pc := 42) t84_42 rfl ?_
          refine zs_icmp_geT (pc := 44) t84_44 li1 li1 (by decide) ?_
          refine zs_iconst (pc := 102) t84_102 (v := 1) (by decide) ?_
          have w127 : (zI (zsI (zsI w111M 160 (4 * w6n) (zI w111M 155 4)) 155 2 w125v) 155 2).toInt = ((zI w111M 155 2).toInt + 1) := (congrArg Int32.toInt zIs).trans w125
          exact zs_iret (pc := 103) t84_103 mr84 (by decide) (hQ _ _ w111s w126 ((((((zFr.refl).put rfl).put rfl).trans (w111F.mono rfl)).put rfl).put rfl) ⟨(fun p hp => by obtain rfl : w5n = p := (by omega); exact Or.inr ⟨by decide, w112E + 1, _, ((pAc.o (L := 110) (by omega) (by decide)).trans (pB.y (pRd.y w112e (by omega) (by omega) (by omega)))), by omega, by omega, by omega, fun i hi => ⟨(by rw [show i = w6n by omega]; have z : (zI (zsI (zsI w111M 160 (4 * w6n) (zI w111M 155 4)) 155 2 w125v) 159 w6n).toInt = (g w5n) := ((congrArg Int32.toInt ((zIo (by decide)).trans ((zIo (by decide)).trans ((w111F 159 w6n rfl).trans zIs)))).trans w7); show (zI (zsI (zsI w111M 160 (4 * w6n) (zI w111M 155 4)) 155 2 w125v) 159 w6n).toInt = 110; omega), (by rw [show 4 * i = (4 * w6n) by omega]; have z : (zI (zsI (zsI w111M 160 (4 * w6n) (zI w111M 155 4)) 155 2 w125v) 160 (4 * w6n)).toInt = (zI w111M 155 4).toInt := ((congrArg Int32.toInt ((zIo (by decide)).trans zIs)).trans rfl); show (zI (zsI (zsI w111M 160 (4 * w6n) (zI w111M 155 4)) 155 2 w125v) 160 (4 * w6n)).toInt = (zI w111M 155 4).toInt; omega), (fun z => absurd (show (110 : Int) = 104 from z) (by decide))⟩⟩), (fun j hj => ((zIo (by decide)).trans ((zIo (by decide)).trans ((w111F 159 j rfl).trans ((zIoj (by omega)).trans (zIo (by decide))))))), (fun j hj => ((zIo (by decide)).trans ((zIoj (by omega)).trans ((w111F 160 j rfl).trans ((zIo (by decide)).trans (zIo (by decide)))))))⟩ (by decide) (by decide))
        · refine zs_icmp_eqF (pc := 5) t47_5 w119 li59 (by omega) ?_
          refine zs_aload_n (pc := 8) t47_8 rfl ?_
          refine zs_aload_n (pc := 9) t47_9 rfl ?_
          refine zs_get (pc := 10) t47_10 (by decide) (zk1 (w111s.k fk_zMc_155)) (zfvi rfl ((zIo (by decide)).trans rfl)) ?_
          refine zs_invV (pc := 13) (k := 155) (as' := [.int (zI w111M 155 2)]) (st := []) t47_13 mf34 rfl rfl (Or.inl ⟨by decide, (zk1 (w111s.k fk_zMc_155))⟩) ⟨by decide, by decide, Nat.le_of_ble_eq_true rfl, Nat.le_of_ble_eq_true rfl⟩ (zs_in (by decide) mf34 (Nat.le_of_ble_eq_true rfl) ?_) (fun _ _ q => q)
          show zGo X l 0 0 0 34 0 [(0, .ref 155), (1, .int (zI w111M 155 2))] [] (zsI w111M 160 (4 * w6n) (zI w111M 155 4)) _
          refine zs_aload_n (pc := 0) t34_0 rfl ?_
          refine zs_iload_n (pc := 1) t34_1 rfl ?_
          have w128 : zIv cLo cHi (zsI (zsI w111M 160 (4 * w6n) (zI w111M 155 4)) 155 3 (zI w111M 155 2)) := zIv.put w118 (show (-2147483648) ≤ (zI w111M 155 2).toInt ∧ (zI w111M 155 2).toInt ≤ 2147483647 from zrg (zI w111M 155 2))
          refine zs_putI (pc := 2) t34_2 (zk1 (w111s.k fk_zMc_155)) rfl ?_
          refine zs_iconst (pc := 5) t34_5 (v := 0) (by decide) ?_
          refine zs_iret (pc := 6) t34_6 mr34 (by decide) ?_
          show zGo X l 1 0 0 47 16 [(0, .ref 155), (1, .int (59 : Int32))] [.int (0 : Int32)] (zsI (zsI w111M 160 (4 * w6n) (zI w111M 155 4)) 155 3 (zI w111M 155 2)) _
          refine zs_iret (pc := 16) t47_16 mr47 (by decide) ?_
          show zGo X l 3 0 0 84 91 [(6, .int (0 : Int32)), (5, .int (1 : Int32)), (4, .int (zpt M)), (3, .int (zI M 155 2)), (0, .ref 157), (1, .ref 155), (2, .int a)] [.int (0 : Int32)] (zsI (zsI w111M 160 (4 * w6n) (zI w111M 155 4)) 155 3 (zI w111M 155 2)) _
          refine zs_if_neF (pc := 91) t84_91 li0 (by decide) ?_
          refine zs_iconst (pc := 94) t84_94 (v := 0) (by decide) ?_
          have w129 : (zI (zsI (zsI w111M 160 (4 * w6n) (zI w111M 155 4)) 155 3 (zI w111M 155 2)) 155 2).toInt = (zI w111M 155 2).toInt := (congrArg Int32.toInt ((zIoj (by decide)).trans ((zIo (by decide)).trans rfl))).trans rfl
          exact zs_iret (pc := 95) t84_95 mr84 (by decide) (hQ _ _ w111s w128 ((((((zFr.refl).put rfl).put rfl).trans (w111F.mono rfl)).put rfl).put rfl) ⟨(fun p hp => by obtain rfl : w5n = p := (by omega); exact Or.inl ⟨by decide, (pAc.o (L := 110) (by omega) (by decide)).trans (pB.f (pRd.n w112e (by omega)))⟩), (fun j hj => ((zIo (by decide)).trans ((zIo (by decide)).trans ((w111F 159 j rfl).trans ((zIoj (by omega)).trans (zIo (by decide))))))), (fun j hj => ((zIo (by decide)).trans ((zIoj (by omega)).trans ((w111F 160 j rfl).trans ((zIo (by decide)).trans (zIo (by decide)))))))⟩ (by decide) (by decide))
    by_cases w130 : (g w5n) = 120
    · refine zs_lsw (pc := 1) t85_1 (off := 45) ((w7 : (zpt M).toInt = (g w5n)).trans w130) rfl (pc2 := 46) rfl ?_
      refine zs_iconst (pc := 46) t85_46 (v := 1) (by decide) ?_
      refine zs_iret (pc := 47) t85_47 mr85 (by decide) ?_
      show zGo X l 3 0 0 84 16 [(4, .int (zpt M)), (3, .int (zI M 155 2)), (0, .ref 157), (1, .ref 155), (2, .int a)] [.int (1 : Int32)] (zsI M 155 2 w14v) _
      refine zs_istore (pc := 16) t84_16 (ls' := [(5, .int (1 : Int32)), (4, .int (zpt M)), (3, .int (zI M 155 2)), (0, .ref 157), (1, .ref 155), (2, .int a)]) (zml mf84 (by decide)) rfl ?_
      refine zs_iload (pc := 18) t84_18 rfl ?_
      refine zs_if_neT (pc := 20) t84_20 li1 (by decide) ?_
      refine zs_aload_n (pc := 29) t84_29 rfl ?_
      refine zs_get (pc := 30) t84_30 (by decide) (zk1 (hs.k fk_zMc_157)) (hs.p rfl fv_zMc_157_1) ?_
      refine zs_iload_n (pc := 33) t84_33 rfl ?_
      refine zs_iload (pc := 34) t84_34 rfl ?_
      have w131 : zIv cLo cHi (zsI (zsI M 155 2 w14v) 159 w6n (zpt M)) := zIv.put w15 (show (-2147483648) ≤ (zpt M).toInt ∧ (zpt M).toInt ≤ 2147483647 from zrg (zpt M))
      refine zs_iast (pc := 36) t84_36 (j := w6n) (by decide) (zk1 (hs.k fk_zMc_159)) (show a.toInt = ((w6n : Nat) : Int) by omega) (zk2 (hs.k fk_zMc_159) (by omega)) ?_
      refine zs_iconst (pc := 37) t84_37 (v := 0) (by decide) ?_
      refine zs_istore (pc := 38) t84_38 (ls' := [(6, .int (0 : Int32)), (5, .int (1 : Int32)), (4, .int (zpt M)), (3, .int (zI M 155 2)), (0, .ref 157), (1, .ref 155), (2, .int a)]) (zml mf84 (by decide)) rfl ?_
      refine zs_iload (pc := 40) t84_40 rfl ?_
      refine zs_iload (pc := 42) t84_42 rfl ?_
      refine zs_icmp_geF (pc := 44) t84_44 li0 li1 (by decide) ?_
      refine zs_aload_n (pc := 47) t84_47 rfl ?_
      have w132 : (zI (zsI (zsI M 155 2 w14v) 159 w6n (zpt M)) 155 2).toInt = ((zI M 155 2).toInt + 1) := (congrArg Int32.toInt ((zIo (by decide)).trans zIs)).trans w14
      have w133 : (zI (zsI (zsI M 155 2 w14v) 159 w6n (zpt M)) 155 2).toInt = ((zI M 155 2).toInt + 1) := (congrArg Int32.toInt ((zIo (by decide)).trans zIs)).trans w14
      have w134 : (zI (zsI (zsI M 155 2 w14v) 159 w6n (zpt M)) 155 1).toInt = (zI M 155 1).toInt := (congrArg Int32.toInt ((zIo (by decide)).trans ((zIoj (by decide)).trans rfl))).trans rfl
      refine zs_invV (pc := 48) (k := 155) (as' := []) (st := []) t84_48 mf35 rfl rfl (Or.inl ⟨by decide, (zk1 (hs.k fk_zMc_155))⟩) ⟨by decide, by decide, Nat.le_of_ble_eq_true rfl, Nat.le_of_ble_eq_true rfl⟩ (X35_155 hs w131 (by omega) (by omega) (zTa.fr x0 (zEq.tr (zEq.put rfl) (zEq.put rfl))) ?_) (fun _ _ q => q)
      intro w135M w135v w135s w135I w135F w135x0 w135a w135b
      show zGo X l 3 0 0 84 51 [(6, .int (0 : Int32)), (5, .int (1 : Int32)), (4, .int (zpt M)), (3, .int (zI M 155 2)), (0, .ref 157), (1, .ref 155), (2, .int a)] [.int w135v] w135M _
      rcases w135x0 (w5n + 1) (by omega) with ⟨w136v, w136e⟩ | ⟨w136v, w136E, w136x, w136e, w136_3, w136_4, w136_5, w136_6, w136_7, w136_8⟩
      · skip
        refine zs_if_neF (pc := 51) t84_51 rfl (by omega) ?_
        refine zs_iconst (pc := 54) t84_54 (v := 0) (by decide) ?_
        have w137 := zrg (zI w135M 155 2)
        have w138 : (zI w135M 155 2).toInt = (zI w135M 155 2).toInt := (congrArg Int32.toInt rfl).trans rfl
        exact zs_iret (pc := 55) t84_55 mr84 (by decide) (hQ _ _ w135s w135I ((((zFr.refl).put rfl).put rfl).trans (w135F.mono rfl)) ⟨(fun p hp => by obtain rfl : w5n = p := (by omega); exact Or.inl ⟨by decide, (pAc.o (L := 120) (by omega) (by decide)).trans (pB.f (pRd.f w136e))⟩), (fun j hj => ((w135F 159 j rfl).trans ((zIoj (by omega)).trans (zIo (by decide))))), (fun j hj => ((w135F 160 j rfl).trans ((zIo (by decide)).trans (zIo (by decide)))))⟩ (by decide) (by decide))
      · skip
        subst w136_4
        refine zs_if_neT (pc := 51) t84_51 rfl (by omega) ?_
        refine zs_aload_n (pc := 56) t84_56 rfl ?_
        refine zs_get (pc := 57) t84_57 (by decide) (zk1 (w135s.k fk_zMc_157)) (w135s.p rfl fv_zMc_157_2) ?_
        refine zs_iload_n (pc := 60) t84_60 rfl ?_
        refine zs_iconst (pc := 61) t84_61 (v := 4) (by decide) ?_
        obtain ⟨w139v, w139⟩ : ∃ v, a * (4 : Int32) = v := ⟨_, rfl⟩
        have w139g : w139v.toInt = a.toInt * 4 := by rw [← w139]; exact zmulc rfl li4 (by omega) (by omega)
        refine zs_imul (pc := 62) t84_62 (c := w139v) w139 ?_
        refine zs_iload (pc := 63) t84_63 rfl ?_
        obtain ⟨w140v, w140e, w140⟩ := ziadd (a := w139v) (b := (0 : Int32)) w139g li0 (by omega) (by omega)
        refine zs_iadd (pc := 65) t84_65 (c := w140v) w140e ?_
        refine zs_aload_n (pc := 66) t84_66 rfl ?_
        refine zs_invV (pc := 67) (k := 155) (as' := []) (st := [.int w140v, .ref 160]) t84_67 mf37 rfl rfl (Or.inl ⟨by decide, (zk1 (w135s.k fk_zMc_155))⟩) ⟨by decide, by decide, Nat.le_of_ble_eq_true rfl, Nat.le_of_ble_eq_true rfl⟩ (zs_in (by decide) mf37 (Nat.le_of_ble_eq_true rfl) ?_) (fun _ _ q => q)
        show zGo X l 0 0 0 37 0 [(0, .ref 155)] [] w135M _
        refine zs_aload_n (pc := 0) t37_0 rfl ?_
        have w141 := ib155_4 w135I
        refine zs_get (pc := 1) t37_1 (by decide) (zk1 (w135s.k fk_zMc_155)) (zfvi rfl rfl) ?_
        refine zs_iret (pc := 4) t37_4 mr37 rfl ?_
        show zGo X l 3 0 0 84 70 [(6, .int (0 : Int32)), (5, .int (1 : Int32)), (4, .int (zpt M)), (3, .int (zI M 155 2)), (0, .ref 157), (1, .ref 155), (2, .int a)] [.int (zI w135M 155 4), .int w140v, .ref 160] w135M _
        have w142 : zIv cLo cHi (zsI w135M 160 (4 * w6n) (zI w135M 155 4)) := zIv.put w135I (show (-2147483648) ≤ (zI w135M 155 4).toInt ∧ (zI w135M 155 4).toInt ≤ 2147483647 from zrg (zI w135M 155 4))
        refine zs_iast (pc := 70) t84_70 (j := (4 * w6n)) (by decide) (zk1 (w135s.k fk_zMc_160)) (show w140v.toInt = (((4 * w6n) : Nat) : Int) by omega) (zk2 (w135s.k fk_zMc_160) (by omega)) ?_
        refine zs_aload_n (pc := 71) t84_71 rfl ?_
        refine zs_iload (pc := 72) t84_72 rfl ?_
        refine zs_iconst (pc := 74) t84_74 (v := 1) (by decide) ?_
        refine zs_iadd (pc := 75) t84_75 (c := 1) (by decide) ?_
        refine zs_iload (pc := 76) t84_76 rfl ?_
        refine zs_icmp_geT (pc := 78) t84_78 li1 li1 (by decide) ?_
        refine zs_bipush (pc := 86) t84_86 (v := 59) (by decide) ?_
        refine zs_invV (pc := 88) (k := 155) (as' := [.int (59 : Int32)]) (st := []) t84_88 mf47 rfl rfl (Or.inl ⟨by decide, (zk1 (w135s.k fk_zMc_155))⟩) ⟨by decide, by decide, Nat.le_of_ble_eq_true rfl, Nat.le_of_ble_eq_true rfl⟩ (zs_in (by decide) mf47 (Nat.le_of_ble_eq_true rfl) ?_) (fun _ _ q => q)
        show zGo X l 1 0 0 47 0 [(0, .ref 155), (1, .int (59 : Int32))] [] (zsI w135M 160 (4 * w6n) (zI w135M 155 4)) _
        refine zs_aload_n (pc := 0) t47_0 rfl ?_
        refine zs_invV (pc := 1) (k := 155) (as' := []) (st := []) t47_1 mf31 rfl rfl (Or.inl ⟨by decide, (zk1 (w135s.k fk_zMc_155))⟩) ⟨by decide, by decide, Nat.le_of_ble_eq_true rfl, Nat.le_of_ble_eq_true rfl⟩ (P31 w135s w142 ?_) (fun _ _ q => q)
        have w144 := zrg (zI w135M 155 2)
        have w145 : (zI (zsI w135M 160 (4 * w6n) (zI w135M 155 4)) 155 2).toInt = (zI w135M 155 2).toInt := (congrArg Int32.toInt ((zIo (by decide)).trans rfl)).trans rfl
        have w146 : (zI (zsI w135M 160 (4 * w6n) (zI w135M 155 4)) 155 1).toInt = (zI M 155 1).toInt := (congrArg Int32.toInt ((zIo (by decide)).trans ((w135F 155 1 rfl).trans ((zIo (by decide)).trans ((zIoj (by decide)).trans rfl))))).trans rfl
        have w143 : (zpt (zsI w135M 160 (4 * w6n) (zI w135M 155 4))).toInt = g w136E := zpt.tr (zTa.fr x0 (zEq.tr (zEq.tr (zEq.tr (zEq.put rfl) (zEq.put rfl)) (zFr.eq w135F rfl)) (zEq.put rfl))) (by omega)
        have w147 := zTa.rg (M := (zsI w135M 160 (4 * w6n) (zI w135M 155 4))) (zTa.fr x0 (zEq.tr (zEq.tr (zEq.tr (zEq.put rfl) (zEq.put rfl)) (zFr.eq w135F rfl)) (zEq.put rfl))) w136E
        show zGo X l 1 0 0 47 4 [(0, .ref 155), (1, .int (59 : Int32))] [.int (zpt (zsI w135M 160 (4 * w6n) (zI w135M 155 4)))] (zsI w135M 160 (4 * w6n) (zI w135M 155 4)) _
        refine zs_iload_n (pc := 4) t47_4 rfl ?_
        by_cases w148 : (g w136E) = 59
        · refine zs_icmp_eqT (pc := 5) t47_5 w143 li59 (by omega) ?_
          refine zs_aload_n (pc := 17) t47_17 rfl ?_
          refine zs_dup (pc := 18) t47_18 rfl ?_
          refine zs_get (pc := 19) t47_19 (by decide) (zk1 (w135s.k fk_zMc_155)) (zfvi rfl ((zIo (by decide)).trans rfl)) ?_
          refine zs_iconst (pc := 22) t47_22 (v := 1) (by decide) ?_
          obtain ⟨w149v, w149e, w149⟩ := ziadd (a := (zI w135M 155 2)) (b := (1 : Int32)) rfl li1 (by omega) (by omega)
          refine zs_iadd (pc := 23) t47_23 (c := w149v) w149e ?_
          have w150 : zIv cLo cHi (zsI (zsI w135M 160 (4 * w6n) (zI w135M 155 4)) 155 2 w149v) := zIv.put w142 (show (-2147483648) ≤ w149v.toInt ∧ w149v.toInt ≤ 2147483647 from zrg w149v)
          refine zs_putI (pc := 24) t47_24 (zk1 (w135s.k fk_zMc_155)) rfl ?_
          refine zs_iconst (pc := 27) t47_27 (v := 1) (by decide) ?_
          refine zs_iret (pc := 28) t47_28 mr47 (by decide) ?_
          show zGo X l 3 0 0 84 91 [(6, .int (0 : Int32)), (5, .int (1 : Int32)), (4, .int (zpt M)), (3, .int (zI M 155 2)), (0, .ref 157), (1, .ref 155), (2, .int a)] [.int (1 : Int32)] (zsI (zsI w135M 160 (4 * w6n) (zI w135M 155 4)) 155 2 w149v) _
          refine zs_if_neT (pc := 91) t84_91 li1 (by decide) ?_
          refine zs_iinc (pc := 96) t84_96 (ls' := [(6, .int (1 : Int32)), (5, .int (1 : Int32)), (4, .int (zpt M)), (3, .int (zI M 155 2)), (0, .ref 157), (1, .ref 155), (2, .int a)]) (zml mf84 (by decide)) rfl (c := 1) (by decide) rfl ?_
          refine zs_goto (pc := 99) t84_99 ?_
          refine zs_iload (pc := 40) t84_40 rfl ?_
          refine zs_iload (pc := 42) t84_42 rfl ?_
          refine zs_icmp_geT (pc := 44) t84_44 li1 li1 (by decide) ?_
          refine zs_iconst (pc := 102) t84_102 (v := 1) (by decide) ?_
          have w151 : (zI (zsI (zsI w135M 160 (4 * w6n) (zI w135M 155 4)) 155 2 w149v) 155 2).toInt = ((zI w135M 155 2).toInt + 1) := (congrArg Int32.toInt zIs).trans w149
          exact zs_iret (pc := 103) t84_103 mr84 (by decide) (hQ _ _ w135s w150 ((((((zFr.refl).put rfl).put rfl).trans (w135F.mono rfl)).put rfl).put rfl) ⟨(fun p hp => by obtain rfl : w5n = p := (by omega); exact Or.inr ⟨by decide, w136E + 1, _, ((pAc.o (L := 120) (by omega) (by decide)).trans (pB.y (pRd.y w136e (by omega) (by omega) (by omega)))), by omega, by omega, by omega, fun i hi => ⟨(by rw [show i = w6n by omega]; have z : (zI (zsI (zsI w135M 160 (4 * w6n) (zI w135M 155 4)) 155 2 w149v) 159 w6n).toInt = (g w5n) := ((congrArg Int32.toInt ((zIo (by decide)).trans ((zIo (by decide)).trans ((w135F 159 w6n rfl).trans zIs)))).trans w7); show (zI (zsI (zsI w135M 160 (4 * w6n) (zI w135M 155 4)) 155 2 w149v) 159 w6n).toInt = 120; omega), (by rw [show 4 * i = (4 * w6n) by omega]; have z : (zI (zsI (zsI w135M 160 (4 * w6n) (zI w135M 155 4)) 155 2 w149v) 160 (4 * w6n)).toInt = (zI w135M 155 4).toInt := ((congrArg Int32.toInt ((zIo (by decide)).trans zIs)).trans rfl); show (zI (zsI (zsI w135M 160 (4 * w6n) (zI w135M 155 4)) 155 2 w149v) 160 (4 * w6n)).toInt = (zI w135M 155 4).toInt; omega), (fun z => absurd (show (120 : Int) = 104 from z) (by decide))⟩⟩), (fun j hj => ((zIo (by decide)).trans ((zIo (by decide)).trans ((w135F 159 j rfl).trans ((zIoj (by omega)).trans (zIo (by decide))))))), (fun j hj => ((zIo (by decide)).trans ((zIoj (by omega)).trans ((w135F 160 j rfl).trans ((zIo (by decide)).trans (zIo (by decide)))))))⟩ (by decide) (by decide))
        · refine zs_icmp_eqF (pc := 5) t47_5 w143 li59 (by omega) ?_
          refine zs_aload_n (pc := 8) t47_8 rfl ?_
          refine zs_aload_n (pc := 9) t47_9 rfl ?_
          refine zs_get (pc := 10) t47_10 (by decide) (zk1 (w135s.k fk_zMc_155)) (zfvi rfl ((zIo (by decide)).trans rfl)) ?_
          refine zs_invV (pc := 13) (k := 155) (as' := [.int (zI w135M 155 2)]) (st := []) t47_13 mf34 rfl rfl (Or.inl ⟨by decide, (zk1 (w135s.k fk_zMc_155))⟩) ⟨by decide, by decide, Nat.le_of_ble_eq_true rfl, Nat.le_of_ble_eq_true rfl⟩ (zs_in (by decide) mf34 (Nat.le_of_ble_eq_true rfl) ?_) (fun _ _ q => q)
          show zGo X l 0 0 0 34 0 [(0, .ref 155), (1, .int (zI w135M 155 2))] [] (zsI w135M 160 (4 * w6n) (zI w135M 155 4)) _
          refine zs_aload_n (pc := 0) t34_0 rfl ?_
          refine zs_iload_n (pc := 1) t34_1 rfl ?_
          have w152 : zIv cLo cHi (zsI (zsI w135M 160 (4 * w6n) (zI w135M 155 4)) 155 3 (zI w135M 155 2)) := zIv.put w142 (show (-2147483648) ≤ (zI w135M 155 2).toInt ∧ (zI w135M 155 2).toInt ≤ 2147483647 from zrg (zI w135M 155 2))
          refine zs_putI (pc := 2) t34_2 (zk1 (w135s.k fk_zMc_155)) rfl ?_
          refine zs_iconst (pc := 5) t34_5 (v := 0) (by decide) ?_
          refine zs_iret (pc := 6) t34_6 mr34 (by decide) ?_
          show zGo X l 1 0 0 47 16 [(0, .ref 155), (1, .int (59 : Int32))] [.int (0 : Int32)] (zsI (zsI w135M 160 (4 * w6n) (zI w135M 155 4)) 155 3 (zI w135M 155 2)) _
          refine zs_iret (pc := 16) t47_16 mr47 (by decide) ?_
          show zGo X l 3 0 0 84 91 [(6, .int (0 : Int32)), (5, .int (1 : Int32)), (4, .int (zpt M)), (3, .int (zI M 155 2)), (0, .ref 157), (1, .ref 155), (2, .int a)] [.int (0 : Int32)] (zsI (zsI w135M 160 (4 * w6n) (zI w135M 155 4)) 155 3 (zI w135M 155 2)) _
          refine zs_if_neF (pc := 91) t84_91 li0 (by decide) ?_
          refine zs_iconst (pc := 94) t84_94 (v := 0) (by decide) ?_
          have w153 : (zI (zsI (zsI w135M 160 (4 * w6n) (zI w135M 155 4)) 155 3 (zI w135M 155 2)) 155 2).toInt = (zI w135M 155 2).toInt := (congrArg Int32.toInt ((zIoj (by decide)).trans ((zIo (by decide)).trans rfl))).trans rfl
          exact zs_iret (pc := 95) t84_95 mr84 (by decide) (hQ _ _ w135s w152 ((((((zFr.refl).put rfl).put rfl).trans (w135F.mono rfl)).put rfl).put rfl) ⟨(fun p hp => by obtain rfl : w5n = p := (by omega); exact Or.inl ⟨by decide, (pAc.o (L := 120) (by omega) (by decide)).trans (pB.f (pRd.n w136e (by omega)))⟩), (fun j hj => ((zIo (by decide)).trans ((zIo (by decide)).trans ((w135F 159 j rfl).trans ((zIoj (by omega)).trans (zIo (by decide))))))), (fun j hj => ((zIo (by decide)).trans ((zIoj (by omega)).trans ((w135F 160 j rfl).trans ((zIo (by decide)).trans (zIo (by decide)))))))⟩ (by decide) (by decide))
    refine zs_lsw (pc := 1) t85_1 (off := 47) w7 (by unfold zlsel; repeat (first | rfl | (rw [if_neg (by omega)]; unfold zlsel))) (pc2 := 48) rfl ?_
    refine zs_iconst (pc := 48) t85_48 (v := 0) (by decide) ?_
    refine zs_iret (pc := 49) t85_49 mr85 (by decide) ?_
    show zGo X l 3 0 0 84 16 [(4, .int (zpt M)), (3, .int (zI M 155 2)), (0, .ref 157), (1, .ref 155), (2, .int a)] [.int (0 : Int32)] (zsI M 155 2 w14v) _
    refine zs_istore (pc := 16) t84_16 (ls' := [(5, .int (0 : Int32)), (4, .int (zpt M)), (3, .int (zI M 155 2)), (0, .ref 157), (1, .ref 155), (2, .int a)]) (zml mf84 (by decide)) rfl ?_
    refine zs_iload (pc := 18) t84_18 rfl ?_
    refine zs_if_neF (pc := 20) t84_20 li0 (by decide) ?_
    refine zs_aload_n (pc := 23) t84_23 rfl ?_
    refine zs_iload_n (pc := 24) t84_24 rfl ?_
    refine zs_invV (pc := 25) (k := 155) (as' := [.int (zI M 155 2)]) (st := []) t84_25 mf34 rfl rfl (Or.inl ⟨by decide, (zk1 (hs.k fk_zMc_155))⟩) ⟨by decide, by decide, Nat.le_of_ble_eq_true rfl, Nat.le_of_ble_eq_true rfl⟩ (zs_in (by decide) mf34 (Nat.le_of_ble_eq_true rfl) ?_) (fun _ _ q => q)
    show zGo X l 0 0 0 34 0 [(0, .ref 155), (1, .int (zI M 155 2))] [] (zsI M 155 2 w14v) _
    refine zs_aload_n (pc := 0) t34_0 rfl ?_
    refine zs_iload_n (pc := 1) t34_1 rfl ?_
    have w154 : zIv cLo cHi (zsI (zsI M 155 2 w14v) 155 3 (zI M 155 2)) := zIv.put w15 (show (-2147483648) ≤ (zI M 155 2).toInt ∧ (zI M 155 2).toInt ≤ 2147483647 from zrg (zI M 155 2))
    refine zs_putI (pc := 2) t34_2 (zk1 (hs.k fk_zMc_155)) rfl ?_
    refine zs_iconst (pc := 5) t34_5 (v := 0) (by decide) ?_
    refine zs_iret (pc := 6) t34_6 mr34 (by decide) ?_
    show zGo X l 3 0 0 84 28 [(5, .int (0 : Int32)), (4, .int (zpt M)), (3, .int (zI M 155 2)), (0, .ref 157), (1, .ref 155), (2, .int a)] [.int (0 : Int32)] (zsI (zsI M 155 2 w14v) 155 3 (zI M 155 2)) _
    have w155 : (zI (zsI (zsI M 155 2 w14v) 155 3 (zI M 155 2)) 155 2).toInt = ((zI M 155 2).toInt + 1) := (congrArg Int32.toInt ((zIoj (by decide)).trans zIs)).trans w14
    exact zs_iret (pc := 28) t84_28 mr84 (by decide) (hQ _ _ hs w154 (((zFr.refl).put rfl).put rfl) ⟨(fun p hp => by obtain rfl : w5n = p := (by omega); exact Or.inl ⟨by decide, pAc.no (by omega)⟩), (fun j hj => ((zIo (by decide)).trans (zIo (by decide)))), (fun j hj => ((zIo (by decide)).trans (zIo (by decide))))⟩ (by decide) (by decide))
