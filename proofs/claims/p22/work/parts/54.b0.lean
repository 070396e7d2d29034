theorem P68 {X : zX} {l : Launch} {M : zM} {Q : Option Value → zM → Prop} (hs : zSk zMc M) (hI : zIv cLo cHi M) (hQ : Q (some (.int (zpk M))) M) : zCall X l 0 0 0 68 [.ref 161] M Q := by
  refine zs_in (by decide) mf68 (Nat.le_of_ble_eq_true rfl) ?_
  show zGo X l 0 0 0 68 0 [(0, .ref 161)] [] M _
  refine zs_aload_n (pc := 0) t68_0 rfl ?_
  have w1 := zrg (zI M 161 5)
  refine zs_get (pc := 1) t68_1 (by decide) (zk1 (hs.k fk_zMc_161)) (zfvi rfl rfl) ?_
  refine zs_iconst (pc := 4) t68_4 (v := -1) (by decide) ?_
  by_cases w2 : (zI M 161 5).toInt ≠ (-1)
  · refine zs_icmp_neT (pc := 5) t68_5 rfl lin1 (by omega) ?_
    refine zs_iconst (pc := 35) t68_35 (v := -1) (by decide) ?_
    exact zs_iret (pc := 36) t68_36 mr68 (by decide) (by unfold zpk at hQ; rw [if_neg (by omega)] at hQ; exact hQ)
  · refine zs_icmp_neF (pc := 5) t68_5 rfl lin1 (by omega) ?_
    refine zs_aload_n (pc := 8) t68_8 rfl ?_
    have w3 := ib161_3 hI
    refine zs_get (pc := 9) t68_9 (by decide) (zk1 (hs.k fk_zMc_161)) (zfvi rfl rfl) ?_
    refine zs_aload_n (pc := 12) t68_12 rfl ?_
    have w4 := ib161_2 hI
    refine zs_get (pc := 13) t68_13 (by decide) (zk1 (hs.k fk_zMc_161)) (zfvi rfl rfl) ?_
    by_cases w5 : (zI M 161 2).toInt ≤ (zI M 161 3).toInt
    · refine zs_icmp_geT (pc := 16) t68_16 rfl rfl (by omega) ?_
      refine zs_iconst (pc := 35) t68_35 (v := -1) (by decide) ?_
      exact zs_iret (pc := 36) t68_36 mr68 (by decide) (by unfold zpk at hQ; rw [if_neg (by omega)] at hQ; exact hQ)
    · refine zs_icmp_geF (pc := 16) t68_16 rfl rfl (by omega) ?_
      refine zs_aload_n (pc := 19) t68_19 rfl ?_
      refine zs_get (pc := 20) t68_20 (by decide) (zk1 (hs.k fk_zMc_161)) (hs.p rfl fv_zMc_161_1) ?_
      refine zs_aload_n (pc := 23) t68_23 rfl ?_
      refine zs_get (pc := 24) t68_24 (by decide) (zk1 (hs.k fk_zMc_161)) (zfvi rfl rfl) ?_
      obtain ⟨w6n, w6⟩ : ∃ n : Nat, (zI M 161 3).toInt = (n : Int) := ⟨((zI M 161 3).toInt).toNat, by omega⟩
      have w7 := ib163 hI w6n
      refine zs_bald (pc := 27) t68_27 (j := w6n) (Or.inl (zk1 (hs.k fk_zMc_163))) (show (zI M 161 3).toInt = ((w6n : Nat) : Int) by omega) (zk2 (hs.k fk_zMc_163) (by omega)) rfl ?_
      refine zs_sipush (pc := 28) t68_28 (v := 255) (by decide) ?_
      obtain ⟨w8v, w8⟩ : ∃ v, (zI M 163 w6n) &&& (255 : Int32) = v := ⟨_, rfl⟩
      have w8g : 0 ≤ w8v.toInt ∧ w8v.toInt ≤ 255 := by rw [← w8]; exact zand li255 (by decide)
      refine zs_iand (pc := 31) t68_31 (c := w8v) w8 ?_
      refine zs_goto (pc := 32) t68_32 ?_
      exact zs_iret (pc := 36) t68_36 mr68 rfl (by unfold zpk at hQ; rw [if_pos (by omega), show (zI M 161 3).toInt.toNat = w6n by omega] at hQ; subst_vars; exact hQ)
theorem X79_161 {X : zX} {l : Launch} {M : zM} {Q : Option Value → zM → Prop} (hs : zSk zMc M) (hI : zIv cLo cHi M) {g : Nat → Int} {n : Int} (u0 : (zI M 161 5).toInt = -1) (u1 : (zI M 161 3).toInt ≤ (zI M 161 2).toInt) (x0 : zTr M g n) (hQ : ∀ (M' : zM) (v : Int32), zSk zMc M' → zIv cLo cHi M' → zFr [(161, 161, some 3), (161, 161, some 5)] M M' → ((zI M' 161 5).toInt ≠ -1 ∨ (zI M' 161 3).toInt ≤ (zI M 161 2).toInt) → (∀ p : Nat, (zI M 161 3).toInt = (p : Int) → ((zI M' 161 5).toInt = -1 ∧ ¬ (48 ≤ g (pDg g 4 p) ∧ g (pDg g 4 p) ≤ 57) ∧ (zI M' 161 3).toInt = (pDg g 4 p : Nat)) ∨ ((zI M' 161 5).toInt = (pDg g 4 p : Nat) ∧ 48 ≤ g (pDg g 4 p) ∧ g (pDg g 4 p) ≤ 57)) → Q (some (.int v)) M') : zCall X l 1 0 0 79 [.ref 161] M Q := by
  refine zs_in (by decide) mf79 (Nat.le_of_ble_eq_true rfl) ?_
  show zGo X l 1 0 0 79 0 [(0, .ref 161)] [] M _
  have hn := x0.2.2
  have w1 := ib161_2 hI
  have w2 : (zI M 161 2).toInt = (zI M 161 2).toInt := (congrArg Int32.toInt rfl).trans rfl
  have w3 := ib161_3 hI
  have w4 : (zI M 161 3).toInt = (zI M 161 3).toInt := (congrArg Int32.toInt rfl).trans rfl
  have w5 := ib161_4 hI
  have w6 : (zI M 161 4).toInt = (zI M 161 4).toInt := (congrArg Int32.toInt rfl).trans rfl
  have w7 := zrg (zI M 161 5)
  have w8 : (zI M 161 5).toInt = (zI M 161 5).toInt := (congrArg Int32.toInt rfl).trans rfl
  obtain ⟨w9n, w9⟩ : ∃ n : Nat, (zI M 161 3).toInt = (n : Int) := ⟨((zI M 161 3).toInt).toNat, by omega⟩
  refine zs_iconst (pc := 0) t79_0 (v := 0) (by decide) ?_
  refine zs_istore_n (pc := 1) t79_1 (ls' := [(1, .int (0 : Int32)), (0, .ref 161)]) (zml mf79 (by decide)) rfl ?_
  refine zs_iconst (pc := 2) t79_2 (v := 0) (by decide) ?_
  refine zs_istore_n (pc := 3) t79_3 (ls' := [(2, .int (0 : Int32)), (1, .int (0 : Int32)), (0, .ref 161)]) (zml mf79 (by decide)) rfl ?_
  refine zs_iload_n (pc := 4) t79_4 rfl ?_
  refine zs_iconst (pc := 5) t79_5 (v := 4) (by decide) ?_
  refine zs_icmp_geF (pc := 6) t79_6 li0 li4 (by decide) ?_
  refine zs_aload_n (pc := 9) t79_9 rfl ?_
  have w10 : (zI M 161 5).toInt = (zI M 161 5).toInt := (congrArg Int32.toInt rfl).trans rfl
  have w11 : (zI M 161 5).toInt = (zI M 161 5).toInt := (congrArg Int32.toInt rfl).trans rfl
  refine zs_invV (pc := 10) (k := 161) (as' := []) (st := []) t79_10 mf68 rfl rfl (Or.inl ⟨by decide, (zk1 (hs.k fk_zMc_161))⟩) ⟨by decide, by decide, Nat.le_of_ble_eq_true rfl, Nat.le_of_ble_eq_true rfl⟩ (P68 hs hI ?_) (fun _ _ q => q)
  have w13 : (zI M 161 3).toInt = (zI M 161 3).toInt := (congrArg Int32.toInt rfl).trans rfl
  have w12 : (zpk M).toInt = g w9n := zpk.tr x0 (by omega) (by omega)
  have w14 := zTr.rg x0 w9n
  show zGo X l 1 0 0 79 13 [(2, .int (0 : Int32)), (1, .int (0 : Int32)), (0, .ref 161)] [.int (zpk M)] M _
  refine zs_invS (pc := 13) (as := [.int (zpk M)]) (st := []) t79_13 (by decide) mf36 rfl rfl ⟨by decide, by decide, Nat.le_of_ble_eq_true rfl, Nat.le_of_ble_eq_true rfl⟩ (zs_in (by decide) mf36 (Nat.le_of_ble_eq_true rfl) ?_) (fun _ _ q => q)
  show zGo X l 0 0 0 36 0 [(0, .int (zpk M))] [] M _
  refine zs_iload_n (pc := 0) t36_0 rfl ?_
  refine zs_bipush (pc := 1) t36_1 (v := 48) (by decide) ?_
  by_cases w15 : (g w9n) < 48
  · refine zs_icmp_ltT (pc := 3) t36_3 w12 li48 (by omega) ?_
    refine zs_iconst (pc := 16) t36_16 (v := 0) (by decide) ?_
    refine zs_iret (pc := 17) t36_17 mr36 (by decide) ?_
    show zGo X l 1 0 0 79 16 [(2, .int (0 : Int32)), (1, .int (0 : Int32)), (0, .ref 161)] [.int (0 : Int32)] M _
    refine zs_if_eqT (pc := 16) t79_16 li0 (by decide) ?_
    refine zs_aload_n (pc := 48) t79_48 rfl ?_
    have w16 : (zI M 161 5).toInt = (zI M 161 5).toInt := (congrArg Int32.toInt rfl).trans rfl
    have w17 : (zI M 161 5).toInt = (zI M 161 5).toInt := (congrArg Int32.toInt rfl).trans rfl
    refine zs_invV (pc := 49) (k := 161) (as' := []) (st := []) t79_49 mf68 rfl rfl (Or.inl ⟨by decide, (zk1 (hs.k fk_zMc_161))⟩) ⟨by decide, by decide, Nat.le_of_ble_eq_true rfl, Nat.le_of_ble_eq_true rfl⟩ (P68 hs hI ?_) (fun _ _ q => q)
    have w19 : (zI M 161 3).toInt = (zI M 161 3).toInt := (congrArg Int32.toInt rfl).trans rfl
    have w18 : (zpk M).toInt = g w9n := zpk.tr x0 (by omega) (by omega)
    have w20 := zTr.rg x0 w9n
    show zGo X l 1 0 0 79 52 [(2, .int (0 : Int32)), (1, .int (0 : Int32)), (0, .ref 161)] [.int (zpk M)] M _
    refine zs_invS (pc := 52) (as := [.int (zpk M)]) (st := []) t79_52 (by decide) mf36 rfl rfl ⟨by decide, by decide, Nat.le_of_ble_eq_true rfl, Nat.le_of_ble_eq_true rfl⟩ (zs_in (by decide) mf36 (Nat.le_of_ble_eq_true rfl) ?_) (fun _ _ q => q)
    show zGo X l 0 0 0 36 0 [(0, .int (zpk M))] [] M _
    refine zs_iload_n (pc := 0) t36_0 rfl ?_
    refine zs_bipush (pc := 1) t36_1 (v := 48) (by decide) ?_
    refine zs_icmp_ltT (pc := 3) t36_3 w18 li48 (by omega) ?_
    refine zs_iconst (pc := 16) t36_16 (v := 0) (by decide) ?_
    refine zs_iret (pc := 17) t36_17 mr36 (by decide) ?_
    show zGo X l 1 0 0 79 55 [(2, .int (0 : Int32)), (1, .int (0 : Int32)), (0, .ref 161)] [.int (0 : Int32)] M _
    refine zs_if_eqT (pc := 55) t79_55 li0 (by decide) ?_
    refine zs_iload_n (pc := 66) t79_66 rfl ?_
    have w21 : (zI M 161 5).toInt = (zI M 161 5).toInt := (congrArg Int32.toInt rfl).trans rfl
    have w22 : (zI M 161 3).toInt = (zI M 161 3).toInt := (congrArg Int32.toInt rfl).trans rfl
    have w23 := li0
    have w24 : (zI M 161 3).toInt = (zI M 161 3).toInt := (congrArg Int32.toInt rfl).trans rfl
    have w25 : (zI M 161 5).toInt = (zI M 161 5).toInt := (congrArg Int32.toInt rfl).trans rfl
    have w26 : pDg g 4 w9n = w9n := pDg.j0 (by omega)
    exact zs_iret (pc := 67) t79_67 mr79 (by decide) (hQ _ _ hs hI (zFr.refl) (by omega) (fun p hp => by obtain rfl : w9n = p := (by omega); rw [w26]; omega))
  · refine zs_icmp_ltF (pc := 3) t36_3 w12 li48 (by omega) ?_
    refine zs_iload_n (pc := 6) t36_6 rfl ?_
    refine zs_bipush (pc := 7) t36_7 (v := 57) (by decide) ?_
    by_cases w27 : 57 < (g w9n)
    · refine zs_icmp_gtT (pc := 9) t36_9 w12 li57 (by omega) ?_
      refine zs_iconst (pc := 16) t36_16 (v := 0) (by decide) ?_
      refine zs_iret (pc := 17) t36_17 mr36 (by decide) ?_
      show zGo X l 1 0 0 79 16 [(2, .int (0 : Int32)), (1, .int (0 : Int32)), (0, .ref 161)] [.int (0 : Int32)] M _
      refine zs_if_eqT (pc := 16) t79_16 li0 (by decide) ?_
      refine zs_aload_n (pc := 48) t79_48 rfl ?_
      have w28 : (zI M 161 5).toInt = (zI M 161 5).toInt := (congrArg Int32.toInt rfl).trans rfl
      have w29 : (zI M 161 5).toInt = (zI M 161 5).toInt := (congrArg Int32.toInt rfl).trans rfl
      refine zs_invV (pc := 49) (k := 161) (as' := []) (st := []) t79_49 mf68 rfl rfl (Or.inl ⟨by decide, (zk1 (hs.k fk_zMc_161))⟩) ⟨by decide, by decide, Nat.le_of_ble_eq_true rfl, Nat.le_of_ble_eq_true rfl⟩ (P68 hs hI ?_) (fun _ _ q => q)
      have w31 : (zI M 161 3).toInt = (zI M 161 3).toInt := (congrArg Int32.toInt rfl).trans rfl
      have w30 : (zpk M).toInt = g w9n := zpk.tr x0 (by omega) (by omega)
      have w32 := zTr.rg x0 w9n
      show zGo X l 1 0 0 79 52 [(2, .int (0 : Int32)), (1, .int (0 : Int32)), (0, .ref 161)] [.int (zpk M)] M _
      refine zs_invS (pc := 52) (as := [.int (zpk M)]) (st := []) t79_52 (by decide) mf36 rfl rfl ⟨by decide, by decide, Nat.le_of_ble_eq_true rfl, Nat.le_of_ble_eq_true rfl⟩ (zs_in (by decide) mf36 (Nat.le_of_ble_eq_true rfl) ?_) (fun _ _ q => q)
      show zGo X l 0 0 0 36 0 [(0, .int (zpk M))] [] M _
      refine zs_iload_n (pc := 0) t36_0 rfl ?_
      refine zs_bipush (pc := 1) t36_1 (v := 48) (by decide) ?_
      refine zs_icmp_ltF (pc := 3) t36_3 w30 li48 (by omega) ?_
      refine zs_iload_n (pc := 6) t36_6 rfl ?_
      refine zs_bipush (pc := 7) t36_7 (v := 57) (by decide) ?_
      refine zs_icmp_gtT (pc := 9) t36_9 w30 li57 (by omega) ?_
      refine zs_iconst (pc := 16) t36_16 (v := 0) (by decide) ?_
      refine zs_iret (pc := 17) t36_17 mr36 (by decide) ?_
      show zGo X l 1 0 0 79 55 [(2, .int (0 : Int32)), (1, .int (0 : Int32)), (0, .ref 161)] [.int (0 : Int32)] M _
      refine zs_if_eqT (pc := 55) t79_55 li0 (by decide) ?_
      refine zs_iload_n (pc := 66) t79_66 rfl ?_
      have w33 : (zI M 161 5).toInt = (zI M 161 5).toInt := (congrArg Int32.toInt rfl).trans rfl
      have w34 : (zI M 161 3).toInt = (zI M 161 3).toInt := (congrArg Int32.toInt rfl).trans rfl
      have w35 := li0
      have w36 : (zI M 161 3).toInt = (zI M 161 3).toInt := (congrArg Int32.toInt rfl).trans rfl
      have w37 : (zI M 161 5).toInt = (zI M 161 5).toInt := (congrArg Int32.toInt rfl).trans rfl
      have w38 : pDg g 4 w9n = w9n := pDg.j0 (by omega)
      exact zs_iret (pc := 67) t79_67 mr79 (by decide) (hQ _ _ hs hI (zFr.refl) (by omega) (fun p hp => by obtain rfl : w9n = p := (by omega); rw [w38]; omega))
    · refine zs_icmp_gtF (pc := 9) t36_9 w12 li57 (by omega) ?_
      refine zs_iconst (pc := 12) t36_12 (v := 1) (by decide) ?_
      refine zs_goto (pc := 13) t36_13 ?_
      refine zs_iret (pc := 17) t36_17 mr36 (by decide) ?_
      show zGo X l 1 0 0 79 16 [(2, .int (0 : Int32)), (1, .int (0 : Int32)), (0, .ref 161)] [.int (1 : Int32)] M _
      refine zs_if_eqF (pc := 16) t79_16 li1 (by decide) ?_
      refine zs_iload_n (pc := 19) t79_19 rfl ?_
      refine zs_bipush (pc := 20) t79_20 (v := 10) (by decide) ?_
      refine zs_imul (pc := 22) t79_22 (c := 0) (by decide) ?_
      refine zs_aload_n (pc := 23) t79_23 rfl ?_
      have w39 : (zI M 161 5).toInt = (zI M 161 5).toInt := (congrArg Int32.toInt rfl).trans rfl
      have w40 : (zI M 161 5).toInt = (zI M 161 5).toInt := (congrArg Int32.toInt rfl).trans rfl
      refine zs_invV (pc := 24) (k := 161) (as' := []) (st := [.int (0 : Int32)]) t79_24 mf68 rfl rfl (Or.inl ⟨by decide, (zk1 (hs.k fk_zMc_161))⟩) ⟨by decide, by decide, Nat.le_of_ble_eq_true rfl, Nat.le_of_ble_eq_true rfl⟩ (P68 hs hI ?_) (fun _ _ q => q)
      have w42 : (zI M 161 3).toInt = (zI M 161 3).toInt := (congrArg Int32.toInt rfl).trans rfl
      have w41 : (zpk M).toInt = g w9n := zpk.tr x0 (by omega) (by omega)
      have w43 := zTr.rg x0 w9n
      show zGo X l 1 0 0 79 27 [(2, .int (0 : Int32)), (1, .int (0 : Int32)), (0, .ref 161)] [.int (zpk M), .int (0 : Int32)] M _
      obtain ⟨w44v, w44e, w44⟩ := ziadd (a := (0 : Int32)) (b := (zpk M)) li0 w41 (by omega) (by omega)
      refine zs_iadd (pc := 27) t79_27 (c := w44v) w44e ?_
      refine zs_bipush (pc := 28) t79_28 (v := 48) (by decide) ?_
      obtain ⟨w45v, w45e, w45⟩ := zisub (a := w44v) (b := (48 : Int32)) w44 li48 (by omega) (by omega)
      refine zs_isub (pc := 30) t79_30 (c := w45v) w45e ?_
      refine zs_istore_n (pc := 31) t79_31 (ls' := [(1, .int w45v), (2, .int (0 : Int32)), (0, .ref 161)]) (zml mf79 (by decide)) rfl ?_
      refine zs_aload_n (pc := 32) t79_32 rfl ?_
      refine zs_dup (pc := 33) t79_33 rfl ?_
      refine zs_get (pc := 34) t79_34 (by decide) (zk1 (hs.k fk_zMc_161)) (zfvi rfl rfl) ?_
      refine zs_iconst (pc := 37) t79_37 (v := 1) (by decide) ?_
      obtain ⟨w46v, w46e, w46⟩ := ziadd (a := (zI M 161 3)) (b := (1 : Int32)) rfl li1 (by omega) (by omega)
      refine zs_iadd (pc := 38) t79_38 (c := w46v) w46e ?_
      have w47 : zIv cLo cHi (zsI M 161 3 w46v) := zIv.put hI (show 0 ≤ w46v.toInt ∧ w46v.toInt ≤ 500 from ⟨by omega, by omega⟩)
      refine zs_putI (pc := 39) t79_39 (zk1 (hs.k fk_zMc_161)) rfl ?_
      refine zs_iinc (pc := 42) t79_42 (ls' := [(2, .int (1 : Int32)), (1, .int w45v), (0, .ref 161)]) (zml mf79 (by decide)) rfl (c := 1) (by decide) rfl ?_
      refine zs_goto (pc := 45) t79_45 ?_
      refine zs_iload_n (pc := 4) t79_4 rfl ?_
      refine zs_iconst (pc := 5) t79_5 (v := 4) (by decide) ?_
      refine zs_icmp_geF (pc := 6) t79_6 li1 li4 (by decide) ?_
      refine zs_aload_n (pc := 9) t79_9 rfl ?_
      have w48 : (zI (zsI M 161 3 w46v) 161 5).toInt = (zI M 161 5).toInt := (congrArg Int32.toInt ((zIoj (by decide)).trans rfl)).trans rfl
      have w49 : (zI (zsI M 161 3 w46v) 161 5).toInt = (zI M 161 5).toInt := (congrArg Int32.toInt ((zIoj (by decide)).trans rfl)).trans rfl
      refine zs_invV (pc := 10) (k := 161) (as' := []) (st := []) t79_10 mf68 rfl rfl (Or.inl ⟨by decide, (zk1 (hs.k fk_zMc_161))⟩) ⟨by decide, by decide, Nat.le_of_ble_eq_true rfl, Nat.le_of_ble_eq_true rfl⟩ (P68 hs w47 ?_) (fun _ _ q => q)
      have w51 : (zI (zsI M 161 3 w46v) 161 3).toInt = ((zI M 161 3).toInt + 1) := (congrArg Int32.toInt zIs).trans w46
      have w50 : (zpk (zsI M 161 3 w46v)).toInt = g (w9n + 1) := zpk.tr (zTr.mk x0 (x0.1.put (by decide)) (fun j => (zIo (by decide))) (zIoj (by decide))) (by omega) (by omega)
      have w52 := zTr.rg x0 (w9n + 1)
      show zGo X l 1 0 0 79 13 [(2, .int (1 : Int32)), (1, .int w45v), (0, .ref 161)] [.int (zpk (zsI M 161 3 w46v))] (zsI M 161 3 w46v) _
      refine zs_invS (pc := 13) (as := [.int (zpk (zsI M 161 3 w46v))]) (st := []) t79_13 (by decide) mf36 rfl rfl ⟨by decide, by decide, Nat.le_of_ble_eq_true rfl, Nat.le_of_ble_eq_true rfl⟩ (zs_in (by decide) mf36 (Nat.le_of_ble_eq_true rfl) ?_) (fun _ _ q => q)
      show zGo X l 0 0 0 36 0 [(0, .int (zpk (zsI M 161 3 w46v)))] [] (zsI M 161 3 w46v) _
      refine zs_iload_n (pc := 0) t36_0 rfl ?_
      refine zs_bipush (pc := 1) t36_1 (v := 48) (by decide) ?_
      by_cases w53 : (g (w9n + 1)) < 48
      · refine zs_icmp_ltT (pc := 3) t36_3 w50 li48 (by omega) ?_
        refine zs_iconst (pc := 16) t36_16 (v := 0) (by decide) ?_
        refine zs_iret (pc := 17) t36_17 mr36 (by decide) ?_
        show zGo X l 1 0 0 79 16 [(2, .int (1 : Int32)), (1, .int w45v), (0, .ref 161)] [.int (0 : Int32)] (zsI M 161 3 w46v) _
        refine zs_if_eqT (pc := 16) t79_16 li0 (by decide) ?_
        refine zs_aload_n (pc := 48) t79_48 rfl ?_
        have w54 : (zI (zsI M 161 3 w46v) 161 5).toInt = (zI M 161 5).toInt := (congrArg Int32.toInt ((zIoj (by decide)).trans rfl)).trans rfl
        have w55 : (zI (zsI M 161 3 w46v) 161 5).toInt = (zI M 161 5).toInt := (congrArg Int32.toInt ((zIoj (by decide)).trans rfl)).trans rfl
        refine zs_invV (pc := 49) (k := 161) (as' := []) (st := []) t79_49 mf68 rfl rfl (Or.inl ⟨by decide, (zk1 (hs.k fk_zMc_161))⟩) ⟨by decide, by decide, Nat.le_of_ble_eq_true rfl, Nat.le_of_ble_eq_true rfl⟩ (P68 hs w47 ?_) (fun _ _ q => q)
        have w57 : (zI (zsI M 161 3 w46v) 161 3).toInt = ((zI M 161 3).toInt + 1) := (congrArg Int32.toInt zIs).trans w46
        have w56 : (zpk (zsI M 161 3 w46v)).toInt = g (w9n + 1) := zpk.tr (zTr.mk x0 (x0.1.put (by decide)) (fun j => (zIo (by decide))) (zIoj (by decide))) (by omega) (by omega)
        have w58 := zTr.rg x0 (w9n + 1)
        show zGo X l 1 0 0 79 52 [(2, .int (1 : Int32)), (1, .int w45v), (0, .ref 161)] [.int (zpk (zsI M 161 3 w46v))] (zsI M 161 3 w46v) _
        refine zs_invS (pc := 52) (as := [.int (zpk (zsI M 161 3 w46v))]) (st := []) t79_52 (by decide) mf36 rfl rfl ⟨by decide, by decide, Nat.le_of_ble_eq_true rfl, Nat.le_of_ble_eq_true rfl⟩ (zs_in (by decide) mf36 (Nat.le_of_ble_eq_true rfl) ?_) (fun _ _ q => q)
        show zGo X l 0 0 0 36 0 [(0, .int (zpk (zsI M 161 3 w46v)))] [] (zsI M 161 3 w46v) _
        refine zs_iload_n (pc := 0) t36_0 rfl ?_
        refine zs_bipush (pc := 1) t36_1 (v := 48) (by decide) ?_
        refine zs_icmp_ltT (pc := 3) t36_3 w56 li48 (by omega) ?_
        refine zs_iconst (pc := 16) t36_16 (v := 0) (by decide) ?_
        refine zs_iret (pc := 17) t36_17 mr36 (by decide) ?_
        show zGo X l 1 0 0 79 55 [(2, .int (1 : Int32)), (1, .int w45v), (0, .ref 161)] [.int (0 : Int32)] (zsI M 161 3 w46v) _
        refine zs_if_eqT (pc := 55) t79_55 li0 (by decide) ?_
        refine zs_iload_n (pc := 66) t79_66 rfl ?_
        have w59 : (zI (zsI M 161 3 w46v) 161 5).toInt = (zI M 161 5).toInt := (congrArg Int32.toInt ((zIoj (by decide)).trans rfl)).trans rfl
        have w60 : (zI (zsI M 161 3 w46v) 161 3).toInt = ((zI M 161 3).toInt + 1) := (congrArg Int32.toInt zIs).trans w46
        have w61 := w45
        have w62 : (zI (zsI M 161 3 w46v) 161 3).toInt = ((zI M 161 3).toInt + 1) := (congrArg Int32.toInt zIs).trans w46
        have w63 : (zI (zsI M 161 3 w46v) 161 5).toInt = (zI M 161 5).toInt := (congrArg Int32.toInt ((zIoj (by decide)).trans rfl)).trans rfl
        have w64 : pDg g 4 w9n = (w9n + 1) := pDg.j1 (by omega) (by omega)
        exact zs_iret (pc := 67) t79_67 mr79 rfl (hQ _ _ hs w47 ((zFr.refl).put rfl) (by omega) (fun p hp => by obtain rfl : w9n = p := (by omega); rw [w64]; omega))
      · refine zs_icmp_ltF (pc := 3) t36_3 w50 li48 (by omega) ?_
        refine zs_iload_n (pc := 6) t36_6 rfl ?_
        refine zs_bipush (pc := 7) t36_7 (v := 57) (by decide) ?_
        by_cases w65 : 57 < (g (w9n + 1))
        · refine zs_icmp_gtT (pc := 9) t36_9 w50 li57 (by omega) ?_
          refine zs_iconst (pc := 16) t36_16 (v := 0) (by decide) ?_
          refine zs_iret (pc := 17) t36_17 mr36 (by decide) ?_
          show zGo X l 1 0 0 79 16 [(2, .int (1 : Int32)), (1, .int w45v), (0, .ref 161)] [.int (0 : Int32)] (zsI M 161 3 w46v) _
          refine zs_if_eqT (pc := 16) t79_16 li0 (by decide) ?_
          refine zs_aload_n (pc := 48) t79_48 rfl ?_
          have w66 : (zI (zsI M 161 3 w46v) 161 5).toInt = (zI M 161 5).toInt := (congrArg Int32.toInt ((zIoj (by decide)).trans rfl)).trans rfl
          have w67 : (zI (zsI M 161 3 w46v) 161 5).toInt = (zI M 161 5).toInt := (congrArg Int32.toInt ((zIoj (by decide)).trans rfl)).trans rfl
          refine zs_invV (pc := 49) (k := 161) (as' := []) (st := []) t79_49 mf68 rfl rfl (Or.inl ⟨by decide, (zk1 (hs.k fk_zMc_161))⟩) ⟨by decide, by decide, Nat.le_of_ble_eq_true rfl, Nat.le_of_ble_eq_true rfl⟩ (P68 hs w47 ?_) (fun _ _ q => q)
          have w69 : (zI (zsI M 161 3 w46v) 161 3).toInt = ((zI M 161 3).toInt + 1) := (congrArg Int32.toInt zIs).trans w46
          have w68 : (zpk (zsI M 161 3 w46v)).toInt = g (w9n + 1) := zpk.tr (zTr.mk x0 (x0.1.put (by decide)) (fun j => (zIo (by decide))) (zIoj (by decide))) (by omega) (by omega)
          have w70 := zTr.rg x0 (w9n + 1)
          show zGo X l 1 0 0 79 52 [(2, .int (1 : Int32)), (1, .int w45v), (0, .ref 161)] [.int (zpk (zsI M 161 3 w46v))] (zsI M 161 3 w46v) _
          refine zs_invS (pc := 52) (as := [.int (zpk (zsI M 161 3 w46v))]) (st := []) t79_52 (by decide) mf36 rfl rfl ⟨by decide, by decide, Nat.le_of_ble_eq_true rfl, Nat.le_of_ble_eq_true rfl⟩ (zs_in (by decide) mf36 (Nat.le_of_ble_eq_true rfl) ?_) (fun _ _ q => q)
          show zGo X l 0 0 0 36 0 [(0, .int (zpk (zsI M 161 3 w46v)))] [] (zsI M 161 3 w46v) _
          refine zs_iload_n (pc := 0) t36_0 rfl ?_
          refine zs_bipush (pc := 1) t36_1 (v := 48) (by decide) ?_
          refine zs_icmp_ltF (pc := 3) t36_3 w68 li48 (by omega) ?_
          refine zs_iload_n (pc := 6) t36_6 rfl ?_
          refine zs_bipush (pc := 7) t36_7 (v := 57) (by decide) ?_
          refine zs_icmp_gtT (pc := 9) t36_9 w68 li57 (by omega) ?_
          refine zs_iconst (pc := 16) t36_16 (v := 0) (by decide) ?_
          refine zs_iret (pc := 17) t36_17 mr36 (by decide) ?_
          show zGo X l 1 0 0 79 55 [(2, .int (1 : Int32)), (1, .int w45v), (0, .ref 161)] [.int (0 : Int32)] (zsI M 161 3 w46v) _
          refine zs_if_eqT (pc := 55) t79_55 li0 (by decide) ?_
          refine zs_iload_n (pc := 66) t79_66 rfl ?_
          have w71 : (zI (zsI M 161 3 w46v) 161 5).toInt = (zI M 161 5).toInt := (congrArg Int32.toInt ((zIoj (by decide)).trans rfl)).trans rfl
          have w72 : (zI (zsI M 161 3 w46v) 161 3).toInt = ((zI M 161 3).toInt + 1) := (congrArg Int32.toInt zIs).trans w46
          have w73 := w45
          have w74 : (zI (zsI M 161 3 w46v) 161 3).toInt = ((zI M 161 3).toInt + 1) := (congrArg Int32.toInt zIs).trans w46
          have w75 : (zI (zsI M 161 3 w46v) 161 5).toInt = (zI M 161 5).toInt := (congrArg Int32.toInt ((zIoj (by decide)).trans rfl)).trans rfl
          have w76 : pDg g 4 w9n = (w9n + 1) := pDg.j1 (by omega) (by omega)
          exact zs_iret (pc := 67) t79_67 mr79 rfl (hQ _ _ hs w47 ((zFr.refl).put rfl) (by omega) (fun p hp => by obtain rfl : w9n = p := (by omega); rw [w76]; omega))
        · refine zs_icmp_gtF (pc := 9) t36_9 w50 li57 (by omega) ?_
          refine zs_iconst (pc := 12) t36_12 (v := 1) (by decide) ?_
          refine zs_goto (pc := 13) t36_13 ?_
          refine zs_iret (pc := 17) t36_17 mr36 (by decide) ?_
          show zGo X l 1 0 0 79 16 [(2, .int (1 : Int32)), (1, .int w45v), (0, .ref 161)] [.int (1 : Int32)] (zsI M 161 3 w46v) _
          refine zs_if_eqF (pc := 16) t79_16 li1 (by decide) ?_
          refine zs_iload_n (pc := 19) t79_19 rfl ?_
          refine zs_bipush (pc := 20) t79_20 (v := 10) (by decide) ?_
          obtain ⟨w77v, w77⟩ : ∃ v, w45v * (10 : Int32) = v := ⟨_, rfl⟩
          have w77g : w77v.toInt = ((0 + (g w9n)) - 48) * 10 := by rw [← w77]; exact zmulc w45 li10 (by omega) (by omega)
          refine zs_imul (pc := 22) t79_22 (c := w77v) w77 ?_
          refine zs_aload_n (pc := 23) t79_23 rfl ?_
          have w78 : (zI (zsI M 161 3 w46v) 161 5).toInt = (zI M 161 5).toInt := (congrArg Int32.toInt ((zIoj (by decide)).trans rfl)).trans rfl
          have w79 : (zI (zsI M 161 3 w46v) 161 5).toInt = (zI M 161 5).toInt := (congrArg Int32.toInt ((zIoj (by decide)).trans rfl)).trans rfl
          refine zs_invV (pc := 24) (k := 161) (as' := []) (st := [.int w77v]) t79_24 mf68 rfl rfl (Or.inl ⟨by decide, (zk1 (hs.k fk_zMc_161))⟩) ⟨by decide, by decide, Nat.le_of_ble_eq_true rfl, Nat.le_of_ble_eq_true rfl⟩ (P68 hs w47 ?_) (fun _ _ q => q)
          have w81 : (zI (zsI M 161 3 w46v) 161 3).toInt = ((zI M 161 3).toInt + 1) := (congrArg Int32.toInt zIs).trans w46
          have w80 : (zpk (zsI M 161 3 w46v)).toInt = g (w9n + 1) := zpk.tr (zTr.mk x0 (x0.1.put (by decide)) (fun j => (zIo (by decide))) (zIoj (by decide))) (by omega) (by omega)
          have w82 := zTr.rg x0 (w9n + 1)
          show zGo X l 1 0 0 79 27 [(2, .int (1 : Int32)), (1, .int w45v), (0, .ref 161)] [.int (zpk (zsI M 161 3 w46v)), .int w77v] (zsI M 161 3 w46v) _
          obtain ⟨w83v, w83e, w83⟩ := ziadd (a := w77v) (b := (zpk (zsI M 161 3 w46v))) w77g w80 (by omega) (by omega)
          refine zs_iadd (pc := 27) t79_27 (c := w83v) w83e ?_
          refine zs_bipush (pc := 28) t79_28 (v := 48) (by decide) ?_
          obtain ⟨w84v, w84e, w84⟩ := zisub (a := w83v) (b := (48 : Int32)) w83 li48 (by omega) (by omega)
          refine zs_isub (pc := 30) t79_30 (c := w84v) w84e ?_
          refine zs_istore_n (pc := 31) t79_31 (ls' := [(1, .int w84v), (2, .int (1 : Int32)), (0, .ref 161)]) (zml mf79 (by decide)) rfl ?_
          refine zs_aload_n (pc := 32) t79_32 rfl ?_
          refine zs_dup (pc := 33) t79_33 rfl ?_
          refine zs_get (pc := 34) t79_34 (by decide) (zk1 (hs.k fk_zMc_161)) (zfvi rfl zIs) ?_
          refine zs_iconst (pc := 37) t79_37 (v := 1) (by decide) ?_
          obtain ⟨w85v, w85e, w85⟩ := ziadd (a := w46v) (b := (1 : Int32)) w46 li1 (by omega) (by omega)
          refine zs_iadd (pc := 38) t79_38 (c := w85v) w85e ?_
          have w86 : zIv cLo cHi (zsI (zsI M 161 3 w46v) 161 3 w85v) := zIv.put w47 (show 0 ≤ w85v.toInt ∧ w85v.toInt ≤ 500 from ⟨by omega, by omega⟩)
          refine zs_putI (pc := 39) t79_39 (zk1 (hs.k fk_zMc_161)) rfl ?_
          refine zs_iinc (pc := 42) t79_42 (ls' := [(2, .int (2 : Int32)), (1, .int w84v), (0, .ref 161)]) (zml mf79 (by decide)) rfl (c := 2) (by decide) rfl ?_
          refine zs_goto (pc := 45) t79_45 ?_
          refine zs_iload_n (pc := 4) t79_4 rfl ?_
          refine zs_iconst (pc := 5) t79_5 (v := 4) (by decide) ?_
          refine zs_icmp_geF (pc := 6) t79_6 li2 li4 (by decide) ?_
          refine zs_aload_n (pc := 9) t79_9 rfl ?_
          have w87 : (zI (zsI (zsI M 161 3 w46v) 161 3 w85v) 161 5).toInt = (zI M 161 5).toInt := (congrArg Int32.toInt ((zIoj (by decide)).trans ((zIoj (by decide)).trans rfl))).trans rfl
          have w88 : (zI (zsI (zsI M 161 3 w46v) 161 3 w85v) 161 5).toInt = (zI M 161 5).toInt := (congrArg Int32.toInt ((zIoj (by decide)).trans ((zIoj (by decide)).trans rfl))).trans rfl
          refine zs_invV (pc := 10) (k := 161) (as' := []) (st := []) t79_10 mf68 rfl rfl (Or.inl ⟨by decide, (zk1 (hs.k fk_zMc_161))⟩) ⟨by decide, by decide, Nat.le_of_ble_eq_true rfl, Nat.le_of_ble_eq_true rfl⟩ (P68 hs w86 ?_) (fun _ _ q => q)
          have w90 : (zI (zsI (zsI M 161 3 w46v) 161 3 w85v) 161 3).toInt = (((zI M 161 3).toInt + 1) + 1) := (congrArg Int32.toInt zIs).trans w85
          have w89 : (zpk (zsI (zsI M 161 3 w46v) 161 3 w85v)).toInt = g (w9n + 2) := zpk.tr (zTr.mk x0 ((x0.1.put (by decide)).put (by decide)) (fun j => ((zIo (by decide)).trans (zIo (by decide)))) ((zIoj (by decide)).trans (zIoj (by decide)))) (by omega) (by omega)
          have w91 := zTr.rg x0 (w9n + 2)
          show zGo X l 1 0 0 79 13 [(2, .int (2 : Int32)), (1, .int w84v), (0, .ref 161)] [.int (zpk (zsI (zsI M 161 3 w46v) 161 3 w85v))] (zsI (zsI M 161 3 w46v) 161 3 w85v) _
          refine zs_invS (pc := 13) (as := [.int (zpk (zsI (zsI M 161 3 w46v) 161 3 w85v))]) (st := []) t79_13 (by decide) mf36 rfl rfl ⟨by decide, by decide, Nat.le_of_ble_eq_true rfl, Nat.le_of_ble_eq_true rfl⟩ (zs_in (by decide) mf36 (Nat.le_of_ble_eq_true rfl) ?_) (fun _ _ q => q)
          show zGo X l 0 0 0 36 0 [(0, .int (zpk (zsI (zsI M 161 3 w46v) 161 3 w85v)))] [] (zsI (zsI M 161 3 w46v) 161 3 w85v) _
          refine zs_iload_n (pc := 0) t36_0 rfl ?_
          refine zs_bipush (pc := 1) t36_1 (v := 48) (by decide) ?_
          by_cases w92 : (g (w9n + 2)) < 48
          · refine zs_icmp_ltT (pc := 3) t36_3 w89 li48 (by omega) ?_
            refine zs_iconst (pc := 16) t36_16 (v := 0) (by decide) ?_
            refine zs_iret (pc := 17) t36_17 mr36 (by decide) ?_
            show zGo X l 1 0 0 79 16 [(2, .int (2 : Int32)), (1, .int w84v), (0, .ref 161)] [.int (0 : Int32)] (zsI (zsI M 161 3 w46v) 161 3 w85v) _
            refine zs_if_eqT (pc := 16) t79_16 li0 (by decide) ?_
            refine zs_aload_n (pc := 48) t79_48 rfl ?_
            have w93 : (zI (zsI (zsI M 161 3 w46v) 161 3 w85v) 161 5).toInt = (zI M 161 5).toInt := (congrArg Int32.toInt ((zIoj (by decide)).trans ((zIoj (by decide)).trans rfl))).trans rfl
            have w94 : (zI (zsI (zsI M 161 3 w46v) 161 3 w85v) 161 5).toInt = (zI M 161 5).toInt := (congrArg Int32.toInt ((zIoj (by decide)).trans ((zIoj (by decide)).trans rfl))).trans rfl
            refine zs_invV (pc := 49) (k := 161) (as' := []) (st := []) t79_49 mf68 rfl rfl (Or.inl ⟨by decide, (zk1 (hs.k fk_zMc_161))⟩) ⟨by decide, by decide, Nat.le_of_ble_eq_true rfl, Nat.le_of_ble_eq_true rfl⟩ (P68 hs w86 ?_) (fun _ _ q => q)
            have w96 : (zI (zsI (zsI M 161 3 w46v) 161 3 w85v) 161 3).toInt = (((zI M 161 3).toInt + 1) + 1) := (congrArg Int32.toInt zIs).trans w85
            have w95 : (zpk (zsI (zsI M 161 3 w46v) 161 3 w85v)).toInt = g (w9n + 2) := zpk.tr (zTr.mk x0 ((x0.1.put (by decide)).put (by decide)) (fun j => ((zIo (by decide)).trans (zIo (by decide)))) ((zIoj (by decide)).trans (zIoj (by decide)))) (by omega) (by omega)
            have w97 := zTr.rg x0 (w9n + 2)
            show zGo X l 1 0 0 79 52 [(2, .int (2 : Int32)), (1, .int w84v), (0, .ref 161)] [.int (zpk (zsI (zsI M 161 3 w46v) 161 3 w85v))] (zsI (zsI M 161 3 w46v) 161 3 w85v) _
            refine zs_invS (pc := 52) (as := [.int (zpk (zsI (zsI M 161 3 w46v) 161 3 w85v))]) (st := []) t79_52 (by decide) mf36 rfl rfl ⟨by decide, by decide, Nat.le_of_ble_eq_true rfl, Nat.le_of_ble_eq_true rfl⟩ (zs_in (by decide) mf36 (Nat.le_of_ble_eq_true rfl) ?_) (fun _ _ q => q)
            show zGo X l 0 0 0 36 0 [(0, .int (zpk (zsI (zsI M 161 3 w46v) 161 3 w85v)))] [] (zsI (zsI M 161 3 w46v) 161 3 w85v) _
            refine zs_iload_n (pc := 0) t36_0 rfl ?_
            refine zs_bipush (pc := 1) t36_1 (v := 48) (by decide) ?_
            refine zs_icmp_ltT (pc := 3) t36_3 w95 li48 (by omega) ?_
            refine zs_iconst (pc := 16) t36_16 (v := 0) (by decide) ?_
            refine zs_iret (pc := 17) t36_17 mr36 (by decide) ?_
            show zGo X l 1 0 0 79 55 [(2, .int (2 : Int32)), (1, .int w84v), (0, .ref 161)] [.int (0 : Int32)] (zsI (zsI M 161 3 w46v) 161 3 w85v) _
            refine zs_if_eqT (pc := 55) t79_55 li0 (by decide) ?_
            refine zs_iload_n (pc := 66) t79_66 rfl ?_
            have w98 : (zI (zsI (zsI M 161 3 w46v) 161 3 w85v) 161 5).toInt = (zI M 161 5).toInt := (congrArg Int32.toInt ((zIoj (by decide)).trans ((zIoj (by decide)).trans rfl))).trans rfl
            have w99 : (zI (zsI (zsI M 161 3 w46v) 161 3 w85v) 161 3).toInt = (((zI M 161 3).toInt + 1) + 1) := (congrArg Int32.toInt zIs).trans w85
            have w100 := w84
            have w101 : (zI (zsI (zsI M 161 3 w46v) 161 3 w85v) 161 3).toInt = (((zI M 161 3).toInt + 1) + 1) := (congrArg Int32.toInt zIs).trans w85
            have w102 : (zI (zsI (zsI M 161 3 w46v) 161 3 w85v) 161 5).toInt = (zI M 161 5).toInt := (congrArg Int32.toInt ((zIoj (by decide)).trans ((zIoj (by decide)).trans rfl))).trans rfl
            have w103 : pDg g 4 w9n = (w9n + 2) := pDg.j2 (by omega) (by omega) (by omega)
            exact zs_iret (pc := 67) t79_67 mr79 rfl (hQ _ _ hs w86 (((zFr.refl).put rfl).put rfl) (by omega) (fun p hp => by obtain rfl : w9n = p := (by omega); rw [w103]; omega))
          · refine zs_icmp_ltF (pc := 3) t36_3 w89 li48 (by omega) ?_
            refine zs_iload_n (pc := 6) t36_6 rfl ?_
            refine zs_bipush (pc := 7) t36_7 (v := 57) (by decide) ?_
            by_cases w104 : 57 < (g (w9n + 2))
            · refine zs_icmp_gtT (pc := 9) t36_9 w89 li57 (by omega) ?_
              refine zs_iconst (pc := 16) t36_16 (v := 0) (by decide) ?_
              refine zs_iret (pc := 17) t36_17 mr36 (by decide) ?_
              show zGo X l 1 0 0 79 16 [(2, .int (2 : Int32)), (1, .int w84v), (0, .ref 161)] [.int (0 : Int32)] (zsI (zsI M 161 3 w46v) 161 3 w85v) _
              refine zs_if_eqT (pc := 16) t79_16 li0 (by decide) ?_
              refine zs_aload_n (pc := 48) t79_48 rfl ?_
              have w105 : (zI (zsI (zsI M 161 3 w46v) 161 3 w85v) 161 5).toInt = (zI M 161 5).toInt := (congrArg Int32.toInt ((zIoj (by decide)).trans ((zIoj (by decide)).trans rfl))).trans rfl
              have w106 : (zI (zsI (zsI M 161 3 w46v) 161 3 w85v) 161 5).toInt = (zI M 161 5).toInt := (congrArg Int32.toInt ((zIoj (by decide)).trans ((zIoj (by decide)).trans rfl))).trans rfl
              refine zs_invV (pc := 49) (k := 161) (as' := []) (st := []) t79_49 mf68 rfl rfl (Or.inl ⟨by decide, (zk1 (hs.k fk_zMc_161))⟩) ⟨by decide, by decide, Nat.le_of_ble_eq_true rfl, Nat.le_of_ble_eq_true rfl⟩ (P68 hs w86 ?_) (fun _ _ q => q)
              have w108 : (zI (zsI (zsI M 161 3 w46v) 161 3 w85v) 161 3).toInt = (((zI M 161 3).toInt + 1) + 1) := (congrArg Int32.toInt zIs).trans w85
              have w107 : (zpk (zsI (zsI M 161 3 w46v) 161 3 w85v)).toInt = g (w9n + 2) := zpk.tr (zTr.mk x0 ((x0.1.put (by decide)).put (by decide)) (fun j => ((zIo (by decide)).trans (zIo (by decide)))) ((zIoj (by decide)).trans (zIoj (by decide)))) (by omega) (by omega)
              have w109 := zTr.rg x0 (w9n + 2)
              show zGo X l 1 0 0 79 52 [(2, .int (2 : Int32)), (1, .int w84v), (0, .ref 161)] [.int (zpk (zsI (zsI M 161 3 w46v) 161 3 w85v))] (zsI (zsI M 161 3 w46v) 161 3 w85v) _
              refine zs_invS (pc := 52) (as := [.int (zpk (zsI (zsI M 161 3 w46v) 161 3 w85v))]) (st := []) t79_52 (by decide) mf36 rfl rfl ⟨by decide, by decide, Nat.le_of_ble_eq_true rfl, Nat.le_of_ble_eq_true rfl⟩ (zs_in (by decide) mf36 (Nat.le_of_ble_eq_true rfl) ?_) (fun _ _ q => q)
              show zGo X l 0 0 0 36 0 [(0, .int (zpk (zsI (zsI M 161 3 w46v) 161 3 w85v)))] [] (zsI (zsI M 161 3 w46v) 161 3 w85v) _
              refine zs_iload_n (pc := 0) t36_0 rfl ?_
              refine zs_bipush (pc := 1) t36_1 (v := 48) (by decide) ?_
              refine zs_icmp_ltF (pc := 3) t36_3 w107 li48 (by omega) ?_
              refine zs_iload_n (pc := 6) t36_6 rfl ?_
              refine zs_bipush (pc := 7) t36_7 (v := 57) (by decide) ?_
              refine zs_icmp_gtT (pc := 9) t36_9 w107 li57 (by omega) ?_
              refine zs_iconst (pc := 16) t36_16 (v := 0) (by decide) ?_
              refine zs_iret (pc := 17) t36_17 mr36 (by decide) ?_
              show zGo X l 1 0 0 79 55 [(2, .int (2 : Int32)), (1, .int w84v), (0, .ref 161)] [.int (0 : Int32)] (zsI (zsI M 161 3 w46v) 161 3 w85v) _
              refine zs_if_eqT (pc := 55) t79_55 li0 (by decide) ?_
              refine zs_iload_n (pc := 66) t79_66 rfl ?_
              have w110 : (zI (zsI (zsI M 161 3 w46v) 161 3 w85v) 161 5).toInt = (zI M 161 5).toInt := (congrArg Int32.toInt ((zIoj (by decide)).trans ((zIoj (by decide)).trans rfl))).trans rfl
              have w111 : (zI (zsI (zsI M 161 3 w46v) 161 3 w85v) 161 3).toInt = (((zI M 161 3).toInt + 1) + 1) := (congrArg Int32.toInt zIs).trans w85
              have w112 := w84
              have w113 : (zI (zsI (zsI M 161 3 w46v) 161 3 w85v) 161 3).toInt = (((zI M 161 3).toInt + 1) + 1) := (congrArg Int32.toInt zIs).trans w85
              have w114 : (zI (zsI (zsI M 161 3 w46v) 161 3 w85v) 161 5).toInt = (zI M 161 5).toInt := (congrArg Int32.toInt ((zIoj (by decide)).trans ((zIoj (by decide)).trans rfl))).trans rfl
              have w115 : pDg g 4 w9n = (w9n + 2) := pDg.j2 (by omega) (by omega) (by omega)
              exact zs_iret (pc := 67) t79_67 mr79 rfl (hQ _ _ hs w86 (((zFr.refl).put rfl).put rfl) (by omega) (fun p hp => by obtain rfl : w9n = p := (by omega); rw [w115]; omega))
            · refine zs_icmp_gtF (pc := 9) t36_9 w89 li57 (by omega) ?_
              refine zs_iconst (pc := 12) t36_12 (v := 1) (by decide) ?_
              refine zs_goto (pc := 13) t36_13 ?_
              refine zs_iret (pc := 17) t36_17 mr36 (by decide) ?_
              show zGo X l 1 0 0 79 16 [(2, .int (2 : Int32)), (1, .int w84v), (0, .ref 161)] [.int (1 : Int32)] (zsI (zsI M 161 3 w46v) 161 3 w85v) _
              refine zs_if_eqF (pc := 16) t79_16 li1 (by decide) ?_
              refine zs_iload_n (pc := 19) t79_19 rfl ?_
              refine zs_bipush (pc := 20) t79_20 (v := 10) (by decide) ?_
              obtain ⟨w116v, w116⟩ : ∃ v, w84v * (10 : Int32) = v := ⟨_, rfl⟩
              have w116g : w116v.toInt = (((((0 + (g w9n)) - 48) * 10) + (g (w9n + 1))) - 48) * 10 := by rw [← w116]; exact zmulc w84 li10 (by omega) (by omega)
              refine zs_imul (pc := 22) t79_22 (c := w116v) w116 ?_
              refine zs_aload_n (pc := 23) t79_23 rfl ?_
              have w117 : (zI (zsI (zsI M 161 3 w46v) 161 3 w85v) 161 5).toInt = (zI M 161 5).toInt := (congrArg Int32.toInt ((zIoj (by decide)).trans ((zIoj (by decide)).trans rfl))).trans rfl
              have w118 : (zI (zsI (zsI M 161 3 w46v) 161 3 w85v) 161 5).toInt = (zI M 161 5).toInt := (congrArg Int32.toInt ((zIoj (by decide)).trans ((zIoj (by decide)).trans rfl))).trans rfl
              refine zs_invV (pc := 24) (k := 161) (as' := []) (st := [.int w116v]) t79_24 mf68 rfl rfl (Or.inl ⟨by decide, (zk1 (hs.k fk_zMc_161))⟩) ⟨by decide, by decide, Nat.le_of_ble_eq_true rfl, Nat.le_of_ble_eq_true rfl⟩ (P68 hs w86 ?_) (fun _ _ q => q)
              have w120 : (zI (zsI (zsI M 161 3 w46v) 161 3 w85v) 161 3).toInt = (((zI M 161 3).toInt + 1) + 1) := (congrArg Int32.toInt zIs).trans w85
              have w119 : (zpk (zsI (zsI M 161 3 w46v) 161 3 w85v)).toInt = g (w9n + 2) := zpk.tr (zTr.mk x0 ((x0.1.put (by decide)).put (by decide)) (fun j => ((zIo (by decide)).trans (zIo (by decide)))) ((zIoj (by decide)).trans (zIoj (by decide)))) (by omega) (by omega)
              have w121 := zTr.rg x0 (w9n + 2)
              show zGo X l 1 0 0 79 27 [(2, .int (2 : Int32)), (1, .int w84v), (0, .ref 161)] [.int (zpk (zsI (zsI M 161 3 w46v) 161 3 w85v)), .int w116v] (zsI (zsI M 161 3 w46v) 161 3 w85v) _
              obtain ⟨w122v, w122e, w122⟩ := ziadd (a := w116v) (b := (zpk (zsI (zsI M 161 3 w46v) 161 3 w85v))) w116g w119 (by omega) (by omega)
              refine zs_iadd (pc := 27) t79_27 (c := w122v) w122e ?_
              refine zs_bipush (pc := 28) t79_28 (v := 48) (by decide) ?_
              obtain ⟨w123v, w123e, w123⟩ := zisub (a := w122v) (b := (48 : Int32)) w122 li48 (by omega) (by omega)
              refine zs_isub (pc := 30) t79_30 (c := w123v) w123e ?_
              refine zs_istore_n (pc := 31) t79_31 (ls' := [(1, .int w123v), (2, .int (2 : Int32)), (0, .ref 161)]) (zml mf79 (by decide)) rfl ?_
              refine zs_aload_n (pc := 32) t79_32 rfl ?_
              refine zs_dup (pc := 33) t79_33 rfl ?_
              refine zs_get (pc := 34) t79_34 (by decide) (zk1 (hs.k fk_zMc_161)) (zfvi rfl zIs) ?_
              refine zs_iconst (pc := 37) t79_37 (v := 1) (by decide) ?_
              obtain ⟨w124v, w124e, w124⟩ := ziadd (a := w85v) (b := (1 : Int32)) w85 li1 (by omega) (by omega)
              refine zs_iadd (pc := 38) t79_38 (c := w124v) w124e ?_
              have w125 : zIv cLo cHi (zsI (zsI (zsI M 161 3 w46v) 161 3 w85v) 161 3 w124v) := zIv.put w86 (show 0 ≤ w124v.toInt ∧ w124v.toInt ≤ 500 from ⟨by omega, by omega⟩)
              refine zs_putI (pc := 39) t79_39 (zk1 (hs.k fk_zMc_161)) rfl ?_
              refine zs_iinc (pc := 42) t79_42 (ls' := [(2, .int (3 : Int32)), (1, .int w123v), (0, .ref 161)]) (zml mf79 (by decide)) rfl (c := 3) (by decide) rfl ?_
              refine zs_goto (pc := 45) t79_45 ?_
              refine zs_iload_n (pc := 4) t79_4 rfl ?_
              refine zs_iconst (pc := 5) t79_5 (v := 4) (by decide) ?_
              refine zs_icmp_geF (pc := 6) t79_6 li3 li4 (by decide) ?_
              refine zs_aload_n (pc := 9) t79_9 rfl ?_
              have w126 : (zI (zsI (zsI (zsI M 161 3 w46v) 161 3 w85v) 161 3 w124v) 161 5).toInt = (zI M 161 5).toInt := (congrArg Int32.toInt ((zIoj (by decide)).trans ((zIoj (by decide)).trans ((zIoj (by decide)).trans rfl)))).trans rfl
              have w127 : (zI (zsI (zsI (zsI M 161 3 w46v) 161 3 w85v) 161 3 w124v) 161 5).toInt = (zI M 161 5).toInt := (congrArg Int32.toInt ((zIoj (by decide)).trans ((zIoj (by decide)).trans ((zIoj (by decide)).trans rfl)))).trans rfl
              refine zs_invV (pc := 10) (k := 161) (as' := []) (st := []) t79_10 mf68 rfl rfl (Or.inl ⟨by decide, (zk1 (hs.k fk_zMc_161))⟩) ⟨by decide, by decide, Nat.le_of_ble_eq_true rfl, Nat.le_of_ble_eq_true rfl⟩ (P68 hs w125 ?_) (fun _ _ q => q)
              have w129 : (zI (zsI (zsI (zsI M 161 3 w46v) 161 3 w85v) 161 3 w124v) 161 3).toInt = ((((zI M 161 3).toInt + 1) + 1) + 1) := (congrArg Int32.toInt zIs).trans w124
              have w128 : (zpk (zsI (zsI (zsI M 161 3 w46v) 161 3 w85v) 161 3 w124v)).toInt = g (w9n + 3) := zpk.tr (zTr.mk x0 (((x0.1.put (by decide)).put (by decide)).put (by decide)) (fun j => ((zIo (by decide)).trans ((zIo (by decide)).trans (zIo (by decide))))) ((zIoj (by decide)).trans ((zIoj (by decide)).trans (zIoj (by decide))))) (by omega) (by omega)
              have w130 := zTr.rg x0 (w9n + 3)
              show zGo X l 1 0 0 79 13 [(2, .int (3 : Int32)), (1, .int w123v), (0, .ref 161)] [.int (zpk (zsI (zsI (zsI M 161 3 w46v) 161 3 w85v) 161 3 w124v))] (zsI (zsI (zsI M 161 3 w46v) 161 3 w85v) 161 3 w124v) _
              refine zs_invS (pc := 13) (as := [.int (zpk (zsI (zsI (zsI M 161 3 w46v) 161 3 w85v) 161 3 w124v))]) (st := []) t79_13 (by decide) mf36 rfl rfl ⟨by decide, by decide, Nat.le_of_ble_eq_true rfl, Nat.le_of_ble_eq_true rfl⟩ (zs_in (by decide) mf36 (Nat.le_of_ble_eq_true rfl) ?_) (fun _ _ q => q)
              show zGo X l 0 0 0 36 0 [(0, .int (zpk (zsI (zsI (zsI M 161 3 w46v) 161 3 w85v) 161 3 w124v)))] [] (zsI (zsI (zsI M 161 3 w46v) 161 3 w85v) 161 3 w124v) _
              refine zs_iload_n (pc := 0) t36_0 rfl ?_
              refine zs_bipush (pc := 1) t36_1 (v := 48) (by decide) ?_
              by_cases w131 : (g (w9n + 3)) < 48
              · refine zs_icmp_ltT (pc := 3) t36_3 w128 li48 (by omega) ?_
                refine zs_iconst (pc := 16) t36_16 (v := 0) (by decide) ?_
                refine zs_iret (pc := 17) t36_17 mr36 (by decide) ?_
                show zGo X l 1 0 0 79 16 [(2, .int (3 : Int32)), (1, .int w123v), (0, .ref 161)] [.int (0 : Int32)] (zsI (zsI (zsI M 161 3 w46v) 161 3 w85v) 161 3 w124v) _
                refine zs_if_eqT (pc := 16) t79_16 li0 (by decide) ?_
                refine zs_aload_n (pc := 48) t79_48 rfl ?_
                have w132 : (zI (zsI (zsI (zsI M 161 3 w46v) 161 3 w85v) 161 3 w124v) 161 5).toInt = (zI M 161 5).toInt := (congrArg Int32.toInt ((zIoj (by decide)).trans ((zIoj (by decide)).trans ((zIoj (by decide)).trans rfl)))).trans rfl
                have w133 : (zI (zsI (zsI (zsI M 161 3 w46v) 161 3 w85v) 161 3 w124v) 161 5).toInt = (zI M 161 5).toInt := (congrArg Int32.toInt ((zIoj (by decide)).trans ((zIoj (by decide)).trans ((zIoj (by decide)).trans rfl)))).trans rfl
                refine zs_invV (pc := 49) (k := 161) (as' := []) (st := []) t79_49 mf68 rfl rfl (Or.inl ⟨by decide, (zk1 (hs.k fk_zMc_161))⟩) ⟨by decide, by decide, Nat.le_of_ble_eq_true rfl, Nat.le_of_ble_eq_true rfl⟩ (P68 hs w125 ?_) (fun _ _ q => q)
                have w135 : (zI (zsI (zsI (zsI M 161 3 w46v) 161 3 w85v) 161 3 w124v) 161 3).toInt = ((((zI M 161 3).toInt + 1) + 1) + 1) := (congrArg Int32.toInt zIs).trans w124
                have w134 : (zpk (zsI (zsI (zsI M 161 3 w46v) 161 3 w85v) 161 3 w124v)).toInt = g (w9n + 3) := zpk.tr (zTr.mk x0 (((x0.1.put (by decide)).put (by decide)).put (by decide)) (fun j => ((zIo (by decide)).trans ((zIo (by decide)).trans (zIo (by decide))))) ((zIoj (by decide)).trans ((zIoj (by decide)).trans (zIoj (by decide))))) (by omega) (by omega)
                have w136 := zTr.rg x0 (w9n + 3)
                show zGo X l 1 0 0 79 52 [(2, .int (3 : Int32)), (1, .int w123v), (0, .ref 161)] [.int (zpk (zsI (zsI (zsI M 161 3 w46v) 161 3 w85v) 161 3 w124v))] (zsI (zsI (zsI M 161 3 w46v) 161 3 w85v) 161 3 w124v) _
                refine zs_invS (pc := 52) (as := [.int (zpk (zsI (zsI (zsI M 161 3 w46v) 161 3 w85v) 161 3 w124v))]) (st := []) t79_52 (by decide) mf36 rfl rfl ⟨by decide, by decide, Nat.le_of_ble_eq_true rfl, Nat.le_of_ble_eq_true rfl⟩ (zs_in (by decide) mf36 (Nat.le_of_ble_eq_true rfl) ?_) (fun _ _ q => q)
                show zGo X l 0 0 0 36 0 [(0, .int (zpk (zsI (zsI (zsI M 161 3 w46v) 161 3 w85v) 161 3 w124v)))] [] (zsI (zsI (zsI M 161 3 w46v) 161 3 w85v) 161 3 w124v) _
                refine zs_iload_n (pc := 0) t36_0 rfl ?_
                refine zs_bipush (pc := 1) t36_1 (v := 48) (by decide) ?_
                refine zs_icmp_ltT (pc := 3) t36_3 w134 li48 (by omega) ?_
                refine zs_iconst (pc := 16) t36_16 (v := 0) (by decide) ?_
                refine zs_iret (pc := 17) t36_17 mr36 (by decide) ?_
                show zGo X l 1 0 0 79 55 [(2, .int (3 : Int32)), (1, .int w123v), (0, .ref 161)] [.int (0 : Int32)] (zsI (zsI (zsI M 161 3 w46v) 161 3 w85v) 161 3 w124v) _
                refine zs_if_eqT (pc := 55) t79_55 li0 (by decide) ?_
                refine zs_iload_n (pc := 66) t79_66 rfl ?_
                have w137 : (zI (zsI (zsI (zsI M 161 3 w46v) 161 3 w85v) 161 3 w124v) 161 5).toInt = (zI M 161 5).toInt := (congrArg Int32.toInt ((zIoj (by decide)).trans ((zIoj (by decide)).trans ((zIoj (by decide)).trans rfl)))).trans rfl
                have w138 : (zI (zsI (zsI (zsI M 161 3 w46v) 161 3 w85v) 161 3 w124v) 161 3).toInt = ((((zI M 161 3).toInt + 1) + 1) + 1) := (congrArg Int32.toInt zIs).trans w124
                have w139 := w123
                have w140 : (zI (zsI (zsI (zsI M 161 3 w46v) 161 3 w85v) 161 3 w124v) 161 3).toInt = ((((zI M 161 3).toInt + 1) + 1) + 1) := (congrArg Int32.toInt zIs).trans w124
                have w141 : (zI (zsI (zsI (zsI M 161 3 w46v) 161 3 w85v) 161 3 w124v) 161 5).toInt = (zI M 161 5).toInt := (congrArg Int32.toInt ((zIoj (by decide)).trans ((zIoj (by decide)).trans ((zIoj (by decide)).trans rfl)))).trans rfl
                have w142 : pDg g 4 w9n = (w9n + 3) := pDg.j3 (by omega) (by omega) (by omega) (by omega)
                exact zs_iret (pc := 67) t79_67 mr79 rfl (hQ _ _ hs w125 ((((zFr.refl).put rfl).put rfl).put rfl) (by omega) (fun p hp => by obtain rfl : w9n = p := (by omega); rw [w142]; omega))
              · refine zs_icmp_ltF (pc := 3) t36_3 w128 li48 (by omega) ?_
                refine zs_iload_n (pc := 6) t36_6 rfl ?_
                refine zs_bipush (pc := 7) t36_7 (v := 57) (by decide) ?_
                by_cases w143 : 57 < (g (w9n + 3))
                · refine zs_icmp_gtT (pc := 9) t36_9 w128 li57 (by omega) ?_
                  refine zs_iconst (pc := 16) t36_16 (v := 0) (by decide) ?_
                  refine zs_iret (pc := 17) t36_17 mr36 (by decide) ?_
                  show zGo X l 1 0 0 79 16 [(2, .int (3 : Int32)), (1, .int w123v), (0, .ref 161)] [.int (0 : Int32)] (zsI (zsI (zsI M 161 3 w46v) 161 3 w85v) 161 3 w124v) _
                  refine zs_if_eqT (pc := 16) t79_16 li0 (by decide) ?_
                  refine zs_aload_n (pc := 48) t79_48 rfl ?_
                  have w144 : (zI (zsI (zsI (zsI M 161 3 w46v) 161 3 w85v) 161 3 w124v) 161 5).toInt = (zI M 161 5).toInt := (congrArg Int32.toInt ((zIoj (by decide)).trans ((zIoj (by decide)).trans ((zIoj (by decide)).trans rfl)))).trans rfl
                  have w145 : (zI (zsI (zsI (zsI M 161 3 w46v) 161 3 w85v) 161 3 w124v) 161 5).toInt = (zI M 161 5).toInt := (congrArg Int32.toInt ((zIoj (by decide)).trans ((zIoj (by decide)).trans ((zIoj (by decide)).trans rfl)))).trans rfl
                  refine zs_invV (pc := 49) (k := 161) (as' := []) (st := []) t79_49 mf68 rfl rfl (Or.inl ⟨by decide, (zk1 (hs.k fk_zMc_161))⟩) ⟨by decide, by decide, Nat.le_of_ble_eq_true rfl, Nat.le_of_ble_eq_true rfl⟩ (P68 hs w125 ?_) (fun _ _ q => q)
                  have w147 : (zI (zsI (zsI (zsI M 161 3 w46v) 161 3 w85v) 161 3 w124v) 161 3).toInt = ((((zI M 161 3).toInt + 1) + 1) + 1) := (congrArg Int32.toInt zIs).trans w124
                  have w146 : (zpk (zsI (zsI (zsI M 161 3 w46v) 161 3 w85v) 161 3 w124v)).toInt = g (w9n + 3) := zpk.tr (zTr.mk x0 (((x0.1.put (by decide)).put (by decide)).put (by decide)) (fun j => ((zIo (by decide)).trans ((zIo (by decide)).trans (zIo (by decide))))) ((zIoj (by decide)).trans ((zIoj (by decide)).trans (zIoj (by decide))))) (by omega) (by omega)
                  have w148 := zTr.rg x0 (w9n + 3)
                  show zGo X l 1 0 0 79 52 [(2, .int (3 : Int32)), (1, .int w123v), (0, .ref 161)] [.int (zpk (zsI (zsI (zsI M 161 3 w46v) 161 3 w85v) 161 3 w124v))] (zsI (zsI (zsI M 161 3 w46v) 161 3 w85v) 161 3 w124v) _
                  refine zs_invS (pc := 52) (as := [.int (zpk (zsI (zsI (zsI M 161 3 w46v) 161 3 w85v) 161 3 w124v))]) (st := []) t79_52 (by decide) mf36 rfl rfl ⟨by decide, by decide, Nat.le_of_ble_eq_true rfl, Nat.le_of_ble_eq_true rfl⟩ (zs_in (by decide) mf36 (Nat.le_of_ble_eq_true rfl) ?_) (fun _ _ q => q)
                  show zGo X l 0 0 0 36 0 [(0, .int (zpk (zsI (zsI (zsI M 161 3 w46v) 161 3 w85v) 161 3 w124v)))] [] (zsI (zsI (zsI M 161 3 w46v) 161 3 w85v) 161 3 w124v) _
                  refine zs_iload_n (pc := 0) t36_0 rfl ?_
                  refine zs_bipush (pc := 1) t36_1 (v := 48) (by decide) ?_
                  refine zs_icmp_ltF (pc := 3) t36_3 w146 li48 (by omega) ?_
                  refine zs_iload_n (pc := 6) t36_6 rfl ?_
                  refine zs_bipush (pc := 7) t36_7 (v := 57) (by decide) ?_
                  refine zs_icmp_gtT (pc := 9) t36_9 w146 li57 (by omega) ?_
                  refine zs_iconst (pc := 16) t36_16 (v := 0) (by decide) ?_
                  refine zs_iret (pc := 17) t36_17 mr36 (by decide) ?_
                  show zGo X l 1 0 0 79 55 [(2, .int (3 : Int32)), (1, .int w123v), (0, .ref 161)] [.int (0 : Int32)] (zsI (zsI (zsI M 161 3 w46v) 161 3 w85v) 161 3 w124v) _
                  refine zs_if_eqT (pc := 55) t79_55 li0 (by decide) ?_
                  refine zs_iload_n (pc := 66) t79_66 rfl ?_
                  have w149 : (zI (zsI (zsI (zsI M 161 3 w46v) 161 3 w85v) 161 3 w124v) 161 5).toInt = (zI M 161 5).toInt := (congrArg Int32.toInt ((zIoj (by decide)).trans ((zIoj (by decide)).trans ((zIoj (by decide)).trans rfl)))).trans rfl
                  have w150 : (zI (zsI (zsI (zsI M 161 3 w46v) 161 3 w85v) 161 3 w124v) 161 3).toInt = ((((zI M 161 3).toInt + 1) + 1) + 1) := (congrArg Int32.toInt zIs).trans w124
                  have w151 := w123
                  have w152 : (zI (zsI (zsI (zsI M 161 3 w46v) 161 3 w85v) 161 3 w124v) 161 3).toInt = ((((zI M 161 3).toInt + 1) + 1) + 1) := (congrArg Int32.toInt zIs).trans w124
                  have w153 : (zI (zsI (zsI (zsI M 161 3 w46v) 161 3 w85v) 161 3 w124v) 161 5).toInt = (zI M 161 5).toInt := (congrArg Int32.toInt ((zIoj (by decide)).trans ((zIoj (by decide)).trans ((zIoj (by decide)).trans rfl)))).trans rfl
                  have w154 : pDg g 4 w9n = (w9n + 3) := pDg.j3 (by omega) (by omega) (by omega) (by omega)
                  exact zs_iret (pc := 67) t79_67 mr79 rfl (hQ _ _ hs w125 ((((zFr.refl).put rfl).put rfl).put rfl) (by omega) (fun p hp => by obtain rfl : w9n = p := (by omega); rw [w154]; omega))
                · refine zs_icmp_gtF (pc := 9) t36_9 w128 li57 (by omega) ?_
                  refine zs_iconst (pc := 12) t36_12 (v := 1) (by decide) ?_
                  refine zs_goto (pc := 13) t36_13 ?_
                  refine zs_iret (pc := 17) t36_17 mr36 (by decide) ?_
                  show zGo X l 1 0 0 79 16 [(2, .int (3 : Int32)), (1, .int w123v), (0, .ref 161)] [.int (1 : Int32)] (zsI (zsI (zsI M 161 3 w46v) 161 3 w85v) 161 3 w124v) _
                  refine zs_if_eqF (pc := 16) t79_16 li1 (by decide) ?_
                  refine zs_iload_n (pc := 19) t79_19 rfl ?_
                  refine zs_bipush (pc := 20) t79_20 (v := 10) (by decide) ?_
                  obtain ⟨w155v, w155⟩ : ∃ v, w123v * (10 : Int32) = v := ⟨_, rfl⟩
                  have w155g : w155v.toInt = ((((((((0 + (g w9n)) - 48) * 10) + (g (w9n + 1))) - 48) * 10) + (g (w9n + 2))) - 48) * 10 := by rw [← w155]; exact zmulc w123 li10 (by omega) (by omega)
                  refine zs_imul (pc := 22) t79_22 (c := w155v) w155 ?_
                  refine zs_aload_n (pc := 23) t79_23 rfl ?_
                  have w156 : (zI (zsI (zsI (zsI M 161 3 w46v) 161 3 w85v) 161 3 w124v) 161 5).toInt = (zI M 161 5).toInt := (congrArg Int32.toInt ((zIoj (by decide)).trans ((zIoj (by decide)).trans ((zIoj (by decide)).trans rfl)))).trans rfl
                  have w157 : (zI (zsI (zsI (zsI M 161 3 w46v) 161 3 w85v) 161 3 w124v) 161 5).toInt = (zI M 161 5).toInt := (congrArg Int32.toInt ((zIoj (by decide)).trans ((zIoj (by decide)).trans ((zIoj (by decide)).trans rfl)))).trans rfl
                  refine zs_invV (pc := 24) (k := 161) (as' := []) (st := [.int w155v]) t79_24 mf68 rfl rfl (Or.inl ⟨by decide, (zk1 (hs.k fk_zMc_161))⟩) ⟨by decide, by decide, Nat.le_of_ble_eq_true rfl, Nat.le_of_ble_eq_true rfl⟩ (P68 hs w125 ?_) (fun _ _ q => q)
                  have w159 : (zI (zsI (zsI (zsI M 161 3 w46v) 161 3 w85v) 161 3 w124v) 161 3).toInt = ((((zI M 161 3).toInt + 1) + 1) + 1) := (congrArg Int32.toInt zIs).trans w124
                  have w158 : (zpk (zsI (zsI (zsI M 161 3 w46v) 161 3 w85v) 161 3 w124v)).toInt = g (w9n + 3) := zpk.tr (zTr.mk x0 (((x0.1.put (by decide)).put (by decide)).put (by decide)) (fun j => ((zIo (by decide)).trans ((zIo (by decide)).trans (zIo (by decide))))) ((zIoj (by decide)).trans ((zIoj (by decide)).trans (zIoj (by decide))))) (by omega) (by omega)
                  have w160 := zTr.rg x0 (w9n + 3)
                  show zGo X l 1 0 0 79 27 [(2, .int (3 : Int32)), (1, .int w123v), (0, .ref 161)] [.int (zpk (zsI (zsI (zsI M 161 3 w46v) 161 3 w85v) 161 3 w124v)), .int w155v] (zsI (zsI (zsI M 161 3 w46v) 161 3 w85v) 161 3 w124v) _
                  obtain ⟨w161v, w161e, w161⟩ := ziadd (a := w155v) (b := (zpk (zsI (zsI (zsI M 161 3 w46v) 161 3 w85v) 161 3 w124v))) w155g w158 (by omega) (by omega)
                  refine zs_iadd (pc := 27) t79_27 (c := w161v) w161e ?_
                  refine zs_bipush (pc := 28) t79_28 (v := 48) (by decide) ?_
                  obtain ⟨w162v, w162e, w162⟩ := zisub (a := w161v) (b := (48 : Int32)) w161 li48 (by omega) (by omega)
                  refine zs_isub (pc := 30) t79_30 (c := w162v) w162e ?_
                  refine zs_istore_n (pc := 31) t79_31 (ls' := [(1, .int w162v), (2, .int (3 : Int32)), (0, .ref 161)]) (zml mf79 (by decide)) rfl ?_
                  refine zs_aload_n (pc := 32) t79_32 rfl ?_
                  refine zs_dup (pc := 33) t79_33 rfl ?_
                  refine zs_get (pc := 34) t79_34 (by decide) (zk1 (hs.k fk_zMc_161)) (zfvi rfl zIs) ?_
                  refine zs_iconst (pc := 37) t79_37 (v := 1) (by decide) ?_
                  obtain ⟨w163v, w163e, w163⟩ := ziadd (a := w124v) (b := (1 : Int32)) w124 li1 (by omega) (by omega)
                  refine zs_iadd (pc := 38) t79_38 (c := w163v) w163e ?_
                  have w164 : zIv cLo cHi (zsI (zsI (zsI (zsI M 161 3 w46v) 161 3 w85v) 161 3 w124v) 161 3 w163v) := zIv.put w125 (show 0 ≤ w163v.toInt ∧ w163v.toInt ≤ 500 from ⟨by omega, by omega⟩)
                  refine zs_putI (pc := 39) t79_39 (zk1 (hs.k fk_zMc_161)) rfl ?_
                  refine zs_iinc (pc := 42) t79_42 (ls' := [(2, .int (4 : Int32)), (1, .int w162v), (0, .ref 161)]) (zml mf79 (by decide)) rfl (c := 4) (by decide) rfl ?_
                  refine zs_goto (pc := 45) t79_45 ?_
                  refine zs_iload_n (pc := 4) t79_4 rfl ?_
                  refine zs_iconst (pc := 5) t79_5 (v := 4) (by decide) ?_
                  refine zs_icmp_geT (pc := 6) t79_6 li4 li4 (by decide) ?_
                  refine zs_aload_n (pc := 48) t79_48 rfl ?_
                  have w165 : (zI (zsI (zsI (zsI (zsI M 161 3 w46v) 161 3 w85v) 161 3 w124v) 161 3 w163v) 161 5).toInt = (zI M 161 5).toInt := (congrArg Int32.toInt ((zIoj (by decide)).trans ((zIoj (by decide)).trans ((zIoj (by decide)).trans ((zIoj (by decide)).trans rfl))))).trans rfl
                  have w166 : (zI (zsI (zsI (zsI (zsI M 161 3 w46v) 161 3 w85v) 161 3 w124v) 161 3 w163v) 161 5).toInt = (zI M 161 5).toInt := (congrArg Int32.toInt ((zIoj (by decide)).trans ((zIoj (by decide)).trans ((zIoj (by decide)).trans ((zIoj (by decide)).trans rfl))))).trans rfl
                  refine zs_invV (pc := 49) (k := 161) (as' := []) (st := []) t79_49 mf68 rfl rfl (Or.inl ⟨by decide, (zk1 (hs.k fk_zMc_161))⟩) ⟨by decide, by decide, Nat.le_of_ble_eq_true rfl, Nat.le_of_ble_eq_true rfl⟩ (P68 hs w164 ?_) (fun _ _ q => q)
                  have w168 : (zI (zsI (zsI (zsI (zsI M 161 3 w46v) 161 3 w85v) 161 3 w124v) 161 3 w163v) 161 3).toInt = (((((zI M 161 3).toInt + 1) + 1) + 1) + 1) := (congrArg Int32.toInt zIs).trans w163
                  have w167 : (zpk (zsI (zsI (zsI (zsI M 161 3 w46v) 161 3 w85v) 161 3 w124v) 161 3 w163v)).toInt = g (w9n + 4) := zpk.tr (zTr.mk x0 ((((x0.1.put (by decide)).put (by decide)).put (by decide)).put (by decide)) (fun j => ((zIo (by decide)).trans ((zIo (by decide)).trans ((zIo (by decide)).trans (zIo (by decide)))))) ((zIoj (by decide)).trans ((zIoj (by decide)).trans ((zIoj (by decide)).trans (zIoj (by decide)))))) (by omega) (by omega)
                  have w169 := zTr.rg x0 (w9n + 4)
                  show zGo X l 1 0 0 79 52 [(2, .int (4 : Int32)), (1, .int w162v), (0, .ref 161)] [.int (zpk (zsI (zsI (zsI (zsI M 161 3 w46v) 161 3 w85v) 161 3 w124v) 161 3 w163v))] (zsI (zsI (zsI (zsI M 161 3 w46v) 161 3 w85v) 161 3 w124v) 161 3 w163v) _
                  refine zs_invS (pc := 52) (as := [.int (zpk (zsI (zsI (zsI (zsI M 161 3 w46v) 161 3 w85v) 161 3 w124v) 161 3 w163v))]) (st := []) t79_52 (by decide) mf36 rfl rfl ⟨by decide, by decide, Nat.le_of_ble_eq_true rfl, Nat.le_of_ble_eq_true rfl⟩ (zs_in (by decide) mf36 (Nat.le_of_ble_eq_true rfl) ?_) (fun _ _ q => q)
                  show zGo X l 0 0 0 36 0 [(0, .int (zpk (zsI (zsI (zsI (zsI M 161 3 w46v) 161 3 w85v) 161 3 w124v) 161 3 w163v)))] [] (zsI (zsI (zsI (zsI M 161 3 w46v) 161 3 w85v) 161 3 w124v) 161 3 w163v) _
                  refine zs_iload_n (pc := 0) t36_0 rfl ?_
                  refine zs_bipush (pc := 1) t36_1 (v := 48) (by decide) ?_
                  by_cases w170 : (g (w9n + 4)) < 48
                  · refine zs_icmp_ltT (pc := 3) t36_3 w167 li48 (by omega) ?_
                    refine zs_iconst (pc := 16) t36_16 (v := 0) (by decide) ?_
                    refine zs_iret (pc := 17) t36_17 mr36 (by decide) ?_
                    show zGo X l 1 0 0 79 55 [(2, .int (4 : Int32)), (1, .int w162v), (0, .ref 161)] [.int (0 : Int32)] (zsI (zsI (zsI (zsI M 161 3 w46v) 161 3 w85v) 161 3 w124v) 161 3 w163v) _
                    refine zs_if_eqT (pc := 55) t79_55 li0 (by decide) ?_
                    refine zs_iload_n (pc := 66) t79_66 rfl ?_
                    have w171 : (zI (zsI (zsI (zsI (zsI M 161 3 w46v) 161 3 w85v) 161 3 w124v) 161 3 w163v) 161 5).toInt = (zI M 161 5).toInt := (congrArg Int32.toInt ((zIoj (by decide)).trans ((zIoj (by decide)).trans ((zIoj (by decide)).trans ((zIoj (by decide)).trans rfl))))).trans rfl
                    have w172 : (zI (zsI (zsI (zsI (zsI M 161 3 w46v) 161 3 w85v) 161 3 w124v) 161 3 w163v) 161 3).toInt = (((((zI M 161 3).toInt + 1) + 1) + 1) + 1) := (congrArg Int32.toInt zIs).trans w163
                    have w173 := w162
                    have w174 : (zI (zsI (zsI (zsI (zsI M 161 3 w46v) 161 3 w85v) 161 3 w124v) 161 3 w163v) 161 3).toInt = (((((zI M 161 3).toInt + 1) + 1) + 1) + 1) := (congrArg Int32.toInt zIs).trans w163
                    have w175 : (zI (zsI (zsI (zsI (zsI M 161 3 w46v) 161 3 w85v) 161 3 w124v) 161 3 w163v) 161 5).toInt = (zI M 161 5).toInt := (congrArg Int32.toInt ((zIoj (by decide)).trans ((zIoj (by decide)).trans ((zIoj (by decide)).trans ((zIoj (by decide)).trans rfl))))).trans rfl
                    have w176 : pDg g 4 w9n = (w9n + 4) := pDg.j4 (by omega) (by omega) (by omega) (by omega)
                    exact zs_iret (pc := 67) t79_67 mr79 rfl (hQ _ _ hs w164 (((((zFr.refl).put rfl).put rfl).put rfl).put rfl) (by omega) (fun p hp => by obtain rfl : w9n = p := (by omega); rw [w176]; omega))
                  · refine zs_icmp_ltF (pc := 3) t36_3 w167 li48 (by omega) ?_
                    refine zs_iload_n (pc := 6) t36_6 rfl ?_
                    refine zs_bipush (pc := 7) t36_7 (v := 57) (by decide) ?_
                    by_cases w177 : 57 < (g (w9n + 4))
                    · refine zs_icmp_gtT (pc := 9) t36_9 w167 li57 (by omega) ?_
                      refine zs_iconst (pc := 16) t36_16 (v := 0) (by decide) ?_
                      refine zs_iret (pc := 17) t36_17 mr36 (by decide) ?_
                      show zGo X l 1 0 0 79 55 [(2, .int (4 : Int32)), (1, .int w162v), (0, .ref 161)] [.int (0 : Int32)] (zsI (zsI (zsI (zsI M 161 3 w46v) 161 3 w85v) 161 3 w124v) 161 3 w163v) _
                      refine zs_if_eqT (pc := 55) t79_55 li0 (by decide) ?_
                      refine zs_iload_n (pc := 66) t79_66 rfl ?_
                      have w178 : (zI (zsI (zsI (zsI (zsI M 161 3 w46v) 161 3 w85v) 161 3 w124v) 161 3 w163v) 161 5).toInt = (zI M 161 5).toInt := (congrArg Int32.toInt ((zIoj (by decide)).trans ((zIoj (by decide)).trans ((zIoj (by decide)).trans ((zIoj (by decide)).trans rfl))))).trans rfl
                      have w179 : (zI (zsI (zsI (zsI (zsI M 161 3 w46v) 161 3 w85v) 161 3 w124v) 161 3 w163v) 161 3).toInt = (((((zI M 161 3).toInt + 1) + 1) + 1) + 1) := (congrArg Int32.toInt zIs).trans w163
                      have w180 := w162
                      have w181 : (zI (zsI (zsI (zsI (zsI M 161 3 w46v) 161 3 w85v) 161 3 w124v) 161 3 w163v) 161 3).toInt = (((((zI M 161 3).toInt + 1) + 1) + 1) + 1) := (congrArg Int32.toInt zIs).trans w163
                      have w182 : (zI (zsI (zsI (zsI (zsI M 161 3 w46v) 161 3 w85v) 161 3 w124v) 161 3 w163v) 161 5).toInt = (zI M 161 5).toInt := (congrArg Int32.toInt ((zIoj (by decide)).trans ((zIoj (by decide)).trans ((zIoj (by decide)).trans ((zIoj (by decide)).trans rfl))))).trans rfl
                      have w183 : pDg g 4 w9n = (w9n + 4) := pDg.j4 (by omega) (by omega) (by omega) (by omega)
                      exact zs_iret (pc := 67) t79_67 mr79 rfl (hQ _ _ hs w164 (((((zFr.refl).put rfl).put rfl).put rfl).put rfl) (by omega) (fun p hp => by obtain rfl : w9n = p := (by omega); rw [w183]; omega))
                    · refine zs_icmp_gtF (pc := 9) t36_9 w167 li57 (by omega) ?_
                      refine zs_iconst (pc := 12) t36_12 (v := 1) (by decide) ?_
                      refine zs_goto (pc := 13) t36_13 ?_
                      refine zs_iret (pc := 17) t36_17 mr36 (by decide) ?_
                      show zGo X l 1 0 0 79 55 [(2, .int (4 : Int32)), (1, .int w162v), (0, .ref 161)] [.int (1 : Int32)] (zsI (zsI (zsI (zsI M 161 3 w46v) 161 3 w85v) 161 3 w124v) 161 3 w163v) _
                      refine zs_if_eqF (pc := 55) t79_55 li1 (by decide) ?_
                      refine zs_aload_n (pc := 58) t79_58 rfl ?_
                      refine zs_aload_n (pc := 59) t79_59 rfl ?_
                      refine zs_get (pc := 60) t79_60 (by decide) (zk1 (hs.k fk_zMc_161)) (zfvi rfl zIs) ?_
                      refine zs_invV (pc := 63) (k := 161) (as' := [.int w163v]) (st := []) t79_63 mf78 rfl rfl (Or.inl ⟨by decide, (zk1 (hs.k fk_zMc_161))⟩) ⟨by decide, by decide, Nat.le_of_ble_eq_true rfl, Nat.le_of_ble_eq_true rfl⟩ (zs_in (by decide) mf78 (Nat.le_of_ble_eq_true rfl) ?_) (fun _ _ q => q)
                      show zGo X l 0 0 0 78 0 [(0, .ref 161), (1, .int w163v)] [] (zsI (zsI (zsI (zsI M 161 3 w46v) 161 3 w85v) 161 3 w124v) 161 3 w163v) _
                      refine zs_aload_n (pc := 0) t78_0 rfl ?_
                      refine zs_get (pc := 1) t78_1 (by decide) (zk1 (hs.k fk_zMc_161)) (zfvi rfl ((zIoj (by decide)).trans ((zIoj (by decide)).trans ((zIoj (by decide)).trans ((zIoj (by decide)).trans rfl))))) ?_
                      refine zs_iconst (pc := 4) t78_4 (v := -1) (by decide) ?_
                      refine zs_icmp_neF (pc := 5) t78_5 rfl lin1 (by omega) ?_
                      refine zs_aload_n (pc := 8) t78_8 rfl ?_
                      refine zs_iload_n (pc := 9) t78_9 rfl ?_
                      have w184 : zIv cLo cHi (zsI (zsI (zsI (zsI (zsI M 161 3 w46v) 161 3 w85v) 161 3 w124v) 161 3 w163v) 161 5 w163v) := zIv.put w164 (show (-2147483648) ≤ w163v.toInt ∧ w163v.toInt ≤ 2147483647 from zrg w163v)
                      refine zs_putI (pc := 10) t78_10 (zk1 (hs.k fk_zMc_161)) rfl ?_
                      refine zs_vret (pc := 13) t78_13 mr78 ?_
                      show zGo X l 1 0 0 79 66 [(2, .int (4 : Int32)), (1, .int w162v), (0, .ref 161)] [] (zsI (zsI (zsI (zsI (zsI M 161 3 w46v) 161 3 w85v) 161 3 w124v) 161 3 w163v) 161 5 w163v) _
                      refine zs_iload_n (pc := 66) t79_66 rfl ?_
                      have w185 : (zI (zsI (zsI (zsI (zsI (zsI M 161 3 w46v) 161 3 w85v) 161 3 w124v) 161 3 w163v) 161 5 w163v) 161 5).toInt = (((((zI M 161 3).toInt + 1) + 1) + 1) + 1) := (congrArg Int32.toInt zIs).trans w163
                      have w186 : (zI (zsI (zsI (zsI (zsI (zsI M 161 3 w46v) 161 3 w85v) 161 3 w124v) 161 3 w163v) 161 5 w163v) 161 3).toInt = (((((zI M 161 3).toInt + 1) + 1) + 1) + 1) := (congrArg Int32.toInt ((zIoj (by decide)).trans zIs)).trans w163
                      have w187 := w162
                      have w188 : (zI (zsI (zsI (zsI (zsI (zsI M 161 3 w46v) 161 3 w85v) 161 3 w124v) 161 3 w163v) 161 5 w163v) 161 3).toInt = (((((zI M 161 3).toInt + 1) + 1) + 1) + 1) := (congrArg Int32.toInt ((zIoj (by decide)).trans zIs)).trans w163
                      have w189 : (zI (zsI (zsI (zsI (zsI (zsI M 161 3 w46v) 161 3 w85v) 161 3 w124v) 161 3 w163v) 161 5 w163v) 161 5).toInt = (((((zI M 161 3).toInt + 1) + 1) + 1) + 1) := (congrArg Int32.toInt zIs).trans w163
                      have w190 : pDg g 4 w9n = (w9n + 4) := pDg.j4 (by omega) (by omega) (by omega) (by omega)
                      exact zs_iret (pc := 67) t79_67 mr79 rfl (hQ _ _ hs w184 ((((((zFr.refl).put rfl).put rfl).put rfl).put rfl).put rfl) (by omega) (fun p hp => by obtain rfl : w9n = p := (by omega); rw [w190]; omega))
theorem X77_5 {X : zX} {l : Launch} {M : zM} {Q : Option Value → zM → Prop} {a : Int32} (hs : zSk zMc M) (hI : zIv cLo cHi M) (ha : 0 ≤ a.toInt ∧ a.toInt ≤ 255) (hQ : ∀ v : Int32, (v.toInt = zlx a.toInt) → (-1) ≤ v.toInt → v.toInt ≤ 7 → Q (some (.int v)) M) : zCall X l 0 0 0 77 [.ref 5, .int a, .int (0 : Int32), .int (8 : Int32)] M Q := by
  have ga := zrg a
  refine zs_in (by decide) mf77 (Nat.le_of_ble_eq_true rfl) ?_
  show zGo X l 0 0 0 77 0 [(0, .ref 5), (1, .int a), (2, .int (0 : Int32)), (3, .int (8 : Int32))] [] M _
  refine zGo.zou6 (fun x6 => ?_)
  refine zs_iload_n (pc := 0) t77_0 rfl ?_
  obtain ⟨w1v, w1e⟩ : ∃ v, a.toInt8.toInt32 = v := ⟨_, rfl⟩
  have w1x := zi2b rfl (by omega) (by omega) w1e
  have w1 : (-128) ≤ w1v.toInt ∧ w1v.toInt ≤ 127 := by rw [← w1e]; exact znb _
  refine zs_i2b (pc := 1) t77_1 (c := w1v) w1e ?_
  refine zs_istore (pc := 2) t77_2 (ls' := [(4, .int w1v), (0, .ref 5), (1, .int a), (2, .int (0 : Int32)), (3, .int (8 : Int32))]) (zml mf77 (by decide)) rfl ?_
  refine zs_iload_n (pc := 4) t77_4 rfl ?_
  refine zs_istore (pc := 5) t77_5 (ls' := [(5, .int (0 : Int32)), (4, .int w1v), (0, .ref 5), (1, .int a), (2, .int (0 : Int32)), (3, .int (8 : Int32))]) (zml mf77 (by decide)) rfl ?_
  refine zs_iload (pc := 7) t77_7 rfl ?_
  refine zs_iload_n (pc := 9) t77_9 rfl ?_
  refine zs_icmp_geF (pc := 10) t77_10 li0 li8 (by decide) ?_
  refine zs_aload_n (pc := 13) t77_13 rfl ?_
  refine zs_iload (pc := 14) t77_14 rfl ?_
  have w2 := zrg (zI M 5 0)
  have w3 : (zI M 5 0).toInt = 110 := by rw [x6 5 0 (by decide)]; decide
  refine zs_bald (pc := 16) t77_16 (j := 0) (Or.inl (zk1 (hs.k fk_zMc_5))) li0 (zk2 (hs.k fk_zMc_5) (by decide)) rfl ?_
  refine zs_iload (pc := 17) t77_17 rfl ?_
  by_cases w4 : (zI M 5 0).toInt ≠ w1v.toInt
  · refine zs_icmp_neT (pc := 19) t77_19 rfl rfl (by omega) ?_
    refine zs_iinc (pc := 25) t77_25 (ls' := [(5, .int (1 : Int32)), (4, .int w1v), (0, .ref 5), (1, .int a), (2, .int (0 : Int32)), (3, .int (8 : Int32))]) (zml mf77 (by decide)) rfl (c := 1) (by decide) rfl ?_
    refine zs_goto (pc := 28) t77_28 ?_
    refine zs_iload (pc := 7) t77_7 rfl ?_
    refine zs_iload_n (pc := 9) t77_9 rfl ?_
    refine zs_icmp_geF (pc := 10) t77_10 li1 li8 (by decide) ?_
    refine zs_aload_n (pc := 13) t77_13 rfl ?_
    refine zs_iload (pc := 14) t77_14 rfl ?_
    have w5 := zrg (zI M 5 1)
    have w6 : (zI M 5 1).toInt = 104 := by rw [x6 5 1 (by decide)]; decide
    refine zs_bald (pc := 16) t77_16 (j := 1) (Or.inl (zk1 (hs.k fk_zMc_5))) li1 (zk2 (hs.k fk_zMc_5) (by decide)) rfl ?_
    refine zs_iload (pc := 17) t77_17 rfl ?_
    by_cases w7 : (zI M 5 1).toInt ≠ w1v.toInt
    · refine zs_icmp_neT (pc := 19) t77_19 rfl rfl (by omega) ?_
      refine zs_iinc (pc := 25) t77_25 (ls' := [(5, .int (2 : Int32)), (4, .int w1v), (0, .ref 5), (1, .int a), (2, .int (0 : Int32)), (3, .int (8 : Int32))]) (zml mf77 (by decide)) rfl (c := 2) (by decide) rfl ?_
      refine zs_goto (pc := 28) t77_28 ?_
      refine zs_iload (pc := 7) t77_7 rfl ?_
      refine zs_iload_n (pc := 9) t77_9 rfl ?_
      refine zs_icmp_geF (pc := 10) t77_10 li2 li8 (by decide) ?_
      refine zs_aload_n (pc := 13) t77_13 rfl ?_
      refine zs_iload (pc := 14) t77_14 rfl ?_
      have w8 := zrg (zI M 5 2)
      have w9 : (zI M 5 2).toInt = 118 := by rw [x6 5 2 (by decide)]; decide
      refine zs_bald (pc := 16) t77_16 (j := 2) (Or.inl (zk1 (hs.k fk_zMc_5))) li2 (zk2 (hs.k fk_zMc_5) (by decide)) rfl ?_
      refine zs_iload (pc := 17) t77_17 rfl ?_
      by_cases w10 : (zI M 5 2).toInt ≠ w1v.toInt
      · refine zs_icmp_neT (pc := 19) t77_19 rfl rfl (by omega) ?_
        refine zs_iinc (pc := 25) t77_25 (ls' := [(5, .int (3 : Int32)), (4, .int w1v), (0, .ref 5), (1, .int a), (2, .int (0 : Int32)), (3, .int (8 : Int32))]) (zml mf77 (by decide)) rfl (c := 3) (by decide) rfl ?_
        refine zs_goto (pc := 28) t77_28 ?_
        refine zs_iload (pc := 7) t77_7 rfl ?_
        refine zs_iload_n (pc := 9) t77_9 rfl ?_
        refine zs_icmp_geF (pc := 10) t77_10 li3 li8 (by decide) ?_
        refine zs_aload_n (pc := 13) t77_13 rfl ?_
        refine zs_iload (pc := 14) t77_14 rfl ?_
        have w11 := zrg (zI M 5 3)
        have w12 : (zI M 5 3).toInt = 103 := by rw [x6 5 3 (by decide)]; decide
        refine zs_bald (pc := 16) t77_16 (j := 3) (Or.inl (zk1 (hs.k fk_zMc_5))) li3 (zk2 (hs.k fk_zMc_5) (by decide)) rfl ?_
        refine zs_iload (pc := 17) t77_17 rfl ?_
        by_cases w13 : (zI M 5 3).toInt ≠ w1v.toInt
        · refine zs_icmp_neT (pc := 19) t77_19 rfl rfl (by omega) ?_
          refine zs_iinc (pc := 25) t77_25 (ls' := [(5, .int (4 : Int32)), (4, .int w1v), (0, .ref 5), (1, .int a), (2, .int (0 : Int32)), (3, .int (8 : Int32))]) (zml mf77 (by decide)) rfl (c := 4) (by decide) rfl ?_
          refine zs_goto (pc := 28) t77_28 ?_
          refine zs_iload (pc := 7) t77_7 rfl ?_
          refine zs_iload_n (pc := 9) t77_9 rfl ?_
          refine zs_icmp_geF (pc := 10) t77_10 li4 li8 (by decide) ?_
          refine zs_aload_n (pc := 13) t77_13 rfl ?_
          refine zs_iload (pc := 14) t77_14 rfl ?_
          have w14 := zrg (zI M 5 4)
          have w15 : (zI M 5 4).toInt = 109 := by rw [x6 5 4 (by decide)]; decide
          refine zs_bald (pc := 16) t77_16 (j := 4) (Or.inl (zk1 (hs.k fk_zMc_5))) li4 (zk2 (hs.k fk_zMc_5) (by decide)) rfl ?_
          refine zs_iload (pc := 17) t77_17 rfl ?_
          by_cases w16 : (zI M 5 4).toInt ≠ w1v.toInt
          · refine zs_icmp_neT (pc := 19) t77_19 rfl rfl (by omega) ?_
            refine zs_iinc (pc := 25) t77_25 (ls' := [(5, .int (5 : Int32)), (4, .int w1v), (0, .ref 5), (1, .int a), (2, .int (0 : Int32)), (3, .int (8 : Int32))]) (zml mf77 (by decide)) rfl (c := 5) (by decide) rfl ?_
            refine zs_goto (pc := 28) t77_28 ?_
            refine zs_iload (pc := 7) t77_7 rfl ?_
            refine zs_iload_n (pc := 9) t77_9 rfl ?_
            refine zs_icmp_geF (pc := 10) t77_10 li5 li8 (by decide) ?_
            refine zs_aload_n (pc := 13) t77_13 rfl ?_
            refine zs_iload (pc := 14) t77_14 rfl ?_
            have w17 := zrg (zI M 5 5)
            have w18 : (zI M 5 5).toInt = 108 := by rw [x6 5 5 (by decide)]; decide
            refine zs_bald (pc := 16) t77_16 (j := 5) (Or.inl (zk1 (hs.k fk_zMc_5))) li5 (zk2 (hs.k fk_zMc_5) (by decide)) rfl ?_
            refine zs_iload (pc := 17) t77_17 rfl ?_
            by_cases w19 : (zI M 5 5).toInt ≠ w1v.toInt
            · refine zs_icmp_neT (pc := 19) t77_19 rfl rfl (by omega) ?_
              refine zs_iinc (pc := 25) t77_25 (ls' := [(5, .int (6 : Int32)), (4, .int w1v), (0, .ref 5), (1, .int a), (2, .int (0 : Int32)), (3, .int (8 : Int32))]) (zml mf77 (by decide)) rfl (c := 6) (by decide) rfl ?_
              refine zs_goto (pc := 28) t77_28 ?_
              refine zs_iload (pc := 7) t77_7 rfl ?_
              refine zs_iload_n (pc := 9) t77_9 rfl ?_
              refine zs_icmp_geF (pc := 10) t77_10 li6 li8 (by decide) ?_
              refine zs_aload_n (pc := 13) t77_13 rfl ?_
              refine zs_iload (pc := 14) t77_14 rfl ?_
              have w20 := zrg (zI M 5 6)
              have w21 : (zI M 5 6).toInt = 117 := by rw [x6 5 6 (by decide)]; decide
              refine zs_bald (pc := 16) t77_16 (j := 6) (Or.inl (zk1 (hs.k fk_zMc_5))) li6 (zk2 (hs.k fk_zMc_5) (by decide)) rfl ?_
              refine zs_iload (pc := 17) t77_17 rfl ?_
              by_cases w22 : (zI M 5 6).toInt ≠ w1v.toInt
              · refine zs_icmp_neT (pc := 19) t77_19 rfl rfl (by omega) ?_
                refine zs_iinc (pc := 25) t77_25 (ls' := [(5, .int (7 : Int32)), (4, .int w1v), (0, .ref 5), (1, .int a), (2, .int (0 : Int32)), (3, .int (8 : Int32))]) (zml mf77 (by decide)) rfl (c := 7) (by decide) rfl ?_
                refine zs_goto (pc := 28) t77_28 ?_
                refine zs_iload (pc := 7) t77_7 rfl ?_
                refine zs_iload_n (pc := 9) t77_9 rfl ?_
                refine zs_icmp_geF (pc := 10) t77_10 li7 li8 (by decide) ?_
                refine zs_aload_n (pc := 13) t77_13 rfl ?_
                refine zs_iload (pc := 14) t77_14 rfl ?_
                have w23 := zrg (zI M 5 7)
                have w24 : (zI M 5 7).toInt = 111 := by rw [x6 5 7 (by decide)]; decide
                refine zs_bald (pc := 16) t77_16 (j := 7) (Or.inl (zk1 (hs.k fk_zMc_5))) li7 (zk2 (hs.k fk_zMc_5) (by decide)) rfl ?_
                refine zs_iload (pc := 17) t77_17 rfl ?_
                by_cases w25 : (zI M 5 7).toInt ≠ w1v.toInt
                · refine zs_icmp_neT (pc := 19) t77_19 rfl rfl (by omega) ?_
                  refine zs_iinc (pc := 25) t77_25 (ls' := [(5, .int (8 : Int32)), (4, .int w1v), (0, .ref 5), (1, .int a), (2, .int (0 : Int32)), (3, .int (8 : Int32))]) (zml mf77 (by decide)) rfl (c := 8) (by decide) rfl ?_
                  refine zs_goto (pc := 28) t77_28 ?_
                  refine zs_iload (pc := 7) t77_7 rfl ?_
                  refine zs_iload_n (pc := 9) t77_9 rfl ?_
                  refine zs_icmp_geT (pc := 10) t77_10 li8 li8 (by decide) ?_
                  refine zs_iconst (pc := 31) t77_31 (v := -1) (by decide) ?_
                  exact zs_iret (pc := 32) t77_32 mr77 (by decide) (hQ _ (by unfold zlx; first | omega | ((repeat (first | rw [if_pos (by omega)] | rw [if_neg (by omega)])); first | omega | decide)) (by decide) (by decide))
                · refine zs_icmp_neF (pc := 19) t77_19 rfl rfl (by omega) ?_
                  refine zs_iload (pc := 22) t77_22 rfl ?_
                  exact zs_iret (pc := 24) t77_24 mr77 (by decide) (hQ _ (by unfold zlx; first | omega | ((repeat (first | rw [if_pos (by omega)] | rw [if_neg (by omega)])); first | omega | decide)) (by decide) (by decide))
              · refine zs_icmp_neF (pc := 19) t77_19 rfl rfl (by omega) ?_
                refine zs_iload (pc := 22) t77_22 rfl ?_
                exact zs_iret (pc := 24) t77_24 mr77 (by decide) (hQ _ (by unfold zlx; first | omega | ((repeat (first | rw [if_pos (by omega)] | rw [if_neg (by omega)])); first | omega | decide)) (by decide) (by decide))
            · refine zs_icmp_neF (pc := 19) t77_19 rfl rfl (by omega) ?_
              refine zs_iload (pc := 22) t77_22 rfl ?_
              exact zs_iret (pc := 24) t77_24 mr77 (by decide) (hQ _ (by unfold zlx; first | omega | ((repeat (first | rw [if_pos (by omega)] | rw [if_neg (by omega)])); first | omega | decide)) (by decide) (by decide))
          · refine zs_icmp_neF (pc := 19) t77_19 rfl rfl (by omega) ?_
            refine zs_iload (pc := 22) t77_22 rfl ?_
            exact zs_iret (pc := 24) t77_24 mr77 (by decide) (hQ _ (by unfold zlx; first | omega | ((repeat (first | rw [if_pos (by omega)] | rw [if_neg (by omega)])); first | omega | decide)) (by decide) (by decide))
        · refine zs_icmp_neF (pc := 19) t77_19 rfl rfl (by omega) ?_
          refine zs_iload (pc := 22) t77_22 rfl ?_
          exact zs_iret (pc := 24) t77_24 mr77 (by decide) (hQ _ (by unfold zlx; first | omega | ((repeat (first | rw [if_pos (by omega)] | rw [if_neg (by omega)])); first | omega | decide)) (by decide) (by decide))
      · refine zs_icmp_neF (pc := 19) t77_19 rfl rfl (by omega) ?_
        refine zs_iload (pc := 22) t77_22 rfl ?_
        exact zs_iret (pc := 24) t77_24 mr77 (by decide) (hQ _ (by unfold zlx; first | omega | ((repeat (first | rw [if_pos (by omega)] | rw [if_neg (by omega)])); first | omega | decide)) (by decide) (by decide))
    · refine zs_icmp_neF (pc := 19) t77_19 rfl rfl (by omega) ?_
      refine zs_iload (pc := 22) t77_22 rfl ?_
      exact zs_iret (pc := 24) t77_24 mr77 (by decide) (hQ _ (by unfold zlx; first | omega | ((repeat (first | rw [if_pos (by omega)] | rw [if_neg (by omega)])); first | omega | decide)) (by decide) (by decide))
  · refine zs_icmp_neF (pc := 19) t77_19 rfl rfl (by omega) ?_
    refine zs_iload (pc := 22) t77_22 rfl ?_
    exact zs_iret (pc := 24) t77_24 mr77 (by decide) (hQ _ (by unfold zlx; first | omega | ((repeat (first | rw [if_pos (by omega)] | rw [if_neg (by omega)])); first | omega | decide)) (by decide) (by decide))
theorem X72_4 {X : zX} {l : Launch} {M : zM} {Q : Option Value → zM → Prop} {a : Int32} (hs : zSk zMc M) (hI : zIv cLo cHi M) (ha : 0 ≤ a.toInt ∧ a.toInt ≤ 255) (hQ : ∀ v : Int32, (v.toInt = zlx a.toInt) → (-1) ≤ v.toInt → v.toInt ≤ 7 → Q (some (.int v)) M) : zCall X l 3 0 0 72 [.ref 4, .int a] M Q := by
  have ga := zrg a
  refine zs_in (by decide) mf72 (Nat.le_of_ble_eq_true rfl) ?_
  show zGo X l 3 0 0 72 0 [(0, .ref 4), (1, .int a)] [] M _
  refine zGo.zou6 (fun x6 => ?_)
  refine zs_aload_n (pc := 0) t72_0 rfl ?_
  refine zs_iload_n (pc := 1) t72_1 rfl ?_
  refine zs_iconst (pc := 2) t72_2 (v := 0) (by decide) ?_
  refine zs_invV (pc := 3) (k := 4) (as' := [.int a, .int (0 : Int32)]) (st := []) t72_3 mf73 rfl rfl (Or.inr ⟨rfl, rfl⟩) ⟨by decide, by decide, Nat.le_of_ble_eq_true rfl, Nat.le_of_ble_eq_true rfl⟩ (zs_in (by decide) mf73 (Nat.le_of_ble_eq_true rfl) ?_) (fun _ _ q => q)
  show zGo X l 2 0 0 73 0 [(0, .ref 4), (1, .int a), (2, .int (0 : Int32))] [] M _
  refine zs_aload_n (pc := 0) t73_0 rfl ?_
  refine zs_invV (pc := 1) (k := 4) (as' := []) (st := []) t73_1 mf74 rfl rfl (Or.inr ⟨rfl, rfl⟩) ⟨by decide, by decide, Nat.le_of_ble_eq_true rfl, Nat.le_of_ble_eq_true rfl⟩ (zs_in (by decide) mf74 (Nat.le_of_ble_eq_true rfl) ?_) (fun _ _ q => q)
  show zGo X l 0 0 0 74 0 [(0, .ref 4)] [] M _
  refine zs_getstatic (pc := 0) t74_0 (v := .int 1) rfl ?_
  refine zs_if_eqF (pc := 3) t74_3 li1 (by decide) ?_
  refine zs_aload_n (pc := 6) t74_6 rfl ?_
  refine zs_gets (pc := 7) t74_7 (v := .int (0 : Int32)) rfl ?_
  refine zs_if_neF (pc := 10) t74_10 li0 (by decide) ?_
  refine zs_iconst (pc := 13) t74_13 (v := 1) (by decide) ?_
  refine zs_goto (pc := 14) t74_14 ?_
  refine zs_iret (pc := 18) t74_18 mr74 (by decide) ?_
  show zGo X l 2 0 0 73 4 [(0, .ref 4), (1, .int a), (2, .int (0 : Int32))] [.int (1 : Int32)] M _
  refine zs_if_eqF (pc := 4) t73_4 li1 (by decide) ?_
  refine zs_aload_n (pc := 7) t73_7 rfl ?_
  refine zs_gets (pc := 8) t73_8 (v := .ref 5) rfl ?_
  refine zs_iload_n (pc := 11) t73_11 rfl ?_
  refine zs_iload_n (pc := 12) t73_12 rfl ?_
  refine zs_aload_n (pc := 13) t73_13 rfl ?_
  refine zs_invV (pc := 14) (k := 4) (as' := []) (st := [.int (0 : Int32), .int a, .ref 5]) t73_14 mf6 rfl rfl (Or.inr ⟨rfl, rfl⟩) ⟨by decide, by decide, Nat.le_of_ble_eq_true rfl, Nat.le_of_ble_eq_true rfl⟩ (zs_in (by decide) mf6 (Nat.le_of_ble_eq_true rfl) ?_) (fun _ _ q => q)
  show zGo X l 1 0 0 6 0 [(0, .ref 4)] [] M _
  refine zs_aload_n (pc := 0) t6_0 rfl ?_
  refine zs_gets (pc := 1) t6_1 (v := .ref 5) rfl ?_
  refine zs_alen (pc := 4) t6_4 (by decide) (zk3 (hs.k fk_zMc_5) (by decide)) (zk4 (hs.k fk_zMc_5)) (v := 8) (by decide) ?_
  refine zs_aload_n (pc := 5) t6_5 rfl ?_
  refine zs_invV (pc := 6) (k := 4) (as' := []) (st := [.int (8 : Int32)]) t6_6 mf7 rfl rfl (Or.inr ⟨rfl, rfl⟩) ⟨by decide, by decide, Nat.le_of_ble_eq_true rfl, Nat.le_of_ble_eq_true rfl⟩ (zs_in (by decide) mf7 (Nat.le_of_ble_eq_true rfl) ?_) (fun _ _ q => q)
  show zGo X l 0 0 0 7 0 [(0, .ref 4)] [] M _
  refine zs_getstatic (pc := 0) t7_0 (v := .int 1) rfl ?_
  refine zs_if_eqF (pc := 3) t7_3 li1 (by decide) ?_
  refine zs_aload_n (pc := 6) t7_6 rfl ?_
  refine zs_gets (pc := 7) t7_7 (v := .int (0 : Int32)) rfl ?_
  refine zs_goto (pc := 10) t7_10 ?_
  refine zs_iret (pc := 14) t7_14 mr7 (by decide) ?_
  show zGo X l 1 0 0 6 9 [(0, .ref 4)] [.int (0 : Int32), .int (8 : Int32)] M _
  refine zs_ishr (pc := 9) t6_9 (c := 8) (by decide) ?_
  refine zs_iret (pc := 10) t6_10 mr6 (by decide) ?_
  show zGo X l 2 0 0 73 17 [(0, .ref 4), (1, .int a), (2, .int (0 : Int32))] [.int (8 : Int32), .int (0 : Int32), .int a, .ref 5] M _
  refine zs_invS (pc := 17) (as := [.ref 5, .int a, .int (0 : Int32), .int (8 : Int32)]) (st := []) t73_17 (by decide) mf75 rfl rfl ⟨by decide, by decide, Nat.le_of_ble_eq_true rfl, Nat.le_of_ble_eq_true rfl⟩ (zs_in (by decide) mf75 (Nat.le_of_ble_eq_true rfl) ?_) (fun _ _ q => q)
  show zGo X l 1 0 0 75 0 [(0, .ref 5), (1, .int a), (2, .int (0 : Int32)), (3, .int (8 : Int32))] [] M _
  refine zs_iload_n (pc := 0) t75_0 rfl ?_
  refine zs_invS (pc := 1) (as := [.int a]) (st := []) t75_1 (by decide) mf76 rfl rfl ⟨by decide, by decide, Nat.le_of_ble_eq_true rfl, Nat.le_of_ble_eq_true rfl⟩ (zs_in (by decide) mf76 (Nat.le_of_ble_eq_true rfl) ?_) (fun _ _ q => q)
  show zGo X l 0 0 0 76 0 [(0, .int a)] [] M _
  refine zs_iload_n (pc := 0) t76_0 rfl ?_
  refine zs_if_ltF (pc := 1) t76_1 rfl (by omega) ?_
  refine zs_iload_n (pc := 4) t76_4 rfl ?_
  refine zs_sipush (pc := 5) t76_5 (v := 255) (by decide) ?_
  refine zs_icmp_gtF (pc := 8) t76_8 rfl li255 (by omega) ?_
  refine zs_iconst (pc := 11) t76_11 (v := 1) (by decide) ?_
  refine zs_goto (pc := 12) t76_12 ?_
  refine zs_iret (pc := 16) t76_16 mr76 (by decide) ?_
  show zGo X l 1 0 0 75 4 [(0, .ref 5), (1, .int a), (2, .int (0 : Int32)), (3, .int (8 : Int32))] [.int (1 : Int32)] M _
  refine zs_if_neT (pc := 4) t75_4 li1 (by decide) ?_
  refine zs_iload_n (pc := 9) t75_9 rfl ?_
  refine zs_iconst (pc := 10) t75_10 (v := 0) (by decide) ?_
  refine zs_invS (pc := 11) (as := [.int (0 : Int32), .int (0 : Int32)]) (st := []) t75_11 (by decide) mf21 rfl rfl ⟨by decide, by decide, Nat.le_of_ble_eq_true rfl, Nat.le_of_ble_eq_true rfl⟩ (zs_in (by decide) mf21 (Nat.le_of_ble_eq_true rfl) ?_) (fun _ _ q => q)
  show zGo X l 0 0 0 21 0 [(0, .int (0 : Int32)), (1, .int (0 : Int32))] [] M _
  refine zs_iload_n (pc := 0) t21_0 rfl ?_
  refine zs_iload_n (pc := 1) t21_1 rfl ?_
  refine zs_icmp_ltF (pc := 2) t21_2 li0 li0 (by decide) ?_
  refine zs_iload_n (pc := 5) t21_5 rfl ?_
  refine zs_goto (pc := 6) t21_6 ?_
  refine zs_iret (pc := 10) t21_10 mr21 (by decide) ?_
  show zGo X l 1 0 0 75 14 [(0, .ref 5), (1, .int a), (2, .int (0 : Int32)), (3, .int (8 : Int32))] [.int (0 : Int32)] M _
  refine zs_istore_n (pc := 14) t75_14 (ls' := [(2, .int (0 : Int32)), (0, .ref 5), (1, .int a), (3, .int (8 : Int32))]) (zml mf75 (by decide)) rfl ?_
  refine zs_iload_n (pc := 15) t75_15 rfl ?_
  refine zs_aload_n (pc := 16) t75_16 rfl ?_
  refine zs_alen (pc := 17) t75_17 (by decide) (zk3 (hs.k fk_zMc_5) (by decide)) (zk4 (hs.k fk_zMc_5)) (v := 8) (by decide) ?_
  refine zs_invS (pc := 18) (as := [.int (8 : Int32), .int (8 : Int32)]) (st := []) t75_18 (by decide) mf20 rfl rfl ⟨by decide, by decide, Nat.le_of_ble_eq_true rfl, Nat.le_of_ble_eq_true rfl⟩ (zs_in (by decide) mf20 (Nat.le_of_ble_eq_true rfl) ?_) (fun _ _ q => q)
  show zGo X l 0 0 0 20 0 [(0, .int (8 : Int32)), (1, .int (8 : Int32))] [] M _
  refine zs_iload_n (pc := 0) t20_0 rfl ?_
  refine zs_iload_n (pc := 1) t20_1 rfl ?_
  refine zs_icmp_gtF (pc := 2) t20_2 li8 li8 (by decide) ?_
  refine zs_iload_n (pc := 5) t20_5 rfl ?_
  refine zs_goto (pc := 6) t20_6 ?_
  refine zs_iret (pc := 10) t20_10 mr20 (by decide) ?_
  show zGo X l 1 0 0 75 21 [(2, .int (0 : Int32)), (0, .ref 5), (1, .int a), (3, .int (8 : Int32))] [.int (8 : Int32)] M _
  refine zs_istore_n (pc := 21) t75_21 (ls' := [(3, .int (8 : Int32)), (2, .int (0 : Int32)), (0, .ref 5), (1, .int a)]) (zml mf75 (by decide)) rfl ?_
  refine zs_iload_n (pc := 22) t75_22 rfl ?_
  refine zs_iload_n (pc := 23) t75_23 rfl ?_
  refine zs_icmp_ltT (pc := 24) t75_24 li0 li8 (by decide) ?_
  refine zs_aload_n (pc := 29) t75_29 rfl ?_
  refine zs_iload_n (pc := 30) t75_30 rfl ?_
  refine zs_iload_n (pc := 31) t75_31 rfl ?_
  refine zs_iload_n (pc := 32) t75_32 rfl ?_
  refine zs_invS (pc := 33) (as := [.ref 5, .int a, .int (0 : Int32), .int (8 : Int32)]) (st := []) t75_33 (by decide) mf77 rfl rfl ⟨by decide, by decide, Nat.le_of_ble_eq_true rfl, Nat.le_of_ble_eq_true rfl⟩ (X77_5 hs hI ⟨by omega, by omega⟩ ?_) (fun _ _ q => q)
  intro w1v w1x0 w1a w1b
  have w2 : zlx a.toInt = zlx (a.toInt) := congrArg zlx rfl
  show zGo X l 1 0 0 75 36 [(3, .int (8 : Int32)), (2, .int (0 : Int32)), (0, .ref 5), (1, .int a)] [.int w1v] M _
  refine zs_iret (pc := 36) t75_36 mr75 rfl ?_
  show zGo X l 2 0 0 73 20 [(0, .ref 4), (1, .int a), (2, .int (0 : Int32))] [.int w1v] M _
  refine zs_goto (pc := 20) t73_20 ?_
  refine zs_iret (pc := 36) t73_36 mr73 rfl ?_
  show zGo X l 3 0 0 72 6 [(0, .ref 4), (1, .int a)] [.int w1v] M _
  exact zs_iret (pc := 6) t72_6 mr72 rfl (hQ _ (by first | assumption | omega) (by omega) (by omega))
theorem X71_161 {X : zX} {l : Launch} {M : zM} {Q : Option Value → zM → Prop} (hs : zSk zMc M) (hI : zIv cLo cHi M) {g : Nat → Int} {n : Int} (u0 : (zI M 161 5).toInt = -1) (u1 : (zI M 161 3).toInt ≤ (zI M 161 2).toInt) (x0 : zTr M g n) (hQ : ∀ (M' : zM) (v : Int32), zSk zMc M' → zIv cLo cHi M' → zFr [(161, 161, some 3), (161, 161, some 4), (161, 161, some 5)] M M' → (∀ (p : Nat) (t : Int), (zI M 161 3).toInt = (p : Int) → (zI M 161 4).toInt = t → zoc M' n (pTh g (p, t))) → Q (some (.int v)) M') : zCall X l 4 0 0 71 [.ref 161] M Q := by
  refine zs_in (by decide) mf71 (Nat.le_of_ble_eq_true rfl) ?_
  show zGo X l 4 0 0 71 0 [(0, .ref 161)] [] M _
  have hn := x0.2.2
  have w1 := ib161_2 hI
  have w2 : (zI M 161 2).toInt = (zI M 161 2).toInt := (congrArg Int32.toInt rfl).trans rfl
  have w3 := ib161_3 hI
  have w4 : (zI M 161 3).toInt = (zI M 161 3).toInt := (congrArg Int32.toInt rfl).trans rfl
  have w5 := ib161_4 hI
  have w6 : (zI M 161 4).toInt = (zI M 161 4).toInt := (congrArg Int32.toInt rfl).trans rfl
  have w7 := zrg (zI M 161 5)
  have w8 : (zI M 161 5).toInt = (zI M 161 5).toInt := (congrArg Int32.toInt rfl).trans rfl
  obtain ⟨w9n, w9⟩ : ∃ n : Nat, (zI M 161 3).toInt = (n : Int) := ⟨((zI M 161 3).toInt).toNat, by omega⟩
  refine zs_aload_n (pc := 0) t71_0 rfl ?_
  have w10 : (zI M 161 5).toInt = (zI M 161 5).toInt := (congrArg Int32.toInt rfl).trans rfl
  have w11 : (zI M 161 5).toInt = (zI M 161 5).toInt := (congrArg Int32.toInt rfl).trans rfl
  refine zs_invV (pc := 1) (k := 161) (as' := []) (st := []) t71_1 mf68 rfl rfl (Or.inl ⟨by decide, (zk1 (hs.k fk_zMc_161))⟩) ⟨by decide, by decide, Nat.le_of_ble_eq_true rfl, Nat.le_of_ble_eq_true rfl⟩ (P68 hs hI ?_) (fun _ _ q => q)
  have w13 : (zI M 161 3).toInt = (zI M 161 3).toInt := (congrArg Int32.toInt rfl).trans rfl
  have w12 : (zpk M).toInt = g w9n := zpk.tr x0 (by omega) (by omega)
  have w14 := zTr.rg x0 w9n
  show zGo X l 4 0 0 71 4 [(0, .ref 161)] [.int (zpk M)] M _
  refine zs_istore_n (pc := 4) t71_4 (ls' := [(1, .int (zpk M)), (0, .ref 161)]) (zml mf71 (by decide)) rfl ?_
  refine zs_iload_n (pc := 5) t71_5 rfl ?_
  refine zs_iconst (pc := 6) t71_6 (v := -1) (by decide) ?_
  by_cases w15 : (g w9n) ≠ (-1)
  · refine zs_icmp_neT (pc := 7) t71_7 w12 lin1 (by omega) ?_
    refine zs_ldcs (pc := 14) t71_14 (by decide) ?_
    refine zs_iload_n (pc := 16) t71_16 rfl ?_
    obtain ⟨w16v, w16e⟩ : ∃ v, ((zpk M).toUInt32 % 65536).toInt32 = v := ⟨_, rfl⟩
    have w16 : w16v.toInt = (g w9n) := zi2c w12 (by omega) (by omega) w16e
    refine zs_i2c (pc := 17) t71_17 (c := w16v) w16e ?_
    have w17 : w16v.toInt = (g w9n) := w16
    refine zs_invV (pc := 18) (k := 4) (as' := [.int w16v]) (st := []) t71_18 mf72 rfl rfl (Or.inr ⟨rfl, rfl⟩) ⟨by decide, by decide, Nat.le_of_ble_eq_true rfl, Nat.le_of_ble_eq_true rfl⟩ (X72_4 hs hI ⟨by omega, by omega⟩ ?_) (fun _ _ q => q)
    intro w18v w18x0 w18a w18b
    have w19 : zlx w16v.toInt = zlx ((g w9n)) := congrArg zlx w16
    show zGo X l 4 0 0 71 21 [(1, .int (zpk M)), (0, .ref 161)] [.int w18v] M _
    refine zs_istore_n (pc := 21) t71_21 (ls' := [(2, .int w18v), (1, .int (zpk M)), (0, .ref 161)]) (zml mf71 (by decide)) rfl ?_
    refine zs_aload_n (pc := 22) t71_22 rfl ?_
    refine zs_get (pc := 23) t71_23 (by decide) (zk1 (hs.k fk_zMc_161)) (zfvi rfl rfl) ?_
    refine zs_bipush (pc := 26) t71_26 (v := 30) (by decide) ?_
    by_cases w20 : 30 ≤ (zI M 161 4).toInt
    · refine zs_icmp_geT (pc := 28) t71_28 rfl li30 (by omega) ?_
      refine zs_aload_n (pc := 42) t71_42 rfl ?_
      refine zs_aload_n (pc := 43) t71_43 rfl ?_
      refine zs_get (pc := 44) t71_44 (by decide) (zk1 (hs.k fk_zMc_161)) (zfvi rfl rfl) ?_
      refine zs_invV (pc := 47) (k := 161) (as' := [.int (zI M 161 3)]) (st := []) t71_47 mf78 rfl rfl (Or.inl ⟨by decide, (zk1 (hs.k fk_zMc_161))⟩) ⟨by decide, by decide, Nat.le_of_ble_eq_true rfl, Nat.le_of_ble_eq_true rfl⟩ (zs_in (by decide) mf78 (Nat.le_of_ble_eq_true rfl) ?_) (fun _ _ q => q)
      show zGo X l 0 0 0 78 0 [(0, .ref 161), (1, .int (zI M 161 3))] [] M _
      refine zs_aload_n (pc := 0) t78_0 rfl ?_
      refine zs_get (pc := 1) t78_1 (by decide) (zk1 (hs.k fk_zMc_161)) (zfvi rfl rfl) ?_
      refine zs_iconst (pc := 4) t78_4 (v := -1) (by decide) ?_
      refine zs_icmp_neF (pc := 5) t78_5 rfl lin1 (by omega) ?_
      refine zs_aload_n (pc := 8) t78_8 rfl ?_
      refine zs_iload_n (pc := 9) t78_9 rfl ?_
      have w21 : zIv cLo cHi (zsI M 161 5 (zI M 161 3)) := zIv.put hI (show (-2147483648) ≤ (zI M 161 3).toInt ∧ (zI M 161 3).toInt ≤ 2147483647 from zrg (zI M 161 3))
      refine zs_putI (pc := 10) t78_10 (zk1 (hs.k fk_zMc_161)) rfl ?_
      refine zs_vret (pc := 13) t78_13 mr78 ?_
      show zGo X l 4 0 0 71 50 [(2, .int w18v), (1, .int (zpk M)), (0, .ref 161)] [] (zsI M 161 5 (zI M 161 3)) _
      refine zs_iconst (pc := 50) t71_50 (v := 0) (by decide) ?_
      have w22 : (zI (zsI M 161 5 (zI M 161 3)) 161 5).toInt = (zI M 161 3).toInt := (congrArg Int32.toInt zIs).trans rfl
      have w23 : (zI (zsI M 161 5 (zI M 161 3)) 161 3).toInt = (zI M 161 3).toInt := (congrArg Int32.toInt ((zIoj (by decide)).trans rfl)).trans rfl
      have w24 : (zI (zsI M 161 5 (zI M 161 3)) 161 4).toInt = (zI M 161 4).toInt := (congrArg Int32.toInt ((zIoj (by decide)).trans rfl)).trans rfl
      have w25 := zlx.l (c := g w9n)
      unfold zltr at w25
      exact zs_iret (pc := 51) t71_51 mr71 (by decide) (hQ _ _ hs w21 ((zFr.refl).put rfl) (fun p t hp ht => by obtain rfl : w9n = p := (by omega); subst ht; exact (by first | exact Or.inr ⟨by omega, w9n + 1, _, pTh.l (by omega) (by unfold zltr; omega), by omega, by omega, by omega⟩ | exact Or.inl ⟨_, by omega, by omega, pTh.no (by unfold zltr; omega)⟩)))
    · refine zs_icmp_geF (pc := 28) t71_28 rfl li30 (by omega) ?_
      refine zs_iload_n (pc := 31) t71_31 rfl ?_
      by_cases w26 : 0 ≤ w18v.toInt
      · refine zs_if_geT (pc := 32) t71_32 rfl (by omega) ?_
        refine zs_aload_n (pc := 52) t71_52 rfl ?_
        refine zs_dup (pc := 53) t71_53 rfl ?_
        refine zs_get (pc := 54) t71_54 (by decide) (zk1 (hs.k fk_zMc_161)) (zfvi rfl rfl) ?_
        refine zs_iconst (pc := 57) t71_57 (v := 1) (by decide) ?_
        obtain ⟨w27v, w27e, w27⟩ := ziadd (a := (zI M 161 4)) (b := (1 : Int32)) rfl li1 (by omega) (by omega)
        refine zs_iadd (pc := 58) t71_58 (c := w27v) w27e ?_
        have w28 : zIv cLo cHi (zsI M 161 4 w27v) := zIv.put hI (show 0 ≤ w27v.toInt ∧ w27v.toInt ≤ 30 from ⟨by omega, by omega⟩)
        refine zs_putI (pc := 59) t71_59 (zk1 (hs.k fk_zMc_161)) rfl ?_
        refine zs_iload_n (pc := 62) t71_62 rfl ?_
        refine zs_if_geT (pc := 63) t71_63 rfl (by omega) ?_
        refine zs_aload_n (pc := 71) t71_71 rfl ?_
        refine zs_dup (pc := 72) t71_72 rfl ?_
        refine zs_get (pc := 73) t71_73 (by decide) (zk1 (hs.k fk_zMc_161)) (zfvi rfl ((zIoj (by decide)).trans rfl)) ?_
        refine zs_iconst (pc := 76) t71_76 (v := 1) (by decide) ?_
        obtain ⟨w29v, w29e, w29⟩ := ziadd (a := (zI M 161 3)) (b := (1 : Int32)) rfl li1 (by omega) (by omega)
        refine zs_iadd (pc := 77) t71_77 (c := w29v) w29e ?_
        have w30 : zIv cLo cHi (zsI (zsI M 161 4 w27v) 161 3 w29v) := zIv.put w28 (show 0 ≤ w29v.toInt ∧ w29v.toInt ≤ 500 from ⟨by omega, by omega⟩)
        refine zs_putI (pc := 78) t71_78 (zk1 (hs.k fk_zMc_161)) rfl ?_
        refine zs_iload_n (pc := 81) t71_81 rfl ?_
        refine zs_aload_n (pc := 82) t71_82 rfl ?_
        refine zs_get (pc := 83) t71_83 (by decide) (zk1 (hs.k fk_zMc_161)) (hs.p rfl fv_zMc_161_0) ?_
        refine zs_alen (pc := 86) t71_86 (by decide) (zk3 (hs.k fk_zMc_162) (by decide)) (zk4 (hs.k fk_zMc_162)) (v := 8) (by decide) ?_
        refine zs_icmp_geF (pc := 87) t71_87 rfl li8 (by omega) ?_
        refine zs_aload_n (pc := 90) t71_90 rfl ?_
        refine zs_get (pc := 91) t71_91 (by decide) (zk1 (hs.k fk_zMc_161)) (hs.p rfl fv_zMc_161_0) ?_
        refine zs_iload_n (pc := 94) t71_94 rfl ?_
        obtain ⟨w31n, w31⟩ : ∃ n : Nat, w18v.toInt = (n : Int) := ⟨(w18v.toInt).toNat, by omega⟩
        have w32 := zrg (zI M 162 w31n)
        refine zs_iald (pc := 95) t71_95 (j := w31n) (by decide) (zk1 (hs.k fk_zMc_162)) (show w18v.toInt = ((w31n : Nat) : Int) by omega) (zk2 (hs.k fk_zMc_162) (by omega)) ((zIo (by decide)).trans ((zIo (by decide)).trans rfl)) ?_
        refine zs_goto (pc := 96) t71_96 ?_
        have w33 : (zI (zsI (zsI M 161 4 w27v) 161 3 w29v) 161 5).toInt = (zI M 161 5).toInt := (congrArg Int32.toInt ((zIoj (by decide)).trans ((zIoj (by decide)).trans rfl))).trans rfl
        have w34 : (zI (zsI (zsI M 161 4 w27v) 161 3 w29v) 161 3).toInt = ((zI M 161 3).toInt + 1) := (congrArg Int32.toInt zIs).trans w29
        have w35 : (zI (zsI (zsI M 161 4 w27v) 161 3 w29v) 161 4).toInt = ((zI M 161 4).toInt + 1) := (congrArg Int32.toInt ((zIoj (by decide)).trans zIs)).trans w27
        have w36 := zlx.l (c := g w9n)
        unfold zltr at w36
        exact zs_iret (pc := 100) t71_100 mr71 rfl (hQ _ _ hs w30 (((zFr.refl).put rfl).put rfl) (fun p t hp ht => by obtain rfl : w9n = p := (by omega); subst ht; exact (by first | exact Or.inr ⟨by omega, w9n + 1, _, pTh.l (by omega) (by unfold zltr; omega), by omega, by omega, by omega⟩ | exact Or.inl ⟨_, by omega, by omega, pTh.no (by unfold zltr; omega)⟩)))
      · refine zs_if_geF (pc := 32) t71_32 rfl (by omega) ?_
        refine zs_iload_n (pc := 35) t71_35 rfl ?_
        refine zs_invS (pc := 36) (as := [.int (zpk M)]) (st := []) t71_36 (by decide) mf36 rfl rfl ⟨by decide, by decide, Nat.le_of_ble_eq_true rfl, Nat.le_of_ble_eq_true rfl⟩ (zs_in (by decide) mf36 (Nat.le_of_ble_eq_true rfl) ?_) (fun _ _ q => q)
        show zGo X l 0 0 0 36 0 [(0, .int (zpk M))] [] M _
        refine zs_iload_n (pc := 0) t36_0 rfl ?_
        refine zs_bipush (pc := 1) t36_1 (v := 48) (by decide) ?_
        by_cases w37 : (g w9n) < 48
        · refine zs_icmp_ltT (pc := 3) t36_3 w12 li48 (by omega) ?_
          refine zs_iconst (pc := 16) t36_16 (v := 0) (by decide) ?_
          refine zs_iret (pc := 17) t36_17 mr36 (by decide) ?_
          show zGo X l 4 0 0 71 39 [(2, .int w18v), (1, .int (zpk M)), (0, .ref 161)] [.int (0 : Int32)] M _
          refine zs_if_neF (pc := 39) t71_39 li0 (by decide) ?_
          refine zs_aload_n (pc := 42) t71_42 rfl ?_
          refine zs_aload_n (pc := 43) t71_43 rfl ?_
          refine zs_get (pc := 44) t71_44 (by decide) (zk1 (hs.k fk_zMc_161)) (zfvi rfl rfl) ?_
          refine zs_invV (pc := 47) (k := 161) (as' := [.int (zI M 161 3)]) (st := []) t71_47 mf78 rfl rfl (Or.inl ⟨by decide, (zk1 (hs.k fk_zMc_161))⟩) ⟨by decide, by decide, Nat.le_of_ble_eq_true rfl, Nat.le_of_ble_eq_true rfl⟩ (zs_in (by decide) mf78 (Nat.le_of_ble_eq_true rfl) ?_) (fun _ _ q => q)
          show zGo X l 0 0 0 78 0 [(0, .ref 161), (1, .int (zI M 161 3))] [] M _
          refine zs_aload_n (pc := 0) t78_0 rfl ?_
          refine zs_get (pc := 1) t78_1 (by decide) (zk1 (hs.k fk_zMc_161)) (zfvi rfl rfl) ?_
          refine zs_iconst (pc := 4) t78_4 (v := -1) (by decide) ?_
          refine zs_icmp_neF (pc := 5) t78_5 rfl lin1 (by omega) ?_
          refine zs_aload_n (pc := 8) t78_8 rfl ?_
          refine zs_iload_n (pc := 9) t78_9 rfl ?_
          have w38 : zIv cLo cHi (zsI M 161 5 (zI M 161 3)) := zIv.put hI (show (-2147483648) ≤ (zI M 161 3).toInt ∧ (zI M 161 3).toInt ≤ 2147483647 from zrg (zI M 161 3))
          refine zs_putI (pc := 10) t78_10 (zk1 (hs.k fk_zMc_161)) rfl ?_
          refine zs_vret (pc := 13) t78_13 mr78 ?_
          show zGo X l 4 0 0 71 50 [(2, .int w18v), (1, .int (zpk M)), (0, .ref 161)] [] (zsI M 161 5 (zI M 161 3)) _
          refine zs_iconst (pc := 50) t71_50 (v := 0) (by decide) ?_
          have w39 : (zI (zsI M 161 5 (zI M 161 3)) 161 5).toInt = (zI M 161 3).toInt := (congrArg Int32.toInt zIs).trans rfl
          have w40 : (zI (zsI M 161 5 (zI M 161 3)) 161 3).toInt = (zI M 161 3).toInt := (congrArg Int32.toInt ((zIoj (by decide)).trans rfl)).trans rfl
          have w41 : (zI (zsI M 161 5 (zI M 161 3)) 161 4).toInt = (zI M 161 4).toInt := (congrArg Int32.toInt ((zIoj (by decide)).trans rfl)).trans rfl
          have w42 := zlx.l (c := g w9n)
          unfold zltr at w42
          exact zs_iret (pc := 51) t71_51 mr71 (by decide) (hQ _ _ hs w38 ((zFr.refl).put rfl) (fun p t hp ht => by obtain rfl : w9n = p := (by omega); subst ht; exact (by first | exact Or.inr ⟨by omega, w9n + 1, _, pTh.l (by omega) (by unfold zltr; omega), by omega, by omega, by omega⟩ | exact Or.inl ⟨_, by omega, by omega, pTh.no (by unfold zltr; omega)⟩)))
        · refine zs_icmp_ltF (pc := 3) t36_3 w12 li48 (by omega) ?_
          refine zs_iload_n (pc := 6) t36_6 rfl ?_
          refine zs_bipush (pc := 7) t36_7 (v := 57) (by decide) ?_
          by_cases w43 : 57 < (g w9n)
          · refine zs_icmp_gtT (pc := 9) t36_9 w12 li57 (by omega) ?_
            refine zs_iconst (pc := 16) t36_16 (v := 0) (by decide) ?_
            refine zs_iret (pc := 17) t36_17 mr36 (by decide) ?_
            show zGo X l 4 0 0 71 39 [(2, .int w18v), (1, .int (zpk M)), (0, .ref 161)] [.int (0 : Int32)] M _
            refine zs_if_neF (pc := 39) t71_39 li0 (by decide) ?_
            refine zs_aload_n (pc := 42) t71_42 rfl ?_
            refine zs_aload_n (pc := 43) t71_43 rfl ?_
            refine zs_get (pc := 44) t71_44 (by decide) (zk1 (hs.k fk_zMc_161)) (zfvi rfl rfl) ?_
            refine zs_invV (pc := 47) (k := 161) (as' := [.int (zI M 161 3)]) (st := []) t71_47 mf78 rfl rfl (Or.inl ⟨by decide, (zk1 (hs.k fk_zMc_161))⟩) ⟨by decide, by decide, Nat.le_of_ble_eq_true rfl, Nat.le_of_ble_eq_true rfl⟩ (zs_in (by decide) mf78 (Nat.le_of_ble_eq_true rfl) ?_) (fun _ _ q => q)
            show zGo X l 0 0 0 78 0 [(0, .ref 161), (1, .int (zI M 161 3))] [] M _
            refine zs_aload_n (pc := 0) t78_0 rfl ?_
            refine zs_get (pc := 1) t78_1 (by decide) (zk1 (hs.k fk_zMc_161)) (zfvi rfl rfl) ?_
            refine zs_iconst (pc := 4) t78_4 (v := -1) (by decide) ?_
            refine zs_icmp_neF (pc := 5) t78_5 rfl lin1 (by omega) ?_
            refine zs_aload_n (pc := 8) t78_8 rfl ?_
            refine zs_iload_n (pc := 9) t78_9 rfl ?_
            have w44 : zIv cLo cHi (zsI M 161 5 (zI M 161 3)) := zIv.put hI (show (-2147483648) ≤ (zI M 161 3).toInt ∧ (zI M 161 3).toInt ≤ 2147483647 from zrg (zI M 161 3))
            refine zs_putI (pc := 10) t78_10 (zk1 (hs.k fk_zMc_161)) rfl ?_
            refine zs_vret (pc := 13) t78_13 mr78 ?_
            show zGo X l 4 0 0 71 50 [(2, .int w18v), (1, .int (zpk M)), (0, .ref 161)] [] (zsI M 161 5 (zI M 161 3)) _
            refine zs_iconst (pc := 50) t71_50 (v := 0) (by decide) ?_
            have w45 : (zI (zsI M 161 5 (zI M 161 3)) 161 5).toInt = (zI M 161 3).toInt := (congrArg Int32.toInt zIs).trans rfl
            have w46 : (zI (zsI M 161 5 (zI M 161 3)) 161 3).toInt = (zI M 161 3).toInt := (congrArg Int32.toInt ((zIoj (by decide)).trans rfl)).trans rfl
            have w47 : (zI (zsI M 161 5 (zI M 161 3)) 161 4).toInt = (zI M 161 4).toInt := (congrArg Int32.toInt ((zIoj (by decide)).trans rfl)).trans rfl
            have w48 := zlx.l (c := g w9n)
            unfold zltr at w48
            exact zs_iret (pc := 51) t71_51 mr71 (by decide) (hQ _ _ hs w44 ((zFr.refl).put rfl) (fun p t hp ht => by obtain rfl : w9n = p := (by omega); subst ht; exact (by first | exact Or.inr ⟨by omega, w9n + 1, _, pTh.l (by omega) (by unfold zltr; omega), by omega, by omega, by omega⟩ | exact Or.inl ⟨_, by omega, by omega, pTh.no (by unfold zltr; omega)⟩)))
          · refine zs_icmp_gtF (pc := 9) t36_9 w12 li57 (by omega) ?_
            refine zs_iconst (pc := 12) t36_12 (v := 1) (by decide) ?_
            refine zs_goto (pc := 13) t36_13 ?_
            refine zs_iret (pc := 17) t36_17 mr36 (by decide) ?_
            show zGo X l 4 0 0 71 39 [(2, .int w18v), (1, .int (zpk M)), (0, .ref 161)] [.int (1 : Int32)] M _
            refine zs_if_neT (pc := 39) t71_39 li1 (by decide) ?_
            refine zs_aload_n (pc := 52) t71_52 rfl ?_
            refine zs_dup (pc := 53) t71_53 rfl ?_
            refine zs_get (pc := 54) t71_54 (by decide) (zk1 (hs.k fk_zMc_161)) (zfvi rfl rfl) ?_
            refine zs_iconst (pc := 57) t71_57 (v := 1) (by decide) ?_
            obtain ⟨w49v, w49e, w49⟩ := ziadd (a := (zI M 161 4)) (b := (1 : Int32)) rfl li1 (by omega) (by omega)
            refine zs_iadd (pc := 58) t71_58 (c := w49v) w49e ?_
            have w50 : zIv cLo cHi (zsI M 161 4 w49v) := zIv.put hI (show 0 ≤ w49v.toInt ∧ w49v.toInt ≤ 30 from ⟨by omega, by omega⟩)
            refine zs_putI (pc := 59) t71_59 (zk1 (hs.k fk_zMc_161)) rfl ?_
            refine zs_iload_n (pc := 62) t71_62 rfl ?_
            refine zs_if_geF (pc := 63) t71_63 rfl (by omega) ?_
            refine zs_aload_n (pc := 66) t71_66 rfl ?_
            have w51 : (zI (zsI M 161 4 w49v) 161 5).toInt = (zI M 161 5).toInt := (congrArg Int32.toInt ((zIoj (by decide)).trans rfl)).trans rfl
            have w52 : (zI (zsI M 161 4 w49v) 161 3).toInt = (zI M 161 3).toInt := (congrArg Int32.toInt ((zIoj (by decide)).trans rfl)).trans rfl
            have w53 : (zI (zsI M 161 4 w49v) 161 2).toInt = (zI M 161 2).toInt := (congrArg Int32.toInt ((zIoj (by decide)).trans rfl)).trans rfl
            have w54 : (zI (zsI M 161 4 w49v) 161 2).toInt = (zI M 161 2).toInt := (congrArg Int32.toInt ((zIoj (by decide)).trans rfl)).trans rfl
            refine zs_invV (pc := 67) (k := 161) (as' := []) (st := []) t71_67 mf79 rfl rfl (Or.inl ⟨by decide, (zk1 (hs.k fk_zMc_161))⟩) ⟨by decide, by decide, Nat.le_of_ble_eq_true rfl, Nat.le_of_ble_eq_true rfl⟩ (X79_161 hs w50 (by omega) (by omega) (zTr.mk x0 (x0.1.put (by decide)) (fun j => (zIo (by decide))) (zIoj (by decide))) ?_) (fun _ _ q => q)
            intro w55M w55v w55s w55I w55F w55t0 w55x0
            have w55g := zrg w55v
            have w56 := zrg (zI w55M 161 5)
            have w57 := ib161_3 w55I
            have w58 : (zI (zsI M 161 4 w49v) 161 3).toInt = (zI M 161 3).toInt := (congrArg Int32.toInt ((zIoj (by decide)).trans rfl)).trans rfl
            have w55z := w55x0 w9n (by omega)
            show zGo X l 4 0 0 71 70 [(2, .int w18v), (1, .int (zpk M)), (0, .ref 161)] [.int w55v] w55M _
            have w59 : (zI w55M 161 5).toInt = (zI w55M 161 5).toInt := (congrArg Int32.toInt rfl).trans rfl
            have w60 : (zI w55M 161 3).toInt = (zI w55M 161 3).toInt := (congrArg Int32.toInt rfl).trans rfl
            have w61 : (zI w55M 161 4).toInt = ((zI M 161 4).toInt + 1) := (congrArg Int32.toInt ((w55F 161 4 rfl).trans zIs)).trans w49
            have w62 := zlx.l (c := g w9n)
            unfold zltr at w62
            exact zs_iret (pc := 70) t71_70 mr71 rfl (hQ _ _ w55s w55I (((zFr.refl).put rfl).trans (w55F.mono rfl)) (fun p t hp ht => by obtain rfl : w9n = p := (by omega); subst ht; exact (by rcases w55z with ⟨q1, q2, q3⟩ | ⟨q1, q2⟩; exact Or.inr ⟨by omega, _, _, pTh.d (by omega) (by omega) q2, q3, by omega, by omega⟩; exact Or.inl ⟨_, by omega, by omega, pTh.d5 (by omega) (by omega) q2⟩)))
  · refine zs_icmp_neF (pc := 7) t71_7 w12 lin1 (by omega) ?_
    refine zs_iconst (pc := 10) t71_10 (v := -1) (by decide) ?_
    refine zs_goto (pc := 11) t71_11 ?_
    refine zs_istore_n (pc := 21) t71_21 (ls' := [(2, .int (-1 : Int32)), (1, .int (zpk M)), (0, .ref 161)]) (zml mf71 (by decide)) rfl ?_
    refine zs_aload_n (pc := 22) t71_22 rfl ?_
    refine zs_get (pc := 23) t71_23 (by decide) (zk1 (hs.k fk_zMc_161)) (zfvi rfl rfl) ?_
    refine zs_bipush (pc := 26) t71_26 (v := 30) (by decide) ?_
    by_cases w63 : 30 ≤ (zI M 161 4).toInt
    · refine zs_icmp_geT (pc := 28) t71_28 rfl li30 (by omega) ?_
      refine zs_aload_n (pc := 42) t71_42 rfl ?_
      refine zs_aload_n (pc := 43) t71_43 rfl ?_
      refine zs_get (pc := 44) t71_44 (by decide) (zk1 (hs.k fk_zMc_161)) (zfvi rfl rfl) ?_
      refine zs_invV (pc := 47) (k := 161) (as' := [.int (zI M 161 3)]) (st := []) t71_47 mf78 rfl rfl (Or.inl ⟨by decide, (zk1 (hs.k fk_zMc_161))⟩) ⟨by decide, by decide, Nat.le_of_ble_eq_true rfl, Nat.le_of_ble_eq_true rfl⟩ (zs_in (by decide) mf78 (Nat.le_of_ble_eq_true rfl) ?_) (fun _ _ q => q)
      show zGo X l 0 0 0 78 0 [(0, .ref 161), (1, .int (zI M 161 3))] [] M _
      refine zs_aload_n (pc := 0) t78_0 rfl ?_
      refine zs_get (pc := 1) t78_1 (by decide) (zk1 (hs.k fk_zMc_161)) (zfvi rfl rfl) ?_
      refine zs_iconst (pc := 4) t78_4 (v := -1) (by decide) ?_
      refine zs_icmp_neF (pc := 5) t78_5 rfl lin1 (by omega) ?_
      refine zs_aload_n (pc := 8) t78_8 rfl ?_
      refine zs_iload_n (pc := 9) t78_9 rfl ?_
      have w64 : zIv cLo cHi (zsI M 161 5 (zI M 161 3)) := zIv.put hI (show (-2147483648) ≤ (zI M 161 3).toInt ∧ (zI M 161 3).toInt ≤ 2147483647 from zrg (zI M 161 3))
      refine zs_putI (pc := 10) t78_10 (zk1 (hs.k fk_zMc_161)) rfl ?_
      refine zs_vret (pc := 13) t78_13 mr78 ?_
      show zGo X l 4 0 0 71 50 [(2, .int (-1 : Int32)), (1, .int (zpk M)), (0, .ref 161)] [] (zsI M 161 5 (zI M 161 3)) _
      refine zs_iconst (pc := 50) t71_50 (v := 0) (by decide) ?_
      have w65 : (zI (zsI M 161 5 (zI M 161 3)) 161 5).toInt = (zI M 161 3).toInt := (congrArg Int32.toInt zIs).trans rfl
      have w66 : (zI (zsI M 161 5 (zI M 161 3)) 161 3).toInt = (zI M 161 3).toInt := (congrArg Int32.toInt ((zIoj (by decide)).trans rfl)).trans rfl
      have w67 : (zI (zsI M 161 5 (zI M 161 3)) 161 4).toInt = (zI M 161 4).toInt := (congrArg Int32.toInt ((zIoj (by decide)).trans rfl)).trans rfl
      have w68 := zlx.l (c := g w9n)
      unfold zltr at w68
      exact zs_iret (pc := 51) t71_51 mr71 (by decide) (hQ _ _ hs w64 ((zFr.refl).put rfl) (fun p t hp ht => by obtain rfl : w9n = p := (by omega); subst ht; exact (by first | exact Or.inr ⟨by omega, w9n + 1, _, pTh.l (by omega) (by unfold zltr; omega), by omega, by omega, by omega⟩ | exact Or.inl ⟨_, by omega, by omega, pTh.no (by unfold zltr; omega)⟩)))
    · refine zs_icmp_geF (pc := 28) t71_28 rfl li30 (by omega) ?_
      refine zs_iload_n (pc := 31) t71_31 rfl ?_
      refine zs_if_geF (pc := 32) t71_32 lin1 (by decide) ?_
      refine zs_iload_n (pc := 35) t71_35 rfl ?_
      refine zs_invS (pc := 36) (as := [.int (zpk M)]) (st := []) t71_36 (by decide) mf36 rfl rfl ⟨by decide, by decide, Nat.le_of_ble_eq_true rfl, Nat.le_of_ble_eq_true rfl⟩ (zs_in (by decide) mf36 (Nat.le_of_ble_eq_true rfl) ?_) (fun _ _ q => q)
      show zGo X l 0 0 0 36 0 [(0, .int (zpk M))] [] M _
      refine zs_iload_n (pc := 0) t36_0 rfl ?_
      refine zs_bipush (pc := 1) t36_1 (v := 48) (by decide) ?_
      refine zs_icmp_ltT (pc := 3) t36_3 w12 li48 (by omega) ?_
      refine zs_iconst (pc := 16) t36_16 (v := 0) (by decide) ?_
      refine zs_iret (pc := 17) t36_17 mr36 (by decide) ?_
      show zGo X l 4 0 0 71 39 [(2, .int (-1 : Int32)), (1, .int (zpk M)), (0, .ref 161)] [.int (0 : Int32)] M _
      refine zs_if_neF (pc := 39) t71_39 li0 (by decide) ?_
      refine zs_aload_n (pc := 42) t71_42 rfl ?_
      refine zs_aload_n (pc := 43) t71_43 rfl ?_
      refine zs_get (pc := 44) t71_44 (by decide) (zk1 (hs.k fk_zMc_161)) (zfvi rfl rfl) ?_
      refine zs_invV (pc := 47) (k := 161) (as' := [.int (zI M 161 3)]) (st := []) t71_47 mf78 rfl rfl (Or.inl ⟨by decide, (zk1 (hs.k fk_zMc_161))⟩) ⟨by decide, by decide, Nat.le_of_ble_eq_true rfl, Nat.le_of_ble_eq_true rfl⟩ (zs_in (by decide) mf78 (Nat.le_of_ble_eq_true rfl) ?_) (fun _ _ q => q)
      show zGo X l 0 0 0 78 0 [(0, .ref 161), (1, .int (zI M 161 3))] [] M _
      refine zs_aload_n (pc := 0) t78_0 rfl ?_
      refine zs_get (pc := 1) t78_1 (by decide) (zk1 (hs.k fk_zMc_161)) (zfvi rfl rfl) ?_
      refine zs_iconst (pc := 4) t78_4 (v := -1) (by decide) ?_
      refine zs_icmp_neF (pc := 5) t78_5 rfl lin1 (by omega) ?_
      refine zs_aload_n (pc := 8) t78_8 rfl ?_
      refine zs_iload_n (pc := 9) t78_9 rfl ?_
      have w69 : zIv cLo cHi (zsI M 161 5 (zI M 161 3)) := zIv.put hI (show (-2147483648) ≤ (zI M 161 3).toInt ∧ (zI M 161 3).toInt ≤ 2147483647 from zrg (zI M 161 3))
      refine zs_putI (pc := 10) t78_10 (zk1 (hs.k fk_zMc_161)) rfl ?_
      refine zs_vret (pc := 13) t78_13 mr78 ?_
      show zGo X l 4 0 0 71 50 [(2, .int (-1 : Int32)), (1, .int (zpk M)), (0, .ref 161)] [] (zsI M 161 5 (zI M 161 3)) _
      refine zs_iconst (pc := 50) t71_50 (v := 0) (by decide) ?_
      have w70 : (zI (zsI M 161 5 (zI M 161 3)) 161 5).toInt = (zI M 161 3).toInt := (congrArg Int32.toInt zIs).trans rfl
      have w71 : (zI (zsI M 161 5 (zI M 161 3)) 161 3).toInt = (zI M 161 3).toInt := (congrArg Int32.toInt ((zIoj (by decide)).trans rfl)).trans rfl
      have w72 : (zI (zsI M 161 5 (zI M 161 3)) 161 4).toInt = (zI M 161 4).toInt := (congrArg Int32.toInt ((zIoj (by decide)).trans rfl)).trans rfl
      have w73 := zlx.l (c := g w9n)
      unfold zltr at w73
      exact zs_iret (pc := 51) t71_51 mr71 (by decide) (hQ _ _ hs w69 ((zFr.refl).put rfl) (fun p t hp ht => by obtain rfl : w9n = p := (by omega); subst ht; exact (by first | exact Or.inr ⟨by omega, w9n + 1, _, pTh.l (by omega) (by unfold zltr; omega), by omega, by omega, by omega⟩ | exact Or.inl ⟨_, by omega, by omega, pTh.no (by unfold zltr; omega)⟩)))
