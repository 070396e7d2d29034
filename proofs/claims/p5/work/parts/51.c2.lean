theorem T321 {X : zX} {l : Launch} {M : zM} {Q : Option Value → zM → Prop} {a b : Int32} (hs : zSk zMm M) (hI : zIv mLo mHi M) (pR : zPR M) (pC : zPC M) (pF : zPF M) (hQ : ∀ (M' : zM) (v : Int32), zSk zMm M' → zIv mLo mHi M' → zFr [(336, 338, none), (340, 363, none)] M M' → zPR M' → zPC M' → zPF M' → ((zI M' 336 5).toInt = (zI M 336 5).toInt) → Q (some (.int v)) M') : zCall X l 7 0 0 321 [.ref 336, .int a, .int b] M Q := by
  have ga := zrg a
  have gb := zrg b
  refine zs_in (by decide) mf321 (Nat.le_of_ble_eq_true rfl) ?_
  show zGo X l 7 0 0 321 0 [(0, .ref 336), (1, .int a), (2, .int b)] [] M _
  refine zs_aload_n (pc := 0) t321_0 rfl ?_
  refine zs_invV (pc := 1) (k := 336) (as' := []) (st := []) t321_1 mf268 rfl rfl (Or.inl ⟨by decide, (zk1 (hs.k fk_zMm_336))⟩) ⟨by decide, by decide, Nat.le_of_ble_eq_true rfl, Nat.le_of_ble_eq_true rfl⟩ (K268 hs hI pR pF ?_) (fun _ _ q => q)
  intro w1M w1s w1I w1F w1PF w1PD w1PV
  show zGo X l 7 0 0 321 4 [(0, .ref 336), (1, .int a), (2, .int b)] [] w1M _
  refine zs_aload_n (pc := 4) t321_4 rfl ?_
  refine zs_iload_n (pc := 5) t321_5 rfl ?_
  refine zs_invV (pc := 6) (k := 336) (as' := [.int a]) (st := []) t321_6 mf297 rfl rfl (Or.inl ⟨by decide, (zk1 (w1s.k fk_zMm_336))⟩) ⟨by decide, by decide, Nat.le_of_ble_eq_true rfl, Nat.le_of_ble_eq_true rfl⟩ (zs_in (by decide) mf297 (Nat.le_of_ble_eq_true rfl) ?_) (fun _ _ q => q)
  show zGo X l 1 0 0 297 0 [(0, .ref 336), (1, .int a)] [] w1M _
  refine zs_iload_n (pc := 0) t297_0 rfl ?_
  refine zs_i2l (pc := 1) t297_1 rfl ?_
  refine zs_lconst (pc := 2) t297_2 (v := 0) (by decide) ?_
  refine zs_aload_n (pc := 3) t297_3 rfl ?_
  have w2 := ib336_22 w1I
  refine zs_get (pc := 4) t297_4 (by decide) (zk1 (w1s.k fk_zMm_336)) (zfvi rfl rfl) ?_
  refine zs_iconst (pc := 7) t297_7 (v := 1) (by decide) ?_
  obtain ⟨w3v, w3e, w3⟩ := zisub (a := (zI w1M 336 22)) (b := (1 : Int32)) rfl li1 (by omega) (by omega)
  refine zs_isub (pc := 8) t297_8 (c := w3v) w3e ?_
  refine zs_i2l (pc := 9) t297_9 rfl ?_
  by_cases w4 : 0 ≤ a.toInt ∧ a.toInt ≤ ((zI w1M 336 22).toInt - 1)
  · refine zs_invS (pc := 10) (as := [.long a.toInt64, .long (0 : Int64), .long w3v.toInt64]) (st := []) t297_10 (by decide) mf228 rfl rfl ⟨by decide, by decide, Nat.le_of_ble_eq_true rfl, Nat.le_of_ble_eq_true rfl⟩ (K228T (zi2l rfl) ll0 (zi2l w3) (by omega) ?_) (fun _ _ q => q)
    show zGo X l 1 0 0 297 13 [(0, .ref 336), (1, .int a)] [.int (1 : Int32)] w1M _
    refine zs_iret (pc := 13) t297_13 mr297 (by decide) ?_
    show zGo X l 7 0 0 321 9 [(0, .ref 336), (1, .int a), (2, .int b)] [.int (1 : Int32)] w1M _
    refine zs_if_eqF (pc := 9) t321_9 li1 (by decide) ?_
    refine zs_aload_n (pc := 12) t321_12 rfl ?_
    refine zs_iload_n (pc := 13) t321_13 rfl ?_
    refine zs_invV (pc := 14) (k := 336) (as' := [.int b]) (st := []) t321_14 mf306 rfl rfl (Or.inl ⟨by decide, (zk1 (w1s.k fk_zMm_336))⟩) ⟨by decide, by decide, Nat.le_of_ble_eq_true rfl, Nat.le_of_ble_eq_true rfl⟩ (zs_in (by decide) mf306 (Nat.le_of_ble_eq_true rfl) ?_) (fun _ _ q => q)
    show zGo X l 1 0 0 306 0 [(0, .ref 336), (1, .int b)] [] w1M _
    refine zs_iload_n (pc := 0) t306_0 rfl ?_
    refine zs_i2l (pc := 1) t306_1 rfl ?_
    refine zs_lconst (pc := 2) t306_2 (v := 0) (by decide) ?_
    refine zs_aload_n (pc := 3) t306_3 rfl ?_
    refine zs_get (pc := 4) t306_4 (by decide) (zk1 (w1s.k fk_zMm_336)) (w1s.p rfl fv_zMm_336_0) ?_
    refine zs_iconst (pc := 7) t306_7 (v := 0) (by decide) ?_
    have w5 := ibA0 hI
    refine zs_iald (pc := 8) t306_8 (j := 0) (by decide) (zk1 (w1s.k fk_zMm_337)) li0 (zk2 (w1s.k fk_zMm_337) (by decide)) ((w1F 337 0 rfl).trans rfl) ?_
    refine zs_iconst (pc := 9) t306_9 (v := 1) (by decide) ?_
    obtain ⟨w6v, w6e, w6⟩ := zisub (a := (zI M 337 0)) (b := (1 : Int32)) rfl li1 (by omega) (by omega)
    refine zs_isub (pc := 10) t306_10 (c := w6v) w6e ?_
    refine zs_i2l (pc := 11) t306_11 rfl ?_
    by_cases w7 : 0 ≤ b.toInt ∧ b.toInt ≤ ((zI M 337 0).toInt - 1)
    · refine zs_invS (pc := 12) (as := [.long b.toInt64, .long (0 : Int64), .long w6v.toInt64]) (st := []) t306_12 (by decide) mf228 rfl rfl ⟨by decide, by decide, Nat.le_of_ble_eq_true rfl, Nat.le_of_ble_eq_true rfl⟩ (K228T (zi2l rfl) ll0 (zi2l w6) (by omega) ?_) (fun _ _ q => q)
      show zGo X l 1 0 0 306 15 [(0, .ref 336), (1, .int b)] [.int (1 : Int32)] w1M _
      refine zs_iret (pc := 15) t306_15 mr306 (by decide) ?_
      show zGo X l 7 0 0 321 17 [(0, .ref 336), (1, .int a), (2, .int b)] [.int (1 : Int32)] w1M _
      refine zs_if_eqF (pc := 17) t321_17 li1 (by decide) ?_
      refine zs_aload_n (pc := 20) t321_20 rfl ?_
      refine zs_get (pc := 21) t321_21 (by decide) (zk1 (w1s.k fk_zMm_336)) (w1s.p rfl fv_zMm_336_27) ?_
      refine zs_bipush (pc := 24) t321_24 (v := 8) (by decide) ?_
      refine zs_iload_n (pc := 26) t321_26 rfl ?_
      obtain ⟨w8v, w8⟩ : ∃ v, (8 : Int32) * a = v := ⟨_, rfl⟩
      have w8g : w8v.toInt = 8 * a.toInt := by rw [← w8]; exact zmulc li8 rfl (by omega) (by omega)
      refine zs_imul (pc := 27) t321_27 (c := w8v) w8 ?_
      refine zs_iload_n (pc := 28) t321_28 rfl ?_
      obtain ⟨w9v, w9e, w9⟩ := ziadd (a := w8v) (b := b) w8g rfl (by omega) (by omega)
      refine zs_iadd (pc := 29) t321_29 (c := w9v) w9e ?_
      obtain ⟨w10n, w10⟩ : ∃ n : Nat, a.toInt = (n : Int) := ⟨(a.toInt).toNat, by omega⟩
      obtain ⟨w11n, w11⟩ : ∃ n : Nat, b.toInt = (n : Int) := ⟨(b.toInt).toNat, by omega⟩
      have w12 := ib349 w1I (8 * w10n + w11n)
      refine zs_iald (pc := 30) t321_30 (j := (8 * w10n + w11n)) (by decide) (zk1 (w1s.k fk_zMm_349)) (show w9v.toInt = (((8 * w10n + w11n) : Nat) : Int) by omega) (zk2 (w1s.k fk_zMm_349) (by omega)) rfl ?_
      refine zs_goto (pc := 31) t321_31 ?_
      have w13 := ib336_5 hI
      have w14 : (zI w1M 336 5).toInt = (zI M 336 5).toInt := (congrArg Int32.toInt ((w1F 336 5 rfl).trans rfl)).trans rfl
      exact zs_iret (pc := 35) t321_35 mr321 rfl (hQ _ _ w1s w1I ((zFr.refl).trans (w1F.mono rfl)) (zPR.fr pR (w1F.eq rfl)) (zPC.fr pC (w1F.eq rfl)) w1PF (by omega))
    · refine zs_invS (pc := 12) (as := [.long b.toInt64, .long (0 : Int64), .long w6v.toInt64]) (st := []) t306_12 (by decide) mf228 rfl rfl ⟨by decide, by decide, Nat.le_of_ble_eq_true rfl, Nat.le_of_ble_eq_true rfl⟩ (K228F (zi2l rfl) ll0 (zi2l w6) (by omega) ?_) (fun _ _ q => q)
      show zGo X l 1 0 0 306 15 [(0, .ref 336), (1, .int b)] [.int (0 : Int32)] w1M _
      refine zs_iret (pc := 15) t306_15 mr306 (by decide) ?_
      show zGo X l 7 0 0 321 17 [(0, .ref 336), (1, .int a), (2, .int b)] [.int (0 : Int32)] w1M _
      refine zs_if_eqT (pc := 17) t321_17 li0 (by decide) ?_
      refine zs_iconst (pc := 34) t321_34 (v := -1) (by decide) ?_
      have w15 : (zI w1M 336 5).toInt = (zI M 336 5).toInt := (congrArg Int32.toInt ((w1F 336 5 rfl).trans rfl)).trans rfl
      have w16 := lin1
      exact zs_iret (pc := 35) t321_35 mr321 (by decide) (hQ _ _ w1s w1I ((zFr.refl).trans (w1F.mono rfl)) (zPR.fr pR (w1F.eq rfl)) (zPC.fr pC (w1F.eq rfl)) w1PF (by omega))
  · refine zs_invS (pc := 10) (as := [.long a.toInt64, .long (0 : Int64), .long w3v.toInt64]) (st := []) t297_10 (by decide) mf228 rfl rfl ⟨by decide, by decide, Nat.le_of_ble_eq_true rfl, Nat.le_of_ble_eq_true rfl⟩ (K228F (zi2l rfl) ll0 (zi2l w3) (by omega) ?_) (fun _ _ q => q)
    show zGo X l 1 0 0 297 13 [(0, .ref 336), (1, .int a)] [.int (0 : Int32)] w1M _
    refine zs_iret (pc := 13) t297_13 mr297 (by decide) ?_
    show zGo X l 7 0 0 321 9 [(0, .ref 336), (1, .int a), (2, .int b)] [.int (0 : Int32)] w1M _
    refine zs_if_eqT (pc := 9) t321_9 li0 (by decide) ?_
    refine zs_iconst (pc := 34) t321_34 (v := -1) (by decide) ?_
    have w17 : (zI w1M 336 5).toInt = (zI M 336 5).toInt := (congrArg Int32.toInt ((w1F 336 5 rfl).trans rfl)).trans rfl
    have w18 := lin1
    exact zs_iret (pc := 35) t321_35 mr321 (by decide) (hQ _ _ w1s w1I ((zFr.refl).trans (w1F.mono rfl)) (zPR.fr pR (w1F.eq rfl)) (zPC.fr pC (w1F.eq rfl)) w1PF (by omega))
theorem T296 {X : zX} {l : Launch} {M : zM} {Q : Option Value → zM → Prop} {a b : Int32} (hs : zSk zMm M) (hI : zIv mLo mHi M) (pR : zPR M) (pC : zPC M) (pF : zPF M) (hQ : ∀ (M' : zM) (v : Int64), zSk zMm M' → zIv mLo mHi M' → zFr [(336, 338, none), (340, 363, none)] M M' → zPR M' → zPC M' → zPF M' → ((zI M' 336 5).toInt = (zI M 336 5).toInt) → Q (some (.long v)) M') : zCall X l 7 0 0 296 [.ref 336, .int a, .int b] M Q := by
  have ga := zrg a
  have gb := zrg b
  refine zs_in (by decide) mf296 (Nat.le_of_ble_eq_true rfl) ?_
  show zGo X l 7 0 0 296 0 [(0, .ref 336), (1, .int a), (2, .int b)] [] M _
  refine zs_aload_n (pc := 0) t296_0 rfl ?_
  refine zs_invV (pc := 1) (k := 336) (as' := []) (st := []) t296_1 mf268 rfl rfl (Or.inl ⟨by decide, (zk1 (hs.k fk_zMm_336))⟩) ⟨by decide, by decide, Nat.le_of_ble_eq_true rfl, Nat.le_of_ble_eq_true rfl⟩ (K268 hs hI pR pF ?_) (fun _ _ q => q)
  intro w1M w1s w1I w1F w1PF w1PD w1PV
  show zGo X l 7 0 0 296 4 [(0, .ref 336), (1, .int a), (2, .int b)] [] w1M _
  refine zs_aload_n (pc := 4) t296_4 rfl ?_
  refine zs_iload_n (pc := 5) t296_5 rfl ?_
  refine zs_invV (pc := 6) (k := 336) (as' := [.int a]) (st := []) t296_6 mf297 rfl rfl (Or.inl ⟨by decide, (zk1 (w1s.k fk_zMm_336))⟩) ⟨by decide, by decide, Nat.le_of_ble_eq_true rfl, Nat.le_of_ble_eq_true rfl⟩ (zs_in (by decide) mf297 (Nat.le_of_ble_eq_true rfl) ?_) (fun _ _ q => q)
  show zGo X l 1 0 0 297 0 [(0, .ref 336), (1, .int a)] [] w1M _
  refine zs_iload_n (pc := 0) t297_0 rfl ?_
  refine zs_i2l (pc := 1) t297_1 rfl ?_
  refine zs_lconst (pc := 2) t297_2 (v := 0) (by decide) ?_
  refine zs_aload_n (pc := 3) t297_3 rfl ?_
  have w2 := ib336_22 w1I
  refine zs_get (pc := 4) t297_4 (by decide) (zk1 (w1s.k fk_zMm_336)) (zfvi rfl rfl) ?_
  refine zs_iconst (pc := 7) t297_7 (v := 1) (by decide) ?_
  obtain ⟨w3v, w3e, w3⟩ := zisub (a := (zI w1M 336 22)) (b := (1 : Int32)) rfl li1 (by omega) (by omega)
  refine zs_isub (pc := 8) t297_8 (c := w3v) w3e ?_
  refine zs_i2l (pc := 9) t297_9 rfl ?_
  by_cases w4 : 0 ≤ a.toInt ∧ a.toInt ≤ ((zI w1M 336 22).toInt - 1)
  · refine zs_invS (pc := 10) (as := [.long a.toInt64, .long (0 : Int64), .long w3v.toInt64]) (st := []) t297_10 (by decide) mf228 rfl rfl ⟨by decide, by decide, Nat.le_of_ble_eq_true rfl, Nat.le_of_ble_eq_true rfl⟩ (K228T (zi2l rfl) ll0 (zi2l w3) (by omega) ?_) (fun _ _ q => q)
    show zGo X l 1 0 0 297 13 [(0, .ref 336), (1, .int a)] [.int (1 : Int32)] w1M _
    refine zs_iret (pc := 13) t297_13 mr297 (by decide) ?_
    show zGo X l 7 0 0 296 9 [(0, .ref 336), (1, .int a), (2, .int b)] [.int (1 : Int32)] w1M _
    refine zs_if_eqF (pc := 9) t296_9 li1 (by decide) ?_
    refine zs_iload_n (pc := 12) t296_12 rfl ?_
    refine zs_i2l (pc := 13) t296_13 rfl ?_
    refine zs_lconst (pc := 14) t296_14 (v := 0) (by decide) ?_
    refine zs_ldc2_w (pc := 15) t296_15 (v := 5) (by decide) ?_
    by_cases w5 : 0 ≤ b.toInt ∧ b.toInt ≤ 5
    · refine zs_invS (pc := 18) (as := [.long b.toInt64, .long (0 : Int64), .long (5 : Int64)]) (st := []) t296_18 (by decide) mf228 rfl rfl ⟨by decide, by decide, Nat.le_of_ble_eq_true rfl, Nat.le_of_ble_eq_true rfl⟩ (K228T (zi2l rfl) ll0 ll5 (by omega) ?_) (fun _ _ q => q)
      show zGo X l 7 0 0 296 21 [(0, .ref 336), (1, .int a), (2, .int b)] [.int (1 : Int32)] w1M _
      refine zs_if_neT (pc := 21) t296_21 li1 (by decide) ?_
      refine zs_iload_n (pc := 28) t296_28 rfl ?_
      refine zs_iconst (pc := 29) t296_29 (v := 2) (by decide) ?_
      by_cases w6 : 2 ≤ b.toInt
      · refine zs_icmp_geT (pc := 30) t296_30 rfl li2 (by omega) ?_
        refine zs_iload_n (pc := 42) t296_42 rfl ?_
        refine zs_iconst (pc := 43) t296_43 (v := 4) (by decide) ?_
        by_cases w7 : 4 ≤ b.toInt
        · refine zs_icmp_geT (pc := 44) t296_44 rfl li4 (by omega) ?_
          refine zs_aload_n (pc := 56) t296_56 rfl ?_
          refine zs_get (pc := 57) t296_57 (by decide) (zk1 (w1s.k fk_zMm_336)) (w1s.p rfl fv_zMm_336_32) ?_
          refine zs_iload_n (pc := 60) t296_60 rfl ?_
          obtain ⟨w8n, w8⟩ : ∃ n : Nat, a.toInt = (n : Int) := ⟨(a.toInt).toNat, by omega⟩
          have w9 := zrg64 (zJ w1M 354 w8n)
          refine zs_lald (pc := 61) t296_61 (j := w8n) (zk1 (w1s.k fk_zMm_354)) (show a.toInt = ((w8n : Nat) : Int) by omega) (zk2 (w1s.k fk_zMm_354) (by omega)) rfl ?_
          refine zs_aload_n (pc := 62) t296_62 rfl ?_
          refine zs_get (pc := 63) t296_63 (by decide) (zk1 (w1s.k fk_zMm_336)) (w1s.p rfl fv_zMm_336_29) ?_
          refine zs_iload_n (pc := 66) t296_66 rfl ?_
          have w10 := zrg64 (zJ w1M 351 w8n)
          have w11 : (zI w1M 336 22).toInt = (zI w1M 336 22).toInt := (congrArg Int32.toInt rfl).trans rfl
          have w12 : 0 < (zJ w1M 351 w8n).toInt := w1PD w8n (by omega)
          refine zs_lald (pc := 67) t296_67 (j := w8n) (zk1 (w1s.k fk_zMm_351)) (show a.toInt = ((w8n : Nat) : Int) by omega) (zk2 (w1s.k fk_zMm_351) (by omega)) rfl ?_
          refine zs_iload_n (pc := 68) t296_68 rfl ?_
          refine zs_iconst (pc := 69) t296_69 (v := 2) (by decide) ?_
          obtain ⟨w13v, w13⟩ : ∃ v, b - b / (2 : Int32) * (2 : Int32) = v := ⟨_, rfl⟩
          have w13g : 0 ≤ w13v.toInt ∧ w13v.toInt ≤ 1 := by rw [← w13]; exact zrem rfl li2 (by omega) (by decide)
          refine zs_irem (pc := 70) t296_70 (by decide) (c := w13v) w13 ?_
          refine zs_invS (pc := 71) (as := [.long (zJ w1M 354 w8n), .long (zJ w1M 351 w8n), .int w13v]) (st := []) t296_71 (by decide) mf298 rfl rfl ⟨by decide, by decide, Nat.le_of_ble_eq_true rfl, Nat.le_of_ble_eq_true rfl⟩ (K298 w1s w1I (by omega) ?_) (fun _ _ q => q)
          intro w14v
          have w14g := zrg64 w14v
          show zGo X l 7 0 0 296 74 [(0, .ref 336), (1, .int a), (2, .int b)] [.long w14v] w1M _
          have w15 := ib336_5 hI
          have w16 : (zI w1M 336 5).toInt = (zI M 336 5).toInt := (congrArg Int32.toInt ((w1F 336 5 rfl).trans rfl)).trans rfl
          exact zs_lret (pc := 74) t296_74 mr296 (hQ _ _ w1s w1I ((zFr.refl).trans (w1F.mono rfl)) (zPR.fr pR (w1F.eq rfl)) (zPC.fr pC (w1F.eq rfl)) w1PF (by omega))
        · refine zs_icmp_geF (pc := 44) t296_44 rfl li4 (by omega) ?_
          refine zs_aload_n (pc := 47) t296_47 rfl ?_
          refine zs_get (pc := 48) t296_48 (by decide) (zk1 (w1s.k fk_zMm_336)) (w1s.p rfl fv_zMm_336_31) ?_
          refine zs_iload_n (pc := 51) t296_51 rfl ?_
          obtain ⟨w17n, w17⟩ : ∃ n : Nat, a.toInt = (n : Int) := ⟨(a.toInt).toNat, by omega⟩
          have w18 := zrg64 (zJ w1M 353 w17n)
          refine zs_lald (pc := 52) t296_52 (j := w17n) (zk1 (w1s.k fk_zMm_353)) (show a.toInt = ((w17n : Nat) : Int) by omega) (zk2 (w1s.k fk_zMm_353) (by omega)) rfl ?_
          refine zs_goto (pc := 53) t296_53 ?_
          refine zs_aload_n (pc := 62) t296_62 rfl ?_
          refine zs_get (pc := 63) t296_63 (by decide) (zk1 (w1s.k fk_zMm_336)) (w1s.p rfl fv_zMm_336_29) ?_
          refine zs_iload_n (pc := 66) t296_66 rfl ?_
          have w19 := zrg64 (zJ w1M 351 w17n)
          have w20 : (zI w1M 336 22).toInt = (zI w1M 336 22).toInt := (congrArg Int32.toInt rfl).trans rfl
          have w21 : 0 < (zJ w1M 351 w17n).toInt := w1PD w17n (by omega)
          refine zs_lald (pc := 67) t296_67 (j := w17n) (zk1 (w1s.k fk_zMm_351)) (show a.toInt = ((w17n : Nat) : Int) by omega) (zk2 (w1s.k fk_zMm_351) (by omega)) rfl ?_
          refine zs_iload_n (pc := 68) t296_68 rfl ?_
          refine zs_iconst (pc := 69) t296_69 (v := 2) (by decide) ?_
          obtain ⟨w22v, w22⟩ : ∃ v, b - b / (2 : Int32) * (2 : Int32) = v := ⟨_, rfl⟩
          have w22g : 0 ≤ w22v.toInt ∧ w22v.toInt ≤ 1 := by rw [← w22]; exact zrem rfl li2 (by omega) (by decide)
          refine zs_irem (pc := 70) t296_70 (by decide) (c := w22v) w22 ?_
          refine zs_invS (pc := 71) (as := [.long (zJ w1M 353 w17n), .long (zJ w1M 351 w17n), .int w22v]) (st := []) t296_71 (by decide) mf298 rfl rfl ⟨by decide, by decide, Nat.le_of_ble_eq_true rfl, Nat.le_of_ble_eq_true rfl⟩ (K298 w1s w1I (by omega) ?_) (fun _ _ q => q)
          intro w23v
          have w23g := zrg64 w23v
          show zGo X l 7 0 0 296 74 [(0, .ref 336), (1, .int a), (2, .int b)] [.long w23v] w1M _
          have w24 : (zI w1M 336 5).toInt = (zI M 336 5).toInt := (congrArg Int32.toInt ((w1F 336 5 rfl).trans rfl)).trans rfl
          exact zs_lret (pc := 74) t296_74 mr296 (hQ _ _ w1s w1I ((zFr.refl).trans (w1F.mono rfl)) (zPR.fr pR (w1F.eq rfl)) (zPC.fr pC (w1F.eq rfl)) w1PF (by omega))
      · refine zs_icmp_geF (pc := 30) t296_30 rfl li2 (by omega) ?_
        refine zs_aload_n (pc := 33) t296_33 rfl ?_
        refine zs_get (pc := 34) t296_34 (by decide) (zk1 (w1s.k fk_zMm_336)) (w1s.p rfl fv_zMm_336_30) ?_
        refine zs_iload_n (pc := 37) t296_37 rfl ?_
        obtain ⟨w25n, w25⟩ : ∃ n : Nat, a.toInt = (n : Int) := ⟨(a.toInt).toNat, by omega⟩
        have w26 := zrg64 (zJ w1M 352 w25n)
        refine zs_lald (pc := 38) t296_38 (j := w25n) (zk1 (w1s.k fk_zMm_352)) (show a.toInt = ((w25n : Nat) : Int) by omega) (zk2 (w1s.k fk_zMm_352) (by omega)) rfl ?_
        refine zs_goto (pc := 39) t296_39 ?_
        refine zs_aload_n (pc := 62) t296_62 rfl ?_
        refine zs_get (pc := 63) t296_63 (by decide) (zk1 (w1s.k fk_zMm_336)) (w1s.p rfl fv_zMm_336_29) ?_
        refine zs_iload_n (pc := 66) t296_66 rfl ?_
        have w27 := zrg64 (zJ w1M 351 w25n)
        have w28 : (zI w1M 336 22).toInt = (zI w1M 336 22).toInt := (congrArg Int32.toInt rfl).trans rfl
        have w29 : 0 < (zJ w1M 351 w25n).toInt := w1PD w25n (by omega)
        refine zs_lald (pc := 67) t296_67 (j := w25n) (zk1 (w1s.k fk_zMm_351)) (show a.toInt = ((w25n : Nat) : Int) by omega) (zk2 (w1s.k fk_zMm_351) (by omega)) rfl ?_
        refine zs_iload_n (pc := 68) t296_68 rfl ?_
        refine zs_iconst (pc := 69) t296_69 (v := 2) (by decide) ?_
        obtain ⟨w30v, w30⟩ : ∃ v, b - b / (2 : Int32) * (2 : Int32) = v := ⟨_, rfl⟩
        have w30g : 0 ≤ w30v.toInt ∧ w30v.toInt ≤ 1 := by rw [← w30]; exact zrem rfl li2 (by omega) (by decide)
        refine zs_irem (pc := 70) t296_70 (by decide) (c := w30v) w30 ?_
        refine zs_invS (pc := 71) (as := [.long (zJ w1M 352 w25n), .long (zJ w1M 351 w25n), .int w30v]) (st := []) t296_71 (by decide) mf298 rfl rfl ⟨by decide, by decide, Nat.le_of_ble_eq_true rfl, Nat.le_of_ble_eq_true rfl⟩ (K298 w1s w1I (by omega) ?_) (fun _ _ q => q)
        intro w31v
        have w31g := zrg64 w31v
        show zGo X l 7 0 0 296 74 [(0, .ref 336), (1, .int a), (2, .int b)] [.long w31v] w1M _
        have w32 : (zI w1M 336 5).toInt = (zI M 336 5).toInt := (congrArg Int32.toInt ((w1F 336 5 rfl).trans rfl)).trans rfl
        exact zs_lret (pc := 74) t296_74 mr296 (hQ _ _ w1s w1I ((zFr.refl).trans (w1F.mono rfl)) (zPR.fr pR (w1F.eq rfl)) (zPC.fr pC (w1F.eq rfl)) w1PF (by omega))
    · refine zs_invS (pc := 18) (as := [.long b.toInt64, .long (0 : Int64), .long (5 : Int64)]) (st := []) t296_18 (by decide) mf228 rfl rfl ⟨by decide, by decide, Nat.le_of_ble_eq_true rfl, Nat.le_of_ble_eq_true rfl⟩ (K228F (zi2l rfl) ll0 ll5 (by omega) ?_) (fun _ _ q => q)
      show zGo X l 7 0 0 296 21 [(0, .ref 336), (1, .int a), (2, .int b)] [.int (0 : Int32)] w1M _
      refine zs_if_neF (pc := 21) t296_21 li0 (by decide) ?_
      refine zs_ldc2_w (pc := 24) t296_24 (v := -1000000000000) (by decide) ?_
      have w33 : (zI w1M 336 5).toInt = (zI M 336 5).toInt := (congrArg Int32.toInt ((w1F 336 5 rfl).trans rfl)).trans rfl
      have w34 := lln1000000000000
      exact zs_lret (pc := 27) t296_27 mr296 (hQ _ _ w1s w1I ((zFr.refl).trans (w1F.mono rfl)) (zPR.fr pR (w1F.eq rfl)) (zPC.fr pC (w1F.eq rfl)) w1PF (by omega))
  · refine zs_invS (pc := 10) (as := [.long a.toInt64, .long (0 : Int64), .long w3v.toInt64]) (st := []) t297_10 (by decide) mf228 rfl rfl ⟨by decide, by decide, Nat.le_of_ble_eq_true rfl, Nat.le_of_ble_eq_true rfl⟩ (K228F (zi2l rfl) ll0 (zi2l w3) (by omega) ?_) (fun _ _ q => q)
    show zGo X l 1 0 0 297 13 [(0, .ref 336), (1, .int a)] [.int (0 : Int32)] w1M _
    refine zs_iret (pc := 13) t297_13 mr297 (by decide) ?_
    show zGo X l 7 0 0 296 9 [(0, .ref 336), (1, .int a), (2, .int b)] [.int (0 : Int32)] w1M _
    refine zs_if_eqT (pc := 9) t296_9 li0 (by decide) ?_
    refine zs_ldc2_w (pc := 24) t296_24 (v := -1000000000000) (by decide) ?_
    have w35 : (zI w1M 336 5).toInt = (zI M 336 5).toInt := (congrArg Int32.toInt ((w1F 336 5 rfl).trans rfl)).trans rfl
    have w36 := lln1000000000000
    exact zs_lret (pc := 27) t296_27 mr296 (hQ _ _ w1s w1I ((zFr.refl).trans (w1F.mono rfl)) (zPR.fr pR (w1F.eq rfl)) (zPC.fr pC (w1F.eq rfl)) w1PF (by omega))
theorem T301 {X : zX} {l : Launch} {M : zM} {Q : Option Value → zM → Prop} {a b : Int32} (hs : zSk zMm M) (hI : zIv mLo mHi M) (pR : zPR M) (pC : zPC M) (pF : zPF M) (hQ : ∀ (M' : zM) (v : Int32), zSk zMm M' → zIv mLo mHi M' → zFr [(336, 338, none), (340, 363, none)] M M' → zPR M' → zPC M' → zPF M' → ((zI M' 336 5).toInt = (zI M 336 5).toInt) → Q (some (.int v)) M') : zCall X l 7 0 0 301 [.ref 336, .int a, .int b] M Q := by
  have ga := zrg a
  have gb := zrg b
  refine zs_in (by decide) mf301 (Nat.le_of_ble_eq_true rfl) ?_
  show zGo X l 7 0 0 301 0 [(0, .ref 336), (1, .int a), (2, .int b)] [] M _
  refine zs_aload_n (pc := 0) t301_0 rfl ?_
  refine zs_invV (pc := 1) (k := 336) (as' := []) (st := []) t301_1 mf268 rfl rfl (Or.inl ⟨by decide, (zk1 (hs.k fk_zMm_336))⟩) ⟨by decide, by decide, Nat.le_of_ble_eq_true rfl, Nat.le_of_ble_eq_true rfl⟩ (K268 hs hI pR pF ?_) (fun _ _ q => q)
  intro w1M w1s w1I w1F w1PF w1PD w1PV
  show zGo X l 7 0 0 301 4 [(0, .ref 336), (1, .int a), (2, .int b)] [] w1M _
  refine zs_iload_n (pc := 4) t301_4 rfl ?_
  refine zs_i2l (pc := 5) t301_5 rfl ?_
  refine zs_lconst (pc := 6) t301_6 (v := 0) (by decide) ?_
  refine zs_aload_n (pc := 7) t301_7 rfl ?_
  have w2 := ib336_37 w1I
  refine zs_get (pc := 8) t301_8 (by decide) (zk1 (w1s.k fk_zMm_336)) (zfvi rfl rfl) ?_
  refine zs_iconst (pc := 11) t301_11 (v := 1) (by decide) ?_
  obtain ⟨w3v, w3e, w3⟩ := zisub (a := (zI w1M 336 37)) (b := (1 : Int32)) rfl li1 (by omega) (by omega)
  refine zs_isub (pc := 12) t301_12 (c := w3v) w3e ?_
  refine zs_i2l (pc := 13) t301_13 rfl ?_
  by_cases w4 : 0 ≤ a.toInt ∧ a.toInt ≤ ((zI w1M 336 37).toInt - 1)
  · refine zs_invS (pc := 14) (as := [.long a.toInt64, .long (0 : Int64), .long w3v.toInt64]) (st := []) t301_14 (by decide) mf228 rfl rfl ⟨by decide, by decide, Nat.le_of_ble_eq_true rfl, Nat.le_of_ble_eq_true rfl⟩ (K228T (zi2l rfl) ll0 (zi2l w3) (by omega) ?_) (fun _ _ q => q)
    show zGo X l 7 0 0 301 17 [(0, .ref 336), (1, .int a), (2, .int b)] [.int (1 : Int32)] w1M _
    refine zs_if_eqF (pc := 17) t301_17 li1 (by decide) ?_
    refine zs_iload_n (pc := 20) t301_20 rfl ?_
    refine zs_i2l (pc := 21) t301_21 rfl ?_
    refine zs_lconst (pc := 22) t301_22 (v := 0) (by decide) ?_
    refine zs_lconst (pc := 23) t301_23 (v := 1) (by decide) ?_
    by_cases w5 : 0 ≤ b.toInt ∧ b.toInt ≤ 1
    · refine zs_invS (pc := 24) (as := [.long b.toInt64, .long (0 : Int64), .long (1 : Int64)]) (st := []) t301_24 (by decide) mf228 rfl rfl ⟨by decide, by decide, Nat.le_of_ble_eq_true rfl, Nat.le_of_ble_eq_true rfl⟩ (K228T (zi2l rfl) ll0 ll1 (by omega) ?_) (fun _ _ q => q)
      show zGo X l 7 0 0 301 27 [(0, .ref 336), (1, .int a), (2, .int b)] [.int (1 : Int32)] w1M _
      refine zs_if_neT (pc := 27) t301_27 li1 (by decide) ?_
      refine zs_iload_n (pc := 34) t301_34 rfl ?_
      by_cases w6 : b.toInt ≠ 0
      · refine zs_if_neT (pc := 35) t301_35 rfl (by omega) ?_
        refine zs_aload_n (pc := 47) t301_47 rfl ?_
        refine zs_get (pc := 48) t301_48 (by decide) (zk1 (w1s.k fk_zMm_336)) (w1s.p rfl fv_zMm_336_35) ?_
        refine zs_iload_n (pc := 51) t301_51 rfl ?_
        obtain ⟨w7n, w7⟩ : ∃ n : Nat, a.toInt = (n : Int) := ⟨(a.toInt).toNat, by omega⟩
        have w8 := zrg64 (zJ w1M 357 w7n)
        refine zs_lald (pc := 52) t301_52 (j := w7n) (zk1 (w1s.k fk_zMm_357)) (show a.toInt = ((w7n : Nat) : Int) by omega) (zk2 (w1s.k fk_zMm_357) (by omega)) rfl ?_
        refine zs_aload_n (pc := 53) t301_53 rfl ?_
        refine zs_get (pc := 54) t301_54 (by decide) (zk1 (w1s.k fk_zMm_336)) (w1s.p rfl fv_zMm_336_34) ?_
        refine zs_iload_n (pc := 57) t301_57 rfl ?_
        have w9 := zrg (zI w1M 356 w7n)
        have w10 : (zI w1M 336 37).toInt = (zI w1M 336 37).toInt := (congrArg Int32.toInt rfl).trans rfl
        have w11 := w1PV w7n (by omega)
        refine zs_iald (pc := 58) t301_58 (j := w7n) (by decide) (zk1 (w1s.k fk_zMm_356)) (show a.toInt = ((w7n : Nat) : Int) by omega) (zk2 (w1s.k fk_zMm_356) (by omega)) rfl ?_
        refine zs_i2l (pc := 59) t301_59 rfl ?_
        have w12 : (zI w1M 356 w7n).toInt64.toInt = (zI w1M 356 w7n).toInt := (zi2l rfl)
        refine zs_invS (pc := 60) (as := [.long (zJ w1M 357 w7n), .long (zI w1M 356 w7n).toInt64]) (st := []) t301_60 (by decide) mf286 rfl rfl ⟨by decide, by decide, Nat.le_of_ble_eq_true rfl, Nat.le_of_ble_eq_true rfl⟩ (K286 w1s w1I ⟨by omega, by omega⟩ ?_) (fun _ _ q => q)
        intro w13v
        have w13g := zrg64 w13v
        show zGo X l 7 0 0 301 63 [(0, .ref 336), (1, .int a), (2, .int b)] [.long w13v] w1M _
        obtain ⟨w14v, w14⟩ : ∃ v, w13v.toInt32 = v := ⟨_, rfl⟩
        have w14g := zrg w14v
        refine zs_l2i (pc := 63) t301_63 (c := w14v) w14 ?_
        have w15 := ib336_5 hI
        have w16 : (zI w1M 336 5).toInt = (zI M 336 5).toInt := (congrArg Int32.toInt ((w1F 336 5 rfl).trans rfl)).trans rfl
        exact zs_iret (pc := 64) t301_64 mr301 rfl (hQ _ _ w1s w1I ((zFr.refl).trans (w1F.mono rfl)) (zPR.fr pR (w1F.eq rfl)) (zPC.fr pC (w1F.eq rfl)) w1PF (by omega))
      · refine zs_if_neF (pc := 35) t301_35 rfl (by omega) ?_
        refine zs_aload_n (pc := 38) t301_38 rfl ?_
        refine zs_get (pc := 39) t301_39 (by decide) (zk1 (w1s.k fk_zMm_336)) (w1s.p rfl fv_zMm_336_34) ?_
        refine zs_iload_n (pc := 42) t301_42 rfl ?_
        obtain ⟨w17n, w17⟩ : ∃ n : Nat, a.toInt = (n : Int) := ⟨(a.toInt).toNat, by omega⟩
        have w18 := zrg (zI w1M 356 w17n)
        have w19 : (zI w1M 336 37).toInt = (zI w1M 336 37).toInt := (congrArg Int32.toInt rfl).trans rfl
        have w20 := w1PV w17n (by omega)
        refine zs_iald (pc := 43) t301_43 (j := w17n) (by decide) (zk1 (w1s.k fk_zMm_356)) (show a.toInt = ((w17n : Nat) : Int) by omega) (zk2 (w1s.k fk_zMm_356) (by omega)) rfl ?_
        refine zs_goto (pc := 44) t301_44 ?_
        have w21 : (zI w1M 336 5).toInt = (zI M 336 5).toInt := (congrArg Int32.toInt ((w1F 336 5 rfl).trans rfl)).trans rfl
        exact zs_iret (pc := 64) t301_64 mr301 rfl (hQ _ _ w1s w1I ((zFr.refl).trans (w1F.mono rfl)) (zPR.fr pR (w1F.eq rfl)) (zPC.fr pC (w1F.eq rfl)) w1PF (by omega))
    · refine zs_invS (pc := 24) (as := [.long b.toInt64, .long (0 : Int64), .long (1 : Int64)]) (st := []) t301_24 (by decide) mf228 rfl rfl ⟨by decide, by decide, Nat.le_of_ble_eq_true rfl, Nat.le_of_ble_eq_true rfl⟩ (K228F (zi2l rfl) ll0 ll1 (by omega) ?_) (fun _ _ q => q)
      show zGo X l 7 0 0 301 27 [(0, .ref 336), (1, .int a), (2, .int b)] [.int (0 : Int32)] w1M _
      refine zs_if_neF (pc := 27) t301_27 li0 (by decide) ?_
      refine zs_ldc_w (pc := 30) t301_30 (v := -100000) rfl (by decide) ?_
      have w22 : (zI w1M 336 5).toInt = (zI M 336 5).toInt := (congrArg Int32.toInt ((w1F 336 5 rfl).trans rfl)).trans rfl
      have w23 := lin100000
      exact zs_iret (pc := 33) t301_33 mr301 (by decide) (hQ _ _ w1s w1I ((zFr.refl).trans (w1F.mono rfl)) (zPR.fr pR (w1F.eq rfl)) (zPC.fr pC (w1F.eq rfl)) w1PF (by omega))
  · refine zs_invS (pc := 14) (as := [.long a.toInt64, .long (0 : Int64), .long w3v.toInt64]) (st := []) t301_14 (by decide) mf228 rfl rfl ⟨by decide, by decide, Nat.le_of_ble_eq_true rfl, Nat.le_of_ble_eq_true rfl⟩ (K228F (zi2l rfl) ll0 (zi2l w3) (by omega) ?_) (fun _ _ q => q)
    show zGo X l 7 0 0 301 17 [(0, .ref 336), (1, .int a), (2, .int b)] [.int (0 : Int32)] w1M _
    refine zs_if_eqT (pc := 17) t301_17 li0 (by decide) ?_
    refine zs_ldc_w (pc := 30) t301_30 (v := -100000) rfl (by decide) ?_
    have w24 : (zI w1M 336 5).toInt = (zI M 336 5).toInt := (congrArg Int32.toInt ((w1F 336 5 rfl).trans rfl)).trans rfl
    have w25 := lin100000
    exact zs_iret (pc := 33) t301_33 mr301 (by decide) (hQ _ _ w1s w1I ((zFr.refl).trans (w1F.mono rfl)) (zPR.fr pR (w1F.eq rfl)) (zPC.fr pC (w1F.eq rfl)) w1PF (by omega))
theorem T266 {X : zX} {l : Launch} {M : zM} {Q : Option Value → zM → Prop} (hs : zSk zMm M) (hI : zIv mLo mHi M) (pR : zPR M) (pC : zPC M) (pF : zPF M) (hQ : ∀ (M' : zM) (v : Int32), zSk zMm M' → zIv mLo mHi M' → zFr [(336, 338, none), (340, 363, none)] M M' → zPR M' → zPC M' → zPF M' → ((zI M' 336 5).toInt = (zI M 336 5).toInt) → Q (some (.int v)) M') : zCall X l 8 0 0 266 [.ref 336] M Q := by
  refine zs_in (by decide) mf266 (Nat.le_of_ble_eq_true rfl) ?_
  show zGo X l 8 0 0 266 0 [(0, .ref 336)] [] M _
  refine zs_aload_n (pc := 0) t266_0 rfl ?_
  refine zs_get (pc := 1) t266_1 (by decide) (zk1 (hs.k fk_zMm_336)) (hs.p rfl fv_zMm_336_0) ?_
  refine zs_iconst (pc := 4) t266_4 (v := 3) (by decide) ?_
  have w1 := zrg (zI M 337 3)
  refine zs_iald (pc := 5) t266_5 (j := 3) (by decide) (zk1 (hs.k fk_zMm_337)) li3 (zk2 (hs.k fk_zMm_337) (by decide)) rfl ?_
  by_cases w2 : (zI M 337 3).toInt ≠ 0
  · refine zs_if_neT (pc := 6) t266_6 rfl (by omega) ?_
    refine zs_iconst (pc := 11) t266_11 (v := 0) (by decide) ?_
    refine zs_istore_n (pc := 12) t266_12 (ls' := [(1, .int (0 : Int32)), (0, .ref 336)]) (zml mf266 (by decide)) rfl ?_
    refine zs_iconst (pc := 13) t266_13 (v := 0) (by decide) ?_
    refine zs_istore_n (pc := 14) t266_14 (ls' := [(2, .int (0 : Int32)), (1, .int (0 : Int32)), (0, .ref 336)]) (zml mf266 (by decide)) rfl ?_
    have w3L : ∀ (m : Nat) (w3x1 : Int32) (w3x2 : Int32) (w3M : zM), (0 ≤ w3x1.toInt ∧ w3x1.toInt ≤ 59) → (0 ≤ w3x2.toInt ∧ w3x2.toInt ≤ 200) → zSk zMm w3M → zIv mLo mHi w3M → zFr [(344, 344, none), (349, 349, none), (350, 350, none), (343, 343, none), (345, 345, none), (346, 346, none), (347, 347, none), (348, 348, none), (336, 336, some 22), (336, 336, some 18), (336, 336, some 19), (336, 336, some 20), (336, 336, some 21), (351, 354, none), (358, 358, none), (336, 336, some 37), (356, 356, none), (355, 355, none), (343, 343, none), (344, 344, none), (336, 336, some 39), (359, 359, none), (336, 336, some 3), (342, 342, none)] M w3M → zPF w3M → (w3x1.toInt = zhp (fun i => zrow M 0 (306 + i)) (w3x2.toInt).toNat) → 200 - w3x2.toInt ≤ (m : Int) → zGo X l 8 0 0 266 15 [(0, .ref 336), (1, .int w3x1), (2, .int w3x2)] [] w3M Q := by
      intro m
      induction m using Nat.strongRecOn with
      | ind w3m w3ih =>
        intro w3x1 w3x2 w3M w3b1 w3b2 w3s w3I w3F w3PF w3t0 w3q
        refine zs_iload_n (pc := 15) t266_15 rfl ?_
        refine zs_aload_n (pc := 16) t266_16 rfl ?_
        refine zs_get (pc := 17) t266_17 (by decide) (zk1 (w3s.k fk_zMm_336)) (w3s.p rfl fv_zMm_336_0) ?_
        refine zs_iconst (pc := 20) t266_20 (v := 4) (by decide) ?_
        have w4 := ibA4 hI
        refine zs_iald (pc := 21) t266_21 (j := 4) (by decide) (zk1 (w3s.k fk_zMm_337)) li4 (zk2 (w3s.k fk_zMm_337) (by decide)) ((w3F 337 4 rfl).trans rfl) ?_
        by_cases w5 : (zI M 337 4).toInt ≤ w3x2.toInt
        · refine zs_icmp_geT (pc := 22) t266_22 rfl rfl (by omega) ?_
          refine zs_aload_n (pc := 142) t266_142 rfl ?_
          refine zs_get (pc := 143) t266_143 (by decide) (zk1 (w3s.k fk_zMm_336)) (w3s.p rfl fv_zMm_336_15) ?_
          refine zs_iconst (pc := 146) t266_146 (v := 0) (by decide) ?_
          have w6 := zrg (zI w3M 342 0)
          refine zs_iald (pc := 147) t266_147 (j := 0) (by decide) (zk1 (w3s.k fk_zMm_342)) li0 (zk2 (w3s.k fk_zMm_342) (by decide)) rfl ?_
          have w7 := ib336_5 hI
          have w8 : (zI w3M 336 5).toInt = (zI M 336 5).toInt := (congrArg Int32.toInt ((w3F 336 5 rfl).trans rfl)).trans rfl
          exact zs_iret (pc := 148) t266_148 mr266 rfl (hQ _ _ w3s w3I ((zFr.refl).trans (w3F.mono rfl)) (zPR.fr pR (w3F.eq rfl)) (zPC.fr pC (w3F.eq rfl)) w3PF (by omega))
        · refine zs_icmp_geF (pc := 22) t266_22 rfl rfl (by omega) ?_
          refine zs_aload_n (pc := 25) t266_25 rfl ?_
          refine zs_get (pc := 26) t266_26 (by decide) (zk1 (w3s.k fk_zMm_336)) (w3s.p rfl fv_zMm_336_0) ?_
          refine zs_sipush (pc := 29) t266_29 (v := 306) (by decide) ?_
          refine zs_iload_n (pc := 32) t266_32 rfl ?_
          obtain ⟨w9v, w9e, w9⟩ := ziadd (a := (306 : Int32)) (b := w3x2) li306 rfl (by omega) (by omega)
          refine zs_iadd (pc := 33) t266_33 (c := w9v) w9e ?_
          obtain ⟨w10n, w10⟩ : ∃ n : Nat, w3x2.toInt = (n : Int) := ⟨(w3x2.toInt).toNat, by omega⟩
          have w11 := zrg (zI M 337 (306 + w10n))
          have w12 : (zI w3M 337 4).toInt = (zI M 337 4).toInt := (congrArg Int32.toInt ((w3F 337 4 rfl).trans rfl)).trans rfl
          have w13 := zPC.at (n := w10n) pC (by omega)
          have w14 : zhp (fun i => zrow M 0 (306 + i)) w3x2.toInt.toNat = zhp (fun i => zrow M 0 (306 + i)) w10n := congrArg _ (by omega)
          refine zs_iald (pc := 34) t266_34 (j := (306 + w10n)) (by decide) (zk1 (w3s.k fk_zMm_337)) (show w9v.toInt = (((306 + w10n) : Nat) : Int) by omega) (zk2 (w3s.k fk_zMm_337) (by omega)) ((w3F 337 (306 + w10n) rfl).trans rfl) ?_
          refine zs_istore_n (pc := 35) t266_35 (ls' := [(3, .int (zI M 337 (306 + w10n))), (0, .ref 336), (1, .int w3x1), (2, .int w3x2)]) (zml mf266 (by decide)) rfl ?_
          refine zs_iload_n (pc := 36) t266_36 rfl ?_
          refine zs_sipush (pc := 37) t266_37 (v := 20000) (by decide) ?_
          by_cases w15 : 20000 ≤ (zI M 337 (306 + w10n)).toInt
          · refine zs_icmp_geT (pc := 40) t266_40 rfl li20000 (by omega) ?_
            refine zs_iload_n (pc := 75) t266_75 rfl ?_
            refine zs_sipush (pc := 76) t266_76 (v := 20033) (by decide) ?_
            by_cases w16 : (zI M 337 (306 + w10n)).toInt ≠ 20033
            · refine zs_icmp_neT (pc := 79) t266_79 rfl li20033 (by omega) ?_
              obtain ⟨w17v, w17e, w17⟩ := ziadd (a := w3x1) (b := Int32.ofInt (-1)) rfl (show (Int32.ofInt (-1)).toInt = (-1) by decide) (by omega) (by omega)
              refine zs_iinc (pc := 103) t266_103 (ls' := [(1, .int w17v), (3, .int (zI M 337 (306 + w10n))), (0, .ref 336), (2, .int w3x2)]) (zml mf266 (by decide)) rfl (c := w17v) w17e rfl ?_
              refine zs_aload_n (pc := 106) t266_106 rfl ?_
              refine zs_get (pc := 107) t266_107 (by decide) (zk1 (w3s.k fk_zMm_336)) (w3s.p rfl fv_zMm_336_15) ?_
              refine zs_iload_n (pc := 110) t266_110 rfl ?_
              refine zs_iconst (pc := 111) t266_111 (v := 1) (by decide) ?_
              obtain ⟨w18v, w18e, w18⟩ := zisub (a := w17v) (b := (1 : Int32)) w17 li1 (by omega) (by omega)
              refine zs_isub (pc := 112) t266_112 (c := w18v) w18e ?_
              refine zs_iload_n (pc := 113) t266_113 rfl ?_
              refine zs_sipush (pc := 114) t266_114 (v := 20000) (by decide) ?_
              obtain ⟨w19v, w19e, w19⟩ := zisub (a := (zI M 337 (306 + w10n))) (b := (20000 : Int32)) rfl li20000 (by omega) (by omega)
              refine zs_isub (pc := 117) t266_117 (c := w19v) w19e ?_
              refine zs_aload_n (pc := 118) t266_118 rfl ?_
              refine zs_get (pc := 119) t266_119 (by decide) (zk1 (w3s.k fk_zMm_336)) (w3s.p rfl fv_zMm_336_15) ?_
              refine zs_iload_n (pc := 122) t266_122 rfl ?_
              refine zs_iconst (pc := 123) t266_123 (v := 1) (by decide) ?_
              obtain ⟨w20v, w20e, w20⟩ := zisub (a := w17v) (b := (1 : Int32)) w17 li1 (by omega) (by omega)
              refine zs_isub (pc := 124) t266_124 (c := w20v) w20e ?_
              obtain ⟨w21n, w21⟩ : ∃ n : Nat, w20v.toInt = (n : Int) := ⟨w20v.toInt.toNat, by omega⟩
              have w22 := zrg (zI w3M 342 w21n)
              refine zs_iald (pc := 125) t266_125 (j := w21n) (by decide) (zk1 (w3s.k fk_zMm_342)) w21 (zk2 (w3s.k fk_zMm_342) (by omega)) rfl ?_
              refine zs_aload_n (pc := 126) t266_126 rfl ?_
              refine zs_get (pc := 127) t266_127 (by decide) (zk1 (w3s.k fk_zMm_336)) (w3s.p rfl fv_zMm_336_15) ?_
              refine zs_iload_n (pc := 130) t266_130 rfl ?_
              obtain ⟨w23n, w23⟩ : ∃ n : Nat, w17v.toInt = (n : Int) := ⟨w17v.toInt.toNat, by omega⟩
              have w24 := zrg (zI w3M 342 w23n)
              refine zs_iald (pc := 131) t266_131 (j := w23n) (by decide) (zk1 (w3s.k fk_zMm_342)) w23 (zk2 (w3s.k fk_zMm_342) (by omega)) rfl ?_
              refine zs_invS (pc := 132) (as := [.int w19v, .int (zI w3M 342 w21n), .int (zI w3M 342 w23n)]) (st := [.int w18v, .ref 342]) t266_132 (by decide) mf294 rfl rfl ⟨by decide, by decide, Nat.le_of_ble_eq_true rfl, Nat.le_of_ble_eq_true rfl⟩ (K294 w3s w3I ?_) (fun _ _ q => q)
              intro w25v
              have w25g := zrg w25v
              show zGo X l 8 0 0 266 135 [(1, .int w17v), (3, .int (zI M 337 (306 + w10n))), (0, .ref 336), (2, .int w3x2)] [.int w25v, .int w18v, .ref 342] w3M _
              obtain ⟨w26n, w26⟩ : ∃ n : Nat, w18v.toInt = (n : Int) := ⟨w18v.toInt.toNat, by omega⟩
              have w27 : zIv mLo mHi (zsI w3M 342 w26n w25v) := zIv.put w3I (show (-2147483648) ≤ w25v.toInt ∧ w25v.toInt ≤ 2147483647 from zrg w25v)
              refine zs_iast (pc := 135) t266_135 (j := w26n) (by decide) (zk1 (w3s.k fk_zMm_342)) w26 (zk2 (w3s.k fk_zMm_342) (by omega)) ?_
              obtain ⟨w28v, w28e, w28⟩ := ziadd (a := w3x2) (b := Int32.ofInt 1) rfl (show (Int32.ofInt 1).toInt = 1 by decide) (by omega) (by omega)
              refine zs_iinc (pc := 136) t266_136 (ls' := [(2, .int w28v), (1, .int w17v), (3, .int (zI M 337 (306 + w10n))), (0, .ref 336)]) (zml mf266 (by decide)) rfl (c := w28v) w28e rfl ?_
              refine zs_goto (pc := 139) t266_139 ?_
              refine zGo.locals (ls' := [(0, .ref 336), (1, .int w17v), (2, .int w28v)]) (by simp) ?_
              have w29 := w17
              have w30 := w28
              exact w3ih (w3m - 1) (by omega) w17v w28v (zsI w3M 342 w26n w25v) ⟨by omega, by omega⟩ ⟨by omega, by omega⟩ w3s w27 (((zFr.refl).trans (w3F.mono rfl)).put rfl) (zPF.fr (M' := (zsI w3M 342 w26n w25v)) w3PF (zEq.put rfl) rfl) (by rw [show w28v.toInt.toNat = w10n + 1 by omega]; omega) (by omega)
            · refine zs_icmp_neF (pc := 79) t266_79 rfl li20033 (by omega) ?_
              refine zs_aload_n (pc := 82) t266_82 rfl ?_
              refine zs_get (pc := 83) t266_83 (by decide) (zk1 (w3s.k fk_zMm_336)) (w3s.p rfl fv_zMm_336_15) ?_
              refine zs_iload_n (pc := 86) t266_86 rfl ?_
              refine zs_iconst (pc := 87) t266_87 (v := 1) (by decide) ?_
              obtain ⟨w31v, w31e, w31⟩ := zisub (a := w3x1) (b := (1 : Int32)) rfl li1 (by omega) (by omega)
              refine zs_isub (pc := 88) t266_88 (c := w31v) w31e ?_
              refine zs_iconst (pc := 89) t266_89 (v := 1) (by decide) ?_
              refine zs_aload_n (pc := 90) t266_90 rfl ?_
              refine zs_get (pc := 91) t266_91 (by decide) (zk1 (w3s.k fk_zMm_336)) (w3s.p rfl fv_zMm_336_15) ?_
              refine zs_iload_n (pc := 94) t266_94 rfl ?_
              refine zs_iconst (pc := 95) t266_95 (v := 1) (by decide) ?_
              obtain ⟨w32v, w32e, w32⟩ := zisub (a := w3x1) (b := (1 : Int32)) rfl li1 (by omega) (by omega)
              refine zs_isub (pc := 96) t266_96 (c := w32v) w32e ?_
              obtain ⟨w33n, w33⟩ : ∃ n : Nat, w32v.toInt = (n : Int) := ⟨w32v.toInt.toNat, by omega⟩
              have w34 := zrg (zI w3M 342 w33n)
              refine zs_iald (pc := 97) t266_97 (j := w33n) (by decide) (zk1 (w3s.k fk_zMm_342)) w33 (zk2 (w3s.k fk_zMm_342) (by omega)) rfl ?_
              obtain ⟨w35v, w35⟩ : ∃ v, v = (1 : Int32) - (zI w3M 342 w33n) := ⟨_, rfl⟩
              have w35g := zrg w35v
              refine zs_isub (pc := 98) t266_98 (c := w35v) w35.symm ?_
              obtain ⟨w36n, w36⟩ : ∃ n : Nat, w31v.toInt = (n : Int) := ⟨w31v.toInt.toNat, by omega⟩
              have w37 : zIv mLo mHi (zsI w3M 342 w36n w35v) := zIv.put w3I (show (-2147483648) ≤ w35v.toInt ∧ w35v.toInt ≤ 2147483647 from zrg w35v)
              refine zs_iast (pc := 99) t266_99 (j := w36n) (by decide) (zk1 (w3s.k fk_zMm_342)) w36 (zk2 (w3s.k fk_zMm_342) (by omega)) ?_
              refine zs_goto (pc := 100) t266_100 ?_
              obtain ⟨w38v, w38e, w38⟩ := ziadd (a := w3x2) (b := Int32.ofInt 1) rfl (show (Int32.ofInt 1).toInt = 1 by decide) (by omega) (by omega)
              refine zs_iinc (pc := 136) t266_136 (ls' := [(2, .int w38v), (3, .int (zI M 337 (306 + w10n))), (0, .ref 336), (1, .int w3x1)]) (zml mf266 (by decide)) rfl (c := w38v) w38e rfl ?_
              refine zs_goto (pc := 139) t266_139 ?_
              refine zGo.locals (ls' := [(0, .ref 336), (1, .int w3x1), (2, .int w38v)]) (by simp) ?_
              have w39 := w38
              exact w3ih (w3m - 1) (by omega) w3x1 w38v (zsI w3M 342 w36n w35v) ⟨by omega, by omega⟩ ⟨by omega, by omega⟩ w3s w37 (((zFr.refl).trans (w3F.mono rfl)).put rfl) (zPF.fr (M' := (zsI w3M 342 w36n w35v)) w3PF (zEq.put rfl) rfl) (by rw [show w38v.toInt.toNat = w10n + 1 by omega]; omega) (by omega)
          · refine zs_icmp_geF (pc := 40) t266_40 rfl li20000 (by omega) ?_
            refine zs_aload_n (pc := 43) t266_43 rfl ?_
            refine zs_get (pc := 44) t266_44 (by decide) (zk1 (w3s.k fk_zMm_336)) (w3s.p rfl fv_zMm_336_15) ?_
            refine zs_iload_n (pc := 47) t266_47 rfl ?_
            refine zs_iload_n (pc := 48) t266_48 rfl ?_
            refine zs_sipush (pc := 49) t266_49 (v := 10000) (by decide) ?_
            by_cases w40 : 10000 ≤ (zI M 337 (306 + w10n)).toInt
            · refine zs_icmp_geT (pc := 52) t266_52 rfl li10000 (by omega) ?_
              refine zs_aload_n (pc := 59) t266_59 rfl ?_
              refine zs_iload_n (pc := 60) t266_60 rfl ?_
              refine zs_sipush (pc := 61) t266_61 (v := 10000) (by decide) ?_
              obtain ⟨w41v, w41e, w41⟩ := zisub (a := (zI M 337 (306 + w10n))) (b := (10000 : Int32)) rfl li10000 (by omega) (by omega)
              refine zs_isub (pc := 64) t266_64 (c := w41v) w41e ?_
              refine zs_invV (pc := 65) (k := 336) (as' := [.int w41v]) (st := [.int w3x1, .ref 342]) t266_65 mf267 rfl rfl (Or.inl ⟨by decide, (zk1 (w3s.k fk_zMm_336))⟩) ⟨by decide, by decide, Nat.le_of_ble_eq_true rfl, Nat.le_of_ble_eq_true rfl⟩ (K267 w3s w3I (zPR.fr pR (w3F.eq rfl)) w3PF ?_) (fun _ _ q => q)
              intro w42M w42v w42s w42I w42F w42PF w42PD w42PV
              have w42g := zrg w42v
              show zGo X l 8 0 0 266 68 [(3, .int (zI M 337 (306 + w10n))), (0, .ref 336), (1, .int w3x1), (2, .int w3x2)] [.int w42v, .int w3x1, .ref 342] w42M _
              obtain ⟨w43n, w43⟩ : ∃ n : Nat, w3x1.toInt = (n : Int) := ⟨(w3x1.toInt).toNat, by omega⟩
              have w44 : zIv mLo mHi (zsI w42M 342 w43n w42v) := zIv.put w42I (show (-2147483648) ≤ w42v.toInt ∧ w42v.toInt ≤ 2147483647 from zrg w42v)
              refine zs_iast (pc := 68) t266_68 (j := w43n) (by decide) (zk1 (w42s.k fk_zMm_342)) (show w3x1.toInt = ((w43n : Nat) : Int) by omega) (zk2 (w42s.k fk_zMm_342) (by omega)) ?_
              obtain ⟨w45v, w45e, w45⟩ := ziadd (a := w3x1) (b := Int32.ofInt 1) rfl (show (Int32.ofInt 1).toInt = 1 by decide) (by omega) (by omega)
              refine zs_iinc (pc := 69) t266_69 (ls' := [(1, .int w45v), (3, .int (zI M 337 (306 + w10n))), (0, .ref 336), (2, .int w3x2)]) (zml mf266 (by decide)) rfl (c := w45v) w45e rfl ?_
              refine zs_goto (pc := 72) t266_72 ?_
              obtain ⟨w46v, w46e, w46⟩ := ziadd (a := w3x2) (b := Int32.ofInt 1) rfl (show (Int32.ofInt 1).toInt = 1 by decide) (by omega) (by omega)
              refine zs_iinc (pc := 136) t266_136 (ls' := [(2, .int w46v), (1, .int w45v), (3, .int (zI M 337 (306 + w10n))), (0, .ref 336)]) (zml mf266 (by decide)) rfl (c := w46v) w46e rfl ?_
              refine zs_goto (pc := 139) t266_139 ?_
              refine zGo.locals (ls' := [(0, .ref 336), (1, .int w45v), (2, .int w46v)]) (by simp) ?_
              have w47 := w45
              have w48 := w46
              exact w3ih (w3m - 1) (by omega) w45v w46v (zsI w42M 342 w43n w42v) ⟨by omega, by omega⟩ ⟨by omega, by omega⟩ w42s w44 ((((zFr.refl).trans (w3F.mono rfl)).trans (w42F.mono rfl)).put rfl) (zPF.fr (M' := (zsI w42M 342 w43n w42v)) w42PF (zEq.put rfl) rfl) (by rw [show w46v.toInt.toNat = w10n + 1 by omega]; omega) (by omega)
            · refine zs_icmp_geF (pc := 52) t266_52 rfl li10000 (by omega) ?_
              refine zs_iload_n (pc := 55) t266_55 rfl ?_
              refine zs_goto (pc := 56) t266_56 ?_
              obtain ⟨w49n, w49⟩ : ∃ n : Nat, w3x1.toInt = (n : Int) := ⟨(w3x1.toInt).toNat, by omega⟩
              have w50 : zIv mLo mHi (zsI w3M 342 w49n (zI M 337 (306 + w10n))) := zIv.put w3I (show (-2147483648) ≤ (zI M 337 (306 + w10n)).toInt ∧ (zI M 337 (306 + w10n)).toInt ≤ 2147483647 from zrg (zI M 337 (306 + w10n)))
              refine zs_iast (pc := 68) t266_68 (j := w49n) (by decide) (zk1 (w3s.k fk_zMm_342)) (show w3x1.toInt = ((w49n : Nat) : Int) by omega) (zk2 (w3s.k fk_zMm_342) (by omega)) ?_
              obtain ⟨w51v, w51e, w51⟩ := ziadd (a := w3x1) (b := Int32.ofInt 1) rfl (show (Int32.ofInt 1).toInt = 1 by decide) (by omega) (by omega)
              refine zs_iinc (pc := 69) t266_69 (ls' := [(1, .int w51v), (3, .int (zI M 337 (306 + w10n))), (0, .ref 336), (2, .int w3x2)]) (zml mf266 (by decide)) rfl (c := w51v) w51e rfl ?_
              refine zs_goto (pc := 72) t266_72 ?_
              obtain ⟨w52v, w52e, w52⟩ := ziadd (a := w3x2) (b := Int32.ofInt 1) rfl (show (Int32.ofInt 1).toInt = 1 by decide) (by omega) (by omega)
              refine zs_iinc (pc := 136) t266_136 (ls' := [(2, .int w52v), (1, .int w51v), (3, .int (zI M 337 (306 + w10n))), (0, .ref 336)]) (zml mf266 (by decide)) rfl (c := w52v) w52e rfl ?_
              refine zs_goto (pc := 139) t266_139 ?_
              refine zGo.locals (ls' := [(0, .ref 336), (1, .int w51v), (2, .int w52v)]) (by simp) ?_
              have w53 := w51
              have w54 := w52
              exact w3ih (w3m - 1) (by omega) w51v w52v (zsI w3M 342 w49n (zI M 337 (306 + w10n))) ⟨by omega, by omega⟩ ⟨by omega, by omega⟩ w3s w50 (((zFr.refl).trans (w3F.mono rfl)).put rfl) (zPF.fr (M' := (zsI w3M 342 w49n (zI M 337 (306 + w10n)))) w3PF (zEq.put rfl) rfl) (by rw [show w52v.toInt.toNat = w10n + 1 by omega]; omega) (by omega)
    refine zGo.locals (ls' := [(0, .ref 336), (1, .int (0 : Int32)), (2, .int (0 : Int32))]) (by simp) ?_
    have w55 := li0
    have w56 := li0
    exact w3L ((200 - 0 : Int).toNat) (0 : Int32) (0 : Int32) M ⟨by decide, by decide⟩ ⟨by decide, by decide⟩ hs hI zFr.refl pF rfl (by omega)
  · refine zs_if_neF (pc := 6) t266_6 rfl (by omega) ?_
    refine zs_iconst (pc := 9) t266_9 (v := 0) (by decide) ?_
    have w57 := ib336_5 hI
    have w58 : (zI M 336 5).toInt = (zI M 336 5).toInt := (congrArg Int32.toInt rfl).trans rfl
    have w59 := li0
    exact zs_iret (pc := 10) t266_10 mr266 (by decide) (hQ _ _ hs hI (zFr.refl) pR pC pF (by omega))
theorem T295 {X : zX} {l : Launch} {M : zM} {Q : Option Value → zM → Prop} {a : Int32} (hs : zSk zMm M) (hI : zIv mLo mHi M) (pR : zPR M) (pC : zPC M) (pF : zPF M) (hQ : ∀ (M' : zM) (v : Int32), zSk zMm M' → zIv mLo mHi M' → zFr [(336, 338, none), (340, 363, none)] M M' → zPR M' → zPC M' → zPF M' → ((zI M' 336 5).toInt = (zI M 336 5).toInt) → Q (some (.int v)) M') : zCall X l 8 0 0 295 [.ref 336, .int a] M Q := by
  have ga := zrg a
  refine zs_in (by decide) mf295 (Nat.le_of_ble_eq_true rfl) ?_
  show zGo X l 8 0 0 295 0 [(0, .ref 336), (1, .int a)] [] M _
  refine zs_iload_n (pc := 0) t295_0 rfl ?_
  refine zs_invS (pc := 1) (as := [.int a]) (st := []) t295_1 (by decide) mf260 rfl rfl ⟨by decide, by decide, Nat.le_of_ble_eq_true rfl, Nat.le_of_ble_eq_true rfl⟩ (K260 hs hI ?_) (fun _ _ q => q)
  intro w1v  w1a w1b
  show zGo X l 8 0 0 295 4 [(0, .ref 336), (1, .int a)] [.int w1v] M _
  refine zs_iconst (pc := 4) t295_4 (v := -1) (by decide) ?_
  by_cases w2 : w1v.toInt ≠ (-1)
  · refine zs_icmp_neT (pc := 5) t295_5 rfl lin1 (by omega) ?_
    refine zs_aload_n (pc := 12) t295_12 rfl ?_
    refine zs_iload_n (pc := 13) t295_13 rfl ?_
    refine zs_invS (pc := 14) (as := [.int a]) (st := [.ref 336]) t295_14 (by decide) mf260 rfl rfl ⟨by decide, by decide, Nat.le_of_ble_eq_true rfl, Nat.le_of_ble_eq_true rfl⟩ (K260 hs hI ?_) (fun _ _ q => q)
    intro w3v  w3a w3b
    show zGo X l 8 0 0 295 17 [(0, .ref 336), (1, .int a)] [.int w3v, .ref 336] M _
    refine zs_invV (pc := 17) (k := 336) (as' := [.int w3v]) (st := []) t295_17 mf267 rfl rfl (Or.inl ⟨by decide, (zk1 (hs.k fk_zMm_336))⟩) ⟨by decide, by decide, Nat.le_of_ble_eq_true rfl, Nat.le_of_ble_eq_true rfl⟩ (K267 hs hI pR pF ?_) (fun _ _ q => q)
    intro w4M w4v w4s w4I w4F w4PF w4PD w4PV
    have w4g := zrg w4v
    show zGo X l 8 0 0 295 20 [(0, .ref 336), (1, .int a)] [.int w4v] w4M _
    have w5 := ib336_5 hI
    have w6 : (zI w4M 336 5).toInt = (zI M 336 5).toInt := (congrArg Int32.toInt ((w4F 336 5 rfl).trans rfl)).trans rfl
    exact zs_iret (pc := 20) t295_20 mr295 rfl (hQ _ _ w4s w4I ((zFr.refl).trans (w4F.mono rfl)) (zPR.fr pR (w4F.eq rfl)) (zPC.fr pC (w4F.eq rfl)) w4PF (by omega))
  · refine zs_icmp_neF (pc := 5) t295_5 rfl lin1 (by omega) ?_
    refine zs_iconst (pc := 8) t295_8 (v := -1) (by decide) ?_
    refine zs_goto (pc := 9) t295_9 ?_
    have w7 := ib336_5 hI
    have w8 : (zI M 336 5).toInt = (zI M 336 5).toInt := (congrArg Int32.toInt rfl).trans rfl
    have w9 := lin1
    exact zs_iret (pc := 20) t295_20 mr295 (by decide) (hQ _ _ hs hI (zFr.refl) pR pC pF (by omega))
theorem T323 {X : zX} {l : Launch} {M : zM} {Q : Option Value → zM → Prop} {a b c d e : Int32} (hs : zSk zMm M) (hI : zIv mLo mHi M) (pR : zPR M) (pC : zPC M) (pF : zPF M) (hQ : ∀ (M' : zM) (v : Int32), zSk zMm M' → zIv mLo mHi M' → zFr [(336, 338, none), (340, 363, none)] M M' → zPR M' → zPC M' → zPF M' → ((zI M' 336 5).toInt = (zI M 336 5).toInt) → Q (some (.int v)) M') : zCall X l 9 0 0 323 [.ref 336, .int a, .int b, .int c, .int d, .int e] M Q := by
  have ga := zrg a
  have gb := zrg b
  have gc := zrg c
  have gd := zrg d
  have ge := zrg e
  refine zs_in (by decide) mf323 (Nat.le_of_ble_eq_true rfl) ?_
  show zGo X l 9 0 0 323 0 [(0, .ref 336), (1, .int a), (2, .int b), (3, .int c), (4, .int d), (5, .int e)] [] M _
  refine zs_iload_n (pc := 0) t323_0 rfl ?_
  refine zs_iload_n (pc := 1) t323_1 rfl ?_
  refine zs_iload_n (pc := 2) t323_2 rfl ?_
  refine zs_iload (pc := 3) t323_3 rfl ?_
  refine zs_invS (pc := 5) (as := [.int a, .int b, .int c, .int d]) (st := []) t323_5 (by decide) mf324 rfl rfl ⟨by decide, by decide, Nat.le_of_ble_eq_true rfl, Nat.le_of_ble_eq_true rfl⟩ (zs_in (by decide) mf324 (Nat.le_of_ble_eq_true rfl) ?_) (fun _ _ q => q)
  show zGo X l 1 0 0 324 0 [(0, .int a), (1, .int b), (2, .int c), (3, .int d)] [] M _
  refine zs_iload_n (pc := 0) t324_0 rfl ?_
  refine zs_i2l (pc := 1) t324_1 rfl ?_
  refine zs_lconst (pc := 2) t324_2 (v := 1) (by decide) ?_
  refine zs_ldc2_w (pc := 3) t324_3 (v := 200) (by decide) ?_
  by_cases w1 : 1 ≤ a.toInt ∧ a.toInt ≤ 200
  · refine zs_invS (pc := 6) (as := [.long a.toInt64, .long (1 : Int64), .long (200 : Int64)]) (st := []) t324_6 (by decide) mf228 rfl rfl ⟨by decide, by decide, Nat.le_of_ble_eq_true rfl, Nat.le_of_ble_eq_true rfl⟩ (K228T (zi2l rfl) ll1 ll200 (by omega) ?_) (fun _ _ q => q)
    show zGo X l 1 0 0 324 9 [(0, .int a), (1, .int b), (2, .int c), (3, .int d)] [.int (1 : Int32)] M _
    refine zs_if_eqF (pc := 9) t324_9 li1 (by decide) ?_
    refine zs_iload_n (pc := 12) t324_12 rfl ?_
    refine zs_i2l (pc := 13) t324_13 rfl ?_
    refine zs_lconst (pc := 14) t324_14 (v := 1) (by decide) ?_
    refine zs_ldc2_w (pc := 15) t324_15 (v := 999) (by decide) ?_
    by_cases w2 : 1 ≤ b.toInt ∧ b.toInt ≤ 999
    · refine zs_invS (pc := 18) (as := [.long b.toInt64, .long (1 : Int64), .long (999 : Int64)]) (st := []) t324_18 (by decide) mf228 rfl rfl ⟨by decide, by decide, Nat.le_of_ble_eq_true rfl, Nat.le_of_ble_eq_true rfl⟩ (K228T (zi2l rfl) ll1 ll999 (by omega) ?_) (fun _ _ q => q)
      show zGo X l 1 0 0 324 21 [(0, .int a), (1, .int b), (2, .int c), (3, .int d)] [.int (1 : Int32)] M _
      refine zs_if_eqF (pc := 21) t324_21 li1 (by decide) ?_
      refine zs_iload_n (pc := 24) t324_24 rfl ?_
      refine zs_i2l (pc := 25) t324_25 rfl ?_
      refine zs_lconst (pc := 26) t324_26 (v := 1) (by decide) ?_
      refine zs_ldc2_w (pc := 27) t324_27 (v := 8) (by decide) ?_
      by_cases w3 : 1 ≤ c.toInt ∧ c.toInt ≤ 8
      · refine zs_invS (pc := 30) (as := [.long c.toInt64, .long (1 : Int64), .long (8 : Int64)]) (st := []) t324_30 (by decide) mf228 rfl rfl ⟨by decide, by decide, Nat.le_of_ble_eq_true rfl, Nat.le_of_ble_eq_true rfl⟩ (K228T (zi2l rfl) ll1 ll8 (by omega) ?_) (fun _ _ q => q)
        show zGo X l 1 0 0 324 33 [(0, .int a), (1, .int b), (2, .int c), (3, .int d)] [.int (1 : Int32)] M _
        refine zs_if_eqF (pc := 33) t324_33 li1 (by decide) ?_
        refine zs_iload_n (pc := 36) t324_36 rfl ?_
        refine zs_i2l (pc := 37) t324_37 rfl ?_
        refine zs_lconst (pc := 38) t324_38 (v := 0) (by decide) ?_
        refine zs_ldc2_w (pc := 39) t324_39 (v := 50) (by decide) ?_
        by_cases w4 : 0 ≤ d.toInt ∧ d.toInt ≤ 50
        · refine zs_invS (pc := 42) (as := [.long d.toInt64, .long (0 : Int64), .long (50 : Int64)]) (st := []) t324_42 (by decide) mf228 rfl rfl ⟨by decide, by decide, Nat.le_of_ble_eq_true rfl, Nat.le_of_ble_eq_true rfl⟩ (K228T (zi2l rfl) ll0 ll50 (by omega) ?_) (fun _ _ q => q)
          show zGo X l 1 0 0 324 45 [(0, .int a), (1, .int b), (2, .int c), (3, .int d)] [.int (1 : Int32)] M _
          refine zs_if_eqF (pc := 45) t324_45 li1 (by decide) ?_
          refine zs_iconst (pc := 48) t324_48 (v := 1) (by decide) ?_
          refine zs_goto (pc := 49) t324_49 ?_
          refine zs_iret (pc := 53) t324_53 mr324 (by decide) ?_
          show zGo X l 9 0 0 323 8 [(0, .ref 336), (1, .int a), (2, .int b), (3, .int c), (4, .int d), (5, .int e)] [.int (1 : Int32)] M _
          refine zs_if_eqF (pc := 8) t323_8 li1 (by decide) ?_
          refine zs_iload (pc := 11) t323_11 rfl ?_
          refine zs_i2l (pc := 13) t323_13 rfl ?_
          refine zs_lconst (pc := 14) t323_14 (v := 0) (by decide) ?_
          refine zs_ldc2_w (pc := 15) t323_15 (v := 3) (by decide) ?_
          by_cases w5 : 0 ≤ e.toInt ∧ e.toInt ≤ 3
          · refine zs_invS (pc := 18) (as := [.long e.toInt64, .long (0 : Int64), .long (3 : Int64)]) (st := []) t323_18 (by decide) mf228 rfl rfl ⟨by decide, by decide, Nat.le_of_ble_eq_true rfl, Nat.le_of_ble_eq_true rfl⟩ (K228T (zi2l rfl) ll0 ll3 (by omega) ?_) (fun _ _ q => q)
            show zGo X l 9 0 0 323 21 [(0, .ref 336), (1, .int a), (2, .int b), (3, .int c), (4, .int d), (5, .int e)] [.int (1 : Int32)] M _
            refine zs_if_neT (pc := 21) t323_21 li1 (by decide) ?_
            refine zs_aload_n (pc := 26) t323_26 rfl ?_
            refine zs_iload_n (pc := 27) t323_27 rfl ?_
            refine zs_iload_n (pc := 28) t323_28 rfl ?_
            refine zs_iload_n (pc := 29) t323_29 rfl ?_
            refine zs_iload (pc := 30) t323_30 rfl ?_
            refine zs_invV (pc := 32) (k := 336) (as' := [.int a, .int b, .int c, .int d]) (st := []) t323_32 mf325 rfl rfl (Or.inl ⟨by decide, (zk1 (hs.k fk_zMm_336))⟩) ⟨by decide, by decide, Nat.le_of_ble_eq_true rfl, Nat.le_of_ble_eq_true rfl⟩ (K325 hs hI pR pF ⟨by omega, by omega⟩ ⟨by omega, by omega⟩ ⟨by omega, by omega⟩ ⟨by omega, by omega⟩ ?_) (fun _ _ q => q)
            intro w6M w6s w6I w6F w6PF
            show zGo X l 9 0 0 323 35 [(0, .ref 336), (1, .int a), (2, .int b), (3, .int c), (4, .int d), (5, .int e)] [] w6M _
            refine zs_iload (pc := 35) t323_35 rfl ?_
            by_cases w7 : e.toInt ≠ 0
            · refine zs_if_neT (pc := 37) t323_37 rfl (by omega) ?_
              refine zs_iload (pc := 47) t323_47 rfl ?_
              refine zs_iconst (pc := 49) t323_49 (v := 1) (by decide) ?_
              by_cases w8 : e.toInt ≠ 1
              · refine zs_icmp_neT (pc := 50) t323_50 rfl li1 (by omega) ?_
                refine zs_iload (pc := 60) t323_60 rfl ?_
                refine zs_iconst (pc := 62) t323_62 (v := 2) (by decide) ?_
                by_cases w9 : e.toInt ≠ 2
                · refine zs_icmp_neT (pc := 63) t323_63 rfl li2 (by omega) ?_
                  refine zs_aload_n (pc := 73) t323_73 rfl ?_
                  have w10 := zrg (zI w6M 336 45)
                  refine zs_get (pc := 74) t323_74 (by decide) (zk1 (w6s.k fk_zMm_336)) (zfvi rfl rfl) ?_
                  have w11 := ib336_5 hI
                  have w12 : (zI w6M 336 5).toInt = (zI M 336 5).toInt := (congrArg Int32.toInt ((w6F 336 5 rfl).trans rfl)).trans rfl
                  exact zs_iret (pc := 77) t323_77 mr323 rfl (hQ _ _ w6s w6I ((zFr.refl).trans (w6F.mono rfl)) (zPR.fr pR (w6F.eq rfl)) (zPC.fr pC (w6F.eq rfl)) w6PF (by omega))
                · refine zs_icmp_neF (pc := 63) t323_63 rfl li2 (by omega) ?_
                  refine zs_aload_n (pc := 66) t323_66 rfl ?_
                  have w13 := zrg (zI w6M 336 44)
                  refine zs_get (pc := 67) t323_67 (by decide) (zk1 (w6s.k fk_zMm_336)) (zfvi rfl rfl) ?_
                  refine zs_goto (pc := 70) t323_70 ?_
                  have w14 : (zI w6M 336 5).toInt = (zI M 336 5).toInt := (congrArg Int32.toInt ((w6F 336 5 rfl).trans rfl)).trans rfl
                  exact zs_iret (pc := 77) t323_77 mr323 rfl (hQ _ _ w6s w6I ((zFr.refl).trans (w6F.mono rfl)) (zPR.fr pR (w6F.eq rfl)) (zPC.fr pC (w6F.eq rfl)) w6PF (by omega))
              · refine zs_icmp_neF (pc := 50) t323_50 rfl li1 (by omega) ?_
                refine zs_aload_n (pc := 53) t323_53 rfl ?_
                have w15 := zrg (zI w6M 336 43)
                refine zs_get (pc := 54) t323_54 (by decide) (zk1 (w6s.k fk_zMm_336)) (zfvi rfl rfl) ?_
                refine zs_goto (pc := 57) t323_57 ?_
                have w16 : (zI w6M 336 5).toInt = (zI M 336 5).toInt := (congrArg Int32.toInt ((w6F 336 5 rfl).trans rfl)).trans rfl
                exact zs_iret (pc := 77) t323_77 mr323 rfl (hQ _ _ w6s w6I ((zFr.refl).trans (w6F.mono rfl)) (zPR.fr pR (w6F.eq rfl)) (zPC.fr pC (w6F.eq rfl)) w6PF (by omega))
            · refine zs_if_neF (pc := 37) t323_37 rfl (by omega) ?_
              refine zs_aload_n (pc := 40) t323_40 rfl ?_
              have w17 := zrg (zI w6M 336 42)
              refine zs_get (pc := 41) t323_41 (by decide) (zk1 (w6s.k fk_zMm_336)) (zfvi rfl rfl) ?_
              refine zs_goto (pc := 44) t323_44 ?_
              have w18 : (zI w6M 336 5).toInt = (zI M 336 5).toInt := (congrArg Int32.toInt ((w6F 336 5 rfl).trans rfl)).trans rfl
              exact zs_iret (pc := 77) t323_77 mr323 rfl (hQ _ _ w6s w6I ((zFr.refl).trans (w6F.mono rfl)) (zPR.fr pR (w6F.eq rfl)) (zPC.fr pC (w6F.eq rfl)) w6PF (by omega))
          · refine zs_invS (pc := 18) (as := [.long e.toInt64, .long (0 : Int64), .long (3 : Int64)]) (st := []) t323_18 (by decide) mf228 rfl rfl ⟨by decide, by decide, Nat.le_of_ble_eq_true rfl, Nat.le_of_ble_eq_true rfl⟩ (K228F (zi2l rfl) ll0 ll3 (by omega) ?_) (fun _ _ q => q)
            show zGo X l 9 0 0 323 21 [(0, .ref 336), (1, .int a), (2, .int b), (3, .int c), (4, .int d), (5, .int e)] [.int (0 : Int32)] M _
            refine zs_if_neF (pc := 21) t323_21 li0 (by decide) ?_
            refine zs_iconst (pc := 24) t323_24 (v := -1) (by decide) ?_
            have w19 := ib336_5 hI
            have w20 : (zI M 336 5).toInt = (zI M 336 5).toInt := (congrArg Int32.toInt rfl).trans rfl
            have w21 := lin1
            exact zs_iret (pc := 25) t323_25 mr323 (by decide) (hQ _ _ hs hI (zFr.refl) pR pC pF (by omega))
        · refine zs_invS (pc := 42) (as := [.long d.toInt64, .long (0 : Int64), .long (50 : Int64)]) (st := []) t324_42 (by decide) mf228 rfl rfl ⟨by decide, by decide, Nat.le_of_ble_eq_true rfl, Nat.le_of_ble_eq_true rfl⟩ (K228F (zi2l rfl) ll0 ll50 (by omega) ?_) (fun _ _ q => q)
          show zGo X l 1 0 0 324 45 [(0, .int a), (1, .int b), (2, .int c), (3, .int d)] [.int (0 : Int32)] M _
          refine zs_if_eqT (pc := 45) t324_45 li0 (by decide) ?_
          refine zs_iconst (pc := 52) t324_52 (v := 0) (by decide) ?_
          refine zs_iret (pc := 53) t324_53 mr324 (by decide) ?_
          show zGo X l 9 0 0 323 8 [(0, .ref 336), (1, .int a), (2, .int b), (3, .int c), (4, .int d), (5, .int e)] [.int (0 : Int32)] M _
          refine zs_if_eqT (pc := 8) t323_8 li0 (by decide) ?_
          refine zs_iconst (pc := 24) t323_24 (v := -1) (by decide) ?_
          have w22 := ib336_5 hI
          have w23 : (zI M 336 5).toInt = (zI M 336 5).toInt := (congrArg Int32.toInt rfl).trans rfl
          have w24 := lin1
          exact zs_iret (pc := 25) t323_25 mr323 (by decide) (hQ _ _ hs hI (zFr.refl) pR pC pF (by omega))
      · refine zs_invS (pc := 30) (as := [.long c.toInt64, .long (1 : Int64), .long (8 : Int64)]) (st := []) t324_30 (by decide) mf228 rfl rfl ⟨by decide, by decide, Nat.le_of_ble_eq_true rfl, Nat.le_of_ble_eq_true rfl⟩ (K228F (zi2l rfl) ll1 ll8 (by omega) ?_) (fun _ _ q => q)
        show zGo X l 1 0 0 324 33 [(0, .int a), (1, .int b), (2, .int c), (3, .int d)] [.int (0 : Int32)] M _
        refine zs_if_eqT (pc := 33) t324_33 li0 (by decide) ?_
        refine zs_iconst (pc := 52) t324_52 (v := 0) (by decide) ?_
        refine zs_iret (pc := 53) t324_53 mr324 (by decide) ?_
        show zGo X l 9 0 0 323 8 [(0, .ref 336), (1, .int a), (2, .int b), (3, .int c), (4, .int d), (5, .int e)] [.int (0 : Int32)] M _
        refine zs_if_eqT (pc := 8) t323_8 li0 (by decide) ?_
        refine zs_iconst (pc := 24) t323_24 (v := -1) (by decide) ?_
        have w25 := ib336_5 hI
        have w26 : (zI M 336 5).toInt = (zI M 336 5).toInt := (congrArg Int32.toInt rfl).trans rfl
        have w27 := lin1
        exact zs_iret (pc := 25) t323_25 mr323 (by decide) (hQ _ _ hs hI (zFr.refl) pR pC pF (by omega))
    · refine zs_invS (pc := 18) (as := [.long b.toInt64, .long (1 : Int64), .long (999 : Int64)]) (st := []) t324_18 (by decide) mf228 rfl rfl ⟨by decide, by decide, Nat.le_of_ble_eq_true rfl, Nat.le_of_ble_eq_true rfl⟩ (K228F (zi2l rfl) ll1 ll999 (by omega) ?_) (fun _ _ q => q)
      show zGo X l 1 0 0 324 21 [(0, .int a), (1, .int b), (2, .int c), (3, .int d)] [.int (0 : Int32)] M _
      refine zs_if_eqT (pc := 21) t324_21 li0 (by decide) ?_
      refine zs_iconst (pc := 52) t324_52 (v := 0) (by decide) ?_
      refine zs_iret (pc := 53) t324_53 mr324 (by decide) ?_
      show zGo X l 9 0 0 323 8 [(0, .ref 336), (1, .int a), (2, .int b), (3, .int c), (4, .int d), (5, .int e)] [.int (0 : Int32)] M _
      refine zs_if_eqT (pc := 8) t323_8 li0 (by decide) ?_
      refine zs_iconst (pc := 24) t323_24 (v := -1) (by decide) ?_
      have w28 := ib336_5 hI
      have w29 : (zI M 336 5).toInt = (zI M 336 5).toInt := (congrArg Int32.toInt rfl).trans rfl
      have w30 := lin1
      exact zs_iret (pc := 25) t323_25 mr323 (by decide) (hQ _ _ hs hI (zFr.refl) pR pC pF (by omega))
  · refine zs_invS (pc := 6) (as := [.long a.toInt64, .long (1 : Int64), .long (200 : Int64)]) (st := []) t324_6 (by decide) mf228 rfl rfl ⟨by decide, by decide, Nat.le_of_ble_eq_true rfl, Nat.le_of_ble_eq_true rfl⟩ (K228F (zi2l rfl) ll1 ll200 (by omega) ?_) (fun _ _ q => q)
    show zGo X l 1 0 0 324 9 [(0, .int a), (1, .int b), (2, .int c), (3, .int d)] [.int (0 : Int32)] M _
    refine zs_if_eqT (pc := 9) t324_9 li0 (by decide) ?_
    refine zs_iconst (pc := 52) t324_52 (v := 0) (by decide) ?_
    refine zs_iret (pc := 53) t324_53 mr324 (by decide) ?_
    show zGo X l 9 0 0 323 8 [(0, .ref 336), (1, .int a), (2, .int b), (3, .int c), (4, .int d), (5, .int e)] [.int (0 : Int32)] M _
    refine zs_if_eqT (pc := 8) t323_8 li0 (by decide) ?_
    refine zs_iconst (pc := 24) t323_24 (v := -1) (by decide) ?_
    have w31 := ib336_5 hI
    have w32 : (zI M 336 5).toInt = (zI M 336 5).toInt := (congrArg Int32.toInt rfl).trans rfl
    have w33 := lin1
    exact zs_iret (pc := 25) t323_25 mr323 (by decide) (hQ _ _ hs hI (zFr.refl) pR pC pF (by omega))
theorem T326 {X : zX} {l : Launch} {M : zM} {Q : Option Value → zM → Prop} {a b c : Int32} (hs : zSk zMm M) (hI : zIv mLo mHi M) (pR : zPR M) (pC : zPC M) (pF : zPF M) (hQ : ∀ (M' : zM) (v : Int32), zSk zMm M' → zIv mLo mHi M' → zFr [(336, 338, none), (340, 363, none)] M M' → zPR M' → zPC M' → zPF M' → ((zI M' 336 5).toInt = (zI M 336 5).toInt) → Q (some (.int v)) M') : zCall X l 9 0 0 326 [.ref 336, .int a, .int b, .int c] M Q := by
  have ga := zrg a
  have gb := zrg b
  have gc := zrg c
  refine zs_in (by decide) mf326 (Nat.le_of_ble_eq_true rfl) ?_
  show zGo X l 9 0 0 326 0 [(0, .ref 336), (1, .int a), (2, .int b), (3, .int c)] [] M _
  refine zs_iload_n (pc := 0) t326_0 rfl ?_
  refine zs_iload_n (pc := 1) t326_1 rfl ?_
  refine zs_iconst (pc := 2) t326_2 (v := 1) (by decide) ?_
  refine zs_iload_n (pc := 3) t326_3 rfl ?_
  refine zs_invS (pc := 4) (as := [.int a, .int b, .int (1 : Int32), .int c]) (st := []) t326_4 (by decide) mf324 rfl rfl ⟨by decide, by decide, Nat.le_of_ble_eq_true rfl, Nat.le_of_ble_eq_true rfl⟩ (zs_in (by decide) mf324 (Nat.le_of_ble_eq_true rfl) ?_) (fun _ _ q => q)
  show zGo X l 1 0 0 324 0 [(0, .int a), (1, .int b), (2, .int (1 : Int32)), (3, .int c)] [] M _
  refine zs_iload_n (pc := 0) t324_0 rfl ?_
  refine zs_i2l (pc := 1) t324_1 rfl ?_
  refine zs_lconst (pc := 2) t324_2 (v := 1) (by decide) ?_
  refine zs_ldc2_w (pc := 3) t324_3 (v := 200) (by decide) ?_
  by_cases w1 : 1 ≤ a.toInt ∧ a.toInt ≤ 200
  · refine zs_invS (pc := 6) (as := [.long a.toInt64, .long (1 : Int64), .long (200 : Int64)]) (st := []) t324_6 (by decide) mf228 rfl rfl ⟨by decide, by decide, Nat.le_of_ble_eq_true rfl, Nat.le_of_ble_eq_true rfl⟩ (K228T (zi2l rfl) ll1 ll200 (by omega) ?_) (fun _ _ q => q)
    show zGo X l 1 0 0 324 9 [(0, .int a), (1, .int b), (2, .int (1 : Int32)), (3, .int c)] [.int (1 : Int32)] M _
    refine zs_if_eqF (pc := 9) t324_9 li1 (by decide) ?_
    refine zs_iload_n (pc := 12) t324_12 rfl ?_
    refine zs_i2l (pc := 13) t324_13 rfl ?_
    refine zs_lconst (pc := 14) t324_14 (v := 1) (by decide) ?_
    refine zs_ldc2_w (pc := 15) t324_15 (v := 999) (by decide) ?_
    by_cases w2 : 1 ≤ b.toInt ∧ b.toInt ≤ 999
    · refine zs_invS (pc := 18) (as := [.long b.toInt64, .long (1 : Int64), .long (999 : Int64)]) (st := []) t324_18 (by decide) mf228 rfl rfl ⟨by decide, by decide, Nat.le_of_ble_eq_true rfl, Nat.le_of_ble_eq_true rfl⟩ (K228T (zi2l rfl) ll1 ll999 (by omega) ?_) (fun _ _ q => q)
      show zGo X l 1 0 0 324 21 [(0, .int a), (1, .int b), (2, .int (1 : Int32)), (3, .int c)] [.int (1 : Int32)] M _
      refine zs_if_eqF (pc := 21) t324_21 li1 (by decide) ?_
      refine zs_iload_n (pc := 24) t324_24 rfl ?_
      refine zs_i2l (pc := 25) t324_25 (c := 1) (by decide) ?_
      refine zs_lconst (pc := 26) t324_26 (v := 1) (by decide) ?_
      refine zs_ldc2_w (pc := 27) t324_27 (v := 8) (by decide) ?_
      refine zs_invS (pc := 30) (as := [.long (1 : Int64), .long (1 : Int64), .long (8 : Int64)]) (st := []) t324_30 (by decide) mf228 rfl rfl ⟨by decide, by decide, Nat.le_of_ble_eq_true rfl, Nat.le_of_ble_eq_true rfl⟩ (K228T ll1 ll1 ll8 (by omega) ?_) (fun _ _ q => q)
      show zGo X l 1 0 0 324 33 [(0, .int a), (1, .int b), (2, .int (1 : Int32)), (3, .int c)] [.int (1 : Int32)] M _
      refine zs_if_eqF (pc := 33) t324_33 li1 (by decide) ?_
      refine zs_iload_n (pc := 36) t324_36 rfl ?_
      refine zs_i2l (pc := 37) t324_37 rfl ?_
      refine zs_lconst (pc := 38) t324_38 (v := 0) (by decide) ?_
      refine zs_ldc2_w (pc := 39) t324_39 (v := 50) (by decide) ?_
      by_cases w4 : 0 ≤ c.toInt ∧ c.toInt ≤ 50
      · refine zs_invS (pc := 42) (as := [.long c.toInt64, .long (0 : Int64), .long (50 : Int64)]) (st := []) t324_42 (by decide) mf228 rfl rfl ⟨by decide, by decide, Nat.le_of_ble_eq_true rfl, Nat.le_of_ble_eq_true rfl⟩ (K228T (zi2l rfl) ll0 ll50 (by omega) ?_) (fun _ _ q => q)
        show zGo X l 1 0 0 324 45 [(0, .int a), (1, .int b), (2, .int (1 : Int32)), (3, .int c)] [.int (1 : Int32)] M _
        refine zs_if_eqF (pc := 45) t324_45 li1 (by decide) ?_
        refine zs_iconst (pc := 48) t324_48 (v := 1) (by decide) ?_
        refine zs_goto (pc := 49) t324_49 ?_
        refine zs_iret (pc := 53) t324_53 mr324 (by decide) ?_
        show zGo X l 9 0 0 326 7 [(0, .ref 336), (1, .int a), (2, .int b), (3, .int c)] [.int (1 : Int32)] M _
        refine zs_if_neT (pc := 7) t326_7 li1 (by decide) ?_
        refine zs_iconst (pc := 12) t326_12 (v := 1) (by decide) ?_
        refine zs_istore (pc := 13) t326_13 (ls' := [(4, .int (1 : Int32)), (0, .ref 336), (1, .int a), (2, .int b), (3, .int c)]) (zml mf326 (by decide)) rfl ?_
        have w5L : ∀ (m : Nat) (w5x4 : Int32) (w5M : zM), (1 ≤ w5x4.toInt ∧ w5x4.toInt ≤ 9) → zSk zMm w5M → zIv mLo mHi w5M → zFr [(344, 344, none), (349, 349, none), (350, 350, none), (343, 343, none), (345, 345, none), (346, 346, none), (347, 347, none), (348, 348, none), (336, 336, some 22), (336, 336, some 18), (336, 336, some 19), (336, 336, some 20), (336, 336, some 21), (351, 354, none), (358, 358, none), (336, 336, some 37), (356, 356, none), (355, 355, none), (343, 343, none), (344, 344, none), (336, 336, some 39), (359, 359, none), (336, 336, some 3), (360, 360, none), (361, 361, none), (336, 336, some 42), (336, 336, some 43), (336, 336, some 44), (336, 336, some 45)] M w5M → zPF w5M → 9 - w5x4.toInt ≤ (m : Int) → zGo X l 9 0 0 326 15 [(0, .ref 336), (1, .int a), (2, .int b), (3, .int c), (4, .int w5x4)] [] w5M Q := by
          intro m
          induction m using Nat.strongRecOn with
          | ind w5m w5ih =>
            intro w5x4 w5M w5b4 w5s w5I w5F w5PF w5q
            refine zs_iload (pc := 15) t326_15 rfl ?_
            refine zs_bipush (pc := 17) t326_17 (v := 8) (by decide) ?_
            by_cases w6 : 8 < w5x4.toInt
            · refine zs_icmp_gtT (pc := 19) t326_19 rfl li8 (by omega) ?_
              refine zs_bipush (pc := 52) t326_52 (v := -2) (by decide) ?_
              have w7 := ib336_5 hI
              have w8 : (zI w5M 336 5).toInt = (zI M 336 5).toInt := (congrArg Int32.toInt ((w5F 336 5 rfl).trans rfl)).trans rfl
              have w9 := lin2
              exact zs_iret (pc := 54) t326_54 mr326 (by decide) (hQ _ _ w5s w5I ((zFr.refl).trans (w5F.mono rfl)) (zPR.fr pR (w5F.eq rfl)) (zPC.fr pC (w5F.eq rfl)) w5PF (by omega))
            · refine zs_icmp_gtF (pc := 19) t326_19 rfl li8 (by omega) ?_
              refine zs_aload_n (pc := 22) t326_22 rfl ?_
              refine zs_iload_n (pc := 23) t326_23 rfl ?_
              refine zs_iload_n (pc := 24) t326_24 rfl ?_
              refine zs_iload (pc := 25) t326_25 rfl ?_
              refine zs_iload_n (pc := 27) t326_27 rfl ?_
              refine zs_invV (pc := 28) (k := 336) (as' := [.int a, .int b, .int w5x4, .int c]) (st := []) t326_28 mf325 rfl rfl (Or.inl ⟨by decide, (zk1 (w5s.k fk_zMm_336))⟩) ⟨by decide, by decide, Nat.le_of_ble_eq_true rfl, Nat.le_of_ble_eq_true rfl⟩ (K325 w5s w5I (zPR.fr pR (w5F.eq rfl)) w5PF ⟨by omega, by omega⟩ ⟨by omega, by omega⟩ ⟨by omega, by omega⟩ ⟨by omega, by omega⟩ ?_) (fun _ _ q => q)
              intro w10M w10s w10I w10F w10PF
              show zGo X l 9 0 0 326 31 [(0, .ref 336), (1, .int a), (2, .int b), (3, .int c), (4, .int w5x4)] [] w10M _
              refine zs_aload_n (pc := 31) t326_31 rfl ?_
              have w11 := zrg (zI w10M 336 42)
              refine zs_get (pc := 32) t326_32 (by decide) (zk1 (w10s.k fk_zMm_336)) (zfvi rfl rfl) ?_
              refine zs_aload_n (pc := 35) t326_35 rfl ?_
              have w12 := zrg (zI w10M 336 43)
              refine zs_get (pc := 36) t326_36 (by decide) (zk1 (w10s.k fk_zMm_336)) (zfvi rfl rfl) ?_
              obtain ⟨w13v, w13⟩ : ∃ v, v = (zI w10M 336 42) + (zI w10M 336 43) := ⟨_, rfl⟩
              have w13g := zrg w13v
              refine zs_iadd (pc := 39) t326_39 (c := w13v) w13.symm ?_
              by_cases w14 : w13v.toInt ≠ 0
              · refine zs_if_neT (pc := 40) t326_40 rfl (by omega) ?_
                obtain ⟨w15v, w15e, w15⟩ := ziadd (a := w5x4) (b := Int32.ofInt 1) rfl (show (Int32.ofInt 1).toInt = 1 by decide) (by omega) (by omega)
                refine zs_iinc (pc := 46) t326_46 (ls' := [(4, .int w15v), (0, .ref 336), (1, .int a), (2, .int b), (3, .int c)]) (zml mf326 (by decide)) rfl (c := w15v) w15e rfl ?_
                refine zs_goto (pc := 49) t326_49 ?_
                refine zGo.locals (ls' := [(0, .ref 336), (1, .int a), (2, .int b), (3, .int c), (4, .int w15v)]) (by simp) ?_
                have w16 := w15
                exact w5ih (w5m - 1) (by omega) w15v w10M ⟨by omega, by omega⟩ w10s w10I (((zFr.refl).trans (w5F.mono rfl)).trans (w10F.mono rfl)) w10PF (by omega)
              · refine zs_if_neF (pc := 40) t326_40 rfl (by omega) ?_
                refine zs_iload (pc := 43) t326_43 rfl ?_
                have w17 : (zI w10M 336 5).toInt = (zI M 336 5).toInt := (congrArg Int32.toInt ((w10F 336 5 rfl).trans ((w5F 336 5 rfl).trans rfl))).trans rfl
                exact zs_iret (pc := 45) t326_45 mr326 rfl (hQ _ _ w10s w10I (((zFr.refl).trans (w5F.mono rfl)).trans (w10F.mono rfl)) (zPR.fr (zPR.fr pR (w5F.eq rfl)) (w10F.eq rfl)) (zPC.fr (zPC.fr pC (w5F.eq rfl)) (w10F.eq rfl)) w10PF (by omega))
        refine zGo.locals (ls' := [(0, .ref 336), (1, .int a), (2, .int b), (3, .int c), (4, .int (1 : Int32))]) (by simp) ?_
        have w18 := li1
        exact w5L ((9 - 1 : Int).toNat) (1 : Int32) M ⟨by decide, by decide⟩ hs hI zFr.refl pF (by omega)
      · refine zs_invS (pc := 42) (as := [.long c.toInt64, .long (0 : Int64), .long (50 : Int64)]) (st := []) t324_42 (by decide) mf228 rfl rfl ⟨by decide, by decide, Nat.le_of_ble_eq_true rfl, Nat.le_of_ble_eq_true rfl⟩ (K228F (zi2l rfl) ll0 ll50 (by omega) ?_) (fun _ _ q => q)
        show zGo X l 1 0 0 324 45 [(0, .int a), (1, .int b), (2, .int (1 : Int32)), (3, .int c)] [.int (0 : Int32)] M _
        refine zs_if_eqT (pc := 45) t324_45 li0 (by decide) ?_
        refine zs_iconst (pc := 52) t324_52 (v := 0) (by decide) ?_
        refine zs_iret (pc := 53) t324_53 mr324 (by decide) ?_
        show zGo X l 9 0 0 326 7 [(0, .ref 336), (1, .int a), (2, .int b), (3, .int c)] [.int (0 : Int32)] M _
        refine zs_if_neF (pc := 7) t326_7 li0 (by decide) ?_
        refine zs_iconst (pc := 10) t326_10 (v := -1) (by decide) ?_
        have w19 := ib336_5 hI
        have w20 : (zI M 336 5).toInt = (zI M 336 5).toInt := (congrArg Int32.toInt rfl).trans rfl
        have w21 := lin1
        exact zs_iret (pc := 11) t326_11 mr326 (by decide) (hQ _ _ hs hI (zFr.refl) pR pC pF (by omega))
    · refine zs_invS (pc := 18) (as := [.long b.toInt64, .long (1 : Int64), .long (999 : Int64)]) (st := []) t324_18 (by decide) mf228 rfl rfl ⟨by decide, by decide, Nat.le_of_ble_eq_true rfl, Nat.le_of_ble_eq_true rfl⟩ (K228F (zi2l rfl) ll1 ll999 (by omega) ?_) (fun _ _ q => q)
      show zGo X l 1 0 0 324 21 [(0, .int a), (1, .int b), (2, .int (1 : Int32)), (3, .int c)] [.int (0 : Int32)] M _
      refine zs_if_eqT (pc := 21) t324_21 li0 (by decide) ?_
      refine zs_iconst (pc := 52) t324_52 (v := 0) (by decide) ?_
      refine zs_iret (pc := 53) t324_53 mr324 (by decide) ?_
      show zGo X l 9 0 0 326 7 [(0, .ref 336), (1, .int a), (2, .int b), (3, .int c)] [.int (0 : Int32)] M _
      refine zs_if_neF (pc := 7) t326_7 li0 (by decide) ?_
      refine zs_iconst (pc := 10) t326_10 (v := -1) (by decide) ?_
      have w22 := ib336_5 hI
      have w23 : (zI M 336 5).toInt = (zI M 336 5).toInt := (congrArg Int32.toInt rfl).trans rfl
      have w24 := lin1
      exact zs_iret (pc := 11) t326_11 mr326 (by decide) (hQ _ _ hs hI (zFr.refl) pR pC pF (by omega))
  · refine zs_invS (pc := 6) (as := [.long a.toInt64, .long (1 : Int64), .long (200 : Int64)]) (st := []) t324_6 (by decide) mf228 rfl rfl ⟨by decide, by decide, Nat.le_of_ble_eq_true rfl, Nat.le_of_ble_eq_true rfl⟩ (K228F (zi2l rfl) ll1 ll200 (by omega) ?_) (fun _ _ q => q)
    show zGo X l 1 0 0 324 9 [(0, .int a), (1, .int b), (2, .int (1 : Int32)), (3, .int c)] [.int (0 : Int32)] M _
    refine zs_if_eqT (pc := 9) t324_9 li0 (by decide) ?_
    refine zs_iconst (pc := 52) t324_52 (v := 0) (by decide) ?_
    refine zs_iret (pc := 53) t324_53 mr324 (by decide) ?_
    show zGo X l 9 0 0 326 7 [(0, .ref 336), (1, .int a), (2, .int b), (3, .int c)] [.int (0 : Int32)] M _
    refine zs_if_neF (pc := 7) t326_7 li0 (by decide) ?_
    refine zs_iconst (pc := 10) t326_10 (v := -1) (by decide) ?_
    have w25 := ib336_5 hI
    have w26 : (zI M 336 5).toInt = (zI M 336 5).toInt := (congrArg Int32.toInt rfl).trans rfl
    have w27 := lin1
    exact zs_iret (pc := 11) t326_11 mr326 (by decide) (hQ _ _ hs hI (zFr.refl) pR pC pF (by omega))
theorem T327 {X : zX} {l : Launch} {M : zM} {Q : Option Value → zM → Prop} {a : Int32} (hs : zSk zMm M) (hI : zIv mLo mHi M) (pR : zPR M) (pC : zPC M) (pF : zPF M) (hQ : ∀ (M' : zM) (v : Int32), zSk zMm M' → zIv mLo mHi M' → zFr [(336, 338, none), (340, 363, none)] M M' → zPR M' → zPC M' → zPF M' → ((zI M' 336 5).toInt = (zI M 336 5).toInt) → Q (some (.int v)) M') : zCall X l 7 0 0 327 [.ref 336, .int a] M Q := by
  have ga := zrg a
  refine zs_in (by decide) mf327 (Nat.le_of_ble_eq_true rfl) ?_
  show zGo X l 7 0 0 327 0 [(0, .ref 336), (1, .int a)] [] M _
  refine zs_aload_n (pc := 0) t327_0 rfl ?_
  refine zs_iload_n (pc := 1) t327_1 rfl ?_
  refine zs_invV (pc := 2) (k := 336) (as' := [.int a]) (st := []) t327_2 mf306 rfl rfl (Or.inl ⟨by decide, (zk1 (hs.k fk_zMm_336))⟩) ⟨by decide, by decide, Nat.le_of_ble_eq_true rfl, Nat.le_of_ble_eq_true rfl⟩ (zs_in (by decide) mf306 (Nat.le_of_ble_eq_true rfl) ?_) (fun _ _ q => q)
  show zGo X l 1 0 0 306 0 [(0, .ref 336), (1, .int a)] [] M _
  refine zs_iload_n (pc := 0) t306_0 rfl ?_
  refine zs_i2l (pc := 1) t306_1 rfl ?_
  refine zs_lconst (pc := 2) t306_2 (v := 0) (by decide) ?_
  refine zs_aload_n (pc := 3) t306_3 rfl ?_
  refine zs_get (pc := 4) t306_4 (by decide) (zk1 (hs.k fk_zMm_336)) (hs.p rfl fv_zMm_336_0) ?_
  refine zs_iconst (pc := 7) t306_7 (v := 0) (by decide) ?_
  have w1 := ibA0 hI
  refine zs_iald (pc := 8) t306_8 (j := 0) (by decide) (zk1 (hs.k fk_zMm_337)) li0 (zk2 (hs.k fk_zMm_337) (by decide)) rfl ?_
  refine zs_iconst (pc := 9) t306_9 (v := 1) (by decide) ?_
  obtain ⟨w2v, w2e, w2⟩ := zisub (a := (zI M 337 0)) (b := (1 : Int32)) rfl li1 (by omega) (by omega)
  refine zs_isub (pc := 10) t306_10 (c := w2v) w2e ?_
  refine zs_i2l (pc := 11) t306_11 rfl ?_
  by_cases w3 : 0 ≤ a.toInt ∧ a.toInt ≤ ((zI M 337 0).toInt - 1)
  · refine zs_invS (pc := 12) (as := [.long a.toInt64, .long (0 : Int64), .long w2v.toInt64]) (st := []) t306_12 (by decide) mf228 rfl rfl ⟨by decide, by decide, Nat.le_of_ble_eq_true rfl, Nat.le_of_ble_eq_true rfl⟩ (K228T (zi2l rfl) ll0 (zi2l w2) (by omega) ?_) (fun _ _ q => q)
    show zGo X l 1 0 0 306 15 [(0, .ref 336), (1, .int a)] [.int (1 : Int32)] M _
    refine zs_iret (pc := 15) t306_15 mr306 (by decide) ?_
    show zGo X l 7 0 0 327 5 [(0, .ref 336), (1, .int a)] [.int (1 : Int32)] M _
    refine zs_if_neT (pc := 5) t327_5 li1 (by decide) ?_
    refine zs_aload_n (pc := 12) t327_12 rfl ?_
    refine zs_invV (pc := 13) (k := 336) (as' := []) (st := []) t327_13 mf268 rfl rfl (Or.inl ⟨by decide, (zk1 (hs.k fk_zMm_336))⟩) ⟨by decide, by decide, Nat.le_of_ble_eq_true rfl, Nat.le_of_ble_eq_true rfl⟩ (K268 hs hI pR pF ?_) (fun _ _ q => q)
    intro w4M w4s w4I w4F w4PF w4PD w4PV
    show zGo X l 7 0 0 327 16 [(0, .ref 336), (1, .int a)] [] w4M _
    refine zs_aload_n (pc := 16) t327_16 rfl ?_
    have w5 := ib336_22 w4I
    refine zs_get (pc := 17) t327_17 (by decide) (zk1 (w4s.k fk_zMm_336)) (zfvi rfl rfl) ?_
    refine zs_istore_n (pc := 20) t327_20 (ls' := [(2, .int (zI w4M 336 22)), (0, .ref 336), (1, .int a)]) (zml mf327 (by decide)) rfl ?_
    refine zs_aload_n (pc := 21) t327_21 rfl ?_
    refine zs_aload_n (pc := 22) t327_22 rfl ?_
    refine zs_get (pc := 23) t327_23 (by decide) (zk1 (w4s.k fk_zMm_336)) (w4s.p rfl fv_zMm_336_0) ?_
    refine zs_bipush (pc := 26) t327_26 (v := 8) (by decide) ?_
    have w6 := ibA8 hI
    refine zs_iald (pc := 28) t327_28 (j := 8) (by decide) (zk1 (w4s.k fk_zMm_337)) li8 (zk2 (w4s.k fk_zMm_337) (by decide)) ((w4F 337 8 rfl).trans rfl) ?_
    refine zs_iload_n (pc := 29) t327_29 rfl ?_
    refine zs_invV (pc := 30) (k := 336) (as' := [.int (zI M 337 8), .int a]) (st := []) t327_30 mf269 rfl rfl (Or.inl ⟨by decide, (zk1 (w4s.k fk_zMm_336))⟩) ⟨by decide, by decide, Nat.le_of_ble_eq_true rfl, Nat.le_of_ble_eq_true rfl⟩ (K269 w4s w4I (zPR.fr pR (w4F.eq rfl)) ⟨by omega, by omega⟩ ?_) (fun _ _ q => q)
    intro w7M w7s w7I w7F w7J w7PT
    show zGo X l 7 0 0 327 33 [(2, .int (zI w4M 336 22)), (0, .ref 336), (1, .int a)] [] w7M _
    refine zs_aload_n (pc := 33) t327_33 rfl ?_
    refine zs_iconst (pc := 34) t327_34 (v := 0) (by decide) ?_
    have w8 : zIv mLo mHi (zsI w7M 336 3 (0 : Int32)) := zIv.put w7I (show 0 ≤ (0 : Int32).toInt ∧ (0 : Int32).toInt ≤ 1 from ⟨by decide, by decide⟩)
    have w9 : zPF (zsI w7M 336 3 (0 : Int32)) := zPF.off
    refine zs_putI (pc := 35) t327_35 (zk1 (w7s.k fk_zMm_336)) (by decide) ?_
    refine zs_iload_n (pc := 38) t327_38 rfl ?_
    refine zs_aload_n (pc := 39) t327_39 rfl ?_
    have w10 := ib336_22 w7I
    refine zs_get (pc := 40) t327_40 (by decide) (zk1 (w7s.k fk_zMm_336)) (zfvi rfl ((zIoj (by decide)).trans rfl)) ?_
    obtain ⟨w11v, w11e, w11⟩ := zisub (a := (zI w4M 336 22)) (b := (zI w7M 336 22)) rfl rfl (by omega) (by omega)
    refine zs_isub (pc := 43) t327_43 (c := w11v) w11e ?_
    have w12 := ib336_5 hI
    have w13 : (zI (zsI w7M 336 3 (0 : Int32)) 336 5).toInt = (zI M 336 5).toInt := (congrArg Int32.toInt ((zIoj (by decide)).trans ((w7F 336 5 rfl).trans ((w4F 336 5 rfl).trans rfl)))).trans rfl
    have w14 := w11
    exact zs_iret (pc := 44) t327_44 mr327 rfl (hQ _ _ w7s w8 ((((zFr.refl).trans (w4F.mono rfl)).trans (w7F.mono rfl)).put rfl) (zPR.fr (M' := (zsI w7M 336 3 (0 : Int32))) (zPR.fr (zPR.fr pR (w4F.eq rfl)) (w7F.eq rfl)) (zEq.put rfl)) (zPC.fr (M' := (zsI w7M 336 3 (0 : Int32))) (zPC.fr (zPC.fr pC (w4F.eq rfl)) (w7F.eq rfl)) (zEq.put rfl)) w9 (by omega))
  · refine zs_invS (pc := 12) (as := [.long a.toInt64, .long (0 : Int64), .long w2v.toInt64]) (st := []) t306_12 (by decide) mf228 rfl rfl ⟨by decide, by decide, Nat.le_of_ble_eq_true rfl, Nat.le_of_ble_eq_true rfl⟩ (K228F (zi2l rfl) ll0 (zi2l w2) (by omega) ?_) (fun _ _ q => q)
    show zGo X l 1 0 0 306 15 [(0, .ref 336), (1, .int a)] [.int (0 : Int32)] M _
    refine zs_iret (pc := 15) t306_15 mr306 (by decide) ?_
    show zGo X l 7 0 0 327 5 [(0, .ref 336), (1, .int a)] [.int (0 : Int32)] M _
    refine zs_if_neF (pc := 5) t327_5 li0 (by decide) ?_
    refine zs_ldc_w (pc := 8) t327_8 (v := -100000) rfl (by decide) ?_
    have w15 := ib336_5 hI
    have w16 : (zI M 336 5).toInt = (zI M 336 5).toInt := (congrArg Int32.toInt rfl).trans rfl
    have w17 := lin100000
    exact zs_iret (pc := 11) t327_11 mr327 (by decide) (hQ _ _ hs hI (zFr.refl) pR pC pF (by omega))
theorem T328 {X : zX} {l : Launch} {M : zM} {Q : Option Value → zM → Prop} {a : Int32} (hs : zSk zMm M) (hI : zIv mLo mHi M) (pR : zPR M) (pC : zPC M) (pF : zPF M) (hQ : ∀ (M' : zM) (v : Int32), zSk zMm M' → zIv mLo mHi M' → zFr [(336, 338, none), (340, 363, none)] M M' → zPR M' → zPC M' → zPF M' → ((zI M' 336 5).toInt = (zI M 336 5).toInt) → Q (some (.int v)) M') : zCall X l 6 0 0 328 [.ref 336, .int a] M Q := by
  have ga := zrg a
  refine zs_in (by decide) mf328 (Nat.le_of_ble_eq_true rfl) ?_
  show zGo X l 6 0 0 328 0 [(0, .ref 336), (1, .int a)] [] M _
  refine zs_iload_n (pc := 0) t328_0 rfl ?_
  refine zs_i2l (pc := 1) t328_1 rfl ?_
  refine zs_lconst (pc := 2) t328_2 (v := 0) (by decide) ?_
  refine zs_ldc2_w (pc := 3) t328_3 (v := 2) (by decide) ?_
  by_cases w1 : 0 ≤ a.toInt ∧ a.toInt ≤ 2
  · refine zs_invS (pc := 6) (as := [.long a.toInt64, .long (0 : Int64), .long (2 : Int64)]) (st := []) t328_6 (by decide) mf228 rfl rfl ⟨by decide, by decide, Nat.le_of_ble_eq_true rfl, Nat.le_of_ble_eq_true rfl⟩ (K228T (zi2l rfl) ll0 ll2 (by omega) ?_) (fun _ _ q => q)
    show zGo X l 6 0 0 328 9 [(0, .ref 336), (1, .int a)] [.int (1 : Int32)] M _
    refine zs_if_neT (pc := 9) t328_9 li1 (by decide) ?_
    refine zs_iconst (pc := 14) t328_14 (v := -1) (by decide) ?_
    refine zs_istore_n (pc := 15) t328_15 (ls' := [(2, .int (-1 : Int32)), (0, .ref 336), (1, .int a)]) (zml mf328 (by decide)) rfl ?_
    refine zs_iconst (pc := 16) t328_16 (v := 0) (by decide) ?_
    refine zs_istore_n (pc := 17) t328_17 (ls' := [(3, .int (0 : Int32)), (2, .int (-1 : Int32)), (0, .ref 336), (1, .int a)]) (zml mf328 (by decide)) rfl ?_
    refine zs_iconst (pc := 18) t328_18 (v := 0) (by decide) ?_
    refine zs_istore (pc := 19) t328_19 (ls' := [(4, .int (0 : Int32)), (3, .int (0 : Int32)), (2, .int (-1 : Int32)), (0, .ref 336), (1, .int a)]) (zml mf328 (by decide)) rfl ?_
    refine zs_iconst (pc := 21) t328_21 (v := 2) (by decide) ?_
    refine zs_istore (pc := 22) t328_22 (ls' := [(5, .int (2 : Int32)), (4, .int (0 : Int32)), (3, .int (0 : Int32)), (2, .int (-1 : Int32)), (0, .ref 336), (1, .int a)]) (zml mf328 (by decide)) rfl ?_
    have w2L : ∀ (m : Nat) (w2x2 : Int32) (w2x3 : Int32) (w2x4 : Int32) (w2x5 : Int32) (w2M : zM), ((-1) ≤ w2x2.toInt ∧ w2x2.toInt ≤ 8) → (2 ≤ w2x5.toInt ∧ w2x5.toInt ≤ 9) → zSk zMm w2M → zIv mLo mHi w2M → zFr [(344, 344, none), (349, 349, none), (350, 350, none), (343, 343, none), (345, 345, none), (346, 346, none), (347, 347, none), (348, 348, none), (336, 336, some 22), (336, 336, some 18), (336, 336, some 19), (336, 336, some 20), (336, 336, some 21)] M w2M → zJ w2M 351 = zJ M 351 → 9 - w2x5.toInt ≤ (m : Int) → zGo X l 6 0 0 328 24 [(0, .ref 336), (1, .int a), (2, .int w2x2), (3, .int w2x3), (4, .int w2x4), (5, .int w2x5)] [] w2M Q := by
      intro m
      induction m using Nat.strongRecOn with
      | ind w2m w2ih =>
        intro w2x2 w2x3 w2x4 w2x5 w2M w2b2 w2b5 w2s w2I w2F w2J w2q
        have w2g3 := zrg w2x3
        have w2g4 := zrg w2x4
        refine zs_iload (pc := 24) t328_24 rfl ?_
        refine zs_bipush (pc := 26) t328_26 (v := 8) (by decide) ?_
        by_cases w3 : 8 < w2x5.toInt
        · refine zs_icmp_gtT (pc := 28) t328_28 rfl li8 (by omega) ?_
          refine zs_aload_n (pc := 86) t328_86 rfl ?_
          refine zs_iconst (pc := 87) t328_87 (v := 0) (by decide) ?_
          have w4 : zIv mLo mHi (zsI w2M 336 3 (0 : Int32)) := zIv.put w2I (show 0 ≤ (0 : Int32).toInt ∧ (0 : Int32).toInt ≤ 1 from ⟨by decide, by decide⟩)
          have w5 : zPF (zsI w2M 336 3 (0 : Int32)) := zPF.off
          refine zs_putI (pc := 88) t328_88 (zk1 (w2s.k fk_zMm_336)) (by decide) ?_
          refine zs_iload_n (pc := 91) t328_91 rfl ?_
          by_cases w6 : a.toInt ≠ 0
          · refine zs_if_neT (pc := 92) t328_92 rfl (by omega) ?_
            refine zs_iload_n (pc := 99) t328_99 rfl ?_
            refine zs_iconst (pc := 100) t328_100 (v := 1) (by decide) ?_
            by_cases w7 : a.toInt ≠ 1
            · refine zs_icmp_neT (pc := 101) t328_101 rfl li1 (by omega) ?_
              refine zs_iload (pc := 108) t328_108 rfl ?_
              have w8 := ib336_5 hI
              have w9 : (zI (zsI w2M 336 3 (0 : Int32)) 336 5).toInt = (zI M 336 5).toInt := (congrArg Int32.toInt ((zIoj (by decide)).trans ((w2F 336 5 rfl).trans rfl))).trans rfl
              exact zs_iret (pc := 110) t328_110 mr328 rfl (hQ _ _ w2s w4 (((zFr.refl).trans (w2F.mono rfl)).put rfl) (zPR.fr (M' := (zsI w2M 336 3 (0 : Int32))) (zPR.fr pR (w2F.eq rfl)) (zEq.put rfl)) (zPC.fr (M' := (zsI w2M 336 3 (0 : Int32))) (zPC.fr pC (w2F.eq rfl)) (zEq.put rfl)) w5 (by omega))
            · refine zs_icmp_neF (pc := 101) t328_101 rfl li1 (by omega) ?_
              refine zs_iload_n (pc := 104) t328_104 rfl ?_
              refine zs_goto (pc := 105) t328_105 ?_
              have w10 : (zI (zsI w2M 336 3 (0 : Int32)) 336 5).toInt = (zI M 336 5).toInt := (congrArg Int32.toInt ((zIoj (by decide)).trans ((w2F 336 5 rfl).trans rfl))).trans rfl
              exact zs_iret (pc := 110) t328_110 mr328 rfl (hQ _ _ w2s w4 (((zFr.refl).trans (w2F.mono rfl)).put rfl) (zPR.fr (M' := (zsI w2M 336 3 (0 : Int32))) (zPR.fr pR (w2F.eq rfl)) (zEq.put rfl)) (zPC.fr (M' := (zsI w2M 336 3 (0 : Int32))) (zPC.fr pC (w2F.eq rfl)) (zEq.put rfl)) w5 (by omega))
          · refine zs_if_neF (pc := 92) t328_92 rfl (by omega) ?_
            refine zs_iload_n (pc := 95) t328_95 rfl ?_
            refine zs_goto (pc := 96) t328_96 ?_
            have w11 : (zI (zsI w2M 336 3 (0 : Int32)) 336 5).toInt = (zI M 336 5).toInt := (congrArg Int32.toInt ((zIoj (by decide)).trans ((w2F 336 5 rfl).trans rfl))).trans rfl
            exact zs_iret (pc := 110) t328_110 mr328 rfl (hQ _ _ w2s w4 (((zFr.refl).trans (w2F.mono rfl)).put rfl) (zPR.fr (M' := (zsI w2M 336 3 (0 : Int32))) (zPR.fr pR (w2F.eq rfl)) (zEq.put rfl)) (zPC.fr (M' := (zsI w2M 336 3 (0 : Int32))) (zPC.fr pC (w2F.eq rfl)) (zEq.put rfl)) w5 (by omega))
        · refine zs_icmp_gtF (pc := 28) t328_28 rfl li8 (by omega) ?_
          refine zs_aload_n (pc := 31) t328_31 rfl ?_
          refine zs_iload (pc := 32) t328_32 rfl ?_
          refine zs_iconst (pc := 34) t328_34 (v := -1) (by decide) ?_
          refine zs_invV (pc := 35) (k := 336) (as' := [.int w2x5, .int (-1 : Int32)]) (st := []) t328_35 mf269 rfl rfl (Or.inl ⟨by decide, (zk1 (w2s.k fk_zMm_336))⟩) ⟨by decide, by decide, Nat.le_of_ble_eq_true rfl, Nat.le_of_ble_eq_true rfl⟩ (K269 w2s w2I (zPR.fr pR (w2F.eq rfl)) ⟨by omega, by omega⟩ ?_) (fun _ _ q => q)
          intro w12M w12s w12I w12F w12J w12PT
          show zGo X l 6 0 0 328 38 [(0, .ref 336), (1, .int a), (2, .int w2x2), (3, .int w2x3), (4, .int w2x4), (5, .int w2x5)] [] w12M _
          refine zs_aload_n (pc := 38) t328_38 rfl ?_
          refine zs_invV (pc := 39) (k := 336) (as' := []) (st := []) t328_39 mf329 rfl rfl (Or.inl ⟨by decide, (zk1 (w12s.k fk_zMm_336))⟩) ⟨by decide, by decide, Nat.le_of_ble_eq_true rfl, Nat.le_of_ble_eq_true rfl⟩ (K329 w12s w12I ?_) (fun _ _ q => q)
          intro w13v
          have w13g := zrg w13v
          show zGo X l 6 0 0 328 42 [(0, .ref 336), (1, .int a), (2, .int w2x2), (3, .int w2x3), (4, .int w2x4), (5, .int w2x5)] [.int w13v] w12M _
          refine zs_istore (pc := 42) t328_42 (ls' := [(6, .int w13v), (0, .ref 336), (1, .int a), (2, .int w2x2), (3, .int w2x3), (4, .int w2x4), (5, .int w2x5)]) (zml mf328 (by decide)) rfl ?_
          refine zs_aload_n (pc := 44) t328_44 rfl ?_
          refine zs_invV (pc := 45) (k := 336) (as' := []) (st := []) t328_45 mf330 rfl rfl (Or.inl ⟨by decide, (zk1 (w12s.k fk_zMm_336))⟩) ⟨by decide, by decide, Nat.le_of_ble_eq_true rfl, Nat.le_of_ble_eq_true rfl⟩ (K330 w12s w12I ?_) (fun _ _ q => q)
          intro w14v
          have w14g := zrg w14v
          show zGo X l 6 0 0 328 48 [(6, .int w13v), (0, .ref 336), (1, .int a), (2, .int w2x2), (3, .int w2x3), (4, .int w2x4), (5, .int w2x5)] [.int w14v] w12M _
          refine zs_istore (pc := 48) t328_48 (ls' := [(7, .int w14v), (6, .int w13v), (0, .ref 336), (1, .int a), (2, .int w2x2), (3, .int w2x3), (4, .int w2x4), (5, .int w2x5)]) (zml mf328 (by decide)) rfl ?_
          refine zs_iload_n (pc := 50) t328_50 rfl ?_
          refine zs_iconst (pc := 51) t328_51 (v := -1) (by decide) ?_
          by_cases w15 : w2x2.toInt = (-1)
          · refine zs_icmp_eqT (pc := 52) t328_52 rfl lin1 (by omega) ?_
            refine zs_iload (pc := 70) t328_70 rfl ?_
            refine zs_istore_n (pc := 72) t328_72 (ls' := [(2, .int w2x5), (7, .int w14v), (6, .int w13v), (0, .ref 336), (1, .int a), (3, .int w2x3), (4, .int w2x4), (5, .int w2x5)]) (zml mf328 (by decide)) rfl ?_
            refine zs_iload (pc := 73) t328_73 rfl ?_
            refine zs_istore_n (pc := 75) t328_75 (ls' := [(3, .int w13v), (2, .int w2x5), (7, .int w14v), (6, .int w13v), (0, .ref 336), (1, .int a), (4, .int w2x4), (5, .int w2x5)]) (zml mf328 (by decide)) rfl ?_
            refine zs_iload (pc := 76) t328_76 rfl ?_
            refine zs_istore (pc := 78) t328_78 (ls' := [(4, .int w14v), (3, .int w13v), (2, .int w2x5), (7, .int w14v), (6, .int w13v), (0, .ref 336), (1, .int a), (5, .int w2x5)]) (zml mf328 (by decide)) rfl ?_
            obtain ⟨w16v, w16e, w16⟩ := ziadd (a := w2x5) (b := Int32.ofInt 1) rfl (show (Int32.ofInt 1).toInt = 1 by decide) (by omega) (by omega)
            refine zs_iinc (pc := 80) t328_80 (ls' := [(5, .int w16v), (4, .int w14v), (3, .int w13v), (2, .int w2x5), (7, .int w14v), (6, .int w13v), (0, .ref 336), (1, .int a)]) (zml mf328 (by decide)) rfl (c := w16v) w16e rfl ?_
            refine zs_goto (pc := 83) t328_83 ?_
            refine zGo.locals (ls' := [(0, .ref 336), (1, .int a), (2, .int w2x5), (3, .int w13v), (4, .int w14v), (5, .int w16v)]) (by simp) ?_
            have w17 := w16
            exact w2ih (w2m - 1) (by omega) w2x5 w13v w14v w16v w12M ⟨by omega, by omega⟩ ⟨by omega, by omega⟩ w12s w12I (((zFr.refl).trans (w2F.mono rfl)).trans (w12F.mono rfl)) (w12J.trans w2J) (by omega)
          · refine zs_icmp_eqF (pc := 52) t328_52 rfl lin1 (by omega) ?_
            refine zs_iload (pc := 55) t328_55 rfl ?_
            refine zs_iload (pc := 57) t328_57 rfl ?_
            obtain ⟨w18v, w18⟩ : ∃ v, v = w13v - w14v := ⟨_, rfl⟩
            have w18g := zrg w18v
            refine zs_isub (pc := 59) t328_59 (c := w18v) w18.symm ?_
            refine zs_iload_n (pc := 60) t328_60 rfl ?_
            refine zs_iload (pc := 61) t328_61 rfl ?_
            obtain ⟨w19v, w19⟩ : ∃ v, v = w2x3 - w2x4 := ⟨_, rfl⟩
            have w19g := zrg w19v
            refine zs_isub (pc := 63) t328_63 (c := w19v) w19.symm ?_
            by_cases w20 : w19v.toInt < w18v.toInt
            · refine zs_icmp_gtT (pc := 64) t328_64 rfl rfl (by omega) ?_
              refine zs_iload (pc := 70) t328_70 rfl ?_
              refine zs_istore_n (pc := 72) t328_72 (ls' := [(2, .int w2x5), (7, .int w14v), (6, .int w13v), (0, .ref 336), (1, .int a), (3, .int w2x3), (4, .int w2x4), (5, .int w2x5)]) (zml mf328 (by decide)) rfl ?_
              refine zs_iload (pc := 73) t328_73 rfl ?_
              refine zs_istore_n (pc := 75) t328_75 (ls' := [(3, .int w13v), (2, .int w2x5), (7, .int w14v), (6, .int w13v), (0, .ref 336), (1, .int a), (4, .int w2x4), (5, .int w2x5)]) (zml mf328 (by decide)) rfl ?_
              refine zs_iload (pc := 76) t328_76 rfl ?_
              refine zs_istore (pc := 78) t328_78 (ls' := [(4, .int w14v), (3, .int w13v), (2, .int w2x5), (7, .int w14v), (6, .int w13v), (0, .ref 336), (1, .int a), (5, .int w2x5)]) (zml mf328 (by decide)) rfl ?_
              obtain ⟨w21v, w21e, w21⟩ := ziadd (a := w2x5) (b := Int32.ofInt 1) rfl (show (Int32.ofInt 1).toInt = 1 by decide) (by omega) (by omega)
              refine zs_iinc (pc := 80) t328_80 (ls' := [(5, .int w21v), (4, .int w14v), (3, .int w13v), (2, .int w2x5), (7, .int w14v), (6, .int w13v), (0, .ref 336), (1, .int a)]) (zml mf328 (by decide)) rfl (c := w21v) w21e rfl ?_
              refine zs_goto (pc := 83) t328_83 ?_
              refine zGo.locals (ls' := [(0, .ref 336), (1, .int a), (2, .int w2x5), (3, .int w13v), (4, .int w14v), (5, .int w21v)]) (by simp) ?_
              have w22 := w21
              exact w2ih (w2m - 1) (by omega) w2x5 w13v w14v w21v w12M ⟨by omega, by omega⟩ ⟨by omega, by omega⟩ w12s w12I (((zFr.refl).trans (w2F.mono rfl)).trans (w12F.mono rfl)) (w12J.trans w2J) (by omega)
            · refine zs_icmp_gtF (pc := 64) t328_64 rfl rfl (by omega) ?_
              refine zs_goto (pc := 67) t328_67 ?_
              obtain ⟨w23v, w23e, w23⟩ := ziadd (a := w2x5) (b := Int32.ofInt 1) rfl (show (Int32.ofInt 1).toInt = 1 by decide) (by omega) (by omega)
              refine zs_iinc (pc := 80) t328_80 (ls' := [(5, .int w23v), (7, .int w14v), (6, .int w13v), (0, .ref 336), (1, .int a), (2, .int w2x2), (3, .int w2x3), (4, .int w2x4)]) (zml mf328 (by decide)) rfl (c := w23v) w23e rfl ?_
              refine zs_goto (pc := 83) t328_83 ?_
              refine zGo.locals (ls' := [(0, .ref 336), (1, .int a), (2, .int w2x2), (3, .int w2x3), (4, .int w2x4), (5, .int w23v)]) (by simp) ?_
              have w24 := w23
              exact w2ih (w2m - 1) (by omega) w2x2 w2x3 w2x4 w23v w12M ⟨by omega, by omega⟩ ⟨by omega, by omega⟩ w12s w12I (((zFr.refl).trans (w2F.mono rfl)).trans (w12F.mono rfl)) (w12J.trans w2J) (by omega)
    refine zGo.locals (ls' := [(0, .ref 336), (1, .int a), (2, .int (-1 : Int32)), (3, .int (0 : Int32)), (4, .int (0 : Int32)), (5, .int (2 : Int32))]) (by simp) ?_
    have w25 := lin1
    have w26 := li0
    have w27 := li0
    have w28 := li2
    exact w2L ((9 - 2 : Int).toNat) (-1 : Int32) (0 : Int32) (0 : Int32) (2 : Int32) M ⟨by decide, by decide⟩ ⟨by decide, by decide⟩ hs hI zFr.refl rfl (by omega)
  · refine zs_invS (pc := 6) (as := [.long a.toInt64, .long (0 : Int64), .long (2 : Int64)]) (st := []) t328_6 (by decide) mf228 rfl rfl ⟨by decide, by decide, Nat.le_of_ble_eq_true rfl, Nat.le_of_ble_eq_true rfl⟩ (K228F (zi2l rfl) ll0 ll2 (by omega) ?_) (fun _ _ q => q)
    show zGo X l 6 0 0 328 9 [(0, .ref 336), (1, .int a)] [.int (0 : Int32)] M _
    refine zs_if_neF (pc := 9) t328_9 li0 (by decide) ?_
    refine zs_iconst (pc := 12) t328_12 (v := -1) (by decide) ?_
    have w29 := ib336_5 hI
    have w30 : (zI M 336 5).toInt = (zI M 336 5).toInt := (congrArg Int32.toInt rfl).trans rfl
    have w31 := lin1
    exact zs_iret (pc := 13) t328_13 mr328 (by decide) (hQ _ _ hs hI (zFr.refl) pR pC pF (by omega))
theorem T300 {X : zX} {l : Launch} {M : zM} {Q : Option Value → zM → Prop} {a b c : Int32} (hs : zSk zMm M) (hI : zIv mLo mHi M) (pR : zPR M) (pC : zPC M) (pF : zPF M) (hQ : ∀ (M' : zM) (v : Int64), zSk zMm M' → zIv mLo mHi M' → zFr [(336, 338, none), (340, 363, none)] M M' → zPR M' → zPC M' → zPF M' → ((zI M' 336 5).toInt = (zI M 336 5).toInt) → Q (some (.long v)) M') : zCall X l 7 0 0 300 [.ref 336, .int a, .int b, .int c] M Q := by
  have ga := zrg a
  have gb := zrg b
  have gc := zrg c
  refine zs_in (by decide) mf300 (Nat.le_of_ble_eq_true rfl) ?_
  show zGo X l 7 0 0 300 0 [(0, .ref 336), (1, .int a), (2, .int b), (3, .int c)] [] M _
  refine zs_aload_n (pc := 0) t300_0 rfl ?_
  refine zs_invV (pc := 1) (k := 336) (as' := []) (st := []) t300_1 mf268 rfl rfl (Or.inl ⟨by decide, (zk1 (hs.k fk_zMm_336))⟩) ⟨by decide, by decide, Nat.le_of_ble_eq_true rfl, Nat.le_of_ble_eq_true rfl⟩ (K268 hs hI pR pF ?_) (fun _ _ q => q)
  intro w1M w1s w1I w1F w1PF w1PD w1PV
  show zGo X l 7 0 0 300 4 [(0, .ref 336), (1, .int a), (2, .int b), (3, .int c)] [] w1M _
  refine zs_aload_n (pc := 4) t300_4 rfl ?_
  refine zs_iload_n (pc := 5) t300_5 rfl ?_
  refine zs_invV (pc := 6) (k := 336) (as' := [.int a]) (st := []) t300_6 mf297 rfl rfl (Or.inl ⟨by decide, (zk1 (w1s.k fk_zMm_336))⟩) ⟨by decide, by decide, Nat.le_of_ble_eq_true rfl, Nat.le_of_ble_eq_true rfl⟩ (zs_in (by decide) mf297 (Nat.le_of_ble_eq_true rfl) ?_) (fun _ _ q => q)
  show zGo X l 1 0 0 297 0 [(0, .ref 336), (1, .int a)] [] w1M _
  refine zs_iload_n (pc := 0) t297_0 rfl ?_
  refine zs_i2l (pc := 1) t297_1 rfl ?_
  refine zs_lconst (pc := 2) t297_2 (v := 0) (by decide) ?_
  refine zs_aload_n (pc := 3) t297_3 rfl ?_
  have w2 := ib336_22 w1I
  refine zs_get (pc := 4) t297_4 (by decide) (zk1 (w1s.k fk_zMm_336)) (zfvi rfl rfl) ?_
  refine zs_iconst (pc := 7) t297_7 (v := 1) (by decide) ?_
  obtain ⟨w3v, w3e, w3⟩ := zisub (a := (zI w1M 336 22)) (b := (1 : Int32)) rfl li1 (by omega) (by omega)
  refine zs_isub (pc := 8) t297_8 (c := w3v) w3e ?_
  refine zs_i2l (pc := 9) t297_9 rfl ?_
  by_cases w4 : 0 ≤ a.toInt ∧ a.toInt ≤ ((zI w1M 336 22).toInt - 1)
  · refine zs_invS (pc := 10) (as := [.long a.toInt64, .long (0 : Int64), .long w3v.toInt64]) (st := []) t297_10 (by decide) mf228 rfl rfl ⟨by decide, by decide, Nat.le_of_ble_eq_true rfl, Nat.le_of_ble_eq_true rfl⟩ (K228T (zi2l rfl) ll0 (zi2l w3) (by omega) ?_) (fun _ _ q => q)
    show zGo X l 1 0 0 297 13 [(0, .ref 336), (1, .int a)] [.int (1 : Int32)] w1M _
    refine zs_iret (pc := 13) t297_13 mr297 (by decide) ?_
    show zGo X l 7 0 0 300 9 [(0, .ref 336), (1, .int a), (2, .int b), (3, .int c)] [.int (1 : Int32)] w1M _
    refine zs_if_eqF (pc := 9) t300_9 li1 (by decide) ?_
    refine zs_aload_n (pc := 12) t300_12 rfl ?_
    refine zs_iload_n (pc := 13) t300_13 rfl ?_
    refine zs_invV (pc := 14) (k := 336) (as' := [.int b]) (st := []) t300_14 mf297 rfl rfl (Or.inl ⟨by decide, (zk1 (w1s.k fk_zMm_336))⟩) ⟨by decide, by decide, Nat.le_of_ble_eq_true rfl, Nat.le_of_ble_eq_true rfl⟩ (zs_in (by decide) mf297 (Nat.le_of_ble_eq_true rfl) ?_) (fun _ _ q => q)
    show zGo X l 1 0 0 297 0 [(0, .ref 336), (1, .int b)] [] w1M _
    refine zs_iload_n (pc := 0) t297_0 rfl ?_
    refine zs_i2l (pc := 1) t297_1 rfl ?_
    refine zs_lconst (pc := 2) t297_2 (v := 0) (by decide) ?_
    refine zs_aload_n (pc := 3) t297_3 rfl ?_
    refine zs_get (pc := 4) t297_4 (by decide) (zk1 (w1s.k fk_zMm_336)) (zfvi rfl rfl) ?_
    refine zs_iconst (pc := 7) t297_7 (v := 1) (by decide) ?_
    obtain ⟨w5v, w5e, w5⟩ := zisub (a := (zI w1M 336 22)) (b := (1 : Int32)) rfl li1 (by omega) (by omega)
    refine zs_isub (pc := 8) t297_8 (c := w5v) w5e ?_
    refine zs_i2l (pc := 9) t297_9 rfl ?_
    by_cases w6 : 0 ≤ b.toInt ∧ b.toInt ≤ ((zI w1M 336 22).toInt - 1)
    · refine zs_invS (pc := 10) (as := [.long b.toInt64, .long (0 : Int64), .long w5v.toInt64]) (st := []) t297_10 (by decide) mf228 rfl rfl ⟨by decide, by decide, Nat.le_of_ble_eq_true rfl, Nat.le_of_ble_eq_true rfl⟩ (K228T (zi2l rfl) ll0 (zi2l w5) (by omega) ?_) (fun _ _ q => q)
      show zGo X l 1 0 0 297 13 [(0, .ref 336), (1, .int b)] [.int (1 : Int32)] w1M _
      refine zs_iret (pc := 13) t297_13 mr297 (by decide) ?_
      show zGo X l 7 0 0 300 17 [(0, .ref 336), (1, .int a), (2, .int b), (3, .int c)] [.int (1 : Int32)] w1M _
      refine zs_if_eqF (pc := 17) t300_17 li1 (by decide) ?_
      refine zs_iload_n (pc := 20) t300_20 rfl ?_
      refine zs_iload_n (pc := 21) t300_21 rfl ?_
      by_cases w7 : a.toInt = b.toInt
      · refine zs_icmp_eqT (pc := 22) t300_22 rfl rfl (by omega) ?_
        refine zs_ldc2_w (pc := 35) t300_35 (v := -1000000000000) (by decide) ?_
        have w8 := ib336_5 hI
        have w9 : (zI w1M 336 5).toInt = (zI M 336 5).toInt := (congrArg Int32.toInt ((w1F 336 5 rfl).trans rfl)).trans rfl
        have w10 := lln1000000000000
        exact zs_lret (pc := 38) t300_38 mr300 (hQ _ _ w1s w1I ((zFr.refl).trans (w1F.mono rfl)) (zPR.fr pR (w1F.eq rfl)) (zPC.fr pC (w1F.eq rfl)) w1PF (by omega))
      · refine zs_icmp_eqF (pc := 22) t300_22 rfl rfl (by omega) ?_
        refine zs_iload_n (pc := 25) t300_25 rfl ?_
        refine zs_i2l (pc := 26) t300_26 rfl ?_
        refine zs_lconst (pc := 27) t300_27 (v := 0) (by decide) ?_
        refine zs_lconst (pc := 28) t300_28 (v := 1) (by decide) ?_
        by_cases w11 : 0 ≤ c.toInt ∧ c.toInt ≤ 1
        · refine zs_invS (pc := 29) (as := [.long c.toInt64, .long (0 : Int64), .long (1 : Int64)]) (st := []) t300_29 (by decide) mf228 rfl rfl ⟨by decide, by decide, Nat.le_of_ble_eq_true rfl, Nat.le_of_ble_eq_true rfl⟩ (K228T (zi2l rfl) ll0 ll1 (by omega) ?_) (fun _ _ q => q)
          show zGo X l 7 0 0 300 32 [(0, .ref 336), (1, .int a), (2, .int b), (3, .int c)] [.int (1 : Int32)] w1M _
          refine zs_if_neT (pc := 32) t300_32 li1 (by decide) ?_
          refine zs_aload_n (pc := 39) t300_39 rfl ?_
          refine zs_get (pc := 40) t300_40 (by decide) (zk1 (w1s.k fk_zMm_336)) (w1s.p rfl fv_zMm_336_31) ?_
          refine zs_iload_n (pc := 43) t300_43 rfl ?_
          obtain ⟨w12n, w12⟩ : ∃ n : Nat, a.toInt = (n : Int) := ⟨(a.toInt).toNat, by omega⟩
          have w13 := zrg64 (zJ w1M 353 w12n)
          refine zs_lald (pc := 44) t300_44 (j := w12n) (zk1 (w1s.k fk_zMm_353)) (show a.toInt = ((w12n : Nat) : Int) by omega) (zk2 (w1s.k fk_zMm_353) (by omega)) rfl ?_
          refine zs_aload_n (pc := 45) t300_45 rfl ?_
          refine zs_get (pc := 46) t300_46 (by decide) (zk1 (w1s.k fk_zMm_336)) (w1s.p rfl fv_zMm_336_29) ?_
          refine zs_iload_n (pc := 49) t300_49 rfl ?_
          obtain ⟨w14n, w14⟩ : ∃ n : Nat, b.toInt = (n : Int) := ⟨(b.toInt).toNat, by omega⟩
          have w15 := zrg64 (zJ w1M 351 w14n)
          have w16 : (zI w1M 336 22).toInt = (zI w1M 336 22).toInt := (congrArg Int32.toInt rfl).trans rfl
          have w17 : 0 < (zJ w1M 351 w14n).toInt := w1PD w14n (by omega)
          refine zs_lald (pc := 50) t300_50 (j := w14n) (zk1 (w1s.k fk_zMm_351)) (show b.toInt = ((w14n : Nat) : Int) by omega) (zk2 (w1s.k fk_zMm_351) (by omega)) rfl ?_
          obtain ⟨w18v, w18⟩ : ∃ v, (zJ w1M 353 w12n) * (zJ w1M 351 w14n) = v := ⟨_, rfl⟩
          have w18g := zrg64 w18v
          refine zs_lmul (pc := 51) t300_51 (c := w18v) w18 ?_
          refine zs_aload_n (pc := 52) t300_52 rfl ?_
          refine zs_get (pc := 53) t300_53 (by decide) (zk1 (w1s.k fk_zMm_336)) (w1s.p rfl fv_zMm_336_31) ?_
          refine zs_iload_n (pc := 56) t300_56 rfl ?_
          have w19 := zrg64 (zJ w1M 353 w14n)
          refine zs_lald (pc := 57) t300_57 (j := w14n) (zk1 (w1s.k fk_zMm_353)) (show b.toInt = ((w14n : Nat) : Int) by omega) (zk2 (w1s.k fk_zMm_353) (by omega)) rfl ?_
          refine zs_aload_n (pc := 58) t300_58 rfl ?_
          refine zs_get (pc := 59) t300_59 (by decide) (zk1 (w1s.k fk_zMm_336)) (w1s.p rfl fv_zMm_336_29) ?_
          refine zs_iload_n (pc := 62) t300_62 rfl ?_
          have w20 := zrg64 (zJ w1M 351 w12n)
          have w21 : (zI w1M 336 22).toInt = (zI w1M 336 22).toInt := (congrArg Int32.toInt rfl).trans rfl
          have w22 : 0 < (zJ w1M 351 w12n).toInt := w1PD w12n (by omega)
          refine zs_lald (pc := 63) t300_63 (j := w12n) (zk1 (w1s.k fk_zMm_351)) (show a.toInt = ((w12n : Nat) : Int) by omega) (zk2 (w1s.k fk_zMm_351) (by omega)) rfl ?_
          obtain ⟨w23v, w23⟩ : ∃ v, (zJ w1M 353 w14n) * (zJ w1M 351 w12n) = v := ⟨_, rfl⟩
          have w23g := zrg64 w23v
          refine zs_lmul (pc := 64) t300_64 (c := w23v) w23 ?_
          obtain ⟨w24v, w24⟩ : ∃ v, w18v - w23v = v := ⟨_, rfl⟩
          have w24g := zrg64 w24v
          refine zs_lsub (pc := 65) t300_65 (c := w24v) w24 ?_
          refine zs_lstore (pc := 66) t300_66 (ls' := [(4, .long w24v), (0, .ref 336), (1, .int a), (2, .int b), (3, .int c)]) (zml mf300 (by decide)) rfl ?_
          refine zs_lload (pc := 68) t300_68 rfl ?_
          refine zs_lconst (pc := 70) t300_70 (v := 0) (by decide) ?_
          by_cases w25 : w24v.toInt < 0
          · refine zs_lcmp (pc := 71) t300_71 (c := -1) (zlcL rfl ll0 (by omega)) ?_
            refine zs_if_neT (pc := 72) t300_72 lin1 (by decide) ?_
            refine zs_aload_n (pc := 81) t300_81 rfl ?_
            refine zs_get (pc := 82) t300_82 (by decide) (zk1 (w1s.k fk_zMm_336)) (w1s.p rfl fv_zMm_336_30) ?_
            refine zs_iload_n (pc := 85) t300_85 rfl ?_
            have w26 := zrg64 (zJ w1M 352 w14n)
            refine zs_lald (pc := 86) t300_86 (j := w14n) (zk1 (w1s.k fk_zMm_352)) (show b.toInt = ((w14n : Nat) : Int) by omega) (zk2 (w1s.k fk_zMm_352) (by omega)) rfl ?_
            refine zs_aload_n (pc := 87) t300_87 rfl ?_
            refine zs_get (pc := 88) t300_88 (by decide) (zk1 (w1s.k fk_zMm_336)) (w1s.p rfl fv_zMm_336_29) ?_
            refine zs_iload_n (pc := 91) t300_91 rfl ?_
            have w27 := zrg64 (zJ w1M 351 w12n)
            have w28 : (zI w1M 336 22).toInt = (zI w1M 336 22).toInt := (congrArg Int32.toInt rfl).trans rfl
            have w29 : 0 < (zJ w1M 351 w12n).toInt := w1PD w12n (by omega)
            refine zs_lald (pc := 92) t300_92 (j := w12n) (zk1 (w1s.k fk_zMm_351)) (show a.toInt = ((w12n : Nat) : Int) by omega) (zk2 (w1s.k fk_zMm_351) (by omega)) rfl ?_
            obtain ⟨w30v, w30⟩ : ∃ v, (zJ w1M 352 w14n) * (zJ w1M 351 w12n) = v := ⟨_, rfl⟩
            have w30g := zrg64 w30v
            refine zs_lmul (pc := 93) t300_93 (c := w30v) w30 ?_
            refine zs_aload_n (pc := 94) t300_94 rfl ?_
            refine zs_get (pc := 95) t300_95 (by decide) (zk1 (w1s.k fk_zMm_336)) (w1s.p rfl fv_zMm_336_30) ?_
            refine zs_iload_n (pc := 98) t300_98 rfl ?_
            have w31 := zrg64 (zJ w1M 352 w12n)
            refine zs_lald (pc := 99) t300_99 (j := w12n) (zk1 (w1s.k fk_zMm_352)) (show a.toInt = ((w12n : Nat) : Int) by omega) (zk2 (w1s.k fk_zMm_352) (by omega)) rfl ?_
            refine zs_aload_n (pc := 100) t300_100 rfl ?_
            refine zs_get (pc := 101) t300_101 (by decide) (zk1 (w1s.k fk_zMm_336)) (w1s.p rfl fv_zMm_336_29) ?_
            refine zs_iload_n (pc := 104) t300_104 rfl ?_
            have w32 := zrg64 (zJ w1M 351 w14n)
            have w33 : (zI w1M 336 22).toInt = (zI w1M 336 22).toInt := (congrArg Int32.toInt rfl).trans rfl
            have w34 : 0 < (zJ w1M 351 w14n).toInt := w1PD w14n (by omega)
            refine zs_lald (pc := 105) t300_105 (j := w14n) (zk1 (w1s.k fk_zMm_351)) (show b.toInt = ((w14n : Nat) : Int) by omega) (zk2 (w1s.k fk_zMm_351) (by omega)) rfl ?_
            obtain ⟨w35v, w35⟩ : ∃ v, (zJ w1M 352 w12n) * (zJ w1M 351 w14n) = v := ⟨_, rfl⟩
            have w35g := zrg64 w35v
            refine zs_lmul (pc := 106) t300_106 (c := w35v) w35 ?_
            obtain ⟨w36v, w36⟩ : ∃ v, w30v - w35v = v := ⟨_, rfl⟩
            have w36g := zrg64 w36v
            refine zs_lsub (pc := 107) t300_107 (c := w36v) w36 ?_
            refine zs_lload (pc := 108) t300_108 rfl ?_
            refine zs_iload_n (pc := 110) t300_110 rfl ?_
            refine zs_invS (pc := 111) (as := [.long w36v, .long w24v, .int c]) (st := []) t300_111 (by decide) mf298 rfl rfl ⟨by decide, by decide, Nat.le_of_ble_eq_true rfl, Nat.le_of_ble_eq_true rfl⟩ (K298 w1s w1I (by omega) ?_) (fun _ _ q => q)
            intro w37v
            have w37g := zrg64 w37v
            show zGo X l 7 0 0 300 114 [(4, .long w24v), (0, .ref 336), (1, .int a), (2, .int b), (3, .int c)] [.long w37v] w1M _
            have w38 : (zI w1M 336 5).toInt = (zI M 336 5).toInt := (congrArg Int32.toInt ((w1F 336 5 rfl).trans rfl)).trans rfl
            exact zs_lret (pc := 114) t300_114 mr300 (hQ _ _ w1s w1I ((zFr.refl).trans (w1F.mono rfl)) (zPR.fr pR (w1F.eq rfl)) (zPC.fr pC (w1F.eq rfl)) w1PF (by omega))
          by_cases w39 : w24v.toInt = 0
          · refine zs_lcmp (pc := 71) t300_71 (c := 0) (zlcE rfl ll0 (by omega)) ?_
            refine zs_if_neF (pc := 72) t300_72 li0 (by decide) ?_
            refine zs_ldc2_w (pc := 75) t300_75 (v := -2) (by decide) ?_
            refine zs_goto (pc := 78) t300_78 ?_
            have w40 : (zI w1M 336 5).toInt = (zI M 336 5).toInt := (congrArg Int32.toInt ((w1F 336 5 rfl).trans rfl)).trans rfl
            have w41 := lln2
            exact zs_lret (pc := 114) t300_114 mr300 (hQ _ _ w1s w1I ((zFr.refl).trans (w1F.mono rfl)) (zPR.fr pR (w1F.eq rfl)) (zPC.fr pC (w1F.eq rfl)) w1PF (by omega))
          refine zs_lcmp (pc := 71) t300_71 (c := 1) (zlcG rfl ll0 (by omega)) ?_
          refine zs_if_neT (pc := 72) t300_72 li1 (by decide) ?_
          refine zs_aload_n (pc := 81) t300_81 rfl ?_
          refine zs_get (pc := 82) t300_82 (by decide) (zk1 (w1s.k fk_zMm_336)) (w1s.p rfl fv_zMm_336_30) ?_
          refine zs_iload_n (pc := 85) t300_85 rfl ?_
          have w43 := zrg64 (zJ w1M 352 w14n)
          refine zs_lald (pc := 86) t300_86 (j := w14n) (zk1 (w1s.k fk_zMm_352)) (show b.toInt = ((w14n : Nat) : Int) by omega) (zk2 (w1s.k fk_zMm_352) (by omega)) rfl ?_
          refine zs_aload_n (pc := 87) t300_87 rfl ?_
          refine zs_get (pc := 88) t300_88 (by decide) (zk1 (w1s.k fk_zMm_336)) (w1s.p rfl fv_zMm_336_29) ?_
          refine zs_iload_n (pc := 91) t300_91 rfl ?_
          have w44 := zrg64 (zJ w1M 351 w12n)
          have w45 : (zI w1M 336 22).toInt = (zI w1M 336 22).toInt := (congrArg Int32.toInt rfl).trans rfl
          have w46 : 0 < (zJ w1M 351 w12n).toInt := w1PD w12n (by omega)
          refine zs_lald (pc := 92) t300_92 (j := w12n) (zk1 (w1s.k fk_zMm_351)) (show a.toInt = ((w12n : Nat) : Int) by omega) (zk2 (w1s.k fk_zMm_351) (by omega)) rfl ?_
          obtain ⟨w47v, w47⟩ : ∃ v, (zJ w1M 352 w14n) * (zJ w1M 351 w12n) = v := ⟨_, rfl⟩
          have w47g := zrg64 w47v
          refine zs_lmul (pc := 93) t300_93 (c := w47v) w47 ?_
          refine zs_aload_n (pc := 94) t300_94 rfl ?_
          refine zs_get (pc := 95) t300_95 (by decide) (zk1 (w1s.k fk_zMm_336)) (w1s.p rfl fv_zMm_336_30) ?_
          refine zs_iload_n (pc := 98) t300_98 rfl ?_
          have w48 := zrg64 (zJ w1M 352 w12n)
          refine zs_lald (pc := 99) t300_99 (j := w12n) (zk1 (w1s.k fk_zMm_352)) (show a.toInt = ((w12n : Nat) : Int) by omega) (zk2 (w1s.k fk_zMm_352) (by omega)) rfl ?_
          refine zs_aload_n (pc := 100) t300_100 rfl ?_
          refine zs_get (pc := 101) t300_101 (by decide) (zk1 (w1s.k fk_zMm_336)) (w1s.p rfl fv_zMm_336_29) ?_
          refine zs_iload_n (pc := 104) t300_104 rfl ?_
          have w49 := zrg64 (zJ w1M 351 w14n)
          have w50 : (zI w1M 336 22).toInt = (zI w1M 336 22).toInt := (congrArg Int32.toInt rfl).trans rfl
          have w51 : 0 < (zJ w1M 351 w14n).toInt := w1PD w14n (by omega)
          refine zs_lald (pc := 105) t300_105 (j := w14n) (zk1 (w1s.k fk_zMm_351)) (show b.toInt = ((w14n : Nat) : Int) by omega) (zk2 (w1s.k fk_zMm_351) (by omega)) rfl ?_
          obtain ⟨w52v, w52⟩ : ∃ v, (zJ w1M 352 w12n) * (zJ w1M 351 w14n) = v := ⟨_, rfl⟩
          have w52g := zrg64 w52v
          refine zs_lmul (pc := 106) t300_106 (c := w52v) w52 ?_
          obtain ⟨w53v, w53⟩ : ∃ v, w47v - w52v = v := ⟨_, rfl⟩
          have w53g := zrg64 w53v
          refine zs_lsub (pc := 107) t300_107 (c := w53v) w53 ?_
          refine zs_lload (pc := 108) t300_108 rfl ?_
          refine zs_iload_n (pc := 110) t300_110 rfl ?_
          refine zs_invS (pc := 111) (as := [.long w53v, .long w24v, .int c]) (st := []) t300_111 (by decide) mf298 rfl rfl ⟨by decide, by decide, Nat.le_of_ble_eq_true rfl, Nat.le_of_ble_eq_true rfl⟩ (K298 w1s w1I (by omega) ?_) (fun _ _ q => q)
          intro w54v
          have w54g := zrg64 w54v
          show zGo X l 7 0 0 300 114 [(4, .long w24v), (0, .ref 336), (1, .int a), (2, .int b), (3, .int c)] [.long w54v] w1M _
          have w55 : (zI w1M 336 5).toInt = (zI M 336 5).toInt := (congrArg Int32.toInt ((w1F 336 5 rfl).trans rfl)).trans rfl
          exact zs_lret (pc := 114) t300_114 mr300 (hQ _ _ w1s w1I ((zFr.refl).trans (w1F.mono rfl)) (zPR.fr pR (w1F.eq rfl)) (zPC.fr pC (w1F.eq rfl)) w1PF (by omega))
        · refine zs_invS (pc := 29) (as := [.long c.toInt64, .long (0 : Int64), .long (1 : Int64)]) (st := []) t300_29 (by decide) mf228 rfl rfl ⟨by decide, by decide, Nat.le_of_ble_eq_true rfl, Nat.le_of_ble_eq_true rfl⟩ (K228F (zi2l rfl) ll0 ll1 (by omega) ?_) (fun _ _ q => q)
          show zGo X l 7 0 0 300 32 [(0, .ref 336), (1, .int a), (2, .int b), (3, .int c)] [.int (0 : Int32)] w1M _
          refine zs_if_neF (pc := 32) t300_32 li0 (by decide) ?_
          refine zs_ldc2_w (pc := 35) t300_35 (v := -1000000000000) (by decide) ?_
          have w56 : (zI w1M 336 5).toInt = (zI M 336 5).toInt := (congrArg Int32.toInt ((w1F 336 5 rfl).trans rfl)).trans rfl
          have w57 := lln1000000000000
          exact zs_lret (pc := 38) t300_38 mr300 (hQ _ _ w1s w1I ((zFr.refl).trans (w1F.mono rfl)) (zPR.fr pR (w1F.eq rfl)) (zPC.fr pC (w1F.eq rfl)) w1PF (by omega))
    · refine zs_invS (pc := 10) (as := [.long b.toInt64, .long (0 : Int64), .long w5v.toInt64]) (st := []) t297_10 (by decide) mf228 rfl rfl ⟨by decide, by decide, Nat.le_of_ble_eq_true rfl, Nat.le_of_ble_eq_true rfl⟩ (K228F (zi2l rfl) ll0 (zi2l w5) (by omega) ?_) (fun _ _ q => q)
      show zGo X l 1 0 0 297 13 [(0, .ref 336), (1, .int b)] [.int (0 : Int32)] w1M _
      refine zs_iret (pc := 13) t297_13 mr297 (by decide) ?_
      show zGo X l 7 0 0 300 17 [(0, .ref 336), (1, .int a), (2, .int b), (3, .int c)] [.int (0 : Int32)] w1M _
      refine zs_if_eqT (pc := 17) t300_17 li0 (by decide) ?_
      refine zs_ldc2_w (pc := 35) t300_35 (v := -1000000000000) (by decide) ?_
      have w58 : (zI w1M 336 5).toInt = (zI M 336 5).toInt := (congrArg Int32.toInt ((w1F 336 5 rfl).trans rfl)).trans rfl
      have w59 := lln1000000000000
      exact zs_lret (pc := 38) t300_38 mr300 (hQ _ _ w1s w1I ((zFr.refl).trans (w1F.mono rfl)) (zPR.fr pR (w1F.eq rfl)) (zPC.fr pC (w1F.eq rfl)) w1PF (by omega))
  · refine zs_invS (pc := 10) (as := [.long a.toInt64, .long (0 : Int64), .long w3v.toInt64]) (st := []) t297_10 (by decide) mf228 rfl rfl ⟨by decide, by decide, Nat.le_of_ble_eq_true rfl, Nat.le_of_ble_eq_true rfl⟩ (K228F (zi2l rfl) ll0 (zi2l w3) (by omega) ?_) (fun _ _ q => q)
    show zGo X l 1 0 0 297 13 [(0, .ref 336), (1, .int a)] [.int (0 : Int32)] w1M _
    refine zs_iret (pc := 13) t297_13 mr297 (by decide) ?_
    show zGo X l 7 0 0 300 9 [(0, .ref 336), (1, .int a), (2, .int b), (3, .int c)] [.int (0 : Int32)] w1M _
    refine zs_if_eqT (pc := 9) t300_9 li0 (by decide) ?_
    refine zs_ldc2_w (pc := 35) t300_35 (v := -1000000000000) (by decide) ?_
    have w60 : (zI w1M 336 5).toInt = (zI M 336 5).toInt := (congrArg Int32.toInt ((w1F 336 5 rfl).trans rfl)).trans rfl
    have w61 := lln1000000000000
    exact zs_lret (pc := 38) t300_38 mr300 (hQ _ _ w1s w1I ((zFr.refl).trans (w1F.mono rfl)) (zPR.fr pR (w1F.eq rfl)) (zPC.fr pC (w1F.eq rfl)) w1PF (by omega))
