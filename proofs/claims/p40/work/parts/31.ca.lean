theorem K309 {X : zX} {l : Launch} {M : zM} {Q : Option Value → zM → Prop} {a b : Int32} (hs : zSk zMm M) (hI : zIv mLo mHi M) (pR : zPR M) (pC : zPC M) (pF : zPF M) (hQ : ∀ (M' : zM) (v : Int32), zSk zMm M' → zIv mLo mHi M' → zFr [(336, 363, none)] M M' → zPR M' → zPC M' → zPF M' → Q (some (.int v)) M') : zCall X l 7 0 0 309 [.ref 336, .int a, .int b] M Q := by
  have ga := zrg a
  have gb := zrg b
  refine zs_in (by decide) mf309 (Nat.le_of_ble_eq_true rfl) ?_
  show zGo X l 7 0 0 309 0 [(0, .ref 336), (1, .int a), (2, .int b)] [] M _
  refine zs_aload_n (pc := 0) t309_0 rfl ?_
  refine zs_iload_n (pc := 1) t309_1 rfl ?_
  refine zs_invV (pc := 2) (k := 336) (as' := [.int a]) (st := []) t309_2 mf310 rfl rfl (Or.inl ⟨by decide, (zk1 (hs.k fk_zMm_336))⟩) ⟨by decide, by decide, Nat.le_of_ble_eq_true rfl, Nat.le_of_ble_eq_true rfl⟩ (zs_in (by decide) mf310 (Nat.le_of_ble_eq_true rfl) ?_) (fun _ _ q => q)
  show zGo X l 1 0 0 310 0 [(0, .ref 336), (1, .int a)] [] M _
  refine zs_iload_n (pc := 0) t310_0 rfl ?_
  refine zs_i2l (pc := 1) t310_1 rfl ?_
  refine zs_lconst (pc := 2) t310_2 (v := 0) (by decide) ?_
  refine zs_aload_n (pc := 3) t310_3 rfl ?_
  refine zs_get (pc := 4) t310_4 (by decide) (zk1 (hs.k fk_zMm_336)) (hs.p rfl fv_zMm_336_0) ?_
  refine zs_iconst (pc := 7) t310_7 (v := 2) (by decide) ?_
  have w1 := ibA2 hI
  refine zs_iald (pc := 8) t310_8 (j := 2) (by decide) (zk1 (hs.k fk_zMm_337)) li2 (zk2 (hs.k fk_zMm_337) (by decide)) rfl ?_
  refine zs_iconst (pc := 9) t310_9 (v := 1) (by decide) ?_
  obtain ⟨w2v, w2e, w2⟩ := zisub (a := (zI M 337 2)) (b := (1 : Int32)) rfl li1 (by omega) (by omega)
  refine zs_isub (pc := 10) t310_10 (c := w2v) w2e ?_
  refine zs_i2l (pc := 11) t310_11 rfl ?_
  by_cases w3 : 0 ≤ a.toInt ∧ a.toInt ≤ ((zI M 337 2).toInt - 1)
  · refine zs_invS (pc := 12) (as := [.long a.toInt64, .long (0 : Int64), .long w2v.toInt64]) (st := []) t310_12 (by decide) mf228 rfl rfl ⟨by decide, by decide, Nat.le_of_ble_eq_true rfl, Nat.le_of_ble_eq_true rfl⟩ (K228T (zi2l rfl) ll0 (zi2l w2) (by omega) ?_) (fun _ _ q => q)
    show zGo X l 1 0 0 310 15 [(0, .ref 336), (1, .int a)] [.int (1 : Int32)] M _
    refine zs_iret (pc := 15) t310_15 mr310 (by decide) ?_
    show zGo X l 7 0 0 309 5 [(0, .ref 336), (1, .int a), (2, .int b)] [.int (1 : Int32)] M _
    refine zs_if_eqF (pc := 5) t309_5 li1 (by decide) ?_
    refine zs_iload_n (pc := 8) t309_8 rfl ?_
    refine zs_i2l (pc := 9) t309_9 rfl ?_
    refine zs_lconst (pc := 10) t309_10 (v := 0) (by decide) ?_
    refine zs_ldc2_w (pc := 11) t309_11 (v := 4) (by decide) ?_
    by_cases w4 : 0 ≤ b.toInt ∧ b.toInt ≤ 4
    · refine zs_invS (pc := 14) (as := [.long b.toInt64, .long (0 : Int64), .long (4 : Int64)]) (st := []) t309_14 (by decide) mf228 rfl rfl ⟨by decide, by decide, Nat.le_of_ble_eq_true rfl, Nat.le_of_ble_eq_true rfl⟩ (K228T (zi2l rfl) ll0 ll4 (by omega) ?_) (fun _ _ q => q)
      show zGo X l 7 0 0 309 17 [(0, .ref 336), (1, .int a), (2, .int b)] [.int (1 : Int32)] M _
      refine zs_if_neT (pc := 17) t309_17 li1 (by decide) ?_
      refine zs_iload_n (pc := 24) t309_24 rfl ?_
      refine zs_iconst (pc := 25) t309_25 (v := 3) (by decide) ?_
      by_cases w5 : 3 ≤ b.toInt
      · refine zs_icmp_geT (pc := 26) t309_26 rfl li3 (by omega) ?_
        refine zs_aload_n (pc := 44) t309_44 rfl ?_
        refine zs_invV (pc := 45) (k := 336) (as' := []) (st := []) t309_45 mf268 rfl rfl (Or.inl ⟨by decide, (zk1 (hs.k fk_zMm_336))⟩) ⟨by decide, by decide, Nat.le_of_ble_eq_true rfl, Nat.le_of_ble_eq_true rfl⟩ (K268 hs hI pR pF ?_) (fun _ _ q => q)
        intro w6M w6s w6I w6F w6PF w6PD w6PV
        show zGo X l 7 0 0 309 48 [(0, .ref 336), (1, .int a), (2, .int b)] [] w6M _
        refine zs_iload_n (pc := 48) t309_48 rfl ?_
        refine zs_iconst (pc := 49) t309_49 (v := 3) (by decide) ?_
        by_cases w7 : b.toInt ≠ 3
        · refine zs_icmp_neT (pc := 50) t309_50 rfl li3 (by omega) ?_
          refine zs_aload_n (pc := 61) t309_61 rfl ?_
          refine zs_iload_n (pc := 62) t309_62 rfl ?_
          refine zs_invV (pc := 63) (k := 336) (as' := [.int a]) (st := []) t309_63 mf312 rfl rfl (Or.inl ⟨by decide, (zk1 (w6s.k fk_zMm_336))⟩) ⟨by decide, by decide, Nat.le_of_ble_eq_true rfl, Nat.le_of_ble_eq_true rfl⟩ (K312 w6s w6I ?_) (fun _ _ q => q)
          intro w8v  w8a w8b
          show zGo X l 7 0 0 309 66 [(0, .ref 336), (1, .int a), (2, .int b)] [.int w8v] w6M _
          exact zs_iret (pc := 66) t309_66 mr309 rfl (hQ _ _ w6s w6I ((zFr.refl).trans (w6F.mono rfl)) (zPR.fr pR (w6F.eq rfl)) (zPC.fr pC (w6F.eq rfl)) w6PF)
        · refine zs_icmp_neF (pc := 50) t309_50 rfl li3 (by omega) ?_
          refine zs_aload_n (pc := 53) t309_53 rfl ?_
          refine zs_iload_n (pc := 54) t309_54 rfl ?_
          refine zs_invV (pc := 55) (k := 336) (as' := [.int a]) (st := []) t309_55 mf311 rfl rfl (Or.inl ⟨by decide, (zk1 (w6s.k fk_zMm_336))⟩) ⟨by decide, by decide, Nat.le_of_ble_eq_true rfl, Nat.le_of_ble_eq_true rfl⟩ (K311 w6s w6I ?_) (fun _ _ q => q)
          intro w9v
          have w9g := zrg w9v
          show zGo X l 7 0 0 309 58 [(0, .ref 336), (1, .int a), (2, .int b)] [.int w9v] w6M _
          refine zs_goto (pc := 58) t309_58 ?_
          exact zs_iret (pc := 66) t309_66 mr309 rfl (hQ _ _ w6s w6I ((zFr.refl).trans (w6F.mono rfl)) (zPR.fr pR (w6F.eq rfl)) (zPC.fr pC (w6F.eq rfl)) w6PF)
      · refine zs_icmp_geF (pc := 26) t309_26 rfl li3 (by omega) ?_
        refine zs_aload_n (pc := 29) t309_29 rfl ?_
        refine zs_get (pc := 30) t309_30 (by decide) (zk1 (hs.k fk_zMm_336)) (hs.p rfl fv_zMm_336_0) ?_
        refine zs_sipush (pc := 33) t309_33 (v := 270) (by decide) ?_
        refine zs_iconst (pc := 36) t309_36 (v := 3) (by decide) ?_
        refine zs_iload_n (pc := 37) t309_37 rfl ?_
        obtain ⟨w10v, w10⟩ : ∃ v, (3 : Int32) * a = v := ⟨_, rfl⟩
        have w10g : w10v.toInt = 3 * a.toInt := by rw [← w10]; exact zmulc li3 rfl (by omega) (by omega)
        refine zs_imul (pc := 38) t309_38 (c := w10v) w10 ?_
        obtain ⟨w11v, w11e, w11⟩ := ziadd (a := (270 : Int32)) (b := w10v) li270 w10g (by omega) (by omega)
        refine zs_iadd (pc := 39) t309_39 (c := w11v) w11e ?_
        refine zs_iload_n (pc := 40) t309_40 rfl ?_
        obtain ⟨w12v, w12e, w12⟩ := ziadd (a := w11v) (b := b) w11 rfl (by omega) (by omega)
        refine zs_iadd (pc := 41) t309_41 (c := w12v) w12e ?_
        obtain ⟨w13n, w13⟩ : ∃ n : Nat, a.toInt = (n : Int) := ⟨(a.toInt).toNat, by omega⟩
        obtain ⟨w14n, w14⟩ : ∃ n : Nat, b.toInt = (n : Int) := ⟨(b.toInt).toNat, by omega⟩
        have w15 := zrg (zI M 337 (270 + 3 * w13n + w14n))
        refine zs_iald (pc := 42) t309_42 (j := (270 + 3 * w13n + w14n)) (by decide) (zk1 (hs.k fk_zMm_337)) (show w12v.toInt = (((270 + 3 * w13n + w14n) : Nat) : Int) by omega) (zk2 (hs.k fk_zMm_337) (by omega)) rfl ?_
        exact zs_iret (pc := 43) t309_43 mr309 rfl (hQ _ _ hs hI (zFr.refl) pR pC pF)
    · refine zs_invS (pc := 14) (as := [.long b.toInt64, .long (0 : Int64), .long (4 : Int64)]) (st := []) t309_14 (by decide) mf228 rfl rfl ⟨by decide, by decide, Nat.le_of_ble_eq_true rfl, Nat.le_of_ble_eq_true rfl⟩ (K228F (zi2l rfl) ll0 ll4 (by omega) ?_) (fun _ _ q => q)
      show zGo X l 7 0 0 309 17 [(0, .ref 336), (1, .int a), (2, .int b)] [.int (0 : Int32)] M _
      refine zs_if_neF (pc := 17) t309_17 li0 (by decide) ?_
      refine zs_ldc_w (pc := 20) t309_20 (v := -100000) rfl (by decide) ?_
      exact zs_iret (pc := 23) t309_23 mr309 (by decide) (hQ _ _ hs hI (zFr.refl) pR pC pF)
  · refine zs_invS (pc := 12) (as := [.long a.toInt64, .long (0 : Int64), .long w2v.toInt64]) (st := []) t310_12 (by decide) mf228 rfl rfl ⟨by decide, by decide, Nat.le_of_ble_eq_true rfl, Nat.le_of_ble_eq_true rfl⟩ (K228F (zi2l rfl) ll0 (zi2l w2) (by omega) ?_) (fun _ _ q => q)
    show zGo X l 1 0 0 310 15 [(0, .ref 336), (1, .int a)] [.int (0 : Int32)] M _
    refine zs_iret (pc := 15) t310_15 mr310 (by decide) ?_
    show zGo X l 7 0 0 309 5 [(0, .ref 336), (1, .int a), (2, .int b)] [.int (0 : Int32)] M _
    refine zs_if_eqT (pc := 5) t309_5 li0 (by decide) ?_
    refine zs_ldc_w (pc := 20) t309_20 (v := -100000) rfl (by decide) ?_
    exact zs_iret (pc := 23) t309_23 mr309 (by decide) (hQ _ _ hs hI (zFr.refl) pR pC pF)
theorem K321 {X : zX} {l : Launch} {M : zM} {Q : Option Value → zM → Prop} {a b : Int32} (hs : zSk zMm M) (hI : zIv mLo mHi M) (pR : zPR M) (pC : zPC M) (pF : zPF M) (hQ : ∀ (M' : zM) (v : Int32), zSk zMm M' → zIv mLo mHi M' → zFr [(336, 363, none)] M M' → zPR M' → zPC M' → zPF M' → Q (some (.int v)) M') : zCall X l 7 0 0 321 [.ref 336, .int a, .int b] M Q := by
  have ga := zrg a
  have gb := zrg b
  refine zs_in (by decide) mf321 (Nat.le_of_ble_eq_true rfl) ?_
  show zGo X l 7 0 0 321 0 [(0, .ref 336), (1, .int a), (2, .int b)] [] M _
  refine zs_aload_n (pc := 0) t321_0 rfl ?_
  refine zs_invV (pc := 1) (k := 336) (as' := []) (st := []) t321_1 mf268 rfl rfl (Or.inl ⟨by decide, (zk1 (hs.k fk_zMm_336))⟩) ⟨by decide, by decide, Nat.le_of_ble_eq_true rfl, Nat.le_of_ble_eq_true rfl⟩ (K268 hs hI pR pF ?_) (fun _ _ q => q)
  intro w1M w1s w1I w1F w1PF w1PD w1PV
  show zGo X l 7 0 0 321 4 [(0, .ref 336), (1, .int a), (2, .int b)] [] w1M _
  refine zs_aload_n (pc := 4) t321_4 rfl ?_
  refine zs_iload_n (pc := 5) t321_5 rfl ?_
  refine zs_invV (pc := 6) (k := 336) (as' := [.int a]) (st := []) t321_6 mf297 rfl rfl (Or.inl ⟨by decide, (zk1 (w1s.k fk_zMm_336))⟩) ⟨by decide, by decide, Nat.le_of_ble_eq_true rfl, Nat.le_of_ble_eq_true rfl⟩ (zs_in (by decide) mf297 (Nat.le_of_ble_eq_true rfl) ?_) (fun _ _ q => q)
  show zGo X l 1 0 0 297 0 [(0, .ref 336), (1, .int a)] [] w1M _
  refine zs_iload_n (pc := 0) t297_0 rfl ?_
  refine zs_i2l (pc := 1) t297_1 rfl ?_
  refine zs_lconst (pc := 2) t297_2 (v := 0) (by decide) ?_
  refine zs_aload_n (pc := 3) t297_3 rfl ?_
  have w2 := ib336_22 w1I
  refine zs_get (pc := 4) t297_4 (by decide) (zk1 (w1s.k fk_zMm_336)) (zfvi rfl rfl) ?_
  refine zs_iconst (pc := 7) t297_7 (v := 1) (by decide) ?_
  obtain ⟨w3v, w3e, w3⟩ := zisub (a := (zI w1M 336 22)) (b := (1 : Int32)) rfl li1 (by omega) (by omega)
  refine zs_isub (pc := 8) t297_8 (c := w3v) w3e ?_
  refine zs_i2l (pc := 9) t297_9 rfl ?_
  by_cases w4 : 0 ≤ a.toInt ∧ a.toInt ≤ ((zI w1M 336 22).toInt - 1)
  · refine zs_invS (pc := 10) (as := [.long a.toInt64, .long (0 : Int64), .long w3v.toInt64]) (st := []) t297_10 (by decide) mf228 rfl rfl ⟨by decide, by decide, Nat.le_of_ble_eq_true rfl, Nat.le_of_ble_eq_true rfl⟩ (K228T (zi2l rfl) ll0 (zi2l w3) (by omega) ?_) (fun _ _ q => q)
    show zGo X l 1 0 0 297 13 [(0, .ref 336), (1, .int a)] [.int (1 : Int32)] w1M _
    refine zs_iret (pc := 13) t297_13 mr297 (by decide) ?_
    show zGo X l 7 0 0 321 9 [(0, .ref 336), (1, .int a), (2, .int b)] [.int (1 : Int32)] w1M _
    refine zs_if_eqF (pc := 9) t321_9 li1 (by decide) ?_
    refine zs_aload_n (pc := 12) t321_12 rfl ?_
    refine zs_iload_n (pc := 13) t321_13 rfl ?_
    refine zs_invV (pc := 14) (k := 336) (as' := [.int b]) (st := []) t321_14 mf306 rfl rfl (Or.inl ⟨by decide, (zk1 (w1s.k fk_zMm_336))⟩) ⟨by decide, by decide, Nat.le_of_ble_eq_true rfl, Nat.le_of_ble_eq_true rfl⟩ (zs_in (by decide) mf306 (Nat.le_of_ble_eq_true rfl) ?_) (fun _ _ q => q)
    show zGo X l 1 0 0 306 0 [(0, .ref 336), (1, .int b)] [] w1M _
    refine zs_iload_n (pc := 0) t306_0 rfl ?_
    refine zs_i2l (pc := 1) t306_1 rfl ?_
    refine zs_lconst (pc := 2) t306_2 (v := 0) (by decide) ?_
    refine zs_aload_n (pc := 3) t306_3 rfl ?_
    refine zs_get (pc := 4) t306_4 (by decide) (zk1 (w1s.k fk_zMm_336)) (w1s.p rfl fv_zMm_336_0) ?_
    refine zs_iconst (pc := 7) t306_7 (v := 0) (by decide) ?_
    have w5 := ibA0 hI
    refine zs_iald (pc := 8) t306_8 (j := 0) (by decide) (zk1 (w1s.k fk_zMm_337)) li0 (zk2 (w1s.k fk_zMm_337) (by decide)) ((w1F 337 0 rfl).trans rfl) ?_
    refine zs_iconst (pc := 9) t306_9 (v := 1) (by decide) ?_
    obtain ⟨w6v, w6e, w6⟩ := zisub (a := (zI M 337 0)) (b := (1 : Int32)) rfl li1 (by omega) (by omega)
    refine zs_isub (pc := 10) t306_10 (c := w6v) w6e ?_
    refine zs_i2l (pc := 11) t306_11 rfl ?_
    by_cases w7 : 0 ≤ b.toInt ∧ b.toInt ≤ ((zI M 337 0).toInt - 1)
    · refine zs_invS (pc := 12) (as := [.long b.toInt64, .long (0 : Int64), .long w6v.toInt64]) (st := []) t306_12 (by decide) mf228 rfl rfl ⟨by decide, by decide, Nat.le_of_ble_eq_true rfl, Nat.le_of_ble_eq_true rfl⟩ (K228T (zi2l rfl) ll0 (zi2l w6) (by omega) ?_) (fun _ _ q => q)
      show zGo X l 1 0 0 306 15 [(0, .ref 336), (1, .int b)] [.int (1 : Int32)] w1M _
      refine zs_iret (pc := 15) t306_15 mr306 (by decide) ?_
      show zGo X l 7 0 0 321 17 [(0, .ref 336), (1, .int a), (2, .int b)] [.int (1 : Int32)] w1M _
      refine zs_if_eqF (pc := 17) t321_17 li1 (by decide) ?_
      refine zs_aload_n (pc := 20) t321_20 rfl ?_
      refine zs_get (pc := 21) t321_21 (by decide) (zk1 (w1s.k fk_zMm_336)) (w1s.p rfl fv_zMm_336_27) ?_
      refine zs_bipush (pc := 24) t321_24 (v := 8) (by decide) ?_
      refine zs_iload_n (pc := 26) t321_26 rfl ?_
      obtain ⟨w8v, w8⟩ : ∃ v, (8 : Int32) * a = v := ⟨_, rfl⟩
      have w8g : w8v.toInt = 8 * a.toInt := by rw [← w8]; exact zmulc li8 rfl (by omega) (by omega)
      refine zs_imul (pc := 27) t321_27 (c := w8v) w8 ?_
      refine zs_iload_n (pc := 28) t321_28 rfl ?_
      obtain ⟨w9v, w9e, w9⟩ := ziadd (a := w8v) (b := b) w8g rfl (by omega) (by omega)
      refine zs_iadd (pc := 29) t321_29 (c := w9v) w9e ?_
      obtain ⟨w10n, w10⟩ : ∃ n : Nat, a.toInt = (n : Int) := ⟨(a.toInt).toNat, by omega⟩
      obtain ⟨w11n, w11⟩ : ∃ n : Nat, b.toInt = (n : Int) := ⟨(b.toInt).toNat, by omega⟩
      have w12 := ib349 w1I (8 * w10n + w11n)
      refine zs_iald (pc := 30) t321_30 (j := (8 * w10n + w11n)) (by decide) (zk1 (w1s.k fk_zMm_349)) (show w9v.toInt = (((8 * w10n + w11n) : Nat) : Int) by omega) (zk2 (w1s.k fk_zMm_349) (by omega)) rfl ?_
      refine zs_goto (pc := 31) t321_31 ?_
      exact zs_iret (pc := 35) t321_35 mr321 rfl (hQ _ _ w1s w1I ((zFr.refl).trans (w1F.mono rfl)) (zPR.fr pR (w1F.eq rfl)) (zPC.fr pC (w1F.eq rfl)) w1PF)
    · refine zs_invS (pc := 12) (as := [.long b.toInt64, .long (0 : Int64), .long w6v.toInt64]) (st := []) t306_12 (by decide) mf228 rfl rfl ⟨by decide, by decide, Nat.le_of_ble_eq_true rfl, Nat.le_of_ble_eq_true rfl⟩ (K228F (zi2l rfl) ll0 (zi2l w6) (by omega) ?_) (fun _ _ q => q)
      show zGo X l 1 0 0 306 15 [(0, .ref 336), (1, .int b)] [.int (0 : Int32)] w1M _
      refine zs_iret (pc := 15) t306_15 mr306 (by decide) ?_
      show zGo X l 7 0 0 321 17 [(0, .ref 336), (1, .int a), (2, .int b)] [.int (0 : Int32)] w1M _
      refine zs_if_eqT (pc := 17) t321_17 li0 (by decide) ?_
      refine zs_iconst (pc := 34) t321_34 (v := -1) (by decide) ?_
      exact zs_iret (pc := 35) t321_35 mr321 (by decide) (hQ _ _ w1s w1I ((zFr.refl).trans (w1F.mono rfl)) (zPR.fr pR (w1F.eq rfl)) (zPC.fr pC (w1F.eq rfl)) w1PF)
  · refine zs_invS (pc := 10) (as := [.long a.toInt64, .long (0 : Int64), .long w3v.toInt64]) (st := []) t297_10 (by decide) mf228 rfl rfl ⟨by decide, by decide, Nat.le_of_ble_eq_true rfl, Nat.le_of_ble_eq_true rfl⟩ (K228F (zi2l rfl) ll0 (zi2l w3) (by omega) ?_) (fun _ _ q => q)
    show zGo X l 1 0 0 297 13 [(0, .ref 336), (1, .int a)] [.int (0 : Int32)] w1M _
    refine zs_iret (pc := 13) t297_13 mr297 (by decide) ?_
    show zGo X l 7 0 0 321 9 [(0, .ref 336), (1, .int a), (2, .int b)] [.int (0 : Int32)] w1M _
    refine zs_if_eqT (pc := 9) t321_9 li0 (by decide) ?_
    refine zs_iconst (pc := 34) t321_34 (v := -1) (by decide) ?_
    exact zs_iret (pc := 35) t321_35 mr321 (by decide) (hQ _ _ w1s w1I ((zFr.refl).trans (w1F.mono rfl)) (zPR.fr pR (w1F.eq rfl)) (zPC.fr pC (w1F.eq rfl)) w1PF)
theorem K314 {X : zX} {l : Launch} {M : zM} {Q : Option Value → zM → Prop} {a b c : Int32} (hs : zSk zMm M) (hI : zIv mLo mHi M) (pR : zPR M) (pC : zPC M) (pF : zPF M) (hQ : ∀ (M' : zM) (v : Int32), zSk zMm M' → zIv mLo mHi M' → zFr [(336, 363, none)] M M' → zPR M' → zPC M' → zPF M' → Q (some (.int v)) M') : zCall X l 3 0 0 314 [.ref 336, .int a, .int b, .int c] M Q := by
  have ga := zrg a
  have gb := zrg b
  have gc := zrg c
  refine zs_in (by decide) mf314 (Nat.le_of_ble_eq_true rfl) ?_
  show zGo X l 3 0 0 314 0 [(0, .ref 336), (1, .int a), (2, .int b), (3, .int c)] [] M _
  refine zs_aload_n (pc := 0) t314_0 rfl ?_
  refine zs_iload_n (pc := 1) t314_1 rfl ?_
  refine zs_invV (pc := 2) (k := 336) (as' := [.int a]) (st := []) t314_2 mf306 rfl rfl (Or.inl ⟨by decide, (zk1 (hs.k fk_zMm_336))⟩) ⟨by decide, by decide, Nat.le_of_ble_eq_true rfl, Nat.le_of_ble_eq_true rfl⟩ (zs_in (by decide) mf306 (Nat.le_of_ble_eq_true rfl) ?_) (fun _ _ q => q)
  show zGo X l 1 0 0 306 0 [(0, .ref 336), (1, .int a)] [] M _
  refine zs_iload_n (pc := 0) t306_0 rfl ?_
  refine zs_i2l (pc := 1) t306_1 rfl ?_
  refine zs_lconst (pc := 2) t306_2 (v := 0) (by decide) ?_
  refine zs_aload_n (pc := 3) t306_3 rfl ?_
  refine zs_get (pc := 4) t306_4 (by decide) (zk1 (hs.k fk_zMm_336)) (hs.p rfl fv_zMm_336_0) ?_
  refine zs_iconst (pc := 7) t306_7 (v := 0) (by decide) ?_
  have w1 := ibA0 hI
  refine zs_iald (pc := 8) t306_8 (j := 0) (by decide) (zk1 (hs.k fk_zMm_337)) li0 (zk2 (hs.k fk_zMm_337) (by decide)) rfl ?_
  refine zs_iconst (pc := 9) t306_9 (v := 1) (by decide) ?_
  obtain ⟨w2v, w2e, w2⟩ := zisub (a := (zI M 337 0)) (b := (1 : Int32)) rfl li1 (by omega) (by omega)
  refine zs_isub (pc := 10) t306_10 (c := w2v) w2e ?_
  refine zs_i2l (pc := 11) t306_11 rfl ?_
  by_cases w3 : 0 ≤ a.toInt ∧ a.toInt ≤ ((zI M 337 0).toInt - 1)
  · refine zs_invS (pc := 12) (as := [.long a.toInt64, .long (0 : Int64), .long w2v.toInt64]) (st := []) t306_12 (by decide) mf228 rfl rfl ⟨by decide, by decide, Nat.le_of_ble_eq_true rfl, Nat.le_of_ble_eq_true rfl⟩ (K228T (zi2l rfl) ll0 (zi2l w2) (by omega) ?_) (fun _ _ q => q)
    show zGo X l 1 0 0 306 15 [(0, .ref 336), (1, .int a)] [.int (1 : Int32)] M _
    refine zs_iret (pc := 15) t306_15 mr306 (by decide) ?_
    show zGo X l 3 0 0 314 5 [(0, .ref 336), (1, .int a), (2, .int b), (3, .int c)] [.int (1 : Int32)] M _
    refine zs_if_eqF (pc := 5) t314_5 li1 (by decide) ?_
    refine zs_iload_n (pc := 8) t314_8 rfl ?_
    refine zs_i2l (pc := 9) t314_9 rfl ?_
    refine zs_ldc2_w (pc := 10) t314_10 (v := -99) (by decide) ?_
    refine zs_ldc2_w (pc := 13) t314_13 (v := 99) (by decide) ?_
    by_cases w4 : (-99) ≤ b.toInt ∧ b.toInt ≤ 99
    · refine zs_invS (pc := 16) (as := [.long b.toInt64, .long (-99 : Int64), .long (99 : Int64)]) (st := []) t314_16 (by decide) mf228 rfl rfl ⟨by decide, by decide, Nat.le_of_ble_eq_true rfl, Nat.le_of_ble_eq_true rfl⟩ (K228T (zi2l rfl) lln99 ll99 (by omega) ?_) (fun _ _ q => q)
      show zGo X l 3 0 0 314 19 [(0, .ref 336), (1, .int a), (2, .int b), (3, .int c)] [.int (1 : Int32)] M _
      refine zs_if_eqF (pc := 19) t314_19 li1 (by decide) ?_
      refine zs_iload_n (pc := 22) t314_22 rfl ?_
      refine zs_i2l (pc := 23) t314_23 rfl ?_
      refine zs_ldc2_w (pc := 24) t314_24 (v := -99) (by decide) ?_
      refine zs_ldc2_w (pc := 27) t314_27 (v := 99) (by decide) ?_
      by_cases w5 : (-99) ≤ c.toInt ∧ c.toInt ≤ 99
      · refine zs_invS (pc := 30) (as := [.long c.toInt64, .long (-99 : Int64), .long (99 : Int64)]) (st := []) t314_30 (by decide) mf228 rfl rfl ⟨by decide, by decide, Nat.le_of_ble_eq_true rfl, Nat.le_of_ble_eq_true rfl⟩ (K228T (zi2l rfl) lln99 ll99 (by omega) ?_) (fun _ _ q => q)
        show zGo X l 3 0 0 314 33 [(0, .ref 336), (1, .int a), (2, .int b), (3, .int c)] [.int (1 : Int32)] M _
        refine zs_if_eqF (pc := 33) t314_33 li1 (by decide) ?_
        refine zs_aload_n (pc := 36) t314_36 rfl ?_
        refine zs_iload_n (pc := 37) t314_37 rfl ?_
        refine zs_iload_n (pc := 38) t314_38 rfl ?_
        refine zs_iload_n (pc := 39) t314_39 rfl ?_
        refine zs_invV (pc := 40) (k := 336) (as' := [.int a, .int b, .int c]) (st := []) t314_40 mf249 rfl rfl (Or.inl ⟨by decide, (zk1 (hs.k fk_zMm_336))⟩) ⟨by decide, by decide, Nat.le_of_ble_eq_true rfl, Nat.le_of_ble_eq_true rfl⟩ (K249 hs hI ⟨by omega, by omega⟩ ?_) (fun _ _ q => q)
        have w6 := zrg (zlift M a b c)
        show zGo X l 3 0 0 314 43 [(0, .ref 336), (1, .int a), (2, .int b), (3, .int c)] [.int (zlift M a b c)] M _
        refine zs_goto (pc := 43) t314_43 ?_
        exact zs_iret (pc := 49) t314_49 mr314 rfl (hQ _ _ hs hI (zFr.refl) pR pC pF)
      · refine zs_invS (pc := 30) (as := [.long c.toInt64, .long (-99 : Int64), .long (99 : Int64)]) (st := []) t314_30 (by decide) mf228 rfl rfl ⟨by decide, by decide, Nat.le_of_ble_eq_true rfl, Nat.le_of_ble_eq_true rfl⟩ (K228F (zi2l rfl) lln99 ll99 (by omega) ?_) (fun _ _ q => q)
        show zGo X l 3 0 0 314 33 [(0, .ref 336), (1, .int a), (2, .int b), (3, .int c)] [.int (0 : Int32)] M _
        refine zs_if_eqT (pc := 33) t314_33 li0 (by decide) ?_
        refine zs_ldc_w (pc := 46) t314_46 (v := -100000) rfl (by decide) ?_
        exact zs_iret (pc := 49) t314_49 mr314 (by decide) (hQ _ _ hs hI (zFr.refl) pR pC pF)
    · refine zs_invS (pc := 16) (as := [.long b.toInt64, .long (-99 : Int64), .long (99 : Int64)]) (st := []) t314_16 (by decide) mf228 rfl rfl ⟨by decide, by decide, Nat.le_of_ble_eq_true rfl, Nat.le_of_ble_eq_true rfl⟩ (K228F (zi2l rfl) lln99 ll99 (by omega) ?_) (fun _ _ q => q)
      show zGo X l 3 0 0 314 19 [(0, .ref 336), (1, .int a), (2, .int b), (3, .int c)] [.int (0 : Int32)] M _
      refine zs_if_eqT (pc := 19) t314_19 li0 (by decide) ?_
      refine zs_ldc_w (pc := 46) t314_46 (v := -100000) rfl (by decide) ?_
      exact zs_iret (pc := 49) t314_49 mr314 (by decide) (hQ _ _ hs hI (zFr.refl) pR pC pF)
  · refine zs_invS (pc := 12) (as := [.long a.toInt64, .long (0 : Int64), .long w2v.toInt64]) (st := []) t306_12 (by decide) mf228 rfl rfl ⟨by decide, by decide, Nat.le_of_ble_eq_true rfl, Nat.le_of_ble_eq_true rfl⟩ (K228F (zi2l rfl) ll0 (zi2l w2) (by omega) ?_) (fun _ _ q => q)
    show zGo X l 1 0 0 306 15 [(0, .ref 336), (1, .int a)] [.int (0 : Int32)] M _
    refine zs_iret (pc := 15) t306_15 mr306 (by decide) ?_
    show zGo X l 3 0 0 314 5 [(0, .ref 336), (1, .int a), (2, .int b), (3, .int c)] [.int (0 : Int32)] M _
    refine zs_if_eqT (pc := 5) t314_5 li0 (by decide) ?_
    refine zs_ldc_w (pc := 46) t314_46 (v := -100000) rfl (by decide) ?_
    exact zs_iret (pc := 49) t314_49 mr314 (by decide) (hQ _ _ hs hI (zFr.refl) pR pC pF)
theorem K315 {X : zX} {l : Launch} {M : zM} {Q : Option Value → zM → Prop} {a b c : Int32} (hs : zSk zMm M) (hI : zIv mLo mHi M) (pR : zPR M) (pC : zPC M) (pF : zPF M) (hQ : ∀ (M' : zM) (v : Int32), zSk zMm M' → zIv mLo mHi M' → zFr [(336, 363, none)] M M' → zPR M' → zPC M' → zPF M' → Q (some (.int v)) M') : zCall X l 3 0 0 315 [.ref 336, .int a, .int b, .int c] M Q := by
  have ga := zrg a
  have gb := zrg b
  have gc := zrg c
  refine zs_in (by decide) mf315 (Nat.le_of_ble_eq_true rfl) ?_
  show zGo X l 3 0 0 315 0 [(0, .ref 336), (1, .int a), (2, .int b), (3, .int c)] [] M _
  refine zs_iload_n (pc := 0) t315_0 rfl ?_
  refine zs_i2l (pc := 1) t315_1 rfl ?_
  refine zs_aload_n (pc := 2) t315_2 rfl ?_
  refine zs_get (pc := 3) t315_3 (by decide) (zk1 (hs.k fk_zMm_336)) (hs.p rfl fv_zMm_336_0) ?_
  refine zs_iconst (pc := 6) t315_6 (v := 5) (by decide) ?_
  have w1 := ibA5 hI
  refine zs_iald (pc := 7) t315_7 (j := 5) (by decide) (zk1 (hs.k fk_zMm_337)) li5 (zk2 (hs.k fk_zMm_337) (by decide)) rfl ?_
  obtain ⟨w2v, w2e⟩ : ∃ v, -(zI M 337 5) = v := ⟨_, rfl⟩
  have w2 : w2v.toInt = -(zI M 337 5).toInt := by rw [← w2e]; exact zneg rfl (by omega)
  refine zs_ineg (pc := 8) t315_8 (c := w2v) w2e ?_
  refine zs_i2l (pc := 9) t315_9 rfl ?_
  refine zs_aload_n (pc := 10) t315_10 rfl ?_
  refine zs_get (pc := 11) t315_11 (by decide) (zk1 (hs.k fk_zMm_336)) (hs.p rfl fv_zMm_336_0) ?_
  refine zs_iconst (pc := 14) t315_14 (v := 5) (by decide) ?_
  refine zs_iald (pc := 15) t315_15 (j := 5) (by decide) (zk1 (hs.k fk_zMm_337)) li5 (zk2 (hs.k fk_zMm_337) (by decide)) rfl ?_
  refine zs_i2l (pc := 16) t315_16 rfl ?_
  by_cases w3 : (-(zI M 337 5).toInt) ≤ a.toInt ∧ a.toInt ≤ (zI M 337 5).toInt
  · refine zs_invS (pc := 17) (as := [.long a.toInt64, .long w2v.toInt64, .long (zI M 337 5).toInt64]) (st := []) t315_17 (by decide) mf228 rfl rfl ⟨by decide, by decide, Nat.le_of_ble_eq_true rfl, Nat.le_of_ble_eq_true rfl⟩ (K228T (zi2l rfl) (zi2l w2) (zi2l rfl) (by omega) ?_) (fun _ _ q => q)
    show zGo X l 3 0 0 315 20 [(0, .ref 336), (1, .int a), (2, .int b), (3, .int c)] [.int (1 : Int32)] M _
    refine zs_if_eqF (pc := 20) t315_20 li1 (by decide) ?_
    refine zs_iload_n (pc := 23) t315_23 rfl ?_
    refine zs_i2l (pc := 24) t315_24 rfl ?_
    refine zs_aload_n (pc := 25) t315_25 rfl ?_
    refine zs_get (pc := 26) t315_26 (by decide) (zk1 (hs.k fk_zMm_336)) (hs.p rfl fv_zMm_336_0) ?_
    refine zs_bipush (pc := 29) t315_29 (v := 6) (by decide) ?_
    have w4 := ibA6 hI
    refine zs_iald (pc := 31) t315_31 (j := 6) (by decide) (zk1 (hs.k fk_zMm_337)) li6 (zk2 (hs.k fk_zMm_337) (by decide)) rfl ?_
    obtain ⟨w5v, w5e⟩ : ∃ v, -(zI M 337 6) = v := ⟨_, rfl⟩
    have w5 : w5v.toInt = -(zI M 337 6).toInt := by rw [← w5e]; exact zneg rfl (by omega)
    refine zs_ineg (pc := 32) t315_32 (c := w5v) w5e ?_
    refine zs_i2l (pc := 33) t315_33 rfl ?_
    refine zs_aload_n (pc := 34) t315_34 rfl ?_
    refine zs_get (pc := 35) t315_35 (by decide) (zk1 (hs.k fk_zMm_336)) (hs.p rfl fv_zMm_336_0) ?_
    refine zs_bipush (pc := 38) t315_38 (v := 6) (by decide) ?_
    refine zs_iald (pc := 40) t315_40 (j := 6) (by decide) (zk1 (hs.k fk_zMm_337)) li6 (zk2 (hs.k fk_zMm_337) (by decide)) rfl ?_
    refine zs_i2l (pc := 41) t315_41 rfl ?_
    by_cases w6 : (-(zI M 337 6).toInt) ≤ b.toInt ∧ b.toInt ≤ (zI M 337 6).toInt
    · refine zs_invS (pc := 42) (as := [.long b.toInt64, .long w5v.toInt64, .long (zI M 337 6).toInt64]) (st := []) t315_42 (by decide) mf228 rfl rfl ⟨by decide, by decide, Nat.le_of_ble_eq_true rfl, Nat.le_of_ble_eq_true rfl⟩ (K228T (zi2l rfl) (zi2l w5) (zi2l rfl) (by omega) ?_) (fun _ _ q => q)
      show zGo X l 3 0 0 315 45 [(0, .ref 336), (1, .int a), (2, .int b), (3, .int c)] [.int (1 : Int32)] M _
      refine zs_if_neT (pc := 45) t315_45 li1 (by decide) ?_
      refine zs_iconst (pc := 50) t315_50 (v := 0) (by decide) ?_
      refine zs_istore (pc := 51) t315_51 (ls' := [(4, .int (0 : Int32)), (0, .ref 336), (1, .int a), (2, .int b), (3, .int c)]) (zml mf315 (by decide)) rfl ?_
      refine zs_iconst (pc := 53) t315_53 (v := 0) (by decide) ?_
      refine zs_istore (pc := 54) t315_54 (ls' := [(5, .int (0 : Int32)), (4, .int (0 : Int32)), (0, .ref 336), (1, .int a), (2, .int b), (3, .int c)]) (zml mf315 (by decide)) rfl ?_
      have w7L : ∀ (m : Nat) (w7x4 : Int32) (w7x5 : Int32), (0 ≤ w7x5.toInt ∧ w7x5.toInt ≤ 60) → 60 - w7x5.toInt ≤ (m : Int) → zGo X l 3 0 0 315 56 [(0, .ref 336), (1, .int a), (2, .int b), (3, .int c), (4, .int w7x4), (5, .int w7x5)] [] M Q := by
        intro m
        induction m using Nat.strongRecOn with
        | ind w7m w7ih =>
          intro w7x4 w7x5 w7b5 w7q
          have w7g4 := zrg w7x4
          refine zs_iload (pc := 56) t315_56 rfl ?_
          refine zs_aload_n (pc := 58) t315_58 rfl ?_
          refine zs_get (pc := 59) t315_59 (by decide) (zk1 (hs.k fk_zMm_336)) (hs.p rfl fv_zMm_336_0) ?_
          refine zs_iconst (pc := 62) t315_62 (v := 1) (by decide) ?_
          have w8 := ibA1 hI
          refine zs_iald (pc := 63) t315_63 (j := 1) (by decide) (zk1 (hs.k fk_zMm_337)) li1 (zk2 (hs.k fk_zMm_337) (by decide)) rfl ?_
          by_cases w9 : (zI M 337 1).toInt ≤ w7x5.toInt
          · refine zs_icmp_geT (pc := 64) t315_64 rfl rfl (by omega) ?_
            refine zs_iload (pc := 133) t315_133 rfl ?_
            refine zs_invS (pc := 135) (as := [.int w7x4]) (st := []) t315_135 (by decide) mf278 rfl rfl ⟨by decide, by decide, Nat.le_of_ble_eq_true rfl, Nat.le_of_ble_eq_true rfl⟩ (K278x hs hI ?_) (fun _ _ q => q)
            intro w10v w10x0
            have w10g := zrg w10v
            show zGo X l 3 0 0 315 138 [(0, .ref 336), (1, .int a), (2, .int b), (3, .int c), (4, .int w7x4), (5, .int w7x5)] [.int w10v] M _
            exact zs_iret (pc := 138) t315_138 mr315 rfl (hQ _ _ hs hI (zFr.refl) pR pC pF)
          · refine zs_icmp_geF (pc := 64) t315_64 rfl rfl (by omega) ?_
            refine zs_aload_n (pc := 67) t315_67 rfl ?_
            refine zs_iload (pc := 68) t315_68 rfl ?_
            refine zs_iconst (pc := 70) t315_70 (v := 0) (by decide) ?_
            refine zs_invV (pc := 71) (k := 336) (as' := [.int w7x5, .int (0 : Int32)]) (st := []) t315_71 mf272 rfl rfl (Or.inl ⟨by decide, (zk1 (hs.k fk_zMm_336))⟩) ⟨by decide, by decide, Nat.le_of_ble_eq_true rfl, Nat.le_of_ble_eq_true rfl⟩ (zs_in (by decide) mf272 (Nat.le_of_ble_eq_true rfl) ?_) (fun _ _ q => q)
            show zGo X l 0 0 0 272 0 [(0, .ref 336), (1, .int w7x5), (2, .int (0 : Int32))] [] M _
            refine zs_aload_n (pc := 0) t272_0 rfl ?_
            refine zs_get (pc := 1) t272_1 (by decide) (zk1 (hs.k fk_zMm_336)) (hs.p rfl fv_zMm_336_0) ?_
            refine zs_bipush (pc := 4) t272_4 (v := 30) (by decide) ?_
            refine zs_iconst (pc := 6) t272_6 (v := 4) (by decide) ?_
            refine zs_iload_n (pc := 7) t272_7 rfl ?_
            obtain ⟨w11v, w11⟩ : ∃ v, (4 : Int32) * w7x5 = v := ⟨_, rfl⟩
            have w11g : w11v.toInt = 4 * w7x5.toInt := by rw [← w11]; exact zmulc li4 rfl (by omega) (by omega)
            refine zs_imul (pc := 8) t272_8 (c := w11v) w11 ?_
            obtain ⟨w12v, w12e, w12⟩ := ziadd (a := (30 : Int32)) (b := w11v) li30 w11g (by omega) (by omega)
            refine zs_iadd (pc := 9) t272_9 (c := w12v) w12e ?_
            refine zs_iload_n (pc := 10) t272_10 rfl ?_
            obtain ⟨w13v, w13e, w13⟩ := ziadd (a := w12v) (b := (0 : Int32)) w12 li0 (by omega) (by omega)
            refine zs_iadd (pc := 11) t272_11 (c := w13v) w13e ?_
            obtain ⟨w14n, w14⟩ : ∃ n : Nat, w7x5.toInt = (n : Int) := ⟨(w7x5.toInt).toNat, by omega⟩
            have w15 := ibL (j := (30 + 4 * w14n)) hI (by omega) (by omega) (by omega)
            refine zs_iald (pc := 12) t272_12 (j := (30 + 4 * w14n)) (by decide) (zk1 (hs.k fk_zMm_337)) (show w13v.toInt = (((30 + 4 * w14n) : Nat) : Int) by omega) (zk2 (hs.k fk_zMm_337) (by omega)) rfl ?_
            refine zs_iret (pc := 13) t272_13 mr272 rfl ?_
            show zGo X l 3 0 0 315 74 [(0, .ref 336), (1, .int a), (2, .int b), (3, .int c), (4, .int w7x4), (5, .int w7x5)] [.int (zI M 337 (30 + 4 * w14n))] M _
            refine zs_istore (pc := 74) t315_74 (ls' := [(6, .int (zI M 337 (30 + 4 * w14n))), (0, .ref 336), (1, .int a), (2, .int b), (3, .int c), (4, .int w7x4), (5, .int w7x5)]) (zml mf315 (by decide)) rfl ?_
            refine zs_aload_n (pc := 76) t315_76 rfl ?_
            refine zs_iload (pc := 77) t315_77 rfl ?_
            refine zs_iconst (pc := 79) t315_79 (v := -1) (by decide) ?_
            refine zs_invV (pc := 80) (k := 336) (as' := [.int w7x5, .int (-1 : Int32)]) (st := []) t315_80 mf271 rfl rfl (Or.inl ⟨by decide, (zk1 (hs.k fk_zMm_336))⟩) ⟨by decide, by decide, Nat.le_of_ble_eq_true rfl, Nat.le_of_ble_eq_true rfl⟩ (K271 hs hI ⟨by omega, by omega⟩ ?_) (fun _ _ q => q)
            intro w16v  w16a w16b
            show zGo X l 3 0 0 315 83 [(6, .int (zI M 337 (30 + 4 * w14n))), (0, .ref 336), (1, .int a), (2, .int b), (3, .int c), (4, .int w7x4), (5, .int w7x5)] [.int w16v] M _
            by_cases w17 : w16v.toInt = 0
            · refine zs_if_eqT (pc := 83) t315_83 rfl (by omega) ?_
              obtain ⟨w18v, w18e, w18⟩ := ziadd (a := w7x5) (b := Int32.ofInt 1) rfl (show (Int32.ofInt 1).toInt = 1 by decide) (by omega) (by omega)
              refine zs_iinc (pc := 127) t315_127 (ls' := [(5, .int w18v), (6, .int (zI M 337 (30 + 4 * w14n))), (0, .ref 336), (1, .int a), (2, .int b), (3, .int c), (4, .int w7x4)]) (zml mf315 (by decide)) rfl (c := w18v) w18e rfl ?_
              refine zs_goto (pc := 130) t315_130 ?_
              refine zGo.locals (ls' := [(0, .ref 336), (1, .int a), (2, .int b), (3, .int c), (4, .int w7x4), (5, .int w18v)]) (by simp) ?_
              have w19 := w18
              exact w7ih (w7m - 1) (by omega) w7x4 w18v ⟨by omega, by omega⟩ (by omega)
            · refine zs_if_eqF (pc := 83) t315_83 rfl (by omega) ?_
              refine zs_aload_n (pc := 86) t315_86 rfl ?_
              refine zs_iload (pc := 87) t315_87 rfl ?_
              refine zs_iconst (pc := 89) t315_89 (v := 1) (by decide) ?_
              refine zs_invV (pc := 90) (k := 336) (as' := [.int w7x5, .int (1 : Int32)]) (st := []) t315_90 mf272 rfl rfl (Or.inl ⟨by decide, (zk1 (hs.k fk_zMm_336))⟩) ⟨by decide, by decide, Nat.le_of_ble_eq_true rfl, Nat.le_of_ble_eq_true rfl⟩ (zs_in (by decide) mf272 (Nat.le_of_ble_eq_true rfl) ?_) (fun _ _ q => q)
              show zGo X l 0 0 0 272 0 [(0, .ref 336), (1, .int w7x5), (2, .int (1 : Int32))] [] M _
              refine zs_aload_n (pc := 0) t272_0 rfl ?_
              refine zs_get (pc := 1) t272_1 (by decide) (zk1 (hs.k fk_zMm_336)) (hs.p rfl fv_zMm_336_0) ?_
              refine zs_bipush (pc := 4) t272_4 (v := 30) (by decide) ?_
              refine zs_iconst (pc := 6) t272_6 (v := 4) (by decide) ?_
              refine zs_iload_n (pc := 7) t272_7 rfl ?_
              obtain ⟨w20v, w20⟩ : ∃ v, (4 : Int32) * w7x5 = v := ⟨_, rfl⟩
              have w20g : w20v.toInt = 4 * w7x5.toInt := by rw [← w20]; exact zmulc li4 rfl (by omega) (by omega)
              refine zs_imul (pc := 8) t272_8 (c := w20v) w20 ?_
              obtain ⟨w21v, w21e, w21⟩ := ziadd (a := (30 : Int32)) (b := w20v) li30 w20g (by omega) (by omega)
              refine zs_iadd (pc := 9) t272_9 (c := w21v) w21e ?_
              refine zs_iload_n (pc := 10) t272_10 rfl ?_
              obtain ⟨w22v, w22e, w22⟩ := ziadd (a := w21v) (b := (1 : Int32)) w21 li1 (by omega) (by omega)
              refine zs_iadd (pc := 11) t272_11 (c := w22v) w22e ?_
              have w23 := zrg (zI M 337 (31 + 4 * w14n))
              refine zs_iald (pc := 12) t272_12 (j := (31 + 4 * w14n)) (by decide) (zk1 (hs.k fk_zMm_337)) (show w22v.toInt = (((31 + 4 * w14n) : Nat) : Int) by omega) (zk2 (hs.k fk_zMm_337) (by omega)) rfl ?_
              refine zs_iret (pc := 13) t272_13 mr272 rfl ?_
              show zGo X l 3 0 0 315 93 [(6, .int (zI M 337 (30 + 4 * w14n))), (0, .ref 336), (1, .int a), (2, .int b), (3, .int c), (4, .int w7x4), (5, .int w7x5)] [.int (zI M 337 (31 + 4 * w14n))] M _
              refine zs_aload_n (pc := 93) t315_93 rfl ?_
              refine zs_iload (pc := 94) t315_94 rfl ?_
              refine zs_iload_n (pc := 96) t315_96 rfl ?_
              refine zs_iload_n (pc := 97) t315_97 rfl ?_
              refine zs_invV (pc := 98) (k := 336) (as' := [.int (zI M 337 (30 + 4 * w14n)), .int b, .int a]) (st := [.int (zI M 337 (31 + 4 * w14n))]) t315_98 mf249 rfl rfl (Or.inl ⟨by decide, (zk1 (hs.k fk_zMm_336))⟩) ⟨by decide, by decide, Nat.le_of_ble_eq_true rfl, Nat.le_of_ble_eq_true rfl⟩ (K249 hs hI ⟨by omega, by omega⟩ ?_) (fun _ _ q => q)
              have w24 := zrg (zlift M (zI M 337 (30 + 4 * w14n)) b a)
              show zGo X l 3 0 0 315 101 [(6, .int (zI M 337 (30 + 4 * w14n))), (0, .ref 336), (1, .int a), (2, .int b), (3, .int c), (4, .int w7x4), (5, .int w7x5)] [.int (zlift M (zI M 337 (30 + 4 * w14n)) b a), .int (zI M 337 (31 + 4 * w14n))] M _
              obtain ⟨w25v, w25⟩ : ∃ v, v = (zI M 337 (31 + 4 * w14n)) - (zlift M (zI M 337 (30 + 4 * w14n)) b a) := ⟨_, rfl⟩
              have w25g := zrg w25v
              refine zs_isub (pc := 101) t315_101 (c := w25v) w25.symm ?_
              refine zs_i2l (pc := 102) t315_102 rfl ?_
              refine zs_aload_n (pc := 103) t315_103 rfl ?_
              refine zs_get (pc := 104) t315_104 (by decide) (zk1 (hs.k fk_zMm_336)) (hs.p rfl fv_zMm_336_0) ?_
              refine zs_bipush (pc := 107) t315_107 (v := 7) (by decide) ?_
              have w26 := ibA7 hI
              refine zs_iald (pc := 109) t315_109 (j := 7) (by decide) (zk1 (hs.k fk_zMm_337)) li7 (zk2 (hs.k fk_zMm_337) (by decide)) rfl ?_
              refine zs_i2l (pc := 110) t315_110 rfl ?_
              have w27 : w25v.toInt64.toInt = w25v.toInt := (zi2l rfl)
              have w28 : (zI M 337 7).toInt64.toInt = (zI M 337 7).toInt := (zi2l rfl)
              refine zs_invS (pc := 111) (as := [.long w25v.toInt64, .long (zI M 337 7).toInt64]) (st := []) t315_111 (by decide) mf250 rfl rfl ⟨by decide, by decide, Nat.le_of_ble_eq_true rfl, Nat.le_of_ble_eq_true rfl⟩ (K250 hs hI ⟨by omega, by omega⟩ ?_) (fun _ _ q => q)
              have w29 := zrg (zflr w25v.toInt64 (zI M 337 7).toInt64)
              show zGo X l 3 0 0 315 114 [(6, .int (zI M 337 (30 + 4 * w14n))), (0, .ref 336), (1, .int a), (2, .int b), (3, .int c), (4, .int w7x4), (5, .int w7x5)] [.int (zflr w25v.toInt64 (zI M 337 7).toInt64)] M _
              refine zs_iload_n (pc := 114) t315_114 rfl ?_
              by_cases w30 : (zflr w25v.toInt64 (zI M 337 7).toInt64).toInt ≠ c.toInt
              · refine zs_icmp_neT (pc := 115) t315_115 rfl rfl (by omega) ?_
                obtain ⟨w31v, w31e, w31⟩ := ziadd (a := w7x5) (b := Int32.ofInt 1) rfl (show (Int32.ofInt 1).toInt = 1 by decide) (by omega) (by omega)
                refine zs_iinc (pc := 127) t315_127 (ls' := [(5, .int w31v), (6, .int (zI M 337 (30 + 4 * w14n))), (0, .ref 336), (1, .int a), (2, .int b), (3, .int c), (4, .int w7x4)]) (zml mf315 (by decide)) rfl (c := w31v) w31e rfl ?_
                refine zs_goto (pc := 130) t315_130 ?_
                refine zGo.locals (ls' := [(0, .ref 336), (1, .int a), (2, .int b), (3, .int c), (4, .int w7x4), (5, .int w31v)]) (by simp) ?_
                have w32 := w31
                exact w7ih (w7m - 1) (by omega) w7x4 w31v ⟨by omega, by omega⟩ (by omega)
              · refine zs_icmp_neF (pc := 115) t315_115 rfl rfl (by omega) ?_
                refine zs_iload (pc := 118) t315_118 rfl ?_
                refine zs_iconst (pc := 120) t315_120 (v := 1) (by decide) ?_
                refine zs_iload (pc := 121) t315_121 rfl ?_
                obtain ⟨w33v, w33⟩ : ∃ v, (1 : Int32) <<< ((zI M 337 (30 + 4 * w14n)) &&& 31) = v := ⟨_, rfl⟩
                have w33g := zrg w33v
                refine zs_ishl (pc := 123) t315_123 (c := w33v) w33 ?_
                obtain ⟨w34v, w34⟩ : ∃ v, w7x4 ||| w33v = v := ⟨_, rfl⟩
                have w34g := zrg w34v
                refine zs_ior (pc := 124) t315_124 (c := w34v) w34 ?_
                refine zs_istore (pc := 125) t315_125 (ls' := [(4, .int w34v), (6, .int (zI M 337 (30 + 4 * w14n))), (0, .ref 336), (1, .int a), (2, .int b), (3, .int c), (5, .int w7x5)]) (zml mf315 (by decide)) rfl ?_
                obtain ⟨w35v, w35e, w35⟩ := ziadd (a := w7x5) (b := Int32.ofInt 1) rfl (show (Int32.ofInt 1).toInt = 1 by decide) (by omega) (by omega)
                refine zs_iinc (pc := 127) t315_127 (ls' := [(5, .int w35v), (4, .int w34v), (6, .int (zI M 337 (30 + 4 * w14n))), (0, .ref 336), (1, .int a), (2, .int b), (3, .int c)]) (zml mf315 (by decide)) rfl (c := w35v) w35e rfl ?_
                refine zs_goto (pc := 130) t315_130 ?_
                refine zGo.locals (ls' := [(0, .ref 336), (1, .int a), (2, .int b), (3, .int c), (4, .int w34v), (5, .int w35v)]) (by simp) ?_
                have w36 := w35
                exact w7ih (w7m - 1) (by omega) w34v w35v ⟨by omega, by omega⟩ (by omega)
      refine zGo.locals (ls' := [(0, .ref 336), (1, .int a), (2, .int b), (3, .int c), (4, .int (0 : Int32)), (5, .int (0 : Int32))]) (by simp) ?_
      have w37 := li0
      have w38 := li0
      exact w7L ((60 - 0 : Int).toNat) (0 : Int32) (0 : Int32) ⟨by decide, by decide⟩ (by omega)
    · refine zs_invS (pc := 42) (as := [.long b.toInt64, .long w5v.toInt64, .long (zI M 337 6).toInt64]) (st := []) t315_42 (by decide) mf228 rfl rfl ⟨by decide, by decide, Nat.le_of_ble_eq_true rfl, Nat.le_of_ble_eq_true rfl⟩ (K228F (zi2l rfl) (zi2l w5) (zi2l rfl) (by omega) ?_) (fun _ _ q => q)
      show zGo X l 3 0 0 315 45 [(0, .ref 336), (1, .int a), (2, .int b), (3, .int c)] [.int (0 : Int32)] M _
      refine zs_if_neF (pc := 45) t315_45 li0 (by decide) ?_
      refine zs_iconst (pc := 48) t315_48 (v := -1) (by decide) ?_
      exact zs_iret (pc := 49) t315_49 mr315 (by decide) (hQ _ _ hs hI (zFr.refl) pR pC pF)
  · refine zs_invS (pc := 17) (as := [.long a.toInt64, .long w2v.toInt64, .long (zI M 337 5).toInt64]) (st := []) t315_17 (by decide) mf228 rfl rfl ⟨by decide, by decide, Nat.le_of_ble_eq_true rfl, Nat.le_of_ble_eq_true rfl⟩ (K228F (zi2l rfl) (zi2l w2) (zi2l rfl) (by omega) ?_) (fun _ _ q => q)
    show zGo X l 3 0 0 315 20 [(0, .ref 336), (1, .int a), (2, .int b), (3, .int c)] [.int (0 : Int32)] M _
    refine zs_if_eqT (pc := 20) t315_20 li0 (by decide) ?_
    refine zs_iconst (pc := 48) t315_48 (v := -1) (by decide) ?_
    exact zs_iret (pc := 49) t315_49 mr315 (by decide) (hQ _ _ hs hI (zFr.refl) pR pC pF)
theorem K336 {X : zX} {l : Launch} {M : zM} {Q : Option Value → zM → Prop} {a b : Int32} (hs : zSk zMm M) (hI : zIv mLo mHi M) (pR : zPR M) (pC : zPC M) (pF : zPF M) (hQ : ∀ (M' : zM) (v : Int32), zSk zMm M' → zIv mLo mHi M' → zFr [(336, 363, none)] M M' → zPR M' → zPC M' → zPF M' → Q (some (.int v)) M') : zCall X l 7 0 0 336 [.ref 336, .int a, .int b] M Q := by
  have ga := zrg a
  have gb := zrg b
  refine zs_in (by decide) mf336 (Nat.le_of_ble_eq_true rfl) ?_
  show zGo X l 7 0 0 336 0 [(0, .ref 336), (1, .int a), (2, .int b)] [] M _
  refine zs_aload_n (pc := 0) t336_0 rfl ?_
  refine zs_invV (pc := 1) (k := 336) (as' := []) (st := []) t336_1 mf268 rfl rfl (Or.inl ⟨by decide, (zk1 (hs.k fk_zMm_336))⟩) ⟨by decide, by decide, Nat.le_of_ble_eq_true rfl, Nat.le_of_ble_eq_true rfl⟩ (K268 hs hI pR pF ?_) (fun _ _ q => q)
  intro w1M w1s w1I w1F w1PF w1PD w1PV
  show zGo X l 7 0 0 336 4 [(0, .ref 336), (1, .int a), (2, .int b)] [] w1M _
  refine zs_aload_n (pc := 4) t336_4 rfl ?_
  refine zs_iload_n (pc := 5) t336_5 rfl ?_
  refine zs_invV (pc := 6) (k := 336) (as' := [.int a]) (st := []) t336_6 mf297 rfl rfl (Or.inl ⟨by decide, (zk1 (w1s.k fk_zMm_336))⟩) ⟨by decide, by decide, Nat.le_of_ble_eq_true rfl, Nat.le_of_ble_eq_true rfl⟩ (zs_in (by decide) mf297 (Nat.le_of_ble_eq_true rfl) ?_) (fun _ _ q => q)
  show zGo X l 1 0 0 297 0 [(0, .ref 336), (1, .int a)] [] w1M _
  refine zs_iload_n (pc := 0) t297_0 rfl ?_
  refine zs_i2l (pc := 1) t297_1 rfl ?_
  refine zs_lconst (pc := 2) t297_2 (v := 0) (by decide) ?_
  refine zs_aload_n (pc := 3) t297_3 rfl ?_
  have w2 := ib336_22 w1I
  refine zs_get (pc := 4) t297_4 (by decide) (zk1 (w1s.k fk_zMm_336)) (zfvi rfl rfl) ?_
  refine zs_iconst (pc := 7) t297_7 (v := 1) (by decide) ?_
  obtain ⟨w3v, w3e, w3⟩ := zisub (a := (zI w1M 336 22)) (b := (1 : Int32)) rfl li1 (by omega) (by omega)
  refine zs_isub (pc := 8) t297_8 (c := w3v) w3e ?_
  refine zs_i2l (pc := 9) t297_9 rfl ?_
  by_cases w4 : 0 ≤ a.toInt ∧ a.toInt ≤ ((zI w1M 336 22).toInt - 1)
  · refine zs_invS (pc := 10) (as := [.long a.toInt64, .long (0 : Int64), .long w3v.toInt64]) (st := []) t297_10 (by decide) mf228 rfl rfl ⟨by decide, by decide, Nat.le_of_ble_eq_true rfl, Nat.le_of_ble_eq_true rfl⟩ (K228T (zi2l rfl) ll0 (zi2l w3) (by omega) ?_) (fun _ _ q => q)
    show zGo X l 1 0 0 297 13 [(0, .ref 336), (1, .int a)] [.int (1 : Int32)] w1M _
    refine zs_iret (pc := 13) t297_13 mr297 (by decide) ?_
    show zGo X l 7 0 0 336 9 [(0, .ref 336), (1, .int a), (2, .int b)] [.int (1 : Int32)] w1M _
    refine zs_if_eqF (pc := 9) t336_9 li1 (by decide) ?_
    refine zs_aload_n (pc := 12) t336_12 rfl ?_
    refine zs_iload_n (pc := 13) t336_13 rfl ?_
    refine zs_invV (pc := 14) (k := 336) (as' := [.int b]) (st := []) t336_14 mf306 rfl rfl (Or.inl ⟨by decide, (zk1 (w1s.k fk_zMm_336))⟩) ⟨by decide, by decide, Nat.le_of_ble_eq_true rfl, Nat.le_of_ble_eq_true rfl⟩ (zs_in (by decide) mf306 (Nat.le_of_ble_eq_true rfl) ?_) (fun _ _ q => q)
    show zGo X l 1 0 0 306 0 [(0, .ref 336), (1, .int b)] [] w1M _
    refine zs_iload_n (pc := 0) t306_0 rfl ?_
    refine zs_i2l (pc := 1) t306_1 rfl ?_
    refine zs_lconst (pc := 2) t306_2 (v := 0) (by decide) ?_
    refine zs_aload_n (pc := 3) t306_3 rfl ?_
    refine zs_get (pc := 4) t306_4 (by decide) (zk1 (w1s.k fk_zMm_336)) (w1s.p rfl fv_zMm_336_0) ?_
    refine zs_iconst (pc := 7) t306_7 (v := 0) (by decide) ?_
    have w5 := ibA0 hI
    refine zs_iald (pc := 8) t306_8 (j := 0) (by decide) (zk1 (w1s.k fk_zMm_337)) li0 (zk2 (w1s.k fk_zMm_337) (by decide)) ((w1F 337 0 rfl).trans rfl) ?_
    refine zs_iconst (pc := 9) t306_9 (v := 1) (by decide) ?_
    obtain ⟨w6v, w6e, w6⟩ := zisub (a := (zI M 337 0)) (b := (1 : Int32)) rfl li1 (by omega) (by omega)
    refine zs_isub (pc := 10) t306_10 (c := w6v) w6e ?_
    refine zs_i2l (pc := 11) t306_11 rfl ?_
    by_cases w7 : 0 ≤ b.toInt ∧ b.toInt ≤ ((zI M 337 0).toInt - 1)
    · refine zs_invS (pc := 12) (as := [.long b.toInt64, .long (0 : Int64), .long w6v.toInt64]) (st := []) t306_12 (by decide) mf228 rfl rfl ⟨by decide, by decide, Nat.le_of_ble_eq_true rfl, Nat.le_of_ble_eq_true rfl⟩ (K228T (zi2l rfl) ll0 (zi2l w6) (by omega) ?_) (fun _ _ q => q)
      show zGo X l 1 0 0 306 15 [(0, .ref 336), (1, .int b)] [.int (1 : Int32)] w1M _
      refine zs_iret (pc := 15) t306_15 mr306 (by decide) ?_
      show zGo X l 7 0 0 336 17 [(0, .ref 336), (1, .int a), (2, .int b)] [.int (1 : Int32)] w1M _
      refine zs_if_eqF (pc := 17) t336_17 li1 (by decide) ?_
      refine zs_aload_n (pc := 20) t336_20 rfl ?_
      refine zs_iload_n (pc := 21) t336_21 rfl ?_
      refine zs_iload_n (pc := 22) t336_22 rfl ?_
      have w8 : (zI w1M 336 22).toInt = (zI w1M 336 22).toInt := (congrArg Int32.toInt rfl).trans rfl
      refine zs_invV (pc := 23) (k := 336) (as' := [.int a, .int b]) (st := []) t336_23 mf337 rfl rfl (Or.inl ⟨by decide, (zk1 (w1s.k fk_zMm_336))⟩) ⟨by decide, by decide, Nat.le_of_ble_eq_true rfl, Nat.le_of_ble_eq_true rfl⟩ (K337 w1s w1I w1PD ⟨by omega, by omega⟩ ⟨by omega, by omega⟩ (by omega) ?_) (fun _ _ q => q)
      intro w9v
      have w9g := zrg w9v
      show zGo X l 7 0 0 336 26 [(0, .ref 336), (1, .int a), (2, .int b)] [.int w9v] w1M _
      refine zs_goto (pc := 26) t336_26 ?_
      exact zs_iret (pc := 32) t336_32 mr336 rfl (hQ _ _ w1s w1I ((zFr.refl).trans (w1F.mono rfl)) (zPR.fr pR (w1F.eq rfl)) (zPC.fr pC (w1F.eq rfl)) w1PF)
    · refine zs_invS (pc := 12) (as := [.long b.toInt64, .long (0 : Int64), .long w6v.toInt64]) (st := []) t306_12 (by decide) mf228 rfl rfl ⟨by decide, by decide, Nat.le_of_ble_eq_true rfl, Nat.le_of_ble_eq_true rfl⟩ (K228F (zi2l rfl) ll0 (zi2l w6) (by omega) ?_) (fun _ _ q => q)
      show zGo X l 1 0 0 306 15 [(0, .ref 336), (1, .int b)] [.int (0 : Int32)] w1M _
      refine zs_iret (pc := 15) t306_15 mr306 (by decide) ?_
      show zGo X l 7 0 0 336 17 [(0, .ref 336), (1, .int a), (2, .int b)] [.int (0 : Int32)] w1M _
      refine zs_if_eqT (pc := 17) t336_17 li0 (by decide) ?_
      refine zs_ldc_w (pc := 29) t336_29 (v := -100000) rfl (by decide) ?_
      exact zs_iret (pc := 32) t336_32 mr336 (by decide) (hQ _ _ w1s w1I ((zFr.refl).trans (w1F.mono rfl)) (zPR.fr pR (w1F.eq rfl)) (zPC.fr pC (w1F.eq rfl)) w1PF)
  · refine zs_invS (pc := 10) (as := [.long a.toInt64, .long (0 : Int64), .long w3v.toInt64]) (st := []) t297_10 (by decide) mf228 rfl rfl ⟨by decide, by decide, Nat.le_of_ble_eq_true rfl, Nat.le_of_ble_eq_true rfl⟩ (K228F (zi2l rfl) ll0 (zi2l w3) (by omega) ?_) (fun _ _ q => q)
    show zGo X l 1 0 0 297 13 [(0, .ref 336), (1, .int a)] [.int (0 : Int32)] w1M _
    refine zs_iret (pc := 13) t297_13 mr297 (by decide) ?_
    show zGo X l 7 0 0 336 9 [(0, .ref 336), (1, .int a), (2, .int b)] [.int (0 : Int32)] w1M _
    refine zs_if_eqT (pc := 9) t336_9 li0 (by decide) ?_
    refine zs_ldc_w (pc := 29) t336_29 (v := -100000) rfl (by decide) ?_
    exact zs_iret (pc := 32) t336_32 mr336 (by decide) (hQ _ _ w1s w1I ((zFr.refl).trans (w1F.mono rfl)) (zPR.fr pR (w1F.eq rfl)) (zPC.fr pC (w1F.eq rfl)) w1PF)
theorem K338 {X : zX} {l : Launch} {M : zM} {Q : Option Value → zM → Prop} {a : Int32} (hs : zSk zMm M) (hI : zIv mLo mHi M) (pR : zPR M) (pC : zPC M) (pF : zPF M) (hQ : ∀ (M' : zM) (v : Int32), zSk zMm M' → zIv mLo mHi M' → zFr [(336, 363, none)] M M' → zPR M' → zPC M' → zPF M' → Q (some (.int v)) M') : zCall X l 7 0 0 338 [.ref 336, .int a] M Q := by
  have ga := zrg a
  refine zs_in (by decide) mf338 (Nat.le_of_ble_eq_true rfl) ?_
  show zGo X l 7 0 0 338 0 [(0, .ref 336), (1, .int a)] [] M _
  refine zs_aload_n (pc := 0) t338_0 rfl ?_
  refine zs_invV (pc := 1) (k := 336) (as' := []) (st := []) t338_1 mf268 rfl rfl (Or.inl ⟨by decide, (zk1 (hs.k fk_zMm_336))⟩) ⟨by decide, by decide, Nat.le_of_ble_eq_true rfl, Nat.le_of_ble_eq_true rfl⟩ (K268 hs hI pR pF ?_) (fun _ _ q => q)
  intro w1M w1s w1I w1F w1PF w1PD w1PV
  show zGo X l 7 0 0 338 4 [(0, .ref 336), (1, .int a)] [] w1M _
  refine zs_aload_n (pc := 4) t338_4 rfl ?_
  refine zs_iload_n (pc := 5) t338_5 rfl ?_
  refine zs_invV (pc := 6) (k := 336) (as' := [.int a]) (st := []) t338_6 mf297 rfl rfl (Or.inl ⟨by decide, (zk1 (w1s.k fk_zMm_336))⟩) ⟨by decide, by decide, Nat.le_of_ble_eq_true rfl, Nat.le_of_ble_eq_true rfl⟩ (zs_in (by decide) mf297 (Nat.le_of_ble_eq_true rfl) ?_) (fun _ _ q => q)
  show zGo X l 1 0 0 297 0 [(0, .ref 336), (1, .int a)] [] w1M _
  refine zs_iload_n (pc := 0) t297_0 rfl ?_
  refine zs_i2l (pc := 1) t297_1 rfl ?_
  refine zs_lconst (pc := 2) t297_2 (v := 0) (by decide) ?_
  refine zs_aload_n (pc := 3) t297_3 rfl ?_
  have w2 := ib336_22 w1I
  refine zs_get (pc := 4) t297_4 (by decide) (zk1 (w1s.k fk_zMm_336)) (zfvi rfl rfl) ?_
  refine zs_iconst (pc := 7) t297_7 (v := 1) (by decide) ?_
  obtain ⟨w3v, w3e, w3⟩ := zisub (a := (zI w1M 336 22)) (b := (1 : Int32)) rfl li1 (by omega) (by omega)
  refine zs_isub (pc := 8) t297_8 (c := w3v) w3e ?_
  refine zs_i2l (pc := 9) t297_9 rfl ?_
  by_cases w4 : 0 ≤ a.toInt ∧ a.toInt ≤ ((zI w1M 336 22).toInt - 1)
  · refine zs_invS (pc := 10) (as := [.long a.toInt64, .long (0 : Int64), .long w3v.toInt64]) (st := []) t297_10 (by decide) mf228 rfl rfl ⟨by decide, by decide, Nat.le_of_ble_eq_true rfl, Nat.le_of_ble_eq_true rfl⟩ (K228T (zi2l rfl) ll0 (zi2l w3) (by omega) ?_) (fun _ _ q => q)
    show zGo X l 1 0 0 297 13 [(0, .ref 336), (1, .int a)] [.int (1 : Int32)] w1M _
    refine zs_iret (pc := 13) t297_13 mr297 (by decide) ?_
    show zGo X l 7 0 0 338 9 [(0, .ref 336), (1, .int a)] [.int (1 : Int32)] w1M _
    refine zs_if_neT (pc := 9) t338_9 li1 (by decide) ?_
    refine zs_iconst (pc := 14) t338_14 (v := 0) (by decide) ?_
    refine zs_istore_n (pc := 15) t338_15 (ls' := [(2, .int (0 : Int32)), (0, .ref 336), (1, .int a)]) (zml mf338 (by decide)) rfl ?_
    refine zs_iconst (pc := 16) t338_16 (v := 0) (by decide) ?_
    refine zs_istore_n (pc := 17) t338_17 (ls' := [(3, .int (0 : Int32)), (2, .int (0 : Int32)), (0, .ref 336), (1, .int a)]) (zml mf338 (by decide)) rfl ?_
    have w5L : ∀ (m : Nat) (w5x2 : Int32) (w5x3 : Int32), (0 ≤ w5x3.toInt ∧ w5x3.toInt ≤ 8) → 8 - w5x3.toInt ≤ (m : Int) → zGo X l 7 0 0 338 18 [(0, .ref 336), (1, .int a), (2, .int w5x2), (3, .int w5x3)] [] w1M Q := by
      intro m
      induction m using Nat.strongRecOn with
      | ind w5m w5ih =>
        intro w5x2 w5x3 w5b3 w5q
        have w5g2 := zrg w5x2
        refine zs_iload_n (pc := 18) t338_18 rfl ?_
        refine zs_aload_n (pc := 19) t338_19 rfl ?_
        refine zs_get (pc := 20) t338_20 (by decide) (zk1 (w1s.k fk_zMm_336)) (w1s.p rfl fv_zMm_336_0) ?_
        refine zs_iconst (pc := 23) t338_23 (v := 0) (by decide) ?_
        have w6 := ibA0 hI
        refine zs_iald (pc := 24) t338_24 (j := 0) (by decide) (zk1 (w1s.k fk_zMm_337)) li0 (zk2 (w1s.k fk_zMm_337) (by decide)) ((w1F 337 0 rfl).trans rfl) ?_
        by_cases w7 : (zI M 337 0).toInt ≤ w5x3.toInt
        · refine zs_icmp_geT (pc := 25) t338_25 rfl rfl (by omega) ?_
          refine zs_iload_n (pc := 68) t338_68 rfl ?_
          exact zs_iret (pc := 69) t338_69 mr338 rfl (hQ _ _ w1s w1I ((zFr.refl).trans (w1F.mono rfl)) (zPR.fr pR (w1F.eq rfl)) (zPC.fr pC (w1F.eq rfl)) w1PF)
        · refine zs_icmp_geF (pc := 25) t338_25 rfl rfl (by omega) ?_
          refine zs_iload_n (pc := 28) t338_28 rfl ?_
          refine zs_aload_n (pc := 29) t338_29 rfl ?_
          refine zs_iload_n (pc := 30) t338_30 rfl ?_
          refine zs_invV (pc := 31) (k := 336) (as' := [.int w5x3]) (st := [.int w5x2]) t338_31 mf273 rfl rfl (Or.inl ⟨by decide, (zk1 (w1s.k fk_zMm_336))⟩) ⟨by decide, by decide, Nat.le_of_ble_eq_true rfl, Nat.le_of_ble_eq_true rfl⟩ (zs_in (by decide) mf273 (Nat.le_of_ble_eq_true rfl) ?_) (fun _ _ q => q)
          show zGo X l 0 0 0 273 0 [(0, .ref 336), (1, .int w5x3)] [] w1M _
          refine zs_aload_n (pc := 0) t273_0 rfl ?_
          refine zs_get (pc := 1) t273_1 (by decide) (zk1 (w1s.k fk_zMm_336)) (w1s.p rfl fv_zMm_336_0) ?_
          refine zs_bipush (pc := 4) t273_4 (v := 14) (by decide) ?_
          refine zs_iconst (pc := 6) t273_6 (v := 2) (by decide) ?_
          refine zs_iload_n (pc := 7) t273_7 rfl ?_
          obtain ⟨w8v, w8⟩ : ∃ v, (2 : Int32) * w5x3 = v := ⟨_, rfl⟩
          have w8g : w8v.toInt = 2 * w5x3.toInt := by rw [← w8]; exact zmulc li2 rfl (by omega) (by omega)
          refine zs_imul (pc := 8) t273_8 (c := w8v) w8 ?_
          obtain ⟨w9v, w9e, w9⟩ := ziadd (a := (14 : Int32)) (b := w8v) li14 w8g (by omega) (by omega)
          refine zs_iadd (pc := 9) t273_9 (c := w9v) w9e ?_
          refine zs_iconst (pc := 10) t273_10 (v := 1) (by decide) ?_
          obtain ⟨w10v, w10e, w10⟩ := ziadd (a := w9v) (b := (1 : Int32)) w9 li1 (by omega) (by omega)
          refine zs_iadd (pc := 11) t273_11 (c := w10v) w10e ?_
          obtain ⟨w11n, w11⟩ : ∃ n : Nat, w5x3.toInt = (n : Int) := ⟨(w5x3.toInt).toNat, by omega⟩
          have w12 := zrg (zI M 337 (15 + 2 * w11n))
          refine zs_iald (pc := 12) t273_12 (j := (15 + 2 * w11n)) (by decide) (zk1 (w1s.k fk_zMm_337)) (show w10v.toInt = (((15 + 2 * w11n) : Nat) : Int) by omega) (zk2 (w1s.k fk_zMm_337) (by omega)) ((w1F 337 (15 + 2 * w11n) rfl).trans rfl) ?_
          refine zs_iconst (pc := 13) t273_13 (v := 1) (by decide) ?_
          by_cases w13 : (zI M 337 (15 + 2 * w11n)).toInt ≠ 1
          · refine zs_icmp_neT (pc := 14) t273_14 rfl li1 (by omega) ?_
            refine zs_iconst (pc := 21) t273_21 (v := 0) (by decide) ?_
            refine zs_iret (pc := 22) t273_22 mr273 (by decide) ?_
            show zGo X l 7 0 0 338 34 [(0, .ref 336), (1, .int a), (2, .int w5x2), (3, .int w5x3)] [.int (0 : Int32), .int w5x2] w1M _
            refine zs_if_eqT (pc := 34) t338_34 li0 (by decide) ?_
            refine zs_iconst (pc := 59) t338_59 (v := 0) (by decide) ?_
            obtain ⟨w14v, w14⟩ : ∃ v, w5x2 ||| (0 : Int32) = v := ⟨_, rfl⟩
            have w14g := zrg w14v
            refine zs_ior (pc := 60) t338_60 (c := w14v) w14 ?_
            refine zs_istore_n (pc := 61) t338_61 (ls' := [(2, .int w14v), (0, .ref 336), (1, .int a), (3, .int w5x3)]) (zml mf338 (by decide)) rfl ?_
            obtain ⟨w15v, w15e, w15⟩ := ziadd (a := w5x3) (b := Int32.ofInt 1) rfl (show (Int32.ofInt 1).toInt = 1 by decide) (by omega) (by omega)
            refine zs_iinc (pc := 62) t338_62 (ls' := [(3, .int w15v), (2, .int w14v), (0, .ref 336), (1, .int a)]) (zml mf338 (by decide)) rfl (c := w15v) w15e rfl ?_
            refine zs_goto (pc := 65) t338_65 ?_
            refine zGo.locals (ls' := [(0, .ref 336), (1, .int a), (2, .int w14v), (3, .int w15v)]) (by simp) ?_
            have w16 := w15
            exact w5ih (w5m - 1) (by omega) w14v w15v ⟨by omega, by omega⟩ (by omega)
          · refine zs_icmp_neF (pc := 14) t273_14 rfl li1 (by omega) ?_
            refine zs_iconst (pc := 17) t273_17 (v := 1) (by decide) ?_
            refine zs_goto (pc := 18) t273_18 ?_
            refine zs_iret (pc := 22) t273_22 mr273 (by decide) ?_
            show zGo X l 7 0 0 338 34 [(0, .ref 336), (1, .int a), (2, .int w5x2), (3, .int w5x3)] [.int (1 : Int32), .int w5x2] w1M _
            refine zs_if_eqF (pc := 34) t338_34 li1 (by decide) ?_
            refine zs_aload_n (pc := 37) t338_37 rfl ?_
            refine zs_get (pc := 38) t338_38 (by decide) (zk1 (w1s.k fk_zMm_336)) (w1s.p rfl fv_zMm_336_27) ?_
            refine zs_bipush (pc := 41) t338_41 (v := 8) (by decide) ?_
            refine zs_iload_n (pc := 43) t338_43 rfl ?_
            obtain ⟨w17v, w17⟩ : ∃ v, (8 : Int32) * a = v := ⟨_, rfl⟩
            have w17g : w17v.toInt = 8 * a.toInt := by rw [← w17]; exact zmulc li8 rfl (by omega) (by omega)
            refine zs_imul (pc := 44) t338_44 (c := w17v) w17 ?_
            refine zs_iload_n (pc := 45) t338_45 rfl ?_
            obtain ⟨w18v, w18e, w18⟩ := ziadd (a := w17v) (b := w5x3) w17g rfl (by omega) (by omega)
            refine zs_iadd (pc := 46) t338_46 (c := w18v) w18e ?_
            obtain ⟨w19n, w19⟩ : ∃ n : Nat, a.toInt = (n : Int) := ⟨(a.toInt).toNat, by omega⟩
            have w20 := ib349 w1I (8 * w19n + w11n)
            refine zs_iald (pc := 47) t338_47 (j := (8 * w19n + w11n)) (by decide) (zk1 (w1s.k fk_zMm_349)) (show w18v.toInt = (((8 * w19n + w11n) : Nat) : Int) by omega) (zk2 (w1s.k fk_zMm_349) (by omega)) rfl ?_
            refine zs_bipush (pc := 48) t338_48 (v := -2) (by decide) ?_
            by_cases w21 : (zI w1M 349 (8 * w19n + w11n)).toInt ≠ (-2)
            · refine zs_icmp_neT (pc := 50) t338_50 rfl lin2 (by omega) ?_
              refine zs_iconst (pc := 59) t338_59 (v := 0) (by decide) ?_
              obtain ⟨w22v, w22⟩ : ∃ v, w5x2 ||| (0 : Int32) = v := ⟨_, rfl⟩
              have w22g := zrg w22v
              refine zs_ior (pc := 60) t338_60 (c := w22v) w22 ?_
              refine zs_istore_n (pc := 61) t338_61 (ls' := [(2, .int w22v), (0, .ref 336), (1, .int a), (3, .int w5x3)]) (zml mf338 (by decide)) rfl ?_
              obtain ⟨w23v, w23e, w23⟩ := ziadd (a := w5x3) (b := Int32.ofInt 1) rfl (show (Int32.ofInt 1).toInt = 1 by decide) (by omega) (by omega)
              refine zs_iinc (pc := 62) t338_62 (ls' := [(3, .int w23v), (2, .int w22v), (0, .ref 336), (1, .int a)]) (zml mf338 (by decide)) rfl (c := w23v) w23e rfl ?_
              refine zs_goto (pc := 65) t338_65 ?_
              refine zGo.locals (ls' := [(0, .ref 336), (1, .int a), (2, .int w22v), (3, .int w23v)]) (by simp) ?_
              have w24 := w23
              exact w5ih (w5m - 1) (by omega) w22v w23v ⟨by omega, by omega⟩ (by omega)
            · refine zs_icmp_neF (pc := 50) t338_50 rfl lin2 (by omega) ?_
              refine zs_iconst (pc := 53) t338_53 (v := 1) (by decide) ?_
              refine zs_iload_n (pc := 54) t338_54 rfl ?_
              obtain ⟨w25v, w25⟩ : ∃ v, (1 : Int32) <<< (w5x3 &&& 31) = v := ⟨_, rfl⟩
              have w25g := zrg w25v
              refine zs_ishl (pc := 55) t338_55 (c := w25v) w25 ?_
              refine zs_goto (pc := 56) t338_56 ?_
              obtain ⟨w26v, w26⟩ : ∃ v, w5x2 ||| w25v = v := ⟨_, rfl⟩
              have w26g := zrg w26v
              refine zs_ior (pc := 60) t338_60 (c := w26v) w26 ?_
              refine zs_istore_n (pc := 61) t338_61 (ls' := [(2, .int w26v), (0, .ref 336), (1, .int a), (3, .int w5x3)]) (zml mf338 (by decide)) rfl ?_
              obtain ⟨w27v, w27e, w27⟩ := ziadd (a := w5x3) (b := Int32.ofInt 1) rfl (show (Int32.ofInt 1).toInt = 1 by decide) (by omega) (by omega)
              refine zs_iinc (pc := 62) t338_62 (ls' := [(3, .int w27v), (2, .int w26v), (0, .ref 336), (1, .int a)]) (zml mf338 (by decide)) rfl (c := w27v) w27e rfl ?_
              refine zs_goto (pc := 65) t338_65 ?_
              refine zGo.locals (ls' := [(0, .ref 336), (1, .int a), (2, .int w26v), (3, .int w27v)]) (by simp) ?_
              have w28 := w27
              exact w5ih (w5m - 1) (by omega) w26v w27v ⟨by omega, by omega⟩ (by omega)
    refine zGo.locals (ls' := [(0, .ref 336), (1, .int a), (2, .int (0 : Int32)), (3, .int (0 : Int32))]) (by simp) ?_
    have w29 := li0
    have w30 := li0
    exact w5L ((8 - 0 : Int).toNat) (0 : Int32) (0 : Int32) ⟨by decide, by decide⟩ (by omega)
  · refine zs_invS (pc := 10) (as := [.long a.toInt64, .long (0 : Int64), .long w3v.toInt64]) (st := []) t297_10 (by decide) mf228 rfl rfl ⟨by decide, by decide, Nat.le_of_ble_eq_true rfl, Nat.le_of_ble_eq_true rfl⟩ (K228F (zi2l rfl) ll0 (zi2l w3) (by omega) ?_) (fun _ _ q => q)
    show zGo X l 1 0 0 297 13 [(0, .ref 336), (1, .int a)] [.int (0 : Int32)] w1M _
    refine zs_iret (pc := 13) t297_13 mr297 (by decide) ?_
    show zGo X l 7 0 0 338 9 [(0, .ref 336), (1, .int a)] [.int (0 : Int32)] w1M _
    refine zs_if_neF (pc := 9) t338_9 li0 (by decide) ?_
    refine zs_iconst (pc := 12) t338_12 (v := -1) (by decide) ?_
    exact zs_iret (pc := 13) t338_13 mr338 (by decide) (hQ _ _ w1s w1I ((zFr.refl).trans (w1F.mono rfl)) (zPR.fr pR (w1F.eq rfl)) (zPC.fr pC (w1F.eq rfl)) w1PF)
theorem K339 {X : zX} {l : Launch} {M : zM} {Q : Option Value → zM → Prop} {a b : Int32} (hs : zSk zMm M) (hI : zIv mLo mHi M) (pR : zPR M) (pC : zPC M) (pF : zPF M) (hQ : ∀ (M' : zM) (v : Int32), zSk zMm M' → zIv mLo mHi M' → zFr [(336, 363, none)] M M' → zPR M' → zPC M' → zPF M' → Q (some (.int v)) M') : zCall X l 7 0 0 339 [.ref 336, .int a, .int b] M Q := by
  have ga := zrg a
  have gb := zrg b
  refine zs_in (by decide) mf339 (Nat.le_of_ble_eq_true rfl) ?_
  show zGo X l 7 0 0 339 0 [(0, .ref 336), (1, .int a), (2, .int b)] [] M _
  refine zs_aload_n (pc := 0) t339_0 rfl ?_
  refine zs_invV (pc := 1) (k := 336) (as' := []) (st := []) t339_1 mf268 rfl rfl (Or.inl ⟨by decide, (zk1 (hs.k fk_zMm_336))⟩) ⟨by decide, by decide, Nat.le_of_ble_eq_true rfl, Nat.le_of_ble_eq_true rfl⟩ (K268 hs hI pR pF ?_) (fun _ _ q => q)
  intro w1M w1s w1I w1F w1PF w1PD w1PV
  show zGo X l 7 0 0 339 4 [(0, .ref 336), (1, .int a), (2, .int b)] [] w1M _
  refine zs_aload_n (pc := 4) t339_4 rfl ?_
  refine zs_iload_n (pc := 5) t339_5 rfl ?_
  refine zs_invV (pc := 6) (k := 336) (as' := [.int a]) (st := []) t339_6 mf297 rfl rfl (Or.inl ⟨by decide, (zk1 (w1s.k fk_zMm_336))⟩) ⟨by decide, by decide, Nat.le_of_ble_eq_true rfl, Nat.le_of_ble_eq_true rfl⟩ (zs_in (by decide) mf297 (Nat.le_of_ble_eq_true rfl) ?_) (fun _ _ q => q)
  show zGo X l 1 0 0 297 0 [(0, .ref 336), (1, .int a)] [] w1M _
  refine zs_iload_n (pc := 0) t297_0 rfl ?_
  refine zs_i2l (pc := 1) t297_1 rfl ?_
  refine zs_lconst (pc := 2) t297_2 (v := 0) (by decide) ?_
  refine zs_aload_n (pc := 3) t297_3 rfl ?_
  have w2 := ib336_22 w1I
  refine zs_get (pc := 4) t297_4 (by decide) (zk1 (w1s.k fk_zMm_336)) (zfvi rfl rfl) ?_
  refine zs_iconst (pc := 7) t297_7 (v := 1) (by decide) ?_
  obtain ⟨w3v, w3e, w3⟩ := zisub (a := (zI w1M 336 22)) (b := (1 : Int32)) rfl li1 (by omega) (by omega)
  refine zs_isub (pc := 8) t297_8 (c := w3v) w3e ?_
  refine zs_i2l (pc := 9) t297_9 rfl ?_
  by_cases w4 : 0 ≤ a.toInt ∧ a.toInt ≤ ((zI w1M 336 22).toInt - 1)
  · refine zs_invS (pc := 10) (as := [.long a.toInt64, .long (0 : Int64), .long w3v.toInt64]) (st := []) t297_10 (by decide) mf228 rfl rfl ⟨by decide, by decide, Nat.le_of_ble_eq_true rfl, Nat.le_of_ble_eq_true rfl⟩ (K228T (zi2l rfl) ll0 (zi2l w3) (by omega) ?_) (fun _ _ q => q)
    show zGo X l 1 0 0 297 13 [(0, .ref 336), (1, .int a)] [.int (1 : Int32)] w1M _
    refine zs_iret (pc := 13) t297_13 mr297 (by decide) ?_
    show zGo X l 7 0 0 339 9 [(0, .ref 336), (1, .int a), (2, .int b)] [.int (1 : Int32)] w1M _
    refine zs_if_eqF (pc := 9) t339_9 li1 (by decide) ?_
    refine zs_aload_n (pc := 12) t339_12 rfl ?_
    refine zs_iload_n (pc := 13) t339_13 rfl ?_
    refine zs_invV (pc := 14) (k := 336) (as' := [.int b]) (st := []) t339_14 mf306 rfl rfl (Or.inl ⟨by decide, (zk1 (w1s.k fk_zMm_336))⟩) ⟨by decide, by decide, Nat.le_of_ble_eq_true rfl, Nat.le_of_ble_eq_true rfl⟩ (zs_in (by decide) mf306 (Nat.le_of_ble_eq_true rfl) ?_) (fun _ _ q => q)
    show zGo X l 1 0 0 306 0 [(0, .ref 336), (1, .int b)] [] w1M _
    refine zs_iload_n (pc := 0) t306_0 rfl ?_
    refine zs_i2l (pc := 1) t306_1 rfl ?_
    refine zs_lconst (pc := 2) t306_2 (v := 0) (by decide) ?_
    refine zs_aload_n (pc := 3) t306_3 rfl ?_
    refine zs_get (pc := 4) t306_4 (by decide) (zk1 (w1s.k fk_zMm_336)) (w1s.p rfl fv_zMm_336_0) ?_
    refine zs_iconst (pc := 7) t306_7 (v := 0) (by decide) ?_
    have w5 := ibA0 hI
    refine zs_iald (pc := 8) t306_8 (j := 0) (by decide) (zk1 (w1s.k fk_zMm_337)) li0 (zk2 (w1s.k fk_zMm_337) (by decide)) ((w1F 337 0 rfl).trans rfl) ?_
    refine zs_iconst (pc := 9) t306_9 (v := 1) (by decide) ?_
    obtain ⟨w6v, w6e, w6⟩ := zisub (a := (zI M 337 0)) (b := (1 : Int32)) rfl li1 (by omega) (by omega)
    refine zs_isub (pc := 10) t306_10 (c := w6v) w6e ?_
    refine zs_i2l (pc := 11) t306_11 rfl ?_
    by_cases w7 : 0 ≤ b.toInt ∧ b.toInt ≤ ((zI M 337 0).toInt - 1)
    · refine zs_invS (pc := 12) (as := [.long b.toInt64, .long (0 : Int64), .long w6v.toInt64]) (st := []) t306_12 (by decide) mf228 rfl rfl ⟨by decide, by decide, Nat.le_of_ble_eq_true rfl, Nat.le_of_ble_eq_true rfl⟩ (K228T (zi2l rfl) ll0 (zi2l w6) (by omega) ?_) (fun _ _ q => q)
      show zGo X l 1 0 0 306 15 [(0, .ref 336), (1, .int b)] [.int (1 : Int32)] w1M _
      refine zs_iret (pc := 15) t306_15 mr306 (by decide) ?_
      show zGo X l 7 0 0 339 17 [(0, .ref 336), (1, .int a), (2, .int b)] [.int (1 : Int32)] w1M _
      refine zs_if_neT (pc := 17) t339_17 li1 (by decide) ?_
      refine zs_bipush (pc := 22) t339_22 (v := -2) (by decide) ?_
      refine zs_istore_n (pc := 24) t339_24 (ls' := [(3, .int (-2 : Int32)), (0, .ref 336), (1, .int a), (2, .int b)]) (zml mf339 (by decide)) rfl ?_
      refine zs_iconst (pc := 25) t339_25 (v := 0) (by decide) ?_
      refine zs_istore (pc := 26) t339_26 (ls' := [(4, .int (0 : Int32)), (3, .int (-2 : Int32)), (0, .ref 336), (1, .int a), (2, .int b)]) (zml mf339 (by decide)) rfl ?_
      refine zs_iconst (pc := 28) t339_28 (v := 0) (by decide) ?_
      refine zs_istore (pc := 29) t339_29 (ls' := [(5, .int (0 : Int32)), (4, .int (0 : Int32)), (3, .int (-2 : Int32)), (0, .ref 336), (1, .int a), (2, .int b)]) (zml mf339 (by decide)) rfl ?_
      have w8L : ∀ (m : Nat) (w8x3 : Int32) (w8x4 : Int32) (w8x5 : Int32), (0 ≤ w8x5.toInt ∧ w8x5.toInt ≤ 60) → 60 - w8x5.toInt ≤ (m : Int) → zGo X l 7 0 0 339 31 [(0, .ref 336), (1, .int a), (2, .int b), (3, .int w8x3), (4, .int w8x4), (5, .int w8x5)] [] w1M Q := by
        intro m
        induction m using Nat.strongRecOn with
        | ind w8m w8ih =>
          intro w8x3 w8x4 w8x5 w8b5 w8q
          have w8g3 := zrg w8x3
          have w8g4 := zrg w8x4
          refine zs_iload (pc := 31) t339_31 rfl ?_
          refine zs_aload_n (pc := 33) t339_33 rfl ?_
          refine zs_get (pc := 34) t339_34 (by decide) (zk1 (w1s.k fk_zMm_336)) (w1s.p rfl fv_zMm_336_0) ?_
          refine zs_iconst (pc := 37) t339_37 (v := 1) (by decide) ?_
          have w9 := ibA1 hI
          refine zs_iald (pc := 38) t339_38 (j := 1) (by decide) (zk1 (w1s.k fk_zMm_337)) li1 (zk2 (w1s.k fk_zMm_337) (by decide)) ((w1F 337 1 rfl).trans rfl) ?_
          by_cases w10 : (zI M 337 1).toInt ≤ w8x5.toInt
          · refine zs_icmp_geT (pc := 39) t339_39 rfl rfl (by omega) ?_
            refine zs_iload_n (pc := 126) t339_126 rfl ?_
            exact zs_iret (pc := 127) t339_127 mr339 rfl (hQ _ _ w1s w1I ((zFr.refl).trans (w1F.mono rfl)) (zPR.fr pR (w1F.eq rfl)) (zPC.fr pC (w1F.eq rfl)) w1PF)
          · refine zs_icmp_geF (pc := 39) t339_39 rfl rfl (by omega) ?_
            refine zs_aload_n (pc := 42) t339_42 rfl ?_
            refine zs_iload (pc := 43) t339_43 rfl ?_
            refine zs_iconst (pc := 45) t339_45 (v := 0) (by decide) ?_
            refine zs_invV (pc := 46) (k := 336) (as' := [.int w8x5, .int (0 : Int32)]) (st := []) t339_46 mf272 rfl rfl (Or.inl ⟨by decide, (zk1 (w1s.k fk_zMm_336))⟩) ⟨by decide, by decide, Nat.le_of_ble_eq_true rfl, Nat.le_of_ble_eq_true rfl⟩ (zs_in (by decide) mf272 (Nat.le_of_ble_eq_true rfl) ?_) (fun _ _ q => q)
            show zGo X l 0 0 0 272 0 [(0, .ref 336), (1, .int w8x5), (2, .int (0 : Int32))] [] w1M _
            refine zs_aload_n (pc := 0) t272_0 rfl ?_
            refine zs_get (pc := 1) t272_1 (by decide) (zk1 (w1s.k fk_zMm_336)) (w1s.p rfl fv_zMm_336_0) ?_
            refine zs_bipush (pc := 4) t272_4 (v := 30) (by decide) ?_
            refine zs_iconst (pc := 6) t272_6 (v := 4) (by decide) ?_
            refine zs_iload_n (pc := 7) t272_7 rfl ?_
            obtain ⟨w11v, w11⟩ : ∃ v, (4 : Int32) * w8x5 = v := ⟨_, rfl⟩
            have w11g : w11v.toInt = 4 * w8x5.toInt := by rw [← w11]; exact zmulc li4 rfl (by omega) (by omega)
            refine zs_imul (pc := 8) t272_8 (c := w11v) w11 ?_
            obtain ⟨w12v, w12e, w12⟩ := ziadd (a := (30 : Int32)) (b := w11v) li30 w11g (by omega) (by omega)
            refine zs_iadd (pc := 9) t272_9 (c := w12v) w12e ?_
            refine zs_iload_n (pc := 10) t272_10 rfl ?_
            obtain ⟨w13v, w13e, w13⟩ := ziadd (a := w12v) (b := (0 : Int32)) w12 li0 (by omega) (by omega)
            refine zs_iadd (pc := 11) t272_11 (c := w13v) w13e ?_
            obtain ⟨w14n, w14⟩ : ∃ n : Nat, w8x5.toInt = (n : Int) := ⟨(w8x5.toInt).toNat, by omega⟩
            have w15 := ibL (j := (30 + 4 * w14n)) hI (by omega) (by omega) (by omega)
            refine zs_iald (pc := 12) t272_12 (j := (30 + 4 * w14n)) (by decide) (zk1 (w1s.k fk_zMm_337)) (show w13v.toInt = (((30 + 4 * w14n) : Nat) : Int) by omega) (zk2 (w1s.k fk_zMm_337) (by omega)) ((w1F 337 (30 + 4 * w14n) rfl).trans rfl) ?_
            refine zs_iret (pc := 13) t272_13 mr272 rfl ?_
            show zGo X l 7 0 0 339 49 [(0, .ref 336), (1, .int a), (2, .int b), (3, .int w8x3), (4, .int w8x4), (5, .int w8x5)] [.int (zI M 337 (30 + 4 * w14n))] w1M _
            refine zs_iload_n (pc := 49) t339_49 rfl ?_
            by_cases w16 : (zI M 337 (30 + 4 * w14n)).toInt ≠ b.toInt
            · refine zs_icmp_neT (pc := 50) t339_50 rfl rfl (by omega) ?_
              obtain ⟨w17v, w17e, w17⟩ := ziadd (a := w8x5) (b := Int32.ofInt 1) rfl (show (Int32.ofInt 1).toInt = 1 by decide) (by omega) (by omega)
              refine zs_iinc (pc := 120) t339_120 (ls' := [(5, .int w17v), (0, .ref 336), (1, .int a), (2, .int b), (3, .int w8x3), (4, .int w8x4)]) (zml mf339 (by decide)) rfl (c := w17v) w17e rfl ?_
              refine zs_goto (pc := 123) t339_123 ?_
              refine zGo.locals (ls' := [(0, .ref 336), (1, .int a), (2, .int b), (3, .int w8x3), (4, .int w8x4), (5, .int w17v)]) (by simp) ?_
              have w18 := w17
              exact w8ih (w8m - 1) (by omega) w8x3 w8x4 w17v ⟨by omega, by omega⟩ (by omega)
            · refine zs_icmp_neF (pc := 50) t339_50 rfl rfl (by omega) ?_
              refine zs_aload_n (pc := 53) t339_53 rfl ?_
              refine zs_iload (pc := 54) t339_54 rfl ?_
              refine zs_iconst (pc := 56) t339_56 (v := -1) (by decide) ?_
              refine zs_invV (pc := 57) (k := 336) (as' := [.int w8x5, .int (-1 : Int32)]) (st := []) t339_57 mf271 rfl rfl (Or.inl ⟨by decide, (zk1 (w1s.k fk_zMm_336))⟩) ⟨by decide, by decide, Nat.le_of_ble_eq_true rfl, Nat.le_of_ble_eq_true rfl⟩ (K271 w1s w1I ⟨by omega, by omega⟩ ?_) (fun _ _ q => q)
              intro w19v  w19a w19b
              show zGo X l 7 0 0 339 60 [(0, .ref 336), (1, .int a), (2, .int b), (3, .int w8x3), (4, .int w8x4), (5, .int w8x5)] [.int w19v] w1M _
              by_cases w20 : w19v.toInt = 0
              · refine zs_if_eqT (pc := 60) t339_60 rfl (by omega) ?_
                obtain ⟨w21v, w21e, w21⟩ := ziadd (a := w8x5) (b := Int32.ofInt 1) rfl (show (Int32.ofInt 1).toInt = 1 by decide) (by omega) (by omega)
                refine zs_iinc (pc := 120) t339_120 (ls' := [(5, .int w21v), (0, .ref 336), (1, .int a), (2, .int b), (3, .int w8x3), (4, .int w8x4)]) (zml mf339 (by decide)) rfl (c := w21v) w21e rfl ?_
                refine zs_goto (pc := 123) t339_123 ?_
                refine zGo.locals (ls' := [(0, .ref 336), (1, .int a), (2, .int b), (3, .int w8x3), (4, .int w8x4), (5, .int w21v)]) (by simp) ?_
                have w22 := w21
                exact w8ih (w8m - 1) (by omega) w8x3 w8x4 w21v ⟨by omega, by omega⟩ (by omega)
              · refine zs_if_eqF (pc := 60) t339_60 rfl (by omega) ?_
                refine zs_aload_n (pc := 63) t339_63 rfl ?_
                refine zs_get (pc := 64) t339_64 (by decide) (zk1 (w1s.k fk_zMm_336)) (w1s.p rfl fv_zMm_336_28) ?_
                refine zs_iload (pc := 67) t339_67 rfl ?_
                have w23 := zrg (zI w1M 350 w14n)
                refine zs_iald (pc := 69) t339_69 (j := w14n) (by decide) (zk1 (w1s.k fk_zMm_350)) (show w8x5.toInt = ((w14n : Nat) : Int) by omega) (zk2 (w1s.k fk_zMm_350) (by omega)) rfl ?_
                refine zs_bipush (pc := 70) t339_70 (v := -2) (by decide) ?_
                by_cases w24 : (zI w1M 350 w14n).toInt = (-2)
                · refine zs_icmp_eqT (pc := 72) t339_72 rfl lin2 (by omega) ?_
                  refine zs_aload_n (pc := 78) t339_78 rfl ?_
                  refine zs_iload (pc := 79) t339_79 rfl ?_
                  refine zs_iconst (pc := 81) t339_81 (v := 1) (by decide) ?_
                  refine zs_invV (pc := 82) (k := 336) (as' := [.int w8x5, .int (1 : Int32)]) (st := []) t339_82 mf272 rfl rfl (Or.inl ⟨by decide, (zk1 (w1s.k fk_zMm_336))⟩) ⟨by decide, by decide, Nat.le_of_ble_eq_true rfl, Nat.le_of_ble_eq_true rfl⟩ (zs_in (by decide) mf272 (Nat.le_of_ble_eq_true rfl) ?_) (fun _ _ q => q)
                  show zGo X l 0 0 0 272 0 [(0, .ref 336), (1, .int w8x5), (2, .int (1 : Int32))] [] w1M _
                  refine zs_aload_n (pc := 0) t272_0 rfl ?_
                  refine zs_get (pc := 1) t272_1 (by decide) (zk1 (w1s.k fk_zMm_336)) (w1s.p rfl fv_zMm_336_0) ?_
                  refine zs_bipush (pc := 4) t272_4 (v := 30) (by decide) ?_
                  refine zs_iconst (pc := 6) t272_6 (v := 4) (by decide) ?_
                  refine zs_iload_n (pc := 7) t272_7 rfl ?_
                  obtain ⟨w25v, w25⟩ : ∃ v, (4 : Int32) * w8x5 = v := ⟨_, rfl⟩
                  have w25g : w25v.toInt = 4 * w8x5.toInt := by rw [← w25]; exact zmulc li4 rfl (by omega) (by omega)
                  refine zs_imul (pc := 8) t272_8 (c := w25v) w25 ?_
                  obtain ⟨w26v, w26e, w26⟩ := ziadd (a := (30 : Int32)) (b := w25v) li30 w25g (by omega) (by omega)
                  refine zs_iadd (pc := 9) t272_9 (c := w26v) w26e ?_
                  refine zs_iload_n (pc := 10) t272_10 rfl ?_
                  obtain ⟨w27v, w27e, w27⟩ := ziadd (a := w26v) (b := (1 : Int32)) w26 li1 (by omega) (by omega)
                  refine zs_iadd (pc := 11) t272_11 (c := w27v) w27e ?_
                  have w28 := zrg (zI M 337 (31 + 4 * w14n))
                  refine zs_iald (pc := 12) t272_12 (j := (31 + 4 * w14n)) (by decide) (zk1 (w1s.k fk_zMm_337)) (show w27v.toInt = (((31 + 4 * w14n) : Nat) : Int) by omega) (zk2 (w1s.k fk_zMm_337) (by omega)) ((w1F 337 (31 + 4 * w14n) rfl).trans rfl) ?_
                  refine zs_iret (pc := 13) t272_13 mr272 rfl ?_
                  show zGo X l 7 0 0 339 85 [(0, .ref 336), (1, .int a), (2, .int b), (3, .int w8x3), (4, .int w8x4), (5, .int w8x5)] [.int (zI M 337 (31 + 4 * w14n))] w1M _
                  refine zs_aload_n (pc := 85) t339_85 rfl ?_
                  refine zs_iload_n (pc := 86) t339_86 rfl ?_
                  refine zs_iload_n (pc := 87) t339_87 rfl ?_
                  have w29 : (zI w1M 336 22).toInt = (zI w1M 336 22).toInt := (congrArg Int32.toInt rfl).trans rfl
                  refine zs_invV (pc := 88) (k := 336) (as' := [.int a, .int b]) (st := [.int (zI M 337 (31 + 4 * w14n))]) t339_88 mf337 rfl rfl (Or.inl ⟨by decide, (zk1 (w1s.k fk_zMm_336))⟩) ⟨by decide, by decide, Nat.le_of_ble_eq_true rfl, Nat.le_of_ble_eq_true rfl⟩ (K337 w1s w1I w1PD ⟨by omega, by omega⟩ ⟨by omega, by omega⟩ (by omega) ?_) (fun _ _ q => q)
                  intro w30v
                  have w30g := zrg w30v
                  show zGo X l 7 0 0 339 91 [(0, .ref 336), (1, .int a), (2, .int b), (3, .int w8x3), (4, .int w8x4), (5, .int w8x5)] [.int w30v, .int (zI M 337 (31 + 4 * w14n))] w1M _
                  obtain ⟨w31v, w31⟩ : ∃ v, v = (zI M 337 (31 + 4 * w14n)) - w30v := ⟨_, rfl⟩
                  have w31g := zrg w31v
                  refine zs_isub (pc := 91) t339_91 (c := w31v) w31.symm ?_
                  refine zs_invS (pc := 92) (as := [.int w31v]) (st := []) t339_92 (by decide) mf280 rfl rfl ⟨by decide, by decide, Nat.le_of_ble_eq_true rfl, Nat.le_of_ble_eq_true rfl⟩ (zs_in (by decide) mf280 (Nat.le_of_ble_eq_true rfl) ?_) (fun _ _ q => q)
                  show zGo X l 0 0 0 280 0 [(0, .int w31v)] [] w1M _
                  refine zs_iload_n (pc := 0) t280_0 rfl ?_
                  by_cases w32 : 0 ≤ w31v.toInt
                  · refine zs_if_geT (pc := 1) t280_1 rfl (by omega) ?_
                    refine zs_iload_n (pc := 9) t280_9 rfl ?_
                    refine zs_iret (pc := 10) t280_10 mr280 rfl ?_
                    show zGo X l 7 0 0 339 95 [(0, .ref 336), (1, .int a), (2, .int b), (3, .int w8x3), (4, .int w8x4), (5, .int w8x5)] [.int w31v] w1M _
                    refine zs_istore (pc := 95) t339_95 (ls' := [(6, .int w31v), (0, .ref 336), (1, .int a), (2, .int b), (3, .int w8x3), (4, .int w8x4), (5, .int w8x5)]) (zml mf339 (by decide)) rfl ?_
                    refine zs_iload_n (pc := 97) t339_97 rfl ?_
                    refine zs_bipush (pc := 98) t339_98 (v := -2) (by decide) ?_
                    by_cases w33 : w8x3.toInt = (-2)
                    · refine zs_icmp_eqT (pc := 100) t339_100 rfl lin2 (by omega) ?_
                      refine zs_iload (pc := 113) t339_113 rfl ?_
                      refine zs_istore_n (pc := 115) t339_115 (ls' := [(3, .int w8x5), (6, .int w31v), (0, .ref 336), (1, .int a), (2, .int b), (4, .int w8x4), (5, .int w8x5)]) (zml mf339 (by decide)) rfl ?_
                      refine zs_iload (pc := 116) t339_116 rfl ?_
                      refine zs_istore (pc := 118) t339_118 (ls' := [(4, .int w31v), (3, .int w8x5), (6, .int w31v), (0, .ref 336), (1, .int a), (2, .int b), (5, .int w8x5)]) (zml mf339 (by decide)) rfl ?_
                      obtain ⟨w34v, w34e, w34⟩ := ziadd (a := w8x5) (b := Int32.ofInt 1) rfl (show (Int32.ofInt 1).toInt = 1 by decide) (by omega) (by omega)
                      refine zs_iinc (pc := 120) t339_120 (ls' := [(5, .int w34v), (4, .int w31v), (3, .int w8x5), (6, .int w31v), (0, .ref 336), (1, .int a), (2, .int b)]) (zml mf339 (by decide)) rfl (c := w34v) w34e rfl ?_
                      refine zs_goto (pc := 123) t339_123 ?_
                      refine zGo.locals (ls' := [(0, .ref 336), (1, .int a), (2, .int b), (3, .int w8x5), (4, .int w31v), (5, .int w34v)]) (by simp) ?_
                      have w35 := w34
                      exact w8ih (w8m - 1) (by omega) w8x5 w31v w34v ⟨by omega, by omega⟩ (by omega)
                    · refine zs_icmp_eqF (pc := 100) t339_100 rfl lin2 (by omega) ?_
                      refine zs_iload (pc := 103) t339_103 rfl ?_
                      refine zs_iload (pc := 105) t339_105 rfl ?_
                      by_cases w36 : w31v.toInt < w8x4.toInt
                      · refine zs_icmp_ltT (pc := 107) t339_107 rfl rfl (by omega) ?_
                        refine zs_iload (pc := 113) t339_113 rfl ?_
                        refine zs_istore_n (pc := 115) t339_115 (ls' := [(3, .int w8x5), (6, .int w31v), (0, .ref 336), (1, .int a), (2, .int b), (4, .int w8x4), (5, .int w8x5)]) (zml mf339 (by decide)) rfl ?_
                        refine zs_iload (pc := 116) t339_116 rfl ?_
                        refine zs_istore (pc := 118) t339_118 (ls' := [(4, .int w31v), (3, .int w8x5), (6, .int w31v), (0, .ref 336), (1, .int a), (2, .int b), (5, .int w8x5)]) (zml mf339 (by decide)) rfl ?_
                        obtain ⟨w37v, w37e, w37⟩ := ziadd (a := w8x5) (b := Int32.ofInt 1) rfl (show (Int32.ofInt 1).toInt = 1 by decide) (by omega) (by omega)
                        refine zs_iinc (pc := 120) t339_120 (ls' := [(5, .int w37v), (4, .int w31v), (3, .int w8x5), (6, .int w31v), (0, .ref 336), (1, .int a), (2, .int b)]) (zml mf339 (by decide)) rfl (c := w37v) w37e rfl ?_
                        refine zs_goto (pc := 123) t339_123 ?_
                        refine zGo.locals (ls' := [(0, .ref 336), (1, .int a), (2, .int b), (3, .int w8x5), (4, .int w31v), (5, .int w37v)]) (by simp) ?_
                        have w38 := w37
                        exact w8ih (w8m - 1) (by omega) w8x5 w31v w37v ⟨by omega, by omega⟩ (by omega)
                      · refine zs_icmp_ltF (pc := 107) t339_107 rfl rfl (by omega) ?_
                        refine zs_goto (pc := 110) t339_110 ?_
                        obtain ⟨w39v, w39e, w39⟩ := ziadd (a := w8x5) (b := Int32.ofInt 1) rfl (show (Int32.ofInt 1).toInt = 1 by decide) (by omega) (by omega)
                        refine zs_iinc (pc := 120) t339_120 (ls' := [(5, .int w39v), (6, .int w31v), (0, .ref 336), (1, .int a), (2, .int b), (3, .int w8x3), (4, .int w8x4)]) (zml mf339 (by decide)) rfl (c := w39v) w39e rfl ?_
                        refine zs_goto (pc := 123) t339_123 ?_
                        refine zGo.locals (ls' := [(0, .ref 336), (1, .int a), (2, .int b), (3, .int w8x3), (4, .int w8x4), (5, .int w39v)]) (by simp) ?_
                        have w40 := w39
                        exact w8ih (w8m - 1) (by omega) w8x3 w8x4 w39v ⟨by omega, by omega⟩ (by omega)
                  · refine zs_if_geF (pc := 1) t280_1 rfl (by omega) ?_
                    refine zs_iload_n (pc := 4) t280_4 rfl ?_
                    obtain ⟨w41v, w41e⟩ : ∃ v, -w31v = v := ⟨_, rfl⟩
                    have w41 := zrg w41v
                    refine zs_ineg (pc := 5) t280_5 (c := w41v) w41e ?_
                    refine zs_goto (pc := 6) t280_6 ?_
                    refine zs_iret (pc := 10) t280_10 mr280 rfl ?_
                    show zGo X l 7 0 0 339 95 [(0, .ref 336), (1, .int a), (2, .int b), (3, .int w8x3), (4, .int w8x4), (5, .int w8x5)] [.int w41v] w1M _
                    refine zs_istore (pc := 95) t339_95 (ls' := [(6, .int w41v), (0, .ref 336), (1, .int a), (2, .int b), (3, .int w8x3), (4, .int w8x4), (5, .int w8x5)]) (zml mf339 (by decide)) rfl ?_
                    refine zs_iload_n (pc := 97) t339_97 rfl ?_
                    refine zs_bipush (pc := 98) t339_98 (v := -2) (by decide) ?_
                    by_cases w42 : w8x3.toInt = (-2)
                    · refine zs_icmp_eqT (pc := 100) t339_100 rfl lin2 (by omega) ?_
                      refine zs_iload (pc := 113) t339_113 rfl ?_
                      refine zs_istore_n (pc := 115) t339_115 (ls' := [(3, .int w8x5), (6, .int w41v), (0, .ref 336), (1, .int a), (2, .int b), (4, .int w8x4), (5, .int w8x5)]) (zml mf339 (by decide)) rfl ?_
                      refine zs_iload (pc := 116) t339_116 rfl ?_
                      refine zs_istore (pc := 118) t339_118 (ls' := [(4, .int w41v), (3, .int w8x5), (6, .int w41v), (0, .ref 336), (1, .int a), (2, .int b), (5, .int w8x5)]) (zml mf339 (by decide)) rfl ?_
                      obtain ⟨w43v, w43e, w43⟩ := ziadd (a := w8x5) (b := Int32.ofInt 1) rfl (show (Int32.ofInt 1).toInt = 1 by decide) (by omega) (by omega)
                      refine zs_iinc (pc := 120) t339_120 (ls' := [(5, .int w43v), (4, .int w41v), (3, .int w8x5), (6, .int w41v), (0, .ref 336), (1, .int a), (2, .int b)]) (zml mf339 (by decide)) rfl (c := w43v) w43e rfl ?_
                      refine zs_goto (pc := 123) t339_123 ?_
                      refine zGo.locals (ls' := [(0, .ref 336), (1, .int a), (2, .int b), (3, .int w8x5), (4, .int w41v), (5, .int w43v)]) (by simp) ?_
                      have w44 := w43
                      exact w8ih (w8m - 1) (by omega) w8x5 w41v w43v ⟨by omega, by omega⟩ (by omega)
                    · refine zs_icmp_eqF (pc := 100) t339_100 rfl lin2 (by omega) ?_
                      refine zs_iload (pc := 103) t339_103 rfl ?_
                      refine zs_iload (pc := 105) t339_105 rfl ?_
                      by_cases w45 : w41v.toInt < w8x4.toInt
                      · refine zs_icmp_ltT (pc := 107) t339_107 rfl rfl (by omega) ?_
                        refine zs_iload (pc := 113) t339_113 rfl ?_
                        refine zs_istore_n (pc := 115) t339_115 (ls' := [(3, .int w8x5), (6, .int w41v), (0, .ref 336), (1, .int a), (2, .int b), (4, .int w8x4), (5, .int w8x5)]) (zml mf339 (by decide)) rfl ?_
                        refine zs_iload (pc := 116) t339_116 rfl ?_
                        refine zs_istore (pc := 118) t339_118 (ls' := [(4, .int w41v), (3, .int w8x5), (6, .int w41v), (0, .ref 336), (1, .int a), (2, .int b), (5, .int w8x5)]) (zml mf339 (by decide)) rfl ?_
                        obtain ⟨w46v, w46e, w46⟩ := ziadd (a := w8x5) (b := Int32.ofInt 1) rfl (show (Int32.ofInt 1).toInt = 1 by decide) (by omega) (by omega)
                        refine zs_iinc (pc := 120) t339_120 (ls' := [(5, .int w46v), (4, .int w41v), (3, .int w8x5), (6, .int w41v), (0, .ref 336), (1, .int a), (2, .int b)]) (zml mf339 (by decide)) rfl (c := w46v) w46e rfl ?_
                        refine zs_goto (pc := 123) t339_123 ?_
                        refine zGo.locals (ls' := [(0, .ref 336), (1, .int a), (2, .int b), (3, .int w8x5), (4, .int w41v), (5, .int w46v)]) (by simp) ?_
                        have w47 := w46
                        exact w8ih (w8m - 1) (by omega) w8x5 w41v w46v ⟨by omega, by omega⟩ (by omega)
                      · refine zs_icmp_ltF (pc := 107) t339_107 rfl rfl (by omega) ?_
                        refine zs_goto (pc := 110) t339_110 ?_
                        obtain ⟨w48v, w48e, w48⟩ := ziadd (a := w8x5) (b := Int32.ofInt 1) rfl (show (Int32.ofInt 1).toInt = 1 by decide) (by omega) (by omega)
                        refine zs_iinc (pc := 120) t339_120 (ls' := [(5, .int w48v), (6, .int w41v), (0, .ref 336), (1, .int a), (2, .int b), (3, .int w8x3), (4, .int w8x4)]) (zml mf339 (by decide)) rfl (c := w48v) w48e rfl ?_
                        refine zs_goto (pc := 123) t339_123 ?_
                        refine zGo.locals (ls' := [(0, .ref 336), (1, .int a), (2, .int b), (3, .int w8x3), (4, .int w8x4), (5, .int w48v)]) (by simp) ?_
                        have w49 := w48
                        exact w8ih (w8m - 1) (by omega) w8x3 w8x4 w48v ⟨by omega, by omega⟩ (by omega)
                · refine zs_icmp_eqF (pc := 72) t339_72 rfl lin2 (by omega) ?_
                  refine zs_goto (pc := 75) t339_75 ?_
                  obtain ⟨w50v, w50e, w50⟩ := ziadd (a := w8x5) (b := Int32.ofInt 1) rfl (show (Int32.ofInt 1).toInt = 1 by decide) (by omega) (by omega)
                  refine zs_iinc (pc := 120) t339_120 (ls' := [(5, .int w50v), (0, .ref 336), (1, .int a), (2, .int b), (3, .int w8x3), (4, .int w8x4)]) (zml mf339 (by decide)) rfl (c := w50v) w50e rfl ?_
                  refine zs_goto (pc := 123) t339_123 ?_
                  refine zGo.locals (ls' := [(0, .ref 336), (1, .int a), (2, .int b), (3, .int w8x3), (4, .int w8x4), (5, .int w50v)]) (by simp) ?_
                  have w51 := w50
                  exact w8ih (w8m - 1) (by omega) w8x3 w8x4 w50v ⟨by omega, by omega⟩ (by omega)
      refine zGo.locals (ls' := [(0, .ref 336), (1, .int a), (2, .int b), (3, .int (-2 : Int32)), (4, .int (0 : Int32)), (5, .int (0 : Int32))]) (by simp) ?_
      have w52 := lin2
      have w53 := li0
      have w54 := li0
      exact w8L ((60 - 0 : Int).toNat) (-2 : Int32) (0 : Int32) (0 : Int32) ⟨by decide, by decide⟩ (by omega)
    · refine zs_invS (pc := 12) (as := [.long b.toInt64, .long (0 : Int64), .long w6v.toInt64]) (st := []) t306_12 (by decide) mf228 rfl rfl ⟨by decide, by decide, Nat.le_of_ble_eq_true rfl, Nat.le_of_ble_eq_true rfl⟩ (K228F (zi2l rfl) ll0 (zi2l w6) (by omega) ?_) (fun _ _ q => q)
      show zGo X l 1 0 0 306 15 [(0, .ref 336), (1, .int b)] [.int (0 : Int32)] w1M _
      refine zs_iret (pc := 15) t306_15 mr306 (by decide) ?_
      show zGo X l 7 0 0 339 17 [(0, .ref 336), (1, .int a), (2, .int b)] [.int (0 : Int32)] w1M _
      refine zs_if_neF (pc := 17) t339_17 li0 (by decide) ?_
      refine zs_iconst (pc := 20) t339_20 (v := -1) (by decide) ?_
      exact zs_iret (pc := 21) t339_21 mr339 (by decide) (hQ _ _ w1s w1I ((zFr.refl).trans (w1F.mono rfl)) (zPR.fr pR (w1F.eq rfl)) (zPC.fr pC (w1F.eq rfl)) w1PF)
  · refine zs_invS (pc := 10) (as := [.long a.toInt64, .long (0 : Int64), .long w3v.toInt64]) (st := []) t297_10 (by decide) mf228 rfl rfl ⟨by decide, by decide, Nat.le_of_ble_eq_true rfl, Nat.le_of_ble_eq_true rfl⟩ (K228F (zi2l rfl) ll0 (zi2l w3) (by omega) ?_) (fun _ _ q => q)
    show zGo X l 1 0 0 297 13 [(0, .ref 336), (1, .int a)] [.int (0 : Int32)] w1M _
    refine zs_iret (pc := 13) t297_13 mr297 (by decide) ?_
    show zGo X l 7 0 0 339 9 [(0, .ref 336), (1, .int a), (2, .int b)] [.int (0 : Int32)] w1M _
    refine zs_if_eqT (pc := 9) t339_9 li0 (by decide) ?_
    refine zs_iconst (pc := 20) t339_20 (v := -1) (by decide) ?_
    exact zs_iret (pc := 21) t339_21 mr339 (by decide) (hQ _ _ w1s w1I ((zFr.refl).trans (w1F.mono rfl)) (zPR.fr pR (w1F.eq rfl)) (zPC.fr pC (w1F.eq rfl)) w1PF)
theorem K340 {X : zX} {l : Launch} {M : zM} {Q : Option Value → zM → Prop} {a b : Int32} (hs : zSk zMm M) (hI : zIv mLo mHi M) (pR : zPR M) (pC : zPC M) (pF : zPF M) (hQ : ∀ (M' : zM) (v : Int32), zSk zMm M' → zIv mLo mHi M' → zFr [(336, 363, none)] M M' → zPR M' → zPC M' → zPF M' → Q (some (.int v)) M') : zCall X l 7 0 0 340 [.ref 336, .int a, .int b] M Q := by
  have ga := zrg a
  have gb := zrg b
  refine zs_in (by decide) mf340 (Nat.le_of_ble_eq_true rfl) ?_
  show zGo X l 7 0 0 340 0 [(0, .ref 336), (1, .int a), (2, .int b)] [] M _
  refine zs_aload_n (pc := 0) t340_0 rfl ?_
  refine zs_iload_n (pc := 1) t340_1 rfl ?_
  refine zs_invV (pc := 2) (k := 336) (as' := [.int a]) (st := []) t340_2 mf306 rfl rfl (Or.inl ⟨by decide, (zk1 (hs.k fk_zMm_336))⟩) ⟨by decide, by decide, Nat.le_of_ble_eq_true rfl, Nat.le_of_ble_eq_true rfl⟩ (zs_in (by decide) mf306 (Nat.le_of_ble_eq_true rfl) ?_) (fun _ _ q => q)
  show zGo X l 1 0 0 306 0 [(0, .ref 336), (1, .int a)] [] M _
  refine zs_iload_n (pc := 0) t306_0 rfl ?_
  refine zs_i2l (pc := 1) t306_1 rfl ?_
  refine zs_lconst (pc := 2) t306_2 (v := 0) (by decide) ?_
  refine zs_aload_n (pc := 3) t306_3 rfl ?_
  refine zs_get (pc := 4) t306_4 (by decide) (zk1 (hs.k fk_zMm_336)) (hs.p rfl fv_zMm_336_0) ?_
  refine zs_iconst (pc := 7) t306_7 (v := 0) (by decide) ?_
  have w1 := ibA0 hI
  refine zs_iald (pc := 8) t306_8 (j := 0) (by decide) (zk1 (hs.k fk_zMm_337)) li0 (zk2 (hs.k fk_zMm_337) (by decide)) rfl ?_
  refine zs_iconst (pc := 9) t306_9 (v := 1) (by decide) ?_
  obtain ⟨w2v, w2e, w2⟩ := zisub (a := (zI M 337 0)) (b := (1 : Int32)) rfl li1 (by omega) (by omega)
  refine zs_isub (pc := 10) t306_10 (c := w2v) w2e ?_
  refine zs_i2l (pc := 11) t306_11 rfl ?_
  by_cases w3 : 0 ≤ a.toInt ∧ a.toInt ≤ ((zI M 337 0).toInt - 1)
  · refine zs_invS (pc := 12) (as := [.long a.toInt64, .long (0 : Int64), .long w2v.toInt64]) (st := []) t306_12 (by decide) mf228 rfl rfl ⟨by decide, by decide, Nat.le_of_ble_eq_true rfl, Nat.le_of_ble_eq_true rfl⟩ (K228T (zi2l rfl) ll0 (zi2l w2) (by omega) ?_) (fun _ _ q => q)
    show zGo X l 1 0 0 306 15 [(0, .ref 336), (1, .int a)] [.int (1 : Int32)] M _
    refine zs_iret (pc := 15) t306_15 mr306 (by decide) ?_
    show zGo X l 7 0 0 340 5 [(0, .ref 336), (1, .int a), (2, .int b)] [.int (1 : Int32)] M _
    refine zs_if_eqF (pc := 5) t340_5 li1 (by decide) ?_
    refine zs_iload_n (pc := 8) t340_8 rfl ?_
    refine zs_i2l (pc := 9) t340_9 rfl ?_
    refine zs_lconst (pc := 10) t340_10 (v := 0) (by decide) ?_
    refine zs_lconst (pc := 11) t340_11 (v := 1) (by decide) ?_
    by_cases w4 : 0 ≤ b.toInt ∧ b.toInt ≤ 1
    · refine zs_invS (pc := 12) (as := [.long b.toInt64, .long (0 : Int64), .long (1 : Int64)]) (st := []) t340_12 (by decide) mf228 rfl rfl ⟨by decide, by decide, Nat.le_of_ble_eq_true rfl, Nat.le_of_ble_eq_true rfl⟩ (K228T (zi2l rfl) ll0 ll1 (by omega) ?_) (fun _ _ q => q)
      show zGo X l 7 0 0 340 15 [(0, .ref 336), (1, .int a), (2, .int b)] [.int (1 : Int32)] M _
      refine zs_if_neT (pc := 15) t340_15 li1 (by decide) ?_
      refine zs_aload_n (pc := 22) t340_22 rfl ?_
      refine zs_invV (pc := 23) (k := 336) (as' := []) (st := []) t340_23 mf268 rfl rfl (Or.inl ⟨by decide, (zk1 (hs.k fk_zMm_336))⟩) ⟨by decide, by decide, Nat.le_of_ble_eq_true rfl, Nat.le_of_ble_eq_true rfl⟩ (K268 hs hI pR pF ?_) (fun _ _ q => q)
      intro w5M w5s w5I w5F w5PF w5PD w5PV
      show zGo X l 7 0 0 340 26 [(0, .ref 336), (1, .int a), (2, .int b)] [] w5M _
      refine zs_lconst (pc := 26) t340_26 (v := 0) (by decide) ?_
      refine zs_lstore_n (pc := 27) t340_27 (ls' := [(3, .long (0 : Int64)), (0, .ref 336), (1, .int a), (2, .int b)]) (zml mf340 (by decide)) rfl ?_
      refine zs_iconst (pc := 28) t340_28 (v := 0) (by decide) ?_
      refine zs_istore (pc := 29) t340_29 (ls' := [(5, .int (0 : Int32)), (3, .long (0 : Int64)), (0, .ref 336), (1, .int a), (2, .int b)]) (zml mf340 (by decide)) rfl ?_
      refine zs_iconst (pc := 31) t340_31 (v := 0) (by decide) ?_
      refine zs_istore (pc := 32) t340_32 (ls' := [(6, .int (0 : Int32)), (5, .int (0 : Int32)), (3, .long (0 : Int64)), (0, .ref 336), (1, .int a), (2, .int b)]) (zml mf340 (by decide)) rfl ?_
      have w6L : ∀ (m : Nat) (w6x3 : Int64) (w6x5 : Int32) (w6x6 : Int32), (0 ≤ w6x5.toInt ∧ w6x5.toInt ≤ 20) → (0 ≤ w6x6.toInt ∧ w6x6.toInt ≤ 20) → (w6x5.toInt ≤ w6x6.toInt) → 20 - w6x6.toInt ≤ (m : Int) → zGo X l 7 0 0 340 34 [(0, .ref 336), (1, .int a), (2, .int b), (3, .long w6x3), (5, .int w6x5), (6, .int w6x6)] [] w5M Q := by
        intro m
        induction m using Nat.strongRecOn with
        | ind w6m w6ih =>
          intro w6x3 w6x5 w6x6 w6b5 w6b6 w6r0 w6q
          have w6g3 := zrg64 w6x3
          refine zs_iload (pc := 34) t340_34 rfl ?_
          refine zs_aload_n (pc := 36) t340_36 rfl ?_
          have w7 := ib336_22 w5I
          refine zs_get (pc := 37) t340_37 (by decide) (zk1 (w5s.k fk_zMm_336)) (zfvi rfl rfl) ?_
          by_cases w8 : (zI w5M 336 22).toInt ≤ w6x6.toInt
          · refine zs_icmp_geT (pc := 40) t340_40 rfl rfl (by omega) ?_
            refine zs_iload_n (pc := 95) t340_95 rfl ?_
            refine zs_iconst (pc := 96) t340_96 (v := 1) (by decide) ?_
            by_cases w9 : b.toInt ≠ 1
            · refine zs_icmp_neT (pc := 97) t340_97 rfl li1 (by omega) ?_
              refine zs_iload (pc := 105) t340_105 rfl ?_
              by_cases w10 : w6x5.toInt ≠ 0
              · refine zs_if_neT (pc := 107) t340_107 rfl (by omega) ?_
                refine zs_lload_n (pc := 114) t340_114 rfl ?_
                refine zs_iload (pc := 115) t340_115 rfl ?_
                refine zs_i2l (pc := 117) t340_117 rfl ?_
                have w11 : w6x5.toInt64.toInt = w6x5.toInt := (zi2l rfl)
                refine zs_invS (pc := 118) (as := [.long w6x3, .long w6x5.toInt64]) (st := []) t340_118 (by decide) mf286 rfl rfl ⟨by decide, by decide, Nat.le_of_ble_eq_true rfl, Nat.le_of_ble_eq_true rfl⟩ (K286 w5s w5I ⟨by omega, by omega⟩ ?_) (fun _ _ q => q)
                intro w12v
                have w12g := zrg64 w12v
                show zGo X l 7 0 0 340 121 [(0, .ref 336), (1, .int a), (2, .int b), (3, .long w6x3), (5, .int w6x5), (6, .int w6x6)] [.long w12v] w5M _
                obtain ⟨w13v, w13⟩ : ∃ v, w12v.toInt32 = v := ⟨_, rfl⟩
                have w13g := zrg w13v
                refine zs_l2i (pc := 121) t340_121 (c := w13v) w13 ?_
                exact zs_iret (pc := 122) t340_122 mr340 rfl (hQ _ _ w5s w5I ((zFr.refl).trans (w5F.mono rfl)) (zPR.fr pR (w5F.eq rfl)) (zPC.fr pC (w5F.eq rfl)) w5PF)
              · refine zs_if_neF (pc := 107) t340_107 rfl (by omega) ?_
                refine zs_iconst (pc := 110) t340_110 (v := 0) (by decide) ?_
                refine zs_goto (pc := 111) t340_111 ?_
                exact zs_iret (pc := 122) t340_122 mr340 (by decide) (hQ _ _ w5s w5I ((zFr.refl).trans (w5F.mono rfl)) (zPR.fr pR (w5F.eq rfl)) (zPC.fr pC (w5F.eq rfl)) w5PF)
            · refine zs_icmp_neF (pc := 97) t340_97 rfl li1 (by omega) ?_
              refine zs_iload (pc := 100) t340_100 rfl ?_
              refine zs_goto (pc := 102) t340_102 ?_
              exact zs_iret (pc := 122) t340_122 mr340 rfl (hQ _ _ w5s w5I ((zFr.refl).trans (w5F.mono rfl)) (zPR.fr pR (w5F.eq rfl)) (zPC.fr pC (w5F.eq rfl)) w5PF)
          · refine zs_icmp_geF (pc := 40) t340_40 rfl rfl (by omega) ?_
            refine zs_aload_n (pc := 43) t340_43 rfl ?_
            refine zs_get (pc := 44) t340_44 (by decide) (zk1 (w5s.k fk_zMm_336)) (w5s.p rfl fv_zMm_336_27) ?_
            refine zs_bipush (pc := 47) t340_47 (v := 8) (by decide) ?_
            refine zs_iload (pc := 49) t340_49 rfl ?_
            obtain ⟨w14v, w14⟩ : ∃ v, (8 : Int32) * w6x6 = v := ⟨_, rfl⟩
            have w14g : w14v.toInt = 8 * w6x6.toInt := by rw [← w14]; exact zmulc li8 rfl (by omega) (by omega)
            refine zs_imul (pc := 51) t340_51 (c := w14v) w14 ?_
            refine zs_iload_n (pc := 52) t340_52 rfl ?_
            obtain ⟨w15v, w15e, w15⟩ := ziadd (a := w14v) (b := a) w14g rfl (by omega) (by omega)
            refine zs_iadd (pc := 53) t340_53 (c := w15v) w15e ?_
            obtain ⟨w16n, w16⟩ : ∃ n : Nat, w6x6.toInt = (n : Int) := ⟨(w6x6.toInt).toNat, by omega⟩
            obtain ⟨w17n, w17⟩ : ∃ n : Nat, a.toInt = (n : Int) := ⟨(a.toInt).toNat, by omega⟩
            have w18 := ib349 w5I (8 * w16n + w17n)
            refine zs_iald (pc := 54) t340_54 (j := (8 * w16n + w17n)) (by decide) (zk1 (w5s.k fk_zMm_349)) (show w15v.toInt = (((8 * w16n + w17n) : Nat) : Int) by omega) (zk2 (w5s.k fk_zMm_349) (by omega)) rfl ?_
            refine zs_istore (pc := 55) t340_55 (ls' := [(7, .int (zI w5M 349 (8 * w16n + w17n))), (0, .ref 336), (1, .int a), (2, .int b), (3, .long w6x3), (5, .int w6x5), (6, .int w6x6)]) (zml mf340 (by decide)) rfl ?_
            refine zs_iload (pc := 57) t340_57 rfl ?_
            refine zs_bipush (pc := 59) t340_59 (v := -2) (by decide) ?_
            by_cases w19 : (zI w5M 349 (8 * w16n + w17n)).toInt ≠ (-2)
            · refine zs_icmp_neT (pc := 61) t340_61 rfl lin2 (by omega) ?_
              refine zs_lload_n (pc := 67) t340_67 rfl ?_
              refine zs_aload_n (pc := 68) t340_68 rfl ?_
              refine zs_iload (pc := 69) t340_69 rfl ?_
              refine zs_iconst (pc := 71) t340_71 (v := 1) (by decide) ?_
              refine zs_invV (pc := 72) (k := 336) (as' := [.int (zI w5M 349 (8 * w16n + w17n)), .int (1 : Int32)]) (st := [.long w6x3]) t340_72 mf272 rfl rfl (Or.inl ⟨by decide, (zk1 (w5s.k fk_zMm_336))⟩) ⟨by decide, by decide, Nat.le_of_ble_eq_true rfl, Nat.le_of_ble_eq_true rfl⟩ (zs_in (by decide) mf272 (Nat.le_of_ble_eq_true rfl) ?_) (fun _ _ q => q)
              show zGo X l 0 0 0 272 0 [(0, .ref 336), (1, .int (zI w5M 349 (8 * w16n + w17n))), (2, .int (1 : Int32))] [] w5M _
              refine zs_aload_n (pc := 0) t272_0 rfl ?_
              refine zs_get (pc := 1) t272_1 (by decide) (zk1 (w5s.k fk_zMm_336)) (w5s.p rfl fv_zMm_336_0) ?_
              refine zs_bipush (pc := 4) t272_4 (v := 30) (by decide) ?_
              refine zs_iconst (pc := 6) t272_6 (v := 4) (by decide) ?_
              refine zs_iload_n (pc := 7) t272_7 rfl ?_
              obtain ⟨w20v, w20⟩ : ∃ v, (4 : Int32) * (zI w5M 349 (8 * w16n + w17n)) = v := ⟨_, rfl⟩
              have w20g : w20v.toInt = 4 * (zI w5M 349 (8 * w16n + w17n)).toInt := by rw [← w20]; exact zmulc li4 rfl (by omega) (by omega)
              refine zs_imul (pc := 8) t272_8 (c := w20v) w20 ?_
              obtain ⟨w21v, w21e, w21⟩ := ziadd (a := (30 : Int32)) (b := w20v) li30 w20g (by omega) (by omega)
              refine zs_iadd (pc := 9) t272_9 (c := w21v) w21e ?_
              refine zs_iload_n (pc := 10) t272_10 rfl ?_
              obtain ⟨w22v, w22e, w22⟩ := ziadd (a := w21v) (b := (1 : Int32)) w21 li1 (by omega) (by omega)
              refine zs_iadd (pc := 11) t272_11 (c := w22v) w22e ?_
              obtain ⟨w23n, w23⟩ : ∃ n : Nat, w22v.toInt = (n : Int) := ⟨w22v.toInt.toNat, by omega⟩
              have w24 := zrg (zI M 337 w23n)
              refine zs_iald (pc := 12) t272_12 (j := w23n) (by decide) (zk1 (w5s.k fk_zMm_337)) w23 (zk2 (w5s.k fk_zMm_337) (by omega)) ((w5F 337 w23n rfl).trans rfl) ?_
              refine zs_iret (pc := 13) t272_13 mr272 rfl ?_
              show zGo X l 7 0 0 340 75 [(7, .int (zI w5M 349 (8 * w16n + w17n))), (0, .ref 336), (1, .int a), (2, .int b), (3, .long w6x3), (5, .int w6x5), (6, .int w6x6)] [.int (zI M 337 w23n), .long w6x3] w5M _
              refine zs_aload_n (pc := 75) t340_75 rfl ?_
              refine zs_iload (pc := 76) t340_76 rfl ?_
              refine zs_iload_n (pc := 78) t340_78 rfl ?_
              have w25 : (zI w5M 336 22).toInt = (zI w5M 336 22).toInt := (congrArg Int32.toInt rfl).trans rfl
              refine zs_invV (pc := 79) (k := 336) (as' := [.int w6x6, .int a]) (st := [.int (zI M 337 w23n), .long w6x3]) t340_79 mf337 rfl rfl (Or.inl ⟨by decide, (zk1 (w5s.k fk_zMm_336))⟩) ⟨by decide, by decide, Nat.le_of_ble_eq_true rfl, Nat.le_of_ble_eq_true rfl⟩ (K337 w5s w5I w5PD ⟨by omega, by omega⟩ ⟨by omega, by omega⟩ (by omega) ?_) (fun _ _ q => q)
              intro w26v
              have w26g := zrg w26v
              show zGo X l 7 0 0 340 82 [(7, .int (zI w5M 349 (8 * w16n + w17n))), (0, .ref 336), (1, .int a), (2, .int b), (3, .long w6x3), (5, .int w6x5), (6, .int w6x6)] [.int w26v, .int (zI M 337 w23n), .long w6x3] w5M _
              obtain ⟨w27v, w27⟩ : ∃ v, v = (zI M 337 w23n) - w26v := ⟨_, rfl⟩
              have w27g := zrg w27v
              refine zs_isub (pc := 82) t340_82 (c := w27v) w27.symm ?_
              refine zs_i2l (pc := 83) t340_83 rfl ?_
              obtain ⟨w28v, w28⟩ : ∃ v, w6x3 + w27v.toInt64 = v := ⟨_, rfl⟩
              have w28g := zrg64 w28v
              refine zs_ladd (pc := 84) t340_84 (c := w28v) w28 ?_
              refine zs_lstore_n (pc := 85) t340_85 (ls' := [(3, .long w28v), (7, .int (zI w5M 349 (8 * w16n + w17n))), (0, .ref 336), (1, .int a), (2, .int b), (5, .int w6x5), (6, .int w6x6)]) (zml mf340 (by decide)) rfl ?_
              obtain ⟨w29v, w29e, w29⟩ := ziadd (a := w6x5) (b := Int32.ofInt 1) rfl (show (Int32.ofInt 1).toInt = 1 by decide) (by omega) (by omega)
              refine zs_iinc (pc := 86) t340_86 (ls' := [(5, .int w29v), (3, .long w28v), (7, .int (zI w5M 349 (8 * w16n + w17n))), (0, .ref 336), (1, .int a), (2, .int b), (6, .int w6x6)]) (zml mf340 (by decide)) rfl (c := w29v) w29e rfl ?_
              obtain ⟨w30v, w30e, w30⟩ := ziadd (a := w6x6) (b := Int32.ofInt 1) rfl (show (Int32.ofInt 1).toInt = 1 by decide) (by omega) (by omega)
              refine zs_iinc (pc := 89) t340_89 (ls' := [(6, .int w30v), (5, .int w29v), (3, .long w28v), (7, .int (zI w5M 349 (8 * w16n + w17n))), (0, .ref 336), (1, .int a), (2, .int b)]) (zml mf340 (by decide)) rfl (c := w30v) w30e rfl ?_
              refine zs_goto (pc := 92) t340_92 ?_
              refine zGo.locals (ls' := [(0, .ref 336), (1, .int a), (2, .int b), (3, .long w28v), (5, .int w29v), (6, .int w30v)]) (by simp) ?_
              have w31 := w29
              have w32 := w30
              exact w6ih (w6m - 1) (by omega) w28v w29v w30v ⟨by omega, by omega⟩ ⟨by omega, by omega⟩ (by omega) (by omega)
            · refine zs_icmp_neF (pc := 61) t340_61 rfl lin2 (by omega) ?_
              refine zs_goto (pc := 64) t340_64 ?_
              obtain ⟨w33v, w33e, w33⟩ := ziadd (a := w6x6) (b := Int32.ofInt 1) rfl (show (Int32.ofInt 1).toInt = 1 by decide) (by omega) (by omega)
              refine zs_iinc (pc := 89) t340_89 (ls' := [(6, .int w33v), (7, .int (zI w5M 349 (8 * w16n + w17n))), (0, .ref 336), (1, .int a), (2, .int b), (3, .long w6x3), (5, .int w6x5)]) (zml mf340 (by decide)) rfl (c := w33v) w33e rfl ?_
              refine zs_goto (pc := 92) t340_92 ?_
              refine zGo.locals (ls' := [(0, .ref 336), (1, .int a), (2, .int b), (3, .long w6x3), (5, .int w6x5), (6, .int w33v)]) (by simp) ?_
              have w34 := w33
              exact w6ih (w6m - 1) (by omega) w6x3 w6x5 w33v ⟨by omega, by omega⟩ ⟨by omega, by omega⟩ (by omega) (by omega)
      refine zGo.locals (ls' := [(0, .ref 336), (1, .int a), (2, .int b), (3, .long (0 : Int64)), (5, .int (0 : Int32)), (6, .int (0 : Int32))]) (by simp) ?_
      have w35 := ll0
      have w36 := li0
      have w37 := li0
      exact w6L ((20 - 0 : Int).toNat) (0 : Int64) (0 : Int32) (0 : Int32) ⟨by decide, by decide⟩ ⟨by decide, by decide⟩ (by omega) (by omega)
    · refine zs_invS (pc := 12) (as := [.long b.toInt64, .long (0 : Int64), .long (1 : Int64)]) (st := []) t340_12 (by decide) mf228 rfl rfl ⟨by decide, by decide, Nat.le_of_ble_eq_true rfl, Nat.le_of_ble_eq_true rfl⟩ (K228F (zi2l rfl) ll0 ll1 (by omega) ?_) (fun _ _ q => q)
      show zGo X l 7 0 0 340 15 [(0, .ref 336), (1, .int a), (2, .int b)] [.int (0 : Int32)] M _
      refine zs_if_neF (pc := 15) t340_15 li0 (by decide) ?_
      refine zs_ldc_w (pc := 18) t340_18 (v := -100000) rfl (by decide) ?_
      exact zs_iret (pc := 21) t340_21 mr340 (by decide) (hQ _ _ hs hI (zFr.refl) pR pC pF)
  · refine zs_invS (pc := 12) (as := [.long a.toInt64, .long (0 : Int64), .long w2v.toInt64]) (st := []) t306_12 (by decide) mf228 rfl rfl ⟨by decide, by decide, Nat.le_of_ble_eq_true rfl, Nat.le_of_ble_eq_true rfl⟩ (K228F (zi2l rfl) ll0 (zi2l w2) (by omega) ?_) (fun _ _ q => q)
    show zGo X l 1 0 0 306 15 [(0, .ref 336), (1, .int a)] [.int (0 : Int32)] M _
    refine zs_iret (pc := 15) t306_15 mr306 (by decide) ?_
    show zGo X l 7 0 0 340 5 [(0, .ref 336), (1, .int a), (2, .int b)] [.int (0 : Int32)] M _
    refine zs_if_eqT (pc := 5) t340_5 li0 (by decide) ?_
    refine zs_ldc_w (pc := 18) t340_18 (v := -100000) rfl (by decide) ?_
    exact zs_iret (pc := 21) t340_21 mr340 (by decide) (hQ _ _ hs hI (zFr.refl) pR pC pF)
