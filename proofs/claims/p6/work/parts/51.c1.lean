theorem T296 {X : zX} {l : Launch} {M : zM} {Q : Option Value → zM → Prop} {a b : Int32} (hs : zSk zMm M) (hI : zIv mLo mHi M) (pR : zPR M) (pC : zPC M) (pF : zPF M) (hQ : ∀ (M' : zM) (v : Int64), zSk zMm M' → zIv mLo mHi M' → zFr [(336, 336, some 3), (336, 336, some 18), (336, 336, some 19), (336, 336, some 20), (336, 336, some 21), (336, 336, some 22), (336, 336, some 37), (336, 336, some 39), (336, 336, some 42), (336, 336, some 43), (336, 336, some 44), (336, 336, some 45), (342, 361, none)] M M' → zPR M' → zPC M' → zPF M' → Q (some (.long v)) M') : zCall X l 7 0 0 296 [.ref 336, .int a, .int b] M Q := by
  have ga := zrg a
  have gb := zrg b
  refine zs_in (by decide) mf296 (Nat.le_of_ble_eq_true rfl) ?_
  show zGo X l 7 0 0 296 0 [(0, .ref 336), (1, .int a), (2, .int b)] [] M _
  refine zs_aload_n (pc := 0) t296_0 rfl ?_
  refine zs_invV (pc := 1) (k := 336) (as' := []) (st := []) t296_1 mf268 rfl rfl (Or.inl ⟨by decide, (zk1 (hs.k fk_zMm_336))⟩) ⟨by decide, by decide, Nat.le_of_ble_eq_true rfl, Nat.le_of_ble_eq_true rfl⟩ (K268 hs hI pR pF ?_) (fun _ _ q => q)
  intro w1M w1s w1I w1F w1PF w1PD w1PV
  show zGo X l 7 0 0 296 4 [(0, .ref 336), (1, .int a), (2, .int b)] [] w1M _
  refine zs_aload_n (pc := 4) t296_4 rfl ?_
  refine zs_iload_n (pc := 5) t296_5 rfl ?_
  refine zs_invV (pc := 6) (k := 336) (as' := [.int a]) (st := []) t296_6 mf297 rfl rfl (Or.inl ⟨by decide, (zk1 (w1s.k fk_zMm_336))⟩) ⟨by decide, by decide, Nat.le_of_ble_eq_true rfl, Nat.le_of_ble_eq_true rfl⟩ (zs_in (by decide) mf297 (Nat.le_of_ble_eq_true rfl) ?_) (fun _ _ q => q)
  show zGo X l 1 0 0 297 0 [(0, .ref 336), (1, .int a)] [] w1M _
  refine zs_iload_n (pc := 0) t297_0 rfl ?_
  refine zs_i2l (pc := 1) t297_1 rfl ?_
  refine zs_lconst (pc := 2) t297_2 (v := 0) (by decide) ?_
  refine zs_aload_n (pc := 3) t297_3 rfl ?_
  have w2 := ib336_22 w1I
  refine zs_get (pc := 4) t297_4 (by decide) (zk1 (w1s.k fk_zMm_336)) (zfvi rfl rfl) ?_
  refine zs_iconst (pc := 7) t297_7 (v := 1) (by decide) ?_
  obtain ⟨w3v, w3e, w3⟩ := zisub (a := (zI w1M 336 22)) (b := (1 : Int32)) rfl li1 (by omega) (by omega)
  refine zs_isub (pc := 8) t297_8 (c := w3v) w3e ?_
  refine zs_i2l (pc := 9) t297_9 rfl ?_
  by_cases w4 : 0 ≤ a.toInt ∧ a.toInt ≤ ((zI w1M 336 22).toInt - 1)
  · refine zs_invS (pc := 10) (as := [.long a.toInt64, .long (0 : Int64), .long w3v.toInt64]) (st := []) t297_10 (by decide) mf228 rfl rfl ⟨by decide, by decide, Nat.le_of_ble_eq_true rfl, Nat.le_of_ble_eq_true rfl⟩ (K228T (zi2l rfl) ll0 (zi2l w3) (by omega) ?_) (fun _ _ q => q)
    show zGo X l 1 0 0 297 13 [(0, .ref 336), (1, .int a)] [.int (1 : Int32)] w1M _
    refine zs_iret (pc := 13) t297_13 mr297 (by decide) ?_
    show zGo X l 7 0 0 296 9 [(0, .ref 336), (1, .int a), (2, .int b)] [.int (1 : Int32)] w1M _
    refine zs_if_eqF (pc := 9) t296_9 li1 (by decide) ?_
    refine zs_iload_n (pc := 12) t296_12 rfl ?_
    refine zs_i2l (pc := 13) t296_13 rfl ?_
    refine zs_lconst (pc := 14) t296_14 (v := 0) (by decide) ?_
    refine zs_ldc2_w (pc := 15) t296_15 (v := 5) (by decide) ?_
    by_cases w5 : 0 ≤ b.toInt ∧ b.toInt ≤ 5
    · refine zs_invS (pc := 18) (as := [.long b.toInt64, .long (0 : Int64), .long (5 : Int64)]) (st := []) t296_18 (by decide) mf228 rfl rfl ⟨by decide, by decide, Nat.le_of_ble_eq_true rfl, Nat.le_of_ble_eq_true rfl⟩ (K228T (zi2l rfl) ll0 ll5 (by omega) ?_) (fun _ _ q => q)
      show zGo X l 7 0 0 296 21 [(0, .ref 336), (1, .int a), (2, .int b)] [.int (1 : Int32)] w1M _
      refine zs_if_neT (pc := 21) t296_21 li1 (by decide) ?_
      refine zs_iload_n (pc := 28) t296_28 rfl ?_
      refine zs_iconst (pc := 29) t296_29 (v := 2) (by decide) ?_
      by_cases w6 : 2 ≤ b.toInt
      · refine zs_icmp_geT (pc := 30) t296_30 rfl li2 (by omega) ?_
        refine zs_iload_n (pc := 42) t296_42 rfl ?_
        refine zs_iconst (pc := 43) t296_43 (v := 4) (by decide) ?_
        by_cases w7 : 4 ≤ b.toInt
        · refine zs_icmp_geT (pc := 44) t296_44 rfl li4 (by omega) ?_
          refine zs_aload_n (pc := 56) t296_56 rfl ?_
          refine zs_get (pc := 57) t296_57 (by decide) (zk1 (w1s.k fk_zMm_336)) (w1s.p rfl fv_zMm_336_32) ?_
          refine zs_iload_n (pc := 60) t296_60 rfl ?_
          obtain ⟨w8n, w8⟩ : ∃ n : Nat, a.toInt = (n : Int) := ⟨(a.toInt).toNat, by omega⟩
          have w9 := zrg64 (zJ w1M 354 w8n)
          refine zs_lald (pc := 61) t296_61 (j := w8n) (zk1 (w1s.k fk_zMm_354)) (show a.toInt = ((w8n : Nat) : Int) by omega) (zk2 (w1s.k fk_zMm_354) (by omega)) rfl ?_
          refine zs_aload_n (pc := 62) t296_62 rfl ?_
          refine zs_get (pc := 63) t296_63 (by decide) (zk1 (w1s.k fk_zMm_336)) (w1s.p rfl fv_zMm_336_29) ?_
          refine zs_iload_n (pc := 66) t296_66 rfl ?_
          have w10 := zrg64 (zJ w1M 351 w8n)
          have w11 : (zI w1M 336 22).toInt = (zI w1M 336 22).toInt := (congrArg Int32.toInt rfl).trans rfl
          have w12 : 0 < (zJ w1M 351 w8n).toInt := w1PD w8n (by omega)
          refine zs_lald (pc := 67) t296_67 (j := w8n) (zk1 (w1s.k fk_zMm_351)) (show a.toInt = ((w8n : Nat) : Int) by omega) (zk2 (w1s.k fk_zMm_351) (by omega)) rfl ?_
          refine zs_iload_n (pc := 68) t296_68 rfl ?_
          refine zs_iconst (pc := 69) t296_69 (v := 2) (by decide) ?_
          obtain ⟨w13v, w13⟩ : ∃ v, b - b / (2 : Int32) * (2 : Int32) = v := ⟨_, rfl⟩
          have w13g : 0 ≤ w13v.toInt ∧ w13v.toInt ≤ 1 := by rw [← w13]; exact zrem rfl li2 (by omega) (by decide)
          refine zs_irem (pc := 70) t296_70 (by decide) (c := w13v) w13 ?_
          refine zs_invS (pc := 71) (as := [.long (zJ w1M 354 w8n), .long (zJ w1M 351 w8n), .int w13v]) (st := []) t296_71 (by decide) mf298 rfl rfl ⟨by decide, by decide, Nat.le_of_ble_eq_true rfl, Nat.le_of_ble_eq_true rfl⟩ (K298 w1s w1I (by omega) ?_) (fun _ _ q => q)
          intro w14v
          have w14g := zrg64 w14v
          show zGo X l 7 0 0 296 74 [(0, .ref 336), (1, .int a), (2, .int b)] [.long w14v] w1M _
          exact zs_lret (pc := 74) t296_74 mr296 (hQ _ _ w1s w1I ((zFr.refl).trans (w1F.mono rfl)) (zPR.fr pR (w1F.eq rfl)) (zPC.fr pC (w1F.eq rfl)) w1PF)
        · refine zs_icmp_geF (pc := 44) t296_44 rfl li4 (by omega) ?_
          refine zs_aload_n (pc := 47) t296_47 rfl ?_
          refine zs_get (pc := 48) t296_48 (by decide) (zk1 (w1s.k fk_zMm_336)) (w1s.p rfl fv_zMm_336_31) ?_
          refine zs_iload_n (pc := 51) t296_51 rfl ?_
          obtain ⟨w15n, w15⟩ : ∃ n : Nat, a.toInt = (n : Int) := ⟨(a.toInt).toNat, by omega⟩
          have w16 := zrg64 (zJ w1M 353 w15n)
          refine zs_lald (pc := 52) t296_52 (j := w15n) (zk1 (w1s.k fk_zMm_353)) (show a.toInt = ((w15n : Nat) : Int) by omega) (zk2 (w1s.k fk_zMm_353) (by omega)) rfl ?_
          refine zs_goto (pc := 53) t296_53 ?_
          refine zs_aload_n (pc := 62) t296_62 rfl ?_
          refine zs_get (pc := 63) t296_63 (by decide) (zk1 (w1s.k fk_zMm_336)) (w1s.p rfl fv_zMm_336_29) ?_
          refine zs_iload_n (pc := 66) t296_66 rfl ?_
          have w17 := zrg64 (zJ w1M 351 w15n)
          have w18 : (zI w1M 336 22).toInt = (zI w1M 336 22).toInt := (congrArg Int32.toInt rfl).trans rfl
          have w19 : 0 < (zJ w1M 351 w15n).toInt := w1PD w15n (by omega)
          refine zs_lald (pc := 67) t296_67 (j := w15n) (zk1 (w1s.k fk_zMm_351)) (show a.toInt = ((w15n : Nat) : Int) by omega) (zk2 (w1s.k fk_zMm_351) (by omega)) rfl ?_
          refine zs_iload_n (pc := 68) t296_68 rfl ?_
          refine zs_iconst (pc := 69) t296_69 (v := 2) (by decide) ?_
          obtain ⟨w20v, w20⟩ : ∃ v, b - b / (2 : Int32) * (2 : Int32) = v := ⟨_, rfl⟩
          have w20g : 0 ≤ w20v.toInt ∧ w20v.toInt ≤ 1 := by rw [← w20]; exact zrem rfl li2 (by omega) (by decide)
          refine zs_irem (pc := 70) t296_70 (by decide) (c := w20v) w20 ?_
          refine zs_invS (pc := 71) (as := [.long (zJ w1M 353 w15n), .long (zJ w1M 351 w15n), .int w20v]) (st := []) t296_71 (by decide) mf298 rfl rfl ⟨by decide, by decide, Nat.le_of_ble_eq_true rfl, Nat.le_of_ble_eq_true rfl⟩ (K298 w1s w1I (by omega) ?_) (fun _ _ q => q)
          intro w21v
          have w21g := zrg64 w21v
          show zGo X l 7 0 0 296 74 [(0, .ref 336), (1, .int a), (2, .int b)] [.long w21v] w1M _
          exact zs_lret (pc := 74) t296_74 mr296 (hQ _ _ w1s w1I ((zFr.refl).trans (w1F.mono rfl)) (zPR.fr pR (w1F.eq rfl)) (zPC.fr pC (w1F.eq rfl)) w1PF)
      · refine zs_icmp_geF (pc := 30) t296_30 rfl li2 (by omega) ?_
        refine zs_aload_n (pc := 33) t296_33 rfl ?_
        refine zs_get (pc := 34) t296_34 (by decide) (zk1 (w1s.k fk_zMm_336)) (w1s.p rfl fv_zMm_336_30) ?_
        refine zs_iload_n (pc := 37) t296_37 rfl ?_
        obtain ⟨w22n, w22⟩ : ∃ n : Nat, a.toInt = (n : Int) := ⟨(a.toInt).toNat, by omega⟩
        have w23 := zrg64 (zJ w1M 352 w22n)
        refine zs_lald (pc := 38) t296_38 (j := w22n) (zk1 (w1s.k fk_zMm_352)) (show a.toInt = ((w22n : Nat) : Int) by omega) (zk2 (w1s.k fk_zMm_352) (by omega)) rfl ?_
        refine zs_goto (pc := 39) t296_39 ?_
        refine zs_aload_n (pc := 62) t296_62 rfl ?_
        refine zs_get (pc := 63) t296_63 (by decide) (zk1 (w1s.k fk_zMm_336)) (w1s.p rfl fv_zMm_336_29) ?_
        refine zs_iload_n (pc := 66) t296_66 rfl ?_
        have w24 := zrg64 (zJ w1M 351 w22n)
        have w25 : (zI w1M 336 22).toInt = (zI w1M 336 22).toInt := (congrArg Int32.toInt rfl).trans rfl
        have w26 : 0 < (zJ w1M 351 w22n).toInt := w1PD w22n (by omega)
        refine zs_lald (pc := 67) t296_67 (j := w22n) (zk1 (w1s.k fk_zMm_351)) (show a.toInt = ((w22n : Nat) : Int) by omega) (zk2 (w1s.k fk_zMm_351) (by omega)) rfl ?_
        refine zs_iload_n (pc := 68) t296_68 rfl ?_
        refine zs_iconst (pc := 69) t296_69 (v := 2) (by decide) ?_
        obtain ⟨w27v, w27⟩ : ∃ v, b - b / (2 : Int32) * (2 : Int32) = v := ⟨_, rfl⟩
        have w27g : 0 ≤ w27v.toInt ∧ w27v.toInt ≤ 1 := by rw [← w27]; exact zrem rfl li2 (by omega) (by decide)
        refine zs_irem (pc := 70) t296_70 (by decide) (c := w27v) w27 ?_
        refine zs_invS (pc := 71) (as := [.long (zJ w1M 352 w22n), .long (zJ w1M 351 w22n), .int w27v]) (st := []) t296_71 (by decide) mf298 rfl rfl ⟨by decide, by decide, Nat.le_of_ble_eq_true rfl, Nat.le_of_ble_eq_true rfl⟩ (K298 w1s w1I (by omega) ?_) (fun _ _ q => q)
        intro w28v
        have w28g := zrg64 w28v
        show zGo X l 7 0 0 296 74 [(0, .ref 336), (1, .int a), (2, .int b)] [.long w28v] w1M _
        exact zs_lret (pc := 74) t296_74 mr296 (hQ _ _ w1s w1I ((zFr.refl).trans (w1F.mono rfl)) (zPR.fr pR (w1F.eq rfl)) (zPC.fr pC (w1F.eq rfl)) w1PF)
    · refine zs_invS (pc := 18) (as := [.long b.toInt64, .long (0 : Int64), .long (5 : Int64)]) (st := []) t296_18 (by decide) mf228 rfl rfl ⟨by decide, by decide, Nat.le_of_ble_eq_true rfl, Nat.le_of_ble_eq_true rfl⟩ (K228F (zi2l rfl) ll0 ll5 (by omega) ?_) (fun _ _ q => q)
      show zGo X l 7 0 0 296 21 [(0, .ref 336), (1, .int a), (2, .int b)] [.int (0 : Int32)] w1M _
      refine zs_if_neF (pc := 21) t296_21 li0 (by decide) ?_
      refine zs_ldc2_w (pc := 24) t296_24 (v := -1000000000000) (by decide) ?_
      exact zs_lret (pc := 27) t296_27 mr296 (hQ _ _ w1s w1I ((zFr.refl).trans (w1F.mono rfl)) (zPR.fr pR (w1F.eq rfl)) (zPC.fr pC (w1F.eq rfl)) w1PF)
  · refine zs_invS (pc := 10) (as := [.long a.toInt64, .long (0 : Int64), .long w3v.toInt64]) (st := []) t297_10 (by decide) mf228 rfl rfl ⟨by decide, by decide, Nat.le_of_ble_eq_true rfl, Nat.le_of_ble_eq_true rfl⟩ (K228F (zi2l rfl) ll0 (zi2l w3) (by omega) ?_) (fun _ _ q => q)
    show zGo X l 1 0 0 297 13 [(0, .ref 336), (1, .int a)] [.int (0 : Int32)] w1M _
    refine zs_iret (pc := 13) t297_13 mr297 (by decide) ?_
    show zGo X l 7 0 0 296 9 [(0, .ref 336), (1, .int a), (2, .int b)] [.int (0 : Int32)] w1M _
    refine zs_if_eqT (pc := 9) t296_9 li0 (by decide) ?_
    refine zs_ldc2_w (pc := 24) t296_24 (v := -1000000000000) (by decide) ?_
    exact zs_lret (pc := 27) t296_27 mr296 (hQ _ _ w1s w1I ((zFr.refl).trans (w1F.mono rfl)) (zPR.fr pR (w1F.eq rfl)) (zPC.fr pC (w1F.eq rfl)) w1PF)
theorem T301 {X : zX} {l : Launch} {M : zM} {Q : Option Value → zM → Prop} {a b : Int32} (hs : zSk zMm M) (hI : zIv mLo mHi M) (pR : zPR M) (pC : zPC M) (pF : zPF M) (hQ : ∀ (M' : zM) (v : Int32), zSk zMm M' → zIv mLo mHi M' → zFr [(336, 336, some 3), (336, 336, some 18), (336, 336, some 19), (336, 336, some 20), (336, 336, some 21), (336, 336, some 22), (336, 336, some 37), (336, 336, some 39), (336, 336, some 42), (336, 336, some 43), (336, 336, some 44), (336, 336, some 45), (342, 361, none)] M M' → zPR M' → zPC M' → zPF M' → Q (some (.int v)) M') : zCall X l 7 0 0 301 [.ref 336, .int a, .int b] M Q := by
  have ga := zrg a
  have gb := zrg b
  refine zs_in (by decide) mf301 (Nat.le_of_ble_eq_true rfl) ?_
  show zGo X l 7 0 0 301 0 [(0, .ref 336), (1, .int a), (2, .int b)] [] M _
  refine zs_aload_n (pc := 0) t301_0 rfl ?_
  refine zs_invV (pc := 1) (k := 336) (as' := []) (st := []) t301_1 mf268 rfl rfl (Or.inl ⟨by decide, (zk1 (hs.k fk_zMm_336))⟩) ⟨by decide, by decide, Nat.le_of_ble_eq_true rfl, Nat.le_of_ble_eq_true rfl⟩ (K268 hs hI pR pF ?_) (fun _ _ q => q)
  intro w1M w1s w1I w1F w1PF w1PD w1PV
  show zGo X l 7 0 0 301 4 [(0, .ref 336), (1, .int a), (2, .int b)] [] w1M _
  refine zs_iload_n (pc := 4) t301_4 rfl ?_
  refine zs_i2l (pc := 5) t301_5 rfl ?_
  refine zs_lconst (pc := 6) t301_6 (v := 0) (by decide) ?_
  refine zs_aload_n (pc := 7) t301_7 rfl ?_
  have w2 := ib336_37 w1I
  refine zs_get (pc := 8) t301_8 (by decide) (zk1 (w1s.k fk_zMm_336)) (zfvi rfl rfl) ?_
  refine zs_iconst (pc := 11) t301_11 (v := 1) (by decide) ?_
  obtain ⟨w3v, w3e, w3⟩ := zisub (a := (zI w1M 336 37)) (b := (1 : Int32)) rfl li1 (by omega) (by omega)
  refine zs_isub (pc := 12) t301_12 (c := w3v) w3e ?_
  refine zs_i2l (pc := 13) t301_13 rfl ?_
  by_cases w4 : 0 ≤ a.toInt ∧ a.toInt ≤ ((zI w1M 336 37).toInt - 1)
  · refine zs_invS (pc := 14) (as := [.long a.toInt64, .long (0 : Int64), .long w3v.toInt64]) (st := []) t301_14 (by decide) mf228 rfl rfl ⟨by decide, by decide, Nat.le_of_ble_eq_true rfl, Nat.le_of_ble_eq_true rfl⟩ (K228T (zi2l rfl) ll0 (zi2l w3) (by omega) ?_) (fun _ _ q => q)
    show zGo X l 7 0 0 301 17 [(0, .ref 336), (1, .int a), (2, .int b)] [.int (1 : Int32)] w1M _
    refine zs_if_eqF (pc := 17) t301_17 li1 (by decide) ?_
    refine zs_iload_n (pc := 20) t301_20 rfl ?_
    refine zs_i2l (pc := 21) t301_21 rfl ?_
    refine zs_lconst (pc := 22) t301_22 (v := 0) (by decide) ?_
    refine zs_lconst (pc := 23) t301_23 (v := 1) (by decide) ?_
    by_cases w5 : 0 ≤ b.toInt ∧ b.toInt ≤ 1
    · refine zs_invS (pc := 24) (as := [.long b.toInt64, .long (0 : Int64), .long (1 : Int64)]) (st := []) t301_24 (by decide) mf228 rfl rfl ⟨by decide, by decide, Nat.le_of_ble_eq_true rfl, Nat.le_of_ble_eq_true rfl⟩ (K228T (zi2l rfl) ll0 ll1 (by omega) ?_) (fun _ _ q => q)
      show zGo X l 7 0 0 301 27 [(0, .ref 336), (1, .int a), (2, .int b)] [.int (1 : Int32)] w1M _
      refine zs_if_neT (pc := 27) t301_27 li1 (by decide) ?_
      refine zs_iload_n (pc := 34) t301_34 rfl ?_
      by_cases w6 : b.toInt ≠ 0
      · refine zs_if_neT (pc := 35) t301_35 rfl (by omega) ?_
        refine zs_aload_n (pc := 47) t301_47 rfl ?_
        refine zs_get (pc := 48) t301_48 (by decide) (zk1 (w1s.k fk_zMm_336)) (w1s.p rfl fv_zMm_336_35) ?_
        refine zs_iload_n (pc := 51) t301_51 rfl ?_
        obtain ⟨w7n, w7⟩ : ∃ n : Nat, a.toInt = (n : Int) := ⟨(a.toInt).toNat, by omega⟩
        have w8 := zrg64 (zJ w1M 357 w7n)
        refine zs_lald (pc := 52) t301_52 (j := w7n) (zk1 (w1s.k fk_zMm_357)) (show a.toInt = ((w7n : Nat) : Int) by omega) (zk2 (w1s.k fk_zMm_357) (by omega)) rfl ?_
        refine zs_aload_n (pc := 53) t301_53 rfl ?_
        refine zs_get (pc := 54) t301_54 (by decide) (zk1 (w1s.k fk_zMm_336)) (w1s.p rfl fv_zMm_336_34) ?_
        refine zs_iload_n (pc := 57) t301_57 rfl ?_
        have w9 := zrg (zI w1M 356 w7n)
        have w10 : (zI w1M 336 37).toInt = (zI w1M 336 37).toInt := (congrArg Int32.toInt rfl).trans rfl
        have w11 := w1PV w7n (by omega)
        refine zs_iald (pc := 58) t301_58 (j := w7n) (by decide) (zk1 (w1s.k fk_zMm_356)) (show a.toInt = ((w7n : Nat) : Int) by omega) (zk2 (w1s.k fk_zMm_356) (by omega)) rfl ?_
        refine zs_i2l (pc := 59) t301_59 rfl ?_
        have w12 : (zI w1M 356 w7n).toInt64.toInt = (zI w1M 356 w7n).toInt := (zi2l rfl)
        refine zs_invS (pc := 60) (as := [.long (zJ w1M 357 w7n), .long (zI w1M 356 w7n).toInt64]) (st := []) t301_60 (by decide) mf286 rfl rfl ⟨by decide, by decide, Nat.le_of_ble_eq_true rfl, Nat.le_of_ble_eq_true rfl⟩ (K286 w1s w1I ⟨by omega, by omega⟩ ?_) (fun _ _ q => q)
        intro w13v
        have w13g := zrg64 w13v
        show zGo X l 7 0 0 301 63 [(0, .ref 336), (1, .int a), (2, .int b)] [.long w13v] w1M _
        obtain ⟨w14v, w14⟩ : ∃ v, w13v.toInt32 = v := ⟨_, rfl⟩
        have w14g := zrg w14v
        refine zs_l2i (pc := 63) t301_63 (c := w14v) w14 ?_
        exact zs_iret (pc := 64) t301_64 mr301 rfl (hQ _ _ w1s w1I ((zFr.refl).trans (w1F.mono rfl)) (zPR.fr pR (w1F.eq rfl)) (zPC.fr pC (w1F.eq rfl)) w1PF)
      · refine zs_if_neF (pc := 35) t301_35 rfl (by omega) ?_
        refine zs_aload_n (pc := 38) t301_38 rfl ?_
        refine zs_get (pc := 39) t301_39 (by decide) (zk1 (w1s.k fk_zMm_336)) (w1s.p rfl fv_zMm_336_34) ?_
        refine zs_iload_n (pc := 42) t301_42 rfl ?_
        obtain ⟨w15n, w15⟩ : ∃ n : Nat, a.toInt = (n : Int) := ⟨(a.toInt).toNat, by omega⟩
        have w16 := zrg (zI w1M 356 w15n)
        have w17 : (zI w1M 336 37).toInt = (zI w1M 336 37).toInt := (congrArg Int32.toInt rfl).trans rfl
        have w18 := w1PV w15n (by omega)
        refine zs_iald (pc := 43) t301_43 (j := w15n) (by decide) (zk1 (w1s.k fk_zMm_356)) (show a.toInt = ((w15n : Nat) : Int) by omega) (zk2 (w1s.k fk_zMm_356) (by omega)) rfl ?_
        refine zs_goto (pc := 44) t301_44 ?_
        exact zs_iret (pc := 64) t301_64 mr301 rfl (hQ _ _ w1s w1I ((zFr.refl).trans (w1F.mono rfl)) (zPR.fr pR (w1F.eq rfl)) (zPC.fr pC (w1F.eq rfl)) w1PF)
    · refine zs_invS (pc := 24) (as := [.long b.toInt64, .long (0 : Int64), .long (1 : Int64)]) (st := []) t301_24 (by decide) mf228 rfl rfl ⟨by decide, by decide, Nat.le_of_ble_eq_true rfl, Nat.le_of_ble_eq_true rfl⟩ (K228F (zi2l rfl) ll0 ll1 (by omega) ?_) (fun _ _ q => q)
      show zGo X l 7 0 0 301 27 [(0, .ref 336), (1, .int a), (2, .int b)] [.int (0 : Int32)] w1M _
      refine zs_if_neF (pc := 27) t301_27 li0 (by decide) ?_
      refine zs_ldc_w (pc := 30) t301_30 (v := -100000) rfl (by decide) ?_
      exact zs_iret (pc := 33) t301_33 mr301 (by decide) (hQ _ _ w1s w1I ((zFr.refl).trans (w1F.mono rfl)) (zPR.fr pR (w1F.eq rfl)) (zPC.fr pC (w1F.eq rfl)) w1PF)
  · refine zs_invS (pc := 14) (as := [.long a.toInt64, .long (0 : Int64), .long w3v.toInt64]) (st := []) t301_14 (by decide) mf228 rfl rfl ⟨by decide, by decide, Nat.le_of_ble_eq_true rfl, Nat.le_of_ble_eq_true rfl⟩ (K228F (zi2l rfl) ll0 (zi2l w3) (by omega) ?_) (fun _ _ q => q)
    show zGo X l 7 0 0 301 17 [(0, .ref 336), (1, .int a), (2, .int b)] [.int (0 : Int32)] w1M _
    refine zs_if_eqT (pc := 17) t301_17 li0 (by decide) ?_
    refine zs_ldc_w (pc := 30) t301_30 (v := -100000) rfl (by decide) ?_
    exact zs_iret (pc := 33) t301_33 mr301 (by decide) (hQ _ _ w1s w1I ((zFr.refl).trans (w1F.mono rfl)) (zPR.fr pR (w1F.eq rfl)) (zPC.fr pC (w1F.eq rfl)) w1PF)
theorem T266 {X : zX} {l : Launch} {M : zM} {Q : Option Value → zM → Prop} (hs : zSk zMm M) (hI : zIv mLo mHi M) (pR : zPR M) (pC : zPC M) (pF : zPF M) (hQ : ∀ (M' : zM) (v : Int32), zSk zMm M' → zIv mLo mHi M' → zFr [(336, 336, some 3), (336, 336, some 18), (336, 336, some 19), (336, 336, some 20), (336, 336, some 21), (336, 336, some 22), (336, 336, some 37), (336, 336, some 39), (336, 336, some 42), (336, 336, some 43), (336, 336, some 44), (336, 336, some 45), (342, 361, none)] M M' → zPR M' → zPC M' → zPF M' → Q (some (.int v)) M') : zCall X l 8 0 0 266 [.ref 336] M Q := by
  refine zs_in (by decide) mf266 (Nat.le_of_ble_eq_true rfl) ?_
  show zGo X l 8 0 0 266 0 [(0, .ref 336)] [] M _
  refine zs_aload_n (pc := 0) t266_0 rfl ?_
  refine zs_get (pc := 1) t266_1 (by decide) (zk1 (hs.k fk_zMm_336)) (hs.p rfl fv_zMm_336_0) ?_
  refine zs_iconst (pc := 4) t266_4 (v := 3) (by decide) ?_
  have w1 := zrg (zI M 337 3)
  refine zs_iald (pc := 5) t266_5 (j := 3) (by decide) (zk1 (hs.k fk_zMm_337)) li3 (zk2 (hs.k fk_zMm_337) (by decide)) rfl ?_
  by_cases w2 : (zI M 337 3).toInt ≠ 0
  · refine zs_if_neT (pc := 6) t266_6 rfl (by omega) ?_
    refine zs_iconst (pc := 11) t266_11 (v := 0) (by decide) ?_
    refine zs_istore_n (pc := 12) t266_12 (ls' := [(1, .int (0 : Int32)), (0, .ref 336)]) (zml mf266 (by decide)) rfl ?_
    refine zs_iconst (pc := 13) t266_13 (v := 0) (by decide) ?_
    refine zs_istore_n (pc := 14) t266_14 (ls' := [(2, .int (0 : Int32)), (1, .int (0 : Int32)), (0, .ref 336)]) (zml mf266 (by decide)) rfl ?_
    have w3L : ∀ (m : Nat) (w3x1 : Int32) (w3x2 : Int32) (w3M : zM), (0 ≤ w3x1.toInt ∧ w3x1.toInt ≤ 59) → (0 ≤ w3x2.toInt ∧ w3x2.toInt ≤ 200) → zSk zMm w3M → zIv mLo mHi w3M → zFr [(344, 344, none), (349, 349, none), (350, 350, none), (343, 343, none), (345, 345, none), (346, 346, none), (347, 347, none), (348, 348, none), (336, 336, some 22), (336, 336, some 18), (336, 336, some 19), (336, 336, some 20), (336, 336, some 21), (351, 354, none), (358, 358, none), (336, 336, some 37), (356, 356, none), (355, 355, none), (343, 343, none), (344, 344, none), (336, 336, some 39), (359, 359, none), (336, 336, some 3), (342, 342, none)] M w3M → zPF w3M → (w3x1.toInt = zhp (fun i => zrow M 0 (306 + i)) (w3x2.toInt).toNat) → 200 - w3x2.toInt ≤ (m : Int) → zGo X l 8 0 0 266 15 [(0, .ref 336), (1, .int w3x1), (2, .int w3x2)] [] w3M Q := by
      intro m
      induction m using Nat.strongRecOn with
      | ind w3m w3ih =>
        intro w3x1 w3x2 w3M w3b1 w3b2 w3s w3I w3F w3PF w3t0 w3q
        refine zs_iload_n (pc := 15) t266_15 rfl ?_
        refine zs_aload_n (pc := 16) t266_16 rfl ?_
        refine zs_get (pc := 17) t266_17 (by decide) (zk1 (w3s.k fk_zMm_336)) (w3s.p rfl fv_zMm_336_0) ?_
        refine zs_iconst (pc := 20) t266_20 (v := 4) (by decide) ?_
        have w4 := ibA4 hI
        refine zs_iald (pc := 21) t266_21 (j := 4) (by decide) (zk1 (w3s.k fk_zMm_337)) li4 (zk2 (w3s.k fk_zMm_337) (by decide)) ((w3F 337 4 rfl).trans rfl) ?_
        by_cases w5 : (zI M 337 4).toInt ≤ w3x2.toInt
        · refine zs_icmp_geT (pc := 22) t266_22 rfl rfl (by omega) ?_
          refine zs_aload_n (pc := 142) t266_142 rfl ?_
          refine zs_get (pc := 143) t266_143 (by decide) (zk1 (w3s.k fk_zMm_336)) (w3s.p rfl fv_zMm_336_15) ?_
          refine zs_iconst (pc := 146) t266_146 (v := 0) (by decide) ?_
          have w6 := zrg (zI w3M 342 0)
          refine zs_iald (pc := 147) t266_147 (j := 0) (by decide) (zk1 (w3s.k fk_zMm_342)) li0 (zk2 (w3s.k fk_zMm_342) (by decide)) rfl ?_
          exact zs_iret (pc := 148) t266_148 mr266 rfl (hQ _ _ w3s w3I ((zFr.refl).trans (w3F.mono rfl)) (zPR.fr pR (w3F.eq rfl)) (zPC.fr pC (w3F.eq rfl)) w3PF)
        · refine zs_icmp_geF (pc := 22) t266_22 rfl rfl (by omega) ?_
          refine zs_aload_n (pc := 25) t266_25 rfl ?_
          refine zs_get (pc := 26) t266_26 (by decide) (zk1 (w3s.k fk_zMm_336)) (w3s.p rfl fv_zMm_336_0) ?_
          refine zs_sipush (pc := 29) t266_29 (v := 306) (by decide) ?_
          refine zs_iload_n (pc := 32) t266_32 rfl ?_
          obtain ⟨w7v, w7e, w7⟩ := ziadd (a := (306 : Int32)) (b := w3x2) li306 rfl (by omega) (by omega)
          refine zs_iadd (pc := 33) t266_33 (c := w7v) w7e ?_
          obtain ⟨w8n, w8⟩ : ∃ n : Nat, w3x2.toInt = (n : Int) := ⟨(w3x2.toInt).toNat, by omega⟩
          have w9 := zrg (zI M 337 (306 + w8n))
          have w10 : (zI w3M 337 4).toInt = (zI M 337 4).toInt := (congrArg Int32.toInt ((w3F 337 4 rfl).trans rfl)).trans rfl
          have w11 := zPC.at (n := w8n) pC (by omega)
          have w12 : zhp (fun i => zrow M 0 (306 + i)) w3x2.toInt.toNat = zhp (fun i => zrow M 0 (306 + i)) w8n := congrArg _ (by omega)
          refine zs_iald (pc := 34) t266_34 (j := (306 + w8n)) (by decide) (zk1 (w3s.k fk_zMm_337)) (show w7v.toInt = (((306 + w8n) : Nat) : Int) by omega) (zk2 (w3s.k fk_zMm_337) (by omega)) ((w3F 337 (306 + w8n) rfl).trans rfl) ?_
          refine zs_istore_n (pc := 35) t266_35 (ls' := [(3, .int (zI M 337 (306 + w8n))), (0, .ref 336), (1, .int w3x1), (2, .int w3x2)]) (zml mf266 (by decide)) rfl ?_
          refine zs_iload_n (pc := 36) t266_36 rfl ?_
          refine zs_sipush (pc := 37) t266_37 (v := 20000) (by decide) ?_
          by_cases w13 : 20000 ≤ (zI M 337 (306 + w8n)).toInt
          · refine zs_icmp_geT (pc := 40) t266_40 rfl li20000 (by omega) ?_
            refine zs_iload_n (pc := 75) t266_75 rfl ?_
            refine zs_sipush (pc := 76) t266_76 (v := 20033) (by decide) ?_
            by_cases w14 : (zI M 337 (306 + w8n)).toInt ≠ 20033
            · refine zs_icmp_neT (pc := 79) t266_79 rfl li20033 (by omega) ?_
              obtain ⟨w15v, w15e, w15⟩ := ziadd (a := w3x1) (b := Int32.ofInt (-1)) rfl (show (Int32.ofInt (-1)).toInt = (-1) by decide) (by omega) (by omega)
              refine zs_iinc (pc := 103) t266_103 (ls' := [(1, .int w15v), (3, .int (zI M 337 (306 + w8n))), (0, .ref 336), (2, .int w3x2)]) (zml mf266 (by decide)) rfl (c := w15v) w15e rfl ?_
              refine zs_aload_n (pc := 106) t266_106 rfl ?_
              refine zs_get (pc := 107) t266_107 (by decide) (zk1 (w3s.k fk_zMm_336)) (w3s.p rfl fv_zMm_336_15) ?_
              refine zs_iload_n (pc := 110) t266_110 rfl ?_
              refine zs_iconst (pc := 111) t266_111 (v := 1) (by decide) ?_
              obtain ⟨w16v, w16e, w16⟩ := zisub (a := w15v) (b := (1 : Int32)) w15 li1 (by omega) (by omega)
              refine zs_isub (pc := 112) t266_112 (c := w16v) w16e ?_
              refine zs_iload_n (pc := 113) t266_113 rfl ?_
              refine zs_sipush (pc := 114) t266_114 (v := 20000) (by decide) ?_
              obtain ⟨w17v, w17e, w17⟩ := zisub (a := (zI M 337 (306 + w8n))) (b := (20000 : Int32)) rfl li20000 (by omega) (by omega)
              refine zs_isub (pc := 117) t266_117 (c := w17v) w17e ?_
              refine zs_aload_n (pc := 118) t266_118 rfl ?_
              refine zs_get (pc := 119) t266_119 (by decide) (zk1 (w3s.k fk_zMm_336)) (w3s.p rfl fv_zMm_336_15) ?_
              refine zs_iload_n (pc := 122) t266_122 rfl ?_
              refine zs_iconst (pc := 123) t266_123 (v := 1) (by decide) ?_
              obtain ⟨w18v, w18e, w18⟩ := zisub (a := w15v) (b := (1 : Int32)) w15 li1 (by omega) (by omega)
              refine zs_isub (pc := 124) t266_124 (c := w18v) w18e ?_
              obtain ⟨w19n, w19⟩ : ∃ n : Nat, w18v.toInt = (n : Int) := ⟨w18v.toInt.toNat, by omega⟩
              have w20 := zrg (zI w3M 342 w19n)
              refine zs_iald (pc := 125) t266_125 (j := w19n) (by decide) (zk1 (w3s.k fk_zMm_342)) w19 (zk2 (w3s.k fk_zMm_342) (by omega)) rfl ?_
              refine zs_aload_n (pc := 126) t266_126 rfl ?_
              refine zs_get (pc := 127) t266_127 (by decide) (zk1 (w3s.k fk_zMm_336)) (w3s.p rfl fv_zMm_336_15) ?_
              refine zs_iload_n (pc := 130) t266_130 rfl ?_
              obtain ⟨w21n, w21⟩ : ∃ n : Nat, w15v.toInt = (n : Int) := ⟨w15v.toInt.toNat, by omega⟩
              have w22 := zrg (zI w3M 342 w21n)
              refine zs_iald (pc := 131) t266_131 (j := w21n) (by decide) (zk1 (w3s.k fk_zMm_342)) w21 (zk2 (w3s.k fk_zMm_342) (by omega)) rfl ?_
              refine zs_invS (pc := 132) (as := [.int w17v, .int (zI w3M 342 w19n), .int (zI w3M 342 w21n)]) (st := [.int w16v, .ref 342]) t266_132 (by decide) mf294 rfl rfl ⟨by decide, by decide, Nat.le_of_ble_eq_true rfl, Nat.le_of_ble_eq_true rfl⟩ (K294 w3s w3I ?_) (fun _ _ q => q)
              intro w23v
              have w23g := zrg w23v
              show zGo X l 8 0 0 266 135 [(1, .int w15v), (3, .int (zI M 337 (306 + w8n))), (0, .ref 336), (2, .int w3x2)] [.int w23v, .int w16v, .ref 342] w3M _
              obtain ⟨w24n, w24⟩ : ∃ n : Nat, w16v.toInt = (n : Int) := ⟨w16v.toInt.toNat, by omega⟩
              have w25 : zIv mLo mHi (zsI w3M 342 w24n w23v) := zIv.put w3I (show (-2147483648) ≤ w23v.toInt ∧ w23v.toInt ≤ 2147483647 from zrg w23v)
              refine zs_iast (pc := 135) t266_135 (j := w24n) (by decide) (zk1 (w3s.k fk_zMm_342)) w24 (zk2 (w3s.k fk_zMm_342) (by omega)) ?_
              obtain ⟨w26v, w26e, w26⟩ := ziadd (a := w3x2) (b := Int32.ofInt 1) rfl (show (Int32.ofInt 1).toInt = 1 by decide) (by omega) (by omega)
              refine zs_iinc (pc := 136) t266_136 (ls' := [(2, .int w26v), (1, .int w15v), (3, .int (zI M 337 (306 + w8n))), (0, .ref 336)]) (zml mf266 (by decide)) rfl (c := w26v) w26e rfl ?_
              refine zs_goto (pc := 139) t266_139 ?_
              refine zGo.locals (ls' := [(0, .ref 336), (1, .int w15v), (2, .int w26v)]) (by simp) ?_
              have w27 := w15
              have w28 := w26
              exact w3ih (w3m - 1) (by omega) w15v w26v (zsI w3M 342 w24n w23v) ⟨by omega, by omega⟩ ⟨by omega, by omega⟩ w3s w25 (((zFr.refl).trans (w3F.mono rfl)).put rfl) (zPF.fr (M' := (zsI w3M 342 w24n w23v)) w3PF (zEq.put rfl) rfl) (by rw [show w26v.toInt.toNat = w8n + 1 by omega]; omega) (by omega)
            · refine zs_icmp_neF (pc := 79) t266_79 rfl li20033 (by omega) ?_
              refine zs_aload_n (pc := 82) t266_82 rfl ?_
              refine zs_get (pc := 83) t266_83 (by decide) (zk1 (w3s.k fk_zMm_336)) (w3s.p rfl fv_zMm_336_15) ?_
              refine zs_iload_n (pc := 86) t266_86 rfl ?_
              refine zs_iconst (pc := 87) t266_87 (v := 1) (by decide) ?_
              obtain ⟨w29v, w29e, w29⟩ := zisub (a := w3x1) (b := (1 : Int32)) rfl li1 (by omega) (by omega)
              refine zs_isub (pc := 88) t266_88 (c := w29v) w29e ?_
              refine zs_iconst (pc := 89) t266_89 (v := 1) (by decide) ?_
              refine zs_aload_n (pc := 90) t266_90 rfl ?_
              refine zs_get (pc := 91) t266_91 (by decide) (zk1 (w3s.k fk_zMm_336)) (w3s.p rfl fv_zMm_336_15) ?_
              refine zs_iload_n (pc := 94) t266_94 rfl ?_
              refine zs_iconst (pc := 95) t266_95 (v := 1) (by decide) ?_
              obtain ⟨w30v, w30e, w30⟩ := zisub (a := w3x1) (b := (1 : Int32)) rfl li1 (by omega) (by omega)
              refine zs_isub (pc := 96) t266_96 (c := w30v) w30e ?_
              obtain ⟨w31n, w31⟩ : ∃ n : Nat, w30v.toInt = (n : Int) := ⟨w30v.toInt.toNat, by omega⟩
              have w32 := zrg (zI w3M 342 w31n)
              refine zs_iald (pc := 97) t266_97 (j := w31n) (by decide) (zk1 (w3s.k fk_zMm_342)) w31 (zk2 (w3s.k fk_zMm_342) (by omega)) rfl ?_
              obtain ⟨w33v, w33⟩ : ∃ v, v = (1 : Int32) - (zI w3M 342 w31n) := ⟨_, rfl⟩
              have w33g := zrg w33v
              refine zs_isub (pc := 98) t266_98 (c := w33v) w33.symm ?_
              obtain ⟨w34n, w34⟩ : ∃ n : Nat, w29v.toInt = (n : Int) := ⟨w29v.toInt.toNat, by omega⟩
              have w35 : zIv mLo mHi (zsI w3M 342 w34n w33v) := zIv.put w3I (show (-2147483648) ≤ w33v.toInt ∧ w33v.toInt ≤ 2147483647 from zrg w33v)
              refine zs_iast (pc := 99) t266_99 (j := w34n) (by decide) (zk1 (w3s.k fk_zMm_342)) w34 (zk2 (w3s.k fk_zMm_342) (by omega)) ?_
              refine zs_goto (pc := 100) t266_100 ?_
              obtain ⟨w36v, w36e, w36⟩ := ziadd (a := w3x2) (b := Int32.ofInt 1) rfl (show (Int32.ofInt 1).toInt = 1 by decide) (by omega) (by omega)
              refine zs_iinc (pc := 136) t266_136 (ls' := [(2, .int w36v), (3, .int (zI M 337 (306 + w8n))), (0, .ref 336), (1, .int w3x1)]) (zml mf266 (by decide)) rfl (c := w36v) w36e rfl ?_
              refine zs_goto (pc := 139) t266_139 ?_
              refine zGo.locals (ls' := [(0, .ref 336), (1, .int w3x1), (2, .int w36v)]) (by simp) ?_
              have w37 := w36
              exact w3ih (w3m - 1) (by omega) w3x1 w36v (zsI w3M 342 w34n w33v) ⟨by omega, by omega⟩ ⟨by omega, by omega⟩ w3s w35 (((zFr.refl).trans (w3F.mono rfl)).put rfl) (zPF.fr (M' := (zsI w3M 342 w34n w33v)) w3PF (zEq.put rfl) rfl) (by rw [show w36v.toInt.toNat = w8n + 1 by omega]; omega) (by omega)
          · refine zs_icmp_geF (pc := 40) t266_40 rfl li20000 (by omega) ?_
            refine zs_aload_n (pc := 43) t266_43 rfl ?_
            refine zs_get (pc := 44) t266_44 (by decide) (zk1 (w3s.k fk_zMm_336)) (w3s.p rfl fv_zMm_336_15) ?_
            refine zs_iload_n (pc := 47) t266_47 rfl ?_
            refine zs_iload_n (pc := 48) t266_48 rfl ?_
            refine zs_sipush (pc := 49) t266_49 (v := 10000) (by decide) ?_
            by_cases w38 : 10000 ≤ (zI M 337 (306 + w8n)).toInt
            · refine zs_icmp_geT (pc := 52) t266_52 rfl li10000 (by omega) ?_
              refine zs_aload_n (pc := 59) t266_59 rfl ?_
              refine zs_iload_n (pc := 60) t266_60 rfl ?_
              refine zs_sipush (pc := 61) t266_61 (v := 10000) (by decide) ?_
              obtain ⟨w39v, w39e, w39⟩ := zisub (a := (zI M 337 (306 + w8n))) (b := (10000 : Int32)) rfl li10000 (by omega) (by omega)
              refine zs_isub (pc := 64) t266_64 (c := w39v) w39e ?_
              refine zs_invV (pc := 65) (k := 336) (as' := [.int w39v]) (st := [.int w3x1, .ref 342]) t266_65 mf267 rfl rfl (Or.inl ⟨by decide, (zk1 (w3s.k fk_zMm_336))⟩) ⟨by decide, by decide, Nat.le_of_ble_eq_true rfl, Nat.le_of_ble_eq_true rfl⟩ (K267 w3s w3I (zPR.fr pR (w3F.eq rfl)) w3PF ?_) (fun _ _ q => q)
              intro w40M w40v w40s w40I w40F w40PF w40PD w40PV
              have w40g := zrg w40v
              show zGo X l 8 0 0 266 68 [(3, .int (zI M 337 (306 + w8n))), (0, .ref 336), (1, .int w3x1), (2, .int w3x2)] [.int w40v, .int w3x1, .ref 342] w40M _
              obtain ⟨w41n, w41⟩ : ∃ n : Nat, w3x1.toInt = (n : Int) := ⟨(w3x1.toInt).toNat, by omega⟩
              have w42 : zIv mLo mHi (zsI w40M 342 w41n w40v) := zIv.put w40I (show (-2147483648) ≤ w40v.toInt ∧ w40v.toInt ≤ 2147483647 from zrg w40v)
              refine zs_iast (pc := 68) t266_68 (j := w41n) (by decide) (zk1 (w40s.k fk_zMm_342)) (show w3x1.toInt = ((w41n : Nat) : Int) by omega) (zk2 (w40s.k fk_zMm_342) (by omega)) ?_
              obtain ⟨w43v, w43e, w43⟩ := ziadd (a := w3x1) (b := Int32.ofInt 1) rfl (show (Int32.ofInt 1).toInt = 1 by decide) (by omega) (by omega)
              refine zs_iinc (pc := 69) t266_69 (ls' := [(1, .int w43v), (3, .int (zI M 337 (306 + w8n))), (0, .ref 336), (2, .int w3x2)]) (zml mf266 (by decide)) rfl (c := w43v) w43e rfl ?_
              refine zs_goto (pc := 72) t266_72 ?_
              obtain ⟨w44v, w44e, w44⟩ := ziadd (a := w3x2) (b := Int32.ofInt 1) rfl (show (Int32.ofInt 1).toInt = 1 by decide) (by omega) (by omega)
              refine zs_iinc (pc := 136) t266_136 (ls' := [(2, .int w44v), (1, .int w43v), (3, .int (zI M 337 (306 + w8n))), (0, .ref 336)]) (zml mf266 (by decide)) rfl (c := w44v) w44e rfl ?_
              refine zs_goto (pc := 139) t266_139 ?_
              refine zGo.locals (ls' := [(0, .ref 336), (1, .int w43v), (2, .int w44v)]) (by simp) ?_
              have w45 := w43
              have w46 := w44
              exact w3ih (w3m - 1) (by omega) w43v w44v (zsI w40M 342 w41n w40v) ⟨by omega, by omega⟩ ⟨by omega, by omega⟩ w40s w42 ((((zFr.refl).trans (w3F.mono rfl)).trans (w40F.mono rfl)).put rfl) (zPF.fr (M' := (zsI w40M 342 w41n w40v)) w40PF (zEq.put rfl) rfl) (by rw [show w44v.toInt.toNat = w8n + 1 by omega]; omega) (by omega)
            · refine zs_icmp_geF (pc := 52) t266_52 rfl li10000 (by omega) ?_
              refine zs_iload_n (pc := 55) t266_55 rfl ?_
              refine zs_goto (pc := 56) t266_56 ?_
              obtain ⟨w47n, w47⟩ : ∃ n : Nat, w3x1.toInt = (n : Int) := ⟨(w3x1.toInt).toNat, by omega⟩
              have w48 : zIv mLo mHi (zsI w3M 342 w47n (zI M 337 (306 + w8n))) := zIv.put w3I (show (-2147483648) ≤ (zI M 337 (306 + w8n)).toInt ∧ (zI M 337 (306 + w8n)).toInt ≤ 2147483647 from zrg (zI M 337 (306 + w8n)))
              refine zs_iast (pc := 68) t266_68 (j := w47n) (by decide) (zk1 (w3s.k fk_zMm_342)) (show w3x1.toInt = ((w47n : Nat) : Int) by omega) (zk2 (w3s.k fk_zMm_342) (by omega)) ?_
              obtain ⟨w49v, w49e, w49⟩ := ziadd (a := w3x1) (b := Int32.ofInt 1) rfl (show (Int32.ofInt 1).toInt = 1 by decide) (by omega) (by omega)
              refine zs_iinc (pc := 69) t266_69 (ls' := [(1, .int w49v), (3, .int (zI M 337 (306 + w8n))), (0, .ref 336), (2, .int w3x2)]) (zml mf266 (by decide)) rfl (c := w49v) w49e rfl ?_
              refine zs_goto (pc := 72) t266_72 ?_
              obtain ⟨w50v, w50e, w50⟩ := ziadd (a := w3x2) (b := Int32.ofInt 1) rfl (show (Int32.ofInt 1).toInt = 1 by decide) (by omega) (by omega)
              refine zs_iinc (pc := 136) t266_136 (ls' := [(2, .int w50v), (1, .int w49v), (3, .int (zI M 337 (306 + w8n))), (0, .ref 336)]) (zml mf266 (by decide)) rfl (c := w50v) w50e rfl ?_
              refine zs_goto (pc := 139) t266_139 ?_
              refine zGo.locals (ls' := [(0, .ref 336), (1, .int w49v), (2, .int w50v)]) (by simp) ?_
              have w51 := w49
              have w52 := w50
              exact w3ih (w3m - 1) (by omega) w49v w50v (zsI w3M 342 w47n (zI M 337 (306 + w8n))) ⟨by omega, by omega⟩ ⟨by omega, by omega⟩ w3s w48 (((zFr.refl).trans (w3F.mono rfl)).put rfl) (zPF.fr (M' := (zsI w3M 342 w47n (zI M 337 (306 + w8n)))) w3PF (zEq.put rfl) rfl) (by rw [show w50v.toInt.toNat = w8n + 1 by omega]; omega) (by omega)
    refine zGo.locals (ls' := [(0, .ref 336), (1, .int (0 : Int32)), (2, .int (0 : Int32))]) (by simp) ?_
    have w53 := li0
    have w54 := li0
    exact w3L ((200 - 0 : Int).toNat) (0 : Int32) (0 : Int32) M ⟨by decide, by decide⟩ ⟨by decide, by decide⟩ hs hI zFr.refl pF rfl (by omega)
  · refine zs_if_neF (pc := 6) t266_6 rfl (by omega) ?_
    refine zs_iconst (pc := 9) t266_9 (v := 0) (by decide) ?_
    exact zs_iret (pc := 10) t266_10 mr266 (by decide) (hQ _ _ hs hI (zFr.refl) pR pC pF)
theorem T295 {X : zX} {l : Launch} {M : zM} {Q : Option Value → zM → Prop} {a : Int32} (hs : zSk zMm M) (hI : zIv mLo mHi M) (pR : zPR M) (pC : zPC M) (pF : zPF M) (hQ : ∀ (M' : zM) (v : Int32), zSk zMm M' → zIv mLo mHi M' → zFr [(336, 336, some 3), (336, 336, some 18), (336, 336, some 19), (336, 336, some 20), (336, 336, some 21), (336, 336, some 22), (336, 336, some 37), (336, 336, some 39), (336, 336, some 42), (336, 336, some 43), (336, 336, some 44), (336, 336, some 45), (342, 361, none)] M M' → zPR M' → zPC M' → zPF M' → Q (some (.int v)) M') : zCall X l 8 0 0 295 [.ref 336, .int a] M Q := by
  have ga := zrg a
  refine zs_in (by decide) mf295 (Nat.le_of_ble_eq_true rfl) ?_
  show zGo X l 8 0 0 295 0 [(0, .ref 336), (1, .int a)] [] M _
  refine zs_iload_n (pc := 0) t295_0 rfl ?_
  refine zs_invS (pc := 1) (as := [.int a]) (st := []) t295_1 (by decide) mf260 rfl rfl ⟨by decide, by decide, Nat.le_of_ble_eq_true rfl, Nat.le_of_ble_eq_true rfl⟩ (K260 hs hI ?_) (fun _ _ q => q)
  intro w1v  w1a w1b
  show zGo X l 8 0 0 295 4 [(0, .ref 336), (1, .int a)] [.int w1v] M _
  refine zs_iconst (pc := 4) t295_4 (v := -1) (by decide) ?_
  by_cases w2 : w1v.toInt ≠ (-1)
  · refine zs_icmp_neT (pc := 5) t295_5 rfl lin1 (by omega) ?_
    refine zs_aload_n (pc := 12) t295_12 rfl ?_
    refine zs_iload_n (pc := 13) t295_13 rfl ?_
    refine zs_invS (pc := 14) (as := [.int a]) (st := [.ref 336]) t295_14 (by decide) mf260 rfl rfl ⟨by decide, by decide, Nat.le_of_ble_eq_true rfl, Nat.le_of_ble_eq_true rfl⟩ (K260 hs hI ?_) (fun _ _ q => q)
    intro w3v  w3a w3b
    show zGo X l 8 0 0 295 17 [(0, .ref 336), (1, .int a)] [.int w3v, .ref 336] M _
    refine zs_invV (pc := 17) (k := 336) (as' := [.int w3v]) (st := []) t295_17 mf267 rfl rfl (Or.inl ⟨by decide, (zk1 (hs.k fk_zMm_336))⟩) ⟨by decide, by decide, Nat.le_of_ble_eq_true rfl, Nat.le_of_ble_eq_true rfl⟩ (K267 hs hI pR pF ?_) (fun _ _ q => q)
    intro w4M w4v w4s w4I w4F w4PF w4PD w4PV
    have w4g := zrg w4v
    show zGo X l 8 0 0 295 20 [(0, .ref 336), (1, .int a)] [.int w4v] w4M _
    exact zs_iret (pc := 20) t295_20 mr295 rfl (hQ _ _ w4s w4I ((zFr.refl).trans (w4F.mono rfl)) (zPR.fr pR (w4F.eq rfl)) (zPC.fr pC (w4F.eq rfl)) w4PF)
  · refine zs_icmp_neF (pc := 5) t295_5 rfl lin1 (by omega) ?_
    refine zs_iconst (pc := 8) t295_8 (v := -1) (by decide) ?_
    refine zs_goto (pc := 9) t295_9 ?_
    exact zs_iret (pc := 20) t295_20 mr295 (by decide) (hQ _ _ hs hI (zFr.refl) pR pC pF)
theorem T323 {X : zX} {l : Launch} {M : zM} {Q : Option Value → zM → Prop} {a b c d e : Int32} (hs : zSk zMm M) (hI : zIv mLo mHi M) (pR : zPR M) (pC : zPC M) (pF : zPF M) (hQ : ∀ (M' : zM) (v : Int32), zSk zMm M' → zIv mLo mHi M' → zFr [(336, 336, some 3), (336, 336, some 18), (336, 336, some 19), (336, 336, some 20), (336, 336, some 21), (336, 336, some 22), (336, 336, some 37), (336, 336, some 39), (336, 336, some 42), (336, 336, some 43), (336, 336, some 44), (336, 336, some 45), (342, 361, none)] M M' → zPR M' → zPC M' → zPF M' → Q (some (.int v)) M') : zCall X l 9 0 0 323 [.ref 336, .int a, .int b, .int c, .int d, .int e] M Q := by
  have ga := zrg a
  have gb := zrg b
  have gc := zrg c
  have gd := zrg d
  have ge := zrg e
  refine zs_in (by decide) mf323 (Nat.le_of_ble_eq_true rfl) ?_
  show zGo X l 9 0 0 323 0 [(0, .ref 336), (1, .int a), (2, .int b), (3, .int c), (4, .int d), (5, .int e)] [] M _
  refine zs_iload_n (pc := 0) t323_0 rfl ?_
  refine zs_iload_n (pc := 1) t323_1 rfl ?_
  refine zs_iload_n (pc := 2) t323_2 rfl ?_
  refine zs_iload (pc := 3) t323_3 rfl ?_
  refine zs_invS (pc := 5) (as := [.int a, .int b, .int c, .int d]) (st := []) t323_5 (by decide) mf324 rfl rfl ⟨by decide, by decide, Nat.le_of_ble_eq_true rfl, Nat.le_of_ble_eq_true rfl⟩ (zs_in (by decide) mf324 (Nat.le_of_ble_eq_true rfl) ?_) (fun _ _ q => q)
  show zGo X l 1 0 0 324 0 [(0, .int a), (1, .int b), (2, .int c), (3, .int d)] [] M _
  refine zs_iload_n (pc := 0) t324_0 rfl ?_
  refine zs_i2l (pc := 1) t324_1 rfl ?_
  refine zs_lconst (pc := 2) t324_2 (v := 1) (by decide) ?_
  refine zs_ldc2_w (pc := 3) t324_3 (v := 200) (by decide) ?_
  by_cases w1 : 1 ≤ a.toInt ∧ a.toInt ≤ 200
  · refine zs_invS (pc := 6) (as := [.long a.toInt64, .long (1 : Int64), .long (200 : Int64)]) (st := []) t324_6 (by decide) mf228 rfl rfl ⟨by decide, by decide, Nat.le_of_ble_eq_true rfl, Nat.le_of_ble_eq_true rfl⟩ (K228T (zi2l rfl) ll1 ll200 (by omega) ?_) (fun _ _ q => q)
    show zGo X l 1 0 0 324 9 [(0, .int a), (1, .int b), (2, .int c), (3, .int d)] [.int (1 : Int32)] M _
    refine zs_if_eqF (pc := 9) t324_9 li1 (by decide) ?_
    refine zs_iload_n (pc := 12) t324_12 rfl ?_
    refine zs_i2l (pc := 13) t324_13 rfl ?_
    refine zs_lconst (pc := 14) t324_14 (v := 1) (by decide) ?_
    refine zs_ldc2_w (pc := 15) t324_15 (v := 999) (by decide) ?_
    by_cases w2 : 1 ≤ b.toInt ∧ b.toInt ≤ 999
    · refine zs_invS (pc := 18) (as := [.long b.toInt64, .long (1 : Int64), .long (999 : Int64)]) (st := []) t324_18 (by decide) mf228 rfl rfl ⟨by decide, by decide, Nat.le_of_ble_eq_true rfl, Nat.le_of_ble_eq_true rfl⟩ (K228T (zi2l rfl) ll1 ll999 (by omega) ?_) (fun _ _ q => q)
      show zGo X l 1 0 0 324 21 [(0, .int a), (1, .int b), (2, .int c), (3, .int d)] [.int (1 : Int32)] M _
      refine zs_if_eqF (pc := 21) t324_21 li1 (by decide) ?_
      refine zs_iload_n (pc := 24) t324_24 rfl ?_
      refine zs_i2l (pc := 25) t324_25 rfl ?_
      refine zs_lconst (pc := 26) t324_26 (v := 1) (by decide) ?_
      refine zs_ldc2_w (pc := 27) t324_27 (v := 8) (by decide) ?_
      by_cases w3 : 1 ≤ c.toInt ∧ c.toInt ≤ 8
      · refine zs_invS (pc := 30) (as := [.long c.toInt64, .long (1 : Int64), .long (8 : Int64)]) (st := []) t324_30 (by decide) mf228 rfl rfl ⟨by decide, by decide, Nat.le_of_ble_eq_true rfl, Nat.le_of_ble_eq_true rfl⟩ (K228T (zi2l rfl) ll1 ll8 (by omega) ?_) (fun _ _ q => q)
        show zGo X l 1 0 0 324 33 [(0, .int a), (1, .int b), (2, .int c), (3, .int d)] [.int (1 : Int32)] M _
        refine zs_if_eqF (pc := 33) t324_33 li1 (by decide) ?_
        refine zs_iload_n (pc := 36) t324_36 rfl ?_
        refine zs_i2l (pc := 37) t324_37 rfl ?_
        refine zs_lconst (pc := 38) t324_38 (v := 0) (by decide) ?_
        refine zs_ldc2_w (pc := 39) t324_39 (v := 50) (by decide) ?_
        by_cases w4 : 0 ≤ d.toInt ∧ d.toInt ≤ 50
        · refine zs_invS (pc := 42) (as := [.long d.toInt64, .long (0 : Int64), .long (50 : Int64)]) (st := []) t324_42 (by decide) mf228 rfl rfl ⟨by decide, by decide, Nat.le_of_ble_eq_true rfl, Nat.le_of_ble_eq_true rfl⟩ (K228T (zi2l rfl) ll0 ll50 (by omega) ?_) (fun _ _ q => q)
          show zGo X l 1 0 0 324 45 [(0, .int a), (1, .int b), (2, .int c), (3, .int d)] [.int (1 : Int32)] M _
          refine zs_if_eqF (pc := 45) t324_45 li1 (by decide) ?_
          refine zs_iconst (pc := 48) t324_48 (v := 1) (by decide) ?_
          refine zs_goto (pc := 49) t324_49 ?_
          refine zs_iret (pc := 53) t324_53 mr324 (by decide) ?_
          show zGo X l 9 0 0 323 8 [(0, .ref 336), (1, .int a), (2, .int b), (3, .int c), (4, .int d), (5, .int e)] [.int (1 : Int32)] M _
          refine zs_if_eqF (pc := 8) t323_8 li1 (by decide) ?_
          refine zs_iload (pc := 11) t323_11 rfl ?_
          refine zs_i2l (pc := 13) t323_13 rfl ?_
          refine zs_lconst (pc := 14) t323_14 (v := 0) (by decide) ?_
          refine zs_ldc2_w (pc := 15) t323_15 (v := 3) (by decide) ?_
          by_cases w5 : 0 ≤ e.toInt ∧ e.toInt ≤ 3
          · refine zs_invS (pc := 18) (as := [.long e.toInt64, .long (0 : Int64), .long (3 : Int64)]) (st := []) t323_18 (by decide) mf228 rfl rfl ⟨by decide, by decide, Nat.le_of_ble_eq_true rfl, Nat.le_of_ble_eq_true rfl⟩ (K228T (zi2l rfl) ll0 ll3 (by omega) ?_) (fun _ _ q => q)
            show zGo X l 9 0 0 323 21 [(0, .ref 336), (1, .int a), (2, .int b), (3, .int c), (4, .int d), (5, .int e)] [.int (1 : Int32)] M _
            refine zs_if_neT (pc := 21) t323_21 li1 (by decide) ?_
            refine zs_aload_n (pc := 26) t323_26 rfl ?_
            refine zs_iload_n (pc := 27) t323_27 rfl ?_
            refine zs_iload_n (pc := 28) t323_28 rfl ?_
            refine zs_iload_n (pc := 29) t323_29 rfl ?_
            refine zs_iload (pc := 30) t323_30 rfl ?_
            refine zs_invV (pc := 32) (k := 336) (as' := [.int a, .int b, .int c, .int d]) (st := []) t323_32 mf325 rfl rfl (Or.inl ⟨by decide, (zk1 (hs.k fk_zMm_336))⟩) ⟨by decide, by decide, Nat.le_of_ble_eq_true rfl, Nat.le_of_ble_eq_true rfl⟩ (K325 hs hI pR pF ⟨by omega, by omega⟩ ⟨by omega, by omega⟩ ⟨by omega, by omega⟩ ⟨by omega, by omega⟩ ?_) (fun _ _ q => q)
            intro w6M w6s w6I w6F w6PF
            show zGo X l 9 0 0 323 35 [(0, .ref 336), (1, .int a), (2, .int b), (3, .int c), (4, .int d), (5, .int e)] [] w6M _
            refine zs_iload (pc := 35) t323_35 rfl ?_
            by_cases w7 : e.toInt ≠ 0
            · refine zs_if_neT (pc := 37) t323_37 rfl (by omega) ?_
              refine zs_iload (pc := 47) t323_47 rfl ?_
              refine zs_iconst (pc := 49) t323_49 (v := 1) (by decide) ?_
              by_cases w8 : e.toInt ≠ 1
              · refine zs_icmp_neT (pc := 50) t323_50 rfl li1 (by omega) ?_
                refine zs_iload (pc := 60) t323_60 rfl ?_
                refine zs_iconst (pc := 62) t323_62 (v := 2) (by decide) ?_
                by_cases w9 : e.toInt ≠ 2
                · refine zs_icmp_neT (pc := 63) t323_63 rfl li2 (by omega) ?_
                  refine zs_aload_n (pc := 73) t323_73 rfl ?_
                  have w10 := zrg (zI w6M 336 45)
                  refine zs_get (pc := 74) t323_74 (by decide) (zk1 (w6s.k fk_zMm_336)) (zfvi rfl rfl) ?_
                  exact zs_iret (pc := 77) t323_77 mr323 rfl (hQ _ _ w6s w6I ((zFr.refl).trans (w6F.mono rfl)) (zPR.fr pR (w6F.eq rfl)) (zPC.fr pC (w6F.eq rfl)) w6PF)
                · refine zs_icmp_neF (pc := 63) t323_63 rfl li2 (by omega) ?_
                  refine zs_aload_n (pc := 66) t323_66 rfl ?_
                  have w11 := zrg (zI w6M 336 44)
                  refine zs_get (pc := 67) t323_67 (by decide) (zk1 (w6s.k fk_zMm_336)) (zfvi rfl rfl) ?_
                  refine zs_goto (pc := 70) t323_70 ?_
                  exact zs_iret (pc := 77) t323_77 mr323 rfl (hQ _ _ w6s w6I ((zFr.refl).trans (w6F.mono rfl)) (zPR.fr pR (w6F.eq rfl)) (zPC.fr pC (w6F.eq rfl)) w6PF)
              · refine zs_icmp_neF (pc := 50) t323_50 rfl li1 (by omega) ?_
                refine zs_aload_n (pc := 53) t323_53 rfl ?_
                have w12 := zrg (zI w6M 336 43)
                refine zs_get (pc := 54) t323_54 (by decide) (zk1 (w6s.k fk_zMm_336)) (zfvi rfl rfl) ?_
                refine zs_goto (pc := 57) t323_57 ?_
                exact zs_iret (pc := 77) t323_77 mr323 rfl (hQ _ _ w6s w6I ((zFr.refl).trans (w6F.mono rfl)) (zPR.fr pR (w6F.eq rfl)) (zPC.fr pC (w6F.eq rfl)) w6PF)
            · refine zs_if_neF (pc := 37) t323_37 rfl (by omega) ?_
              refine zs_aload_n (pc := 40) t323_40 rfl ?_
              have w13 := zrg (zI w6M 336 42)
              refine zs_get (pc := 41) t323_41 (by decide) (zk1 (w6s.k fk_zMm_336)) (zfvi rfl rfl) ?_
              refine zs_goto (pc := 44) t323_44 ?_
              exact zs_iret (pc := 77) t323_77 mr323 rfl (hQ _ _ w6s w6I ((zFr.refl).trans (w6F.mono rfl)) (zPR.fr pR (w6F.eq rfl)) (zPC.fr pC (w6F.eq rfl)) w6PF)
          · refine zs_invS (pc := 18) (as := [.long e.toInt64, .long (0 : Int64), .long (3 : Int64)]) (st := []) t323_18 (by decide) mf228 rfl rfl ⟨by decide, by decide, Nat.le_of_ble_eq_true rfl, Nat.le_of_ble_eq_true rfl⟩ (K228F (zi2l rfl) ll0 ll3 (by omega) ?_) (fun _ _ q => q)
            show zGo X l 9 0 0 323 21 [(0, .ref 336), (1, .int a), (2, .int b), (3, .int c), (4, .int d), (5, .int e)] [.int (0 : Int32)] M _
            refine zs_if_neF (pc := 21) t323_21 li0 (by decide) ?_
            refine zs_iconst (pc := 24) t323_24 (v := -1) (by decide) ?_
            exact zs_iret (pc := 25) t323_25 mr323 (by decide) (hQ _ _ hs hI (zFr.refl) pR pC pF)
        · refine zs_invS (pc := 42) (as := [.long d.toInt64, .long (0 : Int64), .long (50 : Int64)]) (st := []) t324_42 (by decide) mf228 rfl rfl ⟨by decide, by decide, Nat.le_of_ble_eq_true rfl, Nat.le_of_ble_eq_true rfl⟩ (K228F (zi2l rfl) ll0 ll50 (by omega) ?_) (fun _ _ q => q)
          show zGo X l 1 0 0 324 45 [(0, .int a), (1, .int b), (2, .int c), (3, .int d)] [.int (0 : Int32)] M _
          refine zs_if_eqT (pc := 45) t324_45 li0 (by decide) ?_
          refine zs_iconst (pc := 52) t324_52 (v := 0) (by decide) ?_
          refine zs_iret (pc := 53) t324_53 mr324 (by decide) ?_
          show zGo X l 9 0 0 323 8 [(0, .ref 336), (1, .int a), (2, .int b), (3, .int c), (4, .int d), (5, .int e)] [.int (0 : Int32)] M _
          refine zs_if_eqT (pc := 8) t323_8 li0 (by decide) ?_
          refine zs_iconst (pc := 24) t323_24 (v := -1) (by decide) ?_
          exact zs_iret (pc := 25) t323_25 mr323 (by decide) (hQ _ _ hs hI (zFr.refl) pR pC pF)
      · refine zs_invS (pc := 30) (as := [.long c.toInt64, .long (1 : Int64), .long (8 : Int64)]) (st := []) t324_30 (by decide) mf228 rfl rfl ⟨by decide, by decide, Nat.le_of_ble_eq_true rfl, Nat.le_of_ble_eq_true rfl⟩ (K228F (zi2l rfl) ll1 ll8 (by omega) ?_) (fun _ _ q => q)
        show zGo X l 1 0 0 324 33 [(0, .int a), (1, .int b), (2, .int c), (3, .int d)] [.int (0 : Int32)] M _
        refine zs_if_eqT (pc := 33) t324_33 li0 (by decide) ?_
        refine zs_iconst (pc := 52) t324_52 (v := 0) (by decide) ?_
        refine zs_iret (pc := 53) t324_53 mr324 (by decide) ?_
        show zGo X l 9 0 0 323 8 [(0, .ref 336), (1, .int a), (2, .int b), (3, .int c), (4, .int d), (5, .int e)] [.int (0 : Int32)] M _
        refine zs_if_eqT (pc := 8) t323_8 li0 (by decide) ?_
        refine zs_iconst (pc := 24) t323_24 (v := -1) (by decide) ?_
        exact zs_iret (pc := 25) t323_25 mr323 (by decide) (hQ _ _ hs hI (zFr.refl) pR pC pF)
    · refine zs_invS (pc := 18) (as := [.long b.toInt64, .long (1 : Int64), .long (999 : Int64)]) (st := []) t324_18 (by decide) mf228 rfl rfl ⟨by decide, by decide, Nat.le_of_ble_eq_true rfl, Nat.le_of_ble_eq_true rfl⟩ (K228F (zi2l rfl) ll1 ll999 (by omega) ?_) (fun _ _ q => q)
      show zGo X l 1 0 0 324 21 [(0, .int a), (1, .int b), (2, .int c), (3, .int d)] [.int (0 : Int32)] M _
      refine zs_if_eqT (pc := 21) t324_21 li0 (by decide) ?_
      refine zs_iconst (pc := 52) t324_52 (v := 0) (by decide) ?_
      refine zs_iret (pc := 53) t324_53 mr324 (by decide) ?_
      show zGo X l 9 0 0 323 8 [(0, .ref 336), (1, .int a), (2, .int b), (3, .int c), (4, .int d), (5, .int e)] [.int (0 : Int32)] M _
      refine zs_if_eqT (pc := 8) t323_8 li0 (by decide) ?_
      refine zs_iconst (pc := 24) t323_24 (v := -1) (by decide) ?_
      exact zs_iret (pc := 25) t323_25 mr323 (by decide) (hQ _ _ hs hI (zFr.refl) pR pC pF)
  · refine zs_invS (pc := 6) (as := [.long a.toInt64, .long (1 : Int64), .long (200 : Int64)]) (st := []) t324_6 (by decide) mf228 rfl rfl ⟨by decide, by decide, Nat.le_of_ble_eq_true rfl, Nat.le_of_ble_eq_true rfl⟩ (K228F (zi2l rfl) ll1 ll200 (by omega) ?_) (fun _ _ q => q)
    show zGo X l 1 0 0 324 9 [(0, .int a), (1, .int b), (2, .int c), (3, .int d)] [.int (0 : Int32)] M _
    refine zs_if_eqT (pc := 9) t324_9 li0 (by decide) ?_
    refine zs_iconst (pc := 52) t324_52 (v := 0) (by decide) ?_
    refine zs_iret (pc := 53) t324_53 mr324 (by decide) ?_
    show zGo X l 9 0 0 323 8 [(0, .ref 336), (1, .int a), (2, .int b), (3, .int c), (4, .int d), (5, .int e)] [.int (0 : Int32)] M _
    refine zs_if_eqT (pc := 8) t323_8 li0 (by decide) ?_
    refine zs_iconst (pc := 24) t323_24 (v := -1) (by decide) ?_
    exact zs_iret (pc := 25) t323_25 mr323 (by decide) (hQ _ _ hs hI (zFr.refl) pR pC pF)
theorem T326 {X : zX} {l : Launch} {M : zM} {Q : Option Value → zM → Prop} {a b c : Int32} (hs : zSk zMm M) (hI : zIv mLo mHi M) (pR : zPR M) (pC : zPC M) (pF : zPF M) (hQ : ∀ (M' : zM) (v : Int32), zSk zMm M' → zIv mLo mHi M' → zFr [(336, 336, some 3), (336, 336, some 18), (336, 336, some 19), (336, 336, some 20), (336, 336, some 21), (336, 336, some 22), (336, 336, some 37), (336, 336, some 39), (336, 336, some 42), (336, 336, some 43), (336, 336, some 44), (336, 336, some 45), (342, 361, none)] M M' → zPR M' → zPC M' → zPF M' → Q (some (.int v)) M') : zCall X l 9 0 0 326 [.ref 336, .int a, .int b, .int c] M Q := by
  have ga := zrg a
  have gb := zrg b
  have gc := zrg c
  refine zs_in (by decide) mf326 (Nat.le_of_ble_eq_true rfl) ?_
  show zGo X l 9 0 0 326 0 [(0, .ref 336), (1, .int a), (2, .int b), (3, .int c)] [] M _
  refine zs_iload_n (pc := 0) t326_0 rfl ?_
  refine zs_iload_n (pc := 1) t326_1 rfl ?_
  refine zs_iconst (pc := 2) t326_2 (v := 1) (by decide) ?_
  refine zs_iload_n (pc := 3) t326_3 rfl ?_
  refine zs_invS (pc := 4) (as := [.int a, .int b, .int (1 : Int32), .int c]) (st := []) t326_4 (by decide) mf324 rfl rfl ⟨by decide, by decide, Nat.le_of_ble_eq_true rfl, Nat.le_of_ble_eq_true rfl⟩ (zs_in (by decide) mf324 (Nat.le_of_ble_eq_true rfl) ?_) (fun _ _ q => q)
  show zGo X l 1 0 0 324 0 [(0, .int a), (1, .int b), (2, .int (1 : Int32)), (3, .int c)] [] M _
  refine zs_iload_n (pc := 0) t324_0 rfl ?_
  refine zs_i2l (pc := 1) t324_1 rfl ?_
  refine zs_lconst (pc := 2) t324_2 (v := 1) (by decide) ?_
  refine zs_ldc2_w (pc := 3) t324_3 (v := 200) (by decide) ?_
  by_cases w1 : 1 ≤ a.toInt ∧ a.toInt ≤ 200
  · refine zs_invS (pc := 6) (as := [.long a.toInt64, .long (1 : Int64), .long (200 : Int64)]) (st := []) t324_6 (by decide) mf228 rfl rfl ⟨by decide, by decide, Nat.le_of_ble_eq_true rfl, Nat.le_of_ble_eq_true rfl⟩ (K228T (zi2l rfl) ll1 ll200 (by omega) ?_) (fun _ _ q => q)
    show zGo X l 1 0 0 324 9 [(0, .int a), (1, .int b), (2, .int (1 : Int32)), (3, .int c)] [.int (1 : Int32)] M _
    refine zs_if_eqF (pc := 9) t324_9 li1 (by decide) ?_
    refine zs_iload_n (pc := 12) t324_12 rfl ?_
    refine zs_i2l (pc := 13) t324_13 rfl ?_
    refine zs_lconst (pc := 14) t324_14 (v := 1) (by decide) ?_
    refine zs_ldc2_w (pc := 15) t324_15 (v := 999) (by decide) ?_
    by_cases w2 : 1 ≤ b.toInt ∧ b.toInt ≤ 999
    · refine zs_invS (pc := 18) (as := [.long b.toInt64, .long (1 : Int64), .long (999 : Int64)]) (st := []) t324_18 (by decide) mf228 rfl rfl ⟨by decide, by decide, Nat.le_of_ble_eq_true rfl, Nat.le_of_ble_eq_true rfl⟩ (K228T (zi2l rfl) ll1 ll999 (by omega) ?_) (fun _ _ q => q)
      show zGo X l 1 0 0 324 21 [(0, .int a), (1, .int b), (2, .int (1 : Int32)), (3, .int c)] [.int (1 : Int32)] M _
      refine zs_if_eqF (pc := 21) t324_21 li1 (by decide) ?_
      refine zs_iload_n (pc := 24) t324_24 rfl ?_
      refine zs_i2l (pc := 25) t324_25 (c := 1) (by decide) ?_
      refine zs_lconst (pc := 26) t324_26 (v := 1) (by decide) ?_
      refine zs_ldc2_w (pc := 27) t324_27 (v := 8) (by decide) ?_
      refine zs_invS (pc := 30) (as := [.long (1 : Int64), .long (1 : Int64), .long (8 : Int64)]) (st := []) t324_30 (by decide) mf228 rfl rfl ⟨by decide, by decide, Nat.le_of_ble_eq_true rfl, Nat.le_of_ble_eq_true rfl⟩ (K228T ll1 ll1 ll8 (by omega) ?_) (fun _ _ q => q)
      show zGo X l 1 0 0 324 33 [(0, .int a), (1, .int b), (2, .int (1 : Int32)), (3, .int c)] [.int (1 : Int32)] M _
      refine zs_if_eqF (pc := 33) t324_33 li1 (by decide) ?_
      refine zs_iload_n (pc := 36) t324_36 rfl ?_
      refine zs_i2l (pc := 37) t324_37 rfl ?_
      refine zs_lconst (pc := 38) t324_38 (v := 0) (by decide) ?_
      refine zs_ldc2_w (pc := 39) t324_39 (v := 50) (by decide) ?_
      by_cases w4 : 0 ≤ c.toInt ∧ c.toInt ≤ 50
      · refine zs_invS (pc := 42) (as := [.long c.toInt64, .long (0 : Int64), .long (50 : Int64)]) (st := []) t324_42 (by decide) mf228 rfl rfl ⟨by decide, by decide, Nat.le_of_ble_eq_true rfl, Nat.le_of_ble_eq_true rfl⟩ (K228T (zi2l rfl) ll0 ll50 (by omega) ?_) (fun _ _ q => q)
        show zGo X l 1 0 0 324 45 [(0, .int a), (1, .int b), (2, .int (1 : Int32)), (3, .int c)] [.int (1 : Int32)] M _
        refine zs_if_eqF (pc := 45) t324_45 li1 (by decide) ?_
        refine zs_iconst (pc := 48) t324_48 (v := 1) (by decide) ?_
        refine zs_goto (pc := 49) t324_49 ?_
        refine zs_iret (pc := 53) t324_53 mr324 (by decide) ?_
        show zGo X l 9 0 0 326 7 [(0, .ref 336), (1, .int a), (2, .int b), (3, .int c)] [.int (1 : Int32)] M _
        refine zs_if_neT (pc := 7) t326_7 li1 (by decide) ?_
        refine zs_iconst (pc := 12) t326_12 (v := 1) (by decide) ?_
        refine zs_istore (pc := 13) t326_13 (ls' := [(4, .int (1 : Int32)), (0, .ref 336), (1, .int a), (2, .int b), (3, .int c)]) (zml mf326 (by decide)) rfl ?_
        have w5L : ∀ (m : Nat) (w5x4 : Int32) (w5M : zM), (1 ≤ w5x4.toInt ∧ w5x4.toInt ≤ 9) → zSk zMm w5M → zIv mLo mHi w5M → zFr [(344, 344, none), (349, 349, none), (350, 350, none), (343, 343, none), (345, 345, none), (346, 346, none), (347, 347, none), (348, 348, none), (336, 336, some 22), (336, 336, some 18), (336, 336, some 19), (336, 336, some 20), (336, 336, some 21), (351, 354, none), (358, 358, none), (336, 336, some 37), (356, 356, none), (355, 355, none), (343, 343, none), (344, 344, none), (336, 336, some 39), (359, 359, none), (336, 336, some 3), (360, 360, none), (361, 361, none), (336, 336, some 42), (336, 336, some 43), (336, 336, some 44), (336, 336, some 45)] M w5M → zPF w5M → 9 - w5x4.toInt ≤ (m : Int) → zGo X l 9 0 0 326 15 [(0, .ref 336), (1, .int a), (2, .int b), (3, .int c), (4, .int w5x4)] [] w5M Q := by
          intro m
          induction m using Nat.strongRecOn with
          | ind w5m w5ih =>
            intro w5x4 w5M w5b4 w5s w5I w5F w5PF w5q
            refine zs_iload (pc := 15) t326_15 rfl ?_
            refine zs_bipush (pc := 17) t326_17 (v := 8) (by decide) ?_
            by_cases w6 : 8 < w5x4.toInt
            · refine zs_icmp_gtT (pc := 19) t326_19 rfl li8 (by omega) ?_
              refine zs_bipush (pc := 52) t326_52 (v := -2) (by decide) ?_
              exact zs_iret (pc := 54) t326_54 mr326 (by decide) (hQ _ _ w5s w5I ((zFr.refl).trans (w5F.mono rfl)) (zPR.fr pR (w5F.eq rfl)) (zPC.fr pC (w5F.eq rfl)) w5PF)
            · refine zs_icmp_gtF (pc := 19) t326_19 rfl li8 (by omega) ?_
              refine zs_aload_n (pc := 22) t326_22 rfl ?_
              refine zs_iload_n (pc := 23) t326_23 rfl ?_
              refine zs_iload_n (pc := 24) t326_24 rfl ?_
              refine zs_iload (pc := 25) t326_25 rfl ?_
              refine zs_iload_n (pc := 27) t326_27 rfl ?_
              refine zs_invV (pc := 28) (k := 336) (as' := [.int a, .int b, .int w5x4, .int c]) (st := []) t326_28 mf325 rfl rfl (Or.inl ⟨by decide, (zk1 (w5s.k fk_zMm_336))⟩) ⟨by decide, by decide, Nat.le_of_ble_eq_true rfl, Nat.le_of_ble_eq_true rfl⟩ (K325 w5s w5I (zPR.fr pR (w5F.eq rfl)) w5PF ⟨by omega, by omega⟩ ⟨by omega, by omega⟩ ⟨by omega, by omega⟩ ⟨by omega, by omega⟩ ?_) (fun _ _ q => q)
              intro w7M w7s w7I w7F w7PF
              show zGo X l 9 0 0 326 31 [(0, .ref 336), (1, .int a), (2, .int b), (3, .int c), (4, .int w5x4)] [] w7M _
              refine zs_aload_n (pc := 31) t326_31 rfl ?_
              have w8 := zrg (zI w7M 336 42)
              refine zs_get (pc := 32) t326_32 (by decide) (zk1 (w7s.k fk_zMm_336)) (zfvi rfl rfl) ?_
              refine zs_aload_n (pc := 35) t326_35 rfl ?_
              have w9 := zrg (zI w7M 336 43)
              refine zs_get (pc := 36) t326_36 (by decide) (zk1 (w7s.k fk_zMm_336)) (zfvi rfl rfl) ?_
              obtain ⟨w10v, w10⟩ : ∃ v, v = (zI w7M 336 42) + (zI w7M 336 43) := ⟨_, rfl⟩
              have w10g := zrg w10v
              refine zs_iadd (pc := 39) t326_39 (c := w10v) w10.symm ?_
              by_cases w11 : w10v.toInt ≠ 0
              · refine zs_if_neT (pc := 40) t326_40 rfl (by omega) ?_
                obtain ⟨w12v, w12e, w12⟩ := ziadd (a := w5x4) (b := Int32.ofInt 1) rfl (show (Int32.ofInt 1).toInt = 1 by decide) (by omega) (by omega)
                refine zs_iinc (pc := 46) t326_46 (ls' := [(4, .int w12v), (0, .ref 336), (1, .int a), (2, .int b), (3, .int c)]) (zml mf326 (by decide)) rfl (c := w12v) w12e rfl ?_
                refine zs_goto (pc := 49) t326_49 ?_
                refine zGo.locals (ls' := [(0, .ref 336), (1, .int a), (2, .int b), (3, .int c), (4, .int w12v)]) (by simp) ?_
                have w13 := w12
                exact w5ih (w5m - 1) (by omega) w12v w7M ⟨by omega, by omega⟩ w7s w7I (((zFr.refl).trans (w5F.mono rfl)).trans (w7F.mono rfl)) w7PF (by omega)
              · refine zs_if_neF (pc := 40) t326_40 rfl (by omega) ?_
                refine zs_iload (pc := 43) t326_43 rfl ?_
                exact zs_iret (pc := 45) t326_45 mr326 rfl (hQ _ _ w7s w7I (((zFr.refl).trans (w5F.mono rfl)).trans (w7F.mono rfl)) (zPR.fr (zPR.fr pR (w5F.eq rfl)) (w7F.eq rfl)) (zPC.fr (zPC.fr pC (w5F.eq rfl)) (w7F.eq rfl)) w7PF)
        refine zGo.locals (ls' := [(0, .ref 336), (1, .int a), (2, .int b), (3, .int c), (4, .int (1 : Int32))]) (by simp) ?_
        have w14 := li1
        exact w5L ((9 - 1 : Int).toNat) (1 : Int32) M ⟨by decide, by decide⟩ hs hI zFr.refl pF (by omega)
      · refine zs_invS (pc := 42) (as := [.long c.toInt64, .long (0 : Int64), .long (50 : Int64)]) (st := []) t324_42 (by decide) mf228 rfl rfl ⟨by decide, by decide, Nat.le_of_ble_eq_true rfl, Nat.le_of_ble_eq_true rfl⟩ (K228F (zi2l rfl) ll0 ll50 (by omega) ?_) (fun _ _ q => q)
        show zGo X l 1 0 0 324 45 [(0, .int a), (1, .int b), (2, .int (1 : Int32)), (3, .int c)] [.int (0 : Int32)] M _
        refine zs_if_eqT (pc := 45) t324_45 li0 (by decide) ?_
        refine zs_iconst (pc := 52) t324_52 (v := 0) (by decide) ?_
        refine zs_iret (pc := 53) t324_53 mr324 (by decide) ?_
        show zGo X l 9 0 0 326 7 [(0, .ref 336), (1, .int a), (2, .int b), (3, .int c)] [.int (0 : Int32)] M _
        refine zs_if_neF (pc := 7) t326_7 li0 (by decide) ?_
        refine zs_iconst (pc := 10) t326_10 (v := -1) (by decide) ?_
        exact zs_iret (pc := 11) t326_11 mr326 (by decide) (hQ _ _ hs hI (zFr.refl) pR pC pF)
    · refine zs_invS (pc := 18) (as := [.long b.toInt64, .long (1 : Int64), .long (999 : Int64)]) (st := []) t324_18 (by decide) mf228 rfl rfl ⟨by decide, by decide, Nat.le_of_ble_eq_true rfl, Nat.le_of_ble_eq_true rfl⟩ (K228F (zi2l rfl) ll1 ll999 (by omega) ?_) (fun _ _ q => q)
      show zGo X l 1 0 0 324 21 [(0, .int a), (1, .int b), (2, .int (1 : Int32)), (3, .int c)] [.int (0 : Int32)] M _
      refine zs_if_eqT (pc := 21) t324_21 li0 (by decide) ?_
      refine zs_iconst (pc := 52) t324_52 (v := 0) (by decide) ?_
      refine zs_iret (pc := 53) t324_53 mr324 (by decide) ?_
      show zGo X l 9 0 0 326 7 [(0, .ref 336), (1, .int a), (2, .int b), (3, .int c)] [.int (0 : Int32)] M _
      refine zs_if_neF (pc := 7) t326_7 li0 (by decide) ?_
      refine zs_iconst (pc := 10) t326_10 (v := -1) (by decide) ?_
      exact zs_iret (pc := 11) t326_11 mr326 (by decide) (hQ _ _ hs hI (zFr.refl) pR pC pF)
  · refine zs_invS (pc := 6) (as := [.long a.toInt64, .long (1 : Int64), .long (200 : Int64)]) (st := []) t324_6 (by decide) mf228 rfl rfl ⟨by decide, by decide, Nat.le_of_ble_eq_true rfl, Nat.le_of_ble_eq_true rfl⟩ (K228F (zi2l rfl) ll1 ll200 (by omega) ?_) (fun _ _ q => q)
    show zGo X l 1 0 0 324 9 [(0, .int a), (1, .int b), (2, .int (1 : Int32)), (3, .int c)] [.int (0 : Int32)] M _
    refine zs_if_eqT (pc := 9) t324_9 li0 (by decide) ?_
    refine zs_iconst (pc := 52) t324_52 (v := 0) (by decide) ?_
    refine zs_iret (pc := 53) t324_53 mr324 (by decide) ?_
    show zGo X l 9 0 0 326 7 [(0, .ref 336), (1, .int a), (2, .int b), (3, .int c)] [.int (0 : Int32)] M _
    refine zs_if_neF (pc := 7) t326_7 li0 (by decide) ?_
    refine zs_iconst (pc := 10) t326_10 (v := -1) (by decide) ?_
    exact zs_iret (pc := 11) t326_11 mr326 (by decide) (hQ _ _ hs hI (zFr.refl) pR pC pF)
theorem T327 {X : zX} {l : Launch} {M : zM} {Q : Option Value → zM → Prop} {a : Int32} (hs : zSk zMm M) (hI : zIv mLo mHi M) (pR : zPR M) (pC : zPC M) (pF : zPF M) (hQ : ∀ (M' : zM) (v : Int32), zSk zMm M' → zIv mLo mHi M' → zFr [(336, 336, some 3), (336, 336, some 18), (336, 336, some 19), (336, 336, some 20), (336, 336, some 21), (336, 336, some 22), (336, 336, some 37), (336, 336, some 39), (336, 336, some 42), (336, 336, some 43), (336, 336, some 44), (336, 336, some 45), (342, 361, none)] M M' → zPR M' → zPC M' → zPF M' → Q (some (.int v)) M') : zCall X l 7 0 0 327 [.ref 336, .int a] M Q := by
  have ga := zrg a
  refine zs_in (by decide) mf327 (Nat.le_of_ble_eq_true rfl) ?_
  show zGo X l 7 0 0 327 0 [(0, .ref 336), (1, .int a)] [] M _
  refine zs_aload_n (pc := 0) t327_0 rfl ?_
  refine zs_iload_n (pc := 1) t327_1 rfl ?_
  refine zs_invV (pc := 2) (k := 336) (as' := [.int a]) (st := []) t327_2 mf306 rfl rfl (Or.inl ⟨by decide, (zk1 (hs.k fk_zMm_336))⟩) ⟨by decide, by decide, Nat.le_of_ble_eq_true rfl, Nat.le_of_ble_eq_true rfl⟩ (zs_in (by decide) mf306 (Nat.le_of_ble_eq_true rfl) ?_) (fun _ _ q => q)
  show zGo X l 1 0 0 306 0 [(0, .ref 336), (1, .int a)] [] M _
  refine zs_iload_n (pc := 0) t306_0 rfl ?_
  refine zs_i2l (pc := 1) t306_1 rfl ?_
  refine zs_lconst (pc := 2) t306_2 (v := 0) (by decide) ?_
  refine zs_aload_n (pc := 3) t306_3 rfl ?_
  refine zs_get (pc := 4) t306_4 (by decide) (zk1 (hs.k fk_zMm_336)) (hs.p rfl fv_zMm_336_0) ?_
  refine zs_iconst (pc := 7) t306_7 (v := 0) (by decide) ?_
  have w1 := ibA0 hI
  refine zs_iald (pc := 8) t306_8 (j := 0) (by decide) (zk1 (hs.k fk_zMm_337)) li0 (zk2 (hs.k fk_zMm_337) (by decide)) rfl ?_
  refine zs_iconst (pc := 9) t306_9 (v := 1) (by decide) ?_
  obtain ⟨w2v, w2e, w2⟩ := zisub (a := (zI M 337 0)) (b := (1 : Int32)) rfl li1 (by omega) (by omega)
  refine zs_isub (pc := 10) t306_10 (c := w2v) w2e ?_
  refine zs_i2l (pc := 11) t306_11 rfl ?_
  by_cases w3 : 0 ≤ a.toInt ∧ a.toInt ≤ ((zI M 337 0).toInt - 1)
  · refine zs_invS (pc := 12) (as := [.long a.toInt64, .long (0 : Int64), .long w2v.toInt64]) (st := []) t306_12 (by decide) mf228 rfl rfl ⟨by decide, by decide, Nat.le_of_ble_eq_true rfl, Nat.le_of_ble_eq_true rfl⟩ (K228T (zi2l rfl) ll0 (zi2l w2) (by omega) ?_) (fun _ _ q => q)
    show zGo X l 1 0 0 306 15 [(0, .ref 336), (1, .int a)] [.int (1 : Int32)] M _
    refine zs_iret (pc := 15) t306_15 mr306 (by decide) ?_
    show zGo X l 7 0 0 327 5 [(0, .ref 336), (1, .int a)] [.int (1 : Int32)] M _
    refine zs_if_neT (pc := 5) t327_5 li1 (by decide) ?_
    refine zs_aload_n (pc := 12) t327_12 rfl ?_
    refine zs_invV (pc := 13) (k := 336) (as' := []) (st := []) t327_13 mf268 rfl rfl (Or.inl ⟨by decide, (zk1 (hs.k fk_zMm_336))⟩) ⟨by decide, by decide, Nat.le_of_ble_eq_true rfl, Nat.le_of_ble_eq_true rfl⟩ (K268 hs hI pR pF ?_) (fun _ _ q => q)
    intro w4M w4s w4I w4F w4PF w4PD w4PV
    show zGo X l 7 0 0 327 16 [(0, .ref 336), (1, .int a)] [] w4M _
    refine zs_aload_n (pc := 16) t327_16 rfl ?_
    have w5 := ib336_22 w4I
    refine zs_get (pc := 17) t327_17 (by decide) (zk1 (w4s.k fk_zMm_336)) (zfvi rfl rfl) ?_
    refine zs_istore_n (pc := 20) t327_20 (ls' := [(2, .int (zI w4M 336 22)), (0, .ref 336), (1, .int a)]) (zml mf327 (by decide)) rfl ?_
    refine zs_aload_n (pc := 21) t327_21 rfl ?_
    refine zs_aload_n (pc := 22) t327_22 rfl ?_
    refine zs_get (pc := 23) t327_23 (by decide) (zk1 (w4s.k fk_zMm_336)) (w4s.p rfl fv_zMm_336_0) ?_
    refine zs_bipush (pc := 26) t327_26 (v := 8) (by decide) ?_
    have w6 := ibA8 hI
    refine zs_iald (pc := 28) t327_28 (j := 8) (by decide) (zk1 (w4s.k fk_zMm_337)) li8 (zk2 (w4s.k fk_zMm_337) (by decide)) ((w4F 337 8 rfl).trans rfl) ?_
    refine zs_iload_n (pc := 29) t327_29 rfl ?_
    refine zs_invV (pc := 30) (k := 336) (as' := [.int (zI M 337 8), .int a]) (st := []) t327_30 mf269 rfl rfl (Or.inl ⟨by decide, (zk1 (w4s.k fk_zMm_336))⟩) ⟨by decide, by decide, Nat.le_of_ble_eq_true rfl, Nat.le_of_ble_eq_true rfl⟩ (K269 w4s w4I (zPR.fr pR (w4F.eq rfl)) ⟨by omega, by omega⟩ ?_) (fun _ _ q => q)
    intro w7M w7s w7I w7F w7J w7PT
    show zGo X l 7 0 0 327 33 [(2, .int (zI w4M 336 22)), (0, .ref 336), (1, .int a)] [] w7M _
    refine zs_aload_n (pc := 33) t327_33 rfl ?_
    refine zs_iconst (pc := 34) t327_34 (v := 0) (by decide) ?_
    have w8 : zIv mLo mHi (zsI w7M 336 3 (0 : Int32)) := zIv.put w7I (show 0 ≤ (0 : Int32).toInt ∧ (0 : Int32).toInt ≤ 1 from ⟨by decide, by decide⟩)
    have w9 : zPF (zsI w7M 336 3 (0 : Int32)) := zPF.off
    refine zs_putI (pc := 35) t327_35 (zk1 (w7s.k fk_zMm_336)) (by decide) ?_
    refine zs_iload_n (pc := 38) t327_38 rfl ?_
    refine zs_aload_n (pc := 39) t327_39 rfl ?_
    have w10 := ib336_22 w7I
    refine zs_get (pc := 40) t327_40 (by decide) (zk1 (w7s.k fk_zMm_336)) (zfvi rfl ((zIoj (by decide)).trans rfl)) ?_
    obtain ⟨w11v, w11e, w11⟩ := zisub (a := (zI w4M 336 22)) (b := (zI w7M 336 22)) rfl rfl (by omega) (by omega)
    refine zs_isub (pc := 43) t327_43 (c := w11v) w11e ?_
    exact zs_iret (pc := 44) t327_44 mr327 rfl (hQ _ _ w7s w8 ((((zFr.refl).trans (w4F.mono rfl)).trans (w7F.mono rfl)).put rfl) (zPR.fr (M' := (zsI w7M 336 3 (0 : Int32))) (zPR.fr (zPR.fr pR (w4F.eq rfl)) (w7F.eq rfl)) (zEq.put rfl)) (zPC.fr (M' := (zsI w7M 336 3 (0 : Int32))) (zPC.fr (zPC.fr pC (w4F.eq rfl)) (w7F.eq rfl)) (zEq.put rfl)) w9)
  · refine zs_invS (pc := 12) (as := [.long a.toInt64, .long (0 : Int64), .long w2v.toInt64]) (st := []) t306_12 (by decide) mf228 rfl rfl ⟨by decide, by decide, Nat.le_of_ble_eq_true rfl, Nat.le_of_ble_eq_true rfl⟩ (K228F (zi2l rfl) ll0 (zi2l w2) (by omega) ?_) (fun _ _ q => q)
    show zGo X l 1 0 0 306 15 [(0, .ref 336), (1, .int a)] [.int (0 : Int32)] M _
    refine zs_iret (pc := 15) t306_15 mr306 (by decide) ?_
    show zGo X l 7 0 0 327 5 [(0, .ref 336), (1, .int a)] [.int (0 : Int32)] M _
    refine zs_if_neF (pc := 5) t327_5 li0 (by decide) ?_
    refine zs_ldc_w (pc := 8) t327_8 (v := -100000) rfl (by decide) ?_
    exact zs_iret (pc := 11) t327_11 mr327 (by decide) (hQ _ _ hs hI (zFr.refl) pR pC pF)
theorem T328 {X : zX} {l : Launch} {M : zM} {Q : Option Value → zM → Prop} {a : Int32} (hs : zSk zMm M) (hI : zIv mLo mHi M) (pR : zPR M) (pC : zPC M) (pF : zPF M) (hQ : ∀ (M' : zM) (v : Int32), zSk zMm M' → zIv mLo mHi M' → zFr [(336, 336, some 3), (336, 336, some 18), (336, 336, some 19), (336, 336, some 20), (336, 336, some 21), (336, 336, some 22), (336, 336, some 37), (336, 336, some 39), (336, 336, some 42), (336, 336, some 43), (336, 336, some 44), (336, 336, some 45), (342, 361, none)] M M' → zPR M' → zPC M' → zPF M' → Q (some (.int v)) M') : zCall X l 6 0 0 328 [.ref 336, .int a] M Q := by
  have ga := zrg a
  refine zs_in (by decide) mf328 (Nat.le_of_ble_eq_true rfl) ?_
  show zGo X l 6 0 0 328 0 [(0, .ref 336), (1, .int a)] [] M _
  refine zs_iload_n (pc := 0) t328_0 rfl ?_
  refine zs_i2l (pc := 1) t328_1 rfl ?_
  refine zs_lconst (pc := 2) t328_2 (v := 0) (by decide) ?_
  refine zs_ldc2_w (pc := 3) t328_3 (v := 2) (by decide) ?_
  by_cases w1 : 0 ≤ a.toInt ∧ a.toInt ≤ 2
  · refine zs_invS (pc := 6) (as := [.long a.toInt64, .long (0 : Int64), .long (2 : Int64)]) (st := []) t328_6 (by decide) mf228 rfl rfl ⟨by decide, by decide, Nat.le_of_ble_eq_true rfl, Nat.le_of_ble_eq_true rfl⟩ (K228T (zi2l rfl) ll0 ll2 (by omega) ?_) (fun _ _ q => q)
    show zGo X l 6 0 0 328 9 [(0, .ref 336), (1, .int a)] [.int (1 : Int32)] M _
    refine zs_if_neT (pc := 9) t328_9 li1 (by decide) ?_
    refine zs_iconst (pc := 14) t328_14 (v := -1) (by decide) ?_
    refine zs_istore_n (pc := 15) t328_15 (ls' := [(2, .int (-1 : Int32)), (0, .ref 336), (1, .int a)]) (zml mf328 (by decide)) rfl ?_
    refine zs_iconst (pc := 16) t328_16 (v := 0) (by decide) ?_
    refine zs_istore_n (pc := 17) t328_17 (ls' := [(3, .int (0 : Int32)), (2, .int (-1 : Int32)), (0, .ref 336), (1, .int a)]) (zml mf328 (by decide)) rfl ?_
    refine zs_iconst (pc := 18) t328_18 (v := 0) (by decide) ?_
    refine zs_istore (pc := 19) t328_19 (ls' := [(4, .int (0 : Int32)), (3, .int (0 : Int32)), (2, .int (-1 : Int32)), (0, .ref 336), (1, .int a)]) (zml mf328 (by decide)) rfl ?_
    refine zs_iconst (pc := 21) t328_21 (v := 2) (by decide) ?_
    refine zs_istore (pc := 22) t328_22 (ls' := [(5, .int (2 : Int32)), (4, .int (0 : Int32)), (3, .int (0 : Int32)), (2, .int (-1 : Int32)), (0, .ref 336), (1, .int a)]) (zml mf328 (by decide)) rfl ?_
    have w2L : ∀ (m : Nat) (w2x2 : Int32) (w2x3 : Int32) (w2x4 : Int32) (w2x5 : Int32) (w2M : zM), ((-1) ≤ w2x2.toInt ∧ w2x2.toInt ≤ 8) → (2 ≤ w2x5.toInt ∧ w2x5.toInt ≤ 9) → zSk zMm w2M → zIv mLo mHi w2M → zFr [(344, 344, none), (349, 349, none), (350, 350, none), (343, 343, none), (345, 345, none), (346, 346, none), (347, 347, none), (348, 348, none), (336, 336, some 22), (336, 336, some 18), (336, 336, some 19), (336, 336, some 20), (336, 336, some 21)] M w2M → zJ w2M 351 = zJ M 351 → 9 - w2x5.toInt ≤ (m : Int) → zGo X l 6 0 0 328 24 [(0, .ref 336), (1, .int a), (2, .int w2x2), (3, .int w2x3), (4, .int w2x4), (5, .int w2x5)] [] w2M Q := by
      intro m
      induction m using Nat.strongRecOn with
      | ind w2m w2ih =>
        intro w2x2 w2x3 w2x4 w2x5 w2M w2b2 w2b5 w2s w2I w2F w2J w2q
        have w2g3 := zrg w2x3
        have w2g4 := zrg w2x4
        refine zs_iload (pc := 24) t328_24 rfl ?_
        refine zs_bipush (pc := 26) t328_26 (v := 8) (by decide) ?_
        by_cases w3 : 8 < w2x5.toInt
        · refine zs_icmp_gtT (pc := 28) t328_28 rfl li8 (by omega) ?_
          refine zs_aload_n (pc := 86) t328_86 rfl ?_
          refine zs_iconst (pc := 87) t328_87 (v := 0) (by decide) ?_
          have w4 : zIv mLo mHi (zsI w2M 336 3 (0 : Int32)) := zIv.put w2I (show 0 ≤ (0 : Int32).toInt ∧ (0 : Int32).toInt ≤ 1 from ⟨by decide, by decide⟩)
          have w5 : zPF (zsI w2M 336 3 (0 : Int32)) := zPF.off
          refine zs_putI (pc := 88) t328_88 (zk1 (w2s.k fk_zMm_336)) (by decide) ?_
          refine zs_iload_n (pc := 91) t328_91 rfl ?_
          by_cases w6 : a.toInt ≠ 0
          · refine zs_if_neT (pc := 92) t328_92 rfl (by omega) ?_
            refine zs_iload_n (pc := 99) t328_99 rfl ?_
            refine zs_iconst (pc := 100) t328_100 (v := 1) (by decide) ?_
            by_cases w7 : a.toInt ≠ 1
            · refine zs_icmp_neT (pc := 101) t328_101 rfl li1 (by omega) ?_
              refine zs_iload (pc := 108) t328_108 rfl ?_
              exact zs_iret (pc := 110) t328_110 mr328 rfl (hQ _ _ w2s w4 (((zFr.refl).trans (w2F.mono rfl)).put rfl) (zPR.fr (M' := (zsI w2M 336 3 (0 : Int32))) (zPR.fr pR (w2F.eq rfl)) (zEq.put rfl)) (zPC.fr (M' := (zsI w2M 336 3 (0 : Int32))) (zPC.fr pC (w2F.eq rfl)) (zEq.put rfl)) w5)
            · refine zs_icmp_neF (pc := 101) t328_101 rfl li1 (by omega) ?_
              refine zs_iload_n (pc := 104) t328_104 rfl ?_
              refine zs_goto (pc := 105) t328_105 ?_
              exact zs_iret (pc := 110) t328_110 mr328 rfl (hQ _ _ w2s w4 (((zFr.refl).trans (w2F.mono rfl)).put rfl) (zPR.fr (M' := (zsI w2M 336 3 (0 : Int32))) (zPR.fr pR (w2F.eq rfl)) (zEq.put rfl)) (zPC.fr (M' := (zsI w2M 336 3 (0 : Int32))) (zPC.fr pC (w2F.eq rfl)) (zEq.put rfl)) w5)
          · refine zs_if_neF (pc := 92) t328_92 rfl (by omega) ?_
            refine zs_iload_n (pc := 95) t328_95 rfl ?_
            refine zs_goto (pc := 96) t328_96 ?_
            exact zs_iret (pc := 110) t328_110 mr328 rfl (hQ _ _ w2s w4 (((zFr.refl).trans (w2F.mono rfl)).put rfl) (zPR.fr (M' := (zsI w2M 336 3 (0 : Int32))) (zPR.fr pR (w2F.eq rfl)) (zEq.put rfl)) (zPC.fr (M' := (zsI w2M 336 3 (0 : Int32))) (zPC.fr pC (w2F.eq rfl)) (zEq.put rfl)) w5)
        · refine zs_icmp_gtF (pc := 28) t328_28 rfl li8 (by omega) ?_
          refine zs_aload_n (pc := 31) t328_31 rfl ?_
          refine zs_iload (pc := 32) t328_32 rfl ?_
          refine zs_iconst (pc := 34) t328_34 (v := -1) (by decide) ?_
          refine zs_invV (pc := 35) (k := 336) (as' := [.int w2x5, .int (-1 : Int32)]) (st := []) t328_35 mf269 rfl rfl (Or.inl ⟨by decide, (zk1 (w2s.k fk_zMm_336))⟩) ⟨by decide, by decide, Nat.le_of_ble_eq_true rfl, Nat.le_of_ble_eq_true rfl⟩ (K269 w2s w2I (zPR.fr pR (w2F.eq rfl)) ⟨by omega, by omega⟩ ?_) (fun _ _ q => q)
          intro w8M w8s w8I w8F w8J w8PT
          show zGo X l 6 0 0 328 38 [(0, .ref 336), (1, .int a), (2, .int w2x2), (3, .int w2x3), (4, .int w2x4), (5, .int w2x5)] [] w8M _
          refine zs_aload_n (pc := 38) t328_38 rfl ?_
          refine zs_invV (pc := 39) (k := 336) (as' := []) (st := []) t328_39 mf329 rfl rfl (Or.inl ⟨by decide, (zk1 (w8s.k fk_zMm_336))⟩) ⟨by decide, by decide, Nat.le_of_ble_eq_true rfl, Nat.le_of_ble_eq_true rfl⟩ (K329 w8s w8I ?_) (fun _ _ q => q)
          intro w9v
          have w9g := zrg w9v
          show zGo X l 6 0 0 328 42 [(0, .ref 336), (1, .int a), (2, .int w2x2), (3, .int w2x3), (4, .int w2x4), (5, .int w2x5)] [.int w9v] w8M _
          refine zs_istore (pc := 42) t328_42 (ls' := [(6, .int w9v), (0, .ref 336), (1, .int a), (2, .int w2x2), (3, .int w2x3), (4, .int w2x4), (5, .int w2x5)]) (zml mf328 (by decide)) rfl ?_
          refine zs_aload_n (pc := 44) t328_44 rfl ?_
          refine zs_invV (pc := 45) (k := 336) (as' := []) (st := []) t328_45 mf330 rfl rfl (Or.inl ⟨by decide, (zk1 (w8s.k fk_zMm_336))⟩) ⟨by decide, by decide, Nat.le_of_ble_eq_true rfl, Nat.le_of_ble_eq_true rfl⟩ (K330 w8s w8I ?_) (fun _ _ q => q)
          intro w10v
          have w10g := zrg w10v
          show zGo X l 6 0 0 328 48 [(6, .int w9v), (0, .ref 336), (1, .int a), (2, .int w2x2), (3, .int w2x3), (4, .int w2x4), (5, .int w2x5)] [.int w10v] w8M _
          refine zs_istore (pc := 48) t328_48 (ls' := [(7, .int w10v), (6, .int w9v), (0, .ref 336), (1, .int a), (2, .int w2x2), (3, .int w2x3), (4, .int w2x4), (5, .int w2x5)]) (zml mf328 (by decide)) rfl ?_
          refine zs_iload_n (pc := 50) t328_50 rfl ?_
          refine zs_iconst (pc := 51) t328_51 (v := -1) (by decide) ?_
          by_cases w11 : w2x2.toInt = (-1)
          · refine zs_icmp_eqT (pc := 52) t328_52 rfl lin1 (by omega) ?_
            refine zs_iload (pc := 70) t328_70 rfl ?_
            refine zs_istore_n (pc := 72) t328_72 (ls' := [(2, .int w2x5), (7, .int w10v), (6, .int w9v), (0, .ref 336), (1, .int a), (3, .int w2x3), (4, .int w2x4), (5, .int w2x5)]) (zml mf328 (by decide)) rfl ?_
            refine zs_iload (pc := 73) t328_73 rfl ?_
            refine zs_istore_n (pc := 75) t328_75 (ls' := [(3, .int w9v), (2, .int w2x5), (7, .int w10v), (6, .int w9v), (0, .ref 336), (1, .int a), (4, .int w2x4), (5, .int w2x5)]) (zml mf328 (by decide)) rfl ?_
            refine zs_iload (pc := 76) t328_76 rfl ?_
            refine zs_istore (pc := 78) t328_78 (ls' := [(4, .int w10v), (3, .int w9v), (2, .int w2x5), (7, .int w10v), (6, .int w9v), (0, .ref 336), (1, .int a), (5, .int w2x5)]) (zml mf328 (by decide)) rfl ?_
            obtain ⟨w12v, w12e, w12⟩ := ziadd (a := w2x5) (b := Int32.ofInt 1) rfl (show (Int32.ofInt 1).toInt = 1 by decide) (by omega) (by omega)
            refine zs_iinc (pc := 80) t328_80 (ls' := [(5, .int w12v), (4, .int w10v), (3, .int w9v), (2, .int w2x5), (7, .int w10v), (6, .int w9v), (0, .ref 336), (1, .int a)]) (zml mf328 (by decide)) rfl (c := w12v) w12e rfl ?_
            refine zs_goto (pc := 83) t328_83 ?_
            refine zGo.locals (ls' := [(0, .ref 336), (1, .int a), (2, .int w2x5), (3, .int w9v), (4, .int w10v), (5, .int w12v)]) (by simp) ?_
            have w13 := w12
            exact w2ih (w2m - 1) (by omega) w2x5 w9v w10v w12v w8M ⟨by omega, by omega⟩ ⟨by omega, by omega⟩ w8s w8I (((zFr.refl).trans (w2F.mono rfl)).trans (w8F.mono rfl)) (w8J.trans w2J) (by omega)
          · refine zs_icmp_eqF (pc := 52) t328_52 rfl lin1 (by omega) ?_
            refine zs_iload (pc := 55) t328_55 rfl ?_
            refine zs_iload (pc := 57) t328_57 rfl ?_
            obtain ⟨w14v, w14⟩ : ∃ v, v = w9v - w10v := ⟨_, rfl⟩
            have w14g := zrg w14v
            refine zs_isub (pc := 59) t328_59 (c := w14v) w14.symm ?_
            refine zs_iload_n (pc := 60) t328_60 rfl ?_
            refine zs_iload (pc := 61) t328_61 rfl ?_
            obtain ⟨w15v, w15⟩ : ∃ v, v = w2x3 - w2x4 := ⟨_, rfl⟩
            have w15g := zrg w15v
            refine zs_isub (pc := 63) t328_63 (c := w15v) w15.symm ?_
            by_cases w16 : w15v.toInt < w14v.toInt
            · refine zs_icmp_gtT (pc := 64) t328_64 rfl rfl (by omega) ?_
              refine zs_iload (pc := 70) t328_70 rfl ?_
              refine zs_istore_n (pc := 72) t328_72 (ls' := [(2, .int w2x5), (7, .int w10v), (6, .int w9v), (0, .ref 336), (1, .int a), (3, .int w2x3), (4, .int w2x4), (5, .int w2x5)]) (zml mf328 (by decide)) rfl ?_
              refine zs_iload (pc := 73) t328_73 rfl ?_
              refine zs_istore_n (pc := 75) t328_75 (ls' := [(3, .int w9v), (2, .int w2x5), (7, .int w10v), (6, .int w9v), (0, .ref 336), (1, .int a), (4, .int w2x4), (5, .int w2x5)]) (zml mf328 (by decide)) rfl ?_
              refine zs_iload (pc := 76) t328_76 rfl ?_
              refine zs_istore (pc := 78) t328_78 (ls' := [(4, .int w10v), (3, .int w9v), (2, .int w2x5), (7, .int w10v), (6, .int w9v), (0, .ref 336), (1, .int a), (5, .int w2x5)]) (zml mf328 (by decide)) rfl ?_
              obtain ⟨w17v, w17e, w17⟩ := ziadd (a := w2x5) (b := Int32.ofInt 1) rfl (show (Int32.ofInt 1).toInt = 1 by decide) (by omega) (by omega)
              refine zs_iinc (pc := 80) t328_80 (ls' := [(5, .int w17v), (4, .int w10v), (3, .int w9v), (2, .int w2x5), (7, .int w10v), (6, .int w9v), (0, .ref 336), (1, .int a)]) (zml mf328 (by decide)) rfl (c := w17v) w17e rfl ?_
              refine zs_goto (pc := 83) t328_83 ?_
              refine zGo.locals (ls' := [(0, .ref 336), (1, .int a), (2, .int w2x5), (3, .int w9v), (4, .int w10v), (5, .int w17v)]) (by simp) ?_
              have w18 := w17
              exact w2ih (w2m - 1) (by omega) w2x5 w9v w10v w17v w8M ⟨by omega, by omega⟩ ⟨by omega, by omega⟩ w8s w8I (((zFr.refl).trans (w2F.mono rfl)).trans (w8F.mono rfl)) (w8J.trans w2J) (by omega)
            · refine zs_icmp_gtF (pc := 64) t328_64 rfl rfl (by omega) ?_
              refine zs_goto (pc := 67) t328_67 ?_
              obtain ⟨w19v, w19e, w19⟩ := ziadd (a := w2x5) (b := Int32.ofInt 1) rfl (show (Int32.ofInt 1).toInt = 1 by decide) (by omega) (by omega)
              refine zs_iinc (pc := 80) t328_80 (ls' := [(5, .int w19v), (7, .int w10v), (6, .int w9v), (0, .ref 336), (1, .int a), (2, .int w2x2), (3, .int w2x3), (4, .int w2x4)]) (zml mf328 (by decide)) rfl (c := w19v) w19e rfl ?_
              refine zs_goto (pc := 83) t328_83 ?_
              refine zGo.locals (ls' := [(0, .ref 336), (1, .int a), (2, .int w2x2), (3, .int w2x3), (4, .int w2x4), (5, .int w19v)]) (by simp) ?_
              have w20 := w19
              exact w2ih (w2m - 1) (by omega) w2x2 w2x3 w2x4 w19v w8M ⟨by omega, by omega⟩ ⟨by omega, by omega⟩ w8s w8I (((zFr.refl).trans (w2F.mono rfl)).trans (w8F.mono rfl)) (w8J.trans w2J) (by omega)
    refine zGo.locals (ls' := [(0, .ref 336), (1, .int a), (2, .int (-1 : Int32)), (3, .int (0 : Int32)), (4, .int (0 : Int32)), (5, .int (2 : Int32))]) (by simp) ?_
    have w21 := lin1
    have w22 := li0
    have w23 := li0
    have w24 := li2
    exact w2L ((9 - 2 : Int).toNat) (-1 : Int32) (0 : Int32) (0 : Int32) (2 : Int32) M ⟨by decide, by decide⟩ ⟨by decide, by decide⟩ hs hI zFr.refl rfl (by omega)
  · refine zs_invS (pc := 6) (as := [.long a.toInt64, .long (0 : Int64), .long (2 : Int64)]) (st := []) t328_6 (by decide) mf228 rfl rfl ⟨by decide, by decide, Nat.le_of_ble_eq_true rfl, Nat.le_of_ble_eq_true rfl⟩ (K228F (zi2l rfl) ll0 ll2 (by omega) ?_) (fun _ _ q => q)
    show zGo X l 6 0 0 328 9 [(0, .ref 336), (1, .int a)] [.int (0 : Int32)] M _
    refine zs_if_neF (pc := 9) t328_9 li0 (by decide) ?_
    refine zs_iconst (pc := 12) t328_12 (v := -1) (by decide) ?_
    exact zs_iret (pc := 13) t328_13 mr328 (by decide) (hQ _ _ hs hI (zFr.refl) pR pC pF)
theorem T300 {X : zX} {l : Launch} {M : zM} {Q : Option Value → zM → Prop} {a b c : Int32} (hs : zSk zMm M) (hI : zIv mLo mHi M) (pR : zPR M) (pC : zPC M) (pF : zPF M) (hQ : ∀ (M' : zM) (v : Int64), zSk zMm M' → zIv mLo mHi M' → zFr [(336, 336, some 3), (336, 336, some 18), (336, 336, some 19), (336, 336, some 20), (336, 336, some 21), (336, 336, some 22), (336, 336, some 37), (336, 336, some 39), (336, 336, some 42), (336, 336, some 43), (336, 336, some 44), (336, 336, some 45), (342, 361, none)] M M' → zPR M' → zPC M' → zPF M' → Q (some (.long v)) M') : zCall X l 7 0 0 300 [.ref 336, .int a, .int b, .int c] M Q := by
  have ga := zrg a
  have gb := zrg b
  have gc := zrg c
  refine zs_in (by decide) mf300 (Nat.le_of_ble_eq_true rfl) ?_
  show zGo X l 7 0 0 300 0 [(0, .ref 336), (1, .int a), (2, .int b), (3, .int c)] [] M _
  refine zs_aload_n (pc := 0) t300_0 rfl ?_
  refine zs_invV (pc := 1) (k := 336) (as' := []) (st := []) t300_1 mf268 rfl rfl (Or.inl ⟨by decide, (zk1 (hs.k fk_zMm_336))⟩) ⟨by decide, by decide, Nat.le_of_ble_eq_true rfl, Nat.le_of_ble_eq_true rfl⟩ (K268 hs hI pR pF ?_) (fun _ _ q => q)
  intro w1M w1s w1I w1F w1PF w1PD w1PV
  show zGo X l 7 0 0 300 4 [(0, .ref 336), (1, .int a), (2, .int b), (3, .int c)] [] w1M _
  refine zs_aload_n (pc := 4) t300_4 rfl ?_
  refine zs_iload_n (pc := 5) t300_5 rfl ?_
  refine zs_invV (pc := 6) (k := 336) (as' := [.int a]) (st := []) t300_6 mf297 rfl rfl (Or.inl ⟨by decide, (zk1 (w1s.k fk_zMm_336))⟩) ⟨by decide, by decide, Nat.le_of_ble_eq_true rfl, Nat.le_of_ble_eq_true rfl⟩ (zs_in (by decide) mf297 (Nat.le_of_ble_eq_true rfl) ?_) (fun _ _ q => q)
  show zGo X l 1 0 0 297 0 [(0, .ref 336), (1, .int a)] [] w1M _
  refine zs_iload_n (pc := 0) t297_0 rfl ?_
  refine zs_i2l (pc := 1) t297_1 rfl ?_
  refine zs_lconst (pc := 2) t297_2 (v := 0) (by decide) ?_
  refine zs_aload_n (pc := 3) t297_3 rfl ?_
  have w2 := ib336_22 w1I
  refine zs_get (pc := 4) t297_4 (by decide) (zk1 (w1s.k fk_zMm_336)) (zfvi rfl rfl) ?_
  refine zs_iconst (pc := 7) t297_7 (v := 1) (by decide) ?_
  obtain ⟨w3v, w3e, w3⟩ := zisub (a := (zI w1M 336 22)) (b := (1 : Int32)) rfl li1 (by omega) (by omega)
  refine zs_isub (pc := 8) t297_8 (c := w3v) w3e ?_
  refine zs_i2l (pc := 9) t297_9 rfl ?_
  by_cases w4 : 0 ≤ a.toInt ∧ a.toInt ≤ ((zI w1M 336 22).toInt - 1)
  · refine zs_invS (pc := 10) (as := [.long a.toInt64, .long (0 : Int64), .long w3v.toInt64]) (st := []) t297_10 (by decide) mf228 rfl rfl ⟨by decide, by decide, Nat.le_of_ble_eq_true rfl, Nat.le_of_ble_eq_true rfl⟩ (K228T (zi2l rfl) ll0 (zi2l w3) (by omega) ?_) (fun _ _ q => q)
    show zGo X l 1 0 0 297 13 [(0, .ref 336), (1, .int a)] [.int (1 : Int32)] w1M _
    refine zs_iret (pc := 13) t297_13 mr297 (by decide) ?_
    show zGo X l 7 0 0 300 9 [(0, .ref 336), (1, .int a), (2, .int b), (3, .int c)] [.int (1 : Int32)] w1M _
    refine zs_if_eqF (pc := 9) t300_9 li1 (by decide) ?_
    refine zs_aload_n (pc := 12) t300_12 rfl ?_
    refine zs_iload_n (pc := 13) t300_13 rfl ?_
    refine zs_invV (pc := 14) (k := 336) (as' := [.int b]) (st := []) t300_14 mf297 rfl rfl (Or.inl ⟨by decide, (zk1 (w1s.k fk_zMm_336))⟩) ⟨by decide, by decide, Nat.le_of_ble_eq_true rfl, Nat.le_of_ble_eq_true rfl⟩ (zs_in (by decide) mf297 (Nat.le_of_ble_eq_true rfl) ?_) (fun _ _ q => q)
    show zGo X l 1 0 0 297 0 [(0, .ref 336), (1, .int b)] [] w1M _
    refine zs_iload_n (pc := 0) t297_0 rfl ?_
    refine zs_i2l (pc := 1) t297_1 rfl ?_
    refine zs_lconst (pc := 2) t297_2 (v := 0) (by decide) ?_
    refine zs_aload_n (pc := 3) t297_3 rfl ?_
    refine zs_get (pc := 4) t297_4 (by decide) (zk1 (w1s.k fk_zMm_336)) (zfvi rfl rfl) ?_
    refine zs_iconst (pc := 7) t297_7 (v := 1) (by decide) ?_
    obtain ⟨w5v, w5e, w5⟩ := zisub (a := (zI w1M 336 22)) (b := (1 : Int32)) rfl li1 (by omega) (by omega)
    refine zs_isub (pc := 8) t297_8 (c := w5v) w5e ?_
    refine zs_i2l (pc := 9) t297_9 rfl ?_
    by_cases w6 : 0 ≤ b.toInt ∧ b.toInt ≤ ((zI w1M 336 22).toInt - 1)
    · refine zs_invS (pc := 10) (as := [.long b.toInt64, .long (0 : Int64), .long w5v.toInt64]) (st := []) t297_10 (by decide) mf228 rfl rfl ⟨by decide, by decide, Nat.le_of_ble_eq_true rfl, Nat.le_of_ble_eq_true rfl⟩ (K228T (zi2l rfl) ll0 (zi2l w5) (by omega) ?_) (fun _ _ q => q)
      show zGo X l 1 0 0 297 13 [(0, .ref 336), (1, .int b)] [.int (1 : Int32)] w1M _
      refine zs_iret (pc := 13) t297_13 mr297 (by decide) ?_
      show zGo X l 7 0 0 300 17 [(0, .ref 336), (1, .int a), (2, .int b), (3, .int c)] [.int (1 : Int32)] w1M _
      refine zs_if_eqF (pc := 17) t300_17 li1 (by decide) ?_
      refine zs_iload_n (pc := 20) t300_20 rfl ?_
      refine zs_iload_n (pc := 21) t300_21 rfl ?_
      by_cases w7 : a.toInt = b.toInt
      · refine zs_icmp_eqT (pc := 22) t300_22 rfl rfl (by omega) ?_
        refine zs_ldc2_w (pc := 35) t300_35 (v := -1000000000000) (by decide) ?_
        exact zs_lret (pc := 38) t300_38 mr300 (hQ _ _ w1s w1I ((zFr.refl).trans (w1F.mono rfl)) (zPR.fr pR (w1F.eq rfl)) (zPC.fr pC (w1F.eq rfl)) w1PF)
      · refine zs_icmp_eqF (pc := 22) t300_22 rfl rfl (by omega) ?_
        refine zs_iload_n (pc := 25) t300_25 rfl ?_
        refine zs_i2l (pc := 26) t300_26 rfl ?_
        refine zs_lconst (pc := 27) t300_27 (v := 0) (by decide) ?_
        refine zs_lconst (pc := 28) t300_28 (v := 1) (by decide) ?_
        by_cases w8 : 0 ≤ c.toInt ∧ c.toInt ≤ 1
        · refine zs_invS (pc := 29) (as := [.long c.toInt64, .long (0 : Int64), .long (1 : Int64)]) (st := []) t300_29 (by decide) mf228 rfl rfl ⟨by decide, by decide, Nat.le_of_ble_eq_true rfl, Nat.le_of_ble_eq_true rfl⟩ (K228T (zi2l rfl) ll0 ll1 (by omega) ?_) (fun _ _ q => q)
          show zGo X l 7 0 0 300 32 [(0, .ref 336), (1, .int a), (2, .int b), (3, .int c)] [.int (1 : Int32)] w1M _
          refine zs_if_neT (pc := 32) t300_32 li1 (by decide) ?_
          refine zs_aload_n (pc := 39) t300_39 rfl ?_
          refine zs_get (pc := 40) t300_40 (by decide) (zk1 (w1s.k fk_zMm_336)) (w1s.p rfl fv_zMm_336_31) ?_
          refine zs_iload_n (pc := 43) t300_43 rfl ?_
          obtain ⟨w9n, w9⟩ : ∃ n : Nat, a.toInt = (n : Int) := ⟨(a.toInt).toNat, by omega⟩
          have w10 := zrg64 (zJ w1M 353 w9n)
          refine zs_lald (pc := 44) t300_44 (j := w9n) (zk1 (w1s.k fk_zMm_353)) (show a.toInt = ((w9n : Nat) : Int) by omega) (zk2 (w1s.k fk_zMm_353) (by omega)) rfl ?_
          refine zs_aload_n (pc := 45) t300_45 rfl ?_
          refine zs_get (pc := 46) t300_46 (by decide) (zk1 (w1s.k fk_zMm_336)) (w1s.p rfl fv_zMm_336_29) ?_
          refine zs_iload_n (pc := 49) t300_49 rfl ?_
          obtain ⟨w11n, w11⟩ : ∃ n : Nat, b.toInt = (n : Int) := ⟨(b.toInt).toNat, by omega⟩
          have w12 := zrg64 (zJ w1M 351 w11n)
          have w13 : (zI w1M 336 22).toInt = (zI w1M 336 22).toInt := (congrArg Int32.toInt rfl).trans rfl
          have w14 : 0 < (zJ w1M 351 w11n).toInt := w1PD w11n (by omega)
          refine zs_lald (pc := 50) t300_50 (j := w11n) (zk1 (w1s.k fk_zMm_351)) (show b.toInt = ((w11n : Nat) : Int) by omega) (zk2 (w1s.k fk_zMm_351) (by omega)) rfl ?_
          obtain ⟨w15v, w15⟩ : ∃ v, (zJ w1M 353 w9n) * (zJ w1M 351 w11n) = v := ⟨_, rfl⟩
          have w15g := zrg64 w15v
          refine zs_lmul (pc := 51) t300_51 (c := w15v) w15 ?_
          refine zs_aload_n (pc := 52) t300_52 rfl ?_
          refine zs_get (pc := 53) t300_53 (by decide) (zk1 (w1s.k fk_zMm_336)) (w1s.p rfl fv_zMm_336_31) ?_
          refine zs_iload_n (pc := 56) t300_56 rfl ?_
          have w16 := zrg64 (zJ w1M 353 w11n)
          refine zs_lald (pc := 57) t300_57 (j := w11n) (zk1 (w1s.k fk_zMm_353)) (show b.toInt = ((w11n : Nat) : Int) by omega) (zk2 (w1s.k fk_zMm_353) (by omega)) rfl ?_
          refine zs_aload_n (pc := 58) t300_58 rfl ?_
          refine zs_get (pc := 59) t300_59 (by decide) (zk1 (w1s.k fk_zMm_336)) (w1s.p rfl fv_zMm_336_29) ?_
          refine zs_iload_n (pc := 62) t300_62 rfl ?_
          have w17 := zrg64 (zJ w1M 351 w9n)
          have w18 : (zI w1M 336 22).toInt = (zI w1M 336 22).toInt := (congrArg Int32.toInt rfl).trans rfl
          have w19 : 0 < (zJ w1M 351 w9n).toInt := w1PD w9n (by omega)
          refine zs_lald (pc := 63) t300_63 (j := w9n) (zk1 (w1s.k fk_zMm_351)) (show a.toInt = ((w9n : Nat) : Int) by omega) (zk2 (w1s.k fk_zMm_351) (by omega)) rfl ?_
          obtain ⟨w20v, w20⟩ : ∃ v, (zJ w1M 353 w11n) * (zJ w1M 351 w9n) = v := ⟨_, rfl⟩
          have w20g := zrg64 w20v
          refine zs_lmul (pc := 64) t300_64 (c := w20v) w20 ?_
          obtain ⟨w21v, w21⟩ : ∃ v, w15v - w20v = v := ⟨_, rfl⟩
          have w21g := zrg64 w21v
          refine zs_lsub (pc := 65) t300_65 (c := w21v) w21 ?_
          refine zs_lstore (pc := 66) t300_66 (ls' := [(4, .long w21v), (0, .ref 336), (1, .int a), (2, .int b), (3, .int c)]) (zml mf300 (by decide)) rfl ?_
          refine zs_lload (pc := 68) t300_68 rfl ?_
          refine zs_lconst (pc := 70) t300_70 (v := 0) (by decide) ?_
          by_cases w22 : w21v.toInt < 0
          · refine zs_lcmp (pc := 71) t300_71 (c := -1) (zlcL rfl ll0 (by omega)) ?_
            refine zs_if_neT (pc := 72) t300_72 lin1 (by decide) ?_
            refine zs_aload_n (pc := 81) t300_81 rfl ?_
            refine zs_get (pc := 82) t300_82 (by decide) (zk1 (w1s.k fk_zMm_336)) (w1s.p rfl fv_zMm_336_30) ?_
            refine zs_iload_n (pc := 85) t300_85 rfl ?_
            have w23 := zrg64 (zJ w1M 352 w11n)
            refine zs_lald (pc := 86) t300_86 (j := w11n) (zk1 (w1s.k fk_zMm_352)) (show b.toInt = ((w11n : Nat) : Int) by omega) (zk2 (w1s.k fk_zMm_352) (by omega)) rfl ?_
            refine zs_aload_n (pc := 87) t300_87 rfl ?_
            refine zs_get (pc := 88) t300_88 (by decide) (zk1 (w1s.k fk_zMm_336)) (w1s.p rfl fv_zMm_336_29) ?_
            refine zs_iload_n (pc := 91) t300_91 rfl ?_
            have w24 := zrg64 (zJ w1M 351 w9n)
            have w25 : (zI w1M 336 22).toInt = (zI w1M 336 22).toInt := (congrArg Int32.toInt rfl).trans rfl
            have w26 : 0 < (zJ w1M 351 w9n).toInt := w1PD w9n (by omega)
            refine zs_lald (pc := 92) t300_92 (j := w9n) (zk1 (w1s.k fk_zMm_351)) (show a.toInt = ((w9n : Nat) : Int) by omega) (zk2 (w1s.k fk_zMm_351) (by omega)) rfl ?_
            obtain ⟨w27v, w27⟩ : ∃ v, (zJ w1M 352 w11n) * (zJ w1M 351 w9n) = v := ⟨_, rfl⟩
            have w27g := zrg64 w27v
            refine zs_lmul (pc := 93) t300_93 (c := w27v) w27 ?_
            refine zs_aload_n (pc := 94) t300_94 rfl ?_
            refine zs_get (pc := 95) t300_95 (by decide) (zk1 (w1s.k fk_zMm_336)) (w1s.p rfl fv_zMm_336_30) ?_
            refine zs_iload_n (pc := 98) t300_98 rfl ?_
            have w28 := zrg64 (zJ w1M 352 w9n)
            refine zs_lald (pc := 99) t300_99 (j := w9n) (zk1 (w1s.k fk_zMm_352)) (show a.toInt = ((w9n : Nat) : Int) by omega) (zk2 (w1s.k fk_zMm_352) (by omega)) rfl ?_
            refine zs_aload_n (pc := 100) t300_100 rfl ?_
            refine zs_get (pc := 101) t300_101 (by decide) (zk1 (w1s.k fk_zMm_336)) (w1s.p rfl fv_zMm_336_29) ?_
            refine zs_iload_n (pc := 104) t300_104 rfl ?_
            have w29 := zrg64 (zJ w1M 351 w11n)
            have w30 : (zI w1M 336 22).toInt = (zI w1M 336 22).toInt := (congrArg Int32.toInt rfl).trans rfl
            have w31 : 0 < (zJ w1M 351 w11n).toInt := w1PD w11n (by omega)
            refine zs_lald (pc := 105) t300_105 (j := w11n) (zk1 (w1s.k fk_zMm_351)) (show b.toInt = ((w11n : Nat) : Int) by omega) (zk2 (w1s.k fk_zMm_351) (by omega)) rfl ?_
            obtain ⟨w32v, w32⟩ : ∃ v, (zJ w1M 352 w9n) * (zJ w1M 351 w11n) = v := ⟨_, rfl⟩
            have w32g := zrg64 w32v
            refine zs_lmul (pc := 106) t300_106 (c := w32v) w32 ?_
            obtain ⟨w33v, w33⟩ : ∃ v, w27v - w32v = v := ⟨_, rfl⟩
            have w33g := zrg64 w33v
            refine zs_lsub (pc := 107) t300_107 (c := w33v) w33 ?_
            refine zs_lload (pc := 108) t300_108 rfl ?_
            refine zs_iload_n (pc := 110) t300_110 rfl ?_
            refine zs_invS (pc := 111) (as := [.long w33v, .long w21v, .int c]) (st := []) t300_111 (by decide) mf298 rfl rfl ⟨by decide, by decide, Nat.le_of_ble_eq_true rfl, Nat.le_of_ble_eq_true rfl⟩ (K298 w1s w1I (by omega) ?_) (fun _ _ q => q)
            intro w34v
            have w34g := zrg64 w34v
            show zGo X l 7 0 0 300 114 [(4, .long w21v), (0, .ref 336), (1, .int a), (2, .int b), (3, .int c)] [.long w34v] w1M _
            exact zs_lret (pc := 114) t300_114 mr300 (hQ _ _ w1s w1I ((zFr.refl).trans (w1F.mono rfl)) (zPR.fr pR (w1F.eq rfl)) (zPC.fr pC (w1F.eq rfl)) w1PF)
          by_cases w35 : w21v.toInt = 0
          · refine zs_lcmp (pc := 71) t300_71 (c := 0) (zlcE rfl ll0 (by omega)) ?_
            refine zs_if_neF (pc := 72) t300_72 li0 (by decide) ?_
            refine zs_ldc2_w (pc := 75) t300_75 (v := -2) (by decide) ?_
            refine zs_goto (pc := 78) t300_78 ?_
            exact zs_lret (pc := 114) t300_114 mr300 (hQ _ _ w1s w1I ((zFr.refl).trans (w1F.mono rfl)) (zPR.fr pR (w1F.eq rfl)) (zPC.fr pC (w1F.eq rfl)) w1PF)
          refine zs_lcmp (pc := 71) t300_71 (c := 1) (zlcG rfl ll0 (by omega)) ?_
          refine zs_if_neT (pc := 72) t300_72 li1 (by decide) ?_
          refine zs_aload_n (pc := 81) t300_81 rfl ?_
          refine zs_get (pc := 82) t300_82 (by decide) (zk1 (w1s.k fk_zMm_336)) (w1s.p rfl fv_zMm_336_30) ?_
          refine zs_iload_n (pc := 85) t300_85 rfl ?_
          have w37 := zrg64 (zJ w1M 352 w11n)
          refine zs_lald (pc := 86) t300_86 (j := w11n) (zk1 (w1s.k fk_zMm_352)) (show b.toInt = ((w11n : Nat) : Int) by omega) (zk2 (w1s.k fk_zMm_352) (by omega)) rfl ?_
          refine zs_aload_n (pc := 87) t300_87 rfl ?_
          refine zs_get (pc := 88) t300_88 (by decide) (zk1 (w1s.k fk_zMm_336)) (w1s.p rfl fv_zMm_336_29) ?_
          refine zs_iload_n (pc := 91) t300_91 rfl ?_
          have w38 := zrg64 (zJ w1M 351 w9n)
          have w39 : (zI w1M 336 22).toInt = (zI w1M 336 22).toInt := (congrArg Int32.toInt rfl).trans rfl
          have w40 : 0 < (zJ w1M 351 w9n).toInt := w1PD w9n (by omega)
          refine zs_lald (pc := 92) t300_92 (j := w9n) (zk1 (w1s.k fk_zMm_351)) (show a.toInt = ((w9n : Nat) : Int) by omega) (zk2 (w1s.k fk_zMm_351) (by omega)) rfl ?_
          obtain ⟨w41v, w41⟩ : ∃ v, (zJ w1M 352 w11n) * (zJ w1M 351 w9n) = v := ⟨_, rfl⟩
          have w41g := zrg64 w41v
          refine zs_lmul (pc := 93) t300_93 (c := w41v) w41 ?_
          refine zs_aload_n (pc := 94) t300_94 rfl ?_
          refine zs_get (pc := 95) t300_95 (by decide) (zk1 (w1s.k fk_zMm_336)) (w1s.p rfl fv_zMm_336_30) ?_
          refine zs_iload_n (pc := 98) t300_98 rfl ?_
          have w42 := zrg64 (zJ w1M 352 w9n)
          refine zs_lald (pc := 99) t300_99 (j := w9n) (zk1 (w1s.k fk_zMm_352)) (show a.toInt = ((w9n : Nat) : Int) by omega) (zk2 (w1s.k fk_zMm_352) (by omega)) rfl ?_
          refine zs_aload_n (pc := 100) t300_100 rfl ?_
          refine zs_get (pc := 101) t300_101 (by decide) (zk1 (w1s.k fk_zMm_336)) (w1s.p rfl fv_zMm_336_29) ?_
          refine zs_iload_n (pc := 104) t300_104 rfl ?_
          have w43 := zrg64 (zJ w1M 351 w11n)
          have w44 : (zI w1M 336 22).toInt = (zI w1M 336 22).toInt := (congrArg Int32.toInt rfl).trans rfl
          have w45 : 0 < (zJ w1M 351 w11n).toInt := w1PD w11n (by omega)
          refine zs_lald (pc := 105) t300_105 (j := w11n) (zk1 (w1s.k fk_zMm_351)) (show b.toInt = ((w11n : Nat) : Int) by omega) (zk2 (w1s.k fk_zMm_351) (by omega)) rfl ?_
          obtain ⟨w46v, w46⟩ : ∃ v, (zJ w1M 352 w9n) * (zJ w1M 351 w11n) = v := ⟨_, rfl⟩
          have w46g := zrg64 w46v
          refine zs_lmul (pc := 106) t300_106 (c := w46v) w46 ?_
          obtain ⟨w47v, w47⟩ : ∃ v, w41v - w46v = v := ⟨_, rfl⟩
          have w47g := zrg64 w47v
          refine zs_lsub (pc := 107) t300_107 (c := w47v) w47 ?_
          refine zs_lload (pc := 108) t300_108 rfl ?_
          refine zs_iload_n (pc := 110) t300_110 rfl ?_
          refine zs_invS (pc := 111) (as := [.long w47v, .long w21v, .int c]) (st := []) t300_111 (by decide) mf298 rfl rfl ⟨by decide, by decide, Nat.le_of_ble_eq_true rfl, Nat.le_of_ble_eq_true rfl⟩ (K298 w1s w1I (by omega) ?_) (fun _ _ q => q)
          intro w48v
          have w48g := zrg64 w48v
          show zGo X l 7 0 0 300 114 [(4, .long w21v), (0, .ref 336), (1, .int a), (2, .int b), (3, .int c)] [.long w48v] w1M _
          exact zs_lret (pc := 114) t300_114 mr300 (hQ _ _ w1s w1I ((zFr.refl).trans (w1F.mono rfl)) (zPR.fr pR (w1F.eq rfl)) (zPC.fr pC (w1F.eq rfl)) w1PF)
        · refine zs_invS (pc := 29) (as := [.long c.toInt64, .long (0 : Int64), .long (1 : Int64)]) (st := []) t300_29 (by decide) mf228 rfl rfl ⟨by decide, by decide, Nat.le_of_ble_eq_true rfl, Nat.le_of_ble_eq_true rfl⟩ (K228F (zi2l rfl) ll0 ll1 (by omega) ?_) (fun _ _ q => q)
          show zGo X l 7 0 0 300 32 [(0, .ref 336), (1, .int a), (2, .int b), (3, .int c)] [.int (0 : Int32)] w1M _
          refine zs_if_neF (pc := 32) t300_32 li0 (by decide) ?_
          refine zs_ldc2_w (pc := 35) t300_35 (v := -1000000000000) (by decide) ?_
          exact zs_lret (pc := 38) t300_38 mr300 (hQ _ _ w1s w1I ((zFr.refl).trans (w1F.mono rfl)) (zPR.fr pR (w1F.eq rfl)) (zPC.fr pC (w1F.eq rfl)) w1PF)
    · refine zs_invS (pc := 10) (as := [.long b.toInt64, .long (0 : Int64), .long w5v.toInt64]) (st := []) t297_10 (by decide) mf228 rfl rfl ⟨by decide, by decide, Nat.le_of_ble_eq_true rfl, Nat.le_of_ble_eq_true rfl⟩ (K228F (zi2l rfl) ll0 (zi2l w5) (by omega) ?_) (fun _ _ q => q)
      show zGo X l 1 0 0 297 13 [(0, .ref 336), (1, .int b)] [.int (0 : Int32)] w1M _
      refine zs_iret (pc := 13) t297_13 mr297 (by decide) ?_
      show zGo X l 7 0 0 300 17 [(0, .ref 336), (1, .int a), (2, .int b), (3, .int c)] [.int (0 : Int32)] w1M _
      refine zs_if_eqT (pc := 17) t300_17 li0 (by decide) ?_
      refine zs_ldc2_w (pc := 35) t300_35 (v := -1000000000000) (by decide) ?_
      exact zs_lret (pc := 38) t300_38 mr300 (hQ _ _ w1s w1I ((zFr.refl).trans (w1F.mono rfl)) (zPR.fr pR (w1F.eq rfl)) (zPC.fr pC (w1F.eq rfl)) w1PF)
  · refine zs_invS (pc := 10) (as := [.long a.toInt64, .long (0 : Int64), .long w3v.toInt64]) (st := []) t297_10 (by decide) mf228 rfl rfl ⟨by decide, by decide, Nat.le_of_ble_eq_true rfl, Nat.le_of_ble_eq_true rfl⟩ (K228F (zi2l rfl) ll0 (zi2l w3) (by omega) ?_) (fun _ _ q => q)
    show zGo X l 1 0 0 297 13 [(0, .ref 336), (1, .int a)] [.int (0 : Int32)] w1M _
    refine zs_iret (pc := 13) t297_13 mr297 (by decide) ?_
    show zGo X l 7 0 0 300 9 [(0, .ref 336), (1, .int a), (2, .int b), (3, .int c)] [.int (0 : Int32)] w1M _
    refine zs_if_eqT (pc := 9) t300_9 li0 (by decide) ?_
    refine zs_ldc2_w (pc := 35) t300_35 (v := -1000000000000) (by decide) ?_
    exact zs_lret (pc := 38) t300_38 mr300 (hQ _ _ w1s w1I ((zFr.refl).trans (w1F.mono rfl)) (zPR.fr pR (w1F.eq rfl)) (zPC.fr pC (w1F.eq rfl)) w1PF)
