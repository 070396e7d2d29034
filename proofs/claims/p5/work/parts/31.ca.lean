theorem K298 {X : zX} {l : Launch} {M : zM} {Q : Option Value → zM → Prop} {a : Int32} {aL bL : Int64} (hs : zSk zMm M) (hI : zIv mLo mHi M) (x0 : bL.toInt ≠ 0) (hQ : ∀ v : Int64, Q (some (.long v)) M) : zCall X l 1 0 0 298 [.long aL, .long bL, .int a] M Q := by
  have ga := zrg a
  have gaL := zrg64 aL
  have gbL := zrg64 bL
  refine zs_in (by decide) mf298 (Nat.le_of_ble_eq_true rfl) ?_
  show zGo X l 1 0 0 298 0 [(0, .long aL), (2, .long bL), (4, .int a)] [] M _
  refine zs_lload_n (pc := 0) t298_0 rfl ?_
  refine zs_lconst (pc := 1) t298_1 (v := 0) (by decide) ?_
  by_cases w1 : bL.toInt < 0
  · refine zs_lcmp (pc := 2) t298_2 (c := -1) (zlcL rfl ll0 (by omega)) ?_
    refine zs_if_geF (pc := 3) t298_3 lin1 (by decide) ?_
    refine zs_lload_n (pc := 6) t298_6 rfl ?_
    refine zs_lload_n (pc := 7) t298_7 rfl ?_
    refine zs_invS (pc := 8) (as := [.long aL, .long bL]) (st := []) t298_8 (by decide) mf299 rfl rfl ⟨by decide, by decide, Nat.le_of_ble_eq_true rfl, Nat.le_of_ble_eq_true rfl⟩ (K299 hs hI (by omega) ?_) (fun _ _ q => q)
    intro w2v w2x0
    have w2g := zrg64 w2v
    show zGo X l 1 0 0 298 11 [(0, .long aL), (2, .long bL), (4, .int a)] [.long w2v] M _
    obtain ⟨w3v, w3⟩ : ∃ v, -w2v = v := ⟨_, rfl⟩
    have w3g := zrg64 w3v
    have w3z := zlneg0 w3
    refine zs_lneg (pc := 11) t298_11 (c := w3v) w3 ?_
    refine zs_goto (pc := 12) t298_12 ?_
    refine zs_lstore (pc := 20) t298_20 (ls' := [(5, .long w3v), (0, .long aL), (2, .long bL), (4, .int a)]) (zml mf298 (by decide)) rfl ?_
    refine zs_iload (pc := 22) t298_22 rfl ?_
    by_cases w4 : a.toInt ≠ 0
    · refine zs_if_neT (pc := 24) t298_24 rfl (by omega) ?_
      refine zs_lload_n (pc := 34) t298_34 rfl ?_
      refine zs_lload (pc := 35) t298_35 rfl ?_
      obtain ⟨w5v, w5⟩ : ∃ v, bL / w3v = v := ⟨_, rfl⟩
      have w5g := zrg64 w5v
      refine zs_ldiv (pc := 37) t298_37 (znz64 rfl (by omega)) (c := w5v) w5 ?_
      exact zs_lret (pc := 38) t298_38 mr298 (hQ _)
    · refine zs_if_neF (pc := 24) t298_24 rfl (by omega) ?_
      refine zs_lload_n (pc := 27) t298_27 rfl ?_
      refine zs_lload (pc := 28) t298_28 rfl ?_
      obtain ⟨w6v, w6⟩ : ∃ v, aL / w3v = v := ⟨_, rfl⟩
      have w6g := zrg64 w6v
      refine zs_ldiv (pc := 30) t298_30 (znz64 rfl (by omega)) (c := w6v) w6 ?_
      refine zs_goto (pc := 31) t298_31 ?_
      exact zs_lret (pc := 38) t298_38 mr298 (hQ _)
  by_cases w7 : bL.toInt = 0
  · refine zs_lcmp (pc := 2) t298_2 (c := 0) (zlcE rfl ll0 (by omega)) ?_
    refine zs_if_geT (pc := 3) t298_3 li0 (by decide) ?_
    refine zs_lload_n (pc := 15) t298_15 rfl ?_
    refine zs_lload_n (pc := 16) t298_16 rfl ?_
    refine zs_invS (pc := 17) (as := [.long aL, .long bL]) (st := []) t298_17 (by decide) mf299 rfl rfl ⟨by decide, by decide, Nat.le_of_ble_eq_true rfl, Nat.le_of_ble_eq_true rfl⟩ (K299 hs hI (by omega) ?_) (fun _ _ q => q)
    intro w8v w8x0
    have w8g := zrg64 w8v
    show zGo X l 1 0 0 298 20 [(0, .long aL), (2, .long bL), (4, .int a)] [.long w8v] M _
    refine zs_lstore (pc := 20) t298_20 (ls' := [(5, .long w8v), (0, .long aL), (2, .long bL), (4, .int a)]) (zml mf298 (by decide)) rfl ?_
    refine zs_iload (pc := 22) t298_22 rfl ?_
    by_cases w9 : a.toInt ≠ 0
    · refine zs_if_neT (pc := 24) t298_24 rfl (by omega) ?_
      refine zs_lload_n (pc := 34) t298_34 rfl ?_
      refine zs_lload (pc := 35) t298_35 rfl ?_
      obtain ⟨w10v, w10⟩ : ∃ v, bL / w8v = v := ⟨_, rfl⟩
      have w10g := zrg64 w10v
      refine zs_ldiv (pc := 37) t298_37 (znz64 rfl (by omega)) (c := w10v) w10 ?_
      exact zs_lret (pc := 38) t298_38 mr298 (hQ _)
    · refine zs_if_neF (pc := 24) t298_24 rfl (by omega) ?_
      refine zs_lload_n (pc := 27) t298_27 rfl ?_
      refine zs_lload (pc := 28) t298_28 rfl ?_
      obtain ⟨w11v, w11⟩ : ∃ v, aL / w8v = v := ⟨_, rfl⟩
      have w11g := zrg64 w11v
      refine zs_ldiv (pc := 30) t298_30 (znz64 rfl (by omega)) (c := w11v) w11 ?_
      refine zs_goto (pc := 31) t298_31 ?_
      exact zs_lret (pc := 38) t298_38 mr298 (hQ _)
  refine zs_lcmp (pc := 2) t298_2 (c := 1) (zlcG rfl ll0 (by omega)) ?_
  refine zs_if_geT (pc := 3) t298_3 li1 (by decide) ?_
  refine zs_lload_n (pc := 15) t298_15 rfl ?_
  refine zs_lload_n (pc := 16) t298_16 rfl ?_
  refine zs_invS (pc := 17) (as := [.long aL, .long bL]) (st := []) t298_17 (by decide) mf299 rfl rfl ⟨by decide, by decide, Nat.le_of_ble_eq_true rfl, Nat.le_of_ble_eq_true rfl⟩ (K299 hs hI (by omega) ?_) (fun _ _ q => q)
  intro w13v w13x0
  have w13g := zrg64 w13v
  show zGo X l 1 0 0 298 20 [(0, .long aL), (2, .long bL), (4, .int a)] [.long w13v] M _
  refine zs_lstore (pc := 20) t298_20 (ls' := [(5, .long w13v), (0, .long aL), (2, .long bL), (4, .int a)]) (zml mf298 (by decide)) rfl ?_
  refine zs_iload (pc := 22) t298_22 rfl ?_
  by_cases w14 : a.toInt ≠ 0
  · refine zs_if_neT (pc := 24) t298_24 rfl (by omega) ?_
    refine zs_lload_n (pc := 34) t298_34 rfl ?_
    refine zs_lload (pc := 35) t298_35 rfl ?_
    obtain ⟨w15v, w15⟩ : ∃ v, bL / w13v = v := ⟨_, rfl⟩
    have w15g := zrg64 w15v
    refine zs_ldiv (pc := 37) t298_37 (znz64 rfl (by omega)) (c := w15v) w15 ?_
    exact zs_lret (pc := 38) t298_38 mr298 (hQ _)
  · refine zs_if_neF (pc := 24) t298_24 rfl (by omega) ?_
    refine zs_lload_n (pc := 27) t298_27 rfl ?_
    refine zs_lload (pc := 28) t298_28 rfl ?_
    obtain ⟨w16v, w16⟩ : ∃ v, aL / w13v = v := ⟨_, rfl⟩
    have w16g := zrg64 w16v
    refine zs_ldiv (pc := 30) t298_30 (znz64 rfl (by omega)) (c := w16v) w16 ?_
    refine zs_goto (pc := 31) t298_31 ?_
    exact zs_lret (pc := 38) t298_38 mr298 (hQ _)
theorem K296 {X : zX} {l : Launch} {M : zM} {Q : Option Value → zM → Prop} {a b : Int32} (hs : zSk zMm M) (hI : zIv mLo mHi M) (pR : zPR M) (pC : zPC M) (pF : zPF M) (hQ : ∀ (M' : zM) (v : Int64), zSk zMm M' → zIv mLo mHi M' → zFr [(336, 363, none)] M M' → zPR M' → zPC M' → zPF M' → Q (some (.long v)) M') : zCall X l 7 0 0 296 [.ref 336, .int a, .int b] M Q := by
  have ga := zrg a
  have gb := zrg b
  refine zs_in (by decide) mf296 (Nat.le_of_ble_eq_true rfl) ?_
  show zGo X l 7 0 0 296 0 [(0, .ref 336), (1, .int a), (2, .int b)] [] M _
  refine zs_aload_n (pc := 0) t296_0 rfl ?_
  refine zs_invV (pc := 1) (k := 336) (as' := []) (st := []) t296_1 mf268 rfl rfl (Or.inl ⟨by decide, (zk1 (hs.k fk_zMm_336))⟩) ⟨by decide, by decide, Nat.le_of_ble_eq_true rfl, Nat.le_of_ble_eq_true rfl⟩ (K268 hs hI pR pF ?_) (fun _ _ q => q)
  intro w1M w1s w1I w1F w1PF w1PD w1PV
  show zGo X l 7 0 0 296 4 [(0, .ref 336), (1, .int a), (2, .int b)] [] w1M _
  refine zs_aload_n (pc := 4) t296_4 rfl ?_
  refine zs_iload_n (pc := 5) t296_5 rfl ?_
  refine zs_invV (pc := 6) (k := 336) (as' := [.int a]) (st := []) t296_6 mf297 rfl rfl (Or.inl ⟨by decide, (zk1 (w1s.k fk_zMm_336))⟩) ⟨by decide, by decide, Nat.le_of_ble_eq_true rfl, Nat.le_of_ble_eq_true rfl⟩ (zs_in (by decide) mf297 (Nat.le_of_ble_eq_true rfl) ?_) (fun _ _ q => q)
  show zGo X l 1 0 0 297 0 [(0, .ref 336), (1, .int a)] [] w1M _
  refine zs_iload_n (pc := 0) t297_0 rfl ?_
  refine zs_i2l (pc := 1) t297_1 rfl ?_
  refine zs_lconst (pc := 2) t297_2 (v := 0) (by decide) ?_
  refine zs_aload_n (pc := 3) t297_3 rfl ?_
  have w2 := ib336_22 w1I
  refine zs_get (pc := 4) t297_4 (by decide) (zk1 (w1s.k fk_zMm_336)) (zfvi rfl rfl) ?_
  refine zs_iconst (pc := 7) t297_7 (v := 1) (by decide) ?_
  obtain ⟨w3v, w3e, w3⟩ := zisub (a := (zI w1M 336 22)) (b := (1 : Int32)) rfl li1 (by omega) (by omega)
  refine zs_isub (pc := 8) t297_8 (c := w3v) w3e ?_
  refine zs_i2l (pc := 9) t297_9 rfl ?_
  by_cases w4 : 0 ≤ a.toInt ∧ a.toInt ≤ ((zI w1M 336 22).toInt - 1)
  · refine zs_invS (pc := 10) (as := [.long a.toInt64, .long (0 : Int64), .long w3v.toInt64]) (st := []) t297_10 (by decide) mf228 rfl rfl ⟨by decide, by decide, Nat.le_of_ble_eq_true rfl, Nat.le_of_ble_eq_true rfl⟩ (K228T (zi2l rfl) ll0 (zi2l w3) (by omega) ?_) (fun _ _ q => q)
    show zGo X l 1 0 0 297 13 [(0, .ref 336), (1, .int a)] [.int (1 : Int32)] w1M _
    refine zs_iret (pc := 13) t297_13 mr297 (by decide) ?_
    show zGo X l 7 0 0 296 9 [(0, .ref 336), (1, .int a), (2, .int b)] [.int (1 : Int32)] w1M _
    refine zs_if_eqF (pc := 9) t296_9 li1 (by decide) ?_
    refine zs_iload_n (pc := 12) t296_12 rfl ?_
    refine zs_i2l (pc := 13) t296_13 rfl ?_
    refine zs_lconst (pc := 14) t296_14 (v := 0) (by decide) ?_
    refine zs_ldc2_w (pc := 15) t296_15 (v := 5) (by decide) ?_
    by_cases w5 : 0 ≤ b.toInt ∧ b.toInt ≤ 5
    · refine zs_invS (pc := 18) (as := [.long b.toInt64, .long (0 : Int64), .long (5 : Int64)]) (st := []) t296_18 (by decide) mf228 rfl rfl ⟨by decide, by decide, Nat.le_of_ble_eq_true rfl, Nat.le_of_ble_eq_true rfl⟩ (K228T (zi2l rfl) ll0 ll5 (by omega) ?_) (fun _ _ q => q)
      show zGo X l 7 0 0 296 21 [(0, .ref 336), (1, .int a), (2, .int b)] [.int (1 : Int32)] w1M _
      refine zs_if_neT (pc := 21) t296_21 li1 (by decide) ?_
      refine zs_iload_n (pc := 28) t296_28 rfl ?_
      refine zs_iconst (pc := 29) t296_29 (v := 2) (by decide) ?_
      by_cases w6 : 2 ≤ b.toInt
      · refine zs_icmp_geT (pc := 30) t296_30 rfl li2 (by omega) ?_
        refine zs_iload_n (pc := 42) t296_42 rfl ?_
        refine zs_iconst (pc := 43) t296_43 (v := 4) (by decide) ?_
        by_cases w7 : 4 ≤ b.toInt
        · refine zs_icmp_geT (pc := 44) t296_44 rfl li4 (by omega) ?_
          refine zs_aload_n (pc := 56) t296_56 rfl ?_
          refine zs_get (pc := 57) t296_57 (by decide) (zk1 (w1s.k fk_zMm_336)) (w1s.p rfl fv_zMm_336_32) ?_
          refine zs_iload_n (pc := 60) t296_60 rfl ?_
          obtain ⟨w8n, w8⟩ : ∃ n : Nat, a.toInt = (n : Int) := ⟨(a.toInt).toNat, by omega⟩
          have w9 := zrg64 (zJ w1M 354 w8n)
          refine zs_lald (pc := 61) t296_61 (j := w8n) (zk1 (w1s.k fk_zMm_354)) (show a.toInt = ((w8n : Nat) : Int) by omega) (zk2 (w1s.k fk_zMm_354) (by omega)) rfl ?_
          refine zs_aload_n (pc := 62) t296_62 rfl ?_
          refine zs_get (pc := 63) t296_63 (by decide) (zk1 (w1s.k fk_zMm_336)) (w1s.p rfl fv_zMm_336_29) ?_
          refine zs_iload_n (pc := 66) t296_66 rfl ?_
          have w10 := zrg64 (zJ w1M 351 w8n)
          have w11 : (zI w1M 336 22).toInt = (zI w1M 336 22).toInt := (congrArg Int32.toInt rfl).trans rfl
          have w12 : 0 < (zJ w1M 351 w8n).toInt := w1PD w8n (by omega)
          refine zs_lald (pc := 67) t296_67 (j := w8n) (zk1 (w1s.k fk_zMm_351)) (show a.toInt = ((w8n : Nat) : Int) by omega) (zk2 (w1s.k fk_zMm_351) (by omega)) rfl ?_
          refine zs_iload_n (pc := 68) t296_68 rfl ?_
          refine zs_iconst (pc := 69) t296_69 (v := 2) (by decide) ?_
          obtain ⟨w13v, w13⟩ : ∃ v, b - b / (2 : Int32) * (2 : Int32) = v := ⟨_, rfl⟩
          have w13g : 0 ≤ w13v.toInt ∧ w13v.toInt ≤ 1 := by rw [← w13]; exact zrem rfl li2 (by omega) (by decide)
          refine zs_irem (pc := 70) t296_70 (by decide) (c := w13v) w13 ?_
          refine zs_invS (pc := 71) (as := [.long (zJ w1M 354 w8n), .long (zJ w1M 351 w8n), .int w13v]) (st := []) t296_71 (by decide) mf298 rfl rfl ⟨by decide, by decide, Nat.le_of_ble_eq_true rfl, Nat.le_of_ble_eq_true rfl⟩ (K298 w1s w1I (by omega) ?_) (fun _ _ q => q)
          intro w14v
          have w14g := zrg64 w14v
          show zGo X l 7 0 0 296 74 [(0, .ref 336), (1, .int a), (2, .int b)] [.long w14v] w1M _
          exact zs_lret (pc := 74) t296_74 mr296 (hQ _ _ w1s w1I ((zFr.refl).trans (w1F.mono rfl)) (zPR.fr pR (w1F.eq rfl)) (zPC.fr pC (w1F.eq rfl)) w1PF)
        · refine zs_icmp_geF (pc := 44) t296_44 rfl li4 (by omega) ?_
          refine zs_aload_n (pc := 47) t296_47 rfl ?_
          refine zs_get (pc := 48) t296_48 (by decide) (zk1 (w1s.k fk_zMm_336)) (w1s.p rfl fv_zMm_336_31) ?_
          refine zs_iload_n (pc := 51) t296_51 rfl ?_
          obtain ⟨w15n, w15⟩ : ∃ n : Nat, a.toInt = (n : Int) := ⟨(a.toInt).toNat, by omega⟩
          have w16 := zrg64 (zJ w1M 353 w15n)
          refine zs_lald (pc := 52) t296_52 (j := w15n) (zk1 (w1s.k fk_zMm_353)) (show a.toInt = ((w15n : Nat) : Int) by omega) (zk2 (w1s.k fk_zMm_353) (by omega)) rfl ?_
          refine zs_goto (pc := 53) t296_53 ?_
          refine zs_aload_n (pc := 62) t296_62 rfl ?_
          refine zs_get (pc := 63) t296_63 (by decide) (zk1 (w1s.k fk_zMm_336)) (w1s.p rfl fv_zMm_336_29) ?_
          refine zs_iload_n (pc := 66) t296_66 rfl ?_
          have w17 := zrg64 (zJ w1M 351 w15n)
          have w18 : (zI w1M 336 22).toInt = (zI w1M 336 22).toInt := (congrArg Int32.toInt rfl).trans rfl
          have w19 : 0 < (zJ w1M 351 w15n).toInt := w1PD w15n (by omega)
          refine zs_lald (pc := 67) t296_67 (j := w15n) (zk1 (w1s.k fk_zMm_351)) (show a.toInt = ((w15n : Nat) : Int) by omega) (zk2 (w1s.k fk_zMm_351) (by omega)) rfl ?_
          refine zs_iload_n (pc := 68) t296_68 rfl ?_
          refine zs_iconst (pc := 69) t296_69 (v := 2) (by decide) ?_
          obtain ⟨w20v, w20⟩ : ∃ v, b - b / (2 : Int32) * (2 : Int32) = v := ⟨_, rfl⟩
          have w20g : 0 ≤ w20v.toInt ∧ w20v.toInt ≤ 1 := by rw [← w20]; exact zrem rfl li2 (by omega) (by decide)
          refine zs_irem (pc := 70) t296_70 (by decide) (c := w20v) w20 ?_
          refine zs_invS (pc := 71) (as := [.long (zJ w1M 353 w15n), .long (zJ w1M 351 w15n), .int w20v]) (st := []) t296_71 (by decide) mf298 rfl rfl ⟨by decide, by decide, Nat.le_of_ble_eq_true rfl, Nat.le_of_ble_eq_true rfl⟩ (K298 w1s w1I (by omega) ?_) (fun _ _ q => q)
          intro w21v
          have w21g := zrg64 w21v
          show zGo X l 7 0 0 296 74 [(0, .ref 336), (1, .int a), (2, .int b)] [.long w21v] w1M _
          exact zs_lret (pc := 74) t296_74 mr296 (hQ _ _ w1s w1I ((zFr.refl).trans (w1F.mono rfl)) (zPR.fr pR (w1F.eq rfl)) (zPC.fr pC (w1F.eq rfl)) w1PF)
      · refine zs_icmp_geF (pc := 30) t296_30 rfl li2 (by omega) ?_
        refine zs_aload_n (pc := 33) t296_33 rfl ?_
        refine zs_get (pc := 34) t296_34 (by decide) (zk1 (w1s.k fk_zMm_336)) (w1s.p rfl fv_zMm_336_30) ?_
        refine zs_iload_n (pc := 37) t296_37 rfl ?_
        obtain ⟨w22n, w22⟩ : ∃ n : Nat, a.toInt = (n : Int) := ⟨(a.toInt).toNat, by omega⟩
        have w23 := zrg64 (zJ w1M 352 w22n)
        refine zs_lald (pc := 38) t296_38 (j := w22n) (zk1 (w1s.k fk_zMm_352)) (show a.toInt = ((w22n : Nat) : Int) by omega) (zk2 (w1s.k fk_zMm_352) (by omega)) rfl ?_
        refine zs_goto (pc := 39) t296_39 ?_
        refine zs_aload_n (pc := 62) t296_62 rfl ?_
        refine zs_get (pc := 63) t296_63 (by decide) (zk1 (w1s.k fk_zMm_336)) (w1s.p rfl fv_zMm_336_29) ?_
        refine zs_iload_n (pc := 66) t296_66 rfl ?_
        have w24 := zrg64 (zJ w1M 351 w22n)
        have w25 : (zI w1M 336 22).toInt = (zI w1M 336 22).toInt := (congrArg Int32.toInt rfl).trans rfl
        have w26 : 0 < (zJ w1M 351 w22n).toInt := w1PD w22n (by omega)
        refine zs_lald (pc := 67) t296_67 (j := w22n) (zk1 (w1s.k fk_zMm_351)) (show a.toInt = ((w22n : Nat) : Int) by omega) (zk2 (w1s.k fk_zMm_351) (by omega)) rfl ?_
        refine zs_iload_n (pc := 68) t296_68 rfl ?_
        refine zs_iconst (pc := 69) t296_69 (v := 2) (by decide) ?_
        obtain ⟨w27v, w27⟩ : ∃ v, b - b / (2 : Int32) * (2 : Int32) = v := ⟨_, rfl⟩
        have w27g : 0 ≤ w27v.toInt ∧ w27v.toInt ≤ 1 := by rw [← w27]; exact zrem rfl li2 (by omega) (by decide)
        refine zs_irem (pc := 70) t296_70 (by decide) (c := w27v) w27 ?_
        refine zs_invS (pc := 71) (as := [.long (zJ w1M 352 w22n), .long (zJ w1M 351 w22n), .int w27v]) (st := []) t296_71 (by decide) mf298 rfl rfl ⟨by decide, by decide, Nat.le_of_ble_eq_true rfl, Nat.le_of_ble_eq_true rfl⟩ (K298 w1s w1I (by omega) ?_) (fun _ _ q => q)
        intro w28v
        have w28g := zrg64 w28v
        show zGo X l 7 0 0 296 74 [(0, .ref 336), (1, .int a), (2, .int b)] [.long w28v] w1M _
        exact zs_lret (pc := 74) t296_74 mr296 (hQ _ _ w1s w1I ((zFr.refl).trans (w1F.mono rfl)) (zPR.fr pR (w1F.eq rfl)) (zPC.fr pC (w1F.eq rfl)) w1PF)
    · refine zs_invS (pc := 18) (as := [.long b.toInt64, .long (0 : Int64), .long (5 : Int64)]) (st := []) t296_18 (by decide) mf228 rfl rfl ⟨by decide, by decide, Nat.le_of_ble_eq_true rfl, Nat.le_of_ble_eq_true rfl⟩ (K228F (zi2l rfl) ll0 ll5 (by omega) ?_) (fun _ _ q => q)
      show zGo X l 7 0 0 296 21 [(0, .ref 336), (1, .int a), (2, .int b)] [.int (0 : Int32)] w1M _
      refine zs_if_neF (pc := 21) t296_21 li0 (by decide) ?_
      refine zs_ldc2_w (pc := 24) t296_24 (v := -1000000000000) (by decide) ?_
      exact zs_lret (pc := 27) t296_27 mr296 (hQ _ _ w1s w1I ((zFr.refl).trans (w1F.mono rfl)) (zPR.fr pR (w1F.eq rfl)) (zPC.fr pC (w1F.eq rfl)) w1PF)
  · refine zs_invS (pc := 10) (as := [.long a.toInt64, .long (0 : Int64), .long w3v.toInt64]) (st := []) t297_10 (by decide) mf228 rfl rfl ⟨by decide, by decide, Nat.le_of_ble_eq_true rfl, Nat.le_of_ble_eq_true rfl⟩ (K228F (zi2l rfl) ll0 (zi2l w3) (by omega) ?_) (fun _ _ q => q)
    show zGo X l 1 0 0 297 13 [(0, .ref 336), (1, .int a)] [.int (0 : Int32)] w1M _
    refine zs_iret (pc := 13) t297_13 mr297 (by decide) ?_
    show zGo X l 7 0 0 296 9 [(0, .ref 336), (1, .int a), (2, .int b)] [.int (0 : Int32)] w1M _
    refine zs_if_eqT (pc := 9) t296_9 li0 (by decide) ?_
    refine zs_ldc2_w (pc := 24) t296_24 (v := -1000000000000) (by decide) ?_
    exact zs_lret (pc := 27) t296_27 mr296 (hQ _ _ w1s w1I ((zFr.refl).trans (w1F.mono rfl)) (zPR.fr pR (w1F.eq rfl)) (zPC.fr pC (w1F.eq rfl)) w1PF)
theorem K300 {X : zX} {l : Launch} {M : zM} {Q : Option Value → zM → Prop} {a b c : Int32} (hs : zSk zMm M) (hI : zIv mLo mHi M) (pR : zPR M) (pC : zPC M) (pF : zPF M) (hQ : ∀ (M' : zM) (v : Int64), zSk zMm M' → zIv mLo mHi M' → zFr [(336, 363, none)] M M' → zPR M' → zPC M' → zPF M' → Q (some (.long v)) M') : zCall X l 7 0 0 300 [.ref 336, .int a, .int b, .int c] M Q := by
  have ga := zrg a
  have gb := zrg b
  have gc := zrg c
  refine zs_in (by decide) mf300 (Nat.le_of_ble_eq_true rfl) ?_
  show zGo X l 7 0 0 300 0 [(0, .ref 336), (1, .int a), (2, .int b), (3, .int c)] [] M _
  refine zs_aload_n (pc := 0) t300_0 rfl ?_
  refine zs_invV (pc := 1) (k := 336) (as' := []) (st := []) t300_1 mf268 rfl rfl (Or.inl ⟨by decide, (zk1 (hs.k fk_zMm_336))⟩) ⟨by decide, by decide, Nat.le_of_ble_eq_true rfl, Nat.le_of_ble_eq_true rfl⟩ (K268 hs hI pR pF ?_) (fun _ _ q => q)
  intro w1M w1s w1I w1F w1PF w1PD w1PV
  show zGo X l 7 0 0 300 4 [(0, .ref 336), (1, .int a), (2, .int b), (3, .int c)] [] w1M _
  refine zs_aload_n (pc := 4) t300_4 rfl ?_
  refine zs_iload_n (pc := 5) t300_5 rfl ?_
  refine zs_invV (pc := 6) (k := 336) (as' := [.int a]) (st := []) t300_6 mf297 rfl rfl (Or.inl ⟨by decide, (zk1 (w1s.k fk_zMm_336))⟩) ⟨by decide, by decide, Nat.le_of_ble_eq_true rfl, Nat.le_of_ble_eq_true rfl⟩ (zs_in (by decide) mf297 (Nat.le_of_ble_eq_true rfl) ?_) (fun _ _ q => q)
  show zGo X l 1 0 0 297 0 [(0, .ref 336), (1, .int a)] [] w1M _
  refine zs_iload_n (pc := 0) t297_0 rfl ?_
  refine zs_i2l (pc := 1) t297_1 rfl ?_
  refine zs_lconst (pc := 2) t297_2 (v := 0) (by decide) ?_
  refine zs_aload_n (pc := 3) t297_3 rfl ?_
  have w2 := ib336_22 w1I
  refine zs_get (pc := 4) t297_4 (by decide) (zk1 (w1s.k fk_zMm_336)) (zfvi rfl rfl) ?_
  refine zs_iconst (pc := 7) t297_7 (v := 1) (by decide) ?_
  obtain ⟨w3v, w3e, w3⟩ := zisub (a := (zI w1M 336 22)) (b := (1 : Int32)) rfl li1 (by omega) (by omega)
  refine zs_isub (pc := 8) t297_8 (c := w3v) w3e ?_
  refine zs_i2l (pc := 9) t297_9 rfl ?_
  by_cases w4 : 0 ≤ a.toInt ∧ a.toInt ≤ ((zI w1M 336 22).toInt - 1)
  · refine zs_invS (pc := 10) (as := [.long a.toInt64, .long (0 : Int64), .long w3v.toInt64]) (st := []) t297_10 (by decide) mf228 rfl rfl ⟨by decide, by decide, Nat.le_of_ble_eq_true rfl, Nat.le_of_ble_eq_true rfl⟩ (K228T (zi2l rfl) ll0 (zi2l w3) (by omega) ?_) (fun _ _ q => q)
    show zGo X l 1 0 0 297 13 [(0, .ref 336), (1, .int a)] [.int (1 : Int32)] w1M _
    refine zs_iret (pc := 13) t297_13 mr297 (by decide) ?_
    show zGo X l 7 0 0 300 9 [(0, .ref 336), (1, .int a), (2, .int b), (3, .int c)] [.int (1 : Int32)] w1M _
    refine zs_if_eqF (pc := 9) t300_9 li1 (by decide) ?_
    refine zs_aload_n (pc := 12) t300_12 rfl ?_
    refine zs_iload_n (pc := 13) t300_13 rfl ?_
    refine zs_invV (pc := 14) (k := 336) (as' := [.int b]) (st := []) t300_14 mf297 rfl rfl (Or.inl ⟨by decide, (zk1 (w1s.k fk_zMm_336))⟩) ⟨by decide, by decide, Nat.le_of_ble_eq_true rfl, Nat.le_of_ble_eq_true rfl⟩ (zs_in (by decide) mf297 (Nat.le_of_ble_eq_true rfl) ?_) (fun _ _ q => q)
    show zGo X l 1 0 0 297 0 [(0, .ref 336), (1, .int b)] [] w1M _
    refine zs_iload_n (pc := 0) t297_0 rfl ?_
    refine zs_i2l (pc := 1) t297_1 rfl ?_
    refine zs_lconst (pc := 2) t297_2 (v := 0) (by decide) ?_
    refine zs_aload_n (pc := 3) t297_3 rfl ?_
    refine zs_get (pc := 4) t297_4 (by decide) (zk1 (w1s.k fk_zMm_336)) (zfvi rfl rfl) ?_
    refine zs_iconst (pc := 7) t297_7 (v := 1) (by decide) ?_
    obtain ⟨w5v, w5e, w5⟩ := zisub (a := (zI w1M 336 22)) (b := (1 : Int32)) rfl li1 (by omega) (by omega)
    refine zs_isub (pc := 8) t297_8 (c := w5v) w5e ?_
    refine zs_i2l (pc := 9) t297_9 rfl ?_
    by_cases w6 : 0 ≤ b.toInt ∧ b.toInt ≤ ((zI w1M 336 22).toInt - 1)
    · refine zs_invS (pc := 10) (as := [.long b.toInt64, .long (0 : Int64), .long w5v.toInt64]) (st := []) t297_10 (by decide) mf228 rfl rfl ⟨by decide, by decide, Nat.le_of_ble_eq_true rfl, Nat.le_of_ble_eq_true rfl⟩ (K228T (zi2l rfl) ll0 (zi2l w5) (by omega) ?_) (fun _ _ q => q)
      show zGo X l 1 0 0 297 13 [(0, .ref 336), (1, .int b)] [.int (1 : Int32)] w1M _
      refine zs_iret (pc := 13) t297_13 mr297 (by decide) ?_
      show zGo X l 7 0 0 300 17 [(0, .ref 336), (1, .int a), (2, .int b), (3, .int c)] [.int (1 : Int32)] w1M _
      refine zs_if_eqF (pc := 17) t300_17 li1 (by decide) ?_
      refine zs_iload_n (pc := 20) t300_20 rfl ?_
      refine zs_iload_n (pc := 21) t300_21 rfl ?_
      by_cases w7 : a.toInt = b.toInt
      · refine zs_icmp_eqT (pc := 22) t300_22 rfl rfl (by omega) ?_
        refine zs_ldc2_w (pc := 35) t300_35 (v := -1000000000000) (by decide) ?_
        exact zs_lret (pc := 38) t300_38 mr300 (hQ _ _ w1s w1I ((zFr.refl).trans (w1F.mono rfl)) (zPR.fr pR (w1F.eq rfl)) (zPC.fr pC (w1F.eq rfl)) w1PF)
      · refine zs_icmp_eqF (pc := 22) t300_22 rfl rfl (by omega) ?_
        refine zs_iload_n (pc := 25) t300_25 rfl ?_
        refine zs_i2l (pc := 26) t300_26 rfl ?_
        refine zs_lconst (pc := 27) t300_27 (v := 0) (by decide) ?_
        refine zs_lconst (pc := 28) t300_28 (v := 1) (by decide) ?_
        by_cases w8 : 0 ≤ c.toInt ∧ c.toInt ≤ 1
        · refine zs_invS (pc := 29) (as := [.long c.toInt64, .long (0 : Int64), .long (1 : Int64)]) (st := []) t300_29 (by decide) mf228 rfl rfl ⟨by decide, by decide, Nat.le_of_ble_eq_true rfl, Nat.le_of_ble_eq_true rfl⟩ (K228T (zi2l rfl) ll0 ll1 (by omega) ?_) (fun _ _ q => q)
          show zGo X l 7 0 0 300 32 [(0, .ref 336), (1, .int a), (2, .int b), (3, .int c)] [.int (1 : Int32)] w1M _
          refine zs_if_neT (pc := 32) t300_32 li1 (by decide) ?_
          refine zs_aload_n (pc := 39) t300_39 rfl ?_
          refine zs_get (pc := 40) t300_40 (by decide) (zk1 (w1s.k fk_zMm_336)) (w1s.p rfl fv_zMm_336_31) ?_
          refine zs_iload_n (pc := 43) t300_43 rfl ?_
          obtain ⟨w9n, w9⟩ : ∃ n : Nat, a.toInt = (n : Int) := ⟨(a.toInt).toNat, by omega⟩
          have w10 := zrg64 (zJ w1M 353 w9n)
          refine zs_lald (pc := 44) t300_44 (j := w9n) (zk1 (w1s.k fk_zMm_353)) (show a.toInt = ((w9n : Nat) : Int) by omega) (zk2 (w1s.k fk_zMm_353) (by omega)) rfl ?_
          refine zs_aload_n (pc := 45) t300_45 rfl ?_
          refine zs_get (pc := 46) t300_46 (by decide) (zk1 (w1s.k fk_zMm_336)) (w1s.p rfl fv_zMm_336_29) ?_
          refine zs_iload_n (pc := 49) t300_49 rfl ?_
          obtain ⟨w11n, w11⟩ : ∃ n : Nat, b.toInt = (n : Int) := ⟨(b.toInt).toNat, by omega⟩
          have w12 := zrg64 (zJ w1M 351 w11n)
          have w13 : (zI w1M 336 22).toInt = (zI w1M 336 22).toInt := (congrArg Int32.toInt rfl).trans rfl
          have w14 : 0 < (zJ w1M 351 w11n).toInt := w1PD w11n (by omega)
          refine zs_lald (pc := 50) t300_50 (j := w11n) (zk1 (w1s.k fk_zMm_351)) (show b.toInt = ((w11n : Nat) : Int) by omega) (zk2 (w1s.k fk_zMm_351) (by omega)) rfl ?_
          obtain ⟨w15v, w15⟩ : ∃ v, (zJ w1M 353 w9n) * (zJ w1M 351 w11n) = v := ⟨_, rfl⟩
          have w15g := zrg64 w15v
          refine zs_lmul (pc := 51) t300_51 (c := w15v) w15 ?_
          refine zs_aload_n (pc := 52) t300_52 rfl ?_
          refine zs_get (pc := 53) t300_53 (by decide) (zk1 (w1s.k fk_zMm_336)) (w1s.p rfl fv_zMm_336_31) ?_
          refine zs_iload_n (pc := 56) t300_56 rfl ?_
          have w16 := zrg64 (zJ w1M 353 w11n)
          refine zs_lald (pc := 57) t300_57 (j := w11n) (zk1 (w1s.k fk_zMm_353)) (show b.toInt = ((w11n : Nat) : Int) by omega) (zk2 (w1s.k fk_zMm_353) (by omega)) rfl ?_
          refine zs_aload_n (pc := 58) t300_58 rfl ?_
          refine zs_get (pc := 59) t300_59 (by decide) (zk1 (w1s.k fk_zMm_336)) (w1s.p rfl fv_zMm_336_29) ?_
          refine zs_iload_n (pc := 62) t300_62 rfl ?_
          have w17 := zrg64 (zJ w1M 351 w9n)
          have w18 : (zI w1M 336 22).toInt = (zI w1M 336 22).toInt := (congrArg Int32.toInt rfl).trans rfl
          have w19 : 0 < (zJ w1M 351 w9n).toInt := w1PD w9n (by omega)
          refine zs_lald (pc := 63) t300_63 (j := w9n) (zk1 (w1s.k fk_zMm_351)) (show a.toInt = ((w9n : Nat) : Int) by omega) (zk2 (w1s.k fk_zMm_351) (by omega)) rfl ?_
          obtain ⟨w20v, w20⟩ : ∃ v, (zJ w1M 353 w11n) * (zJ w1M 351 w9n) = v := ⟨_, rfl⟩
          have w20g := zrg64 w20v
          refine zs_lmul (pc := 64) t300_64 (c := w20v) w20 ?_
          obtain ⟨w21v, w21⟩ : ∃ v, w15v - w20v = v := ⟨_, rfl⟩
          have w21g := zrg64 w21v
          refine zs_lsub (pc := 65) t300_65 (c := w21v) w21 ?_
          refine zs_lstore (pc := 66) t300_66 (ls' := [(4, .long w21v), (0, .ref 336), (1, .int a), (2, .int b), (3, .int c)]) (zml mf300 (by decide)) rfl ?_
          refine zs_lload (pc := 68) t300_68 rfl ?_
          refine zs_lconst (pc := 70) t300_70 (v := 0) (by decide) ?_
          by_cases w22 : w21v.toInt < 0
          · refine zs_lcmp (pc := 71) t300_71 (c := -1) (zlcL rfl ll0 (by omega)) ?_
            refine zs_if_neT (pc := 72) t300_72 lin1 (by decide) ?_
            refine zs_aload_n (pc := 81) t300_81 rfl ?_
            refine zs_get (pc := 82) t300_82 (by decide) (zk1 (w1s.k fk_zMm_336)) (w1s.p rfl fv_zMm_336_30) ?_
            refine zs_iload_n (pc := 85) t300_85 rfl ?_
            have w23 := zrg64 (zJ w1M 352 w11n)
            refine zs_lald (pc := 86) t300_86 (j := w11n) (zk1 (w1s.k fk_zMm_352)) (show b.toInt = ((w11n : Nat) : Int) by omega) (zk2 (w1s.k fk_zMm_352) (by omega)) rfl ?_
            refine zs_aload_n (pc := 87) t300_87 rfl ?_
            refine zs_get (pc := 88) t300_88 (by decide) (zk1 (w1s.k fk_zMm_336)) (w1s.p rfl fv_zMm_336_29) ?_
            refine zs_iload_n (pc := 91) t300_91 rfl ?_
            have w24 := zrg64 (zJ w1M 351 w9n)
            have w25 : (zI w1M 336 22).toInt = (zI w1M 336 22).toInt := (congrArg Int32.toInt rfl).trans rfl
            have w26 : 0 < (zJ w1M 351 w9n).toInt := w1PD w9n (by omega)
            refine zs_lald (pc := 92) t300_92 (j := w9n) (zk1 (w1s.k fk_zMm_351)) (show a.toInt = ((w9n : Nat) : Int) by omega) (zk2 (w1s.k fk_zMm_351) (by omega)) rfl ?_
            obtain ⟨w27v, w27⟩ : ∃ v, (zJ w1M 352 w11n) * (zJ w1M 351 w9n) = v := ⟨_, rfl⟩
            have w27g := zrg64 w27v
            refine zs_lmul (pc := 93) t300_93 (c := w27v) w27 ?_
            refine zs_aload_n (pc := 94) t300_94 rfl ?_
            refine zs_get (pc := 95) t300_95 (by decide) (zk1 (w1s.k fk_zMm_336)) (w1s.p rfl fv_zMm_336_30) ?_
            refine zs_iload_n (pc := 98) t300_98 rfl ?_
            have w28 := zrg64 (zJ w1M 352 w9n)
            refine zs_lald (pc := 99) t300_99 (j := w9n) (zk1 (w1s.k fk_zMm_352)) (show a.toInt = ((w9n : Nat) : Int) by omega) (zk2 (w1s.k fk_zMm_352) (by omega)) rfl ?_
            refine zs_aload_n (pc := 100) t300_100 rfl ?_
            refine zs_get (pc := 101) t300_101 (by decide) (zk1 (w1s.k fk_zMm_336)) (w1s.p rfl fv_zMm_336_29) ?_
            refine zs_iload_n (pc := 104) t300_104 rfl ?_
            have w29 := zrg64 (zJ w1M 351 w11n)
            have w30 : (zI w1M 336 22).toInt = (zI w1M 336 22).toInt := (congrArg Int32.toInt rfl).trans rfl
            have w31 : 0 < (zJ w1M 351 w11n).toInt := w1PD w11n (by omega)
            refine zs_lald (pc := 105) t300_105 (j := w11n) (zk1 (w1s.k fk_zMm_351)) (show b.toInt = ((w11n : Nat) : Int) by omega) (zk2 (w1s.k fk_zMm_351) (by omega)) rfl ?_
            obtain ⟨w32v, w32⟩ : ∃ v, (zJ w1M 352 w9n) * (zJ w1M 351 w11n) = v := ⟨_, rfl⟩
            have w32g := zrg64 w32v
            refine zs_lmul (pc := 106) t300_106 (c := w32v) w32 ?_
            obtain ⟨w33v, w33⟩ : ∃ v, w27v - w32v = v := ⟨_, rfl⟩
            have w33g := zrg64 w33v
            refine zs_lsub (pc := 107) t300_107 (c := w33v) w33 ?_
            refine zs_lload (pc := 108) t300_108 rfl ?_
            refine zs_iload_n (pc := 110) t300_110 rfl ?_
            refine zs_invS (pc := 111) (as := [.long w33v, .long w21v, .int c]) (st := []) t300_111 (by decide) mf298 rfl rfl ⟨by decide, by decide, Nat.le_of_ble_eq_true rfl, Nat.le_of_ble_eq_true rfl⟩ (K298 w1s w1I (by omega) ?_) (fun _ _ q => q)
            intro w34v
            have w34g := zrg64 w34v
            show zGo X l 7 0 0 300 114 [(4, .long w21v), (0, .ref 336), (1, .int a), (2, .int b), (3, .int c)] [.long w34v] w1M _
            exact zs_lret (pc := 114) t300_114 mr300 (hQ _ _ w1s w1I ((zFr.refl).trans (w1F.mono rfl)) (zPR.fr pR (w1F.eq rfl)) (zPC.fr pC (w1F.eq rfl)) w1PF)
          by_cases w35 : w21v.toInt = 0
          · refine zs_lcmp (pc := 71) t300_71 (c := 0) (zlcE rfl ll0 (by omega)) ?_
            refine zs_if_neF (pc := 72) t300_72 li0 (by decide) ?_
            refine zs_ldc2_w (pc := 75) t300_75 (v := -2) (by decide) ?_
            refine zs_goto (pc := 78) t300_78 ?_
            exact zs_lret (pc := 114) t300_114 mr300 (hQ _ _ w1s w1I ((zFr.refl).trans (w1F.mono rfl)) (zPR.fr pR (w1F.eq rfl)) (zPC.fr pC (w1F.eq rfl)) w1PF)
          refine zs_lcmp (pc := 71) t300_71 (c := 1) (zlcG rfl ll0 (by omega)) ?_
          refine zs_if_neT (pc := 72) t300_72 li1 (by decide) ?_
          refine zs_aload_n (pc := 81) t300_81 rfl ?_
          refine zs_get (pc := 82) t300_82 (by decide) (zk1 (w1s.k fk_zMm_336)) (w1s.p rfl fv_zMm_336_30) ?_
          refine zs_iload_n (pc := 85) t300_85 rfl ?_
          have w37 := zrg64 (zJ w1M 352 w11n)
          refine zs_lald (pc := 86) t300_86 (j := w11n) (zk1 (w1s.k fk_zMm_352)) (show b.toInt = ((w11n : Nat) : Int) by omega) (zk2 (w1s.k fk_zMm_352) (by omega)) rfl ?_
          refine zs_aload_n (pc := 87) t300_87 rfl ?_
          refine zs_get (pc := 88) t300_88 (by decide) (zk1 (w1s.k fk_zMm_336)) (w1s.p rfl fv_zMm_336_29) ?_
          refine zs_iload_n (pc := 91) t300_91 rfl ?_
          have w38 := zrg64 (zJ w1M 351 w9n)
          have w39 : (zI w1M 336 22).toInt = (zI w1M 336 22).toInt := (congrArg Int32.toInt rfl).trans rfl
          have w40 : 0 < (zJ w1M 351 w9n).toInt := w1PD w9n (by omega)
          refine zs_lald (pc := 92) t300_92 (j := w9n) (zk1 (w1s.k fk_zMm_351)) (show a.toInt = ((w9n : Nat) : Int) by omega) (zk2 (w1s.k fk_zMm_351) (by omega)) rfl ?_
          obtain ⟨w41v, w41⟩ : ∃ v, (zJ w1M 352 w11n) * (zJ w1M 351 w9n) = v := ⟨_, rfl⟩
          have w41g := zrg64 w41v
          refine zs_lmul (pc := 93) t300_93 (c := w41v) w41 ?_
          refine zs_aload_n (pc := 94) t300_94 rfl ?_
          refine zs_get (pc := 95) t300_95 (by decide) (zk1 (w1s.k fk_zMm_336)) (w1s.p rfl fv_zMm_336_30) ?_
          refine zs_iload_n (pc := 98) t300_98 rfl ?_
          have w42 := zrg64 (zJ w1M 352 w9n)
          refine zs_lald (pc := 99) t300_99 (j := w9n) (zk1 (w1s.k fk_zMm_352)) (show a.toInt = ((w9n : Nat) : Int) by omega) (zk2 (w1s.k fk_zMm_352) (by omega)) rfl ?_
          refine zs_aload_n (pc := 100) t300_100 rfl ?_
          refine zs_get (pc := 101) t300_101 (by decide) (zk1 (w1s.k fk_zMm_336)) (w1s.p rfl fv_zMm_336_29) ?_
          refine zs_iload_n (pc := 104) t300_104 rfl ?_
          have w43 := zrg64 (zJ w1M 351 w11n)
          have w44 : (zI w1M 336 22).toInt = (zI w1M 336 22).toInt := (congrArg Int32.toInt rfl).trans rfl
          have w45 : 0 < (zJ w1M 351 w11n).toInt := w1PD w11n (by omega)
          refine zs_lald (pc := 105) t300_105 (j := w11n) (zk1 (w1s.k fk_zMm_351)) (show b.toInt = ((w11n : Nat) : Int) by omega) (zk2 (w1s.k fk_zMm_351) (by omega)) rfl ?_
          obtain ⟨w46v, w46⟩ : ∃ v, (zJ w1M 352 w9n) * (zJ w1M 351 w11n) = v := ⟨_, rfl⟩
          have w46g := zrg64 w46v
          refine zs_lmul (pc := 106) t300_106 (c := w46v) w46 ?_
          obtain ⟨w47v, w47⟩ : ∃ v, w41v - w46v = v := ⟨_, rfl⟩
          have w47g := zrg64 w47v
          refine zs_lsub (pc := 107) t300_107 (c := w47v) w47 ?_
          refine zs_lload (pc := 108) t300_108 rfl ?_
          refine zs_iload_n (pc := 110) t300_110 rfl ?_
          refine zs_invS (pc := 111) (as := [.long w47v, .long w21v, .int c]) (st := []) t300_111 (by decide) mf298 rfl rfl ⟨by decide, by decide, Nat.le_of_ble_eq_true rfl, Nat.le_of_ble_eq_true rfl⟩ (K298 w1s w1I (by omega) ?_) (fun _ _ q => q)
          intro w48v
          have w48g := zrg64 w48v
          show zGo X l 7 0 0 300 114 [(4, .long w21v), (0, .ref 336), (1, .int a), (2, .int b), (3, .int c)] [.long w48v] w1M _
          exact zs_lret (pc := 114) t300_114 mr300 (hQ _ _ w1s w1I ((zFr.refl).trans (w1F.mono rfl)) (zPR.fr pR (w1F.eq rfl)) (zPC.fr pC (w1F.eq rfl)) w1PF)
        · refine zs_invS (pc := 29) (as := [.long c.toInt64, .long (0 : Int64), .long (1 : Int64)]) (st := []) t300_29 (by decide) mf228 rfl rfl ⟨by decide, by decide, Nat.le_of_ble_eq_true rfl, Nat.le_of_ble_eq_true rfl⟩ (K228F (zi2l rfl) ll0 ll1 (by omega) ?_) (fun _ _ q => q)
          show zGo X l 7 0 0 300 32 [(0, .ref 336), (1, .int a), (2, .int b), (3, .int c)] [.int (0 : Int32)] w1M _
          refine zs_if_neF (pc := 32) t300_32 li0 (by decide) ?_
          refine zs_ldc2_w (pc := 35) t300_35 (v := -1000000000000) (by decide) ?_
          exact zs_lret (pc := 38) t300_38 mr300 (hQ _ _ w1s w1I ((zFr.refl).trans (w1F.mono rfl)) (zPR.fr pR (w1F.eq rfl)) (zPC.fr pC (w1F.eq rfl)) w1PF)
    · refine zs_invS (pc := 10) (as := [.long b.toInt64, .long (0 : Int64), .long w5v.toInt64]) (st := []) t297_10 (by decide) mf228 rfl rfl ⟨by decide, by decide, Nat.le_of_ble_eq_true rfl, Nat.le_of_ble_eq_true rfl⟩ (K228F (zi2l rfl) ll0 (zi2l w5) (by omega) ?_) (fun _ _ q => q)
      show zGo X l 1 0 0 297 13 [(0, .ref 336), (1, .int b)] [.int (0 : Int32)] w1M _
      refine zs_iret (pc := 13) t297_13 mr297 (by decide) ?_
      show zGo X l 7 0 0 300 17 [(0, .ref 336), (1, .int a), (2, .int b), (3, .int c)] [.int (0 : Int32)] w1M _
      refine zs_if_eqT (pc := 17) t300_17 li0 (by decide) ?_
      refine zs_ldc2_w (pc := 35) t300_35 (v := -1000000000000) (by decide) ?_
      exact zs_lret (pc := 38) t300_38 mr300 (hQ _ _ w1s w1I ((zFr.refl).trans (w1F.mono rfl)) (zPR.fr pR (w1F.eq rfl)) (zPC.fr pC (w1F.eq rfl)) w1PF)
  · refine zs_invS (pc := 10) (as := [.long a.toInt64, .long (0 : Int64), .long w3v.toInt64]) (st := []) t297_10 (by decide) mf228 rfl rfl ⟨by decide, by decide, Nat.le_of_ble_eq_true rfl, Nat.le_of_ble_eq_true rfl⟩ (K228F (zi2l rfl) ll0 (zi2l w3) (by omega) ?_) (fun _ _ q => q)
    show zGo X l 1 0 0 297 13 [(0, .ref 336), (1, .int a)] [.int (0 : Int32)] w1M _
    refine zs_iret (pc := 13) t297_13 mr297 (by decide) ?_
    show zGo X l 7 0 0 300 9 [(0, .ref 336), (1, .int a), (2, .int b), (3, .int c)] [.int (0 : Int32)] w1M _
    refine zs_if_eqT (pc := 9) t300_9 li0 (by decide) ?_
    refine zs_ldc2_w (pc := 35) t300_35 (v := -1000000000000) (by decide) ?_
    exact zs_lret (pc := 38) t300_38 mr300 (hQ _ _ w1s w1I ((zFr.refl).trans (w1F.mono rfl)) (zPR.fr pR (w1F.eq rfl)) (zPC.fr pC (w1F.eq rfl)) w1PF)
theorem K295 {X : zX} {l : Launch} {M : zM} {Q : Option Value → zM → Prop} {a : Int32} (hs : zSk zMm M) (hI : zIv mLo mHi M) (pR : zPR M) (pC : zPC M) (pF : zPF M) (hQ : ∀ (M' : zM) (v : Int32), zSk zMm M' → zIv mLo mHi M' → zFr [(336, 363, none)] M M' → zPR M' → zPC M' → zPF M' → Q (some (.int v)) M') : zCall X l 8 0 0 295 [.ref 336, .int a] M Q := by
  have ga := zrg a
  refine zs_in (by decide) mf295 (Nat.le_of_ble_eq_true rfl) ?_
  show zGo X l 8 0 0 295 0 [(0, .ref 336), (1, .int a)] [] M _
  refine zs_iload_n (pc := 0) t295_0 rfl ?_
  refine zs_invS (pc := 1) (as := [.int a]) (st := []) t295_1 (by decide) mf260 rfl rfl ⟨by decide, by decide, Nat.le_of_ble_eq_true rfl, Nat.le_of_ble_eq_true rfl⟩ (K260 hs hI ?_) (fun _ _ q => q)
  intro w1v  w1a w1b
  show zGo X l 8 0 0 295 4 [(0, .ref 336), (1, .int a)] [.int w1v] M _
  refine zs_iconst (pc := 4) t295_4 (v := -1) (by decide) ?_
  by_cases w2 : w1v.toInt ≠ (-1)
  · refine zs_icmp_neT (pc := 5) t295_5 rfl lin1 (by omega) ?_
    refine zs_aload_n (pc := 12) t295_12 rfl ?_
    refine zs_iload_n (pc := 13) t295_13 rfl ?_
    refine zs_invS (pc := 14) (as := [.int a]) (st := [.ref 336]) t295_14 (by decide) mf260 rfl rfl ⟨by decide, by decide, Nat.le_of_ble_eq_true rfl, Nat.le_of_ble_eq_true rfl⟩ (K260 hs hI ?_) (fun _ _ q => q)
    intro w3v  w3a w3b
    show zGo X l 8 0 0 295 17 [(0, .ref 336), (1, .int a)] [.int w3v, .ref 336] M _
    refine zs_invV (pc := 17) (k := 336) (as' := [.int w3v]) (st := []) t295_17 mf267 rfl rfl (Or.inl ⟨by decide, (zk1 (hs.k fk_zMm_336))⟩) ⟨by decide, by decide, Nat.le_of_ble_eq_true rfl, Nat.le_of_ble_eq_true rfl⟩ (K267 hs hI pR pF ?_) (fun _ _ q => q)
    intro w4M w4v w4s w4I w4F w4PF w4PD w4PV
    have w4g := zrg w4v
    show zGo X l 8 0 0 295 20 [(0, .ref 336), (1, .int a)] [.int w4v] w4M _
    exact zs_iret (pc := 20) t295_20 mr295 rfl (hQ _ _ w4s w4I ((zFr.refl).trans (w4F.mono rfl)) (zPR.fr pR (w4F.eq rfl)) (zPC.fr pC (w4F.eq rfl)) w4PF)
  · refine zs_icmp_neF (pc := 5) t295_5 rfl lin1 (by omega) ?_
    refine zs_iconst (pc := 8) t295_8 (v := -1) (by decide) ?_
    refine zs_goto (pc := 9) t295_9 ?_
    exact zs_iret (pc := 20) t295_20 mr295 (by decide) (hQ _ _ hs hI (zFr.refl) pR pC pF)
theorem K316 {X : zX} {l : Launch} {M : zM} {Q : Option Value → zM → Prop} {a : Int32} (hs : zSk zMm M) (hI : zIv mLo mHi M) (pR : zPR M) (pC : zPC M) (pF : zPF M) (hQ : ∀ (M' : zM) (v : Int32), zSk zMm M' → zIv mLo mHi M' → zFr [(336, 363, none)] M M' → zPR M' → zPC M' → zPF M' → Q (some (.int v)) M') : zCall X l 8 0 0 316 [.ref 336, .int a] M Q := by
  have ga := zrg a
  refine zs_in (by decide) mf316 (Nat.le_of_ble_eq_true rfl) ?_
  show zGo X l 8 0 0 316 0 [(0, .ref 336), (1, .int a)] [] M _
  refine zs_iload_n (pc := 0) t316_0 rfl ?_
  by_cases w1 : a.toInt = 0
  · refine zs_tswI (pc := 1) t316_1 ((rfl : a.toInt = a.toInt).trans w1) (by decide) rfl (pc2 := 40) rfl ?_
    refine zs_aload_n (pc := 40) t316_40 rfl ?_
    refine zs_iconst (pc := 41) t316_41 (v := 0) (by decide) ?_
    refine zs_invV (pc := 42) (k := 336) (as' := [.int (0 : Int32)]) (st := []) t316_42 mf267 rfl rfl (Or.inl ⟨by decide, (zk1 (hs.k fk_zMm_336))⟩) ⟨by decide, by decide, Nat.le_of_ble_eq_true rfl, Nat.le_of_ble_eq_true rfl⟩ (K267 hs hI pR pF ?_) (fun _ _ q => q)
    intro w2M w2v w2s w2I w2F w2PF w2PD w2PV
    have w2g := zrg w2v
    show zGo X l 8 0 0 316 45 [(0, .ref 336), (1, .int a)] [.int w2v] w2M _
    exact zs_iret (pc := 45) t316_45 mr316 rfl (hQ _ _ w2s w2I ((zFr.refl).trans (w2F.mono rfl)) (zPR.fr pR (w2F.eq rfl)) (zPC.fr pC (w2F.eq rfl)) w2PF)
  by_cases w3 : a.toInt = 1
  · refine zs_tswI (pc := 1) t316_1 ((rfl : a.toInt = a.toInt).trans w3) (by decide) rfl (pc2 := 46) rfl ?_
    refine zs_aload_n (pc := 46) t316_46 rfl ?_
    refine zs_iconst (pc := 47) t316_47 (v := 3) (by decide) ?_
    refine zs_invV (pc := 48) (k := 336) (as' := [.int (3 : Int32)]) (st := []) t316_48 mf267 rfl rfl (Or.inl ⟨by decide, (zk1 (hs.k fk_zMm_336))⟩) ⟨by decide, by decide, Nat.le_of_ble_eq_true rfl, Nat.le_of_ble_eq_true rfl⟩ (K267 hs hI pR pF ?_) (fun _ _ q => q)
    intro w4M w4v w4s w4I w4F w4PF w4PD w4PV
    have w4g := zrg w4v
    show zGo X l 8 0 0 316 51 [(0, .ref 336), (1, .int a)] [.int w4v] w4M _
    exact zs_iret (pc := 51) t316_51 mr316 rfl (hQ _ _ w4s w4I ((zFr.refl).trans (w4F.mono rfl)) (zPR.fr pR (w4F.eq rfl)) (zPC.fr pC (w4F.eq rfl)) w4PF)
  by_cases w5 : a.toInt = 2
  · refine zs_tswI (pc := 1) t316_1 ((rfl : a.toInt = a.toInt).trans w5) (by decide) rfl (pc2 := 52) rfl ?_
    refine zs_aload_n (pc := 52) t316_52 rfl ?_
    refine zs_iconst (pc := 53) t316_53 (v := 2) (by decide) ?_
    refine zs_invV (pc := 54) (k := 336) (as' := [.int (2 : Int32)]) (st := []) t316_54 mf267 rfl rfl (Or.inl ⟨by decide, (zk1 (hs.k fk_zMm_336))⟩) ⟨by decide, by decide, Nat.le_of_ble_eq_true rfl, Nat.le_of_ble_eq_true rfl⟩ (K267 hs hI pR pF ?_) (fun _ _ q => q)
    intro w6M w6v w6s w6I w6F w6PF w6PD w6PV
    have w6g := zrg w6v
    show zGo X l 8 0 0 316 57 [(0, .ref 336), (1, .int a)] [.int w6v] w6M _
    exact zs_iret (pc := 57) t316_57 mr316 rfl (hQ _ _ w6s w6I ((zFr.refl).trans (w6F.mono rfl)) (zPR.fr pR (w6F.eq rfl)) (zPC.fr pC (w6F.eq rfl)) w6PF)
  by_cases w7 : a.toInt = 3
  · refine zs_tswI (pc := 1) t316_1 ((rfl : a.toInt = a.toInt).trans w7) (by decide) rfl (pc2 := 58) rfl ?_
    refine zs_aload_n (pc := 58) t316_58 rfl ?_
    refine zs_bipush (pc := 59) t316_59 (v := 6) (by decide) ?_
    refine zs_invV (pc := 61) (k := 336) (as' := [.int (6 : Int32)]) (st := []) t316_61 mf267 rfl rfl (Or.inl ⟨by decide, (zk1 (hs.k fk_zMm_336))⟩) ⟨by decide, by decide, Nat.le_of_ble_eq_true rfl, Nat.le_of_ble_eq_true rfl⟩ (K267 hs hI pR pF ?_) (fun _ _ q => q)
    intro w8M w8v w8s w8I w8F w8PF w8PD w8PV
    have w8g := zrg w8v
    show zGo X l 8 0 0 316 64 [(0, .ref 336), (1, .int a)] [.int w8v] w8M _
    exact zs_iret (pc := 64) t316_64 mr316 rfl (hQ _ _ w8s w8I ((zFr.refl).trans (w8F.mono rfl)) (zPR.fr pR (w8F.eq rfl)) (zPC.fr pC (w8F.eq rfl)) w8PF)
  by_cases w9 : a.toInt = 4
  · refine zs_tswI (pc := 1) t316_1 ((rfl : a.toInt = a.toInt).trans w9) (by decide) rfl (pc2 := 65) rfl ?_
    refine zs_aload_n (pc := 65) t316_65 rfl ?_
    refine zs_iconst (pc := 66) t316_66 (v := 4) (by decide) ?_
    refine zs_invV (pc := 67) (k := 336) (as' := [.int (4 : Int32)]) (st := []) t316_67 mf267 rfl rfl (Or.inl ⟨by decide, (zk1 (hs.k fk_zMm_336))⟩) ⟨by decide, by decide, Nat.le_of_ble_eq_true rfl, Nat.le_of_ble_eq_true rfl⟩ (K267 hs hI pR pF ?_) (fun _ _ q => q)
    intro w10M w10v w10s w10I w10F w10PF w10PD w10PV
    have w10g := zrg w10v
    show zGo X l 8 0 0 316 70 [(0, .ref 336), (1, .int a)] [.int w10v] w10M _
    exact zs_iret (pc := 70) t316_70 mr316 rfl (hQ _ _ w10s w10I ((zFr.refl).trans (w10F.mono rfl)) (zPR.fr pR (w10F.eq rfl)) (zPC.fr pC (w10F.eq rfl)) w10PF)
  by_cases w11 : a.toInt = 5
  · refine zs_tswI (pc := 1) t316_1 ((rfl : a.toInt = a.toInt).trans w11) (by decide) rfl (pc2 := 71) rfl ?_
    refine zs_aload_n (pc := 71) t316_71 rfl ?_
    refine zs_bipush (pc := 72) t316_72 (v := 7) (by decide) ?_
    refine zs_invV (pc := 74) (k := 336) (as' := [.int (7 : Int32)]) (st := []) t316_74 mf267 rfl rfl (Or.inl ⟨by decide, (zk1 (hs.k fk_zMm_336))⟩) ⟨by decide, by decide, Nat.le_of_ble_eq_true rfl, Nat.le_of_ble_eq_true rfl⟩ (K267 hs hI pR pF ?_) (fun _ _ q => q)
    intro w12M w12v w12s w12I w12F w12PF w12PD w12PV
    have w12g := zrg w12v
    show zGo X l 8 0 0 316 77 [(0, .ref 336), (1, .int a)] [.int w12v] w12M _
    exact zs_iret (pc := 77) t316_77 mr316 rfl (hQ _ _ w12s w12I ((zFr.refl).trans (w12F.mono rfl)) (zPR.fr pR (w12F.eq rfl)) (zPC.fr pC (w12F.eq rfl)) w12PF)
  refine zs_tswD (pc := 1) t316_1 rfl (by omega) (pc2 := 78) rfl ?_
  refine zs_iconst (pc := 78) t316_78 (v := -1) (by decide) ?_
  exact zs_iret (pc := 79) t316_79 mr316 (by decide) (hQ _ _ hs hI (zFr.refl) pR pC pF)
theorem K302 {X : zX} {l : Launch} {M : zM} {Q : Option Value → zM → Prop} {a b : Int32} (hs : zSk zMm M) (hI : zIv mLo mHi M) (pR : zPR M) (pC : zPC M) (pF : zPF M) (hQ : ∀ (M' : zM) (v : Int32), zSk zMm M' → zIv mLo mHi M' → zFr [(336, 363, none)] M M' → zPR M' → zPC M' → zPF M' → Q (some (.int v)) M') : zCall X l 7 0 0 302 [.ref 336, .int a, .int b] M Q := by
  have ga := zrg a
  have gb := zrg b
  refine zs_in (by decide) mf302 (Nat.le_of_ble_eq_true rfl) ?_
  show zGo X l 7 0 0 302 0 [(0, .ref 336), (1, .int a), (2, .int b)] [] M _
  refine zs_aload_n (pc := 0) t302_0 rfl ?_
  refine zs_invV (pc := 1) (k := 336) (as' := []) (st := []) t302_1 mf268 rfl rfl (Or.inl ⟨by decide, (zk1 (hs.k fk_zMm_336))⟩) ⟨by decide, by decide, Nat.le_of_ble_eq_true rfl, Nat.le_of_ble_eq_true rfl⟩ (K268 hs hI pR pF ?_) (fun _ _ q => q)
  intro w1M w1s w1I w1F w1PF w1PD w1PV
  show zGo X l 7 0 0 302 4 [(0, .ref 336), (1, .int a), (2, .int b)] [] w1M _
  refine zs_iload_n (pc := 4) t302_4 rfl ?_
  refine zs_i2l (pc := 5) t302_5 rfl ?_
  refine zs_lconst (pc := 6) t302_6 (v := 0) (by decide) ?_
  refine zs_aload_n (pc := 7) t302_7 rfl ?_
  have w2 := ib336_39 w1I
  refine zs_get (pc := 8) t302_8 (by decide) (zk1 (w1s.k fk_zMm_336)) (zfvi rfl rfl) ?_
  refine zs_bipush (pc := 11) t302_11 (v := 20) (by decide) ?_
  refine zs_invS (pc := 13) (as := [.int (zI w1M 336 39), .int (20 : Int32)]) (st := [.long (0 : Int64), .long a.toInt64]) t302_13 (by decide) mf303 rfl rfl ⟨by decide, by decide, Nat.le_of_ble_eq_true rfl, Nat.le_of_ble_eq_true rfl⟩ (zs_in (by decide) mf303 (Nat.le_of_ble_eq_true rfl) ?_) (fun _ _ q => q)
  show zGo X l 0 0 0 303 0 [(0, .int (zI w1M 336 39)), (1, .int (20 : Int32))] [] w1M _
  refine zs_iload_n (pc := 0) t303_0 rfl ?_
  refine zs_iload_n (pc := 1) t303_1 rfl ?_
  by_cases w3 : 20 ≤ (zI w1M 336 39).toInt
  · refine zs_icmp_geT (pc := 2) t303_2 rfl li20 (by omega) ?_
    refine zs_iload_n (pc := 9) t303_9 rfl ?_
    refine zs_iret (pc := 10) t303_10 mr303 (by decide) ?_
    show zGo X l 7 0 0 302 16 [(0, .ref 336), (1, .int a), (2, .int b)] [.int (20 : Int32), .long (0 : Int64), .long a.toInt64] w1M _
    refine zs_iconst (pc := 16) t302_16 (v := 1) (by decide) ?_
    refine zs_isub (pc := 17) t302_17 (c := 19) (by decide) ?_
    refine zs_i2l (pc := 18) t302_18 (c := 19) (by decide) ?_
    by_cases w4 : 0 ≤ a.toInt ∧ a.toInt ≤ 19
    · refine zs_invS (pc := 19) (as := [.long a.toInt64, .long (0 : Int64), .long (19 : Int64)]) (st := []) t302_19 (by decide) mf228 rfl rfl ⟨by decide, by decide, Nat.le_of_ble_eq_true rfl, Nat.le_of_ble_eq_true rfl⟩ (K228T (zi2l rfl) ll0 ll19 (by omega) ?_) (fun _ _ q => q)
      show zGo X l 7 0 0 302 22 [(0, .ref 336), (1, .int a), (2, .int b)] [.int (1 : Int32)] w1M _
      refine zs_if_eqF (pc := 22) t302_22 li1 (by decide) ?_
      refine zs_iload_n (pc := 25) t302_25 rfl ?_
      refine zs_i2l (pc := 26) t302_26 rfl ?_
      refine zs_lconst (pc := 27) t302_27 (v := 0) (by decide) ?_
      refine zs_ldc2_w (pc := 28) t302_28 (v := 3) (by decide) ?_
      by_cases w5 : 0 ≤ b.toInt ∧ b.toInt ≤ 3
      · refine zs_invS (pc := 31) (as := [.long b.toInt64, .long (0 : Int64), .long (3 : Int64)]) (st := []) t302_31 (by decide) mf228 rfl rfl ⟨by decide, by decide, Nat.le_of_ble_eq_true rfl, Nat.le_of_ble_eq_true rfl⟩ (K228T (zi2l rfl) ll0 ll3 (by omega) ?_) (fun _ _ q => q)
        show zGo X l 7 0 0 302 34 [(0, .ref 336), (1, .int a), (2, .int b)] [.int (1 : Int32)] w1M _
        refine zs_if_eqF (pc := 34) t302_34 li1 (by decide) ?_
        refine zs_aload_n (pc := 37) t302_37 rfl ?_
        refine zs_get (pc := 38) t302_38 (by decide) (zk1 (w1s.k fk_zMm_336)) (w1s.p rfl fv_zMm_336_38) ?_
        refine zs_iconst (pc := 41) t302_41 (v := 4) (by decide) ?_
        refine zs_iload_n (pc := 42) t302_42 rfl ?_
        obtain ⟨w6v, w6⟩ : ∃ v, (4 : Int32) * a = v := ⟨_, rfl⟩
        have w6g : w6v.toInt = 4 * a.toInt := by rw [← w6]; exact zmulc li4 rfl (by omega) (by omega)
        refine zs_imul (pc := 43) t302_43 (c := w6v) w6 ?_
        refine zs_iload_n (pc := 44) t302_44 rfl ?_
        obtain ⟨w7v, w7e, w7⟩ := ziadd (a := w6v) (b := b) w6g rfl (by omega) (by omega)
        refine zs_iadd (pc := 45) t302_45 (c := w7v) w7e ?_
        obtain ⟨w8n, w8⟩ : ∃ n : Nat, a.toInt = (n : Int) := ⟨(a.toInt).toNat, by omega⟩
        obtain ⟨w9n, w9⟩ : ∃ n : Nat, b.toInt = (n : Int) := ⟨(b.toInt).toNat, by omega⟩
        have w10 := zrg (zI w1M 359 (4 * w8n + w9n))
        refine zs_iald (pc := 46) t302_46 (j := (4 * w8n + w9n)) (by decide) (zk1 (w1s.k fk_zMm_359)) (show w7v.toInt = (((4 * w8n + w9n) : Nat) : Int) by omega) (zk2 (w1s.k fk_zMm_359) (by omega)) rfl ?_
        refine zs_goto (pc := 47) t302_47 ?_
        exact zs_iret (pc := 53) t302_53 mr302 rfl (hQ _ _ w1s w1I ((zFr.refl).trans (w1F.mono rfl)) (zPR.fr pR (w1F.eq rfl)) (zPC.fr pC (w1F.eq rfl)) w1PF)
      · refine zs_invS (pc := 31) (as := [.long b.toInt64, .long (0 : Int64), .long (3 : Int64)]) (st := []) t302_31 (by decide) mf228 rfl rfl ⟨by decide, by decide, Nat.le_of_ble_eq_true rfl, Nat.le_of_ble_eq_true rfl⟩ (K228F (zi2l rfl) ll0 ll3 (by omega) ?_) (fun _ _ q => q)
        show zGo X l 7 0 0 302 34 [(0, .ref 336), (1, .int a), (2, .int b)] [.int (0 : Int32)] w1M _
        refine zs_if_eqT (pc := 34) t302_34 li0 (by decide) ?_
        refine zs_ldc_w (pc := 50) t302_50 (v := -100000) rfl (by decide) ?_
        exact zs_iret (pc := 53) t302_53 mr302 (by decide) (hQ _ _ w1s w1I ((zFr.refl).trans (w1F.mono rfl)) (zPR.fr pR (w1F.eq rfl)) (zPC.fr pC (w1F.eq rfl)) w1PF)
    · refine zs_invS (pc := 19) (as := [.long a.toInt64, .long (0 : Int64), .long (19 : Int64)]) (st := []) t302_19 (by decide) mf228 rfl rfl ⟨by decide, by decide, Nat.le_of_ble_eq_true rfl, Nat.le_of_ble_eq_true rfl⟩ (K228F (zi2l rfl) ll0 ll19 (by omega) ?_) (fun _ _ q => q)
      show zGo X l 7 0 0 302 22 [(0, .ref 336), (1, .int a), (2, .int b)] [.int (0 : Int32)] w1M _
      refine zs_if_eqT (pc := 22) t302_22 li0 (by decide) ?_
      refine zs_ldc_w (pc := 50) t302_50 (v := -100000) rfl (by decide) ?_
      exact zs_iret (pc := 53) t302_53 mr302 (by decide) (hQ _ _ w1s w1I ((zFr.refl).trans (w1F.mono rfl)) (zPR.fr pR (w1F.eq rfl)) (zPC.fr pC (w1F.eq rfl)) w1PF)
  · refine zs_icmp_geF (pc := 2) t303_2 rfl li20 (by omega) ?_
    refine zs_iload_n (pc := 5) t303_5 rfl ?_
    refine zs_goto (pc := 6) t303_6 ?_
    refine zs_iret (pc := 10) t303_10 mr303 rfl ?_
    show zGo X l 7 0 0 302 16 [(0, .ref 336), (1, .int a), (2, .int b)] [.int (zI w1M 336 39), .long (0 : Int64), .long a.toInt64] w1M _
    refine zs_iconst (pc := 16) t302_16 (v := 1) (by decide) ?_
    obtain ⟨w11v, w11e, w11⟩ := zisub (a := (zI w1M 336 39)) (b := (1 : Int32)) rfl li1 (by omega) (by omega)
    refine zs_isub (pc := 17) t302_17 (c := w11v) w11e ?_
    refine zs_i2l (pc := 18) t302_18 rfl ?_
    by_cases w12 : 0 ≤ a.toInt ∧ a.toInt ≤ ((zI w1M 336 39).toInt - 1)
    · refine zs_invS (pc := 19) (as := [.long a.toInt64, .long (0 : Int64), .long w11v.toInt64]) (st := []) t302_19 (by decide) mf228 rfl rfl ⟨by decide, by decide, Nat.le_of_ble_eq_true rfl, Nat.le_of_ble_eq_true rfl⟩ (K228T (zi2l rfl) ll0 (zi2l w11) (by omega) ?_) (fun _ _ q => q)
      show zGo X l 7 0 0 302 22 [(0, .ref 336), (1, .int a), (2, .int b)] [.int (1 : Int32)] w1M _
      refine zs_if_eqF (pc := 22) t302_22 li1 (by decide) ?_
      refine zs_iload_n (pc := 25) t302_25 rfl ?_
      refine zs_i2l (pc := 26) t302_26 rfl ?_
      refine zs_lconst (pc := 27) t302_27 (v := 0) (by decide) ?_
      refine zs_ldc2_w (pc := 28) t302_28 (v := 3) (by decide) ?_
      by_cases w13 : 0 ≤ b.toInt ∧ b.toInt ≤ 3
      · refine zs_invS (pc := 31) (as := [.long b.toInt64, .long (0 : Int64), .long (3 : Int64)]) (st := []) t302_31 (by decide) mf228 rfl rfl ⟨by decide, by decide, Nat.le_of_ble_eq_true rfl, Nat.le_of_ble_eq_true rfl⟩ (K228T (zi2l rfl) ll0 ll3 (by omega) ?_) (fun _ _ q => q)
        show zGo X l 7 0 0 302 34 [(0, .ref 336), (1, .int a), (2, .int b)] [.int (1 : Int32)] w1M _
        refine zs_if_eqF (pc := 34) t302_34 li1 (by decide) ?_
        refine zs_aload_n (pc := 37) t302_37 rfl ?_
        refine zs_get (pc := 38) t302_38 (by decide) (zk1 (w1s.k fk_zMm_336)) (w1s.p rfl fv_zMm_336_38) ?_
        refine zs_iconst (pc := 41) t302_41 (v := 4) (by decide) ?_
        refine zs_iload_n (pc := 42) t302_42 rfl ?_
        obtain ⟨w14v, w14⟩ : ∃ v, (4 : Int32) * a = v := ⟨_, rfl⟩
        have w14g : w14v.toInt = 4 * a.toInt := by rw [← w14]; exact zmulc li4 rfl (by omega) (by omega)
        refine zs_imul (pc := 43) t302_43 (c := w14v) w14 ?_
        refine zs_iload_n (pc := 44) t302_44 rfl ?_
        obtain ⟨w15v, w15e, w15⟩ := ziadd (a := w14v) (b := b) w14g rfl (by omega) (by omega)
        refine zs_iadd (pc := 45) t302_45 (c := w15v) w15e ?_
        obtain ⟨w16n, w16⟩ : ∃ n : Nat, a.toInt = (n : Int) := ⟨(a.toInt).toNat, by omega⟩
        obtain ⟨w17n, w17⟩ : ∃ n : Nat, b.toInt = (n : Int) := ⟨(b.toInt).toNat, by omega⟩
        have w18 := zrg (zI w1M 359 (4 * w16n + w17n))
        refine zs_iald (pc := 46) t302_46 (j := (4 * w16n + w17n)) (by decide) (zk1 (w1s.k fk_zMm_359)) (show w15v.toInt = (((4 * w16n + w17n) : Nat) : Int) by omega) (zk2 (w1s.k fk_zMm_359) (by omega)) rfl ?_
        refine zs_goto (pc := 47) t302_47 ?_
        exact zs_iret (pc := 53) t302_53 mr302 rfl (hQ _ _ w1s w1I ((zFr.refl).trans (w1F.mono rfl)) (zPR.fr pR (w1F.eq rfl)) (zPC.fr pC (w1F.eq rfl)) w1PF)
      · refine zs_invS (pc := 31) (as := [.long b.toInt64, .long (0 : Int64), .long (3 : Int64)]) (st := []) t302_31 (by decide) mf228 rfl rfl ⟨by decide, by decide, Nat.le_of_ble_eq_true rfl, Nat.le_of_ble_eq_true rfl⟩ (K228F (zi2l rfl) ll0 ll3 (by omega) ?_) (fun _ _ q => q)
        show zGo X l 7 0 0 302 34 [(0, .ref 336), (1, .int a), (2, .int b)] [.int (0 : Int32)] w1M _
        refine zs_if_eqT (pc := 34) t302_34 li0 (by decide) ?_
        refine zs_ldc_w (pc := 50) t302_50 (v := -100000) rfl (by decide) ?_
        exact zs_iret (pc := 53) t302_53 mr302 (by decide) (hQ _ _ w1s w1I ((zFr.refl).trans (w1F.mono rfl)) (zPR.fr pR (w1F.eq rfl)) (zPC.fr pC (w1F.eq rfl)) w1PF)
    · refine zs_invS (pc := 19) (as := [.long a.toInt64, .long (0 : Int64), .long w11v.toInt64]) (st := []) t302_19 (by decide) mf228 rfl rfl ⟨by decide, by decide, Nat.le_of_ble_eq_true rfl, Nat.le_of_ble_eq_true rfl⟩ (K228F (zi2l rfl) ll0 (zi2l w11) (by omega) ?_) (fun _ _ q => q)
      show zGo X l 7 0 0 302 22 [(0, .ref 336), (1, .int a), (2, .int b)] [.int (0 : Int32)] w1M _
      refine zs_if_eqT (pc := 22) t302_22 li0 (by decide) ?_
      refine zs_ldc_w (pc := 50) t302_50 (v := -100000) rfl (by decide) ?_
      exact zs_iret (pc := 53) t302_53 mr302 (by decide) (hQ _ _ w1s w1I ((zFr.refl).trans (w1F.mono rfl)) (zPR.fr pR (w1F.eq rfl)) (zPC.fr pC (w1F.eq rfl)) w1PF)
theorem K307 {X : zX} {l : Launch} {M : zM} {Q : Option Value → zM → Prop} {a b : Int32} (hs : zSk zMm M) (hI : zIv mLo mHi M) (pR : zPR M) (pC : zPC M) (pF : zPF M) (hQ : ∀ (M' : zM) (v : Int32), zSk zMm M' → zIv mLo mHi M' → zFr [(336, 363, none)] M M' → zPR M' → zPC M' → zPF M' → Q (some (.int v)) M') : zCall X l 7 0 0 307 [.ref 336, .int a, .int b] M Q := by
  have ga := zrg a
  have gb := zrg b
  refine zs_in (by decide) mf307 (Nat.le_of_ble_eq_true rfl) ?_
  show zGo X l 7 0 0 307 0 [(0, .ref 336), (1, .int a), (2, .int b)] [] M _
  refine zs_aload_n (pc := 0) t307_0 rfl ?_
  refine zs_iload_n (pc := 1) t307_1 rfl ?_
  refine zs_invV (pc := 2) (k := 336) (as' := [.int a]) (st := []) t307_2 mf308 rfl rfl (Or.inl ⟨by decide, (zk1 (hs.k fk_zMm_336))⟩) ⟨by decide, by decide, Nat.le_of_ble_eq_true rfl, Nat.le_of_ble_eq_true rfl⟩ (zs_in (by decide) mf308 (Nat.le_of_ble_eq_true rfl) ?_) (fun _ _ q => q)
  show zGo X l 1 0 0 308 0 [(0, .ref 336), (1, .int a)] [] M _
  refine zs_iload_n (pc := 0) t308_0 rfl ?_
  refine zs_i2l (pc := 1) t308_1 rfl ?_
  refine zs_lconst (pc := 2) t308_2 (v := 0) (by decide) ?_
  refine zs_aload_n (pc := 3) t308_3 rfl ?_
  refine zs_get (pc := 4) t308_4 (by decide) (zk1 (hs.k fk_zMm_336)) (hs.p rfl fv_zMm_336_0) ?_
  refine zs_iconst (pc := 7) t308_7 (v := 1) (by decide) ?_
  have w1 := ibA1 hI
  refine zs_iald (pc := 8) t308_8 (j := 1) (by decide) (zk1 (hs.k fk_zMm_337)) li1 (zk2 (hs.k fk_zMm_337) (by decide)) rfl ?_
  refine zs_iconst (pc := 9) t308_9 (v := 1) (by decide) ?_
  obtain ⟨w2v, w2e, w2⟩ := zisub (a := (zI M 337 1)) (b := (1 : Int32)) rfl li1 (by omega) (by omega)
  refine zs_isub (pc := 10) t308_10 (c := w2v) w2e ?_
  refine zs_i2l (pc := 11) t308_11 rfl ?_
  by_cases w3 : 0 ≤ a.toInt ∧ a.toInt ≤ ((zI M 337 1).toInt - 1)
  · refine zs_invS (pc := 12) (as := [.long a.toInt64, .long (0 : Int64), .long w2v.toInt64]) (st := []) t308_12 (by decide) mf228 rfl rfl ⟨by decide, by decide, Nat.le_of_ble_eq_true rfl, Nat.le_of_ble_eq_true rfl⟩ (K228T (zi2l rfl) ll0 (zi2l w2) (by omega) ?_) (fun _ _ q => q)
    show zGo X l 1 0 0 308 15 [(0, .ref 336), (1, .int a)] [.int (1 : Int32)] M _
    refine zs_iret (pc := 15) t308_15 mr308 (by decide) ?_
    show zGo X l 7 0 0 307 5 [(0, .ref 336), (1, .int a), (2, .int b)] [.int (1 : Int32)] M _
    refine zs_if_eqF (pc := 5) t307_5 li1 (by decide) ?_
    refine zs_iload_n (pc := 8) t307_8 rfl ?_
    refine zs_i2l (pc := 9) t307_9 rfl ?_
    refine zs_lconst (pc := 10) t307_10 (v := 0) (by decide) ?_
    refine zs_ldc2_w (pc := 11) t307_11 (v := 5) (by decide) ?_
    by_cases w4 : 0 ≤ b.toInt ∧ b.toInt ≤ 5
    · refine zs_invS (pc := 14) (as := [.long b.toInt64, .long (0 : Int64), .long (5 : Int64)]) (st := []) t307_14 (by decide) mf228 rfl rfl ⟨by decide, by decide, Nat.le_of_ble_eq_true rfl, Nat.le_of_ble_eq_true rfl⟩ (K228T (zi2l rfl) ll0 ll5 (by omega) ?_) (fun _ _ q => q)
      show zGo X l 7 0 0 307 17 [(0, .ref 336), (1, .int a), (2, .int b)] [.int (1 : Int32)] M _
      refine zs_if_neT (pc := 17) t307_17 li1 (by decide) ?_
      refine zs_iload_n (pc := 24) t307_24 rfl ?_
      refine zs_iconst (pc := 25) t307_25 (v := 4) (by decide) ?_
      by_cases w5 : 4 ≤ b.toInt
      · refine zs_icmp_geT (pc := 26) t307_26 rfl li4 (by omega) ?_
        refine zs_aload_n (pc := 36) t307_36 rfl ?_
        refine zs_invV (pc := 37) (k := 336) (as' := []) (st := []) t307_37 mf268 rfl rfl (Or.inl ⟨by decide, (zk1 (hs.k fk_zMm_336))⟩) ⟨by decide, by decide, Nat.le_of_ble_eq_true rfl, Nat.le_of_ble_eq_true rfl⟩ (K268 hs hI pR pF ?_) (fun _ _ q => q)
        intro w6M w6s w6I w6F w6PF w6PD w6PV
        show zGo X l 7 0 0 307 40 [(0, .ref 336), (1, .int a), (2, .int b)] [] w6M _
        refine zs_iload_n (pc := 40) t307_40 rfl ?_
        refine zs_iconst (pc := 41) t307_41 (v := 5) (by decide) ?_
        by_cases w7 : b.toInt ≠ 5
        · refine zs_icmp_neT (pc := 42) t307_42 rfl li5 (by omega) ?_
          refine zs_aload_n (pc := 54) t307_54 rfl ?_
          refine zs_iload_n (pc := 55) t307_55 rfl ?_
          refine zs_iconst (pc := 56) t307_56 (v := -1) (by decide) ?_
          refine zs_invV (pc := 57) (k := 336) (as' := [.int a, .int (-1 : Int32)]) (st := []) t307_57 mf271 rfl rfl (Or.inl ⟨by decide, (zk1 (w6s.k fk_zMm_336))⟩) ⟨by decide, by decide, Nat.le_of_ble_eq_true rfl, Nat.le_of_ble_eq_true rfl⟩ (K271 w6s w6I ⟨by omega, by omega⟩ ?_) (fun _ _ q => q)
          intro w8v  w8a w8b
          show zGo X l 7 0 0 307 60 [(0, .ref 336), (1, .int a), (2, .int b)] [.int w8v] w6M _
          by_cases w9 : w8v.toInt = 0
          · refine zs_if_eqT (pc := 60) t307_60 rfl (by omega) ?_
            refine zs_iconst (pc := 67) t307_67 (v := 0) (by decide) ?_
            exact zs_iret (pc := 68) t307_68 mr307 (by decide) (hQ _ _ w6s w6I ((zFr.refl).trans (w6F.mono rfl)) (zPR.fr pR (w6F.eq rfl)) (zPC.fr pC (w6F.eq rfl)) w6PF)
          · refine zs_if_eqF (pc := 60) t307_60 rfl (by omega) ?_
            refine zs_iconst (pc := 63) t307_63 (v := 1) (by decide) ?_
            refine zs_goto (pc := 64) t307_64 ?_
            exact zs_iret (pc := 68) t307_68 mr307 (by decide) (hQ _ _ w6s w6I ((zFr.refl).trans (w6F.mono rfl)) (zPR.fr pR (w6F.eq rfl)) (zPC.fr pC (w6F.eq rfl)) w6PF)
        · refine zs_icmp_neF (pc := 42) t307_42 rfl li5 (by omega) ?_
          refine zs_aload_n (pc := 45) t307_45 rfl ?_
          refine zs_get (pc := 46) t307_46 (by decide) (zk1 (w6s.k fk_zMm_336)) (w6s.p rfl fv_zMm_336_28) ?_
          refine zs_iload_n (pc := 49) t307_49 rfl ?_
          obtain ⟨w10n, w10⟩ : ∃ n : Nat, a.toInt = (n : Int) := ⟨(a.toInt).toNat, by omega⟩
          have w11 := zrg (zI w6M 350 w10n)
          refine zs_iald (pc := 50) t307_50 (j := w10n) (by decide) (zk1 (w6s.k fk_zMm_350)) (show a.toInt = ((w10n : Nat) : Int) by omega) (zk2 (w6s.k fk_zMm_350) (by omega)) rfl ?_
          refine zs_goto (pc := 51) t307_51 ?_
          exact zs_iret (pc := 68) t307_68 mr307 rfl (hQ _ _ w6s w6I ((zFr.refl).trans (w6F.mono rfl)) (zPR.fr pR (w6F.eq rfl)) (zPC.fr pC (w6F.eq rfl)) w6PF)
      · refine zs_icmp_geF (pc := 26) t307_26 rfl li4 (by omega) ?_
        refine zs_aload_n (pc := 29) t307_29 rfl ?_
        refine zs_iload_n (pc := 30) t307_30 rfl ?_
        refine zs_iload_n (pc := 31) t307_31 rfl ?_
        refine zs_invV (pc := 32) (k := 336) (as' := [.int a, .int b]) (st := []) t307_32 mf272 rfl rfl (Or.inl ⟨by decide, (zk1 (hs.k fk_zMm_336))⟩) ⟨by decide, by decide, Nat.le_of_ble_eq_true rfl, Nat.le_of_ble_eq_true rfl⟩ (zs_in (by decide) mf272 (Nat.le_of_ble_eq_true rfl) ?_) (fun _ _ q => q)
        show zGo X l 0 0 0 272 0 [(0, .ref 336), (1, .int a), (2, .int b)] [] M _
        refine zs_aload_n (pc := 0) t272_0 rfl ?_
        refine zs_get (pc := 1) t272_1 (by decide) (zk1 (hs.k fk_zMm_336)) (hs.p rfl fv_zMm_336_0) ?_
        refine zs_bipush (pc := 4) t272_4 (v := 30) (by decide) ?_
        refine zs_iconst (pc := 6) t272_6 (v := 4) (by decide) ?_
        refine zs_iload_n (pc := 7) t272_7 rfl ?_
        obtain ⟨w12v, w12⟩ : ∃ v, (4 : Int32) * a = v := ⟨_, rfl⟩
        have w12g : w12v.toInt = 4 * a.toInt := by rw [← w12]; exact zmulc li4 rfl (by omega) (by omega)
        refine zs_imul (pc := 8) t272_8 (c := w12v) w12 ?_
        obtain ⟨w13v, w13e, w13⟩ := ziadd (a := (30 : Int32)) (b := w12v) li30 w12g (by omega) (by omega)
        refine zs_iadd (pc := 9) t272_9 (c := w13v) w13e ?_
        refine zs_iload_n (pc := 10) t272_10 rfl ?_
        obtain ⟨w14v, w14e, w14⟩ := ziadd (a := w13v) (b := b) w13 rfl (by omega) (by omega)
        refine zs_iadd (pc := 11) t272_11 (c := w14v) w14e ?_
        obtain ⟨w15n, w15⟩ : ∃ n : Nat, a.toInt = (n : Int) := ⟨(a.toInt).toNat, by omega⟩
        obtain ⟨w16n, w16⟩ : ∃ n : Nat, b.toInt = (n : Int) := ⟨(b.toInt).toNat, by omega⟩
        have w17 := zrg (zI M 337 (30 + 4 * w15n + w16n))
        refine zs_iald (pc := 12) t272_12 (j := (30 + 4 * w15n + w16n)) (by decide) (zk1 (hs.k fk_zMm_337)) (show w14v.toInt = (((30 + 4 * w15n + w16n) : Nat) : Int) by omega) (zk2 (hs.k fk_zMm_337) (by omega)) rfl ?_
        refine zs_iret (pc := 13) t272_13 mr272 rfl ?_
        show zGo X l 7 0 0 307 35 [(0, .ref 336), (1, .int a), (2, .int b)] [.int (zI M 337 (30 + 4 * w15n + w16n))] M _
        exact zs_iret (pc := 35) t307_35 mr307 rfl (hQ _ _ hs hI (zFr.refl) pR pC pF)
    · refine zs_invS (pc := 14) (as := [.long b.toInt64, .long (0 : Int64), .long (5 : Int64)]) (st := []) t307_14 (by decide) mf228 rfl rfl ⟨by decide, by decide, Nat.le_of_ble_eq_true rfl, Nat.le_of_ble_eq_true rfl⟩ (K228F (zi2l rfl) ll0 ll5 (by omega) ?_) (fun _ _ q => q)
      show zGo X l 7 0 0 307 17 [(0, .ref 336), (1, .int a), (2, .int b)] [.int (0 : Int32)] M _
      refine zs_if_neF (pc := 17) t307_17 li0 (by decide) ?_
      refine zs_ldc_w (pc := 20) t307_20 (v := -100000) rfl (by decide) ?_
      exact zs_iret (pc := 23) t307_23 mr307 (by decide) (hQ _ _ hs hI (zFr.refl) pR pC pF)
  · refine zs_invS (pc := 12) (as := [.long a.toInt64, .long (0 : Int64), .long w2v.toInt64]) (st := []) t308_12 (by decide) mf228 rfl rfl ⟨by decide, by decide, Nat.le_of_ble_eq_true rfl, Nat.le_of_ble_eq_true rfl⟩ (K228F (zi2l rfl) ll0 (zi2l w2) (by omega) ?_) (fun _ _ q => q)
    show zGo X l 1 0 0 308 15 [(0, .ref 336), (1, .int a)] [.int (0 : Int32)] M _
    refine zs_iret (pc := 15) t308_15 mr308 (by decide) ?_
    show zGo X l 7 0 0 307 5 [(0, .ref 336), (1, .int a), (2, .int b)] [.int (0 : Int32)] M _
    refine zs_if_eqT (pc := 5) t307_5 li0 (by decide) ?_
    refine zs_ldc_w (pc := 20) t307_20 (v := -100000) rfl (by decide) ?_
    exact zs_iret (pc := 23) t307_23 mr307 (by decide) (hQ _ _ hs hI (zFr.refl) pR pC pF)
theorem K309 {X : zX} {l : Launch} {M : zM} {Q : Option Value → zM → Prop} {a b : Int32} (hs : zSk zMm M) (hI : zIv mLo mHi M) (pR : zPR M) (pC : zPC M) (pF : zPF M) (hQ : ∀ (M' : zM) (v : Int32), zSk zMm M' → zIv mLo mHi M' → zFr [(336, 363, none)] M M' → zPR M' → zPC M' → zPF M' → Q (some (.int v)) M') : zCall X l 7 0 0 309 [.ref 336, .int a, .int b] M Q := by
  have ga := zrg a
  have gb := zrg b
  refine zs_in (by decide) mf309 (Nat.le_of_ble_eq_true rfl) ?_
  show zGo X l 7 0 0 309 0 [(0, .ref 336), (1, .int a), (2, .int b)] [] M _
  refine zs_aload_n (pc := 0) t309_0 rfl ?_
  refine zs_iload_n (pc := 1) t309_1 rfl ?_
  refine zs_invV (pc := 2) (k := 336) (as' := [.int a]) (st := []) t309_2 mf310 rfl rfl (Or.inl ⟨by decide, (zk1 (hs.k fk_zMm_336))⟩) ⟨by decide, by decide, Nat.le_of_ble_eq_true rfl, Nat.le_of_ble_eq_true rfl⟩ (zs_in (by decide) mf310 (Nat.le_of_ble_eq_true rfl) ?_) (fun _ _ q => q)
  show zGo X l 1 0 0 310 0 [(0, .ref 336), (1, .int a)] [] M _
  refine zs_iload_n (pc := 0) t310_0 rfl ?_
  refine zs_i2l (pc := 1) t310_1 rfl ?_
  refine zs_lconst (pc := 2) t310_2 (v := 0) (by decide) ?_
  refine zs_aload_n (pc := 3) t310_3 rfl ?_
  refine zs_get (pc := 4) t310_4 (by decide) (zk1 (hs.k fk_zMm_336)) (hs.p rfl fv_zMm_336_0) ?_
  refine zs_iconst (pc := 7) t310_7 (v := 2) (by decide) ?_
  have w1 := ibA2 hI
  refine zs_iald (pc := 8) t310_8 (j := 2) (by decide) (zk1 (hs.k fk_zMm_337)) li2 (zk2 (hs.k fk_zMm_337) (by decide)) rfl ?_
  refine zs_iconst (pc := 9) t310_9 (v := 1) (by decide) ?_
  obtain ⟨w2v, w2e, w2⟩ := zisub (a := (zI M 337 2)) (b := (1 : Int32)) rfl li1 (by omega) (by omega)
  refine zs_isub (pc := 10) t310_10 (c := w2v) w2e ?_
  refine zs_i2l (pc := 11) t310_11 rfl ?_
  by_cases w3 : 0 ≤ a.toInt ∧ a.toInt ≤ ((zI M 337 2).toInt - 1)
  · refine zs_invS (pc := 12) (as := [.long a.toInt64, .long (0 : Int64), .long w2v.toInt64]) (st := []) t310_12 (by decide) mf228 rfl rfl ⟨by decide, by decide, Nat.le_of_ble_eq_true rfl, Nat.le_of_ble_eq_true rfl⟩ (K228T (zi2l rfl) ll0 (zi2l w2) (by omega) ?_) (fun _ _ q => q)
    show zGo X l 1 0 0 310 15 [(0, .ref 336), (1, .int a)] [.int (1 : Int32)] M _
    refine zs_iret (pc := 15) t310_15 mr310 (by decide) ?_
    show zGo X l 7 0 0 309 5 [(0, .ref 336), (1, .int a), (2, .int b)] [.int (1 : Int32)] M _
    refine zs_if_eqF (pc := 5) t309_5 li1 (by decide) ?_
    refine zs_iload_n (pc := 8) t309_8 rfl ?_
    refine zs_i2l (pc := 9) t309_9 rfl ?_
    refine zs_lconst (pc := 10) t309_10 (v := 0) (by decide) ?_
    refine zs_ldc2_w (pc := 11) t309_11 (v := 4) (by decide) ?_
    by_cases w4 : 0 ≤ b.toInt ∧ b.toInt ≤ 4
    · refine zs_invS (pc := 14) (as := [.long b.toInt64, .long (0 : Int64), .long (4 : Int64)]) (st := []) t309_14 (by decide) mf228 rfl rfl ⟨by decide, by decide, Nat.le_of_ble_eq_true rfl, Nat.le_of_ble_eq_true rfl⟩ (K228T (zi2l rfl) ll0 ll4 (by omega) ?_) (fun _ _ q => q)
      show zGo X l 7 0 0 309 17 [(0, .ref 336), (1, .int a), (2, .int b)] [.int (1 : Int32)] M _
      refine zs_if_neT (pc := 17) t309_17 li1 (by decide) ?_
      refine zs_iload_n (pc := 24) t309_24 rfl ?_
      refine zs_iconst (pc := 25) t309_25 (v := 3) (by decide) ?_
      by_cases w5 : 3 ≤ b.toInt
      · refine zs_icmp_geT (pc := 26) t309_26 rfl li3 (by omega) ?_
        refine zs_aload_n (pc := 44) t309_44 rfl ?_
        refine zs_invV (pc := 45) (k := 336) (as' := []) (st := []) t309_45 mf268 rfl rfl (Or.inl ⟨by decide, (zk1 (hs.k fk_zMm_336))⟩) ⟨by decide, by decide, Nat.le_of_ble_eq_true rfl, Nat.le_of_ble_eq_true rfl⟩ (K268 hs hI pR pF ?_) (fun _ _ q => q)
        intro w6M w6s w6I w6F w6PF w6PD w6PV
        show zGo X l 7 0 0 309 48 [(0, .ref 336), (1, .int a), (2, .int b)] [] w6M _
        refine zs_iload_n (pc := 48) t309_48 rfl ?_
        refine zs_iconst (pc := 49) t309_49 (v := 3) (by decide) ?_
        by_cases w7 : b.toInt ≠ 3
        · refine zs_icmp_neT (pc := 50) t309_50 rfl li3 (by omega) ?_
          refine zs_aload_n (pc := 61) t309_61 rfl ?_
          refine zs_iload_n (pc := 62) t309_62 rfl ?_
          refine zs_invV (pc := 63) (k := 336) (as' := [.int a]) (st := []) t309_63 mf312 rfl rfl (Or.inl ⟨by decide, (zk1 (w6s.k fk_zMm_336))⟩) ⟨by decide, by decide, Nat.le_of_ble_eq_true rfl, Nat.le_of_ble_eq_true rfl⟩ (K312 w6s w6I ?_) (fun _ _ q => q)
          intro w8v  w8a w8b
          show zGo X l 7 0 0 309 66 [(0, .ref 336), (1, .int a), (2, .int b)] [.int w8v] w6M _
          exact zs_iret (pc := 66) t309_66 mr309 rfl (hQ _ _ w6s w6I ((zFr.refl).trans (w6F.mono rfl)) (zPR.fr pR (w6F.eq rfl)) (zPC.fr pC (w6F.eq rfl)) w6PF)
        · refine zs_icmp_neF (pc := 50) t309_50 rfl li3 (by omega) ?_
          refine zs_aload_n (pc := 53) t309_53 rfl ?_
          refine zs_iload_n (pc := 54) t309_54 rfl ?_
          refine zs_invV (pc := 55) (k := 336) (as' := [.int a]) (st := []) t309_55 mf311 rfl rfl (Or.inl ⟨by decide, (zk1 (w6s.k fk_zMm_336))⟩) ⟨by decide, by decide, Nat.le_of_ble_eq_true rfl, Nat.le_of_ble_eq_true rfl⟩ (K311 w6s w6I ?_) (fun _ _ q => q)
          intro w9v
          have w9g := zrg w9v
          show zGo X l 7 0 0 309 58 [(0, .ref 336), (1, .int a), (2, .int b)] [.int w9v] w6M _
          refine zs_goto (pc := 58) t309_58 ?_
          exact zs_iret (pc := 66) t309_66 mr309 rfl (hQ _ _ w6s w6I ((zFr.refl).trans (w6F.mono rfl)) (zPR.fr pR (w6F.eq rfl)) (zPC.fr pC (w6F.eq rfl)) w6PF)
      · refine zs_icmp_geF (pc := 26) t309_26 rfl li3 (by omega) ?_
        refine zs_aload_n (pc := 29) t309_29 rfl ?_
        refine zs_get (pc := 30) t309_30 (by decide) (zk1 (hs.k fk_zMm_336)) (hs.p rfl fv_zMm_336_0) ?_
        refine zs_sipush (pc := 33) t309_33 (v := 270) (by decide) ?_
        refine zs_iconst (pc := 36) t309_36 (v := 3) (by decide) ?_
        refine zs_iload_n (pc := 37) t309_37 rfl ?_
        obtain ⟨w10v, w10⟩ : ∃ v, (3 : Int32) * a = v := ⟨_, rfl⟩
        have w10g : w10v.toInt = 3 * a.toInt := by rw [← w10]; exact zmulc li3 rfl (by omega) (by omega)
        refine zs_imul (pc := 38) t309_38 (c := w10v) w10 ?_
        obtain ⟨w11v, w11e, w11⟩ := ziadd (a := (270 : Int32)) (b := w10v) li270 w10g (by omega) (by omega)
        refine zs_iadd (pc := 39) t309_39 (c := w11v) w11e ?_
        refine zs_iload_n (pc := 40) t309_40 rfl ?_
        obtain ⟨w12v, w12e, w12⟩ := ziadd (a := w11v) (b := b) w11 rfl (by omega) (by omega)
        refine zs_iadd (pc := 41) t309_41 (c := w12v) w12e ?_
        obtain ⟨w13n, w13⟩ : ∃ n : Nat, a.toInt = (n : Int) := ⟨(a.toInt).toNat, by omega⟩
        obtain ⟨w14n, w14⟩ : ∃ n : Nat, b.toInt = (n : Int) := ⟨(b.toInt).toNat, by omega⟩
        have w15 := zrg (zI M 337 (270 + 3 * w13n + w14n))
        refine zs_iald (pc := 42) t309_42 (j := (270 + 3 * w13n + w14n)) (by decide) (zk1 (hs.k fk_zMm_337)) (show w12v.toInt = (((270 + 3 * w13n + w14n) : Nat) : Int) by omega) (zk2 (hs.k fk_zMm_337) (by omega)) rfl ?_
        exact zs_iret (pc := 43) t309_43 mr309 rfl (hQ _ _ hs hI (zFr.refl) pR pC pF)
    · refine zs_invS (pc := 14) (as := [.long b.toInt64, .long (0 : Int64), .long (4 : Int64)]) (st := []) t309_14 (by decide) mf228 rfl rfl ⟨by decide, by decide, Nat.le_of_ble_eq_true rfl, Nat.le_of_ble_eq_true rfl⟩ (K228F (zi2l rfl) ll0 ll4 (by omega) ?_) (fun _ _ q => q)
      show zGo X l 7 0 0 309 17 [(0, .ref 336), (1, .int a), (2, .int b)] [.int (0 : Int32)] M _
      refine zs_if_neF (pc := 17) t309_17 li0 (by decide) ?_
      refine zs_ldc_w (pc := 20) t309_20 (v := -100000) rfl (by decide) ?_
      exact zs_iret (pc := 23) t309_23 mr309 (by decide) (hQ _ _ hs hI (zFr.refl) pR pC pF)
  · refine zs_invS (pc := 12) (as := [.long a.toInt64, .long (0 : Int64), .long w2v.toInt64]) (st := []) t310_12 (by decide) mf228 rfl rfl ⟨by decide, by decide, Nat.le_of_ble_eq_true rfl, Nat.le_of_ble_eq_true rfl⟩ (K228F (zi2l rfl) ll0 (zi2l w2) (by omega) ?_) (fun _ _ q => q)
    show zGo X l 1 0 0 310 15 [(0, .ref 336), (1, .int a)] [.int (0 : Int32)] M _
    refine zs_iret (pc := 15) t310_15 mr310 (by decide) ?_
    show zGo X l 7 0 0 309 5 [(0, .ref 336), (1, .int a), (2, .int b)] [.int (0 : Int32)] M _
    refine zs_if_eqT (pc := 5) t309_5 li0 (by decide) ?_
    refine zs_ldc_w (pc := 20) t309_20 (v := -100000) rfl (by decide) ?_
    exact zs_iret (pc := 23) t309_23 mr309 (by decide) (hQ _ _ hs hI (zFr.refl) pR pC pF)
theorem K321 {X : zX} {l : Launch} {M : zM} {Q : Option Value → zM → Prop} {a b : Int32} (hs : zSk zMm M) (hI : zIv mLo mHi M) (pR : zPR M) (pC : zPC M) (pF : zPF M) (hQ : ∀ (M' : zM) (v : Int32), zSk zMm M' → zIv mLo mHi M' → zFr [(336, 363, none)] M M' → zPR M' → zPC M' → zPF M' → Q (some (.int v)) M') : zCall X l 7 0 0 321 [.ref 336, .int a, .int b] M Q := by
  have ga := zrg a
  have gb := zrg b
  refine zs_in (by decide) mf321 (Nat.le_of_ble_eq_true rfl) ?_
  show zGo X l 7 0 0 321 0 [(0, .ref 336), (1, .int a), (2, .int b)] [] M _
  refine zs_aload_n (pc := 0) t321_0 rfl ?_
  refine zs_invV (pc := 1) (k := 336) (as' := []) (st := []) t321_1 mf268 rfl rfl (Or.inl ⟨by decide, (zk1 (hs.k fk_zMm_336))⟩) ⟨by decide, by decide, Nat.le_of_ble_eq_true rfl, Nat.le_of_ble_eq_true rfl⟩ (K268 hs hI pR pF ?_) (fun _ _ q => q)
  intro w1M w1s w1I w1F w1PF w1PD w1PV
  show zGo X l 7 0 0 321 4 [(0, .ref 336), (1, .int a), (2, .int b)] [] w1M _
  refine zs_aload_n (pc := 4) t321_4 rfl ?_
  refine zs_iload_n (pc := 5) t321_5 rfl ?_
  refine zs_invV (pc := 6) (k := 336) (as' := [.int a]) (st := []) t321_6 mf297 rfl rfl (Or.inl ⟨by decide, (zk1 (w1s.k fk_zMm_336))⟩) ⟨by decide, by decide, Nat.le_of_ble_eq_true rfl, Nat.le_of_ble_eq_true rfl⟩ (zs_in (by decide) mf297 (Nat.le_of_ble_eq_true rfl) ?_) (fun _ _ q => q)
  show zGo X l 1 0 0 297 0 [(0, .ref 336), (1, .int a)] [] w1M _
  refine zs_iload_n (pc := 0) t297_0 rfl ?_
  refine zs_i2l (pc := 1) t297_1 rfl ?_
  refine zs_lconst (pc := 2) t297_2 (v := 0) (by decide) ?_
  refine zs_aload_n (pc := 3) t297_3 rfl ?_
  have w2 := ib336_22 w1I
  refine zs_get (pc := 4) t297_4 (by decide) (zk1 (w1s.k fk_zMm_336)) (zfvi rfl rfl) ?_
  refine zs_iconst (pc := 7) t297_7 (v := 1) (by decide) ?_
  obtain ⟨w3v, w3e, w3⟩ := zisub (a := (zI w1M 336 22)) (b := (1 : Int32)) rfl li1 (by omega) (by omega)
  refine zs_isub (pc := 8) t297_8 (c := w3v) w3e ?_
  refine zs_i2l (pc := 9) t297_9 rfl ?_
  by_cases w4 : 0 ≤ a.toInt ∧ a.toInt ≤ ((zI w1M 336 22).toInt - 1)
  · refine zs_invS (pc := 10) (as := [.long a.toInt64, .long (0 : Int64), .long w3v.toInt64]) (st := []) t297_10 (by decide) mf228 rfl rfl ⟨by decide, by decide, Nat.le_of_ble_eq_true rfl, Nat.le_of_ble_eq_true rfl⟩ (K228T (zi2l rfl) ll0 (zi2l w3) (by omega) ?_) (fun _ _ q => q)
    show zGo X l 1 0 0 297 13 [(0, .ref 336), (1, .int a)] [.int (1 : Int32)] w1M _
    refine zs_iret (pc := 13) t297_13 mr297 (by decide) ?_
    show zGo X l 7 0 0 321 9 [(0, .ref 336), (1, .int a), (2, .int b)] [.int (1 : Int32)] w1M _
    refine zs_if_eqF (pc := 9) t321_9 li1 (by decide) ?_
    refine zs_aload_n (pc := 12) t321_12 rfl ?_
    refine zs_iload_n (pc := 13) t321_13 rfl ?_
    refine zs_invV (pc := 14) (k := 336) (as' := [.int b]) (st := []) t321_14 mf306 rfl rfl (Or.inl ⟨by decide, (zk1 (w1s.k fk_zMm_336))⟩) ⟨by decide, by decide, Nat.le_of_ble_eq_true rfl, Nat.le_of_ble_eq_true rfl⟩ (zs_in (by decide) mf306 (Nat.le_of_ble_eq_true rfl) ?_) (fun _ _ q => q)
    show zGo X l 1 0 0 306 0 [(0, .ref 336), (1, .int b)] [] w1M _
    refine zs_iload_n (pc := 0) t306_0 rfl ?_
    refine zs_i2l (pc := 1) t306_1 rfl ?_
    refine zs_lconst (pc := 2) t306_2 (v := 0) (by decide) ?_
    refine zs_aload_n (pc := 3) t306_3 rfl ?_
    refine zs_get (pc := 4) t306_4 (by decide) (zk1 (w1s.k fk_zMm_336)) (w1s.p rfl fv_zMm_336_0) ?_
    refine zs_iconst (pc := 7) t306_7 (v := 0) (by decide) ?_
    have w5 := ibA0 hI
    refine zs_iald (pc := 8) t306_8 (j := 0) (by decide) (zk1 (w1s.k fk_zMm_337)) li0 (zk2 (w1s.k fk_zMm_337) (by decide)) ((w1F 337 0 rfl).trans rfl) ?_
    refine zs_iconst (pc := 9) t306_9 (v := 1) (by decide) ?_
    obtain ⟨w6v, w6e, w6⟩ := zisub (a := (zI M 337 0)) (b := (1 : Int32)) rfl li1 (by omega) (by omega)
    refine zs_isub (pc := 10) t306_10 (c := w6v) w6e ?_
    refine zs_i2l (pc := 11) t306_11 rfl ?_
    by_cases w7 : 0 ≤ b.toInt ∧ b.toInt ≤ ((zI M 337 0).toInt - 1)
    · refine zs_invS (pc := 12) (as := [.long b.toInt64, .long (0 : Int64), .long w6v.toInt64]) (st := []) t306_12 (by decide) mf228 rfl rfl ⟨by decide, by decide, Nat.le_of_ble_eq_true rfl, Nat.le_of_ble_eq_true rfl⟩ (K228T (zi2l rfl) ll0 (zi2l w6) (by omega) ?_) (fun _ _ q => q)
      show zGo X l 1 0 0 306 15 [(0, .ref 336), (1, .int b)] [.int (1 : Int32)] w1M _
      refine zs_iret (pc := 15) t306_15 mr306 (by decide) ?_
      show zGo X l 7 0 0 321 17 [(0, .ref 336), (1, .int a), (2, .int b)] [.int (1 : Int32)] w1M _
      refine zs_if_eqF (pc := 17) t321_17 li1 (by decide) ?_
      refine zs_aload_n (pc := 20) t321_20 rfl ?_
      refine zs_get (pc := 21) t321_21 (by decide) (zk1 (w1s.k fk_zMm_336)) (w1s.p rfl fv_zMm_336_27) ?_
      refine zs_bipush (pc := 24) t321_24 (v := 8) (by decide) ?_
      refine zs_iload_n (pc := 26) t321_26 rfl ?_
      obtain ⟨w8v, w8⟩ : ∃ v, (8 : Int32) * a = v := ⟨_, rfl⟩
      have w8g : w8v.toInt = 8 * a.toInt := by rw [← w8]; exact zmulc li8 rfl (by omega) (by omega)
      refine zs_imul (pc := 27) t321_27 (c := w8v) w8 ?_
      refine zs_iload_n (pc := 28) t321_28 rfl ?_
      obtain ⟨w9v, w9e, w9⟩ := ziadd (a := w8v) (b := b) w8g rfl (by omega) (by omega)
      refine zs_iadd (pc := 29) t321_29 (c := w9v) w9e ?_
      obtain ⟨w10n, w10⟩ : ∃ n : Nat, a.toInt = (n : Int) := ⟨(a.toInt).toNat, by omega⟩
      obtain ⟨w11n, w11⟩ : ∃ n : Nat, b.toInt = (n : Int) := ⟨(b.toInt).toNat, by omega⟩
      have w12 := ib349 w1I (8 * w10n + w11n)
      refine zs_iald (pc := 30) t321_30 (j := (8 * w10n + w11n)) (by decide) (zk1 (w1s.k fk_zMm_349)) (show w9v.toInt = (((8 * w10n + w11n) : Nat) : Int) by omega) (zk2 (w1s.k fk_zMm_349) (by omega)) rfl ?_
      refine zs_goto (pc := 31) t321_31 ?_
      exact zs_iret (pc := 35) t321_35 mr321 rfl (hQ _ _ w1s w1I ((zFr.refl).trans (w1F.mono rfl)) (zPR.fr pR (w1F.eq rfl)) (zPC.fr pC (w1F.eq rfl)) w1PF)
    · refine zs_invS (pc := 12) (as := [.long b.toInt64, .long (0 : Int64), .long w6v.toInt64]) (st := []) t306_12 (by decide) mf228 rfl rfl ⟨by decide, by decide, Nat.le_of_ble_eq_true rfl, Nat.le_of_ble_eq_true rfl⟩ (K228F (zi2l rfl) ll0 (zi2l w6) (by omega) ?_) (fun _ _ q => q)
      show zGo X l 1 0 0 306 15 [(0, .ref 336), (1, .int b)] [.int (0 : Int32)] w1M _
      refine zs_iret (pc := 15) t306_15 mr306 (by decide) ?_
      show zGo X l 7 0 0 321 17 [(0, .ref 336), (1, .int a), (2, .int b)] [.int (0 : Int32)] w1M _
      refine zs_if_eqT (pc := 17) t321_17 li0 (by decide) ?_
      refine zs_iconst (pc := 34) t321_34 (v := -1) (by decide) ?_
      exact zs_iret (pc := 35) t321_35 mr321 (by decide) (hQ _ _ w1s w1I ((zFr.refl).trans (w1F.mono rfl)) (zPR.fr pR (w1F.eq rfl)) (zPC.fr pC (w1F.eq rfl)) w1PF)
  · refine zs_invS (pc := 10) (as := [.long a.toInt64, .long (0 : Int64), .long w3v.toInt64]) (st := []) t297_10 (by decide) mf228 rfl rfl ⟨by decide, by decide, Nat.le_of_ble_eq_true rfl, Nat.le_of_ble_eq_true rfl⟩ (K228F (zi2l rfl) ll0 (zi2l w3) (by omega) ?_) (fun _ _ q => q)
    show zGo X l 1 0 0 297 13 [(0, .ref 336), (1, .int a)] [.int (0 : Int32)] w1M _
    refine zs_iret (pc := 13) t297_13 mr297 (by decide) ?_
    show zGo X l 7 0 0 321 9 [(0, .ref 336), (1, .int a), (2, .int b)] [.int (0 : Int32)] w1M _
    refine zs_if_eqT (pc := 9) t321_9 li0 (by decide) ?_
    refine zs_iconst (pc := 34) t321_34 (v := -1) (by decide) ?_
    exact zs_iret (pc := 35) t321_35 mr321 (by decide) (hQ _ _ w1s w1I ((zFr.refl).trans (w1F.mono rfl)) (zPR.fr pR (w1F.eq rfl)) (zPC.fr pC (w1F.eq rfl)) w1PF)
theorem K314 {X : zX} {l : Launch} {M : zM} {Q : Option Value → zM → Prop} {a b c : Int32} (hs : zSk zMm M) (hI : zIv mLo mHi M) (pR : zPR M) (pC : zPC M) (pF : zPF M) (hQ : ∀ (M' : zM) (v : Int32), zSk zMm M' → zIv mLo mHi M' → zFr [(336, 363, none)] M M' → zPR M' → zPC M' → zPF M' → Q (some (.int v)) M') : zCall X l 3 0 0 314 [.ref 336, .int a, .int b, .int c] M Q := by
  have ga := zrg a
  have gb := zrg b
  have gc := zrg c
  refine zs_in (by decide) mf314 (Nat.le_of_ble_eq_true rfl) ?_
  show zGo X l 3 0 0 314 0 [(0, .ref 336), (1, .int a), (2, .int b), (3, .int c)] [] M _
  refine zs_aload_n (pc := 0) t314_0 rfl ?_
  refine zs_iload_n (pc := 1) t314_1 rfl ?_
  refine zs_invV (pc := 2) (k := 336) (as' := [.int a]) (st := []) t314_2 mf306 rfl rfl (Or.inl ⟨by decide, (zk1 (hs.k fk_zMm_336))⟩) ⟨by decide, by decide, Nat.le_of_ble_eq_true rfl, Nat.le_of_ble_eq_true rfl⟩ (zs_in (by decide) mf306 (Nat.le_of_ble_eq_true rfl) ?_) (fun _ _ q => q)
  show zGo X l 1 0 0 306 0 [(0, .ref 336), (1, .int a)] [] M _
  refine zs_iload_n (pc := 0) t306_0 rfl ?_
  refine zs_i2l (pc := 1) t306_1 rfl ?_
  refine zs_lconst (pc := 2) t306_2 (v := 0) (by decide) ?_
  refine zs_aload_n (pc := 3) t306_3 rfl ?_
  refine zs_get (pc := 4) t306_4 (by decide) (zk1 (hs.k fk_zMm_336)) (hs.p rfl fv_zMm_336_0) ?_
  refine zs_iconst (pc := 7) t306_7 (v := 0) (by decide) ?_
  have w1 := ibA0 hI
  refine zs_iald (pc := 8) t306_8 (j := 0) (by decide) (zk1 (hs.k fk_zMm_337)) li0 (zk2 (hs.k fk_zMm_337) (by decide)) rfl ?_
  refine zs_iconst (pc := 9) t306_9 (v := 1) (by decide) ?_
  obtain ⟨w2v, w2e, w2⟩ := zisub (a := (zI M 337 0)) (b := (1 : Int32)) rfl li1 (by omega) (by omega)
  refine zs_isub (pc := 10) t306_10 (c := w2v) w2e ?_
  refine zs_i2l (pc := 11) t306_11 rfl ?_
  by_cases w3 : 0 ≤ a.toInt ∧ a.toInt ≤ ((zI M 337 0).toInt - 1)
  · refine zs_invS (pc := 12) (as := [.long a.toInt64, .long (0 : Int64), .long w2v.toInt64]) (st := []) t306_12 (by decide) mf228 rfl rfl ⟨by decide, by decide, Nat.le_of_ble_eq_true rfl, Nat.le_of_ble_eq_true rfl⟩ (K228T (zi2l rfl) ll0 (zi2l w2) (by omega) ?_) (fun _ _ q => q)
    show zGo X l 1 0 0 306 15 [(0, .ref 336), (1, .int a)] [.int (1 : Int32)] M _
    refine zs_iret (pc := 15) t306_15 mr306 (by decide) ?_
    show zGo X l 3 0 0 314 5 [(0, .ref 336), (1, .int a), (2, .int b), (3, .int c)] [.int (1 : Int32)] M _
    refine zs_if_eqF (pc := 5) t314_5 li1 (by decide) ?_
    refine zs_iload_n (pc := 8) t314_8 rfl ?_
    refine zs_i2l (pc := 9) t314_9 rfl ?_
    refine zs_ldc2_w (pc := 10) t314_10 (v := -99) (by decide) ?_
    refine zs_ldc2_w (pc := 13) t314_13 (v := 99) (by decide) ?_
    by_cases w4 : (-99) ≤ b.toInt ∧ b.toInt ≤ 99
    · refine zs_invS (pc := 16) (as := [.long b.toInt64, .long (-99 : Int64), .long (99 : Int64)]) (st := []) t314_16 (by decide) mf228 rfl rfl ⟨by decide, by decide, Nat.le_of_ble_eq_true rfl, Nat.le_of_ble_eq_true rfl⟩ (K228T (zi2l rfl) lln99 ll99 (by omega) ?_) (fun _ _ q => q)
      show zGo X l 3 0 0 314 19 [(0, .ref 336), (1, .int a), (2, .int b), (3, .int c)] [.int (1 : Int32)] M _
      refine zs_if_eqF (pc := 19) t314_19 li1 (by decide) ?_
      refine zs_iload_n (pc := 22) t314_22 rfl ?_
      refine zs_i2l (pc := 23) t314_23 rfl ?_
      refine zs_ldc2_w (pc := 24) t314_24 (v := -99) (by decide) ?_
      refine zs_ldc2_w (pc := 27) t314_27 (v := 99) (by decide) ?_
      by_cases w5 : (-99) ≤ c.toInt ∧ c.toInt ≤ 99
      · refine zs_invS (pc := 30) (as := [.long c.toInt64, .long (-99 : Int64), .long (99 : Int64)]) (st := []) t314_30 (by decide) mf228 rfl rfl ⟨by decide, by decide, Nat.le_of_ble_eq_true rfl, Nat.le_of_ble_eq_true rfl⟩ (K228T (zi2l rfl) lln99 ll99 (by omega) ?_) (fun _ _ q => q)
        show zGo X l 3 0 0 314 33 [(0, .ref 336), (1, .int a), (2, .int b), (3, .int c)] [.int (1 : Int32)] M _
        refine zs_if_eqF (pc := 33) t314_33 li1 (by decide) ?_
        refine zs_aload_n (pc := 36) t314_36 rfl ?_
        refine zs_iload_n (pc := 37) t314_37 rfl ?_
        refine zs_iload_n (pc := 38) t314_38 rfl ?_
        refine zs_iload_n (pc := 39) t314_39 rfl ?_
        refine zs_invV (pc := 40) (k := 336) (as' := [.int a, .int b, .int c]) (st := []) t314_40 mf249 rfl rfl (Or.inl ⟨by decide, (zk1 (hs.k fk_zMm_336))⟩) ⟨by decide, by decide, Nat.le_of_ble_eq_true rfl, Nat.le_of_ble_eq_true rfl⟩ (K249 hs hI ⟨by omega, by omega⟩ ?_) (fun _ _ q => q)
        have w6 := zrg (zlift M a b c)
        show zGo X l 3 0 0 314 43 [(0, .ref 336), (1, .int a), (2, .int b), (3, .int c)] [.int (zlift M a b c)] M _
        refine zs_goto (pc := 43) t314_43 ?_
        exact zs_iret (pc := 49) t314_49 mr314 rfl (hQ _ _ hs hI (zFr.refl) pR pC pF)
      · refine zs_invS (pc := 30) (as := [.long c.toInt64, .long (-99 : Int64), .long (99 : Int64)]) (st := []) t314_30 (by decide) mf228 rfl rfl ⟨by decide, by decide, Nat.le_of_ble_eq_true rfl, Nat.le_of_ble_eq_true rfl⟩ (K228F (zi2l rfl) lln99 ll99 (by omega) ?_) (fun _ _ q => q)
        show zGo X l 3 0 0 314 33 [(0, .ref 336), (1, .int a), (2, .int b), (3, .int c)] [.int (0 : Int32)] M _
        refine zs_if_eqT (pc := 33) t314_33 li0 (by decide) ?_
        refine zs_ldc_w (pc := 46) t314_46 (v := -100000) rfl (by decide) ?_
        exact zs_iret (pc := 49) t314_49 mr314 (by decide) (hQ _ _ hs hI (zFr.refl) pR pC pF)
    · refine zs_invS (pc := 16) (as := [.long b.toInt64, .long (-99 : Int64), .long (99 : Int64)]) (st := []) t314_16 (by decide) mf228 rfl rfl ⟨by decide, by decide, Nat.le_of_ble_eq_true rfl, Nat.le_of_ble_eq_true rfl⟩ (K228F (zi2l rfl) lln99 ll99 (by omega) ?_) (fun _ _ q => q)
      show zGo X l 3 0 0 314 19 [(0, .ref 336), (1, .int a), (2, .int b), (3, .int c)] [.int (0 : Int32)] M _
      refine zs_if_eqT (pc := 19) t314_19 li0 (by decide) ?_
      refine zs_ldc_w (pc := 46) t314_46 (v := -100000) rfl (by decide) ?_
      exact zs_iret (pc := 49) t314_49 mr314 (by decide) (hQ _ _ hs hI (zFr.refl) pR pC pF)
  · refine zs_invS (pc := 12) (as := [.long a.toInt64, .long (0 : Int64), .long w2v.toInt64]) (st := []) t306_12 (by decide) mf228 rfl rfl ⟨by decide, by decide, Nat.le_of_ble_eq_true rfl, Nat.le_of_ble_eq_true rfl⟩ (K228F (zi2l rfl) ll0 (zi2l w2) (by omega) ?_) (fun _ _ q => q)
    show zGo X l 1 0 0 306 15 [(0, .ref 336), (1, .int a)] [.int (0 : Int32)] M _
    refine zs_iret (pc := 15) t306_15 mr306 (by decide) ?_
    show zGo X l 3 0 0 314 5 [(0, .ref 336), (1, .int a), (2, .int b), (3, .int c)] [.int (0 : Int32)] M _
    refine zs_if_eqT (pc := 5) t314_5 li0 (by decide) ?_
    refine zs_ldc_w (pc := 46) t314_46 (v := -100000) rfl (by decide) ?_
    exact zs_iret (pc := 49) t314_49 mr314 (by decide) (hQ _ _ hs hI (zFr.refl) pR pC pF)
theorem K315 {X : zX} {l : Launch} {M : zM} {Q : Option Value → zM → Prop} {a b c : Int32} (hs : zSk zMm M) (hI : zIv mLo mHi M) (pR : zPR M) (pC : zPC M) (pF : zPF M) (hQ : ∀ (M' : zM) (v : Int32), zSk zMm M' → zIv mLo mHi M' → zFr [(336, 363, none)] M M' → zPR M' → zPC M' → zPF M' → Q (some (.int v)) M') : zCall X l 3 0 0 315 [.ref 336, .int a, .int b, .int c] M Q := by
  have ga := zrg a
  have gb := zrg b
  have gc := zrg c
  refine zs_in (by decide) mf315 (Nat.le_of_ble_eq_true rfl) ?_
  show zGo X l 3 0 0 315 0 [(0, .ref 336), (1, .int a), (2, .int b), (3, .int c)] [] M _
  refine zs_iload_n (pc := 0) t315_0 rfl ?_
  refine zs_i2l (pc := 1) t315_1 rfl ?_
  refine zs_aload_n (pc := 2) t315_2 rfl ?_
  refine zs_get (pc := 3) t315_3 (by decide) (zk1 (hs.k fk_zMm_336)) (hs.p rfl fv_zMm_336_0) ?_
  refine zs_iconst (pc := 6) t315_6 (v := 5) (by decide) ?_
  have w1 := ibA5 hI
  refine zs_iald (pc := 7) t315_7 (j := 5) (by decide) (zk1 (hs.k fk_zMm_337)) li5 (zk2 (hs.k fk_zMm_337) (by decide)) rfl ?_
  obtain ⟨w2v, w2e⟩ : ∃ v, -(zI M 337 5) = v := ⟨_, rfl⟩
  have w2 : w2v.toInt = -(zI M 337 5).toInt := by rw [← w2e]; exact zneg rfl (by omega)
  refine zs_ineg (pc := 8) t315_8 (c := w2v) w2e ?_
  refine zs_i2l (pc := 9) t315_9 rfl ?_
  refine zs_aload_n (pc := 10) t315_10 rfl ?_
  refine zs_get (pc := 11) t315_11 (by decide) (zk1 (hs.k fk_zMm_336)) (hs.p rfl fv_zMm_336_0) ?_
  refine zs_iconst (pc := 14) t315_14 (v := 5) (by decide) ?_
  refine zs_iald (pc := 15) t315_15 (j := 5) (by decide) (zk1 (hs.k fk_zMm_337)) li5 (zk2 (hs.k fk_zMm_337) (by decide)) rfl ?_
  refine zs_i2l (pc := 16) t315_16 rfl ?_
  by_cases w3 : (-(zI M 337 5).toInt) ≤ a.toInt ∧ a.toInt ≤ (zI M 337 5).toInt
  · refine zs_invS (pc := 17) (as := [.long a.toInt64, .long w2v.toInt64, .long (zI M 337 5).toInt64]) (st := []) t315_17 (by decide) mf228 rfl rfl ⟨by decide, by decide, Nat.le_of_ble_eq_true rfl, Nat.le_of_ble_eq_true rfl⟩ (K228T (zi2l rfl) (zi2l w2) (zi2l rfl) (by omega) ?_) (fun _ _ q => q)
    show zGo X l 3 0 0 315 20 [(0, .ref 336), (1, .int a), (2, .int b), (3, .int c)] [.int (1 : Int32)] M _
    refine zs_if_eqF (pc := 20) t315_20 li1 (by decide) ?_
    refine zs_iload_n (pc := 23) t315_23 rfl ?_
    refine zs_i2l (pc := 24) t315_24 rfl ?_
    refine zs_aload_n (pc := 25) t315_25 rfl ?_
    refine zs_get (pc := 26) t315_26 (by decide) (zk1 (hs.k fk_zMm_336)) (hs.p rfl fv_zMm_336_0) ?_
    refine zs_bipush (pc := 29) t315_29 (v := 6) (by decide) ?_
    have w4 := ibA6 hI
    refine zs_iald (pc := 31) t315_31 (j := 6) (by decide) (zk1 (hs.k fk_zMm_337)) li6 (zk2 (hs.k fk_zMm_337) (by decide)) rfl ?_
    obtain ⟨w5v, w5e⟩ : ∃ v, -(zI M 337 6) = v := ⟨_, rfl⟩
    have w5 : w5v.toInt = -(zI M 337 6).toInt := by rw [← w5e]; exact zneg rfl (by omega)
    refine zs_ineg (pc := 32) t315_32 (c := w5v) w5e ?_
    refine zs_i2l (pc := 33) t315_33 rfl ?_
    refine zs_aload_n (pc := 34) t315_34 rfl ?_
    refine zs_get (pc := 35) t315_35 (by decide) (zk1 (hs.k fk_zMm_336)) (hs.p rfl fv_zMm_336_0) ?_
    refine zs_bipush (pc := 38) t315_38 (v := 6) (by decide) ?_
    refine zs_iald (pc := 40) t315_40 (j := 6) (by decide) (zk1 (hs.k fk_zMm_337)) li6 (zk2 (hs.k fk_zMm_337) (by decide)) rfl ?_
    refine zs_i2l (pc := 41) t315_41 rfl ?_
    by_cases w6 : (-(zI M 337 6).toInt) ≤ b.toInt ∧ b.toInt ≤ (zI M 337 6).toInt
    · refine zs_invS (pc := 42) (as := [.long b.toInt64, .long w5v.toInt64, .long (zI M 337 6).toInt64]) (st := []) t315_42 (by decide) mf228 rfl rfl ⟨by decide, by decide, Nat.le_of_ble_eq_true rfl, Nat.le_of_ble_eq_true rfl⟩ (K228T (zi2l rfl) (zi2l w5) (zi2l rfl) (by omega) ?_) (fun _ _ q => q)
      show zGo X l 3 0 0 315 45 [(0, .ref 336), (1, .int a), (2, .int b), (3, .int c)] [.int (1 : Int32)] M _
      refine zs_if_neT (pc := 45) t315_45 li1 (by decide) ?_
      refine zs_iconst (pc := 50) t315_50 (v := 0) (by decide) ?_
      refine zs_istore (pc := 51) t315_51 (ls' := [(4, .int (0 : Int32)), (0, .ref 336), (1, .int a), (2, .int b), (3, .int c)]) (zml mf315 (by decide)) rfl ?_
      refine zs_iconst (pc := 53) t315_53 (v := 0) (by decide) ?_
      refine zs_istore (pc := 54) t315_54 (ls' := [(5, .int (0 : Int32)), (4, .int (0 : Int32)), (0, .ref 336), (1, .int a), (2, .int b), (3, .int c)]) (zml mf315 (by decide)) rfl ?_
      have w7L : ∀ (m : Nat) (w7x4 : Int32) (w7x5 : Int32), (0 ≤ w7x5.toInt ∧ w7x5.toInt ≤ 60) → 60 - w7x5.toInt ≤ (m : Int) → zGo X l 3 0 0 315 56 [(0, .ref 336), (1, .int a), (2, .int b), (3, .int c), (4, .int w7x4), (5, .int w7x5)] [] M Q := by
        intro m
        induction m using Nat.strongRecOn with
        | ind w7m w7ih =>
          intro w7x4 w7x5 w7b5 w7q
          have w7g4 := zrg w7x4
          refine zs_iload (pc := 56) t315_56 rfl ?_
          refine zs_aload_n (pc := 58) t315_58 rfl ?_
          refine zs_get (pc := 59) t315_59 (by decide) (zk1 (hs.k fk_zMm_336)) (hs.p rfl fv_zMm_336_0) ?_
          refine zs_iconst (pc := 62) t315_62 (v := 1) (by decide) ?_
          have w8 := ibA1 hI
          refine zs_iald (pc := 63) t315_63 (j := 1) (by decide) (zk1 (hs.k fk_zMm_337)) li1 (zk2 (hs.k fk_zMm_337) (by decide)) rfl ?_
          by_cases w9 : (zI M 337 1).toInt ≤ w7x5.toInt
          · refine zs_icmp_geT (pc := 64) t315_64 rfl rfl (by omega) ?_
            refine zs_iload (pc := 133) t315_133 rfl ?_
            refine zs_invS (pc := 135) (as := [.int w7x4]) (st := []) t315_135 (by decide) mf278 rfl rfl ⟨by decide, by decide, Nat.le_of_ble_eq_true rfl, Nat.le_of_ble_eq_true rfl⟩ (K278x hs hI ?_) (fun _ _ q => q)
            intro w10v w10x0
            have w10g := zrg w10v
            show zGo X l 3 0 0 315 138 [(0, .ref 336), (1, .int a), (2, .int b), (3, .int c), (4, .int w7x4), (5, .int w7x5)] [.int w10v] M _
            exact zs_iret (pc := 138) t315_138 mr315 rfl (hQ _ _ hs hI (zFr.refl) pR pC pF)
          · refine zs_icmp_geF (pc := 64) t315_64 rfl rfl (by omega) ?_
            refine zs_aload_n (pc := 67) t315_67 rfl ?_
            refine zs_iload (pc := 68) t315_68 rfl ?_
            refine zs_iconst (pc := 70) t315_70 (v := 0) (by decide) ?_
            refine zs_invV (pc := 71) (k := 336) (as' := [.int w7x5, .int (0 : Int32)]) (st := []) t315_71 mf272 rfl rfl (Or.inl ⟨by decide, (zk1 (hs.k fk_zMm_336))⟩) ⟨by decide, by decide, Nat.le_of_ble_eq_true rfl, Nat.le_of_ble_eq_true rfl⟩ (zs_in (by decide) mf272 (Nat.le_of_ble_eq_true rfl) ?_) (fun _ _ q => q)
            show zGo X l 0 0 0 272 0 [(0, .ref 336), (1, .int w7x5), (2, .int (0 : Int32))] [] M _
            refine zs_aload_n (pc := 0) t272_0 rfl ?_
            refine zs_get (pc := 1) t272_1 (by decide) (zk1 (hs.k fk_zMm_336)) (hs.p rfl fv_zMm_336_0) ?_
            refine zs_bipush (pc := 4) t272_4 (v := 30) (by decide) ?_
            refine zs_iconst (pc := 6) t272_6 (v := 4) (by decide) ?_
            refine zs_iload_n (pc := 7) t272_7 rfl ?_
            obtain ⟨w11v, w11⟩ : ∃ v, (4 : Int32) * w7x5 = v := ⟨_, rfl⟩
            have w11g : w11v.toInt = 4 * w7x5.toInt := by rw [← w11]; exact zmulc li4 rfl (by omega) (by omega)
            refine zs_imul (pc := 8) t272_8 (c := w11v) w11 ?_
            obtain ⟨w12v, w12e, w12⟩ := ziadd (a := (30 : Int32)) (b := w11v) li30 w11g (by omega) (by omega)
            refine zs_iadd (pc := 9) t272_9 (c := w12v) w12e ?_
            refine zs_iload_n (pc := 10) t272_10 rfl ?_
            obtain ⟨w13v, w13e, w13⟩ := ziadd (a := w12v) (b := (0 : Int32)) w12 li0 (by omega) (by omega)
            refine zs_iadd (pc := 11) t272_11 (c := w13v) w13e ?_
            obtain ⟨w14n, w14⟩ : ∃ n : Nat, w7x5.toInt = (n : Int) := ⟨(w7x5.toInt).toNat, by omega⟩
            have w15 := ibL (j := (30 + 4 * w14n)) hI (by omega) (by omega) (by omega)
            refine zs_iald (pc := 12) t272_12 (j := (30 + 4 * w14n)) (by decide) (zk1 (hs.k fk_zMm_337)) (show w13v.toInt = (((30 + 4 * w14n) : Nat) : Int) by omega) (zk2 (hs.k fk_zMm_337) (by omega)) rfl ?_
            refine zs_iret (pc := 13) t272_13 mr272 rfl ?_
            show zGo X l 3 0 0 315 74 [(0, .ref 336), (1, .int a), (2, .int b), (3, .int c), (4, .int w7x4), (5, .int w7x5)] [.int (zI M 337 (30 + 4 * w14n))] M _
            refine zs_istore (pc := 74) t315_74 (ls' := [(6, .int (zI M 337 (30 + 4 * w14n))), (0, .ref 336), (1, .int a), (2, .int b), (3, .int c), (4, .int w7x4), (5, .int w7x5)]) (zml mf315 (by decide)) rfl ?_
            refine zs_aload_n (pc := 76) t315_76 rfl ?_
            refine zs_iload (pc := 77) t315_77 rfl ?_
            refine zs_iconst (pc := 79) t315_79 (v := -1) (by decide) ?_
            refine zs_invV (pc := 80) (k := 336) (as' := [.int w7x5, .int (-1 : Int32)]) (st := []) t315_80 mf271 rfl rfl (Or.inl ⟨by decide, (zk1 (hs.k fk_zMm_336))⟩) ⟨by decide, by decide, Nat.le_of_ble_eq_true rfl, Nat.le_of_ble_eq_true rfl⟩ (K271 hs hI ⟨by omega, by omega⟩ ?_) (fun _ _ q => q)
            intro w16v  w16a w16b
            show zGo X l 3 0 0 315 83 [(6, .int (zI M 337 (30 + 4 * w14n))), (0, .ref 336), (1, .int a), (2, .int b), (3, .int c), (4, .int w7x4), (5, .int w7x5)] [.int w16v] M _
            by_cases w17 : w16v.toInt = 0
            · refine zs_if_eqT (pc := 83) t315_83 rfl (by omega) ?_
              obtain ⟨w18v, w18e, w18⟩ := ziadd (a := w7x5) (b := Int32.ofInt 1) rfl (show (Int32.ofInt 1).toInt = 1 by decide) (by omega) (by omega)
              refine zs_iinc (pc := 127) t315_127 (ls' := [(5, .int w18v), (6, .int (zI M 337 (30 + 4 * w14n))), (0, .ref 336), (1, .int a), (2, .int b), (3, .int c), (4, .int w7x4)]) (zml mf315 (by decide)) rfl (c := w18v) w18e rfl ?_
              refine zs_goto (pc := 130) t315_130 ?_
              refine zGo.locals (ls' := [(0, .ref 336), (1, .int a), (2, .int b), (3, .int c), (4, .int w7x4), (5, .int w18v)]) (by simp) ?_
              have w19 := w18
              exact w7ih (w7m - 1) (by omega) w7x4 w18v ⟨by omega, by omega⟩ (by omega)
            · refine zs_if_eqF (pc := 83) t315_83 rfl (by omega) ?_
              refine zs_aload_n (pc := 86) t315_86 rfl ?_
              refine zs_iload (pc := 87) t315_87 rfl ?_
              refine zs_iconst (pc := 89) t315_89 (v := 1) (by decide) ?_
              refine zs_invV (pc := 90) (k := 336) (as' := [.int w7x5, .int (1 : Int32)]) (st := []) t315_90 mf272 rfl rfl (Or.inl ⟨by decide, (zk1 (hs.k fk_zMm_336))⟩) ⟨by decide, by decide, Nat.le_of_ble_eq_true rfl, Nat.le_of_ble_eq_true rfl⟩ (zs_in (by decide) mf272 (Nat.le_of_ble_eq_true rfl) ?_) (fun _ _ q => q)
              show zGo X l 0 0 0 272 0 [(0, .ref 336), (1, .int w7x5), (2, .int (1 : Int32))] [] M _
              refine zs_aload_n (pc := 0) t272_0 rfl ?_
              refine zs_get (pc := 1) t272_1 (by decide) (zk1 (hs.k fk_zMm_336)) (hs.p rfl fv_zMm_336_0) ?_
              refine zs_bipush (pc := 4) t272_4 (v := 30) (by decide) ?_
              refine zs_iconst (pc := 6) t272_6 (v := 4) (by decide) ?_
              refine zs_iload_n (pc := 7) t272_7 rfl ?_
              obtain ⟨w20v, w20⟩ : ∃ v, (4 : Int32) * w7x5 = v := ⟨_, rfl⟩
              have w20g : w20v.toInt = 4 * w7x5.toInt := by rw [← w20]; exact zmulc li4 rfl (by omega) (by omega)
              refine zs_imul (pc := 8) t272_8 (c := w20v) w20 ?_
              obtain ⟨w21v, w21e, w21⟩ := ziadd (a := (30 : Int32)) (b := w20v) li30 w20g (by omega) (by omega)
              refine zs_iadd (pc := 9) t272_9 (c := w21v) w21e ?_
              refine zs_iload_n (pc := 10) t272_10 rfl ?_
              obtain ⟨w22v, w22e, w22⟩ := ziadd (a := w21v) (b := (1 : Int32)) w21 li1 (by omega) (by omega)
              refine zs_iadd (pc := 11) t272_11 (c := w22v) w22e ?_
              have w23 := zrg (zI M 337 (31 + 4 * w14n))
              refine zs_iald (pc := 12) t272_12 (j := (31 + 4 * w14n)) (by decide) (zk1 (hs.k fk_zMm_337)) (show w22v.toInt = (((31 + 4 * w14n) : Nat) : Int) by omega) (zk2 (hs.k fk_zMm_337) (by omega)) rfl ?_
              refine zs_iret (pc := 13) t272_13 mr272 rfl ?_
              show zGo X l 3 0 0 315 93 [(6, .int (zI M 337 (30 + 4 * w14n))), (0, .ref 336), (1, .int a), (2, .int b), (3, .int c), (4, .int w7x4), (5, .int w7x5)] [.int (zI M 337 (31 + 4 * w14n))] M _
              refine zs_aload_n (pc := 93) t315_93 rfl ?_
              refine zs_iload (pc := 94) t315_94 rfl ?_
              refine zs_iload_n (pc := 96) t315_96 rfl ?_
              refine zs_iload_n (pc := 97) t315_97 rfl ?_
              refine zs_invV (pc := 98) (k := 336) (as' := [.int (zI M 337 (30 + 4 * w14n)), .int b, .int a]) (st := [.int (zI M 337 (31 + 4 * w14n))]) t315_98 mf249 rfl rfl (Or.inl ⟨by decide, (zk1 (hs.k fk_zMm_336))⟩) ⟨by decide, by decide, Nat.le_of_ble_eq_true rfl, Nat.le_of_ble_eq_true rfl⟩ (K249 hs hI ⟨by omega, by omega⟩ ?_) (fun _ _ q => q)
              have w24 := zrg (zlift M (zI M 337 (30 + 4 * w14n)) b a)
              show zGo X l 3 0 0 315 101 [(6, .int (zI M 337 (30 + 4 * w14n))), (0, .ref 336), (1, .int a), (2, .int b), (3, .int c), (4, .int w7x4), (5, .int w7x5)] [.int (zlift M (zI M 337 (30 + 4 * w14n)) b a), .int (zI M 337 (31 + 4 * w14n))] M _
              obtain ⟨w25v, w25⟩ : ∃ v, v = (zI M 337 (31 + 4 * w14n)) - (zlift M (zI M 337 (30 + 4 * w14n)) b a) := ⟨_, rfl⟩
              have w25g := zrg w25v
              refine zs_isub (pc := 101) t315_101 (c := w25v) w25.symm ?_
              refine zs_i2l (pc := 102) t315_102 rfl ?_
              refine zs_aload_n (pc := 103) t315_103 rfl ?_
              refine zs_get (pc := 104) t315_104 (by decide) (zk1 (hs.k fk_zMm_336)) (hs.p rfl fv_zMm_336_0) ?_
              refine zs_bipush (pc := 107) t315_107 (v := 7) (by decide) ?_
              have w26 := ibA7 hI
              refine zs_iald (pc := 109) t315_109 (j := 7) (by decide) (zk1 (hs.k fk_zMm_337)) li7 (zk2 (hs.k fk_zMm_337) (by decide)) rfl ?_
              refine zs_i2l (pc := 110) t315_110 rfl ?_
              have w27 : w25v.toInt64.toInt = w25v.toInt := (zi2l rfl)
              have w28 : (zI M 337 7).toInt64.toInt = (zI M 337 7).toInt := (zi2l rfl)
              refine zs_invS (pc := 111) (as := [.long w25v.toInt64, .long (zI M 337 7).toInt64]) (st := []) t315_111 (by decide) mf250 rfl rfl ⟨by decide, by decide, Nat.le_of_ble_eq_true rfl, Nat.le_of_ble_eq_true rfl⟩ (K250 hs hI ⟨by omega, by omega⟩ ?_) (fun _ _ q => q)
              have w29 := zrg (zflr w25v.toInt64 (zI M 337 7).toInt64)
              show zGo X l 3 0 0 315 114 [(6, .int (zI M 337 (30 + 4 * w14n))), (0, .ref 336), (1, .int a), (2, .int b), (3, .int c), (4, .int w7x4), (5, .int w7x5)] [.int (zflr w25v.toInt64 (zI M 337 7).toInt64)] M _
              refine zs_iload_n (pc := 114) t315_114 rfl ?_
              by_cases w30 : (zflr w25v.toInt64 (zI M 337 7).toInt64).toInt ≠ c.toInt
              · refine zs_icmp_neT (pc := 115) t315_115 rfl rfl (by omega) ?_
                obtain ⟨w31v, w31e, w31⟩ := ziadd (a := w7x5) (b := Int32.ofInt 1) rfl (show (Int32.ofInt 1).toInt = 1 by decide) (by omega) (by omega)
                refine zs_iinc (pc := 127) t315_127 (ls' := [(5, .int w31v), (6, .int (zI M 337 (30 + 4 * w14n))), (0, .ref 336), (1, .int a), (2, .int b), (3, .int c), (4, .int w7x4)]) (zml mf315 (by decide)) rfl (c := w31v) w31e rfl ?_
                refine zs_goto (pc := 130) t315_130 ?_
                refine zGo.locals (ls' := [(0, .ref 336), (1, .int a), (2, .int b), (3, .int c), (4, .int w7x4), (5, .int w31v)]) (by simp) ?_
                have w32 := w31
                exact w7ih (w7m - 1) (by omega) w7x4 w31v ⟨by omega, by omega⟩ (by omega)
              · refine zs_icmp_neF (pc := 115) t315_115 rfl rfl (by omega) ?_
                refine zs_iload (pc := 118) t315_118 rfl ?_
                refine zs_iconst (pc := 120) t315_120 (v := 1) (by decide) ?_
                refine zs_iload (pc := 121) t315_121 rfl ?_
                obtain ⟨w33v, w33⟩ : ∃ v, (1 : Int32) <<< ((zI M 337 (30 + 4 * w14n)) &&& 31) = v := ⟨_, rfl⟩
                have w33g := zrg w33v
                refine zs_ishl (pc := 123) t315_123 (c := w33v) w33 ?_
                obtain ⟨w34v, w34⟩ : ∃ v, w7x4 ||| w33v = v := ⟨_, rfl⟩
                have w34g := zrg w34v
                refine zs_ior (pc := 124) t315_124 (c := w34v) w34 ?_
                refine zs_istore (pc := 125) t315_125 (ls' := [(4, .int w34v), (6, .int (zI M 337 (30 + 4 * w14n))), (0, .ref 336), (1, .int a), (2, .int b), (3, .int c), (5, .int w7x5)]) (zml mf315 (by decide)) rfl ?_
                obtain ⟨w35v, w35e, w35⟩ := ziadd (a := w7x5) (b := Int32.ofInt 1) rfl (show (Int32.ofInt 1).toInt = 1 by decide) (by omega) (by omega)
                refine zs_iinc (pc := 127) t315_127 (ls' := [(5, .int w35v), (4, .int w34v), (6, .int (zI M 337 (30 + 4 * w14n))), (0, .ref 336), (1, .int a), (2, .int b), (3, .int c)]) (zml mf315 (by decide)) rfl (c := w35v) w35e rfl ?_
                refine zs_goto (pc := 130) t315_130 ?_
                refine zGo.locals (ls' := [(0, .ref 336), (1, .int a), (2, .int b), (3, .int c), (4, .int w34v), (5, .int w35v)]) (by simp) ?_
                have w36 := w35
                exact w7ih (w7m - 1) (by omega) w34v w35v ⟨by omega, by omega⟩ (by omega)
      refine zGo.locals (ls' := [(0, .ref 336), (1, .int a), (2, .int b), (3, .int c), (4, .int (0 : Int32)), (5, .int (0 : Int32))]) (by simp) ?_
      have w37 := li0
      have w38 := li0
      exact w7L ((60 - 0 : Int).toNat) (0 : Int32) (0 : Int32) ⟨by decide, by decide⟩ (by omega)
    · refine zs_invS (pc := 42) (as := [.long b.toInt64, .long w5v.toInt64, .long (zI M 337 6).toInt64]) (st := []) t315_42 (by decide) mf228 rfl rfl ⟨by decide, by decide, Nat.le_of_ble_eq_true rfl, Nat.le_of_ble_eq_true rfl⟩ (K228F (zi2l rfl) (zi2l w5) (zi2l rfl) (by omega) ?_) (fun _ _ q => q)
      show zGo X l 3 0 0 315 45 [(0, .ref 336), (1, .int a), (2, .int b), (3, .int c)] [.int (0 : Int32)] M _
      refine zs_if_neF (pc := 45) t315_45 li0 (by decide) ?_
      refine zs_iconst (pc := 48) t315_48 (v := -1) (by decide) ?_
      exact zs_iret (pc := 49) t315_49 mr315 (by decide) (hQ _ _ hs hI (zFr.refl) pR pC pF)
  · refine zs_invS (pc := 17) (as := [.long a.toInt64, .long w2v.toInt64, .long (zI M 337 5).toInt64]) (st := []) t315_17 (by decide) mf228 rfl rfl ⟨by decide, by decide, Nat.le_of_ble_eq_true rfl, Nat.le_of_ble_eq_true rfl⟩ (K228F (zi2l rfl) (zi2l w2) (zi2l rfl) (by omega) ?_) (fun _ _ q => q)
    show zGo X l 3 0 0 315 20 [(0, .ref 336), (1, .int a), (2, .int b), (3, .int c)] [.int (0 : Int32)] M _
    refine zs_if_eqT (pc := 20) t315_20 li0 (by decide) ?_
    refine zs_iconst (pc := 48) t315_48 (v := -1) (by decide) ?_
    exact zs_iret (pc := 49) t315_49 mr315 (by decide) (hQ _ _ hs hI (zFr.refl) pR pC pF)
