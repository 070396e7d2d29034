theorem T336 {X : zX} {l : Launch} {M : zM} {Q : Option Value → zM → Prop} {a b : Int32} (hs : zSk zMm M) (hI : zIv mLo mHi M) (pR : zPR M) (pC : zPC M) (pF : zPF M) (hQ : ∀ (M' : zM) (v : Int32), zSk zMm M' → zIv mLo mHi M' → zFr [(336, 336, some 3), (336, 336, some 18), (336, 336, some 19), (336, 336, some 20), (336, 336, some 21), (336, 336, some 22), (336, 336, some 37), (336, 336, some 39), (336, 336, some 42), (336, 336, some 43), (336, 336, some 44), (336, 336, some 45), (342, 361, none)] M M' → zPR M' → zPC M' → zPF M' → Q (some (.int v)) M') : zCall X l 7 0 0 336 [.ref 336, .int a, .int b] M Q := by
  have ga := zrg a
  have gb := zrg b
  refine zs_in (by decide) mf336 (Nat.le_of_ble_eq_true rfl) ?_
  show zGo X l 7 0 0 336 0 [(0, .ref 336), (1, .int a), (2, .int b)] [] M _
  refine zs_aload_n (pc := 0) t336_0 rfl ?_
  refine zs_invV (pc := 1) (k := 336) (as' := []) (st := []) t336_1 mf268 rfl rfl (Or.inl ⟨by decide, (zk1 (hs.k fk_zMm_336))⟩) ⟨by decide, by decide, Nat.le_of_ble_eq_true rfl, Nat.le_of_ble_eq_true rfl⟩ (K268 hs hI pR pF ?_) (fun _ _ q => q)
  intro w1M w1s w1I w1F w1PF w1PD w1PV
  show zGo X l 7 0 0 336 4 [(0, .ref 336), (1, .int a), (2, .int b)] [] w1M _
  refine zs_aload_n (pc := 4) t336_4 rfl ?_
  refine zs_iload_n (pc := 5) t336_5 rfl ?_
  refine zs_invV (pc := 6) (k := 336) (as' := [.int a]) (st := []) t336_6 mf297 rfl rfl (Or.inl ⟨by decide, (zk1 (w1s.k fk_zMm_336))⟩) ⟨by decide, by decide, Nat.le_of_ble_eq_true rfl, Nat.le_of_ble_eq_true rfl⟩ (zs_in (by decide) mf297 (Nat.le_of_ble_eq_true rfl) ?_) (fun _ _ q => q)
  show zGo X l 1 0 0 297 0 [(0, .ref 336), (1, .int a)] [] w1M _
  refine zs_iload_n (pc := 0) t297_0 rfl ?_
  refine zs_i2l (pc := 1) t297_1 rfl ?_
  refine zs_lconst (pc := 2) t297_2 (v := 0) (by decide) ?_
  refine zs_aload_n (pc := 3) t297_3 rfl ?_
  have w2 := ib336_22 w1I
  refine zs_get (pc := 4) t297_4 (by decide) (zk1 (w1s.k fk_zMm_336)) (zfvi rfl rfl) ?_
  refine zs_iconst (pc := 7) t297_7 (v := 1) (by decide) ?_
  obtain ⟨w3v, w3e, w3⟩ := zisub (a := (zI w1M 336 22)) (b := (1 : Int32)) rfl li1 (by omega) (by omega)
  refine zs_isub (pc := 8) t297_8 (c := w3v) w3e ?_
  refine zs_i2l (pc := 9) t297_9 rfl ?_
  by_cases w4 : 0 ≤ a.toInt ∧ a.toInt ≤ ((zI w1M 336 22).toInt - 1)
  · refine zs_invS (pc := 10) (as := [.long a.toInt64, .long (0 : Int64), .long w3v.toInt64]) (st := []) t297_10 (by decide) mf228 rfl rfl ⟨by decide, by decide, Nat.le_of_ble_eq_true rfl, Nat.le_of_ble_eq_true rfl⟩ (K228T (zi2l rfl) ll0 (zi2l w3) (by omega) ?_) (fun _ _ q => q)
    show zGo X l 1 0 0 297 13 [(0, .ref 336), (1, .int a)] [.int (1 : Int32)] w1M _
    refine zs_iret (pc := 13) t297_13 mr297 (by decide) ?_
    show zGo X l 7 0 0 336 9 [(0, .ref 336), (1, .int a), (2, .int b)] [.int (1 : Int32)] w1M _
    refine zs_if_eqF (pc := 9) t336_9 li1 (by decide) ?_
    refine zs_aload_n (pc := 12) t336_12 rfl ?_
    refine zs_iload_n (pc := 13) t336_13 rfl ?_
    refine zs_invV (pc := 14) (k := 336) (as' := [.int b]) (st := []) t336_14 mf306 rfl rfl (Or.inl ⟨by decide, (zk1 (w1s.k fk_zMm_336))⟩) ⟨by decide, by decide, Nat.le_of_ble_eq_true rfl, Nat.le_of_ble_eq_true rfl⟩ (zs_in (by decide) mf306 (Nat.le_of_ble_eq_true rfl) ?_) (fun _ _ q => q)
    show zGo X l 1 0 0 306 0 [(0, .ref 336), (1, .int b)] [] w1M _
    refine zs_iload_n (pc := 0) t306_0 rfl ?_
    refine zs_i2l (pc := 1) t306_1 rfl ?_
    refine zs_lconst (pc := 2) t306_2 (v := 0) (by decide) ?_
    refine zs_aload_n (pc := 3) t306_3 rfl ?_
    refine zs_get (pc := 4) t306_4 (by decide) (zk1 (w1s.k fk_zMm_336)) (w1s.p rfl fv_zMm_336_0) ?_
    refine zs_iconst (pc := 7) t306_7 (v := 0) (by decide) ?_
    have w5 := ibA0 hI
    refine zs_iald (pc := 8) t306_8 (j := 0) (by decide) (zk1 (w1s.k fk_zMm_337)) li0 (zk2 (w1s.k fk_zMm_337) (by decide)) ((w1F 337 0 rfl).trans rfl) ?_
    refine zs_iconst (pc := 9) t306_9 (v := 1) (by decide) ?_
    obtain ⟨w6v, w6e, w6⟩ := zisub (a := (zI M 337 0)) (b := (1 : Int32)) rfl li1 (by omega) (by omega)
    refine zs_isub (pc := 10) t306_10 (c := w6v) w6e ?_
    refine zs_i2l (pc := 11) t306_11 rfl ?_
    by_cases w7 : 0 ≤ b.toInt ∧ b.toInt ≤ ((zI M 337 0).toInt - 1)
    · refine zs_invS (pc := 12) (as := [.long b.toInt64, .long (0 : Int64), .long w6v.toInt64]) (st := []) t306_12 (by decide) mf228 rfl rfl ⟨by decide, by decide, Nat.le_of_ble_eq_true rfl, Nat.le_of_ble_eq_true rfl⟩ (K228T (zi2l rfl) ll0 (zi2l w6) (by omega) ?_) (fun _ _ q => q)
      show zGo X l 1 0 0 306 15 [(0, .ref 336), (1, .int b)] [.int (1 : Int32)] w1M _
      refine zs_iret (pc := 15) t306_15 mr306 (by decide) ?_
      show zGo X l 7 0 0 336 17 [(0, .ref 336), (1, .int a), (2, .int b)] [.int (1 : Int32)] w1M _
      refine zs_if_eqF (pc := 17) t336_17 li1 (by decide) ?_
      refine zs_aload_n (pc := 20) t336_20 rfl ?_
      refine zs_iload_n (pc := 21) t336_21 rfl ?_
      refine zs_iload_n (pc := 22) t336_22 rfl ?_
      have w8 : (zI w1M 336 22).toInt = (zI w1M 336 22).toInt := (congrArg Int32.toInt rfl).trans rfl
      refine zs_invV (pc := 23) (k := 336) (as' := [.int a, .int b]) (st := []) t336_23 mf337 rfl rfl (Or.inl ⟨by decide, (zk1 (w1s.k fk_zMm_336))⟩) ⟨by decide, by decide, Nat.le_of_ble_eq_true rfl, Nat.le_of_ble_eq_true rfl⟩ (K337 w1s w1I w1PD ⟨by omega, by omega⟩ ⟨by omega, by omega⟩ (by omega) ?_) (fun _ _ q => q)
      intro w9v
      have w9g := zrg w9v
      show zGo X l 7 0 0 336 26 [(0, .ref 336), (1, .int a), (2, .int b)] [.int w9v] w1M _
      refine zs_goto (pc := 26) t336_26 ?_
      exact zs_iret (pc := 32) t336_32 mr336 rfl (hQ _ _ w1s w1I ((zFr.refl).trans (w1F.mono rfl)) (zPR.fr pR (w1F.eq rfl)) (zPC.fr pC (w1F.eq rfl)) w1PF)
    · refine zs_invS (pc := 12) (as := [.long b.toInt64, .long (0 : Int64), .long w6v.toInt64]) (st := []) t306_12 (by decide) mf228 rfl rfl ⟨by decide, by decide, Nat.le_of_ble_eq_true rfl, Nat.le_of_ble_eq_true rfl⟩ (K228F (zi2l rfl) ll0 (zi2l w6) (by omega) ?_) (fun _ _ q => q)
      show zGo X l 1 0 0 306 15 [(0, .ref 336), (1, .int b)] [.int (0 : Int32)] w1M _
      refine zs_iret (pc := 15) t306_15 mr306 (by decide) ?_
      show zGo X l 7 0 0 336 17 [(0, .ref 336), (1, .int a), (2, .int b)] [.int (0 : Int32)] w1M _
      refine zs_if_eqT (pc := 17) t336_17 li0 (by decide) ?_
      refine zs_ldc_w (pc := 29) t336_29 (v := -100000) rfl (by decide) ?_
      exact zs_iret (pc := 32) t336_32 mr336 (by decide) (hQ _ _ w1s w1I ((zFr.refl).trans (w1F.mono rfl)) (zPR.fr pR (w1F.eq rfl)) (zPC.fr pC (w1F.eq rfl)) w1PF)
  · refine zs_invS (pc := 10) (as := [.long a.toInt64, .long (0 : Int64), .long w3v.toInt64]) (st := []) t297_10 (by decide) mf228 rfl rfl ⟨by decide, by decide, Nat.le_of_ble_eq_true rfl, Nat.le_of_ble_eq_true rfl⟩ (K228F (zi2l rfl) ll0 (zi2l w3) (by omega) ?_) (fun _ _ q => q)
    show zGo X l 1 0 0 297 13 [(0, .ref 336), (1, .int a)] [.int (0 : Int32)] w1M _
    refine zs_iret (pc := 13) t297_13 mr297 (by decide) ?_
    show zGo X l 7 0 0 336 9 [(0, .ref 336), (1, .int a), (2, .int b)] [.int (0 : Int32)] w1M _
    refine zs_if_eqT (pc := 9) t336_9 li0 (by decide) ?_
    refine zs_ldc_w (pc := 29) t336_29 (v := -100000) rfl (by decide) ?_
    exact zs_iret (pc := 32) t336_32 mr336 (by decide) (hQ _ _ w1s w1I ((zFr.refl).trans (w1F.mono rfl)) (zPR.fr pR (w1F.eq rfl)) (zPC.fr pC (w1F.eq rfl)) w1PF)
theorem T338 {X : zX} {l : Launch} {M : zM} {Q : Option Value → zM → Prop} {a : Int32} (hs : zSk zMm M) (hI : zIv mLo mHi M) (pR : zPR M) (pC : zPC M) (pF : zPF M) (hQ : ∀ (M' : zM) (v : Int32), zSk zMm M' → zIv mLo mHi M' → zFr [(336, 336, some 3), (336, 336, some 18), (336, 336, some 19), (336, 336, some 20), (336, 336, some 21), (336, 336, some 22), (336, 336, some 37), (336, 336, some 39), (336, 336, some 42), (336, 336, some 43), (336, 336, some 44), (336, 336, some 45), (342, 361, none)] M M' → zPR M' → zPC M' → zPF M' → Q (some (.int v)) M') : zCall X l 7 0 0 338 [.ref 336, .int a] M Q := by
  have ga := zrg a
  refine zs_in (by decide) mf338 (Nat.le_of_ble_eq_true rfl) ?_
  show zGo X l 7 0 0 338 0 [(0, .ref 336), (1, .int a)] [] M _
  refine zs_aload_n (pc := 0) t338_0 rfl ?_
  refine zs_invV (pc := 1) (k := 336) (as' := []) (st := []) t338_1 mf268 rfl rfl (Or.inl ⟨by decide, (zk1 (hs.k fk_zMm_336))⟩) ⟨by decide, by decide, Nat.le_of_ble_eq_true rfl, Nat.le_of_ble_eq_true rfl⟩ (K268 hs hI pR pF ?_) (fun _ _ q => q)
  intro w1M w1s w1I w1F w1PF w1PD w1PV
  show zGo X l 7 0 0 338 4 [(0, .ref 336), (1, .int a)] [] w1M _
  refine zs_aload_n (pc := 4) t338_4 rfl ?_
  refine zs_iload_n (pc := 5) t338_5 rfl ?_
  refine zs_invV (pc := 6) (k := 336) (as' := [.int a]) (st := []) t338_6 mf297 rfl rfl (Or.inl ⟨by decide, (zk1 (w1s.k fk_zMm_336))⟩) ⟨by decide, by decide, Nat.le_of_ble_eq_true rfl, Nat.le_of_ble_eq_true rfl⟩ (zs_in (by decide) mf297 (Nat.le_of_ble_eq_true rfl) ?_) (fun _ _ q => q)
  show zGo X l 1 0 0 297 0 [(0, .ref 336), (1, .int a)] [] w1M _
  refine zs_iload_n (pc := 0) t297_0 rfl ?_
  refine zs_i2l (pc := 1) t297_1 rfl ?_
  refine zs_lconst (pc := 2) t297_2 (v := 0) (by decide) ?_
  refine zs_aload_n (pc := 3) t297_3 rfl ?_
  have w2 := ib336_22 w1I
  refine zs_get (pc := 4) t297_4 (by decide) (zk1 (w1s.k fk_zMm_336)) (zfvi rfl rfl) ?_
  refine zs_iconst (pc := 7) t297_7 (v := 1) (by decide) ?_
  obtain ⟨w3v, w3e, w3⟩ := zisub (a := (zI w1M 336 22)) (b := (1 : Int32)) rfl li1 (by omega) (by omega)
  refine zs_isub (pc := 8) t297_8 (c := w3v) w3e ?_
  refine zs_i2l (pc := 9) t297_9 rfl ?_
  by_cases w4 : 0 ≤ a.toInt ∧ a.toInt ≤ ((zI w1M 336 22).toInt - 1)
  · refine zs_invS (pc := 10) (as := [.long a.toInt64, .long (0 : Int64), .long w3v.toInt64]) (st := []) t297_10 (by decide) mf228 rfl rfl ⟨by decide, by decide, Nat.le_of_ble_eq_true rfl, Nat.le_of_ble_eq_true rfl⟩ (K228T (zi2l rfl) ll0 (zi2l w3) (by omega) ?_) (fun _ _ q => q)
    show zGo X l 1 0 0 297 13 [(0, .ref 336), (1, .int a)] [.int (1 : Int32)] w1M _
    refine zs_iret (pc := 13) t297_13 mr297 (by decide) ?_
    show zGo X l 7 0 0 338 9 [(0, .ref 336), (1, .int a)] [.int (1 : Int32)] w1M _
    refine zs_if_neT (pc := 9) t338_9 li1 (by decide) ?_
    refine zs_iconst (pc := 14) t338_14 (v := 0) (by decide) ?_
    refine zs_istore_n (pc := 15) t338_15 (ls' := [(2, .int (0 : Int32)), (0, .ref 336), (1, .int a)]) (zml mf338 (by decide)) rfl ?_
    refine zs_iconst (pc := 16) t338_16 (v := 0) (by decide) ?_
    refine zs_istore_n (pc := 17) t338_17 (ls' := [(3, .int (0 : Int32)), (2, .int (0 : Int32)), (0, .ref 336), (1, .int a)]) (zml mf338 (by decide)) rfl ?_
    have w5L : ∀ (m : Nat) (w5x2 : Int32) (w5x3 : Int32), (0 ≤ w5x3.toInt ∧ w5x3.toInt ≤ 8) → 8 - w5x3.toInt ≤ (m : Int) → zGo X l 7 0 0 338 18 [(0, .ref 336), (1, .int a), (2, .int w5x2), (3, .int w5x3)] [] w1M Q := by
      intro m
      induction m using Nat.strongRecOn with
      | ind w5m w5ih =>
        intro w5x2 w5x3 w5b3 w5q
        have w5g2 := zrg w5x2
        refine zs_iload_n (pc := 18) t338_18 rfl ?_
        refine zs_aload_n (pc := 19) t338_19 rfl ?_
        refine zs_get (pc := 20) t338_20 (by decide) (zk1 (w1s.k fk_zMm_336)) (w1s.p rfl fv_zMm_336_0) ?_
        refine zs_iconst (pc := 23) t338_23 (v := 0) (by decide) ?_
        have w6 := ibA0 hI
        refine zs_iald (pc := 24) t338_24 (j := 0) (by decide) (zk1 (w1s.k fk_zMm_337)) li0 (zk2 (w1s.k fk_zMm_337) (by decide)) ((w1F 337 0 rfl).trans rfl) ?_
        by_cases w7 : (zI M 337 0).toInt ≤ w5x3.toInt
        · refine zs_icmp_geT (pc := 25) t338_25 rfl rfl (by omega) ?_
          refine zs_iload_n (pc := 68) t338_68 rfl ?_
          exact zs_iret (pc := 69) t338_69 mr338 rfl (hQ _ _ w1s w1I ((zFr.refl).trans (w1F.mono rfl)) (zPR.fr pR (w1F.eq rfl)) (zPC.fr pC (w1F.eq rfl)) w1PF)
        · refine zs_icmp_geF (pc := 25) t338_25 rfl rfl (by omega) ?_
          refine zs_iload_n (pc := 28) t338_28 rfl ?_
          refine zs_aload_n (pc := 29) t338_29 rfl ?_
          refine zs_iload_n (pc := 30) t338_30 rfl ?_
          refine zs_invV (pc := 31) (k := 336) (as' := [.int w5x3]) (st := [.int w5x2]) t338_31 mf273 rfl rfl (Or.inl ⟨by decide, (zk1 (w1s.k fk_zMm_336))⟩) ⟨by decide, by decide, Nat.le_of_ble_eq_true rfl, Nat.le_of_ble_eq_true rfl⟩ (zs_in (by decide) mf273 (Nat.le_of_ble_eq_true rfl) ?_) (fun _ _ q => q)
          show zGo X l 0 0 0 273 0 [(0, .ref 336), (1, .int w5x3)] [] w1M _
          refine zs_aload_n (pc := 0) t273_0 rfl ?_
          refine zs_get (pc := 1) t273_1 (by decide) (zk1 (w1s.k fk_zMm_336)) (w1s.p rfl fv_zMm_336_0) ?_
          refine zs_bipush (pc := 4) t273_4 (v := 14) (by decide) ?_
          refine zs_iconst (pc := 6) t273_6 (v := 2) (by decide) ?_
          refine zs_iload_n (pc := 7) t273_7 rfl ?_
          obtain ⟨w8v, w8⟩ : ∃ v, (2 : Int32) * w5x3 = v := ⟨_, rfl⟩
          have w8g : w8v.toInt = 2 * w5x3.toInt := by rw [← w8]; exact zmulc li2 rfl (by omega) (by omega)
          refine zs_imul (pc := 8) t273_8 (c := w8v) w8 ?_
          obtain ⟨w9v, w9e, w9⟩ := ziadd (a := (14 : Int32)) (b := w8v) li14 w8g (by omega) (by omega)
          refine zs_iadd (pc := 9) t273_9 (c := w9v) w9e ?_
          refine zs_iconst (pc := 10) t273_10 (v := 1) (by decide) ?_
          obtain ⟨w10v, w10e, w10⟩ := ziadd (a := w9v) (b := (1 : Int32)) w9 li1 (by omega) (by omega)
          refine zs_iadd (pc := 11) t273_11 (c := w10v) w10e ?_
          obtain ⟨w11n, w11⟩ : ∃ n : Nat, w5x3.toInt = (n : Int) := ⟨(w5x3.toInt).toNat, by omega⟩
          have w12 := zrg (zI M 337 (15 + 2 * w11n))
          refine zs_iald (pc := 12) t273_12 (j := (15 + 2 * w11n)) (by decide) (zk1 (w1s.k fk_zMm_337)) (show w10v.toInt = (((15 + 2 * w11n) : Nat) : Int) by omega) (zk2 (w1s.k fk_zMm_337) (by omega)) ((w1F 337 (15 + 2 * w11n) rfl).trans rfl) ?_
          refine zs_iconst (pc := 13) t273_13 (v := 1) (by decide) ?_
          by_cases w13 : (zI M 337 (15 + 2 * w11n)).toInt ≠ 1
          · refine zs_icmp_neT (pc := 14) t273_14 rfl li1 (by omega) ?_
            refine zs_iconst (pc := 21) t273_21 (v := 0) (by decide) ?_
            refine zs_iret (pc := 22) t273_22 mr273 (by decide) ?_
            show zGo X l 7 0 0 338 34 [(0, .ref 336), (1, .int a), (2, .int w5x2), (3, .int w5x3)] [.int (0 : Int32), .int w5x2] w1M _
            refine zs_if_eqT (pc := 34) t338_34 li0 (by decide) ?_
            refine zs_iconst (pc := 59) t338_59 (v := 0) (by decide) ?_
            obtain ⟨w14v, w14⟩ : ∃ v, w5x2 ||| (0 : Int32) = v := ⟨_, rfl⟩
            have w14g := zrg w14v
            refine zs_ior (pc := 60) t338_60 (c := w14v) w14 ?_
            refine zs_istore_n (pc := 61) t338_61 (ls' := [(2, .int w14v), (0, .ref 336), (1, .int a), (3, .int w5x3)]) (zml mf338 (by decide)) rfl ?_
            obtain ⟨w15v, w15e, w15⟩ := ziadd (a := w5x3) (b := Int32.ofInt 1) rfl (show (Int32.ofInt 1).toInt = 1 by decide) (by omega) (by omega)
            refine zs_iinc (pc := 62) t338_62 (ls' := [(3, .int w15v), (2, .int w14v), (0, .ref 336), (1, .int a)]) (zml mf338 (by decide)) rfl (c := w15v) w15e rfl ?_
            refine zs_goto (pc := 65) t338_65 ?_
            refine zGo.locals (ls' := [(0, .ref 336), (1, .int a), (2, .int w14v), (3, .int w15v)]) (by simp) ?_
            have w16 := w15
            exact w5ih (w5m - 1) (by omega) w14v w15v ⟨by omega, by omega⟩ (by omega)
          · refine zs_icmp_neF (pc := 14) t273_14 rfl li1 (by omega) ?_
            refine zs_iconst (pc := 17) t273_17 (v := 1) (by decide) ?_
            refine zs_goto (pc := 18) t273_18 ?_
            refine zs_iret (pc := 22) t273_22 mr273 (by decide) ?_
            show zGo X l 7 0 0 338 34 [(0, .ref 336), (1, .int a), (2, .int w5x2), (3, .int w5x3)] [.int (1 : Int32), .int w5x2] w1M _
            refine zs_if_eqF (pc := 34) t338_34 li1 (by decide) ?_
            refine zs_aload_n (pc := 37) t338_37 rfl ?_
            refine zs_get (pc := 38) t338_38 (by decide) (zk1 (w1s.k fk_zMm_336)) (w1s.p rfl fv_zMm_336_27) ?_
            refine zs_bipush (pc := 41) t338_41 (v := 8) (by decide) ?_
            refine zs_iload_n (pc := 43) t338_43 rfl ?_
            obtain ⟨w17v, w17⟩ : ∃ v, (8 : Int32) * a = v := ⟨_, rfl⟩
            have w17g : w17v.toInt = 8 * a.toInt := by rw [← w17]; exact zmulc li8 rfl (by omega) (by omega)
            refine zs_imul (pc := 44) t338_44 (c := w17v) w17 ?_
            refine zs_iload_n (pc := 45) t338_45 rfl ?_
            obtain ⟨w18v, w18e, w18⟩ := ziadd (a := w17v) (b := w5x3) w17g rfl (by omega) (by omega)
            refine zs_iadd (pc := 46) t338_46 (c := w18v) w18e ?_
            obtain ⟨w19n, w19⟩ : ∃ n : Nat, a.toInt = (n : Int) := ⟨(a.toInt).toNat, by omega⟩
            have w20 := ib349 w1I (8 * w19n + w11n)
            refine zs_iald (pc := 47) t338_47 (j := (8 * w19n + w11n)) (by decide) (zk1 (w1s.k fk_zMm_349)) (show w18v.toInt = (((8 * w19n + w11n) : Nat) : Int) by omega) (zk2 (w1s.k fk_zMm_349) (by omega)) rfl ?_
            refine zs_bipush (pc := 48) t338_48 (v := -2) (by decide) ?_
            by_cases w21 : (zI w1M 349 (8 * w19n + w11n)).toInt ≠ (-2)
            · refine zs_icmp_neT (pc := 50) t338_50 rfl lin2 (by omega) ?_
              refine zs_iconst (pc := 59) t338_59 (v := 0) (by decide) ?_
              obtain ⟨w22v, w22⟩ : ∃ v, w5x2 ||| (0 : Int32) = v := ⟨_, rfl⟩
              have w22g := zrg w22v
              refine zs_ior (pc := 60) t338_60 (c := w22v) w22 ?_
              refine zs_istore_n (pc := 61) t338_61 (ls' := [(2, .int w22v), (0, .ref 336), (1, .int a), (3, .int w5x3)]) (zml mf338 (by decide)) rfl ?_
              obtain ⟨w23v, w23e, w23⟩ := ziadd (a := w5x3) (b := Int32.ofInt 1) rfl (show (Int32.ofInt 1).toInt = 1 by decide) (by omega) (by omega)
              refine zs_iinc (pc := 62) t338_62 (ls' := [(3, .int w23v), (2, .int w22v), (0, .ref 336), (1, .int a)]) (zml mf338 (by decide)) rfl (c := w23v) w23e rfl ?_
              refine zs_goto (pc := 65) t338_65 ?_
              refine zGo.locals (ls' := [(0, .ref 336), (1, .int a), (2, .int w22v), (3, .int w23v)]) (by simp) ?_
              have w24 := w23
              exact w5ih (w5m - 1) (by omega) w22v w23v ⟨by omega, by omega⟩ (by omega)
            · refine zs_icmp_neF (pc := 50) t338_50 rfl lin2 (by omega) ?_
              refine zs_iconst (pc := 53) t338_53 (v := 1) (by decide) ?_
              refine zs_iload_n (pc := 54) t338_54 rfl ?_
              obtain ⟨w25v, w25⟩ : ∃ v, (1 : Int32) <<< (w5x3 &&& 31) = v := ⟨_, rfl⟩
              have w25g := zrg w25v
              refine zs_ishl (pc := 55) t338_55 (c := w25v) w25 ?_
              refine zs_goto (pc := 56) t338_56 ?_
              obtain ⟨w26v, w26⟩ : ∃ v, w5x2 ||| w25v = v := ⟨_, rfl⟩
              have w26g := zrg w26v
              refine zs_ior (pc := 60) t338_60 (c := w26v) w26 ?_
              refine zs_istore_n (pc := 61) t338_61 (ls' := [(2, .int w26v), (0, .ref 336), (1, .int a), (3, .int w5x3)]) (zml mf338 (by decide)) rfl ?_
              obtain ⟨w27v, w27e, w27⟩ := ziadd (a := w5x3) (b := Int32.ofInt 1) rfl (show (Int32.ofInt 1).toInt = 1 by decide) (by omega) (by omega)
              refine zs_iinc (pc := 62) t338_62 (ls' := [(3, .int w27v), (2, .int w26v), (0, .ref 336), (1, .int a)]) (zml mf338 (by decide)) rfl (c := w27v) w27e rfl ?_
              refine zs_goto (pc := 65) t338_65 ?_
              refine zGo.locals (ls' := [(0, .ref 336), (1, .int a), (2, .int w26v), (3, .int w27v)]) (by simp) ?_
              have w28 := w27
              exact w5ih (w5m - 1) (by omega) w26v w27v ⟨by omega, by omega⟩ (by omega)
    refine zGo.locals (ls' := [(0, .ref 336), (1, .int a), (2, .int (0 : Int32)), (3, .int (0 : Int32))]) (by simp) ?_
    have w29 := li0
    have w30 := li0
    exact w5L ((8 - 0 : Int).toNat) (0 : Int32) (0 : Int32) ⟨by decide, by decide⟩ (by omega)
  · refine zs_invS (pc := 10) (as := [.long a.toInt64, .long (0 : Int64), .long w3v.toInt64]) (st := []) t297_10 (by decide) mf228 rfl rfl ⟨by decide, by decide, Nat.le_of_ble_eq_true rfl, Nat.le_of_ble_eq_true rfl⟩ (K228F (zi2l rfl) ll0 (zi2l w3) (by omega) ?_) (fun _ _ q => q)
    show zGo X l 1 0 0 297 13 [(0, .ref 336), (1, .int a)] [.int (0 : Int32)] w1M _
    refine zs_iret (pc := 13) t297_13 mr297 (by decide) ?_
    show zGo X l 7 0 0 338 9 [(0, .ref 336), (1, .int a)] [.int (0 : Int32)] w1M _
    refine zs_if_neF (pc := 9) t338_9 li0 (by decide) ?_
    refine zs_iconst (pc := 12) t338_12 (v := -1) (by decide) ?_
    exact zs_iret (pc := 13) t338_13 mr338 (by decide) (hQ _ _ w1s w1I ((zFr.refl).trans (w1F.mono rfl)) (zPR.fr pR (w1F.eq rfl)) (zPC.fr pC (w1F.eq rfl)) w1PF)
theorem T339 {X : zX} {l : Launch} {M : zM} {Q : Option Value → zM → Prop} {a b : Int32} (hs : zSk zMm M) (hI : zIv mLo mHi M) (pR : zPR M) (pC : zPC M) (pF : zPF M) (hQ : ∀ (M' : zM) (v : Int32), zSk zMm M' → zIv mLo mHi M' → zFr [(336, 336, some 3), (336, 336, some 18), (336, 336, some 19), (336, 336, some 20), (336, 336, some 21), (336, 336, some 22), (336, 336, some 37), (336, 336, some 39), (336, 336, some 42), (336, 336, some 43), (336, 336, some 44), (336, 336, some 45), (342, 361, none)] M M' → zPR M' → zPC M' → zPF M' → Q (some (.int v)) M') : zCall X l 7 0 0 339 [.ref 336, .int a, .int b] M Q := by
  have ga := zrg a
  have gb := zrg b
  refine zs_in (by decide) mf339 (Nat.le_of_ble_eq_true rfl) ?_
  show zGo X l 7 0 0 339 0 [(0, .ref 336), (1, .int a), (2, .int b)] [] M _
  refine zs_aload_n (pc := 0) t339_0 rfl ?_
  refine zs_invV (pc := 1) (k := 336) (as' := []) (st := []) t339_1 mf268 rfl rfl (Or.inl ⟨by decide, (zk1 (hs.k fk_zMm_336))⟩) ⟨by decide, by decide, Nat.le_of_ble_eq_true rfl, Nat.le_of_ble_eq_true rfl⟩ (K268 hs hI pR pF ?_) (fun _ _ q => q)
  intro w1M w1s w1I w1F w1PF w1PD w1PV
  show zGo X l 7 0 0 339 4 [(0, .ref 336), (1, .int a), (2, .int b)] [] w1M _
  refine zs_aload_n (pc := 4) t339_4 rfl ?_
  refine zs_iload_n (pc := 5) t339_5 rfl ?_
  refine zs_invV (pc := 6) (k := 336) (as' := [.int a]) (st := []) t339_6 mf297 rfl rfl (Or.inl ⟨by decide, (zk1 (w1s.k fk_zMm_336))⟩) ⟨by decide, by decide, Nat.le_of_ble_eq_true rfl, Nat.le_of_ble_eq_true rfl⟩ (zs_in (by decide) mf297 (Nat.le_of_ble_eq_true rfl) ?_) (fun _ _ q => q)
  show zGo X l 1 0 0 297 0 [(0, .ref 336), (1, .int a)] [] w1M _
  refine zs_iload_n (pc := 0) t297_0 rfl ?_
  refine zs_i2l (pc := 1) t297_1 rfl ?_
  refine zs_lconst (pc := 2) t297_2 (v := 0) (by decide) ?_
  refine zs_aload_n (pc := 3) t297_3 rfl ?_
  have w2 := ib336_22 w1I
  refine zs_get (pc := 4) t297_4 (by decide) (zk1 (w1s.k fk_zMm_336)) (zfvi rfl rfl) ?_
  refine zs_iconst (pc := 7) t297_7 (v := 1) (by decide) ?_
  obtain ⟨w3v, w3e, w3⟩ := zisub (a := (zI w1M 336 22)) (b := (1 : Int32)) rfl li1 (by omega) (by omega)
  refine zs_isub (pc := 8) t297_8 (c := w3v) w3e ?_
  refine zs_i2l (pc := 9) t297_9 rfl ?_
  by_cases w4 : 0 ≤ a.toInt ∧ a.toInt ≤ ((zI w1M 336 22).toInt - 1)
  · refine zs_invS (pc := 10) (as := [.long a.toInt64, .long (0 : Int64), .long w3v.toInt64]) (st := []) t297_10 (by decide) mf228 rfl rfl ⟨by decide, by decide, Nat.le_of_ble_eq_true rfl, Nat.le_of_ble_eq_true rfl⟩ (K228T (zi2l rfl) ll0 (zi2l w3) (by omega) ?_) (fun _ _ q => q)
    show zGo X l 1 0 0 297 13 [(0, .ref 336), (1, .int a)] [.int (1 : Int32)] w1M _
    refine zs_iret (pc := 13) t297_13 mr297 (by decide) ?_
    show zGo X l 7 0 0 339 9 [(0, .ref 336), (1, .int a), (2, .int b)] [.int (1 : Int32)] w1M _
    refine zs_if_eqF (pc := 9) t339_9 li1 (by decide) ?_
    refine zs_aload_n (pc := 12) t339_12 rfl ?_
    refine zs_iload_n (pc := 13) t339_13 rfl ?_
    refine zs_invV (pc := 14) (k := 336) (as' := [.int b]) (st := []) t339_14 mf306 rfl rfl (Or.inl ⟨by decide, (zk1 (w1s.k fk_zMm_336))⟩) ⟨by decide, by decide, Nat.le_of_ble_eq_true rfl, Nat.le_of_ble_eq_true rfl⟩ (zs_in (by decide) mf306 (Nat.le_of_ble_eq_true rfl) ?_) (fun _ _ q => q)
    show zGo X l 1 0 0 306 0 [(0, .ref 336), (1, .int b)] [] w1M _
    refine zs_iload_n (pc := 0) t306_0 rfl ?_
    refine zs_i2l (pc := 1) t306_1 rfl ?_
    refine zs_lconst (pc := 2) t306_2 (v := 0) (by decide) ?_
    refine zs_aload_n (pc := 3) t306_3 rfl ?_
    refine zs_get (pc := 4) t306_4 (by decide) (zk1 (w1s.k fk_zMm_336)) (w1s.p rfl fv_zMm_336_0) ?_
    refine zs_iconst (pc := 7) t306_7 (v := 0) (by decide) ?_
    have w5 := ibA0 hI
    refine zs_iald (pc := 8) t306_8 (j := 0) (by decide) (zk1 (w1s.k fk_zMm_337)) li0 (zk2 (w1s.k fk_zMm_337) (by decide)) ((w1F 337 0 rfl).trans rfl) ?_
    refine zs_iconst (pc := 9) t306_9 (v := 1) (by decide) ?_
    obtain ⟨w6v, w6e, w6⟩ := zisub (a := (zI M 337 0)) (b := (1 : Int32)) rfl li1 (by omega) (by omega)
    refine zs_isub (pc := 10) t306_10 (c := w6v) w6e ?_
    refine zs_i2l (pc := 11) t306_11 rfl ?_
    by_cases w7 : 0 ≤ b.toInt ∧ b.toInt ≤ ((zI M 337 0).toInt - 1)
    · refine zs_invS (pc := 12) (as := [.long b.toInt64, .long (0 : Int64), .long w6v.toInt64]) (st := []) t306_12 (by decide) mf228 rfl rfl ⟨by decide, by decide, Nat.le_of_ble_eq_true rfl, Nat.le_of_ble_eq_true rfl⟩ (K228T (zi2l rfl) ll0 (zi2l w6) (by omega) ?_) (fun _ _ q => q)
      show zGo X l 1 0 0 306 15 [(0, .ref 336), (1, .int b)] [.int (1 : Int32)] w1M _
      refine zs_iret (pc := 15) t306_15 mr306 (by decide) ?_
      show zGo X l 7 0 0 339 17 [(0, .ref 336), (1, .int a), (2, .int b)] [.int (1 : Int32)] w1M _
      refine zs_if_neT (pc := 17) t339_17 li1 (by decide) ?_
      refine zs_bipush (pc := 22) t339_22 (v := -2) (by decide) ?_
      refine zs_istore_n (pc := 24) t339_24 (ls' := [(3, .int (-2 : Int32)), (0, .ref 336), (1, .int a), (2, .int b)]) (zml mf339 (by decide)) rfl ?_
      refine zs_iconst (pc := 25) t339_25 (v := 0) (by decide) ?_
      refine zs_istore (pc := 26) t339_26 (ls' := [(4, .int (0 : Int32)), (3, .int (-2 : Int32)), (0, .ref 336), (1, .int a), (2, .int b)]) (zml mf339 (by decide)) rfl ?_
      refine zs_iconst (pc := 28) t339_28 (v := 0) (by decide) ?_
      refine zs_istore (pc := 29) t339_29 (ls' := [(5, .int (0 : Int32)), (4, .int (0 : Int32)), (3, .int (-2 : Int32)), (0, .ref 336), (1, .int a), (2, .int b)]) (zml mf339 (by decide)) rfl ?_
      have w8L : ∀ (m : Nat) (w8x3 : Int32) (w8x4 : Int32) (w8x5 : Int32), (0 ≤ w8x5.toInt ∧ w8x5.toInt ≤ 60) → 60 - w8x5.toInt ≤ (m : Int) → zGo X l 7 0 0 339 31 [(0, .ref 336), (1, .int a), (2, .int b), (3, .int w8x3), (4, .int w8x4), (5, .int w8x5)] [] w1M Q := by
        intro m
        induction m using Nat.strongRecOn with
        | ind w8m w8ih =>
          intro w8x3 w8x4 w8x5 w8b5 w8q
          have w8g3 := zrg w8x3
          have w8g4 := zrg w8x4
          refine zs_iload (pc := 31) t339_31 rfl ?_
          refine zs_aload_n (pc := 33) t339_33 rfl ?_
          refine zs_get (pc := 34) t339_34 (by decide) (zk1 (w1s.k fk_zMm_336)) (w1s.p rfl fv_zMm_336_0) ?_
          refine zs_iconst (pc := 37) t339_37 (v := 1) (by decide) ?_
          have w9 := ibA1 hI
          refine zs_iald (pc := 38) t339_38 (j := 1) (by decide) (zk1 (w1s.k fk_zMm_337)) li1 (zk2 (w1s.k fk_zMm_337) (by decide)) ((w1F 337 1 rfl).trans rfl) ?_
          by_cases w10 : (zI M 337 1).toInt ≤ w8x5.toInt
          · refine zs_icmp_geT (pc := 39) t339_39 rfl rfl (by omega) ?_
            refine zs_iload_n (pc := 126) t339_126 rfl ?_
            exact zs_iret (pc := 127) t339_127 mr339 rfl (hQ _ _ w1s w1I ((zFr.refl).trans (w1F.mono rfl)) (zPR.fr pR (w1F.eq rfl)) (zPC.fr pC (w1F.eq rfl)) w1PF)
          · refine zs_icmp_geF (pc := 39) t339_39 rfl rfl (by omega) ?_
            refine zs_aload_n (pc := 42) t339_42 rfl ?_
            refine zs_iload (pc := 43) t339_43 rfl ?_
            refine zs_iconst (pc := 45) t339_45 (v := 0) (by decide) ?_
            refine zs_invV (pc := 46) (k := 336) (as' := [.int w8x5, .int (0 : Int32)]) (st := []) t339_46 mf272 rfl rfl (Or.inl ⟨by decide, (zk1 (w1s.k fk_zMm_336))⟩) ⟨by decide, by decide, Nat.le_of_ble_eq_true rfl, Nat.le_of_ble_eq_true rfl⟩ (zs_in (by decide) mf272 (Nat.le_of_ble_eq_true rfl) ?_) (fun _ _ q => q)
            show zGo X l 0 0 0 272 0 [(0, .ref 336), (1, .int w8x5), (2, .int (0 : Int32))] [] w1M _
            refine zs_aload_n (pc := 0) t272_0 rfl ?_
            refine zs_get (pc := 1) t272_1 (by decide) (zk1 (w1s.k fk_zMm_336)) (w1s.p rfl fv_zMm_336_0) ?_
            refine zs_bipush (pc := 4) t272_4 (v := 30) (by decide) ?_
            refine zs_iconst (pc := 6) t272_6 (v := 4) (by decide) ?_
            refine zs_iload_n (pc := 7) t272_7 rfl ?_
            obtain ⟨w11v, w11⟩ : ∃ v, (4 : Int32) * w8x5 = v := ⟨_, rfl⟩
            have w11g : w11v.toInt = 4 * w8x5.toInt := by rw [← w11]; exact zmulc li4 rfl (by omega) (by omega)
            refine zs_imul (pc := 8) t272_8 (c := w11v) w11 ?_
            obtain ⟨w12v, w12e, w12⟩ := ziadd (a := (30 : Int32)) (b := w11v) li30 w11g (by omega) (by omega)
            refine zs_iadd (pc := 9) t272_9 (c := w12v) w12e ?_
            refine zs_iload_n (pc := 10) t272_10 rfl ?_
            obtain ⟨w13v, w13e, w13⟩ := ziadd (a := w12v) (b := (0 : Int32)) w12 li0 (by omega) (by omega)
            refine zs_iadd (pc := 11) t272_11 (c := w13v) w13e ?_
            obtain ⟨w14n, w14⟩ : ∃ n : Nat, w8x5.toInt = (n : Int) := ⟨(w8x5.toInt).toNat, by omega⟩
            have w15 := ibL (j := (30 + 4 * w14n)) hI (by omega) (by omega) (by omega)
            refine zs_iald (pc := 12) t272_12 (j := (30 + 4 * w14n)) (by decide) (zk1 (w1s.k fk_zMm_337)) (show w13v.toInt = (((30 + 4 * w14n) : Nat) : Int) by omega) (zk2 (w1s.k fk_zMm_337) (by omega)) ((w1F 337 (30 + 4 * w14n) rfl).trans rfl) ?_
            refine zs_iret (pc := 13) t272_13 mr272 rfl ?_
            show zGo X l 7 0 0 339 49 [(0, .ref 336), (1, .int a), (2, .int b), (3, .int w8x3), (4, .int w8x4), (5, .int w8x5)] [.int (zI M 337 (30 + 4 * w14n))] w1M _
            refine zs_iload_n (pc := 49) t339_49 rfl ?_
            by_cases w16 : (zI M 337 (30 + 4 * w14n)).toInt ≠ b.toInt
            · refine zs_icmp_neT (pc := 50) t339_50 rfl rfl (by omega) ?_
              obtain ⟨w17v, w17e, w17⟩ := ziadd (a := w8x5) (b := Int32.ofInt 1) rfl (show (Int32.ofInt 1).toInt = 1 by decide) (by omega) (by omega)
              refine zs_iinc (pc := 120) t339_120 (ls' := [(5, .int w17v), (0, .ref 336), (1, .int a), (2, .int b), (3, .int w8x3), (4, .int w8x4)]) (zml mf339 (by decide)) rfl (c := w17v) w17e rfl ?_
              refine zs_goto (pc := 123) t339_123 ?_
              refine zGo.locals (ls' := [(0, .ref 336), (1, .int a), (2, .int b), (3, .int w8x3), (4, .int w8x4), (5, .int w17v)]) (by simp) ?_
              have w18 := w17
              exact w8ih (w8m - 1) (by omega) w8x3 w8x4 w17v ⟨by omega, by omega⟩ (by omega)
            · refine zs_icmp_neF (pc := 50) t339_50 rfl rfl (by omega) ?_
              refine zs_aload_n (pc := 53) t339_53 rfl ?_
              refine zs_iload (pc := 54) t339_54 rfl ?_
              refine zs_iconst (pc := 56) t339_56 (v := -1) (by decide) ?_
              refine zs_invV (pc := 57) (k := 336) (as' := [.int w8x5, .int (-1 : Int32)]) (st := []) t339_57 mf271 rfl rfl (Or.inl ⟨by decide, (zk1 (w1s.k fk_zMm_336))⟩) ⟨by decide, by decide, Nat.le_of_ble_eq_true rfl, Nat.le_of_ble_eq_true rfl⟩ (K271 w1s w1I ⟨by omega, by omega⟩ ?_) (fun _ _ q => q)
              intro w19v  w19a w19b
              show zGo X l 7 0 0 339 60 [(0, .ref 336), (1, .int a), (2, .int b), (3, .int w8x3), (4, .int w8x4), (5, .int w8x5)] [.int w19v] w1M _
              by_cases w20 : w19v.toInt = 0
              · refine zs_if_eqT (pc := 60) t339_60 rfl (by omega) ?_
                obtain ⟨w21v, w21e, w21⟩ := ziadd (a := w8x5) (b := Int32.ofInt 1) rfl (show (Int32.ofInt 1).toInt = 1 by decide) (by omega) (by omega)
                refine zs_iinc (pc := 120) t339_120 (ls' := [(5, .int w21v), (0, .ref 336), (1, .int a), (2, .int b), (3, .int w8x3), (4, .int w8x4)]) (zml mf339 (by decide)) rfl (c := w21v) w21e rfl ?_
                refine zs_goto (pc := 123) t339_123 ?_
                refine zGo.locals (ls' := [(0, .ref 336), (1, .int a), (2, .int b), (3, .int w8x3), (4, .int w8x4), (5, .int w21v)]) (by simp) ?_
                have w22 := w21
                exact w8ih (w8m - 1) (by omega) w8x3 w8x4 w21v ⟨by omega, by omega⟩ (by omega)
              · refine zs_if_eqF (pc := 60) t339_60 rfl (by omega) ?_
                refine zs_aload_n (pc := 63) t339_63 rfl ?_
                refine zs_get (pc := 64) t339_64 (by decide) (zk1 (w1s.k fk_zMm_336)) (w1s.p rfl fv_zMm_336_28) ?_
                refine zs_iload (pc := 67) t339_67 rfl ?_
                have w23 := zrg (zI w1M 350 w14n)
                refine zs_iald (pc := 69) t339_69 (j := w14n) (by decide) (zk1 (w1s.k fk_zMm_350)) (show w8x5.toInt = ((w14n : Nat) : Int) by omega) (zk2 (w1s.k fk_zMm_350) (by omega)) rfl ?_
                refine zs_bipush (pc := 70) t339_70 (v := -2) (by decide) ?_
                by_cases w24 : (zI w1M 350 w14n).toInt = (-2)
                · refine zs_icmp_eqT (pc := 72) t339_72 rfl lin2 (by omega) ?_
                  refine zs_aload_n (pc := 78) t339_78 rfl ?_
                  refine zs_iload (pc := 79) t339_79 rfl ?_
                  refine zs_iconst (pc := 81) t339_81 (v := 1) (by decide) ?_
                  refine zs_invV (pc := 82) (k := 336) (as' := [.int w8x5, .int (1 : Int32)]) (st := []) t339_82 mf272 rfl rfl (Or.inl ⟨by decide, (zk1 (w1s.k fk_zMm_336))⟩) ⟨by decide, by decide, Nat.le_of_ble_eq_true rfl, Nat.le_of_ble_eq_true rfl⟩ (zs_in (by decide) mf272 (Nat.le_of_ble_eq_true rfl) ?_) (fun _ _ q => q)
                  show zGo X l 0 0 0 272 0 [(0, .ref 336), (1, .int w8x5), (2, .int (1 : Int32))] [] w1M _
                  refine zs_aload_n (pc := 0) t272_0 rfl ?_
                  refine zs_get (pc := 1) t272_1 (by decide) (zk1 (w1s.k fk_zMm_336)) (w1s.p rfl fv_zMm_336_0) ?_
                  refine zs_bipush (pc := 4) t272_4 (v := 30) (by decide) ?_
                  refine zs_iconst (pc := 6) t272_6 (v := 4) (by decide) ?_
                  refine zs_iload_n (pc := 7) t272_7 rfl ?_
                  obtain ⟨w25v, w25⟩ : ∃ v, (4 : Int32) * w8x5 = v := ⟨_, rfl⟩
                  have w25g : w25v.toInt = 4 * w8x5.toInt := by rw [← w25]; exact zmulc li4 rfl (by omega) (by omega)
                  refine zs_imul (pc := 8) t272_8 (c := w25v) w25 ?_
                  obtain ⟨w26v, w26e, w26⟩ := ziadd (a := (30 : Int32)) (b := w25v) li30 w25g (by omega) (by omega)
                  refine zs_iadd (pc := 9) t272_9 (c := w26v) w26e ?_
                  refine zs_iload_n (pc := 10) t272_10 rfl ?_
                  obtain ⟨w27v, w27e, w27⟩ := ziadd (a := w26v) (b := (1 : Int32)) w26 li1 (by omega) (by omega)
                  refine zs_iadd (pc := 11) t272_11 (c := w27v) w27e ?_
                  have w28 := zrg (zI M 337 (31 + 4 * w14n))
                  refine zs_iald (pc := 12) t272_12 (j := (31 + 4 * w14n)) (by decide) (zk1 (w1s.k fk_zMm_337)) (show w27v.toInt = (((31 + 4 * w14n) : Nat) : Int) by omega) (zk2 (w1s.k fk_zMm_337) (by omega)) ((w1F 337 (31 + 4 * w14n) rfl).trans rfl) ?_
                  refine zs_iret (pc := 13) t272_13 mr272 rfl ?_
                  show zGo X l 7 0 0 339 85 [(0, .ref 336), (1, .int a), (2, .int b), (3, .int w8x3), (4, .int w8x4), (5, .int w8x5)] [.int (zI M 337 (31 + 4 * w14n))] w1M _
                  refine zs_aload_n (pc := 85) t339_85 rfl ?_
                  refine zs_iload_n (pc := 86) t339_86 rfl ?_
                  refine zs_iload_n (pc := 87) t339_87 rfl ?_
                  have w29 : (zI w1M 336 22).toInt = (zI w1M 336 22).toInt := (congrArg Int32.toInt rfl).trans rfl
                  refine zs_invV (pc := 88) (k := 336) (as' := [.int a, .int b]) (st := [.int (zI M 337 (31 + 4 * w14n))]) t339_88 mf337 rfl rfl (Or.inl ⟨by decide, (zk1 (w1s.k fk_zMm_336))⟩) ⟨by decide, by decide, Nat.le_of_ble_eq_true rfl, Nat.le_of_ble_eq_true rfl⟩ (K337 w1s w1I w1PD ⟨by omega, by omega⟩ ⟨by omega, by omega⟩ (by omega) ?_) (fun _ _ q => q)
                  intro w30v
                  have w30g := zrg w30v
                  show zGo X l 7 0 0 339 91 [(0, .ref 336), (1, .int a), (2, .int b), (3, .int w8x3), (4, .int w8x4), (5, .int w8x5)] [.int w30v, .int (zI M 337 (31 + 4 * w14n))] w1M _
                  obtain ⟨w31v, w31⟩ : ∃ v, v = (zI M 337 (31 + 4 * w14n)) - w30v := ⟨_, rfl⟩
                  have w31g := zrg w31v
                  refine zs_isub (pc := 91) t339_91 (c := w31v) w31.symm ?_
                  refine zs_invS (pc := 92) (as := [.int w31v]) (st := []) t339_92 (by decide) mf280 rfl rfl ⟨by decide, by decide, Nat.le_of_ble_eq_true rfl, Nat.le_of_ble_eq_true rfl⟩ (zs_in (by decide) mf280 (Nat.le_of_ble_eq_true rfl) ?_) (fun _ _ q => q)
                  show zGo X l 0 0 0 280 0 [(0, .int w31v)] [] w1M _
                  refine zs_iload_n (pc := 0) t280_0 rfl ?_
                  by_cases w32 : 0 ≤ w31v.toInt
                  · refine zs_if_geT (pc := 1) t280_1 rfl (by omega) ?_
                    refine zs_iload_n (pc := 9) t280_9 rfl ?_
                    refine zs_iret (pc := 10) t280_10 mr280 rfl ?_
                    show zGo X l 7 0 0 339 95 [(0, .ref 336), (1, .int a), (2, .int b), (3, .int w8x3), (4, .int w8x4), (5, .int w8x5)] [.int w31v] w1M _
                    refine zs_istore (pc := 95) t339_95 (ls' := [(6, .int w31v), (0, .ref 336), (1, .int a), (2, .int b), (3, .int w8x3), (4, .int w8x4), (5, .int w8x5)]) (zml mf339 (by decide)) rfl ?_
                    refine zs_iload_n (pc := 97) t339_97 rfl ?_
                    refine zs_bipush (pc := 98) t339_98 (v := -2) (by decide) ?_
                    by_cases w33 : w8x3.toInt = (-2)
                    · refine zs_icmp_eqT (pc := 100) t339_100 rfl lin2 (by omega) ?_
                      refine zs_iload (pc := 113) t339_113 rfl ?_
                      refine zs_istore_n (pc := 115) t339_115 (ls' := [(3, .int w8x5), (6, .int w31v), (0, .ref 336), (1, .int a), (2, .int b), (4, .int w8x4), (5, .int w8x5)]) (zml mf339 (by decide)) rfl ?_
                      refine zs_iload (pc := 116) t339_116 rfl ?_
                      refine zs_istore (pc := 118) t339_118 (ls' := [(4, .int w31v), (3, .int w8x5), (6, .int w31v), (0, .ref 336), (1, .int a), (2, .int b), (5, .int w8x5)]) (zml mf339 (by decide)) rfl ?_
                      obtain ⟨w34v, w34e, w34⟩ := ziadd (a := w8x5) (b := Int32.ofInt 1) rfl (show (Int32.ofInt 1).toInt = 1 by decide) (by omega) (by omega)
                      refine zs_iinc (pc := 120) t339_120 (ls' := [(5, .int w34v), (4, .int w31v), (3, .int w8x5), (6, .int w31v), (0, .ref 336), (1, .int a), (2, .int b)]) (zml mf339 (by decide)) rfl (c := w34v) w34e rfl ?_
                      refine zs_goto (pc := 123) t339_123 ?_
                      refine zGo.locals (ls' := [(0, .ref 336), (1, .int a), (2, .int b), (3, .int w8x5), (4, .int w31v), (5, .int w34v)]) (by simp) ?_
                      have w35 := w34
                      exact w8ih (w8m - 1) (by omega) w8x5 w31v w34v ⟨by omega, by omega⟩ (by omega)
                    · refine zs_icmp_eqF (pc := 100) t339_100 rfl lin2 (by omega) ?_
                      refine zs_iload (pc := 103) t339_103 rfl ?_
                      refine zs_iload (pc := 105) t339_105 rfl ?_
                      by_cases w36 : w31v.toInt < w8x4.toInt
                      · refine zs_icmp_ltT (pc := 107) t339_107 rfl rfl (by omega) ?_
                        refine zs_iload (pc := 113) t339_113 rfl ?_
                        refine zs_istore_n (pc := 115) t339_115 (ls' := [(3, .int w8x5), (6, .int w31v), (0, .ref 336), (1, .int a), (2, .int b), (4, .int w8x4), (5, .int w8x5)]) (zml mf339 (by decide)) rfl ?_
                        refine zs_iload (pc := 116) t339_116 rfl ?_
                        refine zs_istore (pc := 118) t339_118 (ls' := [(4, .int w31v), (3, .int w8x5), (6, .int w31v), (0, .ref 336), (1, .int a), (2, .int b), (5, .int w8x5)]) (zml mf339 (by decide)) rfl ?_
                        obtain ⟨w37v, w37e, w37⟩ := ziadd (a := w8x5) (b := Int32.ofInt 1) rfl (show (Int32.ofInt 1).toInt = 1 by decide) (by omega) (by omega)
                        refine zs_iinc (pc := 120) t339_120 (ls' := [(5, .int w37v), (4, .int w31v), (3, .int w8x5), (6, .int w31v), (0, .ref 336), (1, .int a), (2, .int b)]) (zml mf339 (by decide)) rfl (c := w37v) w37e rfl ?_
                        refine zs_goto (pc := 123) t339_123 ?_
                        refine zGo.locals (ls' := [(0, .ref 336), (1, .int a), (2, .int b), (3, .int w8x5), (4, .int w31v), (5, .int w37v)]) (by simp) ?_
                        have w38 := w37
                        exact w8ih (w8m - 1) (by omega) w8x5 w31v w37v ⟨by omega, by omega⟩ (by omega)
                      · refine zs_icmp_ltF (pc := 107) t339_107 rfl rfl (by omega) ?_
                        refine zs_goto (pc := 110) t339_110 ?_
                        obtain ⟨w39v, w39e, w39⟩ := ziadd (a := w8x5) (b := Int32.ofInt 1) rfl (show (Int32.ofInt 1).toInt = 1 by decide) (by omega) (by omega)
                        refine zs_iinc (pc := 120) t339_120 (ls' := [(5, .int w39v), (6, .int w31v), (0, .ref 336), (1, .int a), (2, .int b), (3, .int w8x3), (4, .int w8x4)]) (zml mf339 (by decide)) rfl (c := w39v) w39e rfl ?_
                        refine zs_goto (pc := 123) t339_123 ?_
                        refine zGo.locals (ls' := [(0, .ref 336), (1, .int a), (2, .int b), (3, .int w8x3), (4, .int w8x4), (5, .int w39v)]) (by simp) ?_
                        have w40 := w39
                        exact w8ih (w8m - 1) (by omega) w8x3 w8x4 w39v ⟨by omega, by omega⟩ (by omega)
                  · refine zs_if_geF (pc := 1) t280_1 rfl (by omega) ?_
                    refine zs_iload_n (pc := 4) t280_4 rfl ?_
                    obtain ⟨w41v, w41e⟩ : ∃ v, -w31v = v := ⟨_, rfl⟩
                    have w41 := zrg w41v
                    refine zs_ineg (pc := 5) t280_5 (c := w41v) w41e ?_
                    refine zs_goto (pc := 6) t280_6 ?_
                    refine zs_iret (pc := 10) t280_10 mr280 rfl ?_
                    show zGo X l 7 0 0 339 95 [(0, .ref 336), (1, .int a), (2, .int b), (3, .int w8x3), (4, .int w8x4), (5, .int w8x5)] [.int w41v] w1M _
                    refine zs_istore (pc := 95) t339_95 (ls' := [(6, .int w41v), (0, .ref 336), (1, .int a), (2, .int b), (3, .int w8x3), (4, .int w8x4), (5, .int w8x5)]) (zml mf339 (by decide)) rfl ?_
                    refine zs_iload_n (pc := 97) t339_97 rfl ?_
                    refine zs_bipush (pc := 98) t339_98 (v := -2) (by decide) ?_
                    by_cases w42 : w8x3.toInt = (-2)
                    · refine zs_icmp_eqT (pc := 100) t339_100 rfl lin2 (by omega) ?_
                      refine zs_iload (pc := 113) t339_113 rfl ?_
                      refine zs_istore_n (pc := 115) t339_115 (ls' := [(3, .int w8x5), (6, .int w41v), (0, .ref 336), (1, .int a), (2, .int b), (4, .int w8x4), (5, .int w8x5)]) (zml mf339 (by decide)) rfl ?_
                      refine zs_iload (pc := 116) t339_116 rfl ?_
                      refine zs_istore (pc := 118) t339_118 (ls' := [(4, .int w41v), (3, .int w8x5), (6, .int w41v), (0, .ref 336), (1, .int a), (2, .int b), (5, .int w8x5)]) (zml mf339 (by decide)) rfl ?_
                      obtain ⟨w43v, w43e, w43⟩ := ziadd (a := w8x5) (b := Int32.ofInt 1) rfl (show (Int32.ofInt 1).toInt = 1 by decide) (by omega) (by omega)
                      refine zs_iinc (pc := 120) t339_120 (ls' := [(5, .int w43v), (4, .int w41v), (3, .int w8x5), (6, .int w41v), (0, .ref 336), (1, .int a), (2, .int b)]) (zml mf339 (by decide)) rfl (c := w43v) w43e rfl ?_
                      refine zs_goto (pc := 123) t339_123 ?_
                      refine zGo.locals (ls' := [(0, .ref 336), (1, .int a), (2, .int b), (3, .int w8x5), (4, .int w41v), (5, .int w43v)]) (by simp) ?_
                      have w44 := w43
                      exact w8ih (w8m - 1) (by omega) w8x5 w41v w43v ⟨by omega, by omega⟩ (by omega)
                    · refine zs_icmp_eqF (pc := 100) t339_100 rfl lin2 (by omega) ?_
                      refine zs_iload (pc := 103) t339_103 rfl ?_
                      refine zs_iload (pc := 105) t339_105 rfl ?_
                      by_cases w45 : w41v.toInt < w8x4.toInt
                      · refine zs_icmp_ltT (pc := 107) t339_107 rfl rfl (by omega) ?_
                        refine zs_iload (pc := 113) t339_113 rfl ?_
                        refine zs_istore_n (pc := 115) t339_115 (ls' := [(3, .int w8x5), (6, .int w41v), (0, .ref 336), (1, .int a), (2, .int b), (4, .int w8x4), (5, .int w8x5)]) (zml mf339 (by decide)) rfl ?_
                        refine zs_iload (pc := 116) t339_116 rfl ?_
                        refine zs_istore (pc := 118) t339_118 (ls' := [(4, .int w41v), (3, .int w8x5), (6, .int w41v), (0, .ref 336), (1, .int a), (2, .int b), (5, .int w8x5)]) (zml mf339 (by decide)) rfl ?_
                        obtain ⟨w46v, w46e, w46⟩ := ziadd (a := w8x5) (b := Int32.ofInt 1) rfl (show (Int32.ofInt 1).toInt = 1 by decide) (by omega) (by omega)
                        refine zs_iinc (pc := 120) t339_120 (ls' := [(5, .int w46v), (4, .int w41v), (3, .int w8x5), (6, .int w41v), (0, .ref 336), (1, .int a), (2, .int b)]) (zml mf339 (by decide)) rfl (c := w46v) w46e rfl ?_
                        refine zs_goto (pc := 123) t339_123 ?_
                        refine zGo.locals (ls' := [(0, .ref 336), (1, .int a), (2, .int b), (3, .int w8x5), (4, .int w41v), (5, .int w46v)]) (by simp) ?_
                        have w47 := w46
                        exact w8ih (w8m - 1) (by omega) w8x5 w41v w46v ⟨by omega, by omega⟩ (by omega)
                      · refine zs_icmp_ltF (pc := 107) t339_107 rfl rfl (by omega) ?_
                        refine zs_goto (pc := 110) t339_110 ?_
                        obtain ⟨w48v, w48e, w48⟩ := ziadd (a := w8x5) (b := Int32.ofInt 1) rfl (show (Int32.ofInt 1).toInt = 1 by decide) (by omega) (by omega)
                        refine zs_iinc (pc := 120) t339_120 (ls' := [(5, .int w48v), (6, .int w41v), (0, .ref 336), (1, .int a), (2, .int b), (3, .int w8x3), (4, .int w8x4)]) (zml mf339 (by decide)) rfl (c := w48v) w48e rfl ?_
                        refine zs_goto (pc := 123) t339_123 ?_
                        refine zGo.locals (ls' := [(0, .ref 336), (1, .int a), (2, .int b), (3, .int w8x3), (4, .int w8x4), (5, .int w48v)]) (by simp) ?_
                        have w49 := w48
                        exact w8ih (w8m - 1) (by omega) w8x3 w8x4 w48v ⟨by omega, by omega⟩ (by omega)
                · refine zs_icmp_eqF (pc := 72) t339_72 rfl lin2 (by omega) ?_
                  refine zs_goto (pc := 75) t339_75 ?_
                  obtain ⟨w50v, w50e, w50⟩ := ziadd (a := w8x5) (b := Int32.ofInt 1) rfl (show (Int32.ofInt 1).toInt = 1 by decide) (by omega) (by omega)
                  refine zs_iinc (pc := 120) t339_120 (ls' := [(5, .int w50v), (0, .ref 336), (1, .int a), (2, .int b), (3, .int w8x3), (4, .int w8x4)]) (zml mf339 (by decide)) rfl (c := w50v) w50e rfl ?_
                  refine zs_goto (pc := 123) t339_123 ?_
                  refine zGo.locals (ls' := [(0, .ref 336), (1, .int a), (2, .int b), (3, .int w8x3), (4, .int w8x4), (5, .int w50v)]) (by simp) ?_
                  have w51 := w50
                  exact w8ih (w8m - 1) (by omega) w8x3 w8x4 w50v ⟨by omega, by omega⟩ (by omega)
      refine zGo.locals (ls' := [(0, .ref 336), (1, .int a), (2, .int b), (3, .int (-2 : Int32)), (4, .int (0 : Int32)), (5, .int (0 : Int32))]) (by simp) ?_
      have w52 := lin2
      have w53 := li0
      have w54 := li0
      exact w8L ((60 - 0 : Int).toNat) (-2 : Int32) (0 : Int32) (0 : Int32) ⟨by decide, by decide⟩ (by omega)
    · refine zs_invS (pc := 12) (as := [.long b.toInt64, .long (0 : Int64), .long w6v.toInt64]) (st := []) t306_12 (by decide) mf228 rfl rfl ⟨by decide, by decide, Nat.le_of_ble_eq_true rfl, Nat.le_of_ble_eq_true rfl⟩ (K228F (zi2l rfl) ll0 (zi2l w6) (by omega) ?_) (fun _ _ q => q)
      show zGo X l 1 0 0 306 15 [(0, .ref 336), (1, .int b)] [.int (0 : Int32)] w1M _
      refine zs_iret (pc := 15) t306_15 mr306 (by decide) ?_
      show zGo X l 7 0 0 339 17 [(0, .ref 336), (1, .int a), (2, .int b)] [.int (0 : Int32)] w1M _
      refine zs_if_neF (pc := 17) t339_17 li0 (by decide) ?_
      refine zs_iconst (pc := 20) t339_20 (v := -1) (by decide) ?_
      exact zs_iret (pc := 21) t339_21 mr339 (by decide) (hQ _ _ w1s w1I ((zFr.refl).trans (w1F.mono rfl)) (zPR.fr pR (w1F.eq rfl)) (zPC.fr pC (w1F.eq rfl)) w1PF)
  · refine zs_invS (pc := 10) (as := [.long a.toInt64, .long (0 : Int64), .long w3v.toInt64]) (st := []) t297_10 (by decide) mf228 rfl rfl ⟨by decide, by decide, Nat.le_of_ble_eq_true rfl, Nat.le_of_ble_eq_true rfl⟩ (K228F (zi2l rfl) ll0 (zi2l w3) (by omega) ?_) (fun _ _ q => q)
    show zGo X l 1 0 0 297 13 [(0, .ref 336), (1, .int a)] [.int (0 : Int32)] w1M _
    refine zs_iret (pc := 13) t297_13 mr297 (by decide) ?_
    show zGo X l 7 0 0 339 9 [(0, .ref 336), (1, .int a), (2, .int b)] [.int (0 : Int32)] w1M _
    refine zs_if_eqT (pc := 9) t339_9 li0 (by decide) ?_
    refine zs_iconst (pc := 20) t339_20 (v := -1) (by decide) ?_
    exact zs_iret (pc := 21) t339_21 mr339 (by decide) (hQ _ _ w1s w1I ((zFr.refl).trans (w1F.mono rfl)) (zPR.fr pR (w1F.eq rfl)) (zPC.fr pC (w1F.eq rfl)) w1PF)
theorem T340 {X : zX} {l : Launch} {M : zM} {Q : Option Value → zM → Prop} {a b : Int32} (hs : zSk zMm M) (hI : zIv mLo mHi M) (pR : zPR M) (pC : zPC M) (pF : zPF M) (hQ : ∀ (M' : zM) (v : Int32), zSk zMm M' → zIv mLo mHi M' → zFr [(336, 336, some 3), (336, 336, some 18), (336, 336, some 19), (336, 336, some 20), (336, 336, some 21), (336, 336, some 22), (336, 336, some 37), (336, 336, some 39), (336, 336, some 42), (336, 336, some 43), (336, 336, some 44), (336, 336, some 45), (342, 361, none)] M M' → zPR M' → zPC M' → zPF M' → Q (some (.int v)) M') : zCall X l 7 0 0 340 [.ref 336, .int a, .int b] M Q := by
  have ga := zrg a
  have gb := zrg b
  refine zs_in (by decide) mf340 (Nat.le_of_ble_eq_true rfl) ?_
  show zGo X l 7 0 0 340 0 [(0, .ref 336), (1, .int a), (2, .int b)] [] M _
  refine zs_aload_n (pc := 0) t340_0 rfl ?_
  refine zs_iload_n (pc := 1) t340_1 rfl ?_
  refine zs_invV (pc := 2) (k := 336) (as' := [.int a]) (st := []) t340_2 mf306 rfl rfl (Or.inl ⟨by decide, (zk1 (hs.k fk_zMm_336))⟩) ⟨by decide, by decide, Nat.le_of_ble_eq_true rfl, Nat.le_of_ble_eq_true rfl⟩ (zs_in (by decide) mf306 (Nat.le_of_ble_eq_true rfl) ?_) (fun _ _ q => q)
  show zGo X l 1 0 0 306 0 [(0, .ref 336), (1, .int a)] [] M _
  refine zs_iload_n (pc := 0) t306_0 rfl ?_
  refine zs_i2l (pc := 1) t306_1 rfl ?_
  refine zs_lconst (pc := 2) t306_2 (v := 0) (by decide) ?_
  refine zs_aload_n (pc := 3) t306_3 rfl ?_
  refine zs_get (pc := 4) t306_4 (by decide) (zk1 (hs.k fk_zMm_336)) (hs.p rfl fv_zMm_336_0) ?_
  refine zs_iconst (pc := 7) t306_7 (v := 0) (by decide) ?_
  have w1 := ibA0 hI
  refine zs_iald (pc := 8) t306_8 (j := 0) (by decide) (zk1 (hs.k fk_zMm_337)) li0 (zk2 (hs.k fk_zMm_337) (by decide)) rfl ?_
  refine zs_iconst (pc := 9) t306_9 (v := 1) (by decide) ?_
  obtain ⟨w2v, w2e, w2⟩ := zisub (a := (zI M 337 0)) (b := (1 : Int32)) rfl li1 (by omega) (by omega)
  refine zs_isub (pc := 10) t306_10 (c := w2v) w2e ?_
  refine zs_i2l (pc := 11) t306_11 rfl ?_
  by_cases w3 : 0 ≤ a.toInt ∧ a.toInt ≤ ((zI M 337 0).toInt - 1)
  · refine zs_invS (pc := 12) (as := [.long a.toInt64, .long (0 : Int64), .long w2v.toInt64]) (st := []) t306_12 (by decide) mf228 rfl rfl ⟨by decide, by decide, Nat.le_of_ble_eq_true rfl, Nat.le_of_ble_eq_true rfl⟩ (K228T (zi2l rfl) ll0 (zi2l w2) (by omega) ?_) (fun _ _ q => q)
    show zGo X l 1 0 0 306 15 [(0, .ref 336), (1, .int a)] [.int (1 : Int32)] M _
    refine zs_iret (pc := 15) t306_15 mr306 (by decide) ?_
    show zGo X l 7 0 0 340 5 [(0, .ref 336), (1, .int a), (2, .int b)] [.int (1 : Int32)] M _
    refine zs_if_eqF (pc := 5) t340_5 li1 (by decide) ?_
    refine zs_iload_n (pc := 8) t340_8 rfl ?_
    refine zs_i2l (pc := 9) t340_9 rfl ?_
    refine zs_lconst (pc := 10) t340_10 (v := 0) (by decide) ?_
    refine zs_lconst (pc := 11) t340_11 (v := 1) (by decide) ?_
    by_cases w4 : 0 ≤ b.toInt ∧ b.toInt ≤ 1
    · refine zs_invS (pc := 12) (as := [.long b.toInt64, .long (0 : Int64), .long (1 : Int64)]) (st := []) t340_12 (by decide) mf228 rfl rfl ⟨by decide, by decide, Nat.le_of_ble_eq_true rfl, Nat.le_of_ble_eq_true rfl⟩ (K228T (zi2l rfl) ll0 ll1 (by omega) ?_) (fun _ _ q => q)
      show zGo X l 7 0 0 340 15 [(0, .ref 336), (1, .int a), (2, .int b)] [.int (1 : Int32)] M _
      refine zs_if_neT (pc := 15) t340_15 li1 (by decide) ?_
      refine zs_aload_n (pc := 22) t340_22 rfl ?_
      refine zs_invV (pc := 23) (k := 336) (as' := []) (st := []) t340_23 mf268 rfl rfl (Or.inl ⟨by decide, (zk1 (hs.k fk_zMm_336))⟩) ⟨by decide, by decide, Nat.le_of_ble_eq_true rfl, Nat.le_of_ble_eq_true rfl⟩ (K268 hs hI pR pF ?_) (fun _ _ q => q)
      intro w5M w5s w5I w5F w5PF w5PD w5PV
      show zGo X l 7 0 0 340 26 [(0, .ref 336), (1, .int a), (2, .int b)] [] w5M _
      refine zs_lconst (pc := 26) t340_26 (v := 0) (by decide) ?_
      refine zs_lstore_n (pc := 27) t340_27 (ls' := [(3, .long (0 : Int64)), (0, .ref 336), (1, .int a), (2, .int b)]) (zml mf340 (by decide)) rfl ?_
      refine zs_iconst (pc := 28) t340_28 (v := 0) (by decide) ?_
      refine zs_istore (pc := 29) t340_29 (ls' := [(5, .int (0 : Int32)), (3, .long (0 : Int64)), (0, .ref 336), (1, .int a), (2, .int b)]) (zml mf340 (by decide)) rfl ?_
      refine zs_iconst (pc := 31) t340_31 (v := 0) (by decide) ?_
      refine zs_istore (pc := 32) t340_32 (ls' := [(6, .int (0 : Int32)), (5, .int (0 : Int32)), (3, .long (0 : Int64)), (0, .ref 336), (1, .int a), (2, .int b)]) (zml mf340 (by decide)) rfl ?_
      have w6L : ∀ (m : Nat) (w6x3 : Int64) (w6x5 : Int32) (w6x6 : Int32), (0 ≤ w6x5.toInt ∧ w6x5.toInt ≤ 20) → (0 ≤ w6x6.toInt ∧ w6x6.toInt ≤ 20) → (w6x5.toInt ≤ w6x6.toInt) → 20 - w6x6.toInt ≤ (m : Int) → zGo X l 7 0 0 340 34 [(0, .ref 336), (1, .int a), (2, .int b), (3, .long w6x3), (5, .int w6x5), (6, .int w6x6)] [] w5M Q := by
        intro m
        induction m using Nat.strongRecOn with
        | ind w6m w6ih =>
          intro w6x3 w6x5 w6x6 w6b5 w6b6 w6r0 w6q
          have w6g3 := zrg64 w6x3
          refine zs_iload (pc := 34) t340_34 rfl ?_
          refine zs_aload_n (pc := 36) t340_36 rfl ?_
          have w7 := ib336_22 w5I
          refine zs_get (pc := 37) t340_37 (by decide) (zk1 (w5s.k fk_zMm_336)) (zfvi rfl rfl) ?_
          by_cases w8 : (zI w5M 336 22).toInt ≤ w6x6.toInt
          · refine zs_icmp_geT (pc := 40) t340_40 rfl rfl (by omega) ?_
            refine zs_iload_n (pc := 95) t340_95 rfl ?_
            refine zs_iconst (pc := 96) t340_96 (v := 1) (by decide) ?_
            by_cases w9 : b.toInt ≠ 1
            · refine zs_icmp_neT (pc := 97) t340_97 rfl li1 (by omega) ?_
              refine zs_iload (pc := 105) t340_105 rfl ?_
              by_cases w10 : w6x5.toInt ≠ 0
              · refine zs_if_neT (pc := 107) t340_107 rfl (by omega) ?_
                refine zs_lload_n (pc := 114) t340_114 rfl ?_
                refine zs_iload (pc := 115) t340_115 rfl ?_
                refine zs_i2l (pc := 117) t340_117 rfl ?_
                have w11 : w6x5.toInt64.toInt = w6x5.toInt := (zi2l rfl)
                refine zs_invS (pc := 118) (as := [.long w6x3, .long w6x5.toInt64]) (st := []) t340_118 (by decide) mf286 rfl rfl ⟨by decide, by decide, Nat.le_of_ble_eq_true rfl, Nat.le_of_ble_eq_true rfl⟩ (K286 w5s w5I ⟨by omega, by omega⟩ ?_) (fun _ _ q => q)
                intro w12v
                have w12g := zrg64 w12v
                show zGo X l 7 0 0 340 121 [(0, .ref 336), (1, .int a), (2, .int b), (3, .long w6x3), (5, .int w6x5), (6, .int w6x6)] [.long w12v] w5M _
                obtain ⟨w13v, w13⟩ : ∃ v, w12v.toInt32 = v := ⟨_, rfl⟩
                have w13g := zrg w13v
                refine zs_l2i (pc := 121) t340_121 (c := w13v) w13 ?_
                exact zs_iret (pc := 122) t340_122 mr340 rfl (hQ _ _ w5s w5I ((zFr.refl).trans (w5F.mono rfl)) (zPR.fr pR (w5F.eq rfl)) (zPC.fr pC (w5F.eq rfl)) w5PF)
              · refine zs_if_neF (pc := 107) t340_107 rfl (by omega) ?_
                refine zs_iconst (pc := 110) t340_110 (v := 0) (by decide) ?_
                refine zs_goto (pc := 111) t340_111 ?_
                exact zs_iret (pc := 122) t340_122 mr340 (by decide) (hQ _ _ w5s w5I ((zFr.refl).trans (w5F.mono rfl)) (zPR.fr pR (w5F.eq rfl)) (zPC.fr pC (w5F.eq rfl)) w5PF)
            · refine zs_icmp_neF (pc := 97) t340_97 rfl li1 (by omega) ?_
              refine zs_iload (pc := 100) t340_100 rfl ?_
              refine zs_goto (pc := 102) t340_102 ?_
              exact zs_iret (pc := 122) t340_122 mr340 rfl (hQ _ _ w5s w5I ((zFr.refl).trans (w5F.mono rfl)) (zPR.fr pR (w5F.eq rfl)) (zPC.fr pC (w5F.eq rfl)) w5PF)
          · refine zs_icmp_geF (pc := 40) t340_40 rfl rfl (by omega) ?_
            refine zs_aload_n (pc := 43) t340_43 rfl ?_
            refine zs_get (pc := 44) t340_44 (by decide) (zk1 (w5s.k fk_zMm_336)) (w5s.p rfl fv_zMm_336_27) ?_
            refine zs_bipush (pc := 47) t340_47 (v := 8) (by decide) ?_
            refine zs_iload (pc := 49) t340_49 rfl ?_
            obtain ⟨w14v, w14⟩ : ∃ v, (8 : Int32) * w6x6 = v := ⟨_, rfl⟩
            have w14g : w14v.toInt = 8 * w6x6.toInt := by rw [← w14]; exact zmulc li8 rfl (by omega) (by omega)
            refine zs_imul (pc := 51) t340_51 (c := w14v) w14 ?_
            refine zs_iload_n (pc := 52) t340_52 rfl ?_
            obtain ⟨w15v, w15e, w15⟩ := ziadd (a := w14v) (b := a) w14g rfl (by omega) (by omega)
            refine zs_iadd (pc := 53) t340_53 (c := w15v) w15e ?_
            obtain ⟨w16n, w16⟩ : ∃ n : Nat, w6x6.toInt = (n : Int) := ⟨(w6x6.toInt).toNat, by omega⟩
            obtain ⟨w17n, w17⟩ : ∃ n : Nat, a.toInt = (n : Int) := ⟨(a.toInt).toNat, by omega⟩
            have w18 := ib349 w5I (8 * w16n + w17n)
            refine zs_iald (pc := 54) t340_54 (j := (8 * w16n + w17n)) (by decide) (zk1 (w5s.k fk_zMm_349)) (show w15v.toInt = (((8 * w16n + w17n) : Nat) : Int) by omega) (zk2 (w5s.k fk_zMm_349) (by omega)) rfl ?_
            refine zs_istore (pc := 55) t340_55 (ls' := [(7, .int (zI w5M 349 (8 * w16n + w17n))), (0, .ref 336), (1, .int a), (2, .int b), (3, .long w6x3), (5, .int w6x5), (6, .int w6x6)]) (zml mf340 (by decide)) rfl ?_
            refine zs_iload (pc := 57) t340_57 rfl ?_
            refine zs_bipush (pc := 59) t340_59 (v := -2) (by decide) ?_
            by_cases w19 : (zI w5M 349 (8 * w16n + w17n)).toInt ≠ (-2)
            · refine zs_icmp_neT (pc := 61) t340_61 rfl lin2 (by omega) ?_
              refine zs_lload_n (pc := 67) t340_67 rfl ?_
              refine zs_aload_n (pc := 68) t340_68 rfl ?_
              refine zs_iload (pc := 69) t340_69 rfl ?_
              refine zs_iconst (pc := 71) t340_71 (v := 1) (by decide) ?_
              refine zs_invV (pc := 72) (k := 336) (as' := [.int (zI w5M 349 (8 * w16n + w17n)), .int (1 : Int32)]) (st := [.long w6x3]) t340_72 mf272 rfl rfl (Or.inl ⟨by decide, (zk1 (w5s.k fk_zMm_336))⟩) ⟨by decide, by decide, Nat.le_of_ble_eq_true rfl, Nat.le_of_ble_eq_true rfl⟩ (zs_in (by decide) mf272 (Nat.le_of_ble_eq_true rfl) ?_) (fun _ _ q => q)
              show zGo X l 0 0 0 272 0 [(0, .ref 336), (1, .int (zI w5M 349 (8 * w16n + w17n))), (2, .int (1 : Int32))] [] w5M _
              refine zs_aload_n (pc := 0) t272_0 rfl ?_
              refine zs_get (pc := 1) t272_1 (by decide) (zk1 (w5s.k fk_zMm_336)) (w5s.p rfl fv_zMm_336_0) ?_
              refine zs_bipush (pc := 4) t272_4 (v := 30) (by decide) ?_
              refine zs_iconst (pc := 6) t272_6 (v := 4) (by decide) ?_
              refine zs_iload_n (pc := 7) t272_7 rfl ?_
              obtain ⟨w20v, w20⟩ : ∃ v, (4 : Int32) * (zI w5M 349 (8 * w16n + w17n)) = v := ⟨_, rfl⟩
              have w20g : w20v.toInt = 4 * (zI w5M 349 (8 * w16n + w17n)).toInt := by rw [← w20]; exact zmulc li4 rfl (by omega) (by omega)
              refine zs_imul (pc := 8) t272_8 (c := w20v) w20 ?_
              obtain ⟨w21v, w21e, w21⟩ := ziadd (a := (30 : Int32)) (b := w20v) li30 w20g (by omega) (by omega)
              refine zs_iadd (pc := 9) t272_9 (c := w21v) w21e ?_
              refine zs_iload_n (pc := 10) t272_10 rfl ?_
              obtain ⟨w22v, w22e, w22⟩ := ziadd (a := w21v) (b := (1 : Int32)) w21 li1 (by omega) (by omega)
              refine zs_iadd (pc := 11) t272_11 (c := w22v) w22e ?_
              obtain ⟨w23n, w23⟩ : ∃ n : Nat, w22v.toInt = (n : Int) := ⟨w22v.toInt.toNat, by omega⟩
              have w24 := zrg (zI M 337 w23n)
              refine zs_iald (pc := 12) t272_12 (j := w23n) (by decide) (zk1 (w5s.k fk_zMm_337)) w23 (zk2 (w5s.k fk_zMm_337) (by omega)) ((w5F 337 w23n rfl).trans rfl) ?_
              refine zs_iret (pc := 13) t272_13 mr272 rfl ?_
              show zGo X l 7 0 0 340 75 [(7, .int (zI w5M 349 (8 * w16n + w17n))), (0, .ref 336), (1, .int a), (2, .int b), (3, .long w6x3), (5, .int w6x5), (6, .int w6x6)] [.int (zI M 337 w23n), .long w6x3] w5M _
              refine zs_aload_n (pc := 75) t340_75 rfl ?_
              refine zs_iload (pc := 76) t340_76 rfl ?_
              refine zs_iload_n (pc := 78) t340_78 rfl ?_
              have w25 : (zI w5M 336 22).toInt = (zI w5M 336 22).toInt := (congrArg Int32.toInt rfl).trans rfl
              refine zs_invV (pc := 79) (k := 336) (as' := [.int w6x6, .int a]) (st := [.int (zI M 337 w23n), .long w6x3]) t340_79 mf337 rfl rfl (Or.inl ⟨by decide, (zk1 (w5s.k fk_zMm_336))⟩) ⟨by decide, by decide, Nat.le_of_ble_eq_true rfl, Nat.le_of_ble_eq_true rfl⟩ (K337 w5s w5I w5PD ⟨by omega, by omega⟩ ⟨by omega, by omega⟩ (by omega) ?_) (fun _ _ q => q)
              intro w26v
              have w26g := zrg w26v
              show zGo X l 7 0 0 340 82 [(7, .int (zI w5M 349 (8 * w16n + w17n))), (0, .ref 336), (1, .int a), (2, .int b), (3, .long w6x3), (5, .int w6x5), (6, .int w6x6)] [.int w26v, .int (zI M 337 w23n), .long w6x3] w5M _
              obtain ⟨w27v, w27⟩ : ∃ v, v = (zI M 337 w23n) - w26v := ⟨_, rfl⟩
              have w27g := zrg w27v
              refine zs_isub (pc := 82) t340_82 (c := w27v) w27.symm ?_
              refine zs_i2l (pc := 83) t340_83 rfl ?_
              obtain ⟨w28v, w28⟩ : ∃ v, w6x3 + w27v.toInt64 = v := ⟨_, rfl⟩
              have w28g := zrg64 w28v
              refine zs_ladd (pc := 84) t340_84 (c := w28v) w28 ?_
              refine zs_lstore_n (pc := 85) t340_85 (ls' := [(3, .long w28v), (7, .int (zI w5M 349 (8 * w16n + w17n))), (0, .ref 336), (1, .int a), (2, .int b), (5, .int w6x5), (6, .int w6x6)]) (zml mf340 (by decide)) rfl ?_
              obtain ⟨w29v, w29e, w29⟩ := ziadd (a := w6x5) (b := Int32.ofInt 1) rfl (show (Int32.ofInt 1).toInt = 1 by decide) (by omega) (by omega)
              refine zs_iinc (pc := 86) t340_86 (ls' := [(5, .int w29v), (3, .long w28v), (7, .int (zI w5M 349 (8 * w16n + w17n))), (0, .ref 336), (1, .int a), (2, .int b), (6, .int w6x6)]) (zml mf340 (by decide)) rfl (c := w29v) w29e rfl ?_
              obtain ⟨w30v, w30e, w30⟩ := ziadd (a := w6x6) (b := Int32.ofInt 1) rfl (show (Int32.ofInt 1).toInt = 1 by decide) (by omega) (by omega)
              refine zs_iinc (pc := 89) t340_89 (ls' := [(6, .int w30v), (5, .int w29v), (3, .long w28v), (7, .int (zI w5M 349 (8 * w16n + w17n))), (0, .ref 336), (1, .int a), (2, .int b)]) (zml mf340 (by decide)) rfl (c := w30v) w30e rfl ?_
              refine zs_goto (pc := 92) t340_92 ?_
              refine zGo.locals (ls' := [(0, .ref 336), (1, .int a), (2, .int b), (3, .long w28v), (5, .int w29v), (6, .int w30v)]) (by simp) ?_
              have w31 := w29
              have w32 := w30
              exact w6ih (w6m - 1) (by omega) w28v w29v w30v ⟨by omega, by omega⟩ ⟨by omega, by omega⟩ (by omega) (by omega)
            · refine zs_icmp_neF (pc := 61) t340_61 rfl lin2 (by omega) ?_
              refine zs_goto (pc := 64) t340_64 ?_
              obtain ⟨w33v, w33e, w33⟩ := ziadd (a := w6x6) (b := Int32.ofInt 1) rfl (show (Int32.ofInt 1).toInt = 1 by decide) (by omega) (by omega)
              refine zs_iinc (pc := 89) t340_89 (ls' := [(6, .int w33v), (7, .int (zI w5M 349 (8 * w16n + w17n))), (0, .ref 336), (1, .int a), (2, .int b), (3, .long w6x3), (5, .int w6x5)]) (zml mf340 (by decide)) rfl (c := w33v) w33e rfl ?_
              refine zs_goto (pc := 92) t340_92 ?_
              refine zGo.locals (ls' := [(0, .ref 336), (1, .int a), (2, .int b), (3, .long w6x3), (5, .int w6x5), (6, .int w33v)]) (by simp) ?_
              have w34 := w33
              exact w6ih (w6m - 1) (by omega) w6x3 w6x5 w33v ⟨by omega, by omega⟩ ⟨by omega, by omega⟩ (by omega) (by omega)
      refine zGo.locals (ls' := [(0, .ref 336), (1, .int a), (2, .int b), (3, .long (0 : Int64)), (5, .int (0 : Int32)), (6, .int (0 : Int32))]) (by simp) ?_
      have w35 := ll0
      have w36 := li0
      have w37 := li0
      exact w6L ((20 - 0 : Int).toNat) (0 : Int64) (0 : Int32) (0 : Int32) ⟨by decide, by decide⟩ ⟨by decide, by decide⟩ (by omega) (by omega)
    · refine zs_invS (pc := 12) (as := [.long b.toInt64, .long (0 : Int64), .long (1 : Int64)]) (st := []) t340_12 (by decide) mf228 rfl rfl ⟨by decide, by decide, Nat.le_of_ble_eq_true rfl, Nat.le_of_ble_eq_true rfl⟩ (K228F (zi2l rfl) ll0 ll1 (by omega) ?_) (fun _ _ q => q)
      show zGo X l 7 0 0 340 15 [(0, .ref 336), (1, .int a), (2, .int b)] [.int (0 : Int32)] M _
      refine zs_if_neF (pc := 15) t340_15 li0 (by decide) ?_
      refine zs_ldc_w (pc := 18) t340_18 (v := -100000) rfl (by decide) ?_
      exact zs_iret (pc := 21) t340_21 mr340 (by decide) (hQ _ _ hs hI (zFr.refl) pR pC pF)
  · refine zs_invS (pc := 12) (as := [.long a.toInt64, .long (0 : Int64), .long w2v.toInt64]) (st := []) t306_12 (by decide) mf228 rfl rfl ⟨by decide, by decide, Nat.le_of_ble_eq_true rfl, Nat.le_of_ble_eq_true rfl⟩ (K228F (zi2l rfl) ll0 (zi2l w2) (by omega) ?_) (fun _ _ q => q)
    show zGo X l 1 0 0 306 15 [(0, .ref 336), (1, .int a)] [.int (0 : Int32)] M _
    refine zs_iret (pc := 15) t306_15 mr306 (by decide) ?_
    show zGo X l 7 0 0 340 5 [(0, .ref 336), (1, .int a), (2, .int b)] [.int (0 : Int32)] M _
    refine zs_if_eqT (pc := 5) t340_5 li0 (by decide) ?_
    refine zs_ldc_w (pc := 18) t340_18 (v := -100000) rfl (by decide) ?_
    exact zs_iret (pc := 21) t340_21 mr340 (by decide) (hQ _ _ hs hI (zFr.refl) pR pC pF)
theorem T302 {X : zX} {l : Launch} {M : zM} {Q : Option Value → zM → Prop} {a b : Int32} (hs : zSk zMm M) (hI : zIv mLo mHi M) (pR : zPR M) (pC : zPC M) (pF : zPF M) (hQ : ∀ (M' : zM) (v : Int32), zSk zMm M' → zIv mLo mHi M' → zFr [(336, 336, some 3), (336, 336, some 18), (336, 336, some 19), (336, 336, some 20), (336, 336, some 21), (336, 336, some 22), (336, 336, some 37), (336, 336, some 39), (336, 336, some 42), (336, 336, some 43), (336, 336, some 44), (336, 336, some 45), (342, 361, none)] M M' → zPR M' → zPC M' → zPF M' → Q (some (.int v)) M') : zCall X l 7 0 0 302 [.ref 336, .int a, .int b] M Q := by
  have ga := zrg a
  have gb := zrg b
  refine zs_in (by decide) mf302 (Nat.le_of_ble_eq_true rfl) ?_
  show zGo X l 7 0 0 302 0 [(0, .ref 336), (1, .int a), (2, .int b)] [] M _
  refine zs_aload_n (pc := 0) t302_0 rfl ?_
  refine zs_invV (pc := 1) (k := 336) (as' := []) (st := []) t302_1 mf268 rfl rfl (Or.inl ⟨by decide, (zk1 (hs.k fk_zMm_336))⟩) ⟨by decide, by decide, Nat.le_of_ble_eq_true rfl, Nat.le_of_ble_eq_true rfl⟩ (K268 hs hI pR pF ?_) (fun _ _ q => q)
  intro w1M w1s w1I w1F w1PF w1PD w1PV
  show zGo X l 7 0 0 302 4 [(0, .ref 336), (1, .int a), (2, .int b)] [] w1M _
  refine zs_iload_n (pc := 4) t302_4 rfl ?_
  refine zs_i2l (pc := 5) t302_5 rfl ?_
  refine zs_lconst (pc := 6) t302_6 (v := 0) (by decide) ?_
  refine zs_aload_n (pc := 7) t302_7 rfl ?_
  have w2 := ib336_39 w1I
  refine zs_get (pc := 8) t302_8 (by decide) (zk1 (w1s.k fk_zMm_336)) (zfvi rfl rfl) ?_
  refine zs_bipush (pc := 11) t302_11 (v := 20) (by decide) ?_
  refine zs_invS (pc := 13) (as := [.int (zI w1M 336 39), .int (20 : Int32)]) (st := [.long (0 : Int64), .long a.toInt64]) t302_13 (by decide) mf303 rfl rfl ⟨by decide, by decide, Nat.le_of_ble_eq_true rfl, Nat.le_of_ble_eq_true rfl⟩ (zs_in (by decide) mf303 (Nat.le_of_ble_eq_true rfl) ?_) (fun _ _ q => q)
  show zGo X l 0 0 0 303 0 [(0, .int (zI w1M 336 39)), (1, .int (20 : Int32))] [] w1M _
  refine zs_iload_n (pc := 0) t303_0 rfl ?_
  refine zs_iload_n (pc := 1) t303_1 rfl ?_
  by_cases w3 : 20 ≤ (zI w1M 336 39).toInt
  · refine zs_icmp_geT (pc := 2) t303_2 rfl li20 (by omega) ?_
    refine zs_iload_n (pc := 9) t303_9 rfl ?_
    refine zs_iret (pc := 10) t303_10 mr303 (by decide) ?_
    show zGo X l 7 0 0 302 16 [(0, .ref 336), (1, .int a), (2, .int b)] [.int (20 : Int32), .long (0 : Int64), .long a.toInt64] w1M _
    refine zs_iconst (pc := 16) t302_16 (v := 1) (by decide) ?_
    refine zs_isub (pc := 17) t302_17 (c := 19) (by decide) ?_
    refine zs_i2l (pc := 18) t302_18 (c := 19) (by decide) ?_
    by_cases w4 : 0 ≤ a.toInt ∧ a.toInt ≤ 19
    · refine zs_invS (pc := 19) (as := [.long a.toInt64, .long (0 : Int64), .long (19 : Int64)]) (st := []) t302_19 (by decide) mf228 rfl rfl ⟨by decide, by decide, Nat.le_of_ble_eq_true rfl, Nat.le_of_ble_eq_true rfl⟩ (K228T (zi2l rfl) ll0 ll19 (by omega) ?_) (fun _ _ q => q)
      show zGo X l 7 0 0 302 22 [(0, .ref 336), (1, .int a), (2, .int b)] [.int (1 : Int32)] w1M _
      refine zs_if_eqF (pc := 22) t302_22 li1 (by decide) ?_
      refine zs_iload_n (pc := 25) t302_25 rfl ?_
      refine zs_i2l (pc := 26) t302_26 rfl ?_
      refine zs_lconst (pc := 27) t302_27 (v := 0) (by decide) ?_
      refine zs_ldc2_w (pc := 28) t302_28 (v := 3) (by decide) ?_
      by_cases w5 : 0 ≤ b.toInt ∧ b.toInt ≤ 3
      · refine zs_invS (pc := 31) (as := [.long b.toInt64, .long (0 : Int64), .long (3 : Int64)]) (st := []) t302_31 (by decide) mf228 rfl rfl ⟨by decide, by decide, Nat.le_of_ble_eq_true rfl, Nat.le_of_ble_eq_true rfl⟩ (K228T (zi2l rfl) ll0 ll3 (by omega) ?_) (fun _ _ q => q)
        show zGo X l 7 0 0 302 34 [(0, .ref 336), (1, .int a), (2, .int b)] [.int (1 : Int32)] w1M _
        refine zs_if_eqF (pc := 34) t302_34 li1 (by decide) ?_
        refine zs_aload_n (pc := 37) t302_37 rfl ?_
        refine zs_get (pc := 38) t302_38 (by decide) (zk1 (w1s.k fk_zMm_336)) (w1s.p rfl fv_zMm_336_38) ?_
        refine zs_iconst (pc := 41) t302_41 (v := 4) (by decide) ?_
        refine zs_iload_n (pc := 42) t302_42 rfl ?_
        obtain ⟨w6v, w6⟩ : ∃ v, (4 : Int32) * a = v := ⟨_, rfl⟩
        have w6g : w6v.toInt = 4 * a.toInt := by rw [← w6]; exact zmulc li4 rfl (by omega) (by omega)
        refine zs_imul (pc := 43) t302_43 (c := w6v) w6 ?_
        refine zs_iload_n (pc := 44) t302_44 rfl ?_
        obtain ⟨w7v, w7e, w7⟩ := ziadd (a := w6v) (b := b) w6g rfl (by omega) (by omega)
        refine zs_iadd (pc := 45) t302_45 (c := w7v) w7e ?_
        obtain ⟨w8n, w8⟩ : ∃ n : Nat, a.toInt = (n : Int) := ⟨(a.toInt).toNat, by omega⟩
        obtain ⟨w9n, w9⟩ : ∃ n : Nat, b.toInt = (n : Int) := ⟨(b.toInt).toNat, by omega⟩
        have w10 := zrg (zI w1M 359 (4 * w8n + w9n))
        refine zs_iald (pc := 46) t302_46 (j := (4 * w8n + w9n)) (by decide) (zk1 (w1s.k fk_zMm_359)) (show w7v.toInt = (((4 * w8n + w9n) : Nat) : Int) by omega) (zk2 (w1s.k fk_zMm_359) (by omega)) rfl ?_
        refine zs_goto (pc := 47) t302_47 ?_
        exact zs_iret (pc := 53) t302_53 mr302 rfl (hQ _ _ w1s w1I ((zFr.refl).trans (w1F.mono rfl)) (zPR.fr pR (w1F.eq rfl)) (zPC.fr pC (w1F.eq rfl)) w1PF)
      · refine zs_invS (pc := 31) (as := [.long b.toInt64, .long (0 : Int64), .long (3 : Int64)]) (st := []) t302_31 (by decide) mf228 rfl rfl ⟨by decide, by decide, Nat.le_of_ble_eq_true rfl, Nat.le_of_ble_eq_true rfl⟩ (K228F (zi2l rfl) ll0 ll3 (by omega) ?_) (fun _ _ q => q)
        show zGo X l 7 0 0 302 34 [(0, .ref 336), (1, .int a), (2, .int b)] [.int (0 : Int32)] w1M _
        refine zs_if_eqT (pc := 34) t302_34 li0 (by decide) ?_
        refine zs_ldc_w (pc := 50) t302_50 (v := -100000) rfl (by decide) ?_
        exact zs_iret (pc := 53) t302_53 mr302 (by decide) (hQ _ _ w1s w1I ((zFr.refl).trans (w1F.mono rfl)) (zPR.fr pR (w1F.eq rfl)) (zPC.fr pC (w1F.eq rfl)) w1PF)
    · refine zs_invS (pc := 19) (as := [.long a.toInt64, .long (0 : Int64), .long (19 : Int64)]) (st := []) t302_19 (by decide) mf228 rfl rfl ⟨by decide, by decide, Nat.le_of_ble_eq_true rfl, Nat.le_of_ble_eq_true rfl⟩ (K228F (zi2l rfl) ll0 ll19 (by omega) ?_) (fun _ _ q => q)
      show zGo X l 7 0 0 302 22 [(0, .ref 336), (1, .int a), (2, .int b)] [.int (0 : Int32)] w1M _
      refine zs_if_eqT (pc := 22) t302_22 li0 (by decide) ?_
      refine zs_ldc_w (pc := 50) t302_50 (v := -100000) rfl (by decide) ?_
      exact zs_iret (pc := 53) t302_53 mr302 (by decide) (hQ _ _ w1s w1I ((zFr.refl).trans (w1F.mono rfl)) (zPR.fr pR (w1F.eq rfl)) (zPC.fr pC (w1F.eq rfl)) w1PF)
  · refine zs_icmp_geF (pc := 2) t303_2 rfl li20 (by omega) ?_
    refine zs_iload_n (pc := 5) t303_5 rfl ?_
    refine zs_goto (pc := 6) t303_6 ?_
    refine zs_iret (pc := 10) t303_10 mr303 rfl ?_
    show zGo X l 7 0 0 302 16 [(0, .ref 336), (1, .int a), (2, .int b)] [.int (zI w1M 336 39), .long (0 : Int64), .long a.toInt64] w1M _
    refine zs_iconst (pc := 16) t302_16 (v := 1) (by decide) ?_
    obtain ⟨w11v, w11e, w11⟩ := zisub (a := (zI w1M 336 39)) (b := (1 : Int32)) rfl li1 (by omega) (by omega)
    refine zs_isub (pc := 17) t302_17 (c := w11v) w11e ?_
    refine zs_i2l (pc := 18) t302_18 rfl ?_
    by_cases w12 : 0 ≤ a.toInt ∧ a.toInt ≤ ((zI w1M 336 39).toInt - 1)
    · refine zs_invS (pc := 19) (as := [.long a.toInt64, .long (0 : Int64), .long w11v.toInt64]) (st := []) t302_19 (by decide) mf228 rfl rfl ⟨by decide, by decide, Nat.le_of_ble_eq_true rfl, Nat.le_of_ble_eq_true rfl⟩ (K228T (zi2l rfl) ll0 (zi2l w11) (by omega) ?_) (fun _ _ q => q)
      show zGo X l 7 0 0 302 22 [(0, .ref 336), (1, .int a), (2, .int b)] [.int (1 : Int32)] w1M _
      refine zs_if_eqF (pc := 22) t302_22 li1 (by decide) ?_
      refine zs_iload_n (pc := 25) t302_25 rfl ?_
      refine zs_i2l (pc := 26) t302_26 rfl ?_
      refine zs_lconst (pc := 27) t302_27 (v := 0) (by decide) ?_
      refine zs_ldc2_w (pc := 28) t302_28 (v := 3) (by decide) ?_
      by_cases w13 : 0 ≤ b.toInt ∧ b.toInt ≤ 3
      · refine zs_invS (pc := 31) (as := [.long b.toInt64, .long (0 : Int64), .long (3 : Int64)]) (st := []) t302_31 (by decide) mf228 rfl rfl ⟨by decide, by decide, Nat.le_of_ble_eq_true rfl, Nat.le_of_ble_eq_true rfl⟩ (K228T (zi2l rfl) ll0 ll3 (by omega) ?_) (fun _ _ q => q)
        show zGo X l 7 0 0 302 34 [(0, .ref 336), (1, .int a), (2, .int b)] [.int (1 : Int32)] w1M _
        refine zs_if_eqF (pc := 34) t302_34 li1 (by decide) ?_
        refine zs_aload_n (pc := 37) t302_37 rfl ?_
        refine zs_get (pc := 38) t302_38 (by decide) (zk1 (w1s.k fk_zMm_336)) (w1s.p rfl fv_zMm_336_38) ?_
        refine zs_iconst (pc := 41) t302_41 (v := 4) (by decide) ?_
        refine zs_iload_n (pc := 42) t302_42 rfl ?_
        obtain ⟨w14v, w14⟩ : ∃ v, (4 : Int32) * a = v := ⟨_, rfl⟩
        have w14g : w14v.toInt = 4 * a.toInt := by rw [← w14]; exact zmulc li4 rfl (by omega) (by omega)
        refine zs_imul (pc := 43) t302_43 (c := w14v) w14 ?_
        refine zs_iload_n (pc := 44) t302_44 rfl ?_
        obtain ⟨w15v, w15e, w15⟩ := ziadd (a := w14v) (b := b) w14g rfl (by omega) (by omega)
        refine zs_iadd (pc := 45) t302_45 (c := w15v) w15e ?_
        obtain ⟨w16n, w16⟩ : ∃ n : Nat, a.toInt = (n : Int) := ⟨(a.toInt).toNat, by omega⟩
        obtain ⟨w17n, w17⟩ : ∃ n : Nat, b.toInt = (n : Int) := ⟨(b.toInt).toNat, by omega⟩
        have w18 := zrg (zI w1M 359 (4 * w16n + w17n))
        refine zs_iald (pc := 46) t302_46 (j := (4 * w16n + w17n)) (by decide) (zk1 (w1s.k fk_zMm_359)) (show w15v.toInt = (((4 * w16n + w17n) : Nat) : Int) by omega) (zk2 (w1s.k fk_zMm_359) (by omega)) rfl ?_
        refine zs_goto (pc := 47) t302_47 ?_
        exact zs_iret (pc := 53) t302_53 mr302 rfl (hQ _ _ w1s w1I ((zFr.refl).trans (w1F.mono rfl)) (zPR.fr pR (w1F.eq rfl)) (zPC.fr pC (w1F.eq rfl)) w1PF)
      · refine zs_invS (pc := 31) (as := [.long b.toInt64, .long (0 : Int64), .long (3 : Int64)]) (st := []) t302_31 (by decide) mf228 rfl rfl ⟨by decide, by decide, Nat.le_of_ble_eq_true rfl, Nat.le_of_ble_eq_true rfl⟩ (K228F (zi2l rfl) ll0 ll3 (by omega) ?_) (fun _ _ q => q)
        show zGo X l 7 0 0 302 34 [(0, .ref 336), (1, .int a), (2, .int b)] [.int (0 : Int32)] w1M _
        refine zs_if_eqT (pc := 34) t302_34 li0 (by decide) ?_
        refine zs_ldc_w (pc := 50) t302_50 (v := -100000) rfl (by decide) ?_
        exact zs_iret (pc := 53) t302_53 mr302 (by decide) (hQ _ _ w1s w1I ((zFr.refl).trans (w1F.mono rfl)) (zPR.fr pR (w1F.eq rfl)) (zPC.fr pC (w1F.eq rfl)) w1PF)
    · refine zs_invS (pc := 19) (as := [.long a.toInt64, .long (0 : Int64), .long w11v.toInt64]) (st := []) t302_19 (by decide) mf228 rfl rfl ⟨by decide, by decide, Nat.le_of_ble_eq_true rfl, Nat.le_of_ble_eq_true rfl⟩ (K228F (zi2l rfl) ll0 (zi2l w11) (by omega) ?_) (fun _ _ q => q)
      show zGo X l 7 0 0 302 22 [(0, .ref 336), (1, .int a), (2, .int b)] [.int (0 : Int32)] w1M _
      refine zs_if_eqT (pc := 22) t302_22 li0 (by decide) ?_
      refine zs_ldc_w (pc := 50) t302_50 (v := -100000) rfl (by decide) ?_
      exact zs_iret (pc := 53) t302_53 mr302 (by decide) (hQ _ _ w1s w1I ((zFr.refl).trans (w1F.mono rfl)) (zPR.fr pR (w1F.eq rfl)) (zPC.fr pC (w1F.eq rfl)) w1PF)
theorem T341 {X : zX} {l : Launch} {M : zM} {Q : Option Value → zM → Prop} {a b : Int32} (hs : zSk zMm M) (hI : zIv mLo mHi M) (pR : zPR M) (pC : zPC M) (pF : zPF M) (hQ : ∀ (M' : zM) (v : Int32), zSk zMm M' → zIv mLo mHi M' → zFr [(336, 336, some 3), (336, 336, some 18), (336, 336, some 19), (336, 336, some 20), (336, 336, some 21), (336, 336, some 22), (336, 336, some 37), (336, 336, some 39), (336, 336, some 42), (336, 336, some 43), (336, 336, some 44), (336, 336, some 45), (342, 361, none)] M M' → zPR M' → zPC M' → zPF M' → Q (some (.int v)) M') : zCall X l 1 0 0 341 [.ref 336, .int a, .int b] M Q := by
  have ga := zrg a
  have gb := zrg b
  refine zs_in (by decide) mf341 (Nat.le_of_ble_eq_true rfl) ?_
  show zGo X l 1 0 0 341 0 [(0, .ref 336), (1, .int a), (2, .int b)] [] M _
  refine zs_iload_n (pc := 0) t341_0 rfl ?_
  refine zs_i2l (pc := 1) t341_1 rfl ?_
  refine zs_lconst (pc := 2) t341_2 (v := 1) (by decide) ?_
  refine zs_ldc2_w (pc := 3) t341_3 (v := 1000) (by decide) ?_
  by_cases w1 : 1 ≤ a.toInt ∧ a.toInt ≤ 1000
  · refine zs_invS (pc := 6) (as := [.long a.toInt64, .long (1 : Int64), .long (1000 : Int64)]) (st := []) t341_6 (by decide) mf228 rfl rfl ⟨by decide, by decide, Nat.le_of_ble_eq_true rfl, Nat.le_of_ble_eq_true rfl⟩ (K228T (zi2l rfl) ll1 ll1000 (by omega) ?_) (fun _ _ q => q)
    show zGo X l 1 0 0 341 9 [(0, .ref 336), (1, .int a), (2, .int b)] [.int (1 : Int32)] M _
    refine zs_if_eqF (pc := 9) t341_9 li1 (by decide) ?_
    refine zs_iload_n (pc := 12) t341_12 rfl ?_
    refine zs_i2l (pc := 13) t341_13 rfl ?_
    refine zs_lconst (pc := 14) t341_14 (v := 0) (by decide) ?_
    refine zs_lconst (pc := 15) t341_15 (v := 1) (by decide) ?_
    by_cases w2 : 0 ≤ b.toInt ∧ b.toInt ≤ 1
    · refine zs_invS (pc := 16) (as := [.long b.toInt64, .long (0 : Int64), .long (1 : Int64)]) (st := []) t341_16 (by decide) mf228 rfl rfl ⟨by decide, by decide, Nat.le_of_ble_eq_true rfl, Nat.le_of_ble_eq_true rfl⟩ (K228T (zi2l rfl) ll0 ll1 (by omega) ?_) (fun _ _ q => q)
      show zGo X l 1 0 0 341 19 [(0, .ref 336), (1, .int a), (2, .int b)] [.int (1 : Int32)] M _
      refine zs_if_neT (pc := 19) t341_19 li1 (by decide) ?_
      refine zs_iconst (pc := 24) t341_24 (v := 0) (by decide) ?_
      refine zs_istore_n (pc := 25) t341_25 (ls' := [(3, .int (0 : Int32)), (0, .ref 336), (1, .int a), (2, .int b)]) (zml mf341 (by decide)) rfl ?_
      refine zs_iconst (pc := 26) t341_26 (v := -1) (by decide) ?_
      refine zs_istore (pc := 27) t341_27 (ls' := [(4, .int (-1 : Int32)), (3, .int (0 : Int32)), (0, .ref 336), (1, .int a), (2, .int b)]) (zml mf341 (by decide)) rfl ?_
      refine zs_iconst (pc := 29) t341_29 (v := 0) (by decide) ?_
      refine zs_istore (pc := 30) t341_30 (ls' := [(5, .int (0 : Int32)), (4, .int (-1 : Int32)), (3, .int (0 : Int32)), (0, .ref 336), (1, .int a), (2, .int b)]) (zml mf341 (by decide)) rfl ?_
      have w3L : ∀ (m : Nat) (w3x3 : Int32) (w3x4 : Int32) (w3x5 : Int32), (0 ≤ w3x5.toInt ∧ w3x5.toInt ≤ 1000) → 1000 - w3x5.toInt ≤ (m : Int) → zGo X l 1 0 0 341 32 [(0, .ref 336), (1, .int a), (2, .int b), (3, .int w3x3), (4, .int w3x4), (5, .int w3x5)] [] M Q := by
        intro m
        induction m using Nat.strongRecOn with
        | ind w3m w3ih =>
          intro w3x3 w3x4 w3x5 w3b5 w3q
          have w3g3 := zrg w3x3
          have w3g4 := zrg w3x4
          refine zs_iload (pc := 32) t341_32 rfl ?_
          refine zs_iload_n (pc := 34) t341_34 rfl ?_
          obtain ⟨w4v, w4e, w4⟩ := ziadd (a := w3x5) (b := a) rfl rfl (by omega) (by omega)
          refine zs_iadd (pc := 35) t341_35 (c := w4v) w4e ?_
          refine zs_sipush (pc := 36) t341_36 (v := 1000) (by decide) ?_
          by_cases w5 : 1000 < (w3x5.toInt + a.toInt)
          · refine zs_icmp_gtT (pc := 39) t341_39 w4 li1000 (by omega) ?_
            refine zs_iload_n (pc := 136) t341_136 rfl ?_
            by_cases w6 : b.toInt ≠ 0
            · refine zs_if_neT (pc := 137) t341_137 rfl (by omega) ?_
              refine zs_iload (pc := 144) t341_144 rfl ?_
              exact zs_iret (pc := 146) t341_146 mr341 rfl (hQ _ _ hs hI (zFr.refl) pR pC pF)
            · refine zs_if_neF (pc := 137) t341_137 rfl (by omega) ?_
              refine zs_iload_n (pc := 140) t341_140 rfl ?_
              refine zs_goto (pc := 141) t341_141 ?_
              exact zs_iret (pc := 146) t341_146 mr341 rfl (hQ _ _ hs hI (zFr.refl) pR pC pF)
          · refine zs_icmp_gtF (pc := 39) t341_39 w4 li1000 (by omega) ?_
            refine zs_iconst (pc := 42) t341_42 (v := 0) (by decide) ?_
            refine zs_istore (pc := 43) t341_43 (ls' := [(6, .int (0 : Int32)), (0, .ref 336), (1, .int a), (2, .int b), (3, .int w3x3), (4, .int w3x4), (5, .int w3x5)]) (zml mf341 (by decide)) rfl ?_
            refine zs_iconst (pc := 45) t341_45 (v := 0) (by decide) ?_
            refine zs_istore (pc := 46) t341_46 (ls' := [(7, .int (0 : Int32)), (6, .int (0 : Int32)), (0, .ref 336), (1, .int a), (2, .int b), (3, .int w3x3), (4, .int w3x4), (5, .int w3x5)]) (zml mf341 (by decide)) rfl ?_
            have w7L : ∀ (m : Nat) (w7x6 : Int32) (w7x7 : Int32), (0 ≤ w7x7.toInt ∧ w7x7.toInt ≤ 60) → 60 - w7x7.toInt ≤ (m : Int) → zGo X l 1 0 0 341 48 [(0, .ref 336), (1, .int a), (2, .int b), (3, .int w3x3), (4, .int w3x4), (5, .int w3x5), (6, .int w7x6), (7, .int w7x7)] [] M Q := by
              intro m
              induction m using Nat.strongRecOn with
              | ind w7m w7ih =>
                intro w7x6 w7x7 w7b7 w7q
                have w7g6 := zrg w7x6
                refine zs_iload (pc := 48) t341_48 rfl ?_
                refine zs_aload_n (pc := 50) t341_50 rfl ?_
                refine zs_get (pc := 51) t341_51 (by decide) (zk1 (hs.k fk_zMm_336)) (hs.p rfl fv_zMm_336_0) ?_
                refine zs_iconst (pc := 54) t341_54 (v := 1) (by decide) ?_
                have w8 := ibA1 hI
                refine zs_iald (pc := 55) t341_55 (j := 1) (by decide) (zk1 (hs.k fk_zMm_337)) li1 (zk2 (hs.k fk_zMm_337) (by decide)) rfl ?_
                by_cases w9 : (zI M 337 1).toInt ≤ w7x7.toInt
                · refine zs_icmp_geT (pc := 56) t341_56 rfl rfl (by omega) ?_
                  refine zs_iload (pc := 113) t341_113 rfl ?_
                  refine zs_iload (pc := 115) t341_115 rfl ?_
                  by_cases w10 : w3x4.toInt < w7x6.toInt
                  · refine zs_icmp_gtT (pc := 117) t341_117 rfl rfl (by omega) ?_
                    refine zs_iload (pc := 123) t341_123 rfl ?_
                    refine zs_istore_n (pc := 125) t341_125 (ls' := [(3, .int w3x5), (0, .ref 336), (1, .int a), (2, .int b), (4, .int w3x4), (5, .int w3x5), (6, .int w7x6), (7, .int w7x7)]) (zml mf341 (by decide)) rfl ?_
                    refine zs_iload (pc := 126) t341_126 rfl ?_
                    refine zs_istore (pc := 128) t341_128 (ls' := [(4, .int w7x6), (3, .int w3x5), (0, .ref 336), (1, .int a), (2, .int b), (5, .int w3x5), (6, .int w7x6), (7, .int w7x7)]) (zml mf341 (by decide)) rfl ?_
                    obtain ⟨w11v, w11e, w11⟩ := ziadd (a := w3x5) (b := Int32.ofInt 1) rfl (show (Int32.ofInt 1).toInt = 1 by decide) (by omega) (by omega)
                    refine zs_iinc (pc := 130) t341_130 (ls' := [(5, .int w11v), (4, .int w7x6), (3, .int w3x5), (0, .ref 336), (1, .int a), (2, .int b), (6, .int w7x6), (7, .int w7x7)]) (zml mf341 (by decide)) rfl (c := w11v) w11e rfl ?_
                    refine zs_goto (pc := 133) t341_133 ?_
                    refine zGo.locals (ls' := [(0, .ref 336), (1, .int a), (2, .int b), (3, .int w3x5), (4, .int w7x6), (5, .int w11v)]) (by simp) ?_
                    have w12 := w11
                    exact w3ih (w3m - 1) (by omega) w3x5 w7x6 w11v ⟨by omega, by omega⟩ (by omega)
                  · refine zs_icmp_gtF (pc := 117) t341_117 rfl rfl (by omega) ?_
                    refine zs_goto (pc := 120) t341_120 ?_
                    obtain ⟨w13v, w13e, w13⟩ := ziadd (a := w3x5) (b := Int32.ofInt 1) rfl (show (Int32.ofInt 1).toInt = 1 by decide) (by omega) (by omega)
                    refine zs_iinc (pc := 130) t341_130 (ls' := [(5, .int w13v), (0, .ref 336), (1, .int a), (2, .int b), (3, .int w3x3), (4, .int w3x4), (6, .int w7x6), (7, .int w7x7)]) (zml mf341 (by decide)) rfl (c := w13v) w13e rfl ?_
                    refine zs_goto (pc := 133) t341_133 ?_
                    refine zGo.locals (ls' := [(0, .ref 336), (1, .int a), (2, .int b), (3, .int w3x3), (4, .int w3x4), (5, .int w13v)]) (by simp) ?_
                    have w14 := w13
                    exact w3ih (w3m - 1) (by omega) w3x3 w3x4 w13v ⟨by omega, by omega⟩ (by omega)
                · refine zs_icmp_geF (pc := 56) t341_56 rfl rfl (by omega) ?_
                  refine zs_iload (pc := 59) t341_59 rfl ?_
                  refine zs_aload_n (pc := 61) t341_61 rfl ?_
                  refine zs_aload_n (pc := 62) t341_62 rfl ?_
                  refine zs_iload (pc := 63) t341_63 rfl ?_
                  refine zs_iconst (pc := 65) t341_65 (v := 0) (by decide) ?_
                  refine zs_invV (pc := 66) (k := 336) (as' := [.int w7x7, .int (0 : Int32)]) (st := [.ref 336, .int w7x6]) t341_66 mf272 rfl rfl (Or.inl ⟨by decide, (zk1 (hs.k fk_zMm_336))⟩) ⟨by decide, by decide, Nat.le_of_ble_eq_true rfl, Nat.le_of_ble_eq_true rfl⟩ (zs_in (by decide) mf272 (Nat.le_of_ble_eq_true rfl) ?_) (fun _ _ q => q)
                  show zGo X l 0 0 0 272 0 [(0, .ref 336), (1, .int w7x7), (2, .int (0 : Int32))] [] M _
                  refine zs_aload_n (pc := 0) t272_0 rfl ?_
                  refine zs_get (pc := 1) t272_1 (by decide) (zk1 (hs.k fk_zMm_336)) (hs.p rfl fv_zMm_336_0) ?_
                  refine zs_bipush (pc := 4) t272_4 (v := 30) (by decide) ?_
                  refine zs_iconst (pc := 6) t272_6 (v := 4) (by decide) ?_
                  refine zs_iload_n (pc := 7) t272_7 rfl ?_
                  obtain ⟨w15v, w15⟩ : ∃ v, (4 : Int32) * w7x7 = v := ⟨_, rfl⟩
                  have w15g : w15v.toInt = 4 * w7x7.toInt := by rw [← w15]; exact zmulc li4 rfl (by omega) (by omega)
                  refine zs_imul (pc := 8) t272_8 (c := w15v) w15 ?_
                  obtain ⟨w16v, w16e, w16⟩ := ziadd (a := (30 : Int32)) (b := w15v) li30 w15g (by omega) (by omega)
                  refine zs_iadd (pc := 9) t272_9 (c := w16v) w16e ?_
                  refine zs_iload_n (pc := 10) t272_10 rfl ?_
                  obtain ⟨w17v, w17e, w17⟩ := ziadd (a := w16v) (b := (0 : Int32)) w16 li0 (by omega) (by omega)
                  refine zs_iadd (pc := 11) t272_11 (c := w17v) w17e ?_
                  obtain ⟨w18n, w18⟩ : ∃ n : Nat, w7x7.toInt = (n : Int) := ⟨(w7x7.toInt).toNat, by omega⟩
                  have w19 := ibL (j := (30 + 4 * w18n)) hI (by omega) (by omega) (by omega)
                  refine zs_iald (pc := 12) t272_12 (j := (30 + 4 * w18n)) (by decide) (zk1 (hs.k fk_zMm_337)) (show w17v.toInt = (((30 + 4 * w18n) : Nat) : Int) by omega) (zk2 (hs.k fk_zMm_337) (by omega)) rfl ?_
                  refine zs_iret (pc := 13) t272_13 mr272 rfl ?_
                  show zGo X l 1 0 0 341 69 [(0, .ref 336), (1, .int a), (2, .int b), (3, .int w3x3), (4, .int w3x4), (5, .int w3x5), (6, .int w7x6), (7, .int w7x7)] [.int (zI M 337 (30 + 4 * w18n)), .ref 336, .int w7x6] M _
                  refine zs_invV (pc := 69) (k := 336) (as' := [.int (zI M 337 (30 + 4 * w18n))]) (st := [.int w7x6]) t341_69 mf273 rfl rfl (Or.inl ⟨by decide, (zk1 (hs.k fk_zMm_336))⟩) ⟨by decide, by decide, Nat.le_of_ble_eq_true rfl, Nat.le_of_ble_eq_true rfl⟩ (zs_in (by decide) mf273 (Nat.le_of_ble_eq_true rfl) ?_) (fun _ _ q => q)
                  show zGo X l 0 0 0 273 0 [(0, .ref 336), (1, .int (zI M 337 (30 + 4 * w18n)))] [] M _
                  refine zs_aload_n (pc := 0) t273_0 rfl ?_
                  refine zs_get (pc := 1) t273_1 (by decide) (zk1 (hs.k fk_zMm_336)) (hs.p rfl fv_zMm_336_0) ?_
                  refine zs_bipush (pc := 4) t273_4 (v := 14) (by decide) ?_
                  refine zs_iconst (pc := 6) t273_6 (v := 2) (by decide) ?_
                  refine zs_iload_n (pc := 7) t273_7 rfl ?_
                  obtain ⟨w20v, w20⟩ : ∃ v, (2 : Int32) * (zI M 337 (30 + 4 * w18n)) = v := ⟨_, rfl⟩
                  have w20g : w20v.toInt = 2 * (zI M 337 (30 + 4 * w18n)).toInt := by rw [← w20]; exact zmulc li2 rfl (by omega) (by omega)
                  refine zs_imul (pc := 8) t273_8 (c := w20v) w20 ?_
                  obtain ⟨w21v, w21e, w21⟩ := ziadd (a := (14 : Int32)) (b := w20v) li14 w20g (by omega) (by omega)
                  refine zs_iadd (pc := 9) t273_9 (c := w21v) w21e ?_
                  refine zs_iconst (pc := 10) t273_10 (v := 1) (by decide) ?_
                  obtain ⟨w22v, w22e, w22⟩ := ziadd (a := w21v) (b := (1 : Int32)) w21 li1 (by omega) (by omega)
                  refine zs_iadd (pc := 11) t273_11 (c := w22v) w22e ?_
                  obtain ⟨w23n, w23⟩ : ∃ n : Nat, (zI M 337 (30 + 4 * w18n)).toInt = (n : Int) := ⟨((zI M 337 (30 + 4 * w18n)).toInt).toNat, by omega⟩
                  have w24 := zrg (zI M 337 (15 + 2 * w23n))
                  refine zs_iald (pc := 12) t273_12 (j := (15 + 2 * w23n)) (by decide) (zk1 (hs.k fk_zMm_337)) (show w22v.toInt = (((15 + 2 * w23n) : Nat) : Int) by omega) (zk2 (hs.k fk_zMm_337) (by omega)) rfl ?_
                  refine zs_iconst (pc := 13) t273_13 (v := 1) (by decide) ?_
                  by_cases w25 : (zI M 337 (15 + 2 * w23n)).toInt ≠ 1
                  · refine zs_icmp_neT (pc := 14) t273_14 rfl li1 (by omega) ?_
                    refine zs_iconst (pc := 21) t273_21 (v := 0) (by decide) ?_
                    refine zs_iret (pc := 22) t273_22 mr273 (by decide) ?_
                    show zGo X l 1 0 0 341 72 [(0, .ref 336), (1, .int a), (2, .int b), (3, .int w3x3), (4, .int w3x4), (5, .int w3x5), (6, .int w7x6), (7, .int w7x7)] [.int (0 : Int32), .int w7x6] M _
                    refine zs_if_eqT (pc := 72) t341_72 li0 (by decide) ?_
                    refine zs_iconst (pc := 103) t341_103 (v := 0) (by decide) ?_
                    obtain ⟨w26v, w26e, w26⟩ := ziadd (a := w7x6) (b := (0 : Int32)) rfl li0 (by omega) (by omega)
                    refine zs_iadd (pc := 104) t341_104 (c := w26v) w26e ?_
                    refine zs_istore (pc := 105) t341_105 (ls' := [(6, .int w26v), (0, .ref 336), (1, .int a), (2, .int b), (3, .int w3x3), (4, .int w3x4), (5, .int w3x5), (7, .int w7x7)]) (zml mf341 (by decide)) rfl ?_
                    obtain ⟨w27v, w27e, w27⟩ := ziadd (a := w7x7) (b := Int32.ofInt 1) rfl (show (Int32.ofInt 1).toInt = 1 by decide) (by omega) (by omega)
                    refine zs_iinc (pc := 107) t341_107 (ls' := [(7, .int w27v), (6, .int w26v), (0, .ref 336), (1, .int a), (2, .int b), (3, .int w3x3), (4, .int w3x4), (5, .int w3x5)]) (zml mf341 (by decide)) rfl (c := w27v) w27e rfl ?_
                    refine zs_goto (pc := 110) t341_110 ?_
                    refine zGo.locals (ls' := [(0, .ref 336), (1, .int a), (2, .int b), (3, .int w3x3), (4, .int w3x4), (5, .int w3x5), (6, .int w26v), (7, .int w27v)]) (by simp) ?_
                    have w28 := w26
                    have w29 := w27
                    exact w7ih (w7m - 1) (by omega) w26v w27v ⟨by omega, by omega⟩ (by omega)
                  · refine zs_icmp_neF (pc := 14) t273_14 rfl li1 (by omega) ?_
                    refine zs_iconst (pc := 17) t273_17 (v := 1) (by decide) ?_
                    refine zs_goto (pc := 18) t273_18 ?_
                    refine zs_iret (pc := 22) t273_22 mr273 (by decide) ?_
                    show zGo X l 1 0 0 341 72 [(0, .ref 336), (1, .int a), (2, .int b), (3, .int w3x3), (4, .int w3x4), (5, .int w3x5), (6, .int w7x6), (7, .int w7x7)] [.int (1 : Int32), .int w7x6] M _
                    refine zs_if_eqF (pc := 72) t341_72 li1 (by decide) ?_
                    refine zs_aload_n (pc := 75) t341_75 rfl ?_
                    refine zs_iload (pc := 76) t341_76 rfl ?_
                    refine zs_iconst (pc := 78) t341_78 (v := 2) (by decide) ?_
                    refine zs_invV (pc := 79) (k := 336) (as' := [.int w7x7, .int (2 : Int32)]) (st := [.int w7x6]) t341_79 mf272 rfl rfl (Or.inl ⟨by decide, (zk1 (hs.k fk_zMm_336))⟩) ⟨by decide, by decide, Nat.le_of_ble_eq_true rfl, Nat.le_of_ble_eq_true rfl⟩ (zs_in (by decide) mf272 (Nat.le_of_ble_eq_true rfl) ?_) (fun _ _ q => q)
                    show zGo X l 0 0 0 272 0 [(0, .ref 336), (1, .int w7x7), (2, .int (2 : Int32))] [] M _
                    refine zs_aload_n (pc := 0) t272_0 rfl ?_
                    refine zs_get (pc := 1) t272_1 (by decide) (zk1 (hs.k fk_zMm_336)) (hs.p rfl fv_zMm_336_0) ?_
                    refine zs_bipush (pc := 4) t272_4 (v := 30) (by decide) ?_
                    refine zs_iconst (pc := 6) t272_6 (v := 4) (by decide) ?_
                    refine zs_iload_n (pc := 7) t272_7 rfl ?_
                    obtain ⟨w30v, w30⟩ : ∃ v, (4 : Int32) * w7x7 = v := ⟨_, rfl⟩
                    have w30g : w30v.toInt = 4 * w7x7.toInt := by rw [← w30]; exact zmulc li4 rfl (by omega) (by omega)
                    refine zs_imul (pc := 8) t272_8 (c := w30v) w30 ?_
                    obtain ⟨w31v, w31e, w31⟩ := ziadd (a := (30 : Int32)) (b := w30v) li30 w30g (by omega) (by omega)
                    refine zs_iadd (pc := 9) t272_9 (c := w31v) w31e ?_
                    refine zs_iload_n (pc := 10) t272_10 rfl ?_
                    obtain ⟨w32v, w32e, w32⟩ := ziadd (a := w31v) (b := (2 : Int32)) w31 li2 (by omega) (by omega)
                    refine zs_iadd (pc := 11) t272_11 (c := w32v) w32e ?_
                    have w33 := zrg (zI M 337 (32 + 4 * w18n))
                    refine zs_iald (pc := 12) t272_12 (j := (32 + 4 * w18n)) (by decide) (zk1 (hs.k fk_zMm_337)) (show w32v.toInt = (((32 + 4 * w18n) : Nat) : Int) by omega) (zk2 (hs.k fk_zMm_337) (by omega)) rfl ?_
                    refine zs_iret (pc := 13) t272_13 mr272 rfl ?_
                    show zGo X l 1 0 0 341 82 [(0, .ref 336), (1, .int a), (2, .int b), (3, .int w3x3), (4, .int w3x4), (5, .int w3x5), (6, .int w7x6), (7, .int w7x7)] [.int (zI M 337 (32 + 4 * w18n)), .int w7x6] M _
                    refine zs_i2l (pc := 82) t341_82 rfl ?_
                    refine zs_iload (pc := 83) t341_83 rfl ?_
                    refine zs_i2l (pc := 85) t341_85 rfl ?_
                    refine zs_iload (pc := 86) t341_86 rfl ?_
                    refine zs_iload_n (pc := 88) t341_88 rfl ?_
                    obtain ⟨w34v, w34e, w34⟩ := ziadd (a := w3x5) (b := a) rfl rfl (by omega) (by omega)
                    refine zs_iadd (pc := 89) t341_89 (c := w34v) w34e ?_
                    refine zs_iconst (pc := 90) t341_90 (v := 1) (by decide) ?_
                    obtain ⟨w35v, w35e, w35⟩ := zisub (a := w34v) (b := (1 : Int32)) w34 li1 (by omega) (by omega)
                    refine zs_isub (pc := 91) t341_91 (c := w35v) w35e ?_
                    refine zs_i2l (pc := 92) t341_92 rfl ?_
                    by_cases w36 : w3x5.toInt ≤ (zI M 337 (32 + 4 * w18n)).toInt ∧ (zI M 337 (32 + 4 * w18n)).toInt ≤ ((w3x5.toInt + a.toInt) - 1)
                    · refine zs_invS (pc := 93) (as := [.long (zI M 337 (32 + 4 * w18n)).toInt64, .long w3x5.toInt64, .long w35v.toInt64]) (st := [.int w7x6]) t341_93 (by decide) mf228 rfl rfl ⟨by decide, by decide, Nat.le_of_ble_eq_true rfl, Nat.le_of_ble_eq_true rfl⟩ (K228T (zi2l rfl) (zi2l rfl) (zi2l w35) (by omega) ?_) (fun _ _ q => q)
                      show zGo X l 1 0 0 341 96 [(0, .ref 336), (1, .int a), (2, .int b), (3, .int w3x3), (4, .int w3x4), (5, .int w3x5), (6, .int w7x6), (7, .int w7x7)] [.int (1 : Int32), .int w7x6] M _
                      refine zs_if_eqF (pc := 96) t341_96 li1 (by decide) ?_
                      refine zs_iconst (pc := 99) t341_99 (v := 1) (by decide) ?_
                      refine zs_goto (pc := 100) t341_100 ?_
                      obtain ⟨w37v, w37⟩ : ∃ v, v = w7x6 + (1 : Int32) := ⟨_, rfl⟩
                      have w37g := zrg w37v
                      refine zs_iadd (pc := 104) t341_104 (c := w37v) w37.symm ?_
                      refine zs_istore (pc := 105) t341_105 (ls' := [(6, .int w37v), (0, .ref 336), (1, .int a), (2, .int b), (3, .int w3x3), (4, .int w3x4), (5, .int w3x5), (7, .int w7x7)]) (zml mf341 (by decide)) rfl ?_
                      obtain ⟨w38v, w38e, w38⟩ := ziadd (a := w7x7) (b := Int32.ofInt 1) rfl (show (Int32.ofInt 1).toInt = 1 by decide) (by omega) (by omega)
                      refine zs_iinc (pc := 107) t341_107 (ls' := [(7, .int w38v), (6, .int w37v), (0, .ref 336), (1, .int a), (2, .int b), (3, .int w3x3), (4, .int w3x4), (5, .int w3x5)]) (zml mf341 (by decide)) rfl (c := w38v) w38e rfl ?_
                      refine zs_goto (pc := 110) t341_110 ?_
                      refine zGo.locals (ls' := [(0, .ref 336), (1, .int a), (2, .int b), (3, .int w3x3), (4, .int w3x4), (5, .int w3x5), (6, .int w37v), (7, .int w38v)]) (by simp) ?_
                      have w39 := w38
                      exact w7ih (w7m - 1) (by omega) w37v w38v ⟨by omega, by omega⟩ (by omega)
                    · refine zs_invS (pc := 93) (as := [.long (zI M 337 (32 + 4 * w18n)).toInt64, .long w3x5.toInt64, .long w35v.toInt64]) (st := [.int w7x6]) t341_93 (by decide) mf228 rfl rfl ⟨by decide, by decide, Nat.le_of_ble_eq_true rfl, Nat.le_of_ble_eq_true rfl⟩ (K228F (zi2l rfl) (zi2l rfl) (zi2l w35) (by omega) ?_) (fun _ _ q => q)
                      show zGo X l 1 0 0 341 96 [(0, .ref 336), (1, .int a), (2, .int b), (3, .int w3x3), (4, .int w3x4), (5, .int w3x5), (6, .int w7x6), (7, .int w7x7)] [.int (0 : Int32), .int w7x6] M _
                      refine zs_if_eqT (pc := 96) t341_96 li0 (by decide) ?_
                      refine zs_iconst (pc := 103) t341_103 (v := 0) (by decide) ?_
                      obtain ⟨w40v, w40e, w40⟩ := ziadd (a := w7x6) (b := (0 : Int32)) rfl li0 (by omega) (by omega)
                      refine zs_iadd (pc := 104) t341_104 (c := w40v) w40e ?_
                      refine zs_istore (pc := 105) t341_105 (ls' := [(6, .int w40v), (0, .ref 336), (1, .int a), (2, .int b), (3, .int w3x3), (4, .int w3x4), (5, .int w3x5), (7, .int w7x7)]) (zml mf341 (by decide)) rfl ?_
                      obtain ⟨w41v, w41e, w41⟩ := ziadd (a := w7x7) (b := Int32.ofInt 1) rfl (show (Int32.ofInt 1).toInt = 1 by decide) (by omega) (by omega)
                      refine zs_iinc (pc := 107) t341_107 (ls' := [(7, .int w41v), (6, .int w40v), (0, .ref 336), (1, .int a), (2, .int b), (3, .int w3x3), (4, .int w3x4), (5, .int w3x5)]) (zml mf341 (by decide)) rfl (c := w41v) w41e rfl ?_
                      refine zs_goto (pc := 110) t341_110 ?_
                      refine zGo.locals (ls' := [(0, .ref 336), (1, .int a), (2, .int b), (3, .int w3x3), (4, .int w3x4), (5, .int w3x5), (6, .int w40v), (7, .int w41v)]) (by simp) ?_
                      have w42 := w40
                      have w43 := w41
                      exact w7ih (w7m - 1) (by omega) w40v w41v ⟨by omega, by omega⟩ (by omega)
            refine zGo.locals (ls' := [(0, .ref 336), (1, .int a), (2, .int b), (3, .int w3x3), (4, .int w3x4), (5, .int w3x5), (6, .int (0 : Int32)), (7, .int (0 : Int32))]) (by simp) ?_
            have w44 := li0
            have w45 := li0
            exact w7L ((60 - 0 : Int).toNat) (0 : Int32) (0 : Int32) ⟨by decide, by decide⟩ (by omega)
      refine zGo.locals (ls' := [(0, .ref 336), (1, .int a), (2, .int b), (3, .int (0 : Int32)), (4, .int (-1 : Int32)), (5, .int (0 : Int32))]) (by simp) ?_
      have w46 := li0
      have w47 := lin1
      have w48 := li0
      exact w3L ((1000 - 0 : Int).toNat) (0 : Int32) (-1 : Int32) (0 : Int32) ⟨by decide, by decide⟩ (by omega)
    · refine zs_invS (pc := 16) (as := [.long b.toInt64, .long (0 : Int64), .long (1 : Int64)]) (st := []) t341_16 (by decide) mf228 rfl rfl ⟨by decide, by decide, Nat.le_of_ble_eq_true rfl, Nat.le_of_ble_eq_true rfl⟩ (K228F (zi2l rfl) ll0 ll1 (by omega) ?_) (fun _ _ q => q)
      show zGo X l 1 0 0 341 19 [(0, .ref 336), (1, .int a), (2, .int b)] [.int (0 : Int32)] M _
      refine zs_if_neF (pc := 19) t341_19 li0 (by decide) ?_
      refine zs_iconst (pc := 22) t341_22 (v := -1) (by decide) ?_
      exact zs_iret (pc := 23) t341_23 mr341 (by decide) (hQ _ _ hs hI (zFr.refl) pR pC pF)
  · refine zs_invS (pc := 6) (as := [.long a.toInt64, .long (1 : Int64), .long (1000 : Int64)]) (st := []) t341_6 (by decide) mf228 rfl rfl ⟨by decide, by decide, Nat.le_of_ble_eq_true rfl, Nat.le_of_ble_eq_true rfl⟩ (K228F (zi2l rfl) ll1 ll1000 (by omega) ?_) (fun _ _ q => q)
    show zGo X l 1 0 0 341 9 [(0, .ref 336), (1, .int a), (2, .int b)] [.int (0 : Int32)] M _
    refine zs_if_eqT (pc := 9) t341_9 li0 (by decide) ?_
    refine zs_iconst (pc := 22) t341_22 (v := -1) (by decide) ?_
    exact zs_iret (pc := 23) t341_23 mr341 (by decide) (hQ _ _ hs hI (zFr.refl) pR pC pF)
