theorem T349 {X : zX} {l : Launch} {M : zM} {Q : Option Value → zM → Prop} {a : Int32} (hs : zSk zMm M) (hI : zIv mLo mHi M) (pR : zPR M) (pC : zPC M) (pF : zPF M) (hQ : ∀ (M' : zM) (v : Int32), zSk zMm M' → zIv mLo mHi M' → zFr [(336, 336, some 3), (336, 336, some 18), (336, 336, some 19), (336, 336, some 20), (336, 336, some 21), (336, 336, some 22), (336, 336, some 37), (336, 336, some 39), (336, 336, some 42), (336, 336, some 43), (336, 336, some 44), (336, 336, some 45), (342, 361, none)] M M' → zPR M' → zPC M' → zPF M' → Q (some (.int v)) M') : zCall X l 1 0 0 349 [.ref 336, .int a] M Q := by
  have ga := zrg a
  refine zs_in (by decide) mf349 (Nat.le_of_ble_eq_true rfl) ?_
  show zGo X l 1 0 0 349 0 [(0, .ref 336), (1, .int a)] [] M _
  refine zs_iload_n (pc := 0) t349_0 rfl ?_
  refine zs_i2l (pc := 1) t349_1 rfl ?_
  refine zs_lconst (pc := 2) t349_2 (v := 0) (by decide) ?_
  refine zs_aload_n (pc := 3) t349_3 rfl ?_
  have w1 := ib336_50 hI
  refine zs_get (pc := 4) t349_4 (by decide) (zk1 (hs.k fk_zMm_336)) (zfvi rfl rfl) ?_
  refine zs_iconst (pc := 7) t349_7 (v := 1) (by decide) ?_
  obtain ⟨w2v, w2e, w2⟩ := zisub (a := (zI M 336 50)) (b := (1 : Int32)) rfl li1 (by omega) (by omega)
  refine zs_isub (pc := 8) t349_8 (c := w2v) w2e ?_
  refine zs_i2l (pc := 9) t349_9 rfl ?_
  by_cases w3 : 0 ≤ a.toInt ∧ a.toInt ≤ ((zI M 336 50).toInt - 1)
  · refine zs_invS (pc := 10) (as := [.long a.toInt64, .long (0 : Int64), .long w2v.toInt64]) (st := []) t349_10 (by decide) mf228 rfl rfl ⟨by decide, by decide, Nat.le_of_ble_eq_true rfl, Nat.le_of_ble_eq_true rfl⟩ (K228T (zi2l rfl) ll0 (zi2l w2) (by omega) ?_) (fun _ _ q => q)
    show zGo X l 1 0 0 349 13 [(0, .ref 336), (1, .int a)] [.int (1 : Int32)] M _
    refine zs_if_eqF (pc := 13) t349_13 li1 (by decide) ?_
    refine zs_aload_n (pc := 16) t349_16 rfl ?_
    refine zs_get (pc := 17) t349_17 (by decide) (zk1 (hs.k fk_zMm_336)) (hs.p rfl fv_zMm_336_49) ?_
    refine zs_iload_n (pc := 20) t349_20 rfl ?_
    obtain ⟨w4n, w4⟩ : ∃ n : Nat, a.toInt = (n : Int) := ⟨(a.toInt).toNat, by omega⟩
    have w5 := ib363 hI w4n
    refine zs_bald (pc := 21) t349_21 (j := w4n) (Or.inl (zk1 (hs.k fk_zMm_363))) (show a.toInt = ((w4n : Nat) : Int) by omega) (zk2 (hs.k fk_zMm_363) (by omega)) rfl ?_
    refine zs_goto (pc := 22) t349_22 ?_
    exact zs_iret (pc := 26) t349_26 mr349 rfl (hQ _ _ hs hI (zFr.refl) pR pC pF)
  · refine zs_invS (pc := 10) (as := [.long a.toInt64, .long (0 : Int64), .long w2v.toInt64]) (st := []) t349_10 (by decide) mf228 rfl rfl ⟨by decide, by decide, Nat.le_of_ble_eq_true rfl, Nat.le_of_ble_eq_true rfl⟩ (K228F (zi2l rfl) ll0 (zi2l w2) (by omega) ?_) (fun _ _ q => q)
    show zGo X l 1 0 0 349 13 [(0, .ref 336), (1, .int a)] [.int (0 : Int32)] M _
    refine zs_if_eqT (pc := 13) t349_13 li0 (by decide) ?_
    refine zs_iconst (pc := 25) t349_25 (v := -1) (by decide) ?_
    exact zs_iret (pc := 26) t349_26 mr349 (by decide) (hQ _ _ hs hI (zFr.refl) pR pC pF)
theorem T322 {X : zX} {l : Launch} {M : zM} {Q : Option Value → zM → Prop} (hs : zSk zMm M) (hI : zIv mLo mHi M) (pR : zPR M) (pC : zPC M) (pF : zPF M) (hQ : ∀ (M' : zM) (v : Int32), zSk zMm M' → zIv mLo mHi M' → zFr [(336, 336, some 3), (336, 336, some 18), (336, 336, some 19), (336, 336, some 20), (336, 336, some 21), (336, 336, some 22), (336, 336, some 37), (336, 336, some 39), (336, 336, some 42), (336, 336, some 43), (336, 336, some 44), (336, 336, some 45), (342, 361, none)] M M' → zPR M' → zPC M' → zPF M' → Q (some (.int v)) M') : zCall X l 7 0 0 322 [.ref 336] M Q := by
  refine zs_in (by decide) mf322 (Nat.le_of_ble_eq_true rfl) ?_
  show zGo X l 7 0 0 322 0 [(0, .ref 336)] [] M _
  refine zs_aload_n (pc := 0) t322_0 rfl ?_
  refine zs_invV (pc := 1) (k := 336) (as' := []) (st := []) t322_1 mf268 rfl rfl (Or.inl ⟨by decide, (zk1 (hs.k fk_zMm_336))⟩) ⟨by decide, by decide, Nat.le_of_ble_eq_true rfl, Nat.le_of_ble_eq_true rfl⟩ (K268 hs hI pR pF ?_) (fun _ _ q => q)
  intro w1M w1s w1I w1F w1PF w1PD w1PV
  show zGo X l 7 0 0 322 4 [(0, .ref 336)] [] w1M _
  refine zs_aload_n (pc := 4) t322_4 rfl ?_
  refine zs_iconst (pc := 5) t322_5 (v := -1) (by decide) ?_
  refine zs_invV (pc := 6) (k := 336) (as' := [.int (-1 : Int32)]) (st := []) t322_6 mf290 rfl rfl (Or.inl ⟨by decide, (zk1 (w1s.k fk_zMm_336))⟩) ⟨by decide, by decide, Nat.le_of_ble_eq_true rfl, Nat.le_of_ble_eq_true rfl⟩ (K290 w1s w1I ?_) (fun _ _ q => q)
  intro w2v
  have w2g := zrg w2v
  show zGo X l 7 0 0 322 9 [(0, .ref 336)] [.int w2v] w1M _
  refine zs_iconst (pc := 9) t322_9 (v := 2) (by decide) ?_
  refine zs_aload_n (pc := 10) t322_10 rfl ?_
  refine zs_get (pc := 11) t322_11 (by decide) (zk1 (w1s.k fk_zMm_336)) (w1s.p rfl fv_zMm_336_0) ?_
  refine zs_iconst (pc := 14) t322_14 (v := 5) (by decide) ?_
  have w3 := ibA5 hI
  refine zs_iald (pc := 15) t322_15 (j := 5) (by decide) (zk1 (w1s.k fk_zMm_337)) li5 (zk2 (w1s.k fk_zMm_337) (by decide)) ((w1F 337 5 rfl).trans rfl) ?_
  obtain ⟨w4v, w4⟩ : ∃ v, (2 : Int32) * (zI M 337 5) = v := ⟨_, rfl⟩
  have w4g : w4v.toInt = 2 * (zI M 337 5).toInt := by rw [← w4]; exact zmulc li2 rfl (by omega) (by omega)
  refine zs_imul (pc := 16) t322_16 (c := w4v) w4 ?_
  refine zs_iconst (pc := 17) t322_17 (v := 1) (by decide) ?_
  obtain ⟨w5v, w5e, w5⟩ := ziadd (a := w4v) (b := (1 : Int32)) w4g li1 (by omega) (by omega)
  refine zs_iadd (pc := 18) t322_18 (c := w5v) w5e ?_
  obtain ⟨w6v, w6⟩ : ∃ v, w2v * w5v = v := ⟨_, rfl⟩
  have w6g := zrg w6v
  refine zs_imul (pc := 19) t322_19 (c := w6v) w6 ?_
  refine zs_iconst (pc := 20) t322_20 (v := 2) (by decide) ?_
  refine zs_aload_n (pc := 21) t322_21 rfl ?_
  refine zs_get (pc := 22) t322_22 (by decide) (zk1 (w1s.k fk_zMm_336)) (w1s.p rfl fv_zMm_336_0) ?_
  refine zs_bipush (pc := 25) t322_25 (v := 6) (by decide) ?_
  have w7 := ibA6 hI
  refine zs_iald (pc := 27) t322_27 (j := 6) (by decide) (zk1 (w1s.k fk_zMm_337)) li6 (zk2 (w1s.k fk_zMm_337) (by decide)) ((w1F 337 6 rfl).trans rfl) ?_
  obtain ⟨w8v, w8⟩ : ∃ v, (2 : Int32) * (zI M 337 6) = v := ⟨_, rfl⟩
  have w8g : w8v.toInt = 2 * (zI M 337 6).toInt := by rw [← w8]; exact zmulc li2 rfl (by omega) (by omega)
  refine zs_imul (pc := 28) t322_28 (c := w8v) w8 ?_
  refine zs_iconst (pc := 29) t322_29 (v := 1) (by decide) ?_
  obtain ⟨w9v, w9e, w9⟩ := ziadd (a := w8v) (b := (1 : Int32)) w8g li1 (by omega) (by omega)
  refine zs_iadd (pc := 30) t322_30 (c := w9v) w9e ?_
  obtain ⟨w10v, w10⟩ : ∃ v, w6v * w9v = v := ⟨_, rfl⟩
  have w10g := zrg w10v
  refine zs_imul (pc := 31) t322_31 (c := w10v) w10 ?_
  refine zs_bipush (pc := 32) t322_32 (v := 10) (by decide) ?_
  refine zs_aload_n (pc := 34) t322_34 rfl ?_
  have w11 := ib336_22 w1I
  refine zs_get (pc := 35) t322_35 (by decide) (zk1 (w1s.k fk_zMm_336)) (zfvi rfl rfl) ?_
  obtain ⟨w12v, w12⟩ : ∃ v, (10 : Int32) * (zI w1M 336 22) = v := ⟨_, rfl⟩
  have w12g : w12v.toInt = 10 * (zI w1M 336 22).toInt := by rw [← w12]; exact zmulc li10 rfl (by omega) (by omega)
  refine zs_imul (pc := 38) t322_38 (c := w12v) w12 ?_
  obtain ⟨w13v, w13⟩ : ∃ v, v = w10v + w12v := ⟨_, rfl⟩
  have w13g := zrg w13v
  refine zs_iadd (pc := 39) t322_39 (c := w13v) w13.symm ?_
  exact zs_iret (pc := 40) t322_40 mr322 rfl (hQ _ _ w1s w1I ((zFr.refl).trans (w1F.mono rfl)) (zPR.fr pR (w1F.eq rfl)) (zPC.fr pC (w1F.eq rfl)) w1PF)
