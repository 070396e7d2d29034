theorem Q336 {X : zX} {l : Launch} {M : zM} {Q : Option Value → zM → Prop} {a b : Int32} (hs : zSk zMm M) (hI : zIv mLo mHi M) {F : Nat → Int} (pR : zPR M) (pC : zPC M) (pF : zPF M) (x0 : zRw M 0 F) (x1 : zWF F) (x2 : zKnB M F) (hQ : ∀ (M' : zM) (v : Int32), zSk zMm M' → zIv mLo mHi M' → zFr [(336, 336, some 3), (336, 336, some 18), (336, 336, some 19), (336, 336, some 20), (336, 336, some 21), (336, 336, some 22), (336, 336, some 37), (336, 336, some 39), (336, 336, some 42), (336, 336, some 43), (336, 336, some 44), (336, 336, some 45), (342, 361, none)] M M' → zPR M' → zPC M' → zPF M' → (zKnB M' F) → Q (some (.int v)) M') : zCall X l 7 0 0 336 [.ref 336, .int a, .int b] M Q := by
  have ga := zrg a
  have gb := zrg b
  refine zs_in (by decide) mf336 (Nat.le_of_ble_eq_true rfl) ?_
  show zGo X l 7 0 0 336 0 [(0, .ref 336), (1, .int a), (2, .int b)] [] M _
  have f1 := x1.1
  have f3 := x1.2.2.2
  have w1 := ibA0 hI
  have w2 : (zI M 337 0).toInt = (zI M 337 0).toInt := (congrArg Int32.toInt rfl).trans rfl
  have e0 : (zI M 337 0).toInt = F 0 := x0.at (by decide) (by decide) (by decide)
  have w3 := ibA1 hI
  have w4 : (zI M 337 1).toInt = (zI M 337 1).toInt := (congrArg Int32.toInt rfl).trans rfl
  have e1 : (zI M 337 1).toInt = F 1 := x0.at (by decide) (by decide) (by decide)
  have w5 := ibA2 hI
  have w6 : (zI M 337 2).toInt = (zI M 337 2).toInt := (congrArg Int32.toInt rfl).trans rfl
  have e2 : (zI M 337 2).toInt = F 2 := x0.at (by decide) (by decide) (by decide)
  refine zs_aload_n (pc := 0) t336_0 rfl ?_
  refine zs_invV (pc := 1) (k := 336) (as' := []) (st := []) t336_1 mf268 rfl rfl (Or.inl ⟨by decide, (zk1 (hs.k fk_zMm_336))⟩) ⟨by decide, by decide, Nat.le_of_ble_eq_true rfl, Nat.le_of_ble_eq_true rfl⟩ (U268 hs hI pR pF x0 x1 x2 ?_) (fun _ _ q => q)
  intro w7M w7s w7I w7F w7PF w7PD w7PV w7x0 w7x1
  show zGo X l 7 0 0 336 4 [(0, .ref 336), (1, .int a), (2, .int b)] [] w7M _
  have w7kb : zKnB w7M F := fun _ => w7x0
  refine zs_aload_n (pc := 4) t336_4 rfl ?_
  refine zs_iload_n (pc := 5) t336_5 rfl ?_
  refine zs_invV (pc := 6) (k := 336) (as' := [.int a]) (st := []) t336_6 mf297 rfl rfl (Or.inl ⟨by decide, (zk1 (w7s.k fk_zMm_336))⟩) ⟨by decide, by decide, Nat.le_of_ble_eq_true rfl, Nat.le_of_ble_eq_true rfl⟩ (zs_in (by decide) mf297 (Nat.le_of_ble_eq_true rfl) ?_) (fun _ _ q => q)
  show zGo X l 1 0 0 297 0 [(0, .ref 336), (1, .int a)] [] w7M _
  refine zs_iload_n (pc := 0) t297_0 rfl ?_
  refine zs_i2l (pc := 1) t297_1 rfl ?_
  refine zs_lconst (pc := 2) t297_2 (v := 0) (by decide) ?_
  refine zs_aload_n (pc := 3) t297_3 rfl ?_
  have w8 := ib336_22 w7I
  refine zs_get (pc := 4) t297_4 (by decide) (zk1 (w7s.k fk_zMm_336)) (zfvi rfl rfl) ?_
  refine zs_iconst (pc := 7) t297_7 (v := 1) (by decide) ?_
  obtain ⟨w9v, w9e, w9⟩ := zisub (a := (zI w7M 336 22)) (b := (1 : Int32)) rfl li1 (by omega) (by omega)
  refine zs_isub (pc := 8) t297_8 (c := w9v) w9e ?_
  refine zs_i2l (pc := 9) t297_9 rfl ?_
  by_cases w10 : 0 ≤ a.toInt ∧ a.toInt ≤ ((zI w7M 336 22).toInt - 1)
  · refine zs_invS (pc := 10) (as := [.long a.toInt64, .long (0 : Int64), .long w9v.toInt64]) (st := []) t297_10 (by decide) mf228 rfl rfl ⟨by decide, by decide, Nat.le_of_ble_eq_true rfl, Nat.le_of_ble_eq_true rfl⟩ (K228T (zi2l rfl) ll0 (zi2l w9) (by omega) ?_) (fun _ _ q => q)
    show zGo X l 1 0 0 297 13 [(0, .ref 336), (1, .int a)] [.int (1 : Int32)] w7M _
    refine zs_iret (pc := 13) t297_13 mr297 (by decide) ?_
    show zGo X l 7 0 0 336 9 [(0, .ref 336), (1, .int a), (2, .int b)] [.int (1 : Int32)] w7M _
    refine zs_if_eqF (pc := 9) t336_9 li1 (by decide) ?_
    refine zs_aload_n (pc := 12) t336_12 rfl ?_
    refine zs_iload_n (pc := 13) t336_13 rfl ?_
    refine zs_invV (pc := 14) (k := 336) (as' := [.int b]) (st := []) t336_14 mf306 rfl rfl (Or.inl ⟨by decide, (zk1 (w7s.k fk_zMm_336))⟩) ⟨by decide, by decide, Nat.le_of_ble_eq_true rfl, Nat.le_of_ble_eq_true rfl⟩ (zs_in (by decide) mf306 (Nat.le_of_ble_eq_true rfl) ?_) (fun _ _ q => q)
    show zGo X l 1 0 0 306 0 [(0, .ref 336), (1, .int b)] [] w7M _
    refine zs_iload_n (pc := 0) t306_0 rfl ?_
    refine zs_i2l (pc := 1) t306_1 rfl ?_
    refine zs_lconst (pc := 2) t306_2 (v := 0) (by decide) ?_
    refine zs_aload_n (pc := 3) t306_3 rfl ?_
    refine zs_get (pc := 4) t306_4 (by decide) (zk1 (w7s.k fk_zMm_336)) (w7s.p rfl fv_zMm_336_0) ?_
    refine zs_iconst (pc := 7) t306_7 (v := 0) (by decide) ?_
    have w11 : (zI M 337 0).toInt = F 0 := x0.at (by decide) (by decide) (by decide)
    refine zs_iald (pc := 8) t306_8 (j := 0) (by decide) (zk1 (w7s.k fk_zMm_337)) li0 (zk2 (w7s.k fk_zMm_337) (by decide)) ((w7F 337 0 rfl).trans rfl) ?_
    refine zs_iconst (pc := 9) t306_9 (v := 1) (by decide) ?_
    obtain ⟨w12v, w12e, w12⟩ := zisub (a := (zI M 337 0)) (b := (1 : Int32)) rfl li1 (by omega) (by omega)
    refine zs_isub (pc := 10) t306_10 (c := w12v) w12e ?_
    refine zs_i2l (pc := 11) t306_11 rfl ?_
    by_cases w13 : 0 ≤ b.toInt ∧ b.toInt ≤ ((zI M 337 0).toInt - 1)
    · refine zs_invS (pc := 12) (as := [.long b.toInt64, .long (0 : Int64), .long w12v.toInt64]) (st := []) t306_12 (by decide) mf228 rfl rfl ⟨by decide, by decide, Nat.le_of_ble_eq_true rfl, Nat.le_of_ble_eq_true rfl⟩ (K228T (zi2l rfl) ll0 (zi2l w12) (by omega) ?_) (fun _ _ q => q)
      show zGo X l 1 0 0 306 15 [(0, .ref 336), (1, .int b)] [.int (1 : Int32)] w7M _
      refine zs_iret (pc := 15) t306_15 mr306 (by decide) ?_
      show zGo X l 7 0 0 336 17 [(0, .ref 336), (1, .int a), (2, .int b)] [.int (1 : Int32)] w7M _
      refine zs_if_eqF (pc := 17) t336_17 li1 (by decide) ?_
      refine zs_aload_n (pc := 20) t336_20 rfl ?_
      refine zs_iload_n (pc := 21) t336_21 rfl ?_
      refine zs_iload_n (pc := 22) t336_22 rfl ?_
      have w14 : (zI w7M 336 22).toInt = (zI w7M 336 22).toInt := (congrArg Int32.toInt rfl).trans rfl
      refine zs_invV (pc := 23) (k := 336) (as' := [.int a, .int b]) (st := []) t336_23 mf337 rfl rfl (Or.inl ⟨by decide, (zk1 (w7s.k fk_zMm_336))⟩) ⟨by decide, by decide, Nat.le_of_ble_eq_true rfl, Nat.le_of_ble_eq_true rfl⟩ (K337 w7s w7I w7PD ⟨by omega, by omega⟩ ⟨by omega, by omega⟩ (by omega) ?_) (fun _ _ q => q)
      intro w15v
      have w15g := zrg w15v
      show zGo X l 7 0 0 336 26 [(0, .ref 336), (1, .int a), (2, .int b)] [.int w15v] w7M _
      refine zs_goto (pc := 26) t336_26 ?_
      exact zs_iret (pc := 32) t336_32 mr336 rfl (hQ _ _ w7s w7I ((zFr.refl).trans (w7F.mono rfl)) (zPR.fr pR (w7F.eq rfl)) (zPC.fr pC (w7F.eq rfl)) w7PF w7kb)
    · refine zs_invS (pc := 12) (as := [.long b.toInt64, .long (0 : Int64), .long w12v.toInt64]) (st := []) t306_12 (by decide) mf228 rfl rfl ⟨by decide, by decide, Nat.le_of_ble_eq_true rfl, Nat.le_of_ble_eq_true rfl⟩ (K228F (zi2l rfl) ll0 (zi2l w12) (by omega) ?_) (fun _ _ q => q)
      show zGo X l 1 0 0 306 15 [(0, .ref 336), (1, .int b)] [.int (0 : Int32)] w7M _
      refine zs_iret (pc := 15) t306_15 mr306 (by decide) ?_
      show zGo X l 7 0 0 336 17 [(0, .ref 336), (1, .int a), (2, .int b)] [.int (0 : Int32)] w7M _
      refine zs_if_eqT (pc := 17) t336_17 li0 (by decide) ?_
      refine zs_ldc_w (pc := 29) t336_29 (v := -100000) rfl (by decide) ?_
      have w16 : (-100000 : Int32).toInt = (-100000) := lin100000
      exact zs_iret (pc := 32) t336_32 mr336 (by decide) (hQ _ _ w7s w7I ((zFr.refl).trans (w7F.mono rfl)) (zPR.fr pR (w7F.eq rfl)) (zPC.fr pC (w7F.eq rfl)) w7PF w7kb)
  · refine zs_invS (pc := 10) (as := [.long a.toInt64, .long (0 : Int64), .long w9v.toInt64]) (st := []) t297_10 (by decide) mf228 rfl rfl ⟨by decide, by decide, Nat.le_of_ble_eq_true rfl, Nat.le_of_ble_eq_true rfl⟩ (K228F (zi2l rfl) ll0 (zi2l w9) (by omega) ?_) (fun _ _ q => q)
    show zGo X l 1 0 0 297 13 [(0, .ref 336), (1, .int a)] [.int (0 : Int32)] w7M _
    refine zs_iret (pc := 13) t297_13 mr297 (by decide) ?_
    show zGo X l 7 0 0 336 9 [(0, .ref 336), (1, .int a), (2, .int b)] [.int (0 : Int32)] w7M _
    refine zs_if_eqT (pc := 9) t336_9 li0 (by decide) ?_
    refine zs_ldc_w (pc := 29) t336_29 (v := -100000) rfl (by decide) ?_
    have w17 : (-100000 : Int32).toInt = (-100000) := lin100000
    exact zs_iret (pc := 32) t336_32 mr336 (by decide) (hQ _ _ w7s w7I ((zFr.refl).trans (w7F.mono rfl)) (zPR.fr pR (w7F.eq rfl)) (zPC.fr pC (w7F.eq rfl)) w7PF w7kb)
theorem Q338 {X : zX} {l : Launch} {M : zM} {Q : Option Value → zM → Prop} {a : Int32} (hs : zSk zMm M) (hI : zIv mLo mHi M) {F : Nat → Int} (pR : zPR M) (pC : zPC M) (pF : zPF M) (x0 : zRw M 0 F) (x1 : zWF F) (x2 : zKnB M F) (hQ : ∀ (M' : zM) (v : Int32), zSk zMm M' → zIv mLo mHi M' → zFr [(336, 336, some 3), (336, 336, some 18), (336, 336, some 19), (336, 336, some 20), (336, 336, some 21), (336, 336, some 22), (336, 336, some 37), (336, 336, some 39), (336, 336, some 42), (336, 336, some 43), (336, 336, some 44), (336, 336, some 45), (342, 361, none)] M M' → zPR M' → zPC M' → zPF M' → (zKnB M' F) → Q (some (.int v)) M') : zCall X l 7 0 0 338 [.ref 336, .int a] M Q := by
  have ga := zrg a
  refine zs_in (by decide) mf338 (Nat.le_of_ble_eq_true rfl) ?_
  show zGo X l 7 0 0 338 0 [(0, .ref 336), (1, .int a)] [] M _
  have f1 := x1.1
  have f3 := x1.2.2.2
  have w1 := ibA0 hI
  have w2 : (zI M 337 0).toInt = (zI M 337 0).toInt := (congrArg Int32.toInt rfl).trans rfl
  have e0 : (zI M 337 0).toInt = F 0 := x0.at (by decide) (by decide) (by decide)
  have w3 := ibA1 hI
  have w4 : (zI M 337 1).toInt = (zI M 337 1).toInt := (congrArg Int32.toInt rfl).trans rfl
  have e1 : (zI M 337 1).toInt = F 1 := x0.at (by decide) (by decide) (by decide)
  have w5 := ibA2 hI
  have w6 : (zI M 337 2).toInt = (zI M 337 2).toInt := (congrArg Int32.toInt rfl).trans rfl
  have e2 : (zI M 337 2).toInt = F 2 := x0.at (by decide) (by decide) (by decide)
  refine zs_aload_n (pc := 0) t338_0 rfl ?_
  refine zs_invV (pc := 1) (k := 336) (as' := []) (st := []) t338_1 mf268 rfl rfl (Or.inl ⟨by decide, (zk1 (hs.k fk_zMm_336))⟩) ⟨by decide, by decide, Nat.le_of_ble_eq_true rfl, Nat.le_of_ble_eq_true rfl⟩ (U268 hs hI pR pF x0 x1 x2 ?_) (fun _ _ q => q)
  intro w7M w7s w7I w7F w7PF w7PD w7PV w7x0 w7x1
  show zGo X l 7 0 0 338 4 [(0, .ref 336), (1, .int a)] [] w7M _
  have w7kb : zKnB w7M F := fun _ => w7x0
  refine zs_aload_n (pc := 4) t338_4 rfl ?_
  refine zs_iload_n (pc := 5) t338_5 rfl ?_
  refine zs_invV (pc := 6) (k := 336) (as' := [.int a]) (st := []) t338_6 mf297 rfl rfl (Or.inl ⟨by decide, (zk1 (w7s.k fk_zMm_336))⟩) ⟨by decide, by decide, Nat.le_of_ble_eq_true rfl, Nat.le_of_ble_eq_true rfl⟩ (zs_in (by decide) mf297 (Nat.le_of_ble_eq_true rfl) ?_) (fun _ _ q => q)
  show zGo X l 1 0 0 297 0 [(0, .ref 336), (1, .int a)] [] w7M _
  refine zs_iload_n (pc := 0) t297_0 rfl ?_
  refine zs_i2l (pc := 1) t297_1 rfl ?_
  refine zs_lconst (pc := 2) t297_2 (v := 0) (by decide) ?_
  refine zs_aload_n (pc := 3) t297_3 rfl ?_
  have w8 := ib336_22 w7I
  refine zs_get (pc := 4) t297_4 (by decide) (zk1 (w7s.k fk_zMm_336)) (zfvi rfl rfl) ?_
  refine zs_iconst (pc := 7) t297_7 (v := 1) (by decide) ?_
  obtain ⟨w9v, w9e, w9⟩ := zisub (a := (zI w7M 336 22)) (b := (1 : Int32)) rfl li1 (by omega) (by omega)
  refine zs_isub (pc := 8) t297_8 (c := w9v) w9e ?_
  refine zs_i2l (pc := 9) t297_9 rfl ?_
  by_cases w10 : 0 ≤ a.toInt ∧ a.toInt ≤ ((zI w7M 336 22).toInt - 1)
  · refine zs_invS (pc := 10) (as := [.long a.toInt64, .long (0 : Int64), .long w9v.toInt64]) (st := []) t297_10 (by decide) mf228 rfl rfl ⟨by decide, by decide, Nat.le_of_ble_eq_true rfl, Nat.le_of_ble_eq_true rfl⟩ (K228T (zi2l rfl) ll0 (zi2l w9) (by omega) ?_) (fun _ _ q => q)
    show zGo X l 1 0 0 297 13 [(0, .ref 336), (1, .int a)] [.int (1 : Int32)] w7M _
    refine zs_iret (pc := 13) t297_13 mr297 (by decide) ?_
    show zGo X l 7 0 0 338 9 [(0, .ref 336), (1, .int a)] [.int (1 : Int32)] w7M _
    refine zs_if_neT (pc := 9) t338_9 li1 (by decide) ?_
    refine zs_iconst (pc := 14) t338_14 (v := 0) (by decide) ?_
    refine zs_istore_n (pc := 15) t338_15 (ls' := [(2, .int (0 : Int32)), (0, .ref 336), (1, .int a)]) (zml mf338 (by decide)) rfl ?_
    refine zs_iconst (pc := 16) t338_16 (v := 0) (by decide) ?_
    refine zs_istore_n (pc := 17) t338_17 (ls' := [(3, .int (0 : Int32)), (2, .int (0 : Int32)), (0, .ref 336), (1, .int a)]) (zml mf338 (by decide)) rfl ?_
    have w11L : ∀ (m : Nat) (w11x2 : Int32) (w11x3 : Int32), (0 ≤ w11x3.toInt ∧ w11x3.toInt ≤ 8) → 8 - w11x3.toInt ≤ (m : Int) → zGo X l 7 0 0 338 18 [(0, .ref 336), (1, .int a), (2, .int w11x2), (3, .int w11x3)] [] w7M Q := by
      intro m
      induction m using Nat.strongRecOn with
      | ind w11m w11ih =>
        intro w11x2 w11x3 w11b3 w11q
        have w11g2 := zrg w11x2
        refine zs_iload_n (pc := 18) t338_18 rfl ?_
        refine zs_aload_n (pc := 19) t338_19 rfl ?_
        refine zs_get (pc := 20) t338_20 (by decide) (zk1 (w7s.k fk_zMm_336)) (w7s.p rfl fv_zMm_336_0) ?_
        refine zs_iconst (pc := 23) t338_23 (v := 0) (by decide) ?_
        have w12 : (zI M 337 0).toInt = F 0 := x0.at (by decide) (by decide) (by decide)
        refine zs_iald (pc := 24) t338_24 (j := 0) (by decide) (zk1 (w7s.k fk_zMm_337)) li0 (zk2 (w7s.k fk_zMm_337) (by decide)) ((w7F 337 0 rfl).trans rfl) ?_
        by_cases w13 : (zI M 337 0).toInt ≤ w11x3.toInt
        · refine zs_icmp_geT (pc := 25) t338_25 rfl rfl (by omega) ?_
          refine zs_iload_n (pc := 68) t338_68 rfl ?_
          exact zs_iret (pc := 69) t338_69 mr338 rfl (hQ _ _ w7s w7I ((zFr.refl).trans (w7F.mono rfl)) (zPR.fr pR (w7F.eq rfl)) (zPC.fr pC (w7F.eq rfl)) w7PF w7kb)
        · refine zs_icmp_geF (pc := 25) t338_25 rfl rfl (by omega) ?_
          refine zs_iload_n (pc := 28) t338_28 rfl ?_
          refine zs_aload_n (pc := 29) t338_29 rfl ?_
          refine zs_iload_n (pc := 30) t338_30 rfl ?_
          refine zs_invV (pc := 31) (k := 336) (as' := [.int w11x3]) (st := [.int w11x2]) t338_31 mf273 rfl rfl (Or.inl ⟨by decide, (zk1 (w7s.k fk_zMm_336))⟩) ⟨by decide, by decide, Nat.le_of_ble_eq_true rfl, Nat.le_of_ble_eq_true rfl⟩ (zs_in (by decide) mf273 (Nat.le_of_ble_eq_true rfl) ?_) (fun _ _ q => q)
          show zGo X l 0 0 0 273 0 [(0, .ref 336), (1, .int w11x3)] [] w7M _
          refine zs_aload_n (pc := 0) t273_0 rfl ?_
          refine zs_get (pc := 1) t273_1 (by decide) (zk1 (w7s.k fk_zMm_336)) (w7s.p rfl fv_zMm_336_0) ?_
          refine zs_bipush (pc := 4) t273_4 (v := 14) (by decide) ?_
          refine zs_iconst (pc := 6) t273_6 (v := 2) (by decide) ?_
          refine zs_iload_n (pc := 7) t273_7 rfl ?_
          obtain ⟨w14v, w14⟩ : ∃ v, (2 : Int32) * w11x3 = v := ⟨_, rfl⟩
          have w14g : w14v.toInt = 2 * w11x3.toInt := by rw [← w14]; exact zmulc li2 rfl (by omega) (by omega)
          refine zs_imul (pc := 8) t273_8 (c := w14v) w14 ?_
          obtain ⟨w15v, w15e, w15⟩ := ziadd (a := (14 : Int32)) (b := w14v) li14 w14g (by omega) (by omega)
          refine zs_iadd (pc := 9) t273_9 (c := w15v) w15e ?_
          refine zs_iconst (pc := 10) t273_10 (v := 1) (by decide) ?_
          obtain ⟨w16v, w16e, w16⟩ := ziadd (a := w15v) (b := (1 : Int32)) w15 li1 (by omega) (by omega)
          refine zs_iadd (pc := 11) t273_11 (c := w16v) w16e ?_
          obtain ⟨w17n, w17⟩ : ∃ n : Nat, w11x3.toInt = (n : Int) := ⟨(w11x3.toInt).toNat, by omega⟩
          have w18 := zrg (zI M 337 (15 + 2 * w17n))
          have w19 : (zI M 337 (15 + 2 * w17n)).toInt = F (15 + 2 * w17n) := x0.at (by omega) (by omega) (by omega)
          have w20 := x1.2.1 w17n (by omega)
          refine zs_iald (pc := 12) t273_12 (j := (15 + 2 * w17n)) (by decide) (zk1 (w7s.k fk_zMm_337)) (show w16v.toInt = (((15 + 2 * w17n) : Nat) : Int) by omega) (zk2 (w7s.k fk_zMm_337) (by omega)) ((w7F 337 (15 + 2 * w17n) rfl).trans rfl) ?_
          refine zs_iconst (pc := 13) t273_13 (v := 1) (by decide) ?_
          by_cases w21 : (zI M 337 (15 + 2 * w17n)).toInt ≠ 1
          · refine zs_icmp_neT (pc := 14) t273_14 rfl li1 (by omega) ?_
            refine zs_iconst (pc := 21) t273_21 (v := 0) (by decide) ?_
            refine zs_iret (pc := 22) t273_22 mr273 (by decide) ?_
            show zGo X l 7 0 0 338 34 [(0, .ref 336), (1, .int a), (2, .int w11x2), (3, .int w11x3)] [.int (0 : Int32), .int w11x2] w7M _
            refine zs_if_eqT (pc := 34) t338_34 li0 (by decide) ?_
            refine zs_iconst (pc := 59) t338_59 (v := 0) (by decide) ?_
            obtain ⟨w22v, w22⟩ : ∃ v, w11x2 ||| (0 : Int32) = v := ⟨_, rfl⟩
            have w22g := zrg w22v
            refine zs_ior (pc := 60) t338_60 (c := w22v) w22 ?_
            refine zs_istore_n (pc := 61) t338_61 (ls' := [(2, .int w22v), (0, .ref 336), (1, .int a), (3, .int w11x3)]) (zml mf338 (by decide)) rfl ?_
            obtain ⟨w23v, w23e, w23⟩ := ziadd (a := w11x3) (b := Int32.ofInt 1) rfl (show (Int32.ofInt 1).toInt = 1 by decide) (by omega) (by omega)
            refine zs_iinc (pc := 62) t338_62 (ls' := [(3, .int w23v), (2, .int w22v), (0, .ref 336), (1, .int a)]) (zml mf338 (by decide)) rfl (c := w23v) w23e rfl ?_
            refine zs_goto (pc := 65) t338_65 ?_
            refine zGo.locals (ls' := [(0, .ref 336), (1, .int a), (2, .int w22v), (3, .int w23v)]) (by simp) ?_
            have w24 := w23
            exact w11ih (w11m - 1) (by omega) w22v w23v ⟨by omega, by omega⟩ (by omega)
          · refine zs_icmp_neF (pc := 14) t273_14 rfl li1 (by omega) ?_
            refine zs_iconst (pc := 17) t273_17 (v := 1) (by decide) ?_
            refine zs_goto (pc := 18) t273_18 ?_
            refine zs_iret (pc := 22) t273_22 mr273 (by decide) ?_
            show zGo X l 7 0 0 338 34 [(0, .ref 336), (1, .int a), (2, .int w11x2), (3, .int w11x3)] [.int (1 : Int32), .int w11x2] w7M _
            refine zs_if_eqF (pc := 34) t338_34 li1 (by decide) ?_
            refine zs_aload_n (pc := 37) t338_37 rfl ?_
            refine zs_get (pc := 38) t338_38 (by decide) (zk1 (w7s.k fk_zMm_336)) (w7s.p rfl fv_zMm_336_27) ?_
            refine zs_bipush (pc := 41) t338_41 (v := 8) (by decide) ?_
            refine zs_iload_n (pc := 43) t338_43 rfl ?_
            obtain ⟨w25v, w25⟩ : ∃ v, (8 : Int32) * a = v := ⟨_, rfl⟩
            have w25g : w25v.toInt = 8 * a.toInt := by rw [← w25]; exact zmulc li8 rfl (by omega) (by omega)
            refine zs_imul (pc := 44) t338_44 (c := w25v) w25 ?_
            refine zs_iload_n (pc := 45) t338_45 rfl ?_
            obtain ⟨w26v, w26e, w26⟩ := ziadd (a := w25v) (b := w11x3) w25g rfl (by omega) (by omega)
            refine zs_iadd (pc := 46) t338_46 (c := w26v) w26e ?_
            obtain ⟨w27n, w27⟩ : ∃ n : Nat, a.toInt = (n : Int) := ⟨(a.toInt).toNat, by omega⟩
            have w28 := ib349 w7I (8 * w27n + w17n)
            refine zs_iald (pc := 47) t338_47 (j := (8 * w27n + w17n)) (by decide) (zk1 (w7s.k fk_zMm_349)) (show w26v.toInt = (((8 * w27n + w17n) : Nat) : Int) by omega) (zk2 (w7s.k fk_zMm_349) (by omega)) rfl ?_
            refine zs_bipush (pc := 48) t338_48 (v := -2) (by decide) ?_
            by_cases w29 : (zI w7M 349 (8 * w27n + w17n)).toInt ≠ (-2)
            · refine zs_icmp_neT (pc := 50) t338_50 rfl lin2 (by omega) ?_
              refine zs_iconst (pc := 59) t338_59 (v := 0) (by decide) ?_
              obtain ⟨w30v, w30⟩ : ∃ v, w11x2 ||| (0 : Int32) = v := ⟨_, rfl⟩
              have w30g := zrg w30v
              refine zs_ior (pc := 60) t338_60 (c := w30v) w30 ?_
              refine zs_istore_n (pc := 61) t338_61 (ls' := [(2, .int w30v), (0, .ref 336), (1, .int a), (3, .int w11x3)]) (zml mf338 (by decide)) rfl ?_
              obtain ⟨w31v, w31e, w31⟩ := ziadd (a := w11x3) (b := Int32.ofInt 1) rfl (show (Int32.ofInt 1).toInt = 1 by decide) (by omega) (by omega)
              refine zs_iinc (pc := 62) t338_62 (ls' := [(3, .int w31v), (2, .int w30v), (0, .ref 336), (1, .int a)]) (zml mf338 (by decide)) rfl (c := w31v) w31e rfl ?_
              refine zs_goto (pc := 65) t338_65 ?_
              refine zGo.locals (ls' := [(0, .ref 336), (1, .int a), (2, .int w30v), (3, .int w31v)]) (by simp) ?_
              have w32 := w31
              exact w11ih (w11m - 1) (by omega) w30v w31v ⟨by omega, by omega⟩ (by omega)
            · refine zs_icmp_neF (pc := 50) t338_50 rfl lin2 (by omega) ?_
              refine zs_iconst (pc := 53) t338_53 (v := 1) (by decide) ?_
              refine zs_iload_n (pc := 54) t338_54 rfl ?_
              obtain ⟨w33v, w33⟩ : ∃ v, (1 : Int32) <<< (w11x3 &&& 31) = v := ⟨_, rfl⟩
              have w33g := zrg w33v
              refine zs_ishl (pc := 55) t338_55 (c := w33v) w33 ?_
              refine zs_goto (pc := 56) t338_56 ?_
              obtain ⟨w34v, w34⟩ : ∃ v, w11x2 ||| w33v = v := ⟨_, rfl⟩
              have w34g := zrg w34v
              refine zs_ior (pc := 60) t338_60 (c := w34v) w34 ?_
              refine zs_istore_n (pc := 61) t338_61 (ls' := [(2, .int w34v), (0, .ref 336), (1, .int a), (3, .int w11x3)]) (zml mf338 (by decide)) rfl ?_
              obtain ⟨w35v, w35e, w35⟩ := ziadd (a := w11x3) (b := Int32.ofInt 1) rfl (show (Int32.ofInt 1).toInt = 1 by decide) (by omega) (by omega)
              refine zs_iinc (pc := 62) t338_62 (ls' := [(3, .int w35v), (2, .int w34v), (0, .ref 336), (1, .int a)]) (zml mf338 (by decide)) rfl (c := w35v) w35e rfl ?_
              refine zs_goto (pc := 65) t338_65 ?_
              refine zGo.locals (ls' := [(0, .ref 336), (1, .int a), (2, .int w34v), (3, .int w35v)]) (by simp) ?_
              have w36 := w35
              exact w11ih (w11m - 1) (by omega) w34v w35v ⟨by omega, by omega⟩ (by omega)
    refine zGo.locals (ls' := [(0, .ref 336), (1, .int a), (2, .int (0 : Int32)), (3, .int (0 : Int32))]) (by simp) ?_
    have w37 := li0
    have w38 := li0
    exact w11L ((8 - 0 : Int).toNat) (0 : Int32) (0 : Int32) ⟨by decide, by decide⟩ (by omega)
  · refine zs_invS (pc := 10) (as := [.long a.toInt64, .long (0 : Int64), .long w9v.toInt64]) (st := []) t297_10 (by decide) mf228 rfl rfl ⟨by decide, by decide, Nat.le_of_ble_eq_true rfl, Nat.le_of_ble_eq_true rfl⟩ (K228F (zi2l rfl) ll0 (zi2l w9) (by omega) ?_) (fun _ _ q => q)
    show zGo X l 1 0 0 297 13 [(0, .ref 336), (1, .int a)] [.int (0 : Int32)] w7M _
    refine zs_iret (pc := 13) t297_13 mr297 (by decide) ?_
    show zGo X l 7 0 0 338 9 [(0, .ref 336), (1, .int a)] [.int (0 : Int32)] w7M _
    refine zs_if_neF (pc := 9) t338_9 li0 (by decide) ?_
    refine zs_iconst (pc := 12) t338_12 (v := -1) (by decide) ?_
    have w39 : (-1 : Int32).toInt = (-1) := lin1
    exact zs_iret (pc := 13) t338_13 mr338 (by decide) (hQ _ _ w7s w7I ((zFr.refl).trans (w7F.mono rfl)) (zPR.fr pR (w7F.eq rfl)) (zPC.fr pC (w7F.eq rfl)) w7PF w7kb)
set_option maxHeartbeats 8000000 in
theorem Q339 {X : zX} {l : Launch} {M : zM} {Q : Option Value → zM → Prop} {a b : Int32} (hs : zSk zMm M) (hI : zIv mLo mHi M) {F : Nat → Int} (pR : zPR M) (pC : zPC M) (pF : zPF M) (x0 : zRw M 0 F) (x1 : zWF F) (x2 : zKnB M F) (hQ : ∀ (M' : zM) (v : Int32), zSk zMm M' → zIv mLo mHi M' → zFr [(336, 336, some 3), (336, 336, some 18), (336, 336, some 19), (336, 336, some 20), (336, 336, some 21), (336, 336, some 22), (336, 336, some 37), (336, 336, some 39), (336, 336, some 42), (336, 336, some 43), (336, 336, some 44), (336, 336, some 45), (342, 361, none)] M M' → zPR M' → zPC M' → zPF M' → (zKnB M' F) → Q (some (.int v)) M') : zCall X l 7 0 0 339 [.ref 336, .int a, .int b] M Q := by
  have ga := zrg a
  have gb := zrg b
  refine zs_in (by decide) mf339 (Nat.le_of_ble_eq_true rfl) ?_
  show zGo X l 7 0 0 339 0 [(0, .ref 336), (1, .int a), (2, .int b)] [] M _
  have f1 := x1.1
  have f3 := x1.2.2.2
  have w1 := ibA0 hI
  have w2 : (zI M 337 0).toInt = (zI M 337 0).toInt := (congrArg Int32.toInt rfl).trans rfl
  have e0 : (zI M 337 0).toInt = F 0 := x0.at (by decide) (by decide) (by decide)
  have w3 := ibA1 hI
  have w4 : (zI M 337 1).toInt = (zI M 337 1).toInt := (congrArg Int32.toInt rfl).trans rfl
  have e1 : (zI M 337 1).toInt = F 1 := x0.at (by decide) (by decide) (by decide)
  have w5 := ibA2 hI
  have w6 : (zI M 337 2).toInt = (zI M 337 2).toInt := (congrArg Int32.toInt rfl).trans rfl
  have e2 : (zI M 337 2).toInt = F 2 := x0.at (by decide) (by decide) (by decide)
  refine zs_aload_n (pc := 0) t339_0 rfl ?_
  refine zs_invV (pc := 1) (k := 336) (as' := []) (st := []) t339_1 mf268 rfl rfl (Or.inl ⟨by decide, (zk1 (hs.k fk_zMm_336))⟩) ⟨by decide, by decide, Nat.le_of_ble_eq_true rfl, Nat.le_of_ble_eq_true rfl⟩ (U268 hs hI pR pF x0 x1 x2 ?_) (fun _ _ q => q)
  intro w7M w7s w7I w7F w7PF w7PD w7PV w7x0 w7x1
  show zGo X l 7 0 0 339 4 [(0, .ref 336), (1, .int a), (2, .int b)] [] w7M _
  have w7kb : zKnB w7M F := fun _ => w7x0
  refine zs_aload_n (pc := 4) t339_4 rfl ?_
  refine zs_iload_n (pc := 5) t339_5 rfl ?_
  refine zs_invV (pc := 6) (k := 336) (as' := [.int a]) (st := []) t339_6 mf297 rfl rfl (Or.inl ⟨by decide, (zk1 (w7s.k fk_zMm_336))⟩) ⟨by decide, by decide, Nat.le_of_ble_eq_true rfl, Nat.le_of_ble_eq_true rfl⟩ (zs_in (by decide) mf297 (Nat.le_of_ble_eq_true rfl) ?_) (fun _ _ q => q)
  show zGo X l 1 0 0 297 0 [(0, .ref 336), (1, .int a)] [] w7M _
  refine zs_iload_n (pc := 0) t297_0 rfl ?_
  refine zs_i2l (pc := 1) t297_1 rfl ?_
  refine zs_lconst (pc := 2) t297_2 (v := 0) (by decide) ?_
  refine zs_aload_n (pc := 3) t297_3 rfl ?_
  have w8 := ib336_22 w7I
  refine zs_get (pc := 4) t297_4 (by decide) (zk1 (w7s.k fk_zMm_336)) (zfvi rfl rfl) ?_
  refine zs_iconst (pc := 7) t297_7 (v := 1) (by decide) ?_
  obtain ⟨w9v, w9e, w9⟩ := zisub (a := (zI w7M 336 22)) (b := (1 : Int32)) rfl li1 (by omega) (by omega)
  refine zs_isub (pc := 8) t297_8 (c := w9v) w9e ?_
  refine zs_i2l (pc := 9) t297_9 rfl ?_
  by_cases w10 : 0 ≤ a.toInt ∧ a.toInt ≤ ((zI w7M 336 22).toInt - 1)
  · refine zs_invS (pc := 10) (as := [.long a.toInt64, .long (0 : Int64), .long w9v.toInt64]) (st := []) t297_10 (by decide) mf228 rfl rfl ⟨by decide, by decide, Nat.le_of_ble_eq_true rfl, Nat.le_of_ble_eq_true rfl⟩ (K228T (zi2l rfl) ll0 (zi2l w9) (by omega) ?_) (fun _ _ q => q)
    show zGo X l 1 0 0 297 13 [(0, .ref 336), (1, .int a)] [.int (1 : Int32)] w7M _
    refine zs_iret (pc := 13) t297_13 mr297 (by decide) ?_
    show zGo X l 7 0 0 339 9 [(0, .ref 336), (1, .int a), (2, .int b)] [.int (1 : Int32)] w7M _
    refine zs_if_eqF (pc := 9) t339_9 li1 (by decide) ?_
    refine zs_aload_n (pc := 12) t339_12 rfl ?_
    refine zs_iload_n (pc := 13) t339_13 rfl ?_
    refine zs_invV (pc := 14) (k := 336) (as' := [.int b]) (st := []) t339_14 mf306 rfl rfl (Or.inl ⟨by decide, (zk1 (w7s.k fk_zMm_336))⟩) ⟨by decide, by decide, Nat.le_of_ble_eq_true rfl, Nat.le_of_ble_eq_true rfl⟩ (zs_in (by decide) mf306 (Nat.le_of_ble_eq_true rfl) ?_) (fun _ _ q => q)
    show zGo X l 1 0 0 306 0 [(0, .ref 336), (1, .int b)] [] w7M _
    refine zs_iload_n (pc := 0) t306_0 rfl ?_
    refine zs_i2l (pc := 1) t306_1 rfl ?_
    refine zs_lconst (pc := 2) t306_2 (v := 0) (by decide) ?_
    refine zs_aload_n (pc := 3) t306_3 rfl ?_
    refine zs_get (pc := 4) t306_4 (by decide) (zk1 (w7s.k fk_zMm_336)) (w7s.p rfl fv_zMm_336_0) ?_
    refine zs_iconst (pc := 7) t306_7 (v := 0) (by decide) ?_
    have w11 : (zI M 337 0).toInt = F 0 := x0.at (by decide) (by decide) (by decide)
    refine zs_iald (pc := 8) t306_8 (j := 0) (by decide) (zk1 (w7s.k fk_zMm_337)) li0 (zk2 (w7s.k fk_zMm_337) (by decide)) ((w7F 337 0 rfl).trans rfl) ?_
    refine zs_iconst (pc := 9) t306_9 (v := 1) (by decide) ?_
    obtain ⟨w12v, w12e, w12⟩ := zisub (a := (zI M 337 0)) (b := (1 : Int32)) rfl li1 (by omega) (by omega)
    refine zs_isub (pc := 10) t306_10 (c := w12v) w12e ?_
    refine zs_i2l (pc := 11) t306_11 rfl ?_
    by_cases w13 : 0 ≤ b.toInt ∧ b.toInt ≤ ((zI M 337 0).toInt - 1)
    · refine zs_invS (pc := 12) (as := [.long b.toInt64, .long (0 : Int64), .long w12v.toInt64]) (st := []) t306_12 (by decide) mf228 rfl rfl ⟨by decide, by decide, Nat.le_of_ble_eq_true rfl, Nat.le_of_ble_eq_true rfl⟩ (K228T (zi2l rfl) ll0 (zi2l w12) (by omega) ?_) (fun _ _ q => q)
      show zGo X l 1 0 0 306 15 [(0, .ref 336), (1, .int b)] [.int (1 : Int32)] w7M _
      refine zs_iret (pc := 15) t306_15 mr306 (by decide) ?_
      show zGo X l 7 0 0 339 17 [(0, .ref 336), (1, .int a), (2, .int b)] [.int (1 : Int32)] w7M _
      refine zs_if_neT (pc := 17) t339_17 li1 (by decide) ?_
      refine zs_bipush (pc := 22) t339_22 (v := -2) (by decide) ?_
      refine zs_istore_n (pc := 24) t339_24 (ls' := [(3, .int (-2 : Int32)), (0, .ref 336), (1, .int a), (2, .int b)]) (zml mf339 (by decide)) rfl ?_
      refine zs_iconst (pc := 25) t339_25 (v := 0) (by decide) ?_
      refine zs_istore (pc := 26) t339_26 (ls' := [(4, .int (0 : Int32)), (3, .int (-2 : Int32)), (0, .ref 336), (1, .int a), (2, .int b)]) (zml mf339 (by decide)) rfl ?_
      refine zs_iconst (pc := 28) t339_28 (v := 0) (by decide) ?_
      refine zs_istore (pc := 29) t339_29 (ls' := [(5, .int (0 : Int32)), (4, .int (0 : Int32)), (3, .int (-2 : Int32)), (0, .ref 336), (1, .int a), (2, .int b)]) (zml mf339 (by decide)) rfl ?_
      have w14L : ∀ (m : Nat) (w14x3 : Int32) (w14x4 : Int32) (w14x5 : Int32), (0 ≤ w14x5.toInt ∧ w14x5.toInt ≤ 60) → 60 - w14x5.toInt ≤ (m : Int) → zGo X l 7 0 0 339 31 [(0, .ref 336), (1, .int a), (2, .int b), (3, .int w14x3), (4, .int w14x4), (5, .int w14x5)] [] w7M Q := by
        intro m
        induction m using Nat.strongRecOn with
        | ind w14m w14ih =>
          intro w14x3 w14x4 w14x5 w14b5 w14q
          have w14g3 := zrg w14x3
          have w14g4 := zrg w14x4
          refine zs_iload (pc := 31) t339_31 rfl ?_
          refine zs_aload_n (pc := 33) t339_33 rfl ?_
          refine zs_get (pc := 34) t339_34 (by decide) (zk1 (w7s.k fk_zMm_336)) (w7s.p rfl fv_zMm_336_0) ?_
          refine zs_iconst (pc := 37) t339_37 (v := 1) (by decide) ?_
          have w15 : (zI M 337 1).toInt = F 1 := x0.at (by decide) (by decide) (by decide)
          refine zs_iald (pc := 38) t339_38 (j := 1) (by decide) (zk1 (w7s.k fk_zMm_337)) li1 (zk2 (w7s.k fk_zMm_337) (by decide)) ((w7F 337 1 rfl).trans rfl) ?_
          by_cases w16 : (zI M 337 1).toInt ≤ w14x5.toInt
          · refine zs_icmp_geT (pc := 39) t339_39 rfl rfl (by omega) ?_
            refine zs_iload_n (pc := 126) t339_126 rfl ?_
            exact zs_iret (pc := 127) t339_127 mr339 rfl (hQ _ _ w7s w7I ((zFr.refl).trans (w7F.mono rfl)) (zPR.fr pR (w7F.eq rfl)) (zPC.fr pC (w7F.eq rfl)) w7PF w7kb)
          · refine zs_icmp_geF (pc := 39) t339_39 rfl rfl (by omega) ?_
            refine zs_aload_n (pc := 42) t339_42 rfl ?_
            refine zs_iload (pc := 43) t339_43 rfl ?_
            refine zs_iconst (pc := 45) t339_45 (v := 0) (by decide) ?_
            refine zs_invV (pc := 46) (k := 336) (as' := [.int w14x5, .int (0 : Int32)]) (st := []) t339_46 mf272 rfl rfl (Or.inl ⟨by decide, (zk1 (w7s.k fk_zMm_336))⟩) ⟨by decide, by decide, Nat.le_of_ble_eq_true rfl, Nat.le_of_ble_eq_true rfl⟩ (zs_in (by decide) mf272 (Nat.le_of_ble_eq_true rfl) ?_) (fun _ _ q => q)
            show zGo X l 0 0 0 272 0 [(0, .ref 336), (1, .int w14x5), (2, .int (0 : Int32))] [] w7M _
            refine zs_aload_n (pc := 0) t272_0 rfl ?_
            refine zs_get (pc := 1) t272_1 (by decide) (zk1 (w7s.k fk_zMm_336)) (w7s.p rfl fv_zMm_336_0) ?_
            refine zs_bipush (pc := 4) t272_4 (v := 30) (by decide) ?_
            refine zs_iconst (pc := 6) t272_6 (v := 4) (by decide) ?_
            refine zs_iload_n (pc := 7) t272_7 rfl ?_
            obtain ⟨w17v, w17⟩ : ∃ v, (4 : Int32) * w14x5 = v := ⟨_, rfl⟩
            have w17g : w17v.toInt = 4 * w14x5.toInt := by rw [← w17]; exact zmulc li4 rfl (by omega) (by omega)
            refine zs_imul (pc := 8) t272_8 (c := w17v) w17 ?_
            obtain ⟨w18v, w18e, w18⟩ := ziadd (a := (30 : Int32)) (b := w17v) li30 w17g (by omega) (by omega)
            refine zs_iadd (pc := 9) t272_9 (c := w18v) w18e ?_
            refine zs_iload_n (pc := 10) t272_10 rfl ?_
            obtain ⟨w19v, w19e, w19⟩ := ziadd (a := w18v) (b := (0 : Int32)) w18 li0 (by omega) (by omega)
            refine zs_iadd (pc := 11) t272_11 (c := w19v) w19e ?_
            obtain ⟨w20n, w20⟩ : ∃ n : Nat, w14x5.toInt = (n : Int) := ⟨(w14x5.toInt).toNat, by omega⟩
            have w21 := ibL (j := (30 + 4 * w20n)) hI (by omega) (by omega) (by omega)
            have w22 : (zI M 337 (30 + 4 * w20n)).toInt = F (30 + 4 * w20n) := x0.at (by omega) (by omega) (by omega)
            have w23 := x1.2.2.1 w20n (by omega)
            refine zs_iald (pc := 12) t272_12 (j := (30 + 4 * w20n)) (by decide) (zk1 (w7s.k fk_zMm_337)) (show w19v.toInt = (((30 + 4 * w20n) : Nat) : Int) by omega) (zk2 (w7s.k fk_zMm_337) (by omega)) ((w7F 337 (30 + 4 * w20n) rfl).trans rfl) ?_
            refine zs_iret (pc := 13) t272_13 mr272 rfl ?_
            show zGo X l 7 0 0 339 49 [(0, .ref 336), (1, .int a), (2, .int b), (3, .int w14x3), (4, .int w14x4), (5, .int w14x5)] [.int (zI M 337 (30 + 4 * w20n))] w7M _
            refine zs_iload_n (pc := 49) t339_49 rfl ?_
            by_cases w24 : (zI M 337 (30 + 4 * w20n)).toInt ≠ b.toInt
            · refine zs_icmp_neT (pc := 50) t339_50 rfl rfl (by omega) ?_
              obtain ⟨w25v, w25e, w25⟩ := ziadd (a := w14x5) (b := Int32.ofInt 1) rfl (show (Int32.ofInt 1).toInt = 1 by decide) (by omega) (by omega)
              refine zs_iinc (pc := 120) t339_120 (ls' := [(5, .int w25v), (0, .ref 336), (1, .int a), (2, .int b), (3, .int w14x3), (4, .int w14x4)]) (zml mf339 (by decide)) rfl (c := w25v) w25e rfl ?_
              refine zs_goto (pc := 123) t339_123 ?_
              refine zGo.locals (ls' := [(0, .ref 336), (1, .int a), (2, .int b), (3, .int w14x3), (4, .int w14x4), (5, .int w25v)]) (by simp) ?_
              have w26 := w25
              exact w14ih (w14m - 1) (by omega) w14x3 w14x4 w25v ⟨by omega, by omega⟩ (by omega)
            · refine zs_icmp_neF (pc := 50) t339_50 rfl rfl (by omega) ?_
              refine zs_aload_n (pc := 53) t339_53 rfl ?_
              refine zs_iload (pc := 54) t339_54 rfl ?_
              refine zs_iconst (pc := 56) t339_56 (v := -1) (by decide) ?_
              have w27 : (-1 : Int32).toInt = (-1) := lin1
              have w28 : (zI w7M 337 1).toInt = (zI M 337 1).toInt := (congrArg Int32.toInt ((w7F 337 1 rfl).trans rfl)).trans rfl
              refine zs_invV (pc := 57) (k := 336) (as' := [.int w14x5, .int (-1 : Int32)]) (st := []) t339_57 mf271 rfl rfl (Or.inl ⟨by decide, (zk1 (w7s.k fk_zMm_336))⟩) ⟨by decide, by decide, Nat.le_of_ble_eq_true rfl, Nat.le_of_ble_eq_true rfl⟩ (R271 w7s w7I ⟨by omega, by omega⟩ (by omega) (zRw.fr' x0 (fun j hj => (w7F 337 j rfl))) x1 ?_) (fun _ _ q => q)
              intro w29v w29x0 w29a w29b
              show zGo X l 7 0 0 339 60 [(0, .ref 336), (1, .int a), (2, .int b), (3, .int w14x3), (4, .int w14x4), (5, .int w14x5)] [.int w29v] w7M _
              by_cases w30 : w29v.toInt = 0
              · refine zs_if_eqT (pc := 60) t339_60 rfl (by omega) ?_
                obtain ⟨w31v, w31e, w31⟩ := ziadd (a := w14x5) (b := Int32.ofInt 1) rfl (show (Int32.ofInt 1).toInt = 1 by decide) (by omega) (by omega)
                refine zs_iinc (pc := 120) t339_120 (ls' := [(5, .int w31v), (0, .ref 336), (1, .int a), (2, .int b), (3, .int w14x3), (4, .int w14x4)]) (zml mf339 (by decide)) rfl (c := w31v) w31e rfl ?_
                refine zs_goto (pc := 123) t339_123 ?_
                refine zGo.locals (ls' := [(0, .ref 336), (1, .int a), (2, .int b), (3, .int w14x3), (4, .int w14x4), (5, .int w31v)]) (by simp) ?_
                have w32 := w31
                exact w14ih (w14m - 1) (by omega) w14x3 w14x4 w31v ⟨by omega, by omega⟩ (by omega)
              · refine zs_if_eqF (pc := 60) t339_60 rfl (by omega) ?_
                refine zs_aload_n (pc := 63) t339_63 rfl ?_
                refine zs_get (pc := 64) t339_64 (by decide) (zk1 (w7s.k fk_zMm_336)) (w7s.p rfl fv_zMm_336_28) ?_
                refine zs_iload (pc := 67) t339_67 rfl ?_
                have w33 := zrg (zI w7M 350 w20n)
                refine zs_iald (pc := 69) t339_69 (j := w20n) (by decide) (zk1 (w7s.k fk_zMm_350)) (show w14x5.toInt = ((w20n : Nat) : Int) by omega) (zk2 (w7s.k fk_zMm_350) (by omega)) rfl ?_
                refine zs_bipush (pc := 70) t339_70 (v := -2) (by decide) ?_
                by_cases w34 : (zI w7M 350 w20n).toInt = (-2)
                · refine zs_icmp_eqT (pc := 72) t339_72 rfl lin2 (by omega) ?_
                  refine zs_aload_n (pc := 78) t339_78 rfl ?_
                  refine zs_iload (pc := 79) t339_79 rfl ?_
                  refine zs_iconst (pc := 81) t339_81 (v := 1) (by decide) ?_
                  refine zs_invV (pc := 82) (k := 336) (as' := [.int w14x5, .int (1 : Int32)]) (st := []) t339_82 mf272 rfl rfl (Or.inl ⟨by decide, (zk1 (w7s.k fk_zMm_336))⟩) ⟨by decide, by decide, Nat.le_of_ble_eq_true rfl, Nat.le_of_ble_eq_true rfl⟩ (zs_in (by decide) mf272 (Nat.le_of_ble_eq_true rfl) ?_) (fun _ _ q => q)
                  show zGo X l 0 0 0 272 0 [(0, .ref 336), (1, .int w14x5), (2, .int (1 : Int32))] [] w7M _
                  refine zs_aload_n (pc := 0) t272_0 rfl ?_
                  refine zs_get (pc := 1) t272_1 (by decide) (zk1 (w7s.k fk_zMm_336)) (w7s.p rfl fv_zMm_336_0) ?_
                  refine zs_bipush (pc := 4) t272_4 (v := 30) (by decide) ?_
                  refine zs_iconst (pc := 6) t272_6 (v := 4) (by decide) ?_
                  refine zs_iload_n (pc := 7) t272_7 rfl ?_
                  obtain ⟨w35v, w35⟩ : ∃ v, (4 : Int32) * w14x5 = v := ⟨_, rfl⟩
                  have w35g : w35v.toInt = 4 * w14x5.toInt := by rw [← w35]; exact zmulc li4 rfl (by omega) (by omega)
                  refine zs_imul (pc := 8) t272_8 (c := w35v) w35 ?_
                  obtain ⟨w36v, w36e, w36⟩ := ziadd (a := (30 : Int32)) (b := w35v) li30 w35g (by omega) (by omega)
                  refine zs_iadd (pc := 9) t272_9 (c := w36v) w36e ?_
                  refine zs_iload_n (pc := 10) t272_10 rfl ?_
                  obtain ⟨w37v, w37e, w37⟩ := ziadd (a := w36v) (b := (1 : Int32)) w36 li1 (by omega) (by omega)
                  refine zs_iadd (pc := 11) t272_11 (c := w37v) w37e ?_
                  have w38 := zrg (zI M 337 (31 + 4 * w20n))
                  have w39 : (zI M 337 (31 + 4 * w20n)).toInt = F (31 + 4 * w20n) := x0.at (by omega) (by omega) (by omega)
                  have w40 := x1.2.2.1 w20n (by omega)
                  refine zs_iald (pc := 12) t272_12 (j := (31 + 4 * w20n)) (by decide) (zk1 (w7s.k fk_zMm_337)) (show w37v.toInt = (((31 + 4 * w20n) : Nat) : Int) by omega) (zk2 (w7s.k fk_zMm_337) (by omega)) ((w7F 337 (31 + 4 * w20n) rfl).trans rfl) ?_
                  refine zs_iret (pc := 13) t272_13 mr272 rfl ?_
                  show zGo X l 7 0 0 339 85 [(0, .ref 336), (1, .int a), (2, .int b), (3, .int w14x3), (4, .int w14x4), (5, .int w14x5)] [.int (zI M 337 (31 + 4 * w20n))] w7M _
                  refine zs_aload_n (pc := 85) t339_85 rfl ?_
                  refine zs_iload_n (pc := 86) t339_86 rfl ?_
                  refine zs_iload_n (pc := 87) t339_87 rfl ?_
                  have w41 : (zI w7M 336 22).toInt = (zI w7M 336 22).toInt := (congrArg Int32.toInt rfl).trans rfl
                  refine zs_invV (pc := 88) (k := 336) (as' := [.int a, .int b]) (st := [.int (zI M 337 (31 + 4 * w20n))]) t339_88 mf337 rfl rfl (Or.inl ⟨by decide, (zk1 (w7s.k fk_zMm_336))⟩) ⟨by decide, by decide, Nat.le_of_ble_eq_true rfl, Nat.le_of_ble_eq_true rfl⟩ (K337 w7s w7I w7PD ⟨by omega, by omega⟩ ⟨by omega, by omega⟩ (by omega) ?_) (fun _ _ q => q)
                  intro w42v
                  have w42g := zrg w42v
                  show zGo X l 7 0 0 339 91 [(0, .ref 336), (1, .int a), (2, .int b), (3, .int w14x3), (4, .int w14x4), (5, .int w14x5)] [.int w42v, .int (zI M 337 (31 + 4 * w20n))] w7M _
                  obtain ⟨w43v, w43⟩ : ∃ v, v = (zI M 337 (31 + 4 * w20n)) - w42v := ⟨_, rfl⟩
                  have w43g := zrg w43v
                  refine zs_isub (pc := 91) t339_91 (c := w43v) w43.symm ?_
                  refine zs_invS (pc := 92) (as := [.int w43v]) (st := []) t339_92 (by decide) mf280 rfl rfl ⟨by decide, by decide, Nat.le_of_ble_eq_true rfl, Nat.le_of_ble_eq_true rfl⟩ (zs_in (by decide) mf280 (Nat.le_of_ble_eq_true rfl) ?_) (fun _ _ q => q)
                  show zGo X l 0 0 0 280 0 [(0, .int w43v)] [] w7M _
                  refine zs_iload_n (pc := 0) t280_0 rfl ?_
                  by_cases w44 : 0 ≤ w43v.toInt
                  · refine zs_if_geT (pc := 1) t280_1 rfl (by omega) ?_
                    refine zs_iload_n (pc := 9) t280_9 rfl ?_
                    refine zs_iret (pc := 10) t280_10 mr280 rfl ?_
                    show zGo X l 7 0 0 339 95 [(0, .ref 336), (1, .int a), (2, .int b), (3, .int w14x3), (4, .int w14x4), (5, .int w14x5)] [.int w43v] w7M _
                    refine zs_istore (pc := 95) t339_95 (ls' := [(6, .int w43v), (0, .ref 336), (1, .int a), (2, .int b), (3, .int w14x3), (4, .int w14x4), (5, .int w14x5)]) (zml mf339 (by decide)) rfl ?_
                    refine zs_iload_n (pc := 97) t339_97 rfl ?_
                    refine zs_bipush (pc := 98) t339_98 (v := -2) (by decide) ?_
                    by_cases w45 : w14x3.toInt = (-2)
                    · refine zs_icmp_eqT (pc := 100) t339_100 rfl lin2 (by omega) ?_
                      refine zs_iload (pc := 113) t339_113 rfl ?_
                      refine zs_istore_n (pc := 115) t339_115 (ls' := [(3, .int w14x5), (6, .int w43v), (0, .ref 336), (1, .int a), (2, .int b), (4, .int w14x4), (5, .int w14x5)]) (zml mf339 (by decide)) rfl ?_
                      refine zs_iload (pc := 116) t339_116 rfl ?_
                      refine zs_istore (pc := 118) t339_118 (ls' := [(4, .int w43v), (3, .int w14x5), (6, .int w43v), (0, .ref 336), (1, .int a), (2, .int b), (5, .int w14x5)]) (zml mf339 (by decide)) rfl ?_
                      obtain ⟨w46v, w46e, w46⟩ := ziadd (a := w14x5) (b := Int32.ofInt 1) rfl (show (Int32.ofInt 1).toInt = 1 by decide) (by omega) (by omega)
                      refine zs_iinc (pc := 120) t339_120 (ls' := [(5, .int w46v), (4, .int w43v), (3, .int w14x5), (6, .int w43v), (0, .ref 336), (1, .int a), (2, .int b)]) (zml mf339 (by decide)) rfl (c := w46v) w46e rfl ?_
                      refine zs_goto (pc := 123) t339_123 ?_
                      refine zGo.locals (ls' := [(0, .ref 336), (1, .int a), (2, .int b), (3, .int w14x5), (4, .int w43v), (5, .int w46v)]) (by simp) ?_
                      have w47 := w46
                      exact w14ih (w14m - 1) (by omega) w14x5 w43v w46v ⟨by omega, by omega⟩ (by omega)
                    · refine zs_icmp_eqF (pc := 100) t339_100 rfl lin2 (by omega) ?_
                      refine zs_iload (pc := 103) t339_103 rfl ?_
                      refine zs_iload (pc := 105) t339_105 rfl ?_
                      by_cases w48 : w43v.toInt < w14x4.toInt
                      · refine zs_icmp_ltT (pc := 107) t339_107 rfl rfl (by omega) ?_
                        refine zs_iload (pc := 113) t339_113 rfl ?_
                        refine zs_istore_n (pc := 115) t339_115 (ls' := [(3, .int w14x5), (6, .int w43v), (0, .ref 336), (1, .int a), (2, .int b), (4, .int w14x4), (5, .int w14x5)]) (zml mf339 (by decide)) rfl ?_
                        refine zs_iload (pc := 116) t339_116 rfl ?_
                        refine zs_istore (pc := 118) t339_118 (ls' := [(4, .int w43v), (3, .int w14x5), (6, .int w43v), (0, .ref 336), (1, .int a), (2, .int b), (5, .int w14x5)]) (zml mf339 (by decide)) rfl ?_
                        obtain ⟨w49v, w49e, w49⟩ := ziadd (a := w14x5) (b := Int32.ofInt 1) rfl (show (Int32.ofInt 1).toInt = 1 by decide) (by omega) (by omega)
                        refine zs_iinc (pc := 120) t339_120 (ls' := [(5, .int w49v), (4, .int w43v), (3, .int w14x5), (6, .int w43v), (0, .ref 336), (1, .int a), (2, .int b)]) (zml mf339 (by decide)) rfl (c := w49v) w49e rfl ?_
                        refine zs_goto (pc := 123) t339_123 ?_
                        refine zGo.locals (ls' := [(0, .ref 336), (1, .int a), (2, .int b), (3, .int w14x5), (4, .int w43v), (5, .int w49v)]) (by simp) ?_
                        have w50 := w49
                        exact w14ih (w14m - 1) (by omega) w14x5 w43v w49v ⟨by omega, by omega⟩ (by omega)
                      · refine zs_icmp_ltF (pc := 107) t339_107 rfl rfl (by omega) ?_
                        refine zs_goto (pc := 110) t339_110 ?_
                        obtain ⟨w51v, w51e, w51⟩ := ziadd (a := w14x5) (b := Int32.ofInt 1) rfl (show (Int32.ofInt 1).toInt = 1 by decide) (by omega) (by omega)
                        refine zs_iinc (pc := 120) t339_120 (ls' := [(5, .int w51v), (6, .int w43v), (0, .ref 336), (1, .int a), (2, .int b), (3, .int w14x3), (4, .int w14x4)]) (zml mf339 (by decide)) rfl (c := w51v) w51e rfl ?_
                        refine zs_goto (pc := 123) t339_123 ?_
                        refine zGo.locals (ls' := [(0, .ref 336), (1, .int a), (2, .int b), (3, .int w14x3), (4, .int w14x4), (5, .int w51v)]) (by simp) ?_
                        have w52 := w51
                        exact w14ih (w14m - 1) (by omega) w14x3 w14x4 w51v ⟨by omega, by omega⟩ (by omega)
                  · refine zs_if_geF (pc := 1) t280_1 rfl (by omega) ?_
                    refine zs_iload_n (pc := 4) t280_4 rfl ?_
                    obtain ⟨w53v, w53e⟩ : ∃ v, -w43v = v := ⟨_, rfl⟩
                    have w53 := zrg w53v
                    refine zs_ineg (pc := 5) t280_5 (c := w53v) w53e ?_
                    refine zs_goto (pc := 6) t280_6 ?_
                    refine zs_iret (pc := 10) t280_10 mr280 rfl ?_
                    show zGo X l 7 0 0 339 95 [(0, .ref 336), (1, .int a), (2, .int b), (3, .int w14x3), (4, .int w14x4), (5, .int w14x5)] [.int w53v] w7M _
                    refine zs_istore (pc := 95) t339_95 (ls' := [(6, .int w53v), (0, .ref 336), (1, .int a), (2, .int b), (3, .int w14x3), (4, .int w14x4), (5, .int w14x5)]) (zml mf339 (by decide)) rfl ?_
                    refine zs_iload_n (pc := 97) t339_97 rfl ?_
                    refine zs_bipush (pc := 98) t339_98 (v := -2) (by decide) ?_
                    by_cases w54 : w14x3.toInt = (-2)
                    · refine zs_icmp_eqT (pc := 100) t339_100 rfl lin2 (by omega) ?_
                      refine zs_iload (pc := 113) t339_113 rfl ?_
                      refine zs_istore_n (pc := 115) t339_115 (ls' := [(3, .int w14x5), (6, .int w53v), (0, .ref 336), (1, .int a), (2, .int b), (4, .int w14x4), (5, .int w14x5)]) (zml mf339 (by decide)) rfl ?_
                      refine zs_iload (pc := 116) t339_116 rfl ?_
                      refine zs_istore (pc := 118) t339_118 (ls' := [(4, .int w53v), (3, .int w14x5), (6, .int w53v), (0, .ref 336), (1, .int a), (2, .int b), (5, .int w14x5)]) (zml mf339 (by decide)) rfl ?_
                      obtain ⟨w55v, w55e, w55⟩ := ziadd (a := w14x5) (b := Int32.ofInt 1) rfl (show (Int32.ofInt 1).toInt = 1 by decide) (by omega) (by omega)
                      refine zs_iinc (pc := 120) t339_120 (ls' := [(5, .int w55v), (4, .int w53v), (3, .int w14x5), (6, .int w53v), (0, .ref 336), (1, .int a), (2, .int b)]) (zml mf339 (by decide)) rfl (c := w55v) w55e rfl ?_
                      refine zs_goto (pc := 123) t339_123 ?_
                      refine zGo.locals (ls' := [(0, .ref 336), (1, .int a), (2, .int b), (3, .int w14x5), (4, .int w53v), (5, .int w55v)]) (by simp) ?_
                      have w56 := w55
                      exact w14ih (w14m - 1) (by omega) w14x5 w53v w55v ⟨by omega, by omega⟩ (by omega)
                    · refine zs_icmp_eqF (pc := 100) t339_100 rfl lin2 (by omega) ?_
                      refine zs_iload (pc := 103) t339_103 rfl ?_
                      refine zs_iload (pc := 105) t339_105 rfl ?_
                      by_cases w57 : w53v.toInt < w14x4.toInt
                      · refine zs_icmp_ltT (pc := 107) t339_107 rfl rfl (by omega) ?_
                        refine zs_iload (pc := 113) t339_113 rfl ?_
                        refine zs_istore_n (pc := 115) t339_115 (ls' := [(3, .int w14x5), (6, .int w53v), (0, .ref 336), (1, .int a), (2, .int b), (4, .int w14x4), (5, .int w14x5)]) (zml mf339 (by decide)) rfl ?_
                        refine zs_iload (pc := 116) t339_116 rfl ?_
                        refine zs_istore (pc := 118) t339_118 (ls' := [(4, .int w53v), (3, .int w14x5), (6, .int w53v), (0, .ref 336), (1, .int a), (2, .int b), (5, .int w14x5)]) (zml mf339 (by decide)) rfl ?_
                        obtain ⟨w58v, w58e, w58⟩ := ziadd (a := w14x5) (b := Int32.ofInt 1) rfl (show (Int32.ofInt 1).toInt = 1 by decide) (by omega) (by omega)
                        refine zs_iinc (pc := 120) t339_120 (ls' := [(5, .int w58v), (4, .int w53v), (3, .int w14x5), (6, .int w53v), (0, .ref 336), (1, .int a), (2, .int b)]) (zml mf339 (by decide)) rfl (c := w58v) w58e rfl ?_
                        refine zs_goto (pc := 123) t339_123 ?_
                        refine zGo.locals (ls' := [(0, .ref 336), (1, .int a), (2, .int b), (3, .int w14x5), (4, .int w53v), (5, .int w58v)]) (by simp) ?_
                        have w59 := w58
                        exact w14ih (w14m - 1) (by omega) w14x5 w53v w58v ⟨by omega, by omega⟩ (by omega)
                      · refine zs_icmp_ltF (pc := 107) t339_107 rfl rfl (by omega) ?_
                        refine zs_goto (pc := 110) t339_110 ?_
                        obtain ⟨w60v, w60e, w60⟩ := ziadd (a := w14x5) (b := Int32.ofInt 1) rfl (show (Int32.ofInt 1).toInt = 1 by decide) (by omega) (by omega)
                        refine zs_iinc (pc := 120) t339_120 (ls' := [(5, .int w60v), (6, .int w53v), (0, .ref 336), (1, .int a), (2, .int b), (3, .int w14x3), (4, .int w14x4)]) (zml mf339 (by decide)) rfl (c := w60v) w60e rfl ?_
                        refine zs_goto (pc := 123) t339_123 ?_
                        refine zGo.locals (ls' := [(0, .ref 336), (1, .int a), (2, .int b), (3, .int w14x3), (4, .int w14x4), (5, .int w60v)]) (by simp) ?_
                        have w61 := w60
                        exact w14ih (w14m - 1) (by omega) w14x3 w14x4 w60v ⟨by omega, by omega⟩ (by omega)
                · refine zs_icmp_eqF (pc := 72) t339_72 rfl lin2 (by omega) ?_
                  refine zs_goto (pc := 75) t339_75 ?_
                  obtain ⟨w62v, w62e, w62⟩ := ziadd (a := w14x5) (b := Int32.ofInt 1) rfl (show (Int32.ofInt 1).toInt = 1 by decide) (by omega) (by omega)
                  refine zs_iinc (pc := 120) t339_120 (ls' := [(5, .int w62v), (0, .ref 336), (1, .int a), (2, .int b), (3, .int w14x3), (4, .int w14x4)]) (zml mf339 (by decide)) rfl (c := w62v) w62e rfl ?_
                  refine zs_goto (pc := 123) t339_123 ?_
                  refine zGo.locals (ls' := [(0, .ref 336), (1, .int a), (2, .int b), (3, .int w14x3), (4, .int w14x4), (5, .int w62v)]) (by simp) ?_
                  have w63 := w62
                  exact w14ih (w14m - 1) (by omega) w14x3 w14x4 w62v ⟨by omega, by omega⟩ (by omega)
      refine zGo.locals (ls' := [(0, .ref 336), (1, .int a), (2, .int b), (3, .int (-2 : Int32)), (4, .int (0 : Int32)), (5, .int (0 : Int32))]) (by simp) ?_
      have w64 := lin2
      have w65 := li0
      have w66 := li0
      exact w14L ((60 - 0 : Int).toNat) (-2 : Int32) (0 : Int32) (0 : Int32) ⟨by decide, by decide⟩ (by omega)
    · refine zs_invS (pc := 12) (as := [.long b.toInt64, .long (0 : Int64), .long w12v.toInt64]) (st := []) t306_12 (by decide) mf228 rfl rfl ⟨by decide, by decide, Nat.le_of_ble_eq_true rfl, Nat.le_of_ble_eq_true rfl⟩ (K228F (zi2l rfl) ll0 (zi2l w12) (by omega) ?_) (fun _ _ q => q)
      show zGo X l 1 0 0 306 15 [(0, .ref 336), (1, .int b)] [.int (0 : Int32)] w7M _
      refine zs_iret (pc := 15) t306_15 mr306 (by decide) ?_
      show zGo X l 7 0 0 339 17 [(0, .ref 336), (1, .int a), (2, .int b)] [.int (0 : Int32)] w7M _
      refine zs_if_neF (pc := 17) t339_17 li0 (by decide) ?_
      refine zs_iconst (pc := 20) t339_20 (v := -1) (by decide) ?_
      have w67 : (-1 : Int32).toInt = (-1) := lin1
      exact zs_iret (pc := 21) t339_21 mr339 (by decide) (hQ _ _ w7s w7I ((zFr.refl).trans (w7F.mono rfl)) (zPR.fr pR (w7F.eq rfl)) (zPC.fr pC (w7F.eq rfl)) w7PF w7kb)
  · refine zs_invS (pc := 10) (as := [.long a.toInt64, .long (0 : Int64), .long w9v.toInt64]) (st := []) t297_10 (by decide) mf228 rfl rfl ⟨by decide, by decide, Nat.le_of_ble_eq_true rfl, Nat.le_of_ble_eq_true rfl⟩ (K228F (zi2l rfl) ll0 (zi2l w9) (by omega) ?_) (fun _ _ q => q)
    show zGo X l 1 0 0 297 13 [(0, .ref 336), (1, .int a)] [.int (0 : Int32)] w7M _
    refine zs_iret (pc := 13) t297_13 mr297 (by decide) ?_
    show zGo X l 7 0 0 339 9 [(0, .ref 336), (1, .int a), (2, .int b)] [.int (0 : Int32)] w7M _
    refine zs_if_eqT (pc := 9) t339_9 li0 (by decide) ?_
    refine zs_iconst (pc := 20) t339_20 (v := -1) (by decide) ?_
    have w68 : (-1 : Int32).toInt = (-1) := lin1
    exact zs_iret (pc := 21) t339_21 mr339 (by decide) (hQ _ _ w7s w7I ((zFr.refl).trans (w7F.mono rfl)) (zPR.fr pR (w7F.eq rfl)) (zPC.fr pC (w7F.eq rfl)) w7PF w7kb)
theorem Q340 {X : zX} {l : Launch} {M : zM} {Q : Option Value → zM → Prop} {a b : Int32} (hs : zSk zMm M) (hI : zIv mLo mHi M) {F : Nat → Int} (pR : zPR M) (pC : zPC M) (pF : zPF M) (x0 : zRw M 0 F) (x1 : zWF F) (x2 : zKnB M F) (hQ : ∀ (M' : zM) (v : Int32), zSk zMm M' → zIv mLo mHi M' → zFr [(336, 336, some 3), (336, 336, some 18), (336, 336, some 19), (336, 336, some 20), (336, 336, some 21), (336, 336, some 22), (336, 336, some 37), (336, 336, some 39), (336, 336, some 42), (336, 336, some 43), (336, 336, some 44), (336, 336, some 45), (342, 361, none)] M M' → zPR M' → zPC M' → zPF M' → (zKnB M' F) → Q (some (.int v)) M') : zCall X l 7 0 0 340 [.ref 336, .int a, .int b] M Q := by
  have ga := zrg a
  have gb := zrg b
  refine zs_in (by decide) mf340 (Nat.le_of_ble_eq_true rfl) ?_
  show zGo X l 7 0 0 340 0 [(0, .ref 336), (1, .int a), (2, .int b)] [] M _
  have f1 := x1.1
  have f3 := x1.2.2.2
  have w1 := ibA0 hI
  have w2 : (zI M 337 0).toInt = (zI M 337 0).toInt := (congrArg Int32.toInt rfl).trans rfl
  have e0 : (zI M 337 0).toInt = F 0 := x0.at (by decide) (by decide) (by decide)
  have w3 := ibA1 hI
  have w4 : (zI M 337 1).toInt = (zI M 337 1).toInt := (congrArg Int32.toInt rfl).trans rfl
  have e1 : (zI M 337 1).toInt = F 1 := x0.at (by decide) (by decide) (by decide)
  have w5 := ibA2 hI
  have w6 : (zI M 337 2).toInt = (zI M 337 2).toInt := (congrArg Int32.toInt rfl).trans rfl
  have e2 : (zI M 337 2).toInt = F 2 := x0.at (by decide) (by decide) (by decide)
  refine zs_aload_n (pc := 0) t340_0 rfl ?_
  refine zs_iload_n (pc := 1) t340_1 rfl ?_
  refine zs_invV (pc := 2) (k := 336) (as' := [.int a]) (st := []) t340_2 mf306 rfl rfl (Or.inl ⟨by decide, (zk1 (hs.k fk_zMm_336))⟩) ⟨by decide, by decide, Nat.le_of_ble_eq_true rfl, Nat.le_of_ble_eq_true rfl⟩ (zs_in (by decide) mf306 (Nat.le_of_ble_eq_true rfl) ?_) (fun _ _ q => q)
  show zGo X l 1 0 0 306 0 [(0, .ref 336), (1, .int a)] [] M _
  refine zs_iload_n (pc := 0) t306_0 rfl ?_
  refine zs_i2l (pc := 1) t306_1 rfl ?_
  refine zs_lconst (pc := 2) t306_2 (v := 0) (by decide) ?_
  refine zs_aload_n (pc := 3) t306_3 rfl ?_
  refine zs_get (pc := 4) t306_4 (by decide) (zk1 (hs.k fk_zMm_336)) (hs.p rfl fv_zMm_336_0) ?_
  refine zs_iconst (pc := 7) t306_7 (v := 0) (by decide) ?_
  have w7 : (zI M 337 0).toInt = F 0 := x0.at (by decide) (by decide) (by decide)
  refine zs_iald (pc := 8) t306_8 (j := 0) (by decide) (zk1 (hs.k fk_zMm_337)) li0 (zk2 (hs.k fk_zMm_337) (by decide)) rfl ?_
  refine zs_iconst (pc := 9) t306_9 (v := 1) (by decide) ?_
  obtain ⟨w8v, w8e, w8⟩ := zisub (a := (zI M 337 0)) (b := (1 : Int32)) rfl li1 (by omega) (by omega)
  refine zs_isub (pc := 10) t306_10 (c := w8v) w8e ?_
  refine zs_i2l (pc := 11) t306_11 rfl ?_
  by_cases w9 : 0 ≤ a.toInt ∧ a.toInt ≤ ((zI M 337 0).toInt - 1)
  · refine zs_invS (pc := 12) (as := [.long a.toInt64, .long (0 : Int64), .long w8v.toInt64]) (st := []) t306_12 (by decide) mf228 rfl rfl ⟨by decide, by decide, Nat.le_of_ble_eq_true rfl, Nat.le_of_ble_eq_true rfl⟩ (K228T (zi2l rfl) ll0 (zi2l w8) (by omega) ?_) (fun _ _ q => q)
    show zGo X l 1 0 0 306 15 [(0, .ref 336), (1, .int a)] [.int (1 : Int32)] M _
    refine zs_iret (pc := 15) t306_15 mr306 (by decide) ?_
    show zGo X l 7 0 0 340 5 [(0, .ref 336), (1, .int a), (2, .int b)] [.int (1 : Int32)] M _
    refine zs_if_eqF (pc := 5) t340_5 li1 (by decide) ?_
    refine zs_iload_n (pc := 8) t340_8 rfl ?_
    refine zs_i2l (pc := 9) t340_9 rfl ?_
    refine zs_lconst (pc := 10) t340_10 (v := 0) (by decide) ?_
    refine zs_lconst (pc := 11) t340_11 (v := 1) (by decide) ?_
    by_cases w10 : 0 ≤ b.toInt ∧ b.toInt ≤ 1
    · refine zs_invS (pc := 12) (as := [.long b.toInt64, .long (0 : Int64), .long (1 : Int64)]) (st := []) t340_12 (by decide) mf228 rfl rfl ⟨by decide, by decide, Nat.le_of_ble_eq_true rfl, Nat.le_of_ble_eq_true rfl⟩ (K228T (zi2l rfl) ll0 ll1 (by omega) ?_) (fun _ _ q => q)
      show zGo X l 7 0 0 340 15 [(0, .ref 336), (1, .int a), (2, .int b)] [.int (1 : Int32)] M _
      refine zs_if_neT (pc := 15) t340_15 li1 (by decide) ?_
      refine zs_aload_n (pc := 22) t340_22 rfl ?_
      refine zs_invV (pc := 23) (k := 336) (as' := []) (st := []) t340_23 mf268 rfl rfl (Or.inl ⟨by decide, (zk1 (hs.k fk_zMm_336))⟩) ⟨by decide, by decide, Nat.le_of_ble_eq_true rfl, Nat.le_of_ble_eq_true rfl⟩ (U268 hs hI pR pF x0 x1 x2 ?_) (fun _ _ q => q)
      intro w11M w11s w11I w11F w11PF w11PD w11PV w11x0 w11x1
      show zGo X l 7 0 0 340 26 [(0, .ref 336), (1, .int a), (2, .int b)] [] w11M _
      have w11kb : zKnB w11M F := fun _ => w11x0
      refine zs_lconst (pc := 26) t340_26 (v := 0) (by decide) ?_
      refine zs_lstore_n (pc := 27) t340_27 (ls' := [(3, .long (0 : Int64)), (0, .ref 336), (1, .int a), (2, .int b)]) (zml mf340 (by decide)) rfl ?_
      refine zs_iconst (pc := 28) t340_28 (v := 0) (by decide) ?_
      refine zs_istore (pc := 29) t340_29 (ls' := [(5, .int (0 : Int32)), (3, .long (0 : Int64)), (0, .ref 336), (1, .int a), (2, .int b)]) (zml mf340 (by decide)) rfl ?_
      refine zs_iconst (pc := 31) t340_31 (v := 0) (by decide) ?_
      refine zs_istore (pc := 32) t340_32 (ls' := [(6, .int (0 : Int32)), (5, .int (0 : Int32)), (3, .long (0 : Int64)), (0, .ref 336), (1, .int a), (2, .int b)]) (zml mf340 (by decide)) rfl ?_
      have w12L : ∀ (m : Nat) (w12x3 : Int64) (w12x5 : Int32) (w12x6 : Int32), (0 ≤ w12x5.toInt ∧ w12x5.toInt ≤ 20) → (0 ≤ w12x6.toInt ∧ w12x6.toInt ≤ 20) → (w12x5.toInt ≤ w12x6.toInt) → 20 - w12x6.toInt ≤ (m : Int) → zGo X l 7 0 0 340 34 [(0, .ref 336), (1, .int a), (2, .int b), (3, .long w12x3), (5, .int w12x5), (6, .int w12x6)] [] w11M Q := by
        intro m
        induction m using Nat.strongRecOn with
        | ind w12m w12ih =>
          intro w12x3 w12x5 w12x6 w12b5 w12b6 w12r0 w12q
          have w12g3 := zrg64 w12x3
          refine zs_iload (pc := 34) t340_34 rfl ?_
          refine zs_aload_n (pc := 36) t340_36 rfl ?_
          have w13 := ib336_22 w11I
          refine zs_get (pc := 37) t340_37 (by decide) (zk1 (w11s.k fk_zMm_336)) (zfvi rfl rfl) ?_
          by_cases w14 : (zI w11M 336 22).toInt ≤ w12x6.toInt
          · refine zs_icmp_geT (pc := 40) t340_40 rfl rfl (by omega) ?_
            refine zs_iload_n (pc := 95) t340_95 rfl ?_
            refine zs_iconst (pc := 96) t340_96 (v := 1) (by decide) ?_
            by_cases w15 : b.toInt ≠ 1
            · refine zs_icmp_neT (pc := 97) t340_97 rfl li1 (by omega) ?_
              refine zs_iload (pc := 105) t340_105 rfl ?_
              by_cases w16 : w12x5.toInt ≠ 0
              · refine zs_if_neT (pc := 107) t340_107 rfl (by omega) ?_
                refine zs_lload_n (pc := 114) t340_114 rfl ?_
                refine zs_iload (pc := 115) t340_115 rfl ?_
                refine zs_i2l (pc := 117) t340_117 rfl ?_
                have w17 : w12x5.toInt64.toInt = w12x5.toInt := (zi2l rfl)
                refine zs_invS (pc := 118) (as := [.long w12x3, .long w12x5.toInt64]) (st := []) t340_118 (by decide) mf286 rfl rfl ⟨by decide, by decide, Nat.le_of_ble_eq_true rfl, Nat.le_of_ble_eq_true rfl⟩ (K286 w11s w11I ⟨by omega, by omega⟩ ?_) (fun _ _ q => q)
                intro w18v
                have w18g := zrg64 w18v
                show zGo X l 7 0 0 340 121 [(0, .ref 336), (1, .int a), (2, .int b), (3, .long w12x3), (5, .int w12x5), (6, .int w12x6)] [.long w18v] w11M _
                obtain ⟨w19v, w19⟩ : ∃ v, w18v.toInt32 = v := ⟨_, rfl⟩
                have w19g := zrg w19v
                refine zs_l2i (pc := 121) t340_121 (c := w19v) w19 ?_
                exact zs_iret (pc := 122) t340_122 mr340 rfl (hQ _ _ w11s w11I ((zFr.refl).trans (w11F.mono rfl)) (zPR.fr pR (w11F.eq rfl)) (zPC.fr pC (w11F.eq rfl)) w11PF w11kb)
              · refine zs_if_neF (pc := 107) t340_107 rfl (by omega) ?_
                refine zs_iconst (pc := 110) t340_110 (v := 0) (by decide) ?_
                refine zs_goto (pc := 111) t340_111 ?_
                have w20 : (0 : Int32).toInt = 0 := li0
                exact zs_iret (pc := 122) t340_122 mr340 (by decide) (hQ _ _ w11s w11I ((zFr.refl).trans (w11F.mono rfl)) (zPR.fr pR (w11F.eq rfl)) (zPC.fr pC (w11F.eq rfl)) w11PF w11kb)
            · refine zs_icmp_neF (pc := 97) t340_97 rfl li1 (by omega) ?_
              refine zs_iload (pc := 100) t340_100 rfl ?_
              refine zs_goto (pc := 102) t340_102 ?_
              exact zs_iret (pc := 122) t340_122 mr340 rfl (hQ _ _ w11s w11I ((zFr.refl).trans (w11F.mono rfl)) (zPR.fr pR (w11F.eq rfl)) (zPC.fr pC (w11F.eq rfl)) w11PF w11kb)
          · refine zs_icmp_geF (pc := 40) t340_40 rfl rfl (by omega) ?_
            refine zs_aload_n (pc := 43) t340_43 rfl ?_
            refine zs_get (pc := 44) t340_44 (by decide) (zk1 (w11s.k fk_zMm_336)) (w11s.p rfl fv_zMm_336_27) ?_
            refine zs_bipush (pc := 47) t340_47 (v := 8) (by decide) ?_
            refine zs_iload (pc := 49) t340_49 rfl ?_
            obtain ⟨w21v, w21⟩ : ∃ v, (8 : Int32) * w12x6 = v := ⟨_, rfl⟩
            have w21g : w21v.toInt = 8 * w12x6.toInt := by rw [← w21]; exact zmulc li8 rfl (by omega) (by omega)
            refine zs_imul (pc := 51) t340_51 (c := w21v) w21 ?_
            refine zs_iload_n (pc := 52) t340_52 rfl ?_
            obtain ⟨w22v, w22e, w22⟩ := ziadd (a := w21v) (b := a) w21g rfl (by omega) (by omega)
            refine zs_iadd (pc := 53) t340_53 (c := w22v) w22e ?_
            obtain ⟨w23n, w23⟩ : ∃ n : Nat, w12x6.toInt = (n : Int) := ⟨(w12x6.toInt).toNat, by omega⟩
            obtain ⟨w24n, w24⟩ : ∃ n : Nat, a.toInt = (n : Int) := ⟨(a.toInt).toNat, by omega⟩
            have w25 := ib349 w11I (8 * w23n + w24n)
            refine zs_iald (pc := 54) t340_54 (j := (8 * w23n + w24n)) (by decide) (zk1 (w11s.k fk_zMm_349)) (show w22v.toInt = (((8 * w23n + w24n) : Nat) : Int) by omega) (zk2 (w11s.k fk_zMm_349) (by omega)) rfl ?_
            refine zs_istore (pc := 55) t340_55 (ls' := [(7, .int (zI w11M 349 (8 * w23n + w24n))), (0, .ref 336), (1, .int a), (2, .int b), (3, .long w12x3), (5, .int w12x5), (6, .int w12x6)]) (zml mf340 (by decide)) rfl ?_
            refine zs_iload (pc := 57) t340_57 rfl ?_
            refine zs_bipush (pc := 59) t340_59 (v := -2) (by decide) ?_
            by_cases w26 : (zI w11M 349 (8 * w23n + w24n)).toInt ≠ (-2)
            · refine zs_icmp_neT (pc := 61) t340_61 rfl lin2 (by omega) ?_
              refine zs_lload_n (pc := 67) t340_67 rfl ?_
              refine zs_aload_n (pc := 68) t340_68 rfl ?_
              refine zs_iload (pc := 69) t340_69 rfl ?_
              refine zs_iconst (pc := 71) t340_71 (v := 1) (by decide) ?_
              refine zs_invV (pc := 72) (k := 336) (as' := [.int (zI w11M 349 (8 * w23n + w24n)), .int (1 : Int32)]) (st := [.long w12x3]) t340_72 mf272 rfl rfl (Or.inl ⟨by decide, (zk1 (w11s.k fk_zMm_336))⟩) ⟨by decide, by decide, Nat.le_of_ble_eq_true rfl, Nat.le_of_ble_eq_true rfl⟩ (zs_in (by decide) mf272 (Nat.le_of_ble_eq_true rfl) ?_) (fun _ _ q => q)
              show zGo X l 0 0 0 272 0 [(0, .ref 336), (1, .int (zI w11M 349 (8 * w23n + w24n))), (2, .int (1 : Int32))] [] w11M _
              refine zs_aload_n (pc := 0) t272_0 rfl ?_
              refine zs_get (pc := 1) t272_1 (by decide) (zk1 (w11s.k fk_zMm_336)) (w11s.p rfl fv_zMm_336_0) ?_
              refine zs_bipush (pc := 4) t272_4 (v := 30) (by decide) ?_
              refine zs_iconst (pc := 6) t272_6 (v := 4) (by decide) ?_
              refine zs_iload_n (pc := 7) t272_7 rfl ?_
              obtain ⟨w27v, w27⟩ : ∃ v, (4 : Int32) * (zI w11M 349 (8 * w23n + w24n)) = v := ⟨_, rfl⟩
              have w27g : w27v.toInt = 4 * (zI w11M 349 (8 * w23n + w24n)).toInt := by rw [← w27]; exact zmulc li4 rfl (by omega) (by omega)
              refine zs_imul (pc := 8) t272_8 (c := w27v) w27 ?_
              obtain ⟨w28v, w28e, w28⟩ := ziadd (a := (30 : Int32)) (b := w27v) li30 w27g (by omega) (by omega)
              refine zs_iadd (pc := 9) t272_9 (c := w28v) w28e ?_
              refine zs_iload_n (pc := 10) t272_10 rfl ?_
              obtain ⟨w29v, w29e, w29⟩ := ziadd (a := w28v) (b := (1 : Int32)) w28 li1 (by omega) (by omega)
              refine zs_iadd (pc := 11) t272_11 (c := w29v) w29e ?_
              obtain ⟨w30n, w30⟩ : ∃ n : Nat, w29v.toInt = (n : Int) := ⟨w29v.toInt.toNat, by omega⟩
              have w31 := zrg (zI M 337 w30n)
              have w32 : (zI M 337 w30n).toInt = F w30n := x0.at (by omega) (by omega) (by omega)
              refine zs_iald (pc := 12) t272_12 (j := w30n) (by decide) (zk1 (w11s.k fk_zMm_337)) w30 (zk2 (w11s.k fk_zMm_337) (by omega)) ((w11F 337 w30n rfl).trans rfl) ?_
              refine zs_iret (pc := 13) t272_13 mr272 rfl ?_
              show zGo X l 7 0 0 340 75 [(7, .int (zI w11M 349 (8 * w23n + w24n))), (0, .ref 336), (1, .int a), (2, .int b), (3, .long w12x3), (5, .int w12x5), (6, .int w12x6)] [.int (zI M 337 w30n), .long w12x3] w11M _
              refine zs_aload_n (pc := 75) t340_75 rfl ?_
              refine zs_iload (pc := 76) t340_76 rfl ?_
              refine zs_iload_n (pc := 78) t340_78 rfl ?_
              have w33 : (zI w11M 336 22).toInt = (zI w11M 336 22).toInt := (congrArg Int32.toInt rfl).trans rfl
              refine zs_invV (pc := 79) (k := 336) (as' := [.int w12x6, .int a]) (st := [.int (zI M 337 w30n), .long w12x3]) t340_79 mf337 rfl rfl (Or.inl ⟨by decide, (zk1 (w11s.k fk_zMm_336))⟩) ⟨by decide, by decide, Nat.le_of_ble_eq_true rfl, Nat.le_of_ble_eq_true rfl⟩ (K337 w11s w11I w11PD ⟨by omega, by omega⟩ ⟨by omega, by omega⟩ (by omega) ?_) (fun _ _ q => q)
              intro w34v
              have w34g := zrg w34v
              show zGo X l 7 0 0 340 82 [(7, .int (zI w11M 349 (8 * w23n + w24n))), (0, .ref 336), (1, .int a), (2, .int b), (3, .long w12x3), (5, .int w12x5), (6, .int w12x6)] [.int w34v, .int (zI M 337 w30n), .long w12x3] w11M _
              obtain ⟨w35v, w35⟩ : ∃ v, v = (zI M 337 w30n) - w34v := ⟨_, rfl⟩
              have w35g := zrg w35v
              refine zs_isub (pc := 82) t340_82 (c := w35v) w35.symm ?_
              refine zs_i2l (pc := 83) t340_83 rfl ?_
              obtain ⟨w36v, w36⟩ : ∃ v, w12x3 + w35v.toInt64 = v := ⟨_, rfl⟩
              have w36g := zrg64 w36v
              refine zs_ladd (pc := 84) t340_84 (c := w36v) w36 ?_
              refine zs_lstore_n (pc := 85) t340_85 (ls' := [(3, .long w36v), (7, .int (zI w11M 349 (8 * w23n + w24n))), (0, .ref 336), (1, .int a), (2, .int b), (5, .int w12x5), (6, .int w12x6)]) (zml mf340 (by decide)) rfl ?_
              obtain ⟨w37v, w37e, w37⟩ := ziadd (a := w12x5) (b := Int32.ofInt 1) rfl (show (Int32.ofInt 1).toInt = 1 by decide) (by omega) (by omega)
              refine zs_iinc (pc := 86) t340_86 (ls' := [(5, .int w37v), (3, .long w36v), (7, .int (zI w11M 349 (8 * w23n + w24n))), (0, .ref 336), (1, .int a), (2, .int b), (6, .int w12x6)]) (zml mf340 (by decide)) rfl (c := w37v) w37e rfl ?_
              obtain ⟨w38v, w38e, w38⟩ := ziadd (a := w12x6) (b := Int32.ofInt 1) rfl (show (Int32.ofInt 1).toInt = 1 by decide) (by omega) (by omega)
              refine zs_iinc (pc := 89) t340_89 (ls' := [(6, .int w38v), (5, .int w37v), (3, .long w36v), (7, .int (zI w11M 349 (8 * w23n + w24n))), (0, .ref 336), (1, .int a), (2, .int b)]) (zml mf340 (by decide)) rfl (c := w38v) w38e rfl ?_
              refine zs_goto (pc := 92) t340_92 ?_
              refine zGo.locals (ls' := [(0, .ref 336), (1, .int a), (2, .int b), (3, .long w36v), (5, .int w37v), (6, .int w38v)]) (by simp) ?_
              have w39 := w37
              have w40 := w38
              exact w12ih (w12m - 1) (by omega) w36v w37v w38v ⟨by omega, by omega⟩ ⟨by omega, by omega⟩ (by omega) (by omega)
            · refine zs_icmp_neF (pc := 61) t340_61 rfl lin2 (by omega) ?_
              refine zs_goto (pc := 64) t340_64 ?_
              obtain ⟨w41v, w41e, w41⟩ := ziadd (a := w12x6) (b := Int32.ofInt 1) rfl (show (Int32.ofInt 1).toInt = 1 by decide) (by omega) (by omega)
              refine zs_iinc (pc := 89) t340_89 (ls' := [(6, .int w41v), (7, .int (zI w11M 349 (8 * w23n + w24n))), (0, .ref 336), (1, .int a), (2, .int b), (3, .long w12x3), (5, .int w12x5)]) (zml mf340 (by decide)) rfl (c := w41v) w41e rfl ?_
              refine zs_goto (pc := 92) t340_92 ?_
              refine zGo.locals (ls' := [(0, .ref 336), (1, .int a), (2, .int b), (3, .long w12x3), (5, .int w12x5), (6, .int w41v)]) (by simp) ?_
              have w42 := w41
              exact w12ih (w12m - 1) (by omega) w12x3 w12x5 w41v ⟨by omega, by omega⟩ ⟨by omega, by omega⟩ (by omega) (by omega)
      refine zGo.locals (ls' := [(0, .ref 336), (1, .int a), (2, .int b), (3, .long (0 : Int64)), (5, .int (0 : Int32)), (6, .int (0 : Int32))]) (by simp) ?_
      have w43 := ll0
      have w44 := li0
      have w45 := li0
      exact w12L ((20 - 0 : Int).toNat) (0 : Int64) (0 : Int32) (0 : Int32) ⟨by decide, by decide⟩ ⟨by decide, by decide⟩ (by omega) (by omega)
    · refine zs_invS (pc := 12) (as := [.long b.toInt64, .long (0 : Int64), .long (1 : Int64)]) (st := []) t340_12 (by decide) mf228 rfl rfl ⟨by decide, by decide, Nat.le_of_ble_eq_true rfl, Nat.le_of_ble_eq_true rfl⟩ (K228F (zi2l rfl) ll0 ll1 (by omega) ?_) (fun _ _ q => q)
      show zGo X l 7 0 0 340 15 [(0, .ref 336), (1, .int a), (2, .int b)] [.int (0 : Int32)] M _
      refine zs_if_neF (pc := 15) t340_15 li0 (by decide) ?_
      refine zs_ldc_w (pc := 18) t340_18 (v := -100000) rfl (by decide) ?_
      have w46 : (-100000 : Int32).toInt = (-100000) := lin100000
      exact zs_iret (pc := 21) t340_21 mr340 (by decide) (hQ _ _ hs hI (zFr.refl) pR pC pF x2)
  · refine zs_invS (pc := 12) (as := [.long a.toInt64, .long (0 : Int64), .long w8v.toInt64]) (st := []) t306_12 (by decide) mf228 rfl rfl ⟨by decide, by decide, Nat.le_of_ble_eq_true rfl, Nat.le_of_ble_eq_true rfl⟩ (K228F (zi2l rfl) ll0 (zi2l w8) (by omega) ?_) (fun _ _ q => q)
    show zGo X l 1 0 0 306 15 [(0, .ref 336), (1, .int a)] [.int (0 : Int32)] M _
    refine zs_iret (pc := 15) t306_15 mr306 (by decide) ?_
    show zGo X l 7 0 0 340 5 [(0, .ref 336), (1, .int a), (2, .int b)] [.int (0 : Int32)] M _
    refine zs_if_eqT (pc := 5) t340_5 li0 (by decide) ?_
    refine zs_ldc_w (pc := 18) t340_18 (v := -100000) rfl (by decide) ?_
    have w47 : (-100000 : Int32).toInt = (-100000) := lin100000
    exact zs_iret (pc := 21) t340_21 mr340 (by decide) (hQ _ _ hs hI (zFr.refl) pR pC pF x2)
theorem Q295 {X : zX} {l : Launch} {M : zM} {Q : Option Value → zM → Prop} {a : Int32} (hs : zSk zMm M) (hI : zIv mLo mHi M) {F : Nat → Int} (pR : zPR M) (pC : zPC M) (pF : zPF M) (x0 : zRw M 0 F) (x1 : zWF F) (x2 : zKnB M F) (hQ : ∀ (M' : zM) (v : Int32), zSk zMm M' → zIv mLo mHi M' → zFr [(336, 336, some 3), (336, 336, some 18), (336, 336, some 19), (336, 336, some 20), (336, 336, some 21), (336, 336, some 22), (336, 336, some 37), (336, 336, some 39), (336, 336, some 42), (336, 336, some 43), (336, 336, some 44), (336, 336, some 45), (342, 361, none)] M M' → zPR M' → zPC M' → zPF M' → (zKnB M' F) → Q (some (.int v)) M') : zCall X l 8 0 0 295 [.ref 336, .int a] M Q := by
  have ga := zrg a
  refine zs_in (by decide) mf295 (Nat.le_of_ble_eq_true rfl) ?_
  show zGo X l 8 0 0 295 0 [(0, .ref 336), (1, .int a)] [] M _
  have f1 := x1.1
  have f3 := x1.2.2.2
  have w1 := ibA0 hI
  have w2 : (zI M 337 0).toInt = (zI M 337 0).toInt := (congrArg Int32.toInt rfl).trans rfl
  have e0 : (zI M 337 0).toInt = F 0 := x0.at (by decide) (by decide) (by decide)
  have w3 := ibA1 hI
  have w4 : (zI M 337 1).toInt = (zI M 337 1).toInt := (congrArg Int32.toInt rfl).trans rfl
  have e1 : (zI M 337 1).toInt = F 1 := x0.at (by decide) (by decide) (by decide)
  have w5 := ibA2 hI
  have w6 : (zI M 337 2).toInt = (zI M 337 2).toInt := (congrArg Int32.toInt rfl).trans rfl
  have e2 : (zI M 337 2).toInt = F 2 := x0.at (by decide) (by decide) (by decide)
  refine zs_iload_n (pc := 0) t295_0 rfl ?_
  refine zs_invS (pc := 1) (as := [.int a]) (st := []) t295_1 (by decide) mf260 rfl rfl ⟨by decide, by decide, Nat.le_of_ble_eq_true rfl, Nat.le_of_ble_eq_true rfl⟩ (K260 hs hI ?_) (fun _ _ q => q)
  intro w7v  w7a w7b
  show zGo X l 8 0 0 295 4 [(0, .ref 336), (1, .int a)] [.int w7v] M _
  refine zs_iconst (pc := 4) t295_4 (v := -1) (by decide) ?_
  by_cases w8 : w7v.toInt ≠ (-1)
  · refine zs_icmp_neT (pc := 5) t295_5 rfl lin1 (by omega) ?_
    refine zs_aload_n (pc := 12) t295_12 rfl ?_
    refine zs_iload_n (pc := 13) t295_13 rfl ?_
    refine zs_invS (pc := 14) (as := [.int a]) (st := [.ref 336]) t295_14 (by decide) mf260 rfl rfl ⟨by decide, by decide, Nat.le_of_ble_eq_true rfl, Nat.le_of_ble_eq_true rfl⟩ (K260 hs hI ?_) (fun _ _ q => q)
    intro w9v  w9a w9b
    show zGo X l 8 0 0 295 17 [(0, .ref 336), (1, .int a)] [.int w9v, .ref 336] M _
    refine zs_invV (pc := 17) (k := 336) (as' := [.int w9v]) (st := []) t295_17 mf267 rfl rfl (Or.inl ⟨by decide, (zk1 (hs.k fk_zMm_336))⟩) ⟨by decide, by decide, Nat.le_of_ble_eq_true rfl, Nat.le_of_ble_eq_true rfl⟩ (Q267 hs hI pR pF x0 x1 x2 ?_) (fun _ _ q => q)
    intro w10M w10v w10s w10I w10F w10PF w10PD w10PV w10x0
    have w10g := zrg w10v
    show zGo X l 8 0 0 295 20 [(0, .ref 336), (1, .int a)] [.int w10v] w10M _
    exact zs_iret (pc := 20) t295_20 mr295 rfl (hQ _ _ w10s w10I ((zFr.refl).trans (w10F.mono rfl)) (zPR.fr pR (w10F.eq rfl)) (zPC.fr pC (w10F.eq rfl)) w10PF w10x0)
  · refine zs_icmp_neF (pc := 5) t295_5 rfl lin1 (by omega) ?_
    refine zs_iconst (pc := 8) t295_8 (v := -1) (by decide) ?_
    refine zs_goto (pc := 9) t295_9 ?_
    have w11 : (-1 : Int32).toInt = (-1) := lin1
    exact zs_iret (pc := 20) t295_20 mr295 (by decide) (hQ _ _ hs hI (zFr.refl) pR pC pF x2)
theorem Q327 {X : zX} {l : Launch} {M : zM} {Q : Option Value → zM → Prop} {a : Int32} (hs : zSk zMm M) (hI : zIv mLo mHi M) {F : Nat → Int} (pR : zPR M) (pC : zPC M) (pF : zPF M) (x0 : zRw M 0 F) (x1 : zWF F) (x2 : zKnB M F) (hQ : ∀ (M' : zM) (v : Int32), zSk zMm M' → zIv mLo mHi M' → zFr [(336, 336, some 3), (336, 336, some 18), (336, 336, some 19), (336, 336, some 20), (336, 336, some 21), (336, 336, some 22), (336, 336, some 37), (336, 336, some 39), (336, 336, some 42), (336, 336, some 43), (336, 336, some 44), (336, 336, some 45), (342, 361, none)] M M' → zPR M' → zPC M' → zPF M' → (zKnB M' F) → Q (some (.int v)) M') : zCall X l 7 0 0 327 [.ref 336, .int a] M Q := by
  have ga := zrg a
  refine zs_in (by decide) mf327 (Nat.le_of_ble_eq_true rfl) ?_
  show zGo X l 7 0 0 327 0 [(0, .ref 336), (1, .int a)] [] M _
  have f1 := x1.1
  have f3 := x1.2.2.2
  have w1 := ibA0 hI
  have w2 : (zI M 337 0).toInt = (zI M 337 0).toInt := (congrArg Int32.toInt rfl).trans rfl
  have e0 : (zI M 337 0).toInt = F 0 := x0.at (by decide) (by decide) (by decide)
  have w3 := ibA1 hI
  have w4 : (zI M 337 1).toInt = (zI M 337 1).toInt := (congrArg Int32.toInt rfl).trans rfl
  have e1 : (zI M 337 1).toInt = F 1 := x0.at (by decide) (by decide) (by decide)
  have w5 := ibA2 hI
  have w6 : (zI M 337 2).toInt = (zI M 337 2).toInt := (congrArg Int32.toInt rfl).trans rfl
  have e2 : (zI M 337 2).toInt = F 2 := x0.at (by decide) (by decide) (by decide)
  refine zs_aload_n (pc := 0) t327_0 rfl ?_
  refine zs_iload_n (pc := 1) t327_1 rfl ?_
  refine zs_invV (pc := 2) (k := 336) (as' := [.int a]) (st := []) t327_2 mf306 rfl rfl (Or.inl ⟨by decide, (zk1 (hs.k fk_zMm_336))⟩) ⟨by decide, by decide, Nat.le_of_ble_eq_true rfl, Nat.le_of_ble_eq_true rfl⟩ (zs_in (by decide) mf306 (Nat.le_of_ble_eq_true rfl) ?_) (fun _ _ q => q)
  show zGo X l 1 0 0 306 0 [(0, .ref 336), (1, .int a)] [] M _
  refine zs_iload_n (pc := 0) t306_0 rfl ?_
  refine zs_i2l (pc := 1) t306_1 rfl ?_
  refine zs_lconst (pc := 2) t306_2 (v := 0) (by decide) ?_
  refine zs_aload_n (pc := 3) t306_3 rfl ?_
  refine zs_get (pc := 4) t306_4 (by decide) (zk1 (hs.k fk_zMm_336)) (hs.p rfl fv_zMm_336_0) ?_
  refine zs_iconst (pc := 7) t306_7 (v := 0) (by decide) ?_
  have w7 : (zI M 337 0).toInt = F 0 := x0.at (by decide) (by decide) (by decide)
  refine zs_iald (pc := 8) t306_8 (j := 0) (by decide) (zk1 (hs.k fk_zMm_337)) li0 (zk2 (hs.k fk_zMm_337) (by decide)) rfl ?_
  refine zs_iconst (pc := 9) t306_9 (v := 1) (by decide) ?_
  obtain ⟨w8v, w8e, w8⟩ := zisub (a := (zI M 337 0)) (b := (1 : Int32)) rfl li1 (by omega) (by omega)
  refine zs_isub (pc := 10) t306_10 (c := w8v) w8e ?_
  refine zs_i2l (pc := 11) t306_11 rfl ?_
  by_cases w9 : 0 ≤ a.toInt ∧ a.toInt ≤ ((zI M 337 0).toInt - 1)
  · refine zs_invS (pc := 12) (as := [.long a.toInt64, .long (0 : Int64), .long w8v.toInt64]) (st := []) t306_12 (by decide) mf228 rfl rfl ⟨by decide, by decide, Nat.le_of_ble_eq_true rfl, Nat.le_of_ble_eq_true rfl⟩ (K228T (zi2l rfl) ll0 (zi2l w8) (by omega) ?_) (fun _ _ q => q)
    show zGo X l 1 0 0 306 15 [(0, .ref 336), (1, .int a)] [.int (1 : Int32)] M _
    refine zs_iret (pc := 15) t306_15 mr306 (by decide) ?_
    show zGo X l 7 0 0 327 5 [(0, .ref 336), (1, .int a)] [.int (1 : Int32)] M _
    refine zs_if_neT (pc := 5) t327_5 li1 (by decide) ?_
    refine zs_aload_n (pc := 12) t327_12 rfl ?_
    refine zs_invV (pc := 13) (k := 336) (as' := []) (st := []) t327_13 mf268 rfl rfl (Or.inl ⟨by decide, (zk1 (hs.k fk_zMm_336))⟩) ⟨by decide, by decide, Nat.le_of_ble_eq_true rfl, Nat.le_of_ble_eq_true rfl⟩ (U268 hs hI pR pF x0 x1 x2 ?_) (fun _ _ q => q)
    intro w10M w10s w10I w10F w10PF w10PD w10PV w10x0 w10x1
    show zGo X l 7 0 0 327 16 [(0, .ref 336), (1, .int a)] [] w10M _
    have w10kb : zKnB w10M F := fun _ => w10x0
    refine zs_aload_n (pc := 16) t327_16 rfl ?_
    have w11 := ib336_22 w10I
    refine zs_get (pc := 17) t327_17 (by decide) (zk1 (w10s.k fk_zMm_336)) (zfvi rfl rfl) ?_
    refine zs_istore_n (pc := 20) t327_20 (ls' := [(2, .int (zI w10M 336 22)), (0, .ref 336), (1, .int a)]) (zml mf327 (by decide)) rfl ?_
    refine zs_aload_n (pc := 21) t327_21 rfl ?_
    refine zs_aload_n (pc := 22) t327_22 rfl ?_
    refine zs_get (pc := 23) t327_23 (by decide) (zk1 (w10s.k fk_zMm_336)) (w10s.p rfl fv_zMm_336_0) ?_
    refine zs_bipush (pc := 26) t327_26 (v := 8) (by decide) ?_
    have w12 := ibA8 hI
    have w13 : (zI M 337 8).toInt = F 8 := x0.at (by decide) (by decide) (by decide)
    refine zs_iald (pc := 28) t327_28 (j := 8) (by decide) (zk1 (w10s.k fk_zMm_337)) li8 (zk2 (w10s.k fk_zMm_337) (by decide)) ((w10F 337 8 rfl).trans rfl) ?_
    refine zs_iload_n (pc := 29) t327_29 rfl ?_
    refine zs_invV (pc := 30) (k := 336) (as' := [.int (zI M 337 8), .int a]) (st := []) t327_30 mf269 rfl rfl (Or.inl ⟨by decide, (zk1 (w10s.k fk_zMm_336))⟩) ⟨by decide, by decide, Nat.le_of_ble_eq_true rfl, Nat.le_of_ble_eq_true rfl⟩ (K269 w10s w10I (zPR.fr pR (w10F.eq rfl)) ⟨by omega, by omega⟩ ?_) (fun _ _ q => q)
    intro w14M w14s w14I w14F w14J w14PT
    show zGo X l 7 0 0 327 33 [(2, .int (zI w10M 336 22)), (0, .ref 336), (1, .int a)] [] w14M _
    refine zs_aload_n (pc := 33) t327_33 rfl ?_
    refine zs_iconst (pc := 34) t327_34 (v := 0) (by decide) ?_
    have w15 : zIv mLo mHi (zsI w14M 336 3 (0 : Int32)) := zIv.put w14I (show 0 ≤ (0 : Int32).toInt ∧ (0 : Int32).toInt ≤ 1 from ⟨by decide, by decide⟩)
    have w16 : zPF (zsI w14M 336 3 (0 : Int32)) := zPF.off
    refine zs_putI (pc := 35) t327_35 (zk1 (w14s.k fk_zMm_336)) (by decide) ?_
    refine zs_iload_n (pc := 38) t327_38 rfl ?_
    refine zs_aload_n (pc := 39) t327_39 rfl ?_
    have w17 := ib336_22 w14I
    refine zs_get (pc := 40) t327_40 (by decide) (zk1 (w14s.k fk_zMm_336)) (zfvi rfl ((zIoj (by decide)).trans rfl)) ?_
    obtain ⟨w18v, w18e, w18⟩ := zisub (a := (zI w10M 336 22)) (b := (zI w14M 336 22)) rfl rfl (by omega) (by omega)
    refine zs_isub (pc := 43) t327_43 (c := w18v) w18e ?_
    have w19 : (zI (zsI w14M 336 3 (0 : Int32)) 336 3).toInt = 0 := (congrArg Int32.toInt zIs).trans li0
    exact zs_iret (pc := 44) t327_44 mr327 rfl (hQ _ _ w14s w15 ((((zFr.refl).trans (w10F.mono rfl)).trans (w14F.mono rfl)).put rfl) (zPR.fr (M' := (zsI w14M 336 3 (0 : Int32))) (zPR.fr (zPR.fr pR (w10F.eq rfl)) (w14F.eq rfl)) (zEq.put rfl)) (zPC.fr (M' := (zsI w14M 336 3 (0 : Int32))) (zPC.fr (zPC.fr pC (w10F.eq rfl)) (w14F.eq rfl)) (zEq.put rfl)) w16 (fun q => absurd (show (zI (zsI w14M 336 3 (0 : Int32)) 336 3).toInt = 0 by omega) q))
  · refine zs_invS (pc := 12) (as := [.long a.toInt64, .long (0 : Int64), .long w8v.toInt64]) (st := []) t306_12 (by decide) mf228 rfl rfl ⟨by decide, by decide, Nat.le_of_ble_eq_true rfl, Nat.le_of_ble_eq_true rfl⟩ (K228F (zi2l rfl) ll0 (zi2l w8) (by omega) ?_) (fun _ _ q => q)
    show zGo X l 1 0 0 306 15 [(0, .ref 336), (1, .int a)] [.int (0 : Int32)] M _
    refine zs_iret (pc := 15) t306_15 mr306 (by decide) ?_
    show zGo X l 7 0 0 327 5 [(0, .ref 336), (1, .int a)] [.int (0 : Int32)] M _
    refine zs_if_neF (pc := 5) t327_5 li0 (by decide) ?_
    refine zs_ldc_w (pc := 8) t327_8 (v := -100000) rfl (by decide) ?_
    have w20 : (-100000 : Int32).toInt = (-100000) := lin100000
    exact zs_iret (pc := 11) t327_11 mr327 (by decide) (hQ _ _ hs hI (zFr.refl) pR pC pF x2)
theorem Q328 {X : zX} {l : Launch} {M : zM} {Q : Option Value → zM → Prop} {a : Int32} (hs : zSk zMm M) (hI : zIv mLo mHi M) {F : Nat → Int} (pR : zPR M) (pC : zPC M) (pF : zPF M) (x0 : zRw M 0 F) (x1 : zWF F) (x2 : zKnB M F) (hQ : ∀ (M' : zM) (v : Int32), zSk zMm M' → zIv mLo mHi M' → zFr [(336, 336, some 3), (336, 336, some 18), (336, 336, some 19), (336, 336, some 20), (336, 336, some 21), (336, 336, some 22), (336, 336, some 37), (336, 336, some 39), (336, 336, some 42), (336, 336, some 43), (336, 336, some 44), (336, 336, some 45), (342, 361, none)] M M' → zPR M' → zPC M' → zPF M' → (zKnB M' F) → Q (some (.int v)) M') : zCall X l 6 0 0 328 [.ref 336, .int a] M Q := by
  have ga := zrg a
  refine zs_in (by decide) mf328 (Nat.le_of_ble_eq_true rfl) ?_
  show zGo X l 6 0 0 328 0 [(0, .ref 336), (1, .int a)] [] M _
  have f1 := x1.1
  have f3 := x1.2.2.2
  have w1 := ibA0 hI
  have w2 : (zI M 337 0).toInt = (zI M 337 0).toInt := (congrArg Int32.toInt rfl).trans rfl
  have e0 : (zI M 337 0).toInt = F 0 := x0.at (by decide) (by decide) (by decide)
  have w3 := ibA1 hI
  have w4 : (zI M 337 1).toInt = (zI M 337 1).toInt := (congrArg Int32.toInt rfl).trans rfl
  have e1 : (zI M 337 1).toInt = F 1 := x0.at (by decide) (by decide) (by decide)
  have w5 := ibA2 hI
  have w6 : (zI M 337 2).toInt = (zI M 337 2).toInt := (congrArg Int32.toInt rfl).trans rfl
  have e2 : (zI M 337 2).toInt = F 2 := x0.at (by decide) (by decide) (by decide)
  refine zs_iload_n (pc := 0) t328_0 rfl ?_
  refine zs_i2l (pc := 1) t328_1 rfl ?_
  refine zs_lconst (pc := 2) t328_2 (v := 0) (by decide) ?_
  refine zs_ldc2_w (pc := 3) t328_3 (v := 2) (by decide) ?_
  by_cases w7 : 0 ≤ a.toInt ∧ a.toInt ≤ 2
  · refine zs_invS (pc := 6) (as := [.long a.toInt64, .long (0 : Int64), .long (2 : Int64)]) (st := []) t328_6 (by decide) mf228 rfl rfl ⟨by decide, by decide, Nat.le_of_ble_eq_true rfl, Nat.le_of_ble_eq_true rfl⟩ (K228T (zi2l rfl) ll0 ll2 (by omega) ?_) (fun _ _ q => q)
    show zGo X l 6 0 0 328 9 [(0, .ref 336), (1, .int a)] [.int (1 : Int32)] M _
    refine zs_if_neT (pc := 9) t328_9 li1 (by decide) ?_
    refine zs_iconst (pc := 14) t328_14 (v := -1) (by decide) ?_
    refine zs_istore_n (pc := 15) t328_15 (ls' := [(2, .int (-1 : Int32)), (0, .ref 336), (1, .int a)]) (zml mf328 (by decide)) rfl ?_
    refine zs_iconst (pc := 16) t328_16 (v := 0) (by decide) ?_
    refine zs_istore_n (pc := 17) t328_17 (ls' := [(3, .int (0 : Int32)), (2, .int (-1 : Int32)), (0, .ref 336), (1, .int a)]) (zml mf328 (by decide)) rfl ?_
    refine zs_iconst (pc := 18) t328_18 (v := 0) (by decide) ?_
    refine zs_istore (pc := 19) t328_19 (ls' := [(4, .int (0 : Int32)), (3, .int (0 : Int32)), (2, .int (-1 : Int32)), (0, .ref 336), (1, .int a)]) (zml mf328 (by decide)) rfl ?_
    refine zs_iconst (pc := 21) t328_21 (v := 2) (by decide) ?_
    refine zs_istore (pc := 22) t328_22 (ls' := [(5, .int (2 : Int32)), (4, .int (0 : Int32)), (3, .int (0 : Int32)), (2, .int (-1 : Int32)), (0, .ref 336), (1, .int a)]) (zml mf328 (by decide)) rfl ?_
    have w8L : ∀ (m : Nat) (w8x2 : Int32) (w8x3 : Int32) (w8x4 : Int32) (w8x5 : Int32) (w8M : zM), ((-1) ≤ w8x2.toInt ∧ w8x2.toInt ≤ 8) → (2 ≤ w8x5.toInt ∧ w8x5.toInt ≤ 9) → zSk zMm w8M → zIv mLo mHi w8M → zFr [(344, 344, none), (349, 349, none), (350, 350, none), (343, 343, none), (345, 345, none), (346, 346, none), (347, 347, none), (348, 348, none), (336, 336, some 22), (336, 336, some 18), (336, 336, some 19), (336, 336, some 20), (336, 336, some 21)] M w8M → zJ w8M 351 = zJ M 351 → 9 - w8x5.toInt ≤ (m : Int) → zGo X l 6 0 0 328 24 [(0, .ref 336), (1, .int a), (2, .int w8x2), (3, .int w8x3), (4, .int w8x4), (5, .int w8x5)] [] w8M Q := by
      intro m
      induction m using Nat.strongRecOn with
      | ind w8m w8ih =>
        intro w8x2 w8x3 w8x4 w8x5 w8M w8b2 w8b5 w8s w8I w8F w8J w8q
        have w8g3 := zrg w8x3
        have w8g4 := zrg w8x4
        refine zs_iload (pc := 24) t328_24 rfl ?_
        refine zs_bipush (pc := 26) t328_26 (v := 8) (by decide) ?_
        by_cases w9 : 8 < w8x5.toInt
        · refine zs_icmp_gtT (pc := 28) t328_28 rfl li8 (by omega) ?_
          refine zs_aload_n (pc := 86) t328_86 rfl ?_
          refine zs_iconst (pc := 87) t328_87 (v := 0) (by decide) ?_
          have w10 : zIv mLo mHi (zsI w8M 336 3 (0 : Int32)) := zIv.put w8I (show 0 ≤ (0 : Int32).toInt ∧ (0 : Int32).toInt ≤ 1 from ⟨by decide, by decide⟩)
          have w11 : zPF (zsI w8M 336 3 (0 : Int32)) := zPF.off
          refine zs_putI (pc := 88) t328_88 (zk1 (w8s.k fk_zMm_336)) (by decide) ?_
          refine zs_iload_n (pc := 91) t328_91 rfl ?_
          by_cases w12 : a.toInt ≠ 0
          · refine zs_if_neT (pc := 92) t328_92 rfl (by omega) ?_
            refine zs_iload_n (pc := 99) t328_99 rfl ?_
            refine zs_iconst (pc := 100) t328_100 (v := 1) (by decide) ?_
            by_cases w13 : a.toInt ≠ 1
            · refine zs_icmp_neT (pc := 101) t328_101 rfl li1 (by omega) ?_
              refine zs_iload (pc := 108) t328_108 rfl ?_
              have w14 : (zI (zsI w8M 336 3 (0 : Int32)) 336 3).toInt = 0 := (congrArg Int32.toInt zIs).trans li0
              exact zs_iret (pc := 110) t328_110 mr328 rfl (hQ _ _ w8s w10 (((zFr.refl).trans (w8F.mono rfl)).put rfl) (zPR.fr (M' := (zsI w8M 336 3 (0 : Int32))) (zPR.fr pR (w8F.eq rfl)) (zEq.put rfl)) (zPC.fr (M' := (zsI w8M 336 3 (0 : Int32))) (zPC.fr pC (w8F.eq rfl)) (zEq.put rfl)) w11 (fun q => absurd (show (zI (zsI w8M 336 3 (0 : Int32)) 336 3).toInt = 0 by omega) q))
            · refine zs_icmp_neF (pc := 101) t328_101 rfl li1 (by omega) ?_
              refine zs_iload_n (pc := 104) t328_104 rfl ?_
              refine zs_goto (pc := 105) t328_105 ?_
              have w15 : (zI (zsI w8M 336 3 (0 : Int32)) 336 3).toInt = 0 := (congrArg Int32.toInt zIs).trans li0
              exact zs_iret (pc := 110) t328_110 mr328 rfl (hQ _ _ w8s w10 (((zFr.refl).trans (w8F.mono rfl)).put rfl) (zPR.fr (M' := (zsI w8M 336 3 (0 : Int32))) (zPR.fr pR (w8F.eq rfl)) (zEq.put rfl)) (zPC.fr (M' := (zsI w8M 336 3 (0 : Int32))) (zPC.fr pC (w8F.eq rfl)) (zEq.put rfl)) w11 (fun q => absurd (show (zI (zsI w8M 336 3 (0 : Int32)) 336 3).toInt = 0 by omega) q))
          · refine zs_if_neF (pc := 92) t328_92 rfl (by omega) ?_
            refine zs_iload_n (pc := 95) t328_95 rfl ?_
            refine zs_goto (pc := 96) t328_96 ?_
            have w16 : (zI (zsI w8M 336 3 (0 : Int32)) 336 3).toInt = 0 := (congrArg Int32.toInt zIs).trans li0
            exact zs_iret (pc := 110) t328_110 mr328 rfl (hQ _ _ w8s w10 (((zFr.refl).trans (w8F.mono rfl)).put rfl) (zPR.fr (M' := (zsI w8M 336 3 (0 : Int32))) (zPR.fr pR (w8F.eq rfl)) (zEq.put rfl)) (zPC.fr (M' := (zsI w8M 336 3 (0 : Int32))) (zPC.fr pC (w8F.eq rfl)) (zEq.put rfl)) w11 (fun q => absurd (show (zI (zsI w8M 336 3 (0 : Int32)) 336 3).toInt = 0 by omega) q))
        · refine zs_icmp_gtF (pc := 28) t328_28 rfl li8 (by omega) ?_
          refine zs_aload_n (pc := 31) t328_31 rfl ?_
          refine zs_iload (pc := 32) t328_32 rfl ?_
          refine zs_iconst (pc := 34) t328_34 (v := -1) (by decide) ?_
          refine zs_invV (pc := 35) (k := 336) (as' := [.int w8x5, .int (-1 : Int32)]) (st := []) t328_35 mf269 rfl rfl (Or.inl ⟨by decide, (zk1 (w8s.k fk_zMm_336))⟩) ⟨by decide, by decide, Nat.le_of_ble_eq_true rfl, Nat.le_of_ble_eq_true rfl⟩ (K269 w8s w8I (zPR.fr pR (w8F.eq rfl)) ⟨by omega, by omega⟩ ?_) (fun _ _ q => q)
          intro w17M w17s w17I w17F w17J w17PT
          show zGo X l 6 0 0 328 38 [(0, .ref 336), (1, .int a), (2, .int w8x2), (3, .int w8x3), (4, .int w8x4), (5, .int w8x5)] [] w17M _
          refine zs_aload_n (pc := 38) t328_38 rfl ?_
          refine zs_invV (pc := 39) (k := 336) (as' := []) (st := []) t328_39 mf329 rfl rfl (Or.inl ⟨by decide, (zk1 (w17s.k fk_zMm_336))⟩) ⟨by decide, by decide, Nat.le_of_ble_eq_true rfl, Nat.le_of_ble_eq_true rfl⟩ (K329 w17s w17I ?_) (fun _ _ q => q)
          intro w18v
          have w18g := zrg w18v
          show zGo X l 6 0 0 328 42 [(0, .ref 336), (1, .int a), (2, .int w8x2), (3, .int w8x3), (4, .int w8x4), (5, .int w8x5)] [.int w18v] w17M _
          refine zs_istore (pc := 42) t328_42 (ls' := [(6, .int w18v), (0, .ref 336), (1, .int a), (2, .int w8x2), (3, .int w8x3), (4, .int w8x4), (5, .int w8x5)]) (zml mf328 (by decide)) rfl ?_
          refine zs_aload_n (pc := 44) t328_44 rfl ?_
          refine zs_invV (pc := 45) (k := 336) (as' := []) (st := []) t328_45 mf330 rfl rfl (Or.inl ⟨by decide, (zk1 (w17s.k fk_zMm_336))⟩) ⟨by decide, by decide, Nat.le_of_ble_eq_true rfl, Nat.le_of_ble_eq_true rfl⟩ (K330 w17s w17I ?_) (fun _ _ q => q)
          intro w19v
          have w19g := zrg w19v
          show zGo X l 6 0 0 328 48 [(6, .int w18v), (0, .ref 336), (1, .int a), (2, .int w8x2), (3, .int w8x3), (4, .int w8x4), (5, .int w8x5)] [.int w19v] w17M _
          refine zs_istore (pc := 48) t328_48 (ls' := [(7, .int w19v), (6, .int w18v), (0, .ref 336), (1, .int a), (2, .int w8x2), (3, .int w8x3), (4, .int w8x4), (5, .int w8x5)]) (zml mf328 (by decide)) rfl ?_
          refine zs_iload_n (pc := 50) t328_50 rfl ?_
          refine zs_iconst (pc := 51) t328_51 (v := -1) (by decide) ?_
          by_cases w20 : w8x2.toInt = (-1)
          · refine zs_icmp_eqT (pc := 52) t328_52 rfl lin1 (by omega) ?_
            refine zs_iload (pc := 70) t328_70 rfl ?_
            refine zs_istore_n (pc := 72) t328_72 (ls' := [(2, .int w8x5), (7, .int w19v), (6, .int w18v), (0, .ref 336), (1, .int a), (3, .int w8x3), (4, .int w8x4), (5, .int w8x5)]) (zml mf328 (by decide)) rfl ?_
            refine zs_iload (pc := 73) t328_73 rfl ?_
            refine zs_istore_n (pc := 75) t328_75 (ls' := [(3, .int w18v), (2, .int w8x5), (7, .int w19v), (6, .int w18v), (0, .ref 336), (1, .int a), (4, .int w8x4), (5, .int w8x5)]) (zml mf328 (by decide)) rfl ?_
            refine zs_iload (pc := 76) t328_76 rfl ?_
            refine zs_istore (pc := 78) t328_78 (ls' := [(4, .int w19v), (3, .int w18v), (2, .int w8x5), (7, .int w19v), (6, .int w18v), (0, .ref 336), (1, .int a), (5, .int w8x5)]) (zml mf328 (by decide)) rfl ?_
            obtain ⟨w21v, w21e, w21⟩ := ziadd (a := w8x5) (b := Int32.ofInt 1) rfl (show (Int32.ofInt 1).toInt = 1 by decide) (by omega) (by omega)
            refine zs_iinc (pc := 80) t328_80 (ls' := [(5, .int w21v), (4, .int w19v), (3, .int w18v), (2, .int w8x5), (7, .int w19v), (6, .int w18v), (0, .ref 336), (1, .int a)]) (zml mf328 (by decide)) rfl (c := w21v) w21e rfl ?_
            refine zs_goto (pc := 83) t328_83 ?_
            refine zGo.locals (ls' := [(0, .ref 336), (1, .int a), (2, .int w8x5), (3, .int w18v), (4, .int w19v), (5, .int w21v)]) (by simp) ?_
            have w22 := w21
            exact w8ih (w8m - 1) (by omega) w8x5 w18v w19v w21v w17M ⟨by omega, by omega⟩ ⟨by omega, by omega⟩ w17s w17I (((zFr.refl).trans (w8F.mono rfl)).trans (w17F.mono rfl)) (w17J.trans w8J) (by omega)
          · refine zs_icmp_eqF (pc := 52) t328_52 rfl lin1 (by omega) ?_
            refine zs_iload (pc := 55) t328_55 rfl ?_
            refine zs_iload (pc := 57) t328_57 rfl ?_
            obtain ⟨w23v, w23⟩ : ∃ v, v = w18v - w19v := ⟨_, rfl⟩
            have w23g := zrg w23v
            refine zs_isub (pc := 59) t328_59 (c := w23v) w23.symm ?_
            refine zs_iload_n (pc := 60) t328_60 rfl ?_
            refine zs_iload (pc := 61) t328_61 rfl ?_
            obtain ⟨w24v, w24⟩ : ∃ v, v = w8x3 - w8x4 := ⟨_, rfl⟩
            have w24g := zrg w24v
            refine zs_isub (pc := 63) t328_63 (c := w24v) w24.symm ?_
            by_cases w25 : w24v.toInt < w23v.toInt
            · refine zs_icmp_gtT (pc := 64) t328_64 rfl rfl (by omega) ?_
              refine zs_iload (pc := 70) t328_70 rfl ?_
              refine zs_istore_n (pc := 72) t328_72 (ls' := [(2, .int w8x5), (7, .int w19v), (6, .int w18v), (0, .ref 336), (1, .int a), (3, .int w8x3), (4, .int w8x4), (5, .int w8x5)]) (zml mf328 (by decide)) rfl ?_
              refine zs_iload (pc := 73) t328_73 rfl ?_
              refine zs_istore_n (pc := 75) t328_75 (ls' := [(3, .int w18v), (2, .int w8x5), (7, .int w19v), (6, .int w18v), (0, .ref 336), (1, .int a), (4, .int w8x4), (5, .int w8x5)]) (zml mf328 (by decide)) rfl ?_
              refine zs_iload (pc := 76) t328_76 rfl ?_
              refine zs_istore (pc := 78) t328_78 (ls' := [(4, .int w19v), (3, .int w18v), (2, .int w8x5), (7, .int w19v), (6, .int w18v), (0, .ref 336), (1, .int a), (5, .int w8x5)]) (zml mf328 (by decide)) rfl ?_
              obtain ⟨w26v, w26e, w26⟩ := ziadd (a := w8x5) (b := Int32.ofInt 1) rfl (show (Int32.ofInt 1).toInt = 1 by decide) (by omega) (by omega)
              refine zs_iinc (pc := 80) t328_80 (ls' := [(5, .int w26v), (4, .int w19v), (3, .int w18v), (2, .int w8x5), (7, .int w19v), (6, .int w18v), (0, .ref 336), (1, .int a)]) (zml mf328 (by decide)) rfl (c := w26v) w26e rfl ?_
              refine zs_goto (pc := 83) t328_83 ?_
              refine zGo.locals (ls' := [(0, .ref 336), (1, .int a), (2, .int w8x5), (3, .int w18v), (4, .int w19v), (5, .int w26v)]) (by simp) ?_
              have w27 := w26
              exact w8ih (w8m - 1) (by omega) w8x5 w18v w19v w26v w17M ⟨by omega, by omega⟩ ⟨by omega, by omega⟩ w17s w17I (((zFr.refl).trans (w8F.mono rfl)).trans (w17F.mono rfl)) (w17J.trans w8J) (by omega)
            · refine zs_icmp_gtF (pc := 64) t328_64 rfl rfl (by omega) ?_
              refine zs_goto (pc := 67) t328_67 ?_
              obtain ⟨w28v, w28e, w28⟩ := ziadd (a := w8x5) (b := Int32.ofInt 1) rfl (show (Int32.ofInt 1).toInt = 1 by decide) (by omega) (by omega)
              refine zs_iinc (pc := 80) t328_80 (ls' := [(5, .int w28v), (7, .int w19v), (6, .int w18v), (0, .ref 336), (1, .int a), (2, .int w8x2), (3, .int w8x3), (4, .int w8x4)]) (zml mf328 (by decide)) rfl (c := w28v) w28e rfl ?_
              refine zs_goto (pc := 83) t328_83 ?_
              refine zGo.locals (ls' := [(0, .ref 336), (1, .int a), (2, .int w8x2), (3, .int w8x3), (4, .int w8x4), (5, .int w28v)]) (by simp) ?_
              have w29 := w28
              exact w8ih (w8m - 1) (by omega) w8x2 w8x3 w8x4 w28v w17M ⟨by omega, by omega⟩ ⟨by omega, by omega⟩ w17s w17I (((zFr.refl).trans (w8F.mono rfl)).trans (w17F.mono rfl)) (w17J.trans w8J) (by omega)
    refine zGo.locals (ls' := [(0, .ref 336), (1, .int a), (2, .int (-1 : Int32)), (3, .int (0 : Int32)), (4, .int (0 : Int32)), (5, .int (2 : Int32))]) (by simp) ?_
    have w30 := lin1
    have w31 := li0
    have w32 := li0
    have w33 := li2
    exact w8L ((9 - 2 : Int).toNat) (-1 : Int32) (0 : Int32) (0 : Int32) (2 : Int32) M ⟨by decide, by decide⟩ ⟨by decide, by decide⟩ hs hI zFr.refl rfl (by omega)
  · refine zs_invS (pc := 6) (as := [.long a.toInt64, .long (0 : Int64), .long (2 : Int64)]) (st := []) t328_6 (by decide) mf228 rfl rfl ⟨by decide, by decide, Nat.le_of_ble_eq_true rfl, Nat.le_of_ble_eq_true rfl⟩ (K228F (zi2l rfl) ll0 ll2 (by omega) ?_) (fun _ _ q => q)
    show zGo X l 6 0 0 328 9 [(0, .ref 336), (1, .int a)] [.int (0 : Int32)] M _
    refine zs_if_neF (pc := 9) t328_9 li0 (by decide) ?_
    refine zs_iconst (pc := 12) t328_12 (v := -1) (by decide) ?_
    have w34 : (-1 : Int32).toInt = (-1) := lin1
    exact zs_iret (pc := 13) t328_13 mr328 (by decide) (hQ _ _ hs hI (zFr.refl) pR pC pF x2)
