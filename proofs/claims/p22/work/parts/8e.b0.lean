theorem Q267 {X : zX} {l : Launch} {M : zM} {Q : Option Value → zM → Prop} {a : Int32} (hs : zSk zMm M) (hI : zIv mLo mHi M) {F : Nat → Int} (pR : zPR M) (pF : zPF M) (x0 : zRw M 0 F) (x1 : zWF F) (x2 : zKnB M F) (hQ : ∀ (M' : zM) (v : Int32), zSk zMm M' → zIv mLo mHi M' → zFr [(336, 336, some 3), (336, 336, some 18), (336, 336, some 19), (336, 336, some 20), (336, 336, some 21), (336, 336, some 22), (336, 336, some 37), (336, 336, some 39), (336, 336, some 42), (336, 336, some 43), (336, 336, some 44), (336, 336, some 45), (342, 361, none)] M M' → zPF M' → zPD M' → zPV M' → (zKnB M' F) → Q (some (.int v)) M') : zCall X l 7 0 0 267 [.ref 336, .int a] M Q := by
  have ga := zrg a
  refine zs_in (by decide) mf267 (Nat.le_of_ble_eq_true rfl) ?_
  show zGo X l 7 0 0 267 0 [(0, .ref 336), (1, .int a)] [] M _
  have f1 := x1.1
  have f3 := x1.2.2.2
  have w1 := ibA0 hI
  have w2 : (zI M 337 0).toInt = (zI M 337 0).toInt := (congrArg Int32.toInt rfl).trans rfl
  have e0 : (zI M 337 0).toInt = F 0 := x0.at (by decide) (by decide) (by decide)
  have w3 := ibA1 hI
  have w4 : (zI M 337 1).toInt = (zI M 337 1).toInt := (congrArg Int32.toInt rfl).trans rfl
  have e1 : (zI M 337 1).toInt = F 1 := x0.at (by decide) (by decide) (by decide)
  have w5 := ibA2 hI
  have w6 : (zI M 337 2).toInt = (zI M 337 2).toInt := (congrArg Int32.toInt rfl).trans rfl
  have e2 : (zI M 337 2).toInt = F 2 := x0.at (by decide) (by decide) (by decide)
  refine zs_aload_n (pc := 0) t267_0 rfl ?_
  refine zs_invV (pc := 1) (k := 336) (as' := []) (st := []) t267_1 mf268 rfl rfl (Or.inl ⟨by decide, (zk1 (hs.k fk_zMm_336))⟩) ⟨by decide, by decide, Nat.le_of_ble_eq_true rfl, Nat.le_of_ble_eq_true rfl⟩ (U268 hs hI pR pF x0 x1 x2 ?_) (fun _ _ q => q)
  intro w7M w7s w7I w7F w7PF w7PD w7PV w7x0 w7x1
  show zGo X l 7 0 0 267 4 [(0, .ref 336), (1, .int a)] [] w7M _
  have w7kb : zKnB w7M F := fun _ => w7x0
  refine zs_iload_n (pc := 4) t267_4 rfl ?_
  by_cases w8 : a.toInt = 0
  · refine zs_tswI (pc := 5) t267_5 ((rfl : a.toInt = a.toInt).trans w8) (by decide) rfl (pc2 := 48) rfl ?_
    refine zs_aload_n (pc := 48) t267_48 rfl ?_
    have w9 := ib336_22 w7I
    refine zs_get (pc := 49) t267_49 (by decide) (zk1 (w7s.k fk_zMm_336)) (zfvi rfl rfl) ?_
    exact zs_iret (pc := 52) t267_52 mr267 rfl (hQ _ _ w7s w7I ((zFr.refl).trans (w7F.mono rfl)) w7PF w7PD w7PV w7kb)
  by_cases w10 : a.toInt = 1
  · refine zs_tswI (pc := 5) t267_5 ((rfl : a.toInt = a.toInt).trans w10) (by decide) rfl (pc2 := 53) rfl ?_
    refine zs_aload_n (pc := 53) t267_53 rfl ?_
    refine zs_iconst (pc := 54) t267_54 (v := -1) (by decide) ?_
    refine zs_invV (pc := 55) (k := 336) (as' := [.int (-1 : Int32)]) (st := []) t267_55 mf290 rfl rfl (Or.inl ⟨by decide, (zk1 (w7s.k fk_zMm_336))⟩) ⟨by decide, by decide, Nat.le_of_ble_eq_true rfl, Nat.le_of_ble_eq_true rfl⟩ (R290n w7s w7I (zRw.fr' x0 (fun j hj => (w7F 337 j rfl))) x1 ?_) (fun _ _ q => q)
    intro w11v w11x0
    have w11g := zrg w11v
    show zGo X l 7 0 0 267 58 [(0, .ref 336), (1, .int a)] [.int w11v] w7M _
    exact zs_iret (pc := 58) t267_58 mr267 rfl (hQ _ _ w7s w7I ((zFr.refl).trans (w7F.mono rfl)) w7PF w7PD w7PV w7kb)
  by_cases w12 : a.toInt = 2
  · refine zs_tswI (pc := 5) t267_5 ((rfl : a.toInt = a.toInt).trans w12) (by decide) rfl (pc2 := 59) rfl ?_
    refine zs_aload_n (pc := 59) t267_59 rfl ?_
    have w13 := ib336_37 w7I
    refine zs_get (pc := 60) t267_60 (by decide) (zk1 (w7s.k fk_zMm_336)) (zfvi rfl rfl) ?_
    exact zs_iret (pc := 63) t267_63 mr267 rfl (hQ _ _ w7s w7I ((zFr.refl).trans (w7F.mono rfl)) w7PF w7PD w7PV w7kb)
  by_cases w14 : a.toInt = 3
  · refine zs_tswI (pc := 5) t267_5 ((rfl : a.toInt = a.toInt).trans w14) (by decide) rfl (pc2 := 64) rfl ?_
    refine zs_aload_n (pc := 64) t267_64 rfl ?_
    have w15 := ib336_39 w7I
    refine zs_get (pc := 65) t267_65 (by decide) (zk1 (w7s.k fk_zMm_336)) (zfvi rfl rfl) ?_
    exact zs_iret (pc := 68) t267_68 mr267 rfl (hQ _ _ w7s w7I ((zFr.refl).trans (w7F.mono rfl)) w7PF w7PD w7PV w7kb)
  by_cases w16 : a.toInt = 4
  · refine zs_tswI (pc := 5) t267_5 ((rfl : a.toInt = a.toInt).trans w16) (by decide) rfl (pc2 := 69) rfl ?_
    refine zs_aload_n (pc := 69) t267_69 rfl ?_
    refine zs_aload_n (pc := 70) t267_70 rfl ?_
    refine zs_get (pc := 71) t267_71 (by decide) (zk1 (w7s.k fk_zMm_336)) (w7s.p rfl fv_zMm_336_26) ?_
    refine zs_aload_n (pc := 74) t267_74 rfl ?_
    have w17 := ib336_22 w7I
    refine zs_get (pc := 75) t267_75 (by decide) (zk1 (w7s.k fk_zMm_336)) (zfvi rfl rfl) ?_
    refine zs_invV (pc := 78) (k := 336) (as' := [.ref 348, .int (zI w7M 336 22)]) (st := []) t267_78 mf291 rfl rfl (Or.inl ⟨by decide, (zk1 (w7s.k fk_zMm_336))⟩) ⟨by decide, by decide, Nat.le_of_ble_eq_true rfl, Nat.le_of_ble_eq_true rfl⟩ (K291_348 w7s w7I ⟨by omega, by omega⟩ ?_) (fun _ _ q => q)
    intro w18v
    have w18g := zrg w18v
    show zGo X l 7 0 0 267 81 [(0, .ref 336), (1, .int a)] [.int w18v] w7M _
    exact zs_iret (pc := 81) t267_81 mr267 rfl (hQ _ _ w7s w7I ((zFr.refl).trans (w7F.mono rfl)) w7PF w7PD w7PV w7kb)
  by_cases w19 : a.toInt = 5
  · refine zs_tswI (pc := 5) t267_5 ((rfl : a.toInt = a.toInt).trans w19) (by decide) rfl (pc2 := 82) rfl ?_
    refine zs_aload_n (pc := 82) t267_82 rfl ?_
    refine zs_invV (pc := 83) (k := 336) (as' := []) (st := []) t267_83 mf292 rfl rfl (Or.inl ⟨by decide, (zk1 (w7s.k fk_zMm_336))⟩) ⟨by decide, by decide, Nat.le_of_ble_eq_true rfl, Nat.le_of_ble_eq_true rfl⟩ (O292 w7s w7I (zRw.fr' x0 (fun j hj => (w7F 337 j rfl))) x1 ?_) (fun _ _ q => q)
    intro w20v w20x0
    have w20g := zrg w20v
    show zGo X l 7 0 0 267 86 [(0, .ref 336), (1, .int a)] [.int w20v] w7M _
    exact zs_iret (pc := 86) t267_86 mr267 rfl (hQ _ _ w7s w7I ((zFr.refl).trans (w7F.mono rfl)) w7PF w7PD w7PV w7kb)
  by_cases w21 : a.toInt = 6
  · refine zs_tswI (pc := 5) t267_5 ((rfl : a.toInt = a.toInt).trans w21) (by decide) rfl (pc2 := 87) rfl ?_
    refine zs_aload_n (pc := 87) t267_87 rfl ?_
    refine zs_invV (pc := 88) (k := 336) (as' := []) (st := []) t267_88 mf293 rfl rfl (Or.inl ⟨by decide, (zk1 (w7s.k fk_zMm_336))⟩) ⟨by decide, by decide, Nat.le_of_ble_eq_true rfl, Nat.le_of_ble_eq_true rfl⟩ (K293 w7s w7I ?_) (fun _ _ q => q)
    intro w22v
    have w22g := zrg w22v
    show zGo X l 7 0 0 267 91 [(0, .ref 336), (1, .int a)] [.int w22v] w7M _
    exact zs_iret (pc := 91) t267_91 mr267 rfl (hQ _ _ w7s w7I ((zFr.refl).trans (w7F.mono rfl)) w7PF w7PD w7PV w7kb)
  refine zs_tswD (pc := 5) t267_5 rfl (by omega) (pc2 := 92) rfl ?_
  refine zs_aload_n (pc := 92) t267_92 rfl ?_
  refine zs_aload_n (pc := 93) t267_93 rfl ?_
  refine zs_get (pc := 94) t267_94 (by decide) (zk1 (w7s.k fk_zMm_336)) (w7s.p rfl fv_zMm_336_34) ?_
  refine zs_aload_n (pc := 97) t267_97 rfl ?_
  have w23 := ib336_37 w7I
  refine zs_get (pc := 98) t267_98 (by decide) (zk1 (w7s.k fk_zMm_336)) (zfvi rfl rfl) ?_
  refine zs_invV (pc := 101) (k := 336) (as' := [.ref 356, .int (zI w7M 336 37)]) (st := []) t267_101 mf291 rfl rfl (Or.inl ⟨by decide, (zk1 (w7s.k fk_zMm_336))⟩) ⟨by decide, by decide, Nat.le_of_ble_eq_true rfl, Nat.le_of_ble_eq_true rfl⟩ (K291_356 w7s w7I ⟨by omega, by omega⟩ ?_) (fun _ _ q => q)
  intro w24v
  have w24g := zrg w24v
  show zGo X l 7 0 0 267 104 [(0, .ref 336), (1, .int a)] [.int w24v] w7M _
  exact zs_iret (pc := 104) t267_104 mr267 rfl (hQ _ _ w7s w7I ((zFr.refl).trans (w7F.mono rfl)) w7PF w7PD w7PV w7kb)
theorem Q322 {X : zX} {l : Launch} {M : zM} {Q : Option Value → zM → Prop} (hs : zSk zMm M) (hI : zIv mLo mHi M) {F : Nat → Int} (pR : zPR M) (pF : zPF M) (x0 : zRw M 0 F) (x1 : zWF F) (x2 : zKnB M F) (hQ : ∀ (M' : zM) (v : Int32), zSk zMm M' → zIv mLo mHi M' → zFr [(336, 336, some 3), (336, 336, some 18), (336, 336, some 19), (336, 336, some 20), (336, 336, some 21), (336, 336, some 22), (336, 336, some 37), (336, 336, some 39), (336, 336, some 42), (336, 336, some 43), (336, 336, some 44), (336, 336, some 45), (342, 361, none)] M M' → zPF M' → zPD M' → zPV M' → (zKnB M' F) → Q (some (.int v)) M') : zCall X l 7 0 0 322 [.ref 336] M Q := by
  refine zs_in (by decide) mf322 (Nat.le_of_ble_eq_true rfl) ?_
  show zGo X l 7 0 0 322 0 [(0, .ref 336)] [] M _
  have f1 := x1.1
  have f3 := x1.2.2.2
  have w1 := ibA0 hI
  have w2 : (zI M 337 0).toInt = (zI M 337 0).toInt := (congrArg Int32.toInt rfl).trans rfl
  have e0 : (zI M 337 0).toInt = F 0 := x0.at (by decide) (by decide) (by decide)
  have w3 := ibA1 hI
  have w4 : (zI M 337 1).toInt = (zI M 337 1).toInt := (congrArg Int32.toInt rfl).trans rfl
  have e1 : (zI M 337 1).toInt = F 1 := x0.at (by decide) (by decide) (by decide)
  have w5 := ibA2 hI
  have w6 : (zI M 337 2).toInt = (zI M 337 2).toInt := (congrArg Int32.toInt rfl).trans rfl
  have e2 : (zI M 337 2).toInt = F 2 := x0.at (by decide) (by decide) (by decide)
  refine zs_aload_n (pc := 0) t322_0 rfl ?_
  refine zs_invV (pc := 1) (k := 336) (as' := []) (st := []) t322_1 mf268 rfl rfl (Or.inl ⟨by decide, (zk1 (hs.k fk_zMm_336))⟩) ⟨by decide, by decide, Nat.le_of_ble_eq_true rfl, Nat.le_of_ble_eq_true rfl⟩ (U268 hs hI pR pF x0 x1 x2 ?_) (fun _ _ q => q)
  intro w7M w7s w7I w7F w7PF w7PD w7PV w7x0 w7x1
  show zGo X l 7 0 0 322 4 [(0, .ref 336)] [] w7M _
  have w7kb : zKnB w7M F := fun _ => w7x0
  refine zs_aload_n (pc := 4) t322_4 rfl ?_
  refine zs_iconst (pc := 5) t322_5 (v := -1) (by decide) ?_
  refine zs_invV (pc := 6) (k := 336) (as' := [.int (-1 : Int32)]) (st := []) t322_6 mf290 rfl rfl (Or.inl ⟨by decide, (zk1 (w7s.k fk_zMm_336))⟩) ⟨by decide, by decide, Nat.le_of_ble_eq_true rfl, Nat.le_of_ble_eq_true rfl⟩ (R290n w7s w7I (zRw.fr' x0 (fun j hj => (w7F 337 j rfl))) x1 ?_) (fun _ _ q => q)
  intro w8v w8x0
  have w8g := zrg w8v
  show zGo X l 7 0 0 322 9 [(0, .ref 336)] [.int w8v] w7M _
  refine zs_iconst (pc := 9) t322_9 (v := 2) (by decide) ?_
  refine zs_aload_n (pc := 10) t322_10 rfl ?_
  refine zs_get (pc := 11) t322_11 (by decide) (zk1 (w7s.k fk_zMm_336)) (w7s.p rfl fv_zMm_336_0) ?_
  refine zs_iconst (pc := 14) t322_14 (v := 5) (by decide) ?_
  have w9 := ibA5 hI
  have w10 : (zI M 337 5).toInt = F 5 := x0.at (by decide) (by decide) (by decide)
  refine zs_iald (pc := 15) t322_15 (j := 5) (by decide) (zk1 (w7s.k fk_zMm_337)) li5 (zk2 (w7s.k fk_zMm_337) (by decide)) ((w7F 337 5 rfl).trans rfl) ?_
  obtain ⟨w11v, w11⟩ : ∃ v, (2 : Int32) * (zI M 337 5) = v := ⟨_, rfl⟩
  have w11g : w11v.toInt = 2 * (zI M 337 5).toInt := by rw [← w11]; exact zmulc li2 rfl (by omega) (by omega)
  refine zs_imul (pc := 16) t322_16 (c := w11v) w11 ?_
  refine zs_iconst (pc := 17) t322_17 (v := 1) (by decide) ?_
  obtain ⟨w12v, w12e, w12⟩ := ziadd (a := w11v) (b := (1 : Int32)) w11g li1 (by omega) (by omega)
  refine zs_iadd (pc := 18) t322_18 (c := w12v) w12e ?_
  obtain ⟨w13v, w13⟩ : ∃ v, w8v * w12v = v := ⟨_, rfl⟩
  have w13g := zrg w13v
  refine zs_imul (pc := 19) t322_19 (c := w13v) w13 ?_
  refine zs_iconst (pc := 20) t322_20 (v := 2) (by decide) ?_
  refine zs_aload_n (pc := 21) t322_21 rfl ?_
  refine zs_get (pc := 22) t322_22 (by decide) (zk1 (w7s.k fk_zMm_336)) (w7s.p rfl fv_zMm_336_0) ?_
  refine zs_bipush (pc := 25) t322_25 (v := 6) (by decide) ?_
  have w14 := ibA6 hI
  have w15 : (zI M 337 6).toInt = F 6 := x0.at (by decide) (by decide) (by decide)
  refine zs_iald (pc := 27) t322_27 (j := 6) (by decide) (zk1 (w7s.k fk_zMm_337)) li6 (zk2 (w7s.k fk_zMm_337) (by decide)) ((w7F 337 6 rfl).trans rfl) ?_
  obtain ⟨w16v, w16⟩ : ∃ v, (2 : Int32) * (zI M 337 6) = v := ⟨_, rfl⟩
  have w16g : w16v.toInt = 2 * (zI M 337 6).toInt := by rw [← w16]; exact zmulc li2 rfl (by omega) (by omega)
  refine zs_imul (pc := 28) t322_28 (c := w16v) w16 ?_
  refine zs_iconst (pc := 29) t322_29 (v := 1) (by decide) ?_
  obtain ⟨w17v, w17e, w17⟩ := ziadd (a := w16v) (b := (1 : Int32)) w16g li1 (by omega) (by omega)
  refine zs_iadd (pc := 30) t322_30 (c := w17v) w17e ?_
  obtain ⟨w18v, w18⟩ : ∃ v, w13v * w17v = v := ⟨_, rfl⟩
  have w18g := zrg w18v
  refine zs_imul (pc := 31) t322_31 (c := w18v) w18 ?_
  refine zs_bipush (pc := 32) t322_32 (v := 10) (by decide) ?_
  refine zs_aload_n (pc := 34) t322_34 rfl ?_
  have w19 := ib336_22 w7I
  refine zs_get (pc := 35) t322_35 (by decide) (zk1 (w7s.k fk_zMm_336)) (zfvi rfl rfl) ?_
  obtain ⟨w20v, w20⟩ : ∃ v, (10 : Int32) * (zI w7M 336 22) = v := ⟨_, rfl⟩
  have w20g : w20v.toInt = 10 * (zI w7M 336 22).toInt := by rw [← w20]; exact zmulc li10 rfl (by omega) (by omega)
  refine zs_imul (pc := 38) t322_38 (c := w20v) w20 ?_
  obtain ⟨w21v, w21⟩ : ∃ v, v = w18v + w20v := ⟨_, rfl⟩
  have w21g := zrg w21v
  refine zs_iadd (pc := 39) t322_39 (c := w21v) w21.symm ?_
  exact zs_iret (pc := 40) t322_40 mr322 rfl (hQ _ _ w7s w7I ((zFr.refl).trans (w7F.mono rfl)) w7PF w7PD w7PV w7kb)
set_option maxHeartbeats 8000000 in
theorem Q325 {X : zX} {l : Launch} {M : zM} {Q : Option Value → zM → Prop} {a b c d : Int32} (hs : zSk zMm M) (hI : zIv mLo mHi M) {F : Nat → Int} (pR : zPR M) (pF : zPF M) (ha : 1 ≤ a.toInt ∧ a.toInt ≤ 200) (hb : 1 ≤ b.toInt ∧ b.toInt ≤ 999) (hc : 1 ≤ c.toInt ∧ c.toInt ≤ 8) (hd : 0 ≤ d.toInt ∧ d.toInt ≤ 50) (x0 : zRw M 0 F) (x1 : zWF F) (x2 : zKnB M F) (hQ : ∀ M', zSk zMm M' → zIv mLo mHi M' → zFr [(336, 336, some 3), (336, 336, some 18), (336, 336, some 19), (336, 336, some 20), (336, 336, some 21), (336, 336, some 22), (336, 336, some 37), (336, 336, some 39), (336, 336, some 42), (336, 336, some 43), (336, 336, some 44), (336, 336, some 45), (342, 361, none)] M M' → zPF M' → (zKnB M' F) → Q none M') : zCall X l 8 0 0 325 [.ref 336, .int a, .int b, .int c, .int d] M Q := by
  have ga := zrg a
  have gb := zrg b
  have gc := zrg c
  have gd := zrg d
  refine zs_in (by decide) mf325 (Nat.le_of_ble_eq_true rfl) ?_
  show zGo X l 8 0 0 325 0 [(0, .ref 336), (1, .int a), (2, .int b), (3, .int c), (4, .int d)] [] M _
  have f1 := x1.1
  have f3 := x1.2.2.2
  have w1 := ibA0 hI
  have w2 : (zI M 337 0).toInt = (zI M 337 0).toInt := (congrArg Int32.toInt rfl).trans rfl
  have e0 : (zI M 337 0).toInt = F 0 := x0.at (by decide) (by decide) (by decide)
  have w3 := ibA1 hI
  have w4 : (zI M 337 1).toInt = (zI M 337 1).toInt := (congrArg Int32.toInt rfl).trans rfl
  have e1 : (zI M 337 1).toInt = F 1 := x0.at (by decide) (by decide) (by decide)
  have w5 := ibA2 hI
  have w6 : (zI M 337 2).toInt = (zI M 337 2).toInt := (congrArg Int32.toInt rfl).trans rfl
  have e2 : (zI M 337 2).toInt = F 2 := x0.at (by decide) (by decide) (by decide)
  refine zs_aload_n (pc := 0) t325_0 rfl ?_
  refine zs_invV (pc := 1) (k := 336) (as' := []) (st := []) t325_1 mf322 rfl rfl (Or.inl ⟨by decide, (zk1 (hs.k fk_zMm_336))⟩) ⟨by decide, by decide, Nat.le_of_ble_eq_true rfl, Nat.le_of_ble_eq_true rfl⟩ (Q322 hs hI pR pF x0 x1 x2 ?_) (fun _ _ q => q)
  intro w7M w7v w7s w7I w7F w7PF w7PD w7PV w7x0
  have w7g := zrg w7v
  show zGo X l 8 0 0 325 4 [(0, .ref 336), (1, .int a), (2, .int b), (3, .int c), (4, .int d)] [.int w7v] w7M _
  refine zs_aload_n (pc := 4) t325_4 rfl ?_
  refine zs_get (pc := 5) t325_5 (by decide) (zk1 (w7s.k fk_zMm_336)) (w7s.p rfl fv_zMm_336_0) ?_
  refine zs_bipush (pc := 8) t325_8 (v := 12) (by decide) ?_
  have w8 := ibA12 hI
  have w9 : (zI M 337 12).toInt = F 12 := x0.at (by decide) (by decide) (by decide)
  refine zs_iald (pc := 10) t325_10 (j := 12) (by decide) (zk1 (w7s.k fk_zMm_337)) li12 (zk2 (w7s.k fk_zMm_337) (by decide)) ((w7F 337 12 rfl).trans rfl) ?_
  obtain ⟨w10v, w10⟩ : ∃ v, v = w7v + (zI M 337 12) := ⟨_, rfl⟩
  have w10g := zrg w10v
  refine zs_iadd (pc := 11) t325_11 (c := w10v) w10.symm ?_
  refine zs_iconst (pc := 12) t325_12 (v := 1) (by decide) ?_
  obtain ⟨w11v, w11⟩ : ∃ v, v = w10v - (1 : Int32) := ⟨_, rfl⟩
  have w11g := zrg w11v
  refine zs_isub (pc := 13) t325_13 (c := w11v) w11.symm ?_
  refine zs_aload_n (pc := 14) t325_14 rfl ?_
  refine zs_get (pc := 15) t325_15 (by decide) (zk1 (w7s.k fk_zMm_336)) (w7s.p rfl fv_zMm_336_0) ?_
  refine zs_bipush (pc := 18) t325_18 (v := 12) (by decide) ?_
  have w12 : (zI M 337 12).toInt = F 12 := x0.at (by decide) (by decide) (by decide)
  refine zs_iald (pc := 20) t325_20 (j := 12) (by decide) (zk1 (w7s.k fk_zMm_337)) li12 (zk2 (w7s.k fk_zMm_337) (by decide)) ((w7F 337 12 rfl).trans rfl) ?_
  obtain ⟨w13v, w13⟩ : ∃ v, w11v / (zI M 337 12) = v := ⟨_, rfl⟩
  have w13g := zrg w13v
  refine zs_idiv (pc := 21) t325_21 (znz rfl (by omega)) (c := w13v) w13 ?_
  refine zs_istore (pc := 22) t325_22 (ls' := [(5, .int w13v), (0, .ref 336), (1, .int a), (2, .int b), (3, .int c), (4, .int d)]) (zml mf325 (by decide)) rfl ?_
  refine zs_iload (pc := 24) t325_24 rfl ?_
  refine zs_iconst (pc := 26) t325_26 (v := 1) (by decide) ?_
  by_cases w14 : 1 ≤ w13v.toInt
  · refine zs_icmp_geT (pc := 27) t325_27 rfl li1 (by omega) ?_
    refine zs_iload (pc := 34) t325_34 rfl ?_
    refine zs_istore (pc := 36) t325_36 (ls' := [(5, .int w13v), (0, .ref 336), (1, .int a), (2, .int b), (3, .int c), (4, .int d)]) (zml mf325 (by decide)) rfl ?_
    refine zs_iconst (pc := 38) t325_38 (v := 0) (by decide) ?_
    refine zs_istore (pc := 39) t325_39 (ls' := [(6, .int (0 : Int32)), (5, .int w13v), (0, .ref 336), (1, .int a), (2, .int b), (3, .int c), (4, .int d)]) (zml mf325 (by decide)) rfl ?_
    have w15L : ∀ (m : Nat) (w15x6 : Int32) (w15M : zM), (0 ≤ w15x6.toInt ∧ w15x6.toInt ≤ 8) → zSk zMm w15M → zIv mLo mHi w15M → zFr [(360, 360, none)] w7M w15M → zJ w15M 351 = zJ w7M 351 → 8 - w15x6.toInt ≤ (m : Int) → zGo X l 8 0 0 325 41 [(0, .ref 336), (1, .int a), (2, .int b), (3, .int c), (4, .int d), (5, .int w13v), (6, .int w15x6)] [] w15M Q := by
      intro m
      induction m using Nat.strongRecOn with
      | ind w15m w15ih =>
        intro w15x6 w15M w15b6 w15s w15I w15F w15J w15q
        refine zs_iload (pc := 41) t325_41 rfl ?_
        refine zs_iload_n (pc := 43) t325_43 rfl ?_
        by_cases w16 : c.toInt ≤ w15x6.toInt
        · refine zs_icmp_geT (pc := 44) t325_44 rfl rfl (by omega) ?_
          refine zs_aload_n (pc := 61) t325_61 rfl ?_
          refine zs_iconst (pc := 62) t325_62 (v := 0) (by decide) ?_
          have w17 : zIv mLo mHi (zsI w15M 336 42 (0 : Int32)) := zIv.put w15I (show (-2147483648) ≤ (0 : Int32).toInt ∧ (0 : Int32).toInt ≤ 2147483647 from zrg (0 : Int32))
          refine zs_putI (pc := 63) t325_63 (zk1 (w15s.k fk_zMm_336)) rfl ?_
          refine zs_aload_n (pc := 66) t325_66 rfl ?_
          refine zs_iconst (pc := 67) t325_67 (v := 0) (by decide) ?_
          have w18 : zIv mLo mHi (zsI (zsI w15M 336 42 (0 : Int32)) 336 43 (0 : Int32)) := zIv.put w17 (show (-2147483648) ≤ (0 : Int32).toInt ∧ (0 : Int32).toInt ≤ 2147483647 from zrg (0 : Int32))
          refine zs_putI (pc := 68) t325_68 (zk1 (w15s.k fk_zMm_336)) rfl ?_
          refine zs_aload_n (pc := 71) t325_71 rfl ?_
          refine zs_iconst (pc := 72) t325_72 (v := 0) (by decide) ?_
          have w19 : zIv mLo mHi (zsI (zsI (zsI w15M 336 42 (0 : Int32)) 336 43 (0 : Int32)) 336 44 (0 : Int32)) := zIv.put w18 (show (-2147483648) ≤ (0 : Int32).toInt ∧ (0 : Int32).toInt ≤ 2147483647 from zrg (0 : Int32))
          refine zs_putI (pc := 73) t325_73 (zk1 (w15s.k fk_zMm_336)) rfl ?_
          refine zs_aload_n (pc := 76) t325_76 rfl ?_
          refine zs_iconst (pc := 77) t325_77 (v := 0) (by decide) ?_
          have w20 : zIv mLo mHi (zsI (zsI (zsI (zsI w15M 336 42 (0 : Int32)) 336 43 (0 : Int32)) 336 44 (0 : Int32)) 336 45 (0 : Int32)) := zIv.put w19 (show (-2147483648) ≤ (0 : Int32).toInt ∧ (0 : Int32).toInt ≤ 2147483647 from zrg (0 : Int32))
          refine zs_putI (pc := 78) t325_78 (zk1 (w15s.k fk_zMm_336)) rfl ?_
          refine zs_iconst (pc := 81) t325_81 (v := 0) (by decide) ?_
          refine zs_istore (pc := 82) t325_82 (ls' := [(6, .int (0 : Int32)), (0, .ref 336), (1, .int a), (2, .int b), (3, .int c), (4, .int d), (5, .int w13v)]) (zml mf325 (by decide)) rfl ?_
          refine zs_iconst (pc := 84) t325_84 (v := 0) (by decide) ?_
          refine zs_istore (pc := 85) t325_85 (ls' := [(7, .int (0 : Int32)), (6, .int (0 : Int32)), (0, .ref 336), (1, .int a), (2, .int b), (3, .int c), (4, .int d), (5, .int w13v)]) (zml mf325 (by decide)) rfl ?_
          have w21L : ∀ (m : Nat) (w21x6 : Int32) (w21x7 : Int32) (w21M : zM), (0 ≤ w21x6.toInt ∧ w21x6.toInt ≤ 200) → (0 ≤ w21x7.toInt ∧ w21x7.toInt ≤ 200) → zSk zMm w21M → zIv mLo mHi w21M → zFr [(360, 360, none), (361, 361, none), (336, 336, some 42), (336, 336, some 43), (336, 336, some 44), (336, 336, some 45)] (zsI (zsI (zsI (zsI w15M 336 42 (0 : Int32)) 336 43 (0 : Int32)) 336 44 (0 : Int32)) 336 45 (0 : Int32)) w21M → zJ w21M 351 = zJ (zsI (zsI (zsI (zsI w15M 336 42 (0 : Int32)) 336 43 (0 : Int32)) 336 44 (0 : Int32)) 336 45 (0 : Int32)) 351 → (w21x6.toInt ≤ w21x7.toInt) → 200 - w21x7.toInt ≤ (m : Int) → zGo X l 8 0 0 325 87 [(0, .ref 336), (1, .int a), (2, .int b), (3, .int c), (4, .int d), (5, .int w13v), (6, .int w21x6), (7, .int w21x7)] [] w21M Q := by
            intro m
            induction m using Nat.strongRecOn with
            | ind w21m w21ih =>
              intro w21x6 w21x7 w21M w21b6 w21b7 w21s w21I w21F w21J w21r0 w21q
              refine zs_iload (pc := 87) t325_87 rfl ?_
              refine zs_iload_n (pc := 89) t325_89 rfl ?_
              by_cases w22 : a.toInt ≤ w21x7.toInt
              · refine zs_icmp_geT (pc := 90) t325_90 rfl rfl (by omega) ?_
                exact zs_vret (pc := 368) t325_368 mr325 (hQ _ w21s w21I ((((((((zFr.refl).trans (w7F.mono rfl)).trans (w15F.mono rfl)).put rfl).put rfl).put rfl).put rfl).trans (w21F.mono rfl)) (zPF.fr (zPF.fr (M' := (zsI (zsI (zsI (zsI w15M 336 42 (0 : Int32)) 336 43 (0 : Int32)) 336 44 (0 : Int32)) 336 45 (0 : Int32))) (zPF.fr (M' := (zsI (zsI (zsI w15M 336 42 (0 : Int32)) 336 43 (0 : Int32)) 336 44 (0 : Int32))) (zPF.fr (M' := (zsI (zsI w15M 336 42 (0 : Int32)) 336 43 (0 : Int32))) (zPF.fr (M' := (zsI w15M 336 42 (0 : Int32))) (zPF.fr w7PF (w15F.eq rfl) w15J) (zEq.put rfl) rfl) (zEq.put rfl) rfl) (zEq.put rfl) rfl) (zEq.put rfl) rfl) (w21F.eq rfl) w21J) (zKnB.fr w7x0 ((w21F 336 3 rfl).trans ((zIoj (by decide)).trans ((zIoj (by decide)).trans ((zIoj (by decide)).trans ((zIoj (by decide)).trans (w15F 336 3 rfl)))))) ((w21F 336 22 rfl).trans ((zIoj (by decide)).trans ((zIoj (by decide)).trans ((zIoj (by decide)).trans ((zIoj (by decide)).trans (w15F 336 22 rfl)))))) ((((((((zFr.refl).trans (w15F.mono rfl)).put rfl).put rfl).put rfl).put rfl).trans (w21F.mono rfl)).eq (W := [(336, 336, some 37), (336, 336, some 39), (336, 336, some 42), (336, 336, some 43), (336, 336, some 44), (336, 336, some 45), (336, 336, some 18), (336, 336, some 19), (336, 336, some 20), (336, 336, some 21), (342, 344, none), (351, 361, none)]) rfl)))
              · refine zs_icmp_geF (pc := 90) t325_90 rfl rfl (by omega) ?_
                refine zs_iload (pc := 93) t325_93 rfl ?_
                refine zs_iload_n (pc := 95) t325_95 rfl ?_
                obtain ⟨w23v, w23⟩ : ∃ v, w21x7 * b = v := ⟨_, rfl⟩
                have w23g := zrg w23v
                refine zs_imul (pc := 96) t325_96 (c := w23v) w23 ?_
                refine zs_istore (pc := 97) t325_97 (ls' := [(8, .int w23v), (0, .ref 336), (1, .int a), (2, .int b), (3, .int c), (4, .int d), (5, .int w13v), (6, .int w21x6), (7, .int w21x7)]) (zml mf325 (by decide)) rfl ?_
                refine zs_iconst (pc := 99) t325_99 (v := 0) (by decide) ?_
                refine zs_istore (pc := 100) t325_100 (ls' := [(9, .int (0 : Int32)), (8, .int w23v), (0, .ref 336), (1, .int a), (2, .int b), (3, .int c), (4, .int d), (5, .int w13v), (6, .int w21x6), (7, .int w21x7)]) (zml mf325 (by decide)) rfl ?_
                refine zs_iconst (pc := 102) t325_102 (v := 0) (by decide) ?_
                refine zs_istore (pc := 103) t325_103 (ls' := [(10, .int (0 : Int32)), (9, .int (0 : Int32)), (8, .int w23v), (0, .ref 336), (1, .int a), (2, .int b), (3, .int c), (4, .int d), (5, .int w13v), (6, .int w21x6), (7, .int w21x7)]) (zml mf325 (by decide)) rfl ?_
                have w24L : ∀ (m : Nat) (w24x9 : Int32) (w24x10 : Int32), (0 ≤ w24x10.toInt ∧ w24x10.toInt ≤ 200) → 200 - w24x10.toInt ≤ (m : Int) → zGo X l 8 0 0 325 105 [(0, .ref 336), (1, .int a), (2, .int b), (3, .int c), (4, .int d), (5, .int w13v), (6, .int w21x6), (7, .int w21x7), (8, .int w23v), (9, .int w24x9), (10, .int w24x10)] [] w21M Q := by
                  intro m
                  induction m using Nat.strongRecOn with
                  | ind w24m w24ih =>
                    intro w24x9 w24x10 w24b10 w24q
                    have w24g9 := zrg w24x9
                    refine zs_iload (pc := 105) t325_105 rfl ?_
                    refine zs_iload (pc := 107) t325_107 rfl ?_
                    by_cases w25 : w21x6.toInt ≤ w24x10.toInt
                    · refine zs_icmp_geT (pc := 109) t325_109 rfl rfl (by omega) ?_
                      refine zs_iconst (pc := 140) t325_140 (v := 0) (by decide) ?_
                      refine zs_istore (pc := 141) t325_141 (ls' := [(10, .int (0 : Int32)), (0, .ref 336), (1, .int a), (2, .int b), (3, .int c), (4, .int d), (5, .int w13v), (6, .int w21x6), (7, .int w21x7), (8, .int w23v), (9, .int w24x9)]) (zml mf325 (by decide)) rfl ?_
                      refine zs_iconst (pc := 143) t325_143 (v := 1) (by decide) ?_
                      refine zs_istore (pc := 144) t325_144 (ls' := [(11, .int (1 : Int32)), (10, .int (0 : Int32)), (0, .ref 336), (1, .int a), (2, .int b), (3, .int c), (4, .int d), (5, .int w13v), (6, .int w21x6), (7, .int w21x7), (8, .int w23v), (9, .int w24x9)]) (zml mf325 (by decide)) rfl ?_
                      have w26L : ∀ (m : Nat) (w26x10 : Int32) (w26x11 : Int32), (0 ≤ w26x10.toInt ∧ w26x10.toInt ≤ 7) → (1 ≤ w26x11.toInt ∧ w26x11.toInt ≤ 8) → 8 - w26x11.toInt ≤ (m : Int) → zGo X l 8 0 0 325 146 [(0, .ref 336), (1, .int a), (2, .int b), (3, .int c), (4, .int d), (5, .int w13v), (6, .int w21x6), (7, .int w21x7), (8, .int w23v), (9, .int w24x9), (10, .int w26x10), (11, .int w26x11)] [] w21M Q := by
                        intro m
                        induction m using Nat.strongRecOn with
                        | ind w26m w26ih =>
                          intro w26x10 w26x11 w26b10 w26b11 w26q
                          refine zs_iload (pc := 146) t325_146 rfl ?_
                          refine zs_iload_n (pc := 148) t325_148 rfl ?_
                          by_cases w27 : c.toInt ≤ w26x11.toInt
                          · refine zs_icmp_geT (pc := 149) t325_149 rfl rfl (by omega) ?_
                            refine zs_aload_n (pc := 184) t325_184 rfl ?_
                            refine zs_get (pc := 185) t325_185 (by decide) (zk1 (w21s.k fk_zMm_336)) (w21s.p rfl fv_zMm_336_40) ?_
                            refine zs_iload (pc := 188) t325_188 rfl ?_
                            obtain ⟨w28n, w28⟩ : ∃ n : Nat, w26x10.toInt = (n : Int) := ⟨(w26x10.toInt).toNat, by omega⟩
                            have w29 := zrg (zI w21M 360 w28n)
                            refine zs_iald (pc := 190) t325_190 (j := w28n) (by decide) (zk1 (w21s.k fk_zMm_360)) (show w26x10.toInt = ((w28n : Nat) : Int) by omega) (zk2 (w21s.k fk_zMm_360) (by omega)) rfl ?_
                            refine zs_iload (pc := 191) t325_191 rfl ?_
                            by_cases w30 : w23v.toInt < (zI w21M 360 w28n).toInt
                            · refine zs_icmp_gtT (pc := 193) t325_193 rfl rfl (by omega) ?_
                              refine zs_iconst (pc := 200) t325_200 (v := 0) (by decide) ?_
                              refine zs_istore (pc := 201) t325_201 (ls' := [(11, .int (0 : Int32)), (0, .ref 336), (1, .int a), (2, .int b), (3, .int c), (4, .int d), (5, .int w13v), (6, .int w21x6), (7, .int w21x7), (8, .int w23v), (9, .int w24x9), (10, .int w26x10)]) (zml mf325 (by decide)) rfl ?_
                              refine zs_iload (pc := 203) t325_203 rfl ?_
                              refine zs_if_neF (pc := 205) t325_205 li0 (by decide) ?_
                              refine zs_iload (pc := 208) t325_208 rfl ?_
                              refine zs_iload (pc := 210) t325_210 rfl ?_
                              by_cases w31 : w24x9.toInt ≠ d.toInt
                              · refine zs_icmp_neT (pc := 212) t325_212 rfl rfl (by omega) ?_
                                refine zs_iload (pc := 228) t325_228 rfl ?_
                                refine zs_if_neF (pc := 230) t325_230 li0 (by decide) ?_
                                refine zs_iload (pc := 233) t325_233 rfl ?_
                                refine zs_iconst (pc := 235) t325_235 (v := 1) (by decide) ?_
                                obtain ⟨w32v, w32⟩ : ∃ v, v = w24x9 + (1 : Int32) := ⟨_, rfl⟩
                                have w32g := zrg w32v
                                refine zs_iadd (pc := 236) t325_236 (c := w32v) w32.symm ?_
                                refine zs_aload_n (pc := 237) t325_237 rfl ?_
                                have w33 := zrg (zI w21M 336 44)
                                refine zs_get (pc := 238) t325_238 (by decide) (zk1 (w21s.k fk_zMm_336)) (zfvi rfl rfl) ?_
                                by_cases w34 : w32v.toInt ≤ (zI w21M 336 44).toInt
                                · refine zs_icmp_leT (pc := 241) t325_241 rfl rfl (by omega) ?_
                                  refine zs_aload_n (pc := 252) t325_252 rfl ?_
                                  refine zs_get (pc := 253) t325_253 (by decide) (zk1 (w21s.k fk_zMm_336)) (w21s.p rfl fv_zMm_336_41) ?_
                                  refine zs_iload (pc := 256) t325_256 rfl ?_
                                  refine zs_iload (pc := 258) t325_258 rfl ?_
                                  refine zs_if_eqT (pc := 260) t325_260 li0 (by decide) ?_
                                  refine zs_aload_n (pc := 268) t325_268 rfl ?_
                                  refine zs_get (pc := 269) t325_269 (by decide) (zk1 (w21s.k fk_zMm_336)) (w21s.p rfl fv_zMm_336_40) ?_
                                  refine zs_iload (pc := 272) t325_272 rfl ?_
                                  refine zs_iald (pc := 274) t325_274 (j := w28n) (by decide) (zk1 (w21s.k fk_zMm_360)) (show w26x10.toInt = ((w28n : Nat) : Int) by omega) (zk2 (w21s.k fk_zMm_360) (by omega)) rfl ?_
                                  obtain ⟨w35n, w35⟩ : ∃ n : Nat, w21x6.toInt = (n : Int) := ⟨(w21x6.toInt).toNat, by omega⟩
                                  have w36 : zIv mLo mHi (zsI w21M 361 w35n (zI w21M 360 w28n)) := zIv.put w21I (show (-2147483648) ≤ (zI w21M 360 w28n).toInt ∧ (zI w21M 360 w28n).toInt ≤ 2147483647 from zrg (zI w21M 360 w28n))
                                  refine zs_iast (pc := 275) t325_275 (j := w35n) (by decide) (zk1 (w21s.k fk_zMm_361)) (show w21x6.toInt = ((w35n : Nat) : Int) by omega) (zk2 (w21s.k fk_zMm_361) (by omega)) ?_
                                  refine zs_aload_n (pc := 276) t325_276 rfl ?_
                                  refine zs_get (pc := 277) t325_277 (by decide) (zk1 (w21s.k fk_zMm_336)) (w21s.p rfl fv_zMm_336_40) ?_
                                  refine zs_iload (pc := 280) t325_280 rfl ?_
                                  refine zs_aload_n (pc := 282) t325_282 rfl ?_
                                  refine zs_get (pc := 283) t325_283 (by decide) (zk1 (w21s.k fk_zMm_336)) (w21s.p rfl fv_zMm_336_41) ?_
                                  refine zs_iload (pc := 286) t325_286 rfl ?_
                                  refine zs_iald (pc := 288) t325_288 (j := w35n) (by decide) (zk1 (w21s.k fk_zMm_361)) (show w21x6.toInt = ((w35n : Nat) : Int) by omega) (zk2 (w21s.k fk_zMm_361) (by omega)) zIs ?_
                                  refine zs_iload (pc := 289) t325_289 rfl ?_
                                  obtain ⟨w37v, w37⟩ : ∃ v, v = (zI w21M 360 w28n) + w13v := ⟨_, rfl⟩
                                  have w37g := zrg w37v
                                  refine zs_iadd (pc := 291) t325_291 (c := w37v) w37.symm ?_
                                  have w38 : zIv mLo mHi (zsI (zsI w21M 361 w35n (zI w21M 360 w28n)) 360 w28n w37v) := zIv.put w36 (show (-2147483648) ≤ w37v.toInt ∧ w37v.toInt ≤ 2147483647 from zrg w37v)
                                  refine zs_iast (pc := 292) t325_292 (j := w28n) (by decide) (zk1 (w21s.k fk_zMm_360)) (show w26x10.toInt = ((w28n : Nat) : Int) by omega) (zk2 (w21s.k fk_zMm_360) (by omega)) ?_
                                  refine zs_aload_n (pc := 293) t325_293 rfl ?_
                                  refine zs_dup (pc := 294) t325_294 rfl ?_
                                  have w39 := zrg (zI w21M 336 43)
                                  refine zs_get (pc := 295) t325_295 (by decide) (zk1 (w21s.k fk_zMm_336)) (zfvi rfl ((zIo (by decide)).trans ((zIo (by decide)).trans rfl))) ?_
                                  refine zs_aload_n (pc := 298) t325_298 rfl ?_
                                  refine zs_get (pc := 299) t325_299 (by decide) (zk1 (w21s.k fk_zMm_336)) (w21s.p rfl fv_zMm_336_40) ?_
                                  refine zs_iload (pc := 302) t325_302 rfl ?_
                                  refine zs_iald (pc := 304) t325_304 (j := w28n) (by decide) (zk1 (w21s.k fk_zMm_360)) (show w26x10.toInt = ((w28n : Nat) : Int) by omega) (zk2 (w21s.k fk_zMm_360) (by omega)) zIs ?_
                                  refine zs_iload (pc := 305) t325_305 rfl ?_
                                  obtain ⟨w40v, w40⟩ : ∃ v, v = w37v - w23v := ⟨_, rfl⟩
                                  have w40g := zrg w40v
                                  refine zs_isub (pc := 307) t325_307 (c := w40v) w40.symm ?_
                                  refine zs_aload_n (pc := 308) t325_308 rfl ?_
                                  refine zs_get (pc := 309) t325_309 (by decide) (zk1 (w21s.k fk_zMm_336)) (w21s.p rfl fv_zMm_336_0) ?_
                                  refine zs_bipush (pc := 312) t325_312 (v := 13) (by decide) ?_
                                  have w41 := ibA13 hI
                                  have w42 : (zI M 337 13).toInt = F 13 := x0.at (by decide) (by decide) (by decide)
                                  refine zs_iald (pc := 314) t325_314 (j := 13) (by decide) (zk1 (w21s.k fk_zMm_337)) li13 (zk2 (w21s.k fk_zMm_337) (by decide)) ((zIo (by decide)).trans ((zIo (by decide)).trans ((w21F 337 13 rfl).trans ((zIo (by decide)).trans ((zIo (by decide)).trans ((zIo (by decide)).trans ((zIo (by decide)).trans ((w15F 337 13 rfl).trans ((w7F 337 13 rfl).trans rfl))))))))) ?_
                                  by_cases w43 : w40v.toInt ≤ (zI M 337 13).toInt
                                  · refine zs_icmp_leT (pc := 315) t325_315 rfl rfl (by omega) ?_
                                    refine zs_iconst (pc := 322) t325_322 (v := 0) (by decide) ?_
                                    obtain ⟨w44v, w44e, w44⟩ := ziadd (a := (zI w21M 336 43)) (b := (0 : Int32)) rfl li0 (by omega) (by omega)
                                    refine zs_iadd (pc := 323) t325_323 (c := w44v) w44e ?_
                                    have w45 : zIv mLo mHi (zsI (zsI (zsI w21M 361 w35n (zI w21M 360 w28n)) 360 w28n w37v) 336 43 w44v) := zIv.put w38 (show (-2147483648) ≤ w44v.toInt ∧ w44v.toInt ≤ 2147483647 from zrg w44v)
                                    refine zs_putI (pc := 324) t325_324 (zk1 (w21s.k fk_zMm_336)) rfl ?_
                                    refine zs_aload_n (pc := 327) t325_327 rfl ?_
                                    refine zs_aload_n (pc := 328) t325_328 rfl ?_
                                    refine zs_get (pc := 329) t325_329 (by decide) (zk1 (w21s.k fk_zMm_336)) (w21s.p rfl fv_zMm_336_40) ?_
                                    refine zs_iload (pc := 332) t325_332 rfl ?_
                                    refine zs_iald (pc := 334) t325_334 (j := w28n) (by decide) (zk1 (w21s.k fk_zMm_360)) (show w26x10.toInt = ((w28n : Nat) : Int) by omega) (zk2 (w21s.k fk_zMm_360) (by omega)) ((zIo (by decide)).trans zIs) ?_
                                    refine zs_aload_n (pc := 335) t325_335 rfl ?_
                                    have w46 := zrg (zI w21M 336 45)
                                    refine zs_get (pc := 336) t325_336 (by decide) (zk1 (w21s.k fk_zMm_336)) (zfvi rfl ((zIoj (by decide)).trans ((zIo (by decide)).trans ((zIo (by decide)).trans rfl)))) ?_
                                    by_cases w47 : w37v.toInt ≤ (zI w21M 336 45).toInt
                                    · refine zs_icmp_leT (pc := 339) t325_339 rfl rfl (by omega) ?_
                                      refine zs_aload_n (pc := 352) t325_352 rfl ?_
                                      refine zs_get (pc := 353) t325_353 (by decide) (zk1 (w21s.k fk_zMm_336)) (zfvi rfl ((zIoj (by decide)).trans ((zIo (by decide)).trans ((zIo (by decide)).trans rfl)))) ?_
                                      have w48 : zIv mLo mHi (zsI (zsI (zsI (zsI w21M 361 w35n (zI w21M 360 w28n)) 360 w28n w37v) 336 43 w44v) 336 45 (zI w21M 336 45)) := zIv.put w45 (show (-2147483648) ≤ (zI w21M 336 45).toInt ∧ (zI w21M 336 45).toInt ≤ 2147483647 from zrg (zI w21M 336 45))
                                      refine zs_putI (pc := 356) t325_356 (zk1 (w21s.k fk_zMm_336)) rfl ?_
                                      obtain ⟨w49v, w49e, w49⟩ := ziadd (a := w21x6) (b := Int32.ofInt 1) rfl (show (Int32.ofInt 1).toInt = 1 by decide) (by omega) (by omega)
                                      refine zs_iinc (pc := 359) t325_359 (ls' := [(6, .int w49v), (11, .int (0 : Int32)), (0, .ref 336), (1, .int a), (2, .int b), (3, .int c), (4, .int d), (5, .int w13v), (7, .int w21x7), (8, .int w23v), (9, .int w24x9), (10, .int w26x10)]) (zml mf325 (by decide)) rfl (c := w49v) w49e rfl ?_
                                      obtain ⟨w50v, w50e, w50⟩ := ziadd (a := w21x7) (b := Int32.ofInt 1) rfl (show (Int32.ofInt 1).toInt = 1 by decide) (by omega) (by omega)
                                      refine zs_iinc (pc := 362) t325_362 (ls' := [(7, .int w50v), (6, .int w49v), (11, .int (0 : Int32)), (0, .ref 336), (1, .int a), (2, .int b), (3, .int c), (4, .int d), (5, .int w13v), (8, .int w23v), (9, .int w24x9), (10, .int w26x10)]) (zml mf325 (by decide)) rfl (c := w50v) w50e rfl ?_
                                      refine zs_goto (pc := 365) t325_365 ?_
                                      refine zGo.locals (ls' := [(0, .ref 336), (1, .int a), (2, .int b), (3, .int c), (4, .int d), (5, .int w13v), (6, .int w49v), (7, .int w50v)]) (by simp) ?_
                                      have w51 := w49
                                      have w52 := w50
                                      exact w21ih (w21m - 1) (by omega) w49v w50v (zsI (zsI (zsI (zsI w21M 361 w35n (zI w21M 360 w28n)) 360 w28n w37v) 336 43 w44v) 336 45 (zI w21M 336 45)) ⟨by omega, by omega⟩ ⟨by omega, by omega⟩ w21s w48 ((((((zFr.refl).trans (w21F.mono rfl)).put rfl).put rfl).put rfl).put rfl) w21J (by omega) (by omega)
                                    · refine zs_icmp_leF (pc := 339) t325_339 rfl rfl (by omega) ?_
                                      refine zs_aload_n (pc := 342) t325_342 rfl ?_
                                      refine zs_get (pc := 343) t325_343 (by decide) (zk1 (w21s.k fk_zMm_336)) (w21s.p rfl fv_zMm_336_40) ?_
                                      refine zs_iload (pc := 346) t325_346 rfl ?_
                                      refine zs_iald (pc := 348) t325_348 (j := w28n) (by decide) (zk1 (w21s.k fk_zMm_360)) (show w26x10.toInt = ((w28n : Nat) : Int) by omega) (zk2 (w21s.k fk_zMm_360) (by omega)) ((zIo (by decide)).trans zIs) ?_
                                      refine zs_goto (pc := 349) t325_349 ?_
                                      have w53 : zIv mLo mHi (zsI (zsI (zsI (zsI w21M 361 w35n (zI w21M 360 w28n)) 360 w28n w37v) 336 43 w44v) 336 45 w37v) := zIv.put w45 (show (-2147483648) ≤ w37v.toInt ∧ w37v.toInt ≤ 2147483647 from zrg w37v)
                                      refine zs_putI (pc := 356) t325_356 (zk1 (w21s.k fk_zMm_336)) rfl ?_
                                      obtain ⟨w54v, w54e, w54⟩ := ziadd (a := w21x6) (b := Int32.ofInt 1) rfl (show (Int32.ofInt 1).toInt = 1 by decide) (by omega) (by omega)
                                      refine zs_iinc (pc := 359) t325_359 (ls' := [(6, .int w54v), (11, .int (0 : Int32)), (0, .ref 336), (1, .int a), (2, .int b), (3, .int c), (4, .int d), (5, .int w13v), (7, .int w21x7), (8, .int w23v), (9, .int w24x9), (10, .int w26x10)]) (zml mf325 (by decide)) rfl (c := w54v) w54e rfl ?_
                                      obtain ⟨w55v, w55e, w55⟩ := ziadd (a := w21x7) (b := Int32.ofInt 1) rfl (show (Int32.ofInt 1).toInt = 1 by decide) (by omega) (by omega)
                                      refine zs_iinc (pc := 362) t325_362 (ls' := [(7, .int w55v), (6, .int w54v), (11, .int (0 : Int32)), (0, .ref 336), (1, .int a), (2, .int b), (3, .int c), (4, .int d), (5, .int w13v), (8, .int w23v), (9, .int w24x9), (10, .int w26x10)]) (zml mf325 (by decide)) rfl (c := w55v) w55e rfl ?_
                                      refine zs_goto (pc := 365) t325_365 ?_
                                      refine zGo.locals (ls' := [(0, .ref 336), (1, .int a), (2, .int b), (3, .int c), (4, .int d), (5, .int w13v), (6, .int w54v), (7, .int w55v)]) (by simp) ?_
                                      have w56 := w54
                                      have w57 := w55
                                      exact w21ih (w21m - 1) (by omega) w54v w55v (zsI (zsI (zsI (zsI w21M 361 w35n (zI w21M 360 w28n)) 360 w28n w37v) 336 43 w44v) 336 45 w37v) ⟨by omega, by omega⟩ ⟨by omega, by omega⟩ w21s w53 ((((((zFr.refl).trans (w21F.mono rfl)).put rfl).put rfl).put rfl).put rfl) w21J (by omega) (by omega)
                                  · refine zs_icmp_leF (pc := 315) t325_315 rfl rfl (by omega) ?_
                                    refine zs_iconst (pc := 318) t325_318 (v := 1) (by decide) ?_
                                    refine zs_goto (pc := 319) t325_319 ?_
                                    obtain ⟨w58v, w58⟩ : ∃ v, v = (zI w21M 336 43) + (1 : Int32) := ⟨_, rfl⟩
                                    have w58g := zrg w58v
                                    refine zs_iadd (pc := 323) t325_323 (c := w58v) w58.symm ?_
                                    have w59 : zIv mLo mHi (zsI (zsI (zsI w21M 361 w35n (zI w21M 360 w28n)) 360 w28n w37v) 336 43 w58v) := zIv.put w38 (show (-2147483648) ≤ w58v.toInt ∧ w58v.toInt ≤ 2147483647 from zrg w58v)
                                    refine zs_putI (pc := 324) t325_324 (zk1 (w21s.k fk_zMm_336)) rfl ?_
                                    refine zs_aload_n (pc := 327) t325_327 rfl ?_
                                    refine zs_aload_n (pc := 328) t325_328 rfl ?_
                                    refine zs_get (pc := 329) t325_329 (by decide) (zk1 (w21s.k fk_zMm_336)) (w21s.p rfl fv_zMm_336_40) ?_
                                    refine zs_iload (pc := 332) t325_332 rfl ?_
                                    refine zs_iald (pc := 334) t325_334 (j := w28n) (by decide) (zk1 (w21s.k fk_zMm_360)) (show w26x10.toInt = ((w28n : Nat) : Int) by omega) (zk2 (w21s.k fk_zMm_360) (by omega)) ((zIo (by decide)).trans zIs) ?_
                                    refine zs_aload_n (pc := 335) t325_335 rfl ?_
                                    have w60 := zrg (zI w21M 336 45)
                                    refine zs_get (pc := 336) t325_336 (by decide) (zk1 (w21s.k fk_zMm_336)) (zfvi rfl ((zIoj (by decide)).trans ((zIo (by decide)).trans ((zIo (by decide)).trans rfl)))) ?_
                                    by_cases w61 : w37v.toInt ≤ (zI w21M 336 45).toInt
                                    · refine zs_icmp_leT (pc := 339) t325_339 rfl rfl (by omega) ?_
                                      refine zs_aload_n (pc := 352) t325_352 rfl ?_
                                      refine zs_get (pc := 353) t325_353 (by decide) (zk1 (w21s.k fk_zMm_336)) (zfvi rfl ((zIoj (by decide)).trans ((zIo (by decide)).trans ((zIo (by decide)).trans rfl)))) ?_
                                      have w62 : zIv mLo mHi (zsI (zsI (zsI (zsI w21M 361 w35n (zI w21M 360 w28n)) 360 w28n w37v) 336 43 w58v) 336 45 (zI w21M 336 45)) := zIv.put w59 (show (-2147483648) ≤ (zI w21M 336 45).toInt ∧ (zI w21M 336 45).toInt ≤ 2147483647 from zrg (zI w21M 336 45))
                                      refine zs_putI (pc := 356) t325_356 (zk1 (w21s.k fk_zMm_336)) rfl ?_
                                      obtain ⟨w63v, w63e, w63⟩ := ziadd (a := w21x6) (b := Int32.ofInt 1) rfl (show (Int32.ofInt 1).toInt = 1 by decide) (by omega) (by omega)
                                      refine zs_iinc (pc := 359) t325_359 (ls' := [(6, .int w63v), (11, .int (0 : Int32)), (0, .ref 336), (1, .int a), (2, .int b), (3, .int c), (4, .int d), (5, .int w13v), (7, .int w21x7), (8, .int w23v), (9, .int w24x9), (10, .int w26x10)]) (zml mf325 (by decide)) rfl (c := w63v) w63e rfl ?_
                                      obtain ⟨w64v, w64e, w64⟩ := ziadd (a := w21x7) (b := Int32.ofInt 1) rfl (show (Int32.ofInt 1).toInt = 1 by decide) (by omega) (by omega)
                                      refine zs_iinc (pc := 362) t325_362 (ls' := [(7, .int w64v), (6, .int w63v), (11, .int (0 : Int32)), (0, .ref 336), (1, .int a), (2, .int b), (3, .int c), (4, .int d), (5, .int w13v), (8, .int w23v), (9, .int w24x9), (10, .int w26x10)]) (zml mf325 (by decide)) rfl (c := w64v) w64e rfl ?_
                                      refine zs_goto (pc := 365) t325_365 ?_
                                      refine zGo.locals (ls' := [(0, .ref 336), (1, .int a), (2, .int b), (3, .int c), (4, .int d), (5, .int w13v), (6, .int w63v), (7, .int w64v)]) (by simp) ?_
                                      have w65 := w63
                                      have w66 := w64
                                      exact w21ih (w21m - 1) (by omega) w63v w64v (zsI (zsI (zsI (zsI w21M 361 w35n (zI w21M 360 w28n)) 360 w28n w37v) 336 43 w58v) 336 45 (zI w21M 336 45)) ⟨by omega, by omega⟩ ⟨by omega, by omega⟩ w21s w62 ((((((zFr.refl).trans (w21F.mono rfl)).put rfl).put rfl).put rfl).put rfl) w21J (by omega) (by omega)
                                    · refine zs_icmp_leF (pc := 339) t325_339 rfl rfl (by omega) ?_
                                      refine zs_aload_n (pc := 342) t325_342 rfl ?_
                                      refine zs_get (pc := 343) t325_343 (by decide) (zk1 (w21s.k fk_zMm_336)) (w21s.p rfl fv_zMm_336_40) ?_
                                      refine zs_iload (pc := 346) t325_346 rfl ?_
                                      refine zs_iald (pc := 348) t325_348 (j := w28n) (by decide) (zk1 (w21s.k fk_zMm_360)) (show w26x10.toInt = ((w28n : Nat) : Int) by omega) (zk2 (w21s.k fk_zMm_360) (by omega)) ((zIo (by decide)).trans zIs) ?_
                                      refine zs_goto (pc := 349) t325_349 ?_
                                      have w67 : zIv mLo mHi (zsI (zsI (zsI (zsI w21M 361 w35n (zI w21M 360 w28n)) 360 w28n w37v) 336 43 w58v) 336 45 w37v) := zIv.put w59 (show (-2147483648) ≤ w37v.toInt ∧ w37v.toInt ≤ 2147483647 from zrg w37v)
                                      refine zs_putI (pc := 356) t325_356 (zk1 (w21s.k fk_zMm_336)) rfl ?_
                                      obtain ⟨w68v, w68e, w68⟩ := ziadd (a := w21x6) (b := Int32.ofInt 1) rfl (show (Int32.ofInt 1).toInt = 1 by decide) (by omega) (by omega)
                                      refine zs_iinc (pc := 359) t325_359 (ls' := [(6, .int w68v), (11, .int (0 : Int32)), (0, .ref 336), (1, .int a), (2, .int b), (3, .int c), (4, .int d), (5, .int w13v), (7, .int w21x7), (8, .int w23v), (9, .int w24x9), (10, .int w26x10)]) (zml mf325 (by decide)) rfl (c := w68v) w68e rfl ?_
                                      obtain ⟨w69v, w69e, w69⟩ := ziadd (a := w21x7) (b := Int32.ofInt 1) rfl (show (Int32.ofInt 1).toInt = 1 by decide) (by omega) (by omega)
                                      refine zs_iinc (pc := 362) t325_362 (ls' := [(7, .int w69v), (6, .int w68v), (11, .int (0 : Int32)), (0, .ref 336), (1, .int a), (2, .int b), (3, .int c), (4, .int d), (5, .int w13v), (8, .int w23v), (9, .int w24x9), (10, .int w26x10)]) (zml mf325 (by decide)) rfl (c := w69v) w69e rfl ?_
                                      refine zs_goto (pc := 365) t325_365 ?_
                                      refine zGo.locals (ls' := [(0, .ref 336), (1, .int a), (2, .int b), (3, .int c), (4, .int d), (5, .int w13v), (6, .int w68v), (7, .int w69v)]) (by simp) ?_
                                      have w70 := w68
                                      have w71 := w69
                                      exact w21ih (w21m - 1) (by omega) w68v w69v (zsI (zsI (zsI (zsI w21M 361 w35n (zI w21M 360 w28n)) 360 w28n w37v) 336 43 w58v) 336 45 w37v) ⟨by omega, by omega⟩ ⟨by omega, by omega⟩ w21s w67 ((((((zFr.refl).trans (w21F.mono rfl)).put rfl).put rfl).put rfl).put rfl) w21J (by omega) (by omega)
                                · refine zs_icmp_leF (pc := 241) t325_241 rfl rfl (by omega) ?_
                                  refine zs_aload_n (pc := 244) t325_244 rfl ?_
                                  refine zs_iload (pc := 245) t325_245 rfl ?_
                                  refine zs_iconst (pc := 247) t325_247 (v := 1) (by decide) ?_
                                  obtain ⟨w72v, w72⟩ : ∃ v, v = w24x9 + (1 : Int32) := ⟨_, rfl⟩
                                  have w72g := zrg w72v
                                  refine zs_iadd (pc := 248) t325_248 (c := w72v) w72.symm ?_
                                  have w73 : zIv mLo mHi (zsI w21M 336 44 w72v) := zIv.put w21I (show (-2147483648) ≤ w72v.toInt ∧ w72v.toInt ≤ 2147483647 from zrg w72v)
                                  refine zs_putI (pc := 249) t325_249 (zk1 (w21s.k fk_zMm_336)) rfl ?_
                                  refine zs_aload_n (pc := 252) t325_252 rfl ?_
                                  refine zs_get (pc := 253) t325_253 (by decide) (zk1 (w21s.k fk_zMm_336)) (w21s.p rfl fv_zMm_336_41) ?_
                                  refine zs_iload (pc := 256) t325_256 rfl ?_
                                  refine zs_iload (pc := 258) t325_258 rfl ?_
                                  refine zs_if_eqT (pc := 260) t325_260 li0 (by decide) ?_
                                  refine zs_aload_n (pc := 268) t325_268 rfl ?_
                                  refine zs_get (pc := 269) t325_269 (by decide) (zk1 (w21s.k fk_zMm_336)) (w21s.p rfl fv_zMm_336_40) ?_
                                  refine zs_iload (pc := 272) t325_272 rfl ?_
                                  refine zs_iald (pc := 274) t325_274 (j := w28n) (by decide) (zk1 (w21s.k fk_zMm_360)) (show w26x10.toInt = ((w28n : Nat) : Int) by omega) (zk2 (w21s.k fk_zMm_360) (by omega)) ((zIo (by decide)).trans rfl) ?_
                                  obtain ⟨w74n, w74⟩ : ∃ n : Nat, w21x6.toInt = (n : Int) := ⟨(w21x6.toInt).toNat, by omega⟩
                                  have w75 : zIv mLo mHi (zsI (zsI w21M 336 44 w72v) 361 w74n (zI w21M 360 w28n)) := zIv.put w73 (show (-2147483648) ≤ (zI w21M 360 w28n).toInt ∧ (zI w21M 360 w28n).toInt ≤ 2147483647 from zrg (zI w21M 360 w28n))
                                  refine zs_iast (pc := 275) t325_275 (j := w74n) (by decide) (zk1 (w21s.k fk_zMm_361)) (show w21x6.toInt = ((w74n : Nat) : Int) by omega) (zk2 (w21s.k fk_zMm_361) (by omega)) ?_
                                  refine zs_aload_n (pc := 276) t325_276 rfl ?_
                                  refine zs_get (pc := 277) t325_277 (by decide) (zk1 (w21s.k fk_zMm_336)) (w21s.p rfl fv_zMm_336_40) ?_
                                  refine zs_iload (pc := 280) t325_280 rfl ?_
                                  refine zs_aload_n (pc := 282) t325_282 rfl ?_
                                  refine zs_get (pc := 283) t325_283 (by decide) (zk1 (w21s.k fk_zMm_336)) (w21s.p rfl fv_zMm_336_41) ?_
                                  refine zs_iload (pc := 286) t325_286 rfl ?_
                                  refine zs_iald (pc := 288) t325_288 (j := w74n) (by decide) (zk1 (w21s.k fk_zMm_361)) (show w21x6.toInt = ((w74n : Nat) : Int) by omega) (zk2 (w21s.k fk_zMm_361) (by omega)) zIs ?_
                                  refine zs_iload (pc := 289) t325_289 rfl ?_
                                  obtain ⟨w76v, w76⟩ : ∃ v, v = (zI w21M 360 w28n) + w13v := ⟨_, rfl⟩
                                  have w76g := zrg w76v
                                  refine zs_iadd (pc := 291) t325_291 (c := w76v) w76.symm ?_
                                  have w77 : zIv mLo mHi (zsI (zsI (zsI w21M 336 44 w72v) 361 w74n (zI w21M 360 w28n)) 360 w28n w76v) := zIv.put w75 (show (-2147483648) ≤ w76v.toInt ∧ w76v.toInt ≤ 2147483647 from zrg w76v)
                                  refine zs_iast (pc := 292) t325_292 (j := w28n) (by decide) (zk1 (w21s.k fk_zMm_360)) (show w26x10.toInt = ((w28n : Nat) : Int) by omega) (zk2 (w21s.k fk_zMm_360) (by omega)) ?_
                                  refine zs_aload_n (pc := 293) t325_293 rfl ?_
                                  refine zs_dup (pc := 294) t325_294 rfl ?_
                                  have w78 := zrg (zI w21M 336 43)
                                  refine zs_get (pc := 295) t325_295 (by decide) (zk1 (w21s.k fk_zMm_336)) (zfvi rfl ((zIo (by decide)).trans ((zIo (by decide)).trans ((zIoj (by decide)).trans rfl)))) ?_
                                  refine zs_aload_n (pc := 298) t325_298 rfl ?_
                                  refine zs_get (pc := 299) t325_299 (by decide) (zk1 (w21s.k fk_zMm_336)) (w21s.p rfl fv_zMm_336_40) ?_
                                  refine zs_iload (pc := 302) t325_302 rfl ?_
                                  refine zs_iald (pc := 304) t325_304 (j := w28n) (by decide) (zk1 (w21s.k fk_zMm_360)) (show w26x10.toInt = ((w28n : Nat) : Int) by omega) (zk2 (w21s.k fk_zMm_360) (by omega)) zIs ?_
                                  refine zs_iload (pc := 305) t325_305 rfl ?_
                                  obtain ⟨w79v, w79⟩ : ∃ v, v = w76v - w23v := ⟨_, rfl⟩
                                  have w79g := zrg w79v
                                  refine zs_isub (pc := 307) t325_307 (c := w79v) w79.symm ?_
                                  refine zs_aload_n (pc := 308) t325_308 rfl ?_
                                  refine zs_get (pc := 309) t325_309 (by decide) (zk1 (w21s.k fk_zMm_336)) (w21s.p rfl fv_zMm_336_0) ?_
                                  refine zs_bipush (pc := 312) t325_312 (v := 13) (by decide) ?_
                                  have w80 : (zI M 337 13).toInt = F 13 := x0.at (by decide) (by decide) (by decide)
                                  refine zs_iald (pc := 314) t325_314 (j := 13) (by decide) (zk1 (w21s.k fk_zMm_337)) li13 (zk2 (w21s.k fk_zMm_337) (by decide)) ((zIo (by decide)).trans ((zIo (by decide)).trans ((zIo (by decide)).trans ((w21F 337 13 rfl).trans ((zIo (by decide)).trans ((zIo (by decide)).trans ((zIo (by decide)).trans ((zIo (by decide)).trans ((w15F 337 13 rfl).trans ((w7F 337 13 rfl).trans rfl)))))))))) ?_
                                  by_cases w81 : w79v.toInt ≤ (zI M 337 13).toInt
                                  · refine zs_icmp_leT (pc := 315) t325_315 rfl rfl (by omega) ?_
                                    refine zs_iconst (pc := 322) t325_322 (v := 0) (by decide) ?_
                                    obtain ⟨w82v, w82e, w82⟩ := ziadd (a := (zI w21M 336 43)) (b := (0 : Int32)) rfl li0 (by omega) (by omega)
                                    refine zs_iadd (pc := 323) t325_323 (c := w82v) w82e ?_
                                    have w83 : zIv mLo mHi (zsI (zsI (zsI (zsI w21M 336 44 w72v) 361 w74n (zI w21M 360 w28n)) 360 w28n w76v) 336 43 w82v) := zIv.put w77 (show (-2147483648) ≤ w82v.toInt ∧ w82v.toInt ≤ 2147483647 from zrg w82v)
                                    refine zs_putI (pc := 324) t325_324 (zk1 (w21s.k fk_zMm_336)) rfl ?_
                                    refine zs_aload_n (pc := 327) t325_327 rfl ?_
                                    refine zs_aload_n (pc := 328) t325_328 rfl ?_
                                    refine zs_get (pc := 329) t325_329 (by decide) (zk1 (w21s.k fk_zMm_336)) (w21s.p rfl fv_zMm_336_40) ?_
                                    refine zs_iload (pc := 332) t325_332 rfl ?_
                                    refine zs_iald (pc := 334) t325_334 (j := w28n) (by decide) (zk1 (w21s.k fk_zMm_360)) (show w26x10.toInt = ((w28n : Nat) : Int) by omega) (zk2 (w21s.k fk_zMm_360) (by omega)) ((zIo (by decide)).trans zIs) ?_
                                    refine zs_aload_n (pc := 335) t325_335 rfl ?_
                                    have w84 := zrg (zI w21M 336 45)
                                    refine zs_get (pc := 336) t325_336 (by decide) (zk1 (w21s.k fk_zMm_336)) (zfvi rfl ((zIoj (by decide)).trans ((zIo (by decide)).trans ((zIo (by decide)).trans ((zIoj (by decide)).trans rfl))))) ?_
                                    by_cases w85 : w76v.toInt ≤ (zI w21M 336 45).toInt
                                    · refine zs_icmp_leT (pc := 339) t325_339 rfl rfl (by omega) ?_
                                      refine zs_aload_n (pc := 352) t325_352 rfl ?_
                                      refine zs_get (pc := 353) t325_353 (by decide) (zk1 (w21s.k fk_zMm_336)) (zfvi rfl ((zIoj (by decide)).trans ((zIo (by decide)).trans ((zIo (by decide)).trans ((zIoj (by decide)).trans rfl))))) ?_
                                      have w86 : zIv mLo mHi (zsI (zsI (zsI (zsI (zsI w21M 336 44 w72v) 361 w74n (zI w21M 360 w28n)) 360 w28n w76v) 336 43 w82v) 336 45 (zI w21M 336 45)) := zIv.put w83 (show (-2147483648) ≤ (zI w21M 336 45).toInt ∧ (zI w21M 336 45).toInt ≤ 2147483647 from zrg (zI w21M 336 45))
                                      refine zs_putI (pc := 356) t325_356 (zk1 (w21s.k fk_zMm_336)) rfl ?_
                                      obtain ⟨w87v, w87e, w87⟩ := ziadd (a := w21x6) (b := Int32.ofInt 1) rfl (show (Int32.ofInt 1).toInt = 1 by decide) (by omega) (by omega)
                                      refine zs_iinc (pc := 359) t325_359 (ls' := [(6, .int w87v), (11, .int (0 : Int32)), (0, .ref 336), (1, .int a), (2, .int b), (3, .int c), (4, .int d), (5, .int w13v), (7, .int w21x7), (8, .int w23v), (9, .int w24x9), (10, .int w26x10)]) (zml mf325 (by decide)) rfl (c := w87v) w87e rfl ?_
                                      obtain ⟨w88v, w88e, w88⟩ := ziadd (a := w21x7) (b := Int32.ofInt 1) rfl (show (Int32.ofInt 1).toInt = 1 by decide) (by omega) (by omega)
                                      refine zs_iinc (pc := 362) t325_362 (ls' := [(7, .int w88v), (6, .int w87v), (11, .int (0 : Int32)), (0, .ref 336), (1, .int a), (2, .int b), (3, .int c), (4, .int d), (5, .int w13v), (8, .int w23v), (9, .int w24x9), (10, .int w26x10)]) (zml mf325 (by decide)) rfl (c := w88v) w88e rfl ?_
                                      refine zs_goto (pc := 365) t325_365 ?_
                                      refine zGo.locals (ls' := [(0, .ref 336), (1, .int a), (2, .int b), (3, .int c), (4, .int d), (5, .int w13v), (6, .int w87v), (7, .int w88v)]) (by simp) ?_
                                      have w89 := w87
                                      have w90 := w88
                                      exact w21ih (w21m - 1) (by omega) w87v w88v (zsI (zsI (zsI (zsI (zsI w21M 336 44 w72v) 361 w74n (zI w21M 360 w28n)) 360 w28n w76v) 336 43 w82v) 336 45 (zI w21M 336 45)) ⟨by omega, by omega⟩ ⟨by omega, by omega⟩ w21s w86 (((((((zFr.refl).trans (w21F.mono rfl)).put rfl).put rfl).put rfl).put rfl).put rfl) w21J (by omega) (by omega)
                                    · refine zs_icmp_leF (pc := 339) t325_339 rfl rfl (by omega) ?_
                                      refine zs_aload_n (pc := 342) t325_342 rfl ?_
                                      refine zs_get (pc := 343) t325_343 (by decide) (zk1 (w21s.k fk_zMm_336)) (w21s.p rfl fv_zMm_336_40) ?_
                                      refine zs_iload (pc := 346) t325_346 rfl ?_
                                      refine zs_iald (pc := 348) t325_348 (j := w28n) (by decide) (zk1 (w21s.k fk_zMm_360)) (show w26x10.toInt = ((w28n : Nat) : Int) by omega) (zk2 (w21s.k fk_zMm_360) (by omega)) ((zIo (by decide)).trans zIs) ?_
                                      refine zs_goto (pc := 349) t325_349 ?_
                                      have w91 : zIv mLo mHi (zsI (zsI (zsI (zsI (zsI w21M 336 44 w72v) 361 w74n (zI w21M 360 w28n)) 360 w28n w76v) 336 43 w82v) 336 45 w76v) := zIv.put w83 (show (-2147483648) ≤ w76v.toInt ∧ w76v.toInt ≤ 2147483647 from zrg w76v)
                                      refine zs_putI (pc := 356) t325_356 (zk1 (w21s.k fk_zMm_336)) rfl ?_
                                      obtain ⟨w92v, w92e, w92⟩ := ziadd (a := w21x6) (b := Int32.ofInt 1) rfl (show (Int32.ofInt 1).toInt = 1 by decide) (by omega) (by omega)
                                      refine zs_iinc (pc := 359) t325_359 (ls' := [(6, .int w92v), (11, .int (0 : Int32)), (0, .ref 336), (1, .int a), (2, .int b), (3, .int c), (4, .int d), (5, .int w13v), (7, .int w21x7), (8, .int w23v), (9, .int w24x9), (10, .int w26x10)]) (zml mf325 (by decide)) rfl (c := w92v) w92e rfl ?_
                                      obtain ⟨w93v, w93e, w93⟩ := ziadd (a := w21x7) (b := Int32.ofInt 1) rfl (show (Int32.ofInt 1).toInt = 1 by decide) (by omega) (by omega)
                                      refine zs_iinc (pc := 362) t325_362 (ls' := [(7, .int w93v), (6, .int w92v), (11, .int (0 : Int32)), (0, .ref 336), (1, .int a), (2, .int b), (3, .int c), (4, .int d), (5, .int w13v), (8, .int w23v), (9, .int w24x9), (10, .int w26x10)]) (zml mf325 (by decide)) rfl (c := w93v) w93e rfl ?_
                                      refine zs_goto (pc := 365) t325_365 ?_
                                      refine zGo.locals (ls' := [(0, .ref 336), (1, .int a), (2, .int b), (3, .int c), (4, .int d), (5, .int w13v), (6, .int w92v), (7, .int w93v)]) (by simp) ?_
                                      have w94 := w92
                                      have w95 := w93
                                      exact w21ih (w21m - 1) (by omega) w92v w93v (zsI (zsI (zsI (zsI (zsI w21M 336 44 w72v) 361 w74n (zI w21M 360 w28n)) 360 w28n w76v) 336 43 w82v) 336 45 w76v) ⟨by omega, by omega⟩ ⟨by omega, by omega⟩ w21s w91 (((((((zFr.refl).trans (w21F.mono rfl)).put rfl).put rfl).put rfl).put rfl).put rfl) w21J (by omega) (by omega)
                                  · refine zs_icmp_leF (pc := 315) t325_315 rfl rfl (by omega) ?_
                                    refine zs_iconst (pc := 318) t325_318 (v := 1) (by decide) ?_
                                    refine zs_goto (pc := 319) t325_319 ?_
                                    obtain ⟨w96v, w96⟩ : ∃ v, v = (zI w21M 336 43) + (1 : Int32) := ⟨_, rfl⟩
                                    have w96g := zrg w96v
                                    refine zs_iadd (pc := 323) t325_323 (c := w96v) w96.symm ?_
                                    have w97 : zIv mLo mHi (zsI (zsI (zsI (zsI w21M 336 44 w72v) 361 w74n (zI w21M 360 w28n)) 360 w28n w76v) 336 43 w96v) := zIv.put w77 (show (-2147483648) ≤ w96v.toInt ∧ w96v.toInt ≤ 2147483647 from zrg w96v)
                                    refine zs_putI (pc := 324) t325_324 (zk1 (w21s.k fk_zMm_336)) rfl ?_
                                    refine zs_aload_n (pc := 327) t325_327 rfl ?_
                                    refine zs_aload_n (pc := 328) t325_328 rfl ?_
                                    refine zs_get (pc := 329) t325_329 (by decide) (zk1 (w21s.k fk_zMm_336)) (w21s.p rfl fv_zMm_336_40) ?_
                                    refine zs_iload (pc := 332) t325_332 rfl ?_
                                    refine zs_iald (pc := 334) t325_334 (j := w28n) (by decide) (zk1 (w21s.k fk_zMm_360)) (show w26x10.toInt = ((w28n : Nat) : Int) by omega) (zk2 (w21s.k fk_zMm_360) (by omega)) ((zIo (by decide)).trans zIs) ?_
                                    refine zs_aload_n (pc := 335) t325_335 rfl ?_
                                    have w98 := zrg (zI w21M 336 45)
                                    refine zs_get (pc := 336) t325_336 (by decide) (zk1 (w21s.k fk_zMm_336)) (zfvi rfl ((zIoj (by decide)).trans ((zIo (by decide)).trans ((zIo (by decide)).trans ((zIoj (by decide)).trans rfl))))) ?_
                                    by_cases w99 : w76v.toInt ≤ (zI w21M 336 45).toInt
                                    · refine zs_icmp_leT (pc := 339) t325_339 rfl rfl (by omega) ?_
                                      refine zs_aload_n (pc := 352) t325_352 rfl ?_
                                      refine zs_get (pc := 353) t325_353 (by decide) (zk1 (w21s.k fk_zMm_336)) (zfvi rfl ((zIoj (by decide)).trans ((zIo (by decide)).trans ((zIo (by decide)).trans ((zIoj (by decide)).trans rfl))))) ?_
                                      have w100 : zIv mLo mHi (zsI (zsI (zsI (zsI (zsI w21M 336 44 w72v) 361 w74n (zI w21M 360 w28n)) 360 w28n w76v) 336 43 w96v) 336 45 (zI w21M 336 45)) := zIv.put w97 (show (-2147483648) ≤ (zI w21M 336 45).toInt ∧ (zI w21M 336 45).toInt ≤ 2147483647 from zrg (zI w21M 336 45))
                                      refine zs_putI (pc := 356) t325_356 (zk1 (w21s.k fk_zMm_336)) rfl ?_
                                      obtain ⟨w101v, w101e, w101⟩ := ziadd (a := w21x6) (b := Int32.ofInt 1) rfl (show (Int32.ofInt 1).toInt = 1 by decide) (by omega) (by omega)
                                      refine zs_iinc (pc := 359) t325_359 (ls' := [(6, .int w101v), (11, .int (0 : Int32)), (0, .ref 336), (1, .int a), (2, .int b), (3, .int c), (4, .int d), (5, .int w13v), (7, .int w21x7), (8, .int w23v), (9, .int w24x9), (10, .int w26x10)]) (zml mf325 (by decide)) rfl (c := w101v) w101e rfl ?_
                                      obtain ⟨w102v, w102e, w102⟩ := ziadd (a := w21x7) (b := Int32.ofInt 1) rfl (show (Int32.ofInt 1).toInt = 1 by decide) (by omega) (by omega)
                                      refine zs_iinc (pc := 362) t325_362 (ls' := [(7, .int w102v), (6, .int w101v), (11, .int (0 : Int32)), (0, .ref 336), (1, .int a), (2, .int b), (3, .int c), (4, .int d), (5, .int w13v), (8, .int w23v), (9, .int w24x9), (10, .int w26x10)]) (zml mf325 (by decide)) rfl (c := w102v) w102e rfl ?_
                                      refine zs_goto (pc := 365) t325_365 ?_
                                      refine zGo.locals (ls' := [(0, .ref 336), (1, .int a), (2, .int b), (3, .int c), (4, .int d), (5, .int w13v), (6, .int w101v), (7, .int w102v)]) (by simp) ?_
                                      have w103 := w101
                                      have w104 := w102
                                      exact w21ih (w21m - 1) (by omega) w101v w102v (zsI (zsI (zsI (zsI (zsI w21M 336 44 w72v) 361 w74n (zI w21M 360 w28n)) 360 w28n w76v) 336 43 w96v) 336 45 (zI w21M 336 45)) ⟨by omega, by omega⟩ ⟨by omega, by omega⟩ w21s w100 (((((((zFr.refl).trans (w21F.mono rfl)).put rfl).put rfl).put rfl).put rfl).put rfl) w21J (by omega) (by omega)
                                    · refine zs_icmp_leF (pc := 339) t325_339 rfl rfl (by omega) ?_
                                      refine zs_aload_n (pc := 342) t325_342 rfl ?_
                                      refine zs_get (pc := 343) t325_343 (by decide) (zk1 (w21s.k fk_zMm_336)) (w21s.p rfl fv_zMm_336_40) ?_
                                      refine zs_iload (pc := 346) t325_346 rfl ?_
                                      refine zs_iald (pc := 348) t325_348 (j := w28n) (by decide) (zk1 (w21s.k fk_zMm_360)) (show w26x10.toInt = ((w28n : Nat) : Int) by omega) (zk2 (w21s.k fk_zMm_360) (by omega)) ((zIo (by decide)).trans zIs) ?_
                                      refine zs_goto (pc := 349) t325_349 ?_
                                      have w105 : zIv mLo mHi (zsI (zsI (zsI (zsI (zsI w21M 336 44 w72v) 361 w74n (zI w21M 360 w28n)) 360 w28n w76v) 336 43 w96v) 336 45 w76v) := zIv.put w97 (show (-2147483648) ≤ w76v.toInt ∧ w76v.toInt ≤ 2147483647 from zrg w76v)
                                      refine zs_putI (pc := 356) t325_356 (zk1 (w21s.k fk_zMm_336)) rfl ?_
                                      obtain ⟨w106v, w106e, w106⟩ := ziadd (a := w21x6) (b := Int32.ofInt 1) rfl (show (Int32.ofInt 1).toInt = 1 by decide) (by omega) (by omega)
                                      refine zs_iinc (pc := 359) t325_359 (ls' := [(6, .int w106v), (11, .int (0 : Int32)), (0, .ref 336), (1, .int a), (2, .int b), (3, .int c), (4, .int d), (5, .int w13v), (7, .int w21x7), (8, .int w23v), (9, .int w24x9), (10, .int w26x10)]) (zml mf325 (by decide)) rfl (c := w106v) w106e rfl ?_
                                      obtain ⟨w107v, w107e, w107⟩ := ziadd (a := w21x7) (b := Int32.ofInt 1) rfl (show (Int32.ofInt 1).toInt = 1 by decide) (by omega) (by omega)
                                      refine zs_iinc (pc := 362) t325_362 (ls' := [(7, .int w107v), (6, .int w106v), (11, .int (0 : Int32)), (0, .ref 336), (1, .int a), (2, .int b), (3, .int c), (4, .int d), (5, .int w13v), (8, .int w23v), (9, .int w24x9), (10, .int w26x10)]) (zml mf325 (by decide)) rfl (c := w107v) w107e rfl ?_
                                      refine zs_goto (pc := 365) t325_365 ?_
                                      refine zGo.locals (ls' := [(0, .ref 336), (1, .int a), (2, .int b), (3, .int c), (4, .int d), (5, .int w13v), (6, .int w106v), (7, .int w107v)]) (by simp) ?_
                                      have w108 := w106
                                      have w109 := w107
                                      exact w21ih (w21m - 1) (by omega) w106v w107v (zsI (zsI (zsI (zsI (zsI w21M 336 44 w72v) 361 w74n (zI w21M 360 w28n)) 360 w28n w76v) 336 43 w96v) 336 45 w76v) ⟨by omega, by omega⟩ ⟨by omega, by omega⟩ w21s w105 (((((((zFr.refl).trans (w21F.mono rfl)).put rfl).put rfl).put rfl).put rfl).put rfl) w21J (by omega) (by omega)
                              · refine zs_icmp_neF (pc := 212) t325_212 rfl rfl (by omega) ?_
                                refine zs_aload_n (pc := 215) t325_215 rfl ?_
                                refine zs_dup (pc := 216) t325_216 rfl ?_
                                have w110 := zrg (zI w21M 336 42)
                                refine zs_get (pc := 217) t325_217 (by decide) (zk1 (w21s.k fk_zMm_336)) (zfvi rfl rfl) ?_
                                refine zs_iconst (pc := 220) t325_220 (v := 1) (by decide) ?_
                                obtain ⟨w111v, w111⟩ : ∃ v, v = (zI w21M 336 42) + (1 : Int32) := ⟨_, rfl⟩
                                have w111g := zrg w111v
                                refine zs_iadd (pc := 221) t325_221 (c := w111v) w111.symm ?_
                                have w112 : zIv mLo mHi (zsI w21M 336 42 w111v) := zIv.put w21I (show (-2147483648) ≤ w111v.toInt ∧ w111v.toInt ≤ 2147483647 from zrg w111v)
                                refine zs_putI (pc := 222) t325_222 (zk1 (w21s.k fk_zMm_336)) rfl ?_
                                refine zs_goto (pc := 225) t325_225 ?_
                                obtain ⟨w113v, w113e, w113⟩ := ziadd (a := w21x7) (b := Int32.ofInt 1) rfl (show (Int32.ofInt 1).toInt = 1 by decide) (by omega) (by omega)
                                refine zs_iinc (pc := 362) t325_362 (ls' := [(7, .int w113v), (11, .int (0 : Int32)), (0, .ref 336), (1, .int a), (2, .int b), (3, .int c), (4, .int d), (5, .int w13v), (6, .int w21x6), (8, .int w23v), (9, .int w24x9), (10, .int w26x10)]) (zml mf325 (by decide)) rfl (c := w113v) w113e rfl ?_
                                refine zs_goto (pc := 365) t325_365 ?_
                                refine zGo.locals (ls' := [(0, .ref 336), (1, .int a), (2, .int b), (3, .int c), (4, .int d), (5, .int w13v), (6, .int w21x6), (7, .int w113v)]) (by simp) ?_
                                have w114 := w113
                                exact w21ih (w21m - 1) (by omega) w21x6 w113v (zsI w21M 336 42 w111v) ⟨by omega, by omega⟩ ⟨by omega, by omega⟩ w21s w112 (((zFr.refl).trans (w21F.mono rfl)).put rfl) w21J (by omega) (by omega)
                            · refine zs_icmp_gtF (pc := 193) t325_193 rfl rfl (by omega) ?_
                              refine zs_iconst (pc := 196) t325_196 (v := 1) (by decide) ?_
                              refine zs_goto (pc := 197) t325_197 ?_
                              refine zs_istore (pc := 201) t325_201 (ls' := [(11, .int (1 : Int32)), (0, .ref 336), (1, .int a), (2, .int b), (3, .int c), (4, .int d), (5, .int w13v), (6, .int w21x6), (7, .int w21x7), (8, .int w23v), (9, .int w24x9), (10, .int w26x10)]) (zml mf325 (by decide)) rfl ?_
                              refine zs_iload (pc := 203) t325_203 rfl ?_
                              refine zs_if_neT (pc := 205) t325_205 li1 (by decide) ?_
                              refine zs_iload (pc := 228) t325_228 rfl ?_
                              refine zs_if_neT (pc := 230) t325_230 li1 (by decide) ?_
                              refine zs_aload_n (pc := 252) t325_252 rfl ?_
                              refine zs_get (pc := 253) t325_253 (by decide) (zk1 (w21s.k fk_zMm_336)) (w21s.p rfl fv_zMm_336_41) ?_
                              refine zs_iload (pc := 256) t325_256 rfl ?_
                              refine zs_iload (pc := 258) t325_258 rfl ?_
                              refine zs_if_eqF (pc := 260) t325_260 li1 (by decide) ?_
                              refine zs_iload (pc := 263) t325_263 rfl ?_
                              refine zs_goto (pc := 265) t325_265 ?_
                              obtain ⟨w115n, w115⟩ : ∃ n : Nat, w21x6.toInt = (n : Int) := ⟨(w21x6.toInt).toNat, by omega⟩
                              have w116 : zIv mLo mHi (zsI w21M 361 w115n w23v) := zIv.put w21I (show (-2147483648) ≤ w23v.toInt ∧ w23v.toInt ≤ 2147483647 from zrg w23v)
                              refine zs_iast (pc := 275) t325_275 (j := w115n) (by decide) (zk1 (w21s.k fk_zMm_361)) (show w21x6.toInt = ((w115n : Nat) : Int) by omega) (zk2 (w21s.k fk_zMm_361) (by omega)) ?_
                              refine zs_aload_n (pc := 276) t325_276 rfl ?_
                              refine zs_get (pc := 277) t325_277 (by decide) (zk1 (w21s.k fk_zMm_336)) (w21s.p rfl fv_zMm_336_40) ?_
                              refine zs_iload (pc := 280) t325_280 rfl ?_
                              refine zs_aload_n (pc := 282) t325_282 rfl ?_
                              refine zs_get (pc := 283) t325_283 (by decide) (zk1 (w21s.k fk_zMm_336)) (w21s.p rfl fv_zMm_336_41) ?_
                              refine zs_iload (pc := 286) t325_286 rfl ?_
                              refine zs_iald (pc := 288) t325_288 (j := w115n) (by decide) (zk1 (w21s.k fk_zMm_361)) (show w21x6.toInt = ((w115n : Nat) : Int) by omega) (zk2 (w21s.k fk_zMm_361) (by omega)) zIs ?_
                              refine zs_iload (pc := 289) t325_289 rfl ?_
                              obtain ⟨w117v, w117⟩ : ∃ v, v = w23v + w13v := ⟨_, rfl⟩
                              have w117g := zrg w117v
                              refine zs_iadd (pc := 291) t325_291 (c := w117v) w117.symm ?_
                              have w118 : zIv mLo mHi (zsI (zsI w21M 361 w115n w23v) 360 w28n w117v) := zIv.put w116 (show (-2147483648) ≤ w117v.toInt ∧ w117v.toInt ≤ 2147483647 from zrg w117v)
                              refine zs_iast (pc := 292) t325_292 (j := w28n) (by decide) (zk1 (w21s.k fk_zMm_360)) (show w26x10.toInt = ((w28n : Nat) : Int) by omega) (zk2 (w21s.k fk_zMm_360) (by omega)) ?_
                              refine zs_aload_n (pc := 293) t325_293 rfl ?_
                              refine zs_dup (pc := 294) t325_294 rfl ?_
                              have w119 := zrg (zI w21M 336 43)
                              refine zs_get (pc := 295) t325_295 (by decide) (zk1 (w21s.k fk_zMm_336)) (zfvi rfl ((zIo (by decide)).trans ((zIo (by decide)).trans rfl))) ?_
                              refine zs_aload_n (pc := 298) t325_298 rfl ?_
                              refine zs_get (pc := 299) t325_299 (by decide) (zk1 (w21s.k fk_zMm_336)) (w21s.p rfl fv_zMm_336_40) ?_
                              refine zs_iload (pc := 302) t325_302 rfl ?_
                              refine zs_iald (pc := 304) t325_304 (j := w28n) (by decide) (zk1 (w21s.k fk_zMm_360)) (show w26x10.toInt = ((w28n : Nat) : Int) by omega) (zk2 (w21s.k fk_zMm_360) (by omega)) zIs ?_
                              refine zs_iload (pc := 305) t325_305 rfl ?_
                              obtain ⟨w120v, w120⟩ : ∃ v, v = w117v - w23v := ⟨_, rfl⟩
                              have w120g := zrg w120v
                              refine zs_isub (pc := 307) t325_307 (c := w120v) w120.symm ?_
                              refine zs_aload_n (pc := 308) t325_308 rfl ?_
                              refine zs_get (pc := 309) t325_309 (by decide) (zk1 (w21s.k fk_zMm_336)) (w21s.p rfl fv_zMm_336_0) ?_
                              refine zs_bipush (pc := 312) t325_312 (v := 13) (by decide) ?_
                              have w121 : (zI M 337 13).toInt = F 13 := x0.at (by decide) (by decide) (by decide)
                              refine zs_iald (pc := 314) t325_314 (j := 13) (by decide) (zk1 (w21s.k fk_zMm_337)) li13 (zk2 (w21s.k fk_zMm_337) (by decide)) ((zIo (by decide)).trans ((zIo (by decide)).trans ((w21F 337 13 rfl).trans ((zIo (by decide)).trans ((zIo (by decide)).trans ((zIo (by decide)).trans ((zIo (by decide)).trans ((w15F 337 13 rfl).trans ((w7F 337 13 rfl).trans rfl))))))))) ?_
                              by_cases w122 : w120v.toInt ≤ (zI M 337 13).toInt
                              · refine zs_icmp_leT (pc := 315) t325_315 rfl rfl (by omega) ?_
                                refine zs_iconst (pc := 322) t325_322 (v := 0) (by decide) ?_
                                obtain ⟨w123v, w123e, w123⟩ := ziadd (a := (zI w21M 336 43)) (b := (0 : Int32)) rfl li0 (by omega) (by omega)
                                refine zs_iadd (pc := 323) t325_323 (c := w123v) w123e ?_
                                have w124 : zIv mLo mHi (zsI (zsI (zsI w21M 361 w115n w23v) 360 w28n w117v) 336 43 w123v) := zIv.put w118 (show (-2147483648) ≤ w123v.toInt ∧ w123v.toInt ≤ 2147483647 from zrg w123v)
                                refine zs_putI (pc := 324) t325_324 (zk1 (w21s.k fk_zMm_336)) rfl ?_
                                refine zs_aload_n (pc := 327) t325_327 rfl ?_
                                refine zs_aload_n (pc := 328) t325_328 rfl ?_
                                refine zs_get (pc := 329) t325_329 (by decide) (zk1 (w21s.k fk_zMm_336)) (w21s.p rfl fv_zMm_336_40) ?_
                                refine zs_iload (pc := 332) t325_332 rfl ?_
                                refine zs_iald (pc := 334) t325_334 (j := w28n) (by decide) (zk1 (w21s.k fk_zMm_360)) (show w26x10.toInt = ((w28n : Nat) : Int) by omega) (zk2 (w21s.k fk_zMm_360) (by omega)) ((zIo (by decide)).trans zIs) ?_
                                refine zs_aload_n (pc := 335) t325_335 rfl ?_
                                have w125 := zrg (zI w21M 336 45)
                                refine zs_get (pc := 336) t325_336 (by decide) (zk1 (w21s.k fk_zMm_336)) (zfvi rfl ((zIoj (by decide)).trans ((zIo (by decide)).trans ((zIo (by decide)).trans rfl)))) ?_
                                by_cases w126 : w117v.toInt ≤ (zI w21M 336 45).toInt
                                · refine zs_icmp_leT (pc := 339) t325_339 rfl rfl (by omega) ?_
                                  refine zs_aload_n (pc := 352) t325_352 rfl ?_
                                  refine zs_get (pc := 353) t325_353 (by decide) (zk1 (w21s.k fk_zMm_336)) (zfvi rfl ((zIoj (by decide)).trans ((zIo (by decide)).trans ((zIo (by decide)).trans rfl)))) ?_
                                  have w127 : zIv mLo mHi (zsI (zsI (zsI (zsI w21M 361 w115n w23v) 360 w28n w117v) 336 43 w123v) 336 45 (zI w21M 336 45)) := zIv.put w124 (show (-2147483648) ≤ (zI w21M 336 45).toInt ∧ (zI w21M 336 45).toInt ≤ 2147483647 from zrg (zI w21M 336 45))
                                  refine zs_putI (pc := 356) t325_356 (zk1 (w21s.k fk_zMm_336)) rfl ?_
                                  obtain ⟨w128v, w128e, w128⟩ := ziadd (a := w21x6) (b := Int32.ofInt 1) rfl (show (Int32.ofInt 1).toInt = 1 by decide) (by omega) (by omega)
                                  refine zs_iinc (pc := 359) t325_359 (ls' := [(6, .int w128v), (11, .int (1 : Int32)), (0, .ref 336), (1, .int a), (2, .int b), (3, .int c), (4, .int d), (5, .int w13v), (7, .int w21x7), (8, .int w23v), (9, .int w24x9), (10, .int w26x10)]) (zml mf325 (by decide)) rfl (c := w128v) w128e rfl ?_
                                  obtain ⟨w129v, w129e, w129⟩ := ziadd (a := w21x7) (b := Int32.ofInt 1) rfl (show (Int32.ofInt 1).toInt = 1 by decide) (by omega) (by omega)
                                  refine zs_iinc (pc := 362) t325_362 (ls' := [(7, .int w129v), (6, .int w128v), (11, .int (1 : Int32)), (0, .ref 336), (1, .int a), (2, .int b), (3, .int c), (4, .int d), (5, .int w13v), (8, .int w23v), (9, .int w24x9), (10, .int w26x10)]) (zml mf325 (by decide)) rfl (c := w129v) w129e rfl ?_
                                  refine zs_goto (pc := 365) t325_365 ?_
                                  refine zGo.locals (ls' := [(0, .ref 336), (1, .int a), (2, .int b), (3, .int c), (4, .int d), (5, .int w13v), (6, .int w128v), (7, .int w129v)]) (by simp) ?_
                                  have w130 := w128
                                  have w131 := w129
                                  exact w21ih (w21m - 1) (by omega) w128v w129v (zsI (zsI (zsI (zsI w21M 361 w115n w23v) 360 w28n w117v) 336 43 w123v) 336 45 (zI w21M 336 45)) ⟨by omega, by omega⟩ ⟨by omega, by omega⟩ w21s w127 ((((((zFr.refl).trans (w21F.mono rfl)).put rfl).put rfl).put rfl).put rfl) w21J (by omega) (by omega)
                                · refine zs_icmp_leF (pc := 339) t325_339 rfl rfl (by omega) ?_
                                  refine zs_aload_n (pc := 342) t325_342 rfl ?_
                                  refine zs_get (pc := 343) t325_343 (by decide) (zk1 (w21s.k fk_zMm_336)) (w21s.p rfl fv_zMm_336_40) ?_
                                  refine zs_iload (pc := 346) t325_346 rfl ?_
                                  refine zs_iald (pc := 348) t325_348 (j := w28n) (by decide) (zk1 (w21s.k fk_zMm_360)) (show w26x10.toInt = ((w28n : Nat) : Int) by omega) (zk2 (w21s.k fk_zMm_360) (by omega)) ((zIo (by decide)).trans zIs) ?_
                                  refine zs_goto (pc := 349) t325_349 ?_
                                  have w132 : zIv mLo mHi (zsI (zsI (zsI (zsI w21M 361 w115n w23v) 360 w28n w117v) 336 43 w123v) 336 45 w117v) := zIv.put w124 (show (-2147483648) ≤ w117v.toInt ∧ w117v.toInt ≤ 2147483647 from zrg w117v)
                                  refine zs_putI (pc := 356) t325_356 (zk1 (w21s.k fk_zMm_336)) rfl ?_
                                  obtain ⟨w133v, w133e, w133⟩ := ziadd (a := w21x6) (b := Int32.ofInt 1) rfl (show (Int32.ofInt 1).toInt = 1 by decide) (by omega) (by omega)
                                  refine zs_iinc (pc := 359) t325_359 (ls' := [(6, .int w133v), (11, .int (1 : Int32)), (0, .ref 336), (1, .int a), (2, .int b), (3, .int c), (4, .int d), (5, .int w13v), (7, .int w21x7), (8, .int w23v), (9, .int w24x9), (10, .int w26x10)]) (zml mf325 (by decide)) rfl (c := w133v) w133e rfl ?_
                                  obtain ⟨w134v, w134e, w134⟩ := ziadd (a := w21x7) (b := Int32.ofInt 1) rfl (show (Int32.ofInt 1).toInt = 1 by decide) (by omega) (by omega)
                                  refine zs_iinc (pc := 362) t325_362 (ls' := [(7, .int w134v), (6, .int w133v), (11, .int (1 : Int32)), (0, .ref 336), (1, .int a), (2, .int b), (3, .int c), (4, .int d), (5, .int w13v), (8, .int w23v), (9, .int w24x9), (10, .int w26x10)]) (zml mf325 (by decide)) rfl (c := w134v) w134e rfl ?_
                                  refine zs_goto (pc := 365) t325_365 ?_
                                  refine zGo.locals (ls' := [(0, .ref 336), (1, .int a), (2, .int b), (3, .int c), (4, .int d), (5, .int w13v), (6, .int w133v), (7, .int w134v)]) (by simp) ?_
                                  have w135 := w133
                                  have w136 := w134
                                  exact w21ih (w21m - 1) (by omega) w133v w134v (zsI (zsI (zsI (zsI w21M 361 w115n w23v) 360 w28n w117v) 336 43 w123v) 336 45 w117v) ⟨by omega, by omega⟩ ⟨by omega, by omega⟩ w21s w132 ((((((zFr.refl).trans (w21F.mono rfl)).put rfl).put rfl).put rfl).put rfl) w21J (by omega) (by omega)
                              · refine zs_icmp_leF (pc := 315) t325_315 rfl rfl (by omega) ?_
                                refine zs_iconst (pc := 318) t325_318 (v := 1) (by decide) ?_
                                refine zs_goto (pc := 319) t325_319 ?_
                                obtain ⟨w137v, w137⟩ : ∃ v, v = (zI w21M 336 43) + (1 : Int32) := ⟨_, rfl⟩
                                have w137g := zrg w137v
                                refine zs_iadd (pc := 323) t325_323 (c := w137v) w137.symm ?_
                                have w138 : zIv mLo mHi (zsI (zsI (zsI w21M 361 w115n w23v) 360 w28n w117v) 336 43 w137v) := zIv.put w118 (show (-2147483648) ≤ w137v.toInt ∧ w137v.toInt ≤ 2147483647 from zrg w137v)
                                refine zs_putI (pc := 324) t325_324 (zk1 (w21s.k fk_zMm_336)) rfl ?_
                                refine zs_aload_n (pc := 327) t325_327 rfl ?_
                                refine zs_aload_n (pc := 328) t325_328 rfl ?_
                                refine zs_get (pc := 329) t325_329 (by decide) (zk1 (w21s.k fk_zMm_336)) (w21s.p rfl fv_zMm_336_40) ?_
                                refine zs_iload (pc := 332) t325_332 rfl ?_
                                refine zs_iald (pc := 334) t325_334 (j := w28n) (by decide) (zk1 (w21s.k fk_zMm_360)) (show w26x10.toInt = ((w28n : Nat) : Int) by omega) (zk2 (w21s.k fk_zMm_360) (by omega)) ((zIo (by decide)).trans zIs) ?_
                                refine zs_aload_n (pc := 335) t325_335 rfl ?_
                                have w139 := zrg (zI w21M 336 45)
                                refine zs_get (pc := 336) t325_336 (by decide) (zk1 (w21s.k fk_zMm_336)) (zfvi rfl ((zIoj (by decide)).trans ((zIo (by decide)).trans ((zIo (by decide)).trans rfl)))) ?_
                                by_cases w140 : w117v.toInt ≤ (zI w21M 336 45).toInt
                                · refine zs_icmp_leT (pc := 339) t325_339 rfl rfl (by omega) ?_
                                  refine zs_aload_n (pc := 352) t325_352 rfl ?_
                                  refine zs_get (pc := 353) t325_353 (by decide) (zk1 (w21s.k fk_zMm_336)) (zfvi rfl ((zIoj (by decide)).trans ((zIo (by decide)).trans ((zIo (by decide)).trans rfl)))) ?_
                                  have w141 : zIv mLo mHi (zsI (zsI (zsI (zsI w21M 361 w115n w23v) 360 w28n w117v) 336 43 w137v) 336 45 (zI w21M 336 45)) := zIv.put w138 (show (-2147483648) ≤ (zI w21M 336 45).toInt ∧ (zI w21M 336 45).toInt ≤ 2147483647 from zrg (zI w21M 336 45))
                                  refine zs_putI (pc := 356) t325_356 (zk1 (w21s.k fk_zMm_336)) rfl ?_
                                  obtain ⟨w142v, w142e, w142⟩ := ziadd (a := w21x6) (b := Int32.ofInt 1) rfl (show (Int32.ofInt 1).toInt = 1 by decide) (by omega) (by omega)
                                  refine zs_iinc (pc := 359) t325_359 (ls' := [(6, .int w142v), (11, .int (1 : Int32)), (0, .ref 336), (1, .int a), (2, .int b), (3, .int c), (4, .int d), (5, .int w13v), (7, .int w21x7), (8, .int w23v), (9, .int w24x9), (10, .int w26x10)]) (zml mf325 (by decide)) rfl (c := w142v) w142e rfl ?_
                                  obtain ⟨w143v, w143e, w143⟩ := ziadd (a := w21x7) (b := Int32.ofInt 1) rfl (show (Int32.ofInt 1).toInt = 1 by decide) (by omega) (by omega)
                                  refine zs_iinc (pc := 362) t325_362 (ls' := [(7, .int w143v), (6, .int w142v), (11, .int (1 : Int32)), (0, .ref 336), (1, .int a), (2, .int b), (3, .int c), (4, .int d), (5, .int w13v), (8, .int w23v), (9, .int w24x9), (10, .int w26x10)]) (zml mf325 (by decide)) rfl (c := w143v) w143e rfl ?_
                                  refine zs_goto (pc := 365) t325_365 ?_
                                  refine zGo.locals (ls' := [(0, .ref 336), (1, .int a), (2, .int b), (3, .int c), (4, .int d), (5, .int w13v), (6, .int w142v), (7, .int w143v)]) (by simp) ?_
                                  have w144 := w142
                                  have w145 := w143
                                  exact w21ih (w21m - 1) (by omega) w142v w143v (zsI (zsI (zsI (zsI w21M 361 w115n w23v) 360 w28n w117v) 336 43 w137v) 336 45 (zI w21M 336 45)) ⟨by omega, by omega⟩ ⟨by omega, by omega⟩ w21s w141 ((((((zFr.refl).trans (w21F.mono rfl)).put rfl).put rfl).put rfl).put rfl) w21J (by omega) (by omega)
                                · refine zs_icmp_leF (pc := 339) t325_339 rfl rfl (by omega) ?_
                                  refine zs_aload_n (pc := 342) t325_342 rfl ?_
                                  refine zs_get (pc := 343) t325_343 (by decide) (zk1 (w21s.k fk_zMm_336)) (w21s.p rfl fv_zMm_336_40) ?_
                                  refine zs_iload (pc := 346) t325_346 rfl ?_
                                  refine zs_iald (pc := 348) t325_348 (j := w28n) (by decide) (zk1 (w21s.k fk_zMm_360)) (show w26x10.toInt = ((w28n : Nat) : Int) by omega) (zk2 (w21s.k fk_zMm_360) (by omega)) ((zIo (by decide)).trans zIs) ?_
                                  refine zs_goto (pc := 349) t325_349 ?_
                                  have w146 : zIv mLo mHi (zsI (zsI (zsI (zsI w21M 361 w115n w23v) 360 w28n w117v) 336 43 w137v) 336 45 w117v) := zIv.put w138 (show (-2147483648) ≤ w117v.toInt ∧ w117v.toInt ≤ 2147483647 from zrg w117v)
                                  refine zs_putI (pc := 356) t325_356 (zk1 (w21s.k fk_zMm_336)) rfl ?_
                                  obtain ⟨w147v, w147e, w147⟩ := ziadd (a := w21x6) (b := Int32.ofInt 1) rfl (show (Int32.ofInt 1).toInt = 1 by decide) (by omega) (by omega)
                                  refine zs_iinc (pc := 359) t325_359 (ls' := [(6, .int w147v), (11, .int (1 : Int32)), (0, .ref 336), (1, .int a), (2, .int b), (3, .int c), (4, .int d), (5, .int w13v), (7, .int w21x7), (8, .int w23v), (9, .int w24x9), (10, .int w26x10)]) (zml mf325 (by decide)) rfl (c := w147v) w147e rfl ?_
                                  obtain ⟨w148v, w148e, w148⟩ := ziadd (a := w21x7) (b := Int32.ofInt 1) rfl (show (Int32.ofInt 1).toInt = 1 by decide) (by omega) (by omega)
                                  refine zs_iinc (pc := 362) t325_362 (ls' := [(7, .int w148v), (6, .int w147v), (11, .int (1 : Int32)), (0, .ref 336), (1, .int a), (2, .int b), (3, .int c), (4, .int d), (5, .int w13v), (8, .int w23v), (9, .int w24x9), (10, .int w26x10)]) (zml mf325 (by decide)) rfl (c := w148v) w148e rfl ?_
                                  refine zs_goto (pc := 365) t325_365 ?_
                                  refine zGo.locals (ls' := [(0, .ref 336), (1, .int a), (2, .int b), (3, .int c), (4, .int d), (5, .int w13v), (6, .int w147v), (7, .int w148v)]) (by simp) ?_
                                  have w149 := w147
                                  have w150 := w148
                                  exact w21ih (w21m - 1) (by omega) w147v w148v (zsI (zsI (zsI (zsI w21M 361 w115n w23v) 360 w28n w117v) 336 43 w137v) 336 45 w117v) ⟨by omega, by omega⟩ ⟨by omega, by omega⟩ w21s w146 ((((((zFr.refl).trans (w21F.mono rfl)).put rfl).put rfl).put rfl).put rfl) w21J (by omega) (by omega)
                          · refine zs_icmp_geF (pc := 149) t325_149 rfl rfl (by omega) ?_
                            refine zs_aload_n (pc := 152) t325_152 rfl ?_
                            refine zs_get (pc := 153) t325_153 (by decide) (zk1 (w21s.k fk_zMm_336)) (w21s.p rfl fv_zMm_336_40) ?_
                            refine zs_iload (pc := 156) t325_156 rfl ?_
                            obtain ⟨w151n, w151⟩ : ∃ n : Nat, w26x11.toInt = (n : Int) := ⟨(w26x11.toInt).toNat, by omega⟩
                            have w152 := zrg (zI w21M 360 w151n)
                            refine zs_iald (pc := 158) t325_158 (j := w151n) (by decide) (zk1 (w21s.k fk_zMm_360)) (show w26x11.toInt = ((w151n : Nat) : Int) by omega) (zk2 (w21s.k fk_zMm_360) (by omega)) rfl ?_
                            refine zs_aload_n (pc := 159) t325_159 rfl ?_
                            refine zs_get (pc := 160) t325_160 (by decide) (zk1 (w21s.k fk_zMm_336)) (w21s.p rfl fv_zMm_336_40) ?_
                            refine zs_iload (pc := 163) t325_163 rfl ?_
                            obtain ⟨w153n, w153⟩ : ∃ n : Nat, w26x10.toInt = (n : Int) := ⟨(w26x10.toInt).toNat, by omega⟩
                            have w154 := zrg (zI w21M 360 w153n)
                            refine zs_iald (pc := 165) t325_165 (j := w153n) (by decide) (zk1 (w21s.k fk_zMm_360)) (show w26x10.toInt = ((w153n : Nat) : Int) by omega) (zk2 (w21s.k fk_zMm_360) (by omega)) rfl ?_
                            by_cases w155 : (zI w21M 360 w153n).toInt ≤ (zI w21M 360 w151n).toInt
                            · refine zs_icmp_geT (pc := 166) t325_166 rfl rfl (by omega) ?_
                              refine zs_iload (pc := 174) t325_174 rfl ?_
                              refine zs_istore (pc := 176) t325_176 (ls' := [(10, .int w26x10), (0, .ref 336), (1, .int a), (2, .int b), (3, .int c), (4, .int d), (5, .int w13v), (6, .int w21x6), (7, .int w21x7), (8, .int w23v), (9, .int w24x9), (11, .int w26x11)]) (zml mf325 (by decide)) rfl ?_
                              obtain ⟨w156v, w156e, w156⟩ := ziadd (a := w26x11) (b := Int32.ofInt 1) rfl (show (Int32.ofInt 1).toInt = 1 by decide) (by omega) (by omega)
                              refine zs_iinc (pc := 178) t325_178 (ls' := [(11, .int w156v), (10, .int w26x10), (0, .ref 336), (1, .int a), (2, .int b), (3, .int c), (4, .int d), (5, .int w13v), (6, .int w21x6), (7, .int w21x7), (8, .int w23v), (9, .int w24x9)]) (zml mf325 (by decide)) rfl (c := w156v) w156e rfl ?_
                              refine zs_goto (pc := 181) t325_181 ?_
                              refine zGo.locals (ls' := [(0, .ref 336), (1, .int a), (2, .int b), (3, .int c), (4, .int d), (5, .int w13v), (6, .int w21x6), (7, .int w21x7), (8, .int w23v), (9, .int w24x9), (10, .int w26x10), (11, .int w156v)]) (by simp) ?_
                              have w157 := w156
                              exact w26ih (w26m - 1) (by omega) w26x10 w156v ⟨by omega, by omega⟩ ⟨by omega, by omega⟩ (by omega)
                            · refine zs_icmp_geF (pc := 166) t325_166 rfl rfl (by omega) ?_
                              refine zs_iload (pc := 169) t325_169 rfl ?_
                              refine zs_goto (pc := 171) t325_171 ?_
                              refine zs_istore (pc := 176) t325_176 (ls' := [(10, .int w26x11), (0, .ref 336), (1, .int a), (2, .int b), (3, .int c), (4, .int d), (5, .int w13v), (6, .int w21x6), (7, .int w21x7), (8, .int w23v), (9, .int w24x9), (11, .int w26x11)]) (zml mf325 (by decide)) rfl ?_
                              obtain ⟨w158v, w158e, w158⟩ := ziadd (a := w26x11) (b := Int32.ofInt 1) rfl (show (Int32.ofInt 1).toInt = 1 by decide) (by omega) (by omega)
                              refine zs_iinc (pc := 178) t325_178 (ls' := [(11, .int w158v), (10, .int w26x11), (0, .ref 336), (1, .int a), (2, .int b), (3, .int c), (4, .int d), (5, .int w13v), (6, .int w21x6), (7, .int w21x7), (8, .int w23v), (9, .int w24x9)]) (zml mf325 (by decide)) rfl (c := w158v) w158e rfl ?_
                              refine zs_goto (pc := 181) t325_181 ?_
                              refine zGo.locals (ls' := [(0, .ref 336), (1, .int a), (2, .int b), (3, .int c), (4, .int d), (5, .int w13v), (6, .int w21x6), (7, .int w21x7), (8, .int w23v), (9, .int w24x9), (10, .int w26x11), (11, .int w158v)]) (by simp) ?_
                              have w159 := w158
                              exact w26ih (w26m - 1) (by omega) w26x11 w158v ⟨by omega, by omega⟩ ⟨by omega, by omega⟩ (by omega)
                      refine zGo.locals (ls' := [(0, .ref 336), (1, .int a), (2, .int b), (3, .int c), (4, .int d), (5, .int w13v), (6, .int w21x6), (7, .int w21x7), (8, .int w23v), (9, .int w24x9), (10, .int (0 : Int32)), (11, .int (1 : Int32))]) (by simp) ?_
                      have w160 := li0
                      have w161 := li1
                      exact w26L ((8 - 1 : Int).toNat) (0 : Int32) (1 : Int32) ⟨by decide, by decide⟩ ⟨by decide, by decide⟩ (by omega)
                    · refine zs_icmp_geF (pc := 109) t325_109 rfl rfl (by omega) ?_
                      refine zs_iload (pc := 112) t325_112 rfl ?_
                      refine zs_aload_n (pc := 114) t325_114 rfl ?_
                      refine zs_get (pc := 115) t325_115 (by decide) (zk1 (w21s.k fk_zMm_336)) (w21s.p rfl fv_zMm_336_41) ?_
                      refine zs_iload (pc := 118) t325_118 rfl ?_
                      obtain ⟨w162n, w162⟩ : ∃ n : Nat, w24x10.toInt = (n : Int) := ⟨(w24x10.toInt).toNat, by omega⟩
                      have w163 := zrg (zI w21M 361 w162n)
                      refine zs_iald (pc := 120) t325_120 (j := w162n) (by decide) (zk1 (w21s.k fk_zMm_361)) (show w24x10.toInt = ((w162n : Nat) : Int) by omega) (zk2 (w21s.k fk_zMm_361) (by omega)) rfl ?_
                      refine zs_iload (pc := 121) t325_121 rfl ?_
                      by_cases w164 : (zI w21M 361 w162n).toInt ≤ w23v.toInt
                      · refine zs_icmp_leT (pc := 123) t325_123 rfl rfl (by omega) ?_
                        refine zs_iconst (pc := 130) t325_130 (v := 0) (by decide) ?_
                        obtain ⟨w165v, w165e, w165⟩ := ziadd (a := w24x9) (b := (0 : Int32)) rfl li0 (by omega) (by omega)
                        refine zs_iadd (pc := 131) t325_131 (c := w165v) w165e ?_
                        refine zs_istore (pc := 132) t325_132 (ls' := [(9, .int w165v), (0, .ref 336), (1, .int a), (2, .int b), (3, .int c), (4, .int d), (5, .int w13v), (6, .int w21x6), (7, .int w21x7), (8, .int w23v), (10, .int w24x10)]) (zml mf325 (by decide)) rfl ?_
                        obtain ⟨w166v, w166e, w166⟩ := ziadd (a := w24x10) (b := Int32.ofInt 1) rfl (show (Int32.ofInt 1).toInt = 1 by decide) (by omega) (by omega)
                        refine zs_iinc (pc := 134) t325_134 (ls' := [(10, .int w166v), (9, .int w165v), (0, .ref 336), (1, .int a), (2, .int b), (3, .int c), (4, .int d), (5, .int w13v), (6, .int w21x6), (7, .int w21x7), (8, .int w23v)]) (zml mf325 (by decide)) rfl (c := w166v) w166e rfl ?_
                        refine zs_goto (pc := 137) t325_137 ?_
                        refine zGo.locals (ls' := [(0, .ref 336), (1, .int a), (2, .int b), (3, .int c), (4, .int d), (5, .int w13v), (6, .int w21x6), (7, .int w21x7), (8, .int w23v), (9, .int w165v), (10, .int w166v)]) (by simp) ?_
                        have w167 := w165
                        have w168 := w166
                        exact w24ih (w24m - 1) (by omega) w165v w166v ⟨by omega, by omega⟩ (by omega)
                      · refine zs_icmp_leF (pc := 123) t325_123 rfl rfl (by omega) ?_
                        refine zs_iconst (pc := 126) t325_126 (v := 1) (by decide) ?_
                        refine zs_goto (pc := 127) t325_127 ?_
                        obtain ⟨w169v, w169⟩ : ∃ v, v = w24x9 + (1 : Int32) := ⟨_, rfl⟩
                        have w169g := zrg w169v
                        refine zs_iadd (pc := 131) t325_131 (c := w169v) w169.symm ?_
                        refine zs_istore (pc := 132) t325_132 (ls' := [(9, .int w169v), (0, .ref 336), (1, .int a), (2, .int b), (3, .int c), (4, .int d), (5, .int w13v), (6, .int w21x6), (7, .int w21x7), (8, .int w23v), (10, .int w24x10)]) (zml mf325 (by decide)) rfl ?_
                        obtain ⟨w170v, w170e, w170⟩ := ziadd (a := w24x10) (b := Int32.ofInt 1) rfl (show (Int32.ofInt 1).toInt = 1 by decide) (by omega) (by omega)
                        refine zs_iinc (pc := 134) t325_134 (ls' := [(10, .int w170v), (9, .int w169v), (0, .ref 336), (1, .int a), (2, .int b), (3, .int c), (4, .int d), (5, .int w13v), (6, .int w21x6), (7, .int w21x7), (8, .int w23v)]) (zml mf325 (by decide)) rfl (c := w170v) w170e rfl ?_
                        refine zs_goto (pc := 137) t325_137 ?_
                        refine zGo.locals (ls' := [(0, .ref 336), (1, .int a), (2, .int b), (3, .int c), (4, .int d), (5, .int w13v), (6, .int w21x6), (7, .int w21x7), (8, .int w23v), (9, .int w169v), (10, .int w170v)]) (by simp) ?_
                        have w171 := w170
                        exact w24ih (w24m - 1) (by omega) w169v w170v ⟨by omega, by omega⟩ (by omega)
                refine zGo.locals (ls' := [(0, .ref 336), (1, .int a), (2, .int b), (3, .int c), (4, .int d), (5, .int w13v), (6, .int w21x6), (7, .int w21x7), (8, .int w23v), (9, .int (0 : Int32)), (10, .int (0 : Int32))]) (by simp) ?_
                have w172 := li0
                have w173 := li0
                exact w24L ((200 - 0 : Int).toNat) (0 : Int32) (0 : Int32) ⟨by decide, by decide⟩ (by omega)
          refine zGo.locals (ls' := [(0, .ref 336), (1, .int a), (2, .int b), (3, .int c), (4, .int d), (5, .int w13v), (6, .int (0 : Int32)), (7, .int (0 : Int32))]) (by simp) ?_
          have w174 := li0
          have w175 := li0
          exact w21L ((200 - 0 : Int).toNat) (0 : Int32) (0 : Int32) (zsI (zsI (zsI (zsI w15M 336 42 (0 : Int32)) 336 43 (0 : Int32)) 336 44 (0 : Int32)) 336 45 (0 : Int32)) ⟨by decide, by decide⟩ ⟨by decide, by decide⟩ w15s w20 zFr.refl rfl (by omega) (by omega)
        · refine zs_icmp_geF (pc := 44) t325_44 rfl rfl (by omega) ?_
          refine zs_aload_n (pc := 47) t325_47 rfl ?_
          refine zs_get (pc := 48) t325_48 (by decide) (zk1 (w15s.k fk_zMm_336)) (w15s.p rfl fv_zMm_336_40) ?_
          refine zs_iload (pc := 51) t325_51 rfl ?_
          refine zs_iconst (pc := 53) t325_53 (v := 0) (by decide) ?_
          obtain ⟨w176n, w176⟩ : ∃ n : Nat, w15x6.toInt = (n : Int) := ⟨(w15x6.toInt).toNat, by omega⟩
          have w177 : zIv mLo mHi (zsI w15M 360 w176n (0 : Int32)) := zIv.put w15I (show (-2147483648) ≤ (0 : Int32).toInt ∧ (0 : Int32).toInt ≤ 2147483647 from zrg (0 : Int32))
          refine zs_iast (pc := 54) t325_54 (j := w176n) (by decide) (zk1 (w15s.k fk_zMm_360)) (show w15x6.toInt = ((w176n : Nat) : Int) by omega) (zk2 (w15s.k fk_zMm_360) (by omega)) ?_
          obtain ⟨w178v, w178e, w178⟩ := ziadd (a := w15x6) (b := Int32.ofInt 1) rfl (show (Int32.ofInt 1).toInt = 1 by decide) (by omega) (by omega)
          refine zs_iinc (pc := 55) t325_55 (ls' := [(6, .int w178v), (0, .ref 336), (1, .int a), (2, .int b), (3, .int c), (4, .int d), (5, .int w13v)]) (zml mf325 (by decide)) rfl (c := w178v) w178e rfl ?_
          refine zs_goto (pc := 58) t325_58 ?_
          refine zGo.locals (ls' := [(0, .ref 336), (1, .int a), (2, .int b), (3, .int c), (4, .int d), (5, .int w13v), (6, .int w178v)]) (by simp) ?_
          have w179 := w178
          exact w15ih (w15m - 1) (by omega) w178v (zsI w15M 360 w176n (0 : Int32)) ⟨by omega, by omega⟩ w15s w177 (((zFr.refl).trans (w15F.mono rfl)).put rfl) w15J (by omega)
    refine zGo.locals (ls' := [(0, .ref 336), (1, .int a), (2, .int b), (3, .int c), (4, .int d), (5, .int w13v), (6, .int (0 : Int32))]) (by simp) ?_
    have w180 := li0
    exact w15L ((8 - 0 : Int).toNat) (0 : Int32) w7M ⟨by decide, by decide⟩ w7s w7I zFr.refl rfl (by omega)
  · refine zs_icmp_geF (pc := 27) t325_27 rfl li1 (by omega) ?_
    refine zs_iconst (pc := 30) t325_30 (v := 1) (by decide) ?_
    refine zs_goto (pc := 31) t325_31 ?_
    refine zs_istore (pc := 36) t325_36 (ls' := [(5, .int (1 : Int32)), (0, .ref 336), (1, .int a), (2, .int b), (3, .int c), (4, .int d)]) (zml mf325 (by decide)) rfl ?_
    refine zs_iconst (pc := 38) t325_38 (v := 0) (by decide) ?_
    refine zs_istore (pc := 39) t325_39 (ls' := [(6, .int (0 : Int32)), (5, .int (1 : Int32)), (0, .ref 336), (1, .int a), (2, .int b), (3, .int c), (4, .int d)]) (zml mf325 (by decide)) rfl ?_
    have w181L : ∀ (m : Nat) (w181x6 : Int32) (w181M : zM), (0 ≤ w181x6.toInt ∧ w181x6.toInt ≤ 8) → zSk zMm w181M → zIv mLo mHi w181M → zFr [(360, 360, none)] w7M w181M → zJ w181M 351 = zJ w7M 351 → 8 - w181x6.toInt ≤ (m : Int) → zGo X l 8 0 0 325 41 [(0, .ref 336), (1, .int a), (2, .int b), (3, .int c), (4, .int d), (5, .int (1 : Int32)), (6, .int w181x6)] [] w181M Q := by
      intro m
      induction m using Nat.strongRecOn with
      | ind w181m w181ih =>
        intro w181x6 w181M w181b6 w181s w181I w181F w181J w181q
        refine zs_iload (pc := 41) t325_41 rfl ?_
        refine zs_iload_n (pc := 43) t325_43 rfl ?_
        by_cases w182 : c.toInt ≤ w181x6.toInt
        · refine zs_icmp_geT (pc := 44) t325_44 rfl rfl (by omega) ?_
          refine zs_aload_n (pc := 61) t325_61 rfl ?_
          refine zs_iconst (pc := 62) t325_62 (v := 0) (by decide) ?_
          have w183 : zIv mLo mHi (zsI w181M 336 42 (0 : Int32)) := zIv.put w181I (show (-2147483648) ≤ (0 : Int32).toInt ∧ (0 : Int32).toInt ≤ 2147483647 from zrg (0 : Int32))
          refine zs_putI (pc := 63) t325_63 (zk1 (w181s.k fk_zMm_336)) rfl ?_
          refine zs_aload_n (pc := 66) t325_66 rfl ?_
          refine zs_iconst (pc := 67) t325_67 (v := 0) (by decide) ?_
          have w184 : zIv mLo mHi (zsI (zsI w181M 336 42 (0 : Int32)) 336 43 (0 : Int32)) := zIv.put w183 (show (-2147483648) ≤ (0 : Int32).toInt ∧ (0 : Int32).toInt ≤ 2147483647 from zrg (0 : Int32))
          refine zs_putI (pc := 68) t325_68 (zk1 (w181s.k fk_zMm_336)) rfl ?_
          refine zs_aload_n (pc := 71) t325_71 rfl ?_
          refine zs_iconst (pc := 72) t325_72 (v := 0) (by decide) ?_
          have w185 : zIv mLo mHi (zsI (zsI (zsI w181M 336 42 (0 : Int32)) 336 43 (0 : Int32)) 336 44 (0 : Int32)) := zIv.put w184 (show (-2147483648) ≤ (0 : Int32).toInt ∧ (0 : Int32).toInt ≤ 2147483647 from zrg (0 : Int32))
          refine zs_putI (pc := 73) t325_73 (zk1 (w181s.k fk_zMm_336)) rfl ?_
          refine zs_aload_n (pc := 76) t325_76 rfl ?_
          refine zs_iconst (pc := 77) t325_77 (v := 0) (by decide) ?_
          have w186 : zIv mLo mHi (zsI (zsI (zsI (zsI w181M 336 42 (0 : Int32)) 336 43 (0 : Int32)) 336 44 (0 : Int32)) 336 45 (0 : Int32)) := zIv.put w185 (show (-2147483648) ≤ (0 : Int32).toInt ∧ (0 : Int32).toInt ≤ 2147483647 from zrg (0 : Int32))
          refine zs_putI (pc := 78) t325_78 (zk1 (w181s.k fk_zMm_336)) rfl ?_
          refine zs_iconst (pc := 81) t325_81 (v := 0) (by decide) ?_
          refine zs_istore (pc := 82) t325_82 (ls' := [(6, .int (0 : Int32)), (0, .ref 336), (1, .int a), (2, .int b), (3, .int c), (4, .int d), (5, .int (1 : Int32))]) (zml mf325 (by decide)) rfl ?_
          refine zs_iconst (pc := 84) t325_84 (v := 0) (by decide) ?_
          refine zs_istore (pc := 85) t325_85 (ls' := [(7, .int (0 : Int32)), (6, .int (0 : Int32)), (0, .ref 336), (1, .int a), (2, .int b), (3, .int c), (4, .int d), (5, .int (1 : Int32))]) (zml mf325 (by decide)) rfl ?_
          have w187L : ∀ (m : Nat) (w187x6 : Int32) (w187x7 : Int32) (w187M : zM), (0 ≤ w187x6.toInt ∧ w187x6.toInt ≤ 200) → (0 ≤ w187x7.toInt ∧ w187x7.toInt ≤ 200) → zSk zMm w187M → zIv mLo mHi w187M → zFr [(360, 360, none), (361, 361, none), (336, 336, some 42), (336, 336, some 43), (336, 336, some 44), (336, 336, some 45)] (zsI (zsI (zsI (zsI w181M 336 42 (0 : Int32)) 336 43 (0 : Int32)) 336 44 (0 : Int32)) 336 45 (0 : Int32)) w187M → zJ w187M 351 = zJ (zsI (zsI (zsI (zsI w181M 336 42 (0 : Int32)) 336 43 (0 : Int32)) 336 44 (0 : Int32)) 336 45 (0 : Int32)) 351 → (w187x6.toInt ≤ w187x7.toInt) → 200 - w187x7.toInt ≤ (m : Int) → zGo X l 8 0 0 325 87 [(0, .ref 336), (1, .int a), (2, .int b), (3, .int c), (4, .int d), (5, .int (1 : Int32)), (6, .int w187x6), (7, .int w187x7)] [] w187M Q := by
            intro m
            induction m using Nat.strongRecOn with
            | ind w187m w187ih =>
              intro w187x6 w187x7 w187M w187b6 w187b7 w187s w187I w187F w187J w187r0 w187q
              refine zs_iload (pc := 87) t325_87 rfl ?_
              refine zs_iload_n (pc := 89) t325_89 rfl ?_
              by_cases w188 : a.toInt ≤ w187x7.toInt
              · refine zs_icmp_geT (pc := 90) t325_90 rfl rfl (by omega) ?_
                exact zs_vret (pc := 368) t325_368 mr325 (hQ _ w187s w187I ((((((((zFr.refl).trans (w7F.mono rfl)).trans (w181F.mono rfl)).put rfl).put rfl).put rfl).put rfl).trans (w187F.mono rfl)) (zPF.fr (zPF.fr (M' := (zsI (zsI (zsI (zsI w181M 336 42 (0 : Int32)) 336 43 (0 : Int32)) 336 44 (0 : Int32)) 336 45 (0 : Int32))) (zPF.fr (M' := (zsI (zsI (zsI w181M 336 42 (0 : Int32)) 336 43 (0 : Int32)) 336 44 (0 : Int32))) (zPF.fr (M' := (zsI (zsI w181M 336 42 (0 : Int32)) 336 43 (0 : Int32))) (zPF.fr (M' := (zsI w181M 336 42 (0 : Int32))) (zPF.fr w7PF (w181F.eq rfl) w181J) (zEq.put rfl) rfl) (zEq.put rfl) rfl) (zEq.put rfl) rfl) (zEq.put rfl) rfl) (w187F.eq rfl) w187J) (zKnB.fr w7x0 ((w187F 336 3 rfl).trans ((zIoj (by decide)).trans ((zIoj (by decide)).trans ((zIoj (by decide)).trans ((zIoj (by decide)).trans (w181F 336 3 rfl)))))) ((w187F 336 22 rfl).trans ((zIoj (by decide)).trans ((zIoj (by decide)).trans ((zIoj (by decide)).trans ((zIoj (by decide)).trans (w181F 336 22 rfl)))))) ((((((((zFr.refl).trans (w181F.mono rfl)).put rfl).put rfl).put rfl).put rfl).trans (w187F.mono rfl)).eq (W := [(336, 336, some 37), (336, 336, some 39), (336, 336, some 42), (336, 336, some 43), (336, 336, some 44), (336, 336, some 45), (336, 336, some 18), (336, 336, some 19), (336, 336, some 20), (336, 336, some 21), (342, 344, none), (351, 361, none)]) rfl)))
              · refine zs_icmp_geF (pc := 90) t325_90 rfl rfl (by omega) ?_
                refine zs_iload (pc := 93) t325_93 rfl ?_
                refine zs_iload_n (pc := 95) t325_95 rfl ?_
                obtain ⟨w189v, w189⟩ : ∃ v, w187x7 * b = v := ⟨_, rfl⟩
                have w189g := zrg w189v
                refine zs_imul (pc := 96) t325_96 (c := w189v) w189 ?_
                refine zs_istore (pc := 97) t325_97 (ls' := [(8, .int w189v), (0, .ref 336), (1, .int a), (2, .int b), (3, .int c), (4, .int d), (5, .int (1 : Int32)), (6, .int w187x6), (7, .int w187x7)]) (zml mf325 (by decide)) rfl ?_
                refine zs_iconst (pc := 99) t325_99 (v := 0) (by decide) ?_
                refine zs_istore (pc := 100) t325_100 (ls' := [(9, .int (0 : Int32)), (8, .int w189v), (0, .ref 336), (1, .int a), (2, .int b), (3, .int c), (4, .int d), (5, .int (1 : Int32)), (6, .int w187x6), (7, .int w187x7)]) (zml mf325 (by decide)) rfl ?_
                refine zs_iconst (pc := 102) t325_102 (v := 0) (by decide) ?_
                refine zs_istore (pc := 103) t325_103 (ls' := [(10, .int (0 : Int32)), (9, .int (0 : Int32)), (8, .int w189v), (0, .ref 336), (1, .int a), (2, .int b), (3, .int c), (4, .int d), (5, .int (1 : Int32)), (6, .int w187x6), (7, .int w187x7)]) (zml mf325 (by decide)) rfl ?_
                have w190L : ∀ (m : Nat) (w190x9 : Int32) (w190x10 : Int32), (0 ≤ w190x10.toInt ∧ w190x10.toInt ≤ 200) → 200 - w190x10.toInt ≤ (m : Int) → zGo X l 8 0 0 325 105 [(0, .ref 336), (1, .int a), (2, .int b), (3, .int c), (4, .int d), (5, .int (1 : Int32)), (6, .int w187x6), (7, .int w187x7), (8, .int w189v), (9, .int w190x9), (10, .int w190x10)] [] w187M Q := by
                  intro m
                  induction m using Nat.strongRecOn with
                  | ind w190m w190ih =>
                    intro w190x9 w190x10 w190b10 w190q
                    have w190g9 := zrg w190x9
                    refine zs_iload (pc := 105) t325_105 rfl ?_
                    refine zs_iload (pc := 107) t325_107 rfl ?_
                    by_cases w191 : w187x6.toInt ≤ w190x10.toInt
                    · refine zs_icmp_geT (pc := 109) t325_109 rfl rfl (by omega) ?_
                      refine zs_iconst (pc := 140) t325_140 (v := 0) (by decide) ?_
                      refine zs_istore (pc := 141) t325_141 (ls' := [(10, .int (0 : Int32)), (0, .ref 336), (1, .int a), (2, .int b), (3, .int c), (4, .int d), (5, .int (1 : Int32)), (6, .int w187x6), (7, .int w187x7), (8, .int w189v), (9, .int w190x9)]) (zml mf325 (by decide)) rfl ?_
                      refine zs_iconst (pc := 143) t325_143 (v := 1) (by decide) ?_
                      refine zs_istore (pc := 144) t325_144 (ls' := [(11, .int (1 : Int32)), (10, .int (0 : Int32)), (0, .ref 336), (1, .int a), (2, .int b), (3, .int c), (4, .int d), (5, .int (1 : Int32)), (6, .int w187x6), (7, .int w187x7), (8, .int w189v), (9, .int w190x9)]) (zml mf325 (by decide)) rfl ?_
                      have w192L : ∀ (m : Nat) (w192x10 : Int32) (w192x11 : Int32), (0 ≤ w192x10.toInt ∧ w192x10.toInt ≤ 7) → (1 ≤ w192x11.toInt ∧ w192x11.toInt ≤ 8) → 8 - w192x11.toInt ≤ (m : Int) → zGo X l 8 0 0 325 146 [(0, .ref 336), (1, .int a), (2, .int b), (3, .int c), (4, .int d), (5, .int (1 : Int32)), (6, .int w187x6), (7, .int w187x7), (8, .int w189v), (9, .int w190x9), (10, .int w192x10), (11, .int w192x11)] [] w187M Q := by
                        intro m
                        induction m using Nat.strongRecOn with
                        | ind w192m w192ih =>
                          intro w192x10 w192x11 w192b10 w192b11 w192q
                          refine zs_iload (pc := 146) t325_146 rfl ?_
                          refine zs_iload_n (pc := 148) t325_148 rfl ?_
                          by_cases w193 : c.toInt ≤ w192x11.toInt
                          · refine zs_icmp_geT (pc := 149) t325_149 rfl rfl (by omega) ?_
                            refine zs_aload_n (pc := 184) t325_184 rfl ?_
                            refine zs_get (pc := 185) t325_185 (by decide) (zk1 (w187s.k fk_zMm_336)) (w187s.p rfl fv_zMm_336_40) ?_
                            refine zs_iload (pc := 188) t325_188 rfl ?_
                            obtain ⟨w194n, w194⟩ : ∃ n : Nat, w192x10.toInt = (n : Int) := ⟨(w192x10.toInt).toNat, by omega⟩
                            have w195 := zrg (zI w187M 360 w194n)
                            refine zs_iald (pc := 190) t325_190 (j := w194n) (by decide) (zk1 (w187s.k fk_zMm_360)) (show w192x10.toInt = ((w194n : Nat) : Int) by omega) (zk2 (w187s.k fk_zMm_360) (by omega)) rfl ?_
                            refine zs_iload (pc := 191) t325_191 rfl ?_
                            by_cases w196 : w189v.toInt < (zI w187M 360 w194n).toInt
                            · refine zs_icmp_gtT (pc := 193) t325_193 rfl rfl (by omega) ?_
                              refine zs_iconst (pc := 200) t325_200 (v := 0) (by decide) ?_
                              refine zs_istore (pc := 201) t325_201 (ls' := [(11, .int (0 : Int32)), (0, .ref 336), (1, .int a), (2, .int b), (3, .int c), (4, .int d), (5, .int (1 : Int32)), (6, .int w187x6), (7, .int w187x7), (8, .int w189v), (9, .int w190x9), (10, .int w192x10)]) (zml mf325 (by decide)) rfl ?_
                              refine zs_iload (pc := 203) t325_203 rfl ?_
                              refine zs_if_neF (pc := 205) t325_205 li0 (by decide) ?_
                              refine zs_iload (pc := 208) t325_208 rfl ?_
                              refine zs_iload (pc := 210) t325_210 rfl ?_
                              by_cases w197 : w190x9.toInt ≠ d.toInt
                              · refine zs_icmp_neT (pc := 212) t325_212 rfl rfl (by omega) ?_
                                refine zs_iload (pc := 228) t325_228 rfl ?_
                                refine zs_if_neF (pc := 230) t325_230 li0 (by decide) ?_
                                refine zs_iload (pc := 233) t325_233 rfl ?_
                                refine zs_iconst (pc := 235) t325_235 (v := 1) (by decide) ?_
                                obtain ⟨w198v, w198⟩ : ∃ v, v = w190x9 + (1 : Int32) := ⟨_, rfl⟩
                                have w198g := zrg w198v
                                refine zs_iadd (pc := 236) t325_236 (c := w198v) w198.symm ?_
                                refine zs_aload_n (pc := 237) t325_237 rfl ?_
                                have w199 := zrg (zI w187M 336 44)
                                refine zs_get (pc := 238) t325_238 (by decide) (zk1 (w187s.k fk_zMm_336)) (zfvi rfl rfl) ?_
                                by_cases w200 : w198v.toInt ≤ (zI w187M 336 44).toInt
                                · refine zs_icmp_leT (pc := 241) t325_241 rfl rfl (by omega) ?_
                                  refine zs_aload_n (pc := 252) t325_252 rfl ?_
                                  refine zs_get (pc := 253) t325_253 (by decide) (zk1 (w187s.k fk_zMm_336)) (w187s.p rfl fv_zMm_336_41) ?_
                                  refine zs_iload (pc := 256) t325_256 rfl ?_
                                  refine zs_iload (pc := 258) t325_258 rfl ?_
                                  refine zs_if_eqT (pc := 260) t325_260 li0 (by decide) ?_
                                  refine zs_aload_n (pc := 268) t325_268 rfl ?_
                                  refine zs_get (pc := 269) t325_269 (by decide) (zk1 (w187s.k fk_zMm_336)) (w187s.p rfl fv_zMm_336_40) ?_
                                  refine zs_iload (pc := 272) t325_272 rfl ?_
                                  refine zs_iald (pc := 274) t325_274 (j := w194n) (by decide) (zk1 (w187s.k fk_zMm_360)) (show w192x10.toInt = ((w194n : Nat) : Int) by omega) (zk2 (w187s.k fk_zMm_360) (by omega)) rfl ?_
                                  obtain ⟨w201n, w201⟩ : ∃ n : Nat, w187x6.toInt = (n : Int) := ⟨(w187x6.toInt).toNat, by omega⟩
                                  have w202 : zIv mLo mHi (zsI w187M 361 w201n (zI w187M 360 w194n)) := zIv.put w187I (show (-2147483648) ≤ (zI w187M 360 w194n).toInt ∧ (zI w187M 360 w194n).toInt ≤ 2147483647 from zrg (zI w187M 360 w194n))
                                  refine zs_iast (pc := 275) t325_275 (j := w201n) (by decide) (zk1 (w187s.k fk_zMm_361)) (show w187x6.toInt = ((w201n : Nat) : Int) by omega) (zk2 (w187s.k fk_zMm_361) (by omega)) ?_
                                  refine zs_aload_n (pc := 276) t325_276 rfl ?_
                                  refine zs_get (pc := 277) t325_277 (by decide) (zk1 (w187s.k fk_zMm_336)) (w187s.p rfl fv_zMm_336_40) ?_
                                  refine zs_iload (pc := 280) t325_280 rfl ?_
                                  refine zs_aload_n (pc := 282) t325_282 rfl ?_
                                  refine zs_get (pc := 283) t325_283 (by decide) (zk1 (w187s.k fk_zMm_336)) (w187s.p rfl fv_zMm_336_41) ?_
                                  refine zs_iload (pc := 286) t325_286 rfl ?_
                                  refine zs_iald (pc := 288) t325_288 (j := w201n) (by decide) (zk1 (w187s.k fk_zMm_361)) (show w187x6.toInt = ((w201n : Nat) : Int) by omega) (zk2 (w187s.k fk_zMm_361) (by omega)) zIs ?_
                                  refine zs_iload (pc := 289) t325_289 rfl ?_
                                  obtain ⟨w203v, w203⟩ : ∃ v, v = (zI w187M 360 w194n) + (1 : Int32) := ⟨_, rfl⟩
                                  have w203g := zrg w203v
                                  refine zs_iadd (pc := 291) t325_291 (c := w203v) w203.symm ?_
                                  have w204 : zIv mLo mHi (zsI (zsI w187M 361 w201n (zI w187M 360 w194n)) 360 w194n w203v) := zIv.put w202 (show (-2147483648) ≤ w203v.toInt ∧ w203v.toInt ≤ 2147483647 from zrg w203v)
                                  refine zs_iast (pc := 292) t325_292 (j := w194n) (by decide) (zk1 (w187s.k fk_zMm_360)) (show w192x10.toInt = ((w194n : Nat) : Int) by omega) (zk2 (w187s.k fk_zMm_360) (by omega)) ?_
                                  refine zs_aload_n (pc := 293) t325_293 rfl ?_
                                  refine zs_dup (pc := 294) t325_294 rfl ?_
                                  have w205 := zrg (zI w187M 336 43)
                                  refine zs_get (pc := 295) t325_295 (by decide) (zk1 (w187s.k fk_zMm_336)) (zfvi rfl ((zIo (by decide)).trans ((zIo (by decide)).trans rfl))) ?_
                                  refine zs_aload_n (pc := 298) t325_298 rfl ?_
                                  refine zs_get (pc := 299) t325_299 (by decide) (zk1 (w187s.k fk_zMm_336)) (w187s.p rfl fv_zMm_336_40) ?_
                                  refine zs_iload (pc := 302) t325_302 rfl ?_
                                  refine zs_iald (pc := 304) t325_304 (j := w194n) (by decide) (zk1 (w187s.k fk_zMm_360)) (show w192x10.toInt = ((w194n : Nat) : Int) by omega) (zk2 (w187s.k fk_zMm_360) (by omega)) zIs ?_
                                  refine zs_iload (pc := 305) t325_305 rfl ?_
                                  obtain ⟨w206v, w206⟩ : ∃ v, v = w203v - w189v := ⟨_, rfl⟩
                                  have w206g := zrg w206v
                                  refine zs_isub (pc := 307) t325_307 (c := w206v) w206.symm ?_
                                  refine zs_aload_n (pc := 308) t325_308 rfl ?_
                                  refine zs_get (pc := 309) t325_309 (by decide) (zk1 (w187s.k fk_zMm_336)) (w187s.p rfl fv_zMm_336_0) ?_
                                  refine zs_bipush (pc := 312) t325_312 (v := 13) (by decide) ?_
                                  have w207 : (zI M 337 13).toInt = F 13 := x0.at (by decide) (by decide) (by decide)
                                  refine zs_iald (pc := 314) t325_314 (j := 13) (by decide) (zk1 (w187s.k fk_zMm_337)) li13 (zk2 (w187s.k fk_zMm_337) (by decide)) ((zIo (by decide)).trans ((zIo (by decide)).trans ((w187F 337 13 rfl).trans ((zIo (by decide)).trans ((zIo (by decide)).trans ((zIo (by decide)).trans ((zIo (by decide)).trans ((w181F 337 13 rfl).trans ((w7F 337 13 rfl).trans rfl))))))))) ?_
                                  by_cases w208 : w206v.toInt ≤ (zI M 337 13).toInt
                                  · refine zs_icmp_leT (pc := 315) t325_315 rfl rfl (by omega) ?_
                                    refine zs_iconst (pc := 322) t325_322 (v := 0) (by decide) ?_
                                    obtain ⟨w209v, w209e, w209⟩ := ziadd (a := (zI w187M 336 43)) (b := (0 : Int32)) rfl li0 (by omega) (by omega)
                                    refine zs_iadd (pc := 323) t325_323 (c := w209v) w209e ?_
                                    have w210 : zIv mLo mHi (zsI (zsI (zsI w187M 361 w201n (zI w187M 360 w194n)) 360 w194n w203v) 336 43 w209v) := zIv.put w204 (show (-2147483648) ≤ w209v.toInt ∧ w209v.toInt ≤ 2147483647 from zrg w209v)
                                    refine zs_putI (pc := 324) t325_324 (zk1 (w187s.k fk_zMm_336)) rfl ?_
                                    refine zs_aload_n (pc := 327) t325_327 rfl ?_
                                    refine zs_aload_n (pc := 328) t325_328 rfl ?_
                                    refine zs_get (pc := 329) t325_329 (by decide) (zk1 (w187s.k fk_zMm_336)) (w187s.p rfl fv_zMm_336_40) ?_
                                    refine zs_iload (pc := 332) t325_332 rfl ?_
                                    refine zs_iald (pc := 334) t325_334 (j := w194n) (by decide) (zk1 (w187s.k fk_zMm_360)) (show w192x10.toInt = ((w194n : Nat) : Int) by omega) (zk2 (w187s.k fk_zMm_360) (by omega)) ((zIo (by decide)).trans zIs) ?_
                                    refine zs_aload_n (pc := 335) t325_335 rfl ?_
                                    have w211 := zrg (zI w187M 336 45)
                                    refine zs_get (pc := 336) t325_336 (by decide) (zk1 (w187s.k fk_zMm_336)) (zfvi rfl ((zIoj (by decide)).trans ((zIo (by decide)).trans ((zIo (by decide)).trans rfl)))) ?_
                                    by_cases w212 : w203v.toInt ≤ (zI w187M 336 45).toInt
                                    · refine zs_icmp_leT (pc := 339) t325_339 rfl rfl (by omega) ?_
                                      refine zs_aload_n (pc := 352) t325_352 rfl ?_
                                      refine zs_get (pc := 353) t325_353 (by decide) (zk1 (w187s.k fk_zMm_336)) (zfvi rfl ((zIoj (by decide)).trans ((zIo (by decide)).trans ((zIo (by decide)).trans rfl)))) ?_
                                      have w213 : zIv mLo mHi (zsI (zsI (zsI (zsI w187M 361 w201n (zI w187M 360 w194n)) 360 w194n w203v) 336 43 w209v) 336 45 (zI w187M 336 45)) := zIv.put w210 (show (-2147483648) ≤ (zI w187M 336 45).toInt ∧ (zI w187M 336 45).toInt ≤ 2147483647 from zrg (zI w187M 336 45))
                                      refine zs_putI (pc := 356) t325_356 (zk1 (w187s.k fk_zMm_336)) rfl ?_
                                      obtain ⟨w214v, w214e, w214⟩ := ziadd (a := w187x6) (b := Int32.ofInt 1) rfl (show (Int32.ofInt 1).toInt = 1 by decide) (by omega) (by omega)
                                      refine zs_iinc (pc := 359) t325_359 (ls' := [(6, .int w214v), (11, .int (0 : Int32)), (0, .ref 336), (1, .int a), (2, .int b), (3, .int c), (4, .int d), (5, .int (1 : Int32)), (7, .int w187x7), (8, .int w189v), (9, .int w190x9), (10, .int w192x10)]) (zml mf325 (by decide)) rfl (c := w214v) w214e rfl ?_
                                      obtain ⟨w215v, w215e, w215⟩ := ziadd (a := w187x7) (b := Int32.ofInt 1) rfl (show (Int32.ofInt 1).toInt = 1 by decide) (by omega) (by omega)
                                      refine zs_iinc (pc := 362) t325_362 (ls' := [(7, .int w215v), (6, .int w214v), (11, .int (0 : Int32)), (0, .ref 336), (1, .int a), (2, .int b), (3, .int c), (4, .int d), (5, .int (1 : Int32)), (8, .int w189v), (9, .int w190x9), (10, .int w192x10)]) (zml mf325 (by decide)) rfl (c := w215v) w215e rfl ?_
                                      refine zs_goto (pc := 365) t325_365 ?_
                                      refine zGo.locals (ls' := [(0, .ref 336), (1, .int a), (2, .int b), (3, .int c), (4, .int d), (5, .int (1 : Int32)), (6, .int w214v), (7, .int w215v)]) (by simp) ?_
                                      have w216 := w214
                                      have w217 := w215
                                      exact w187ih (w187m - 1) (by omega) w214v w215v (zsI (zsI (zsI (zsI w187M 361 w201n (zI w187M 360 w194n)) 360 w194n w203v) 336 43 w209v) 336 45 (zI w187M 336 45)) ⟨by omega, by omega⟩ ⟨by omega, by omega⟩ w187s w213 ((((((zFr.refl).trans (w187F.mono rfl)).put rfl).put rfl).put rfl).put rfl) w187J (by omega) (by omega)
                                    · refine zs_icmp_leF (pc := 339) t325_339 rfl rfl (by omega) ?_
                                      refine zs_aload_n (pc := 342) t325_342 rfl ?_
                                      refine zs_get (pc := 343) t325_343 (by decide) (zk1 (w187s.k fk_zMm_336)) (w187s.p rfl fv_zMm_336_40) ?_
                                      refine zs_iload (pc := 346) t325_346 rfl ?_
                                      refine zs_iald (pc := 348) t325_348 (j := w194n) (by decide) (zk1 (w187s.k fk_zMm_360)) (show w192x10.toInt = ((w194n : Nat) : Int) by omega) (zk2 (w187s.k fk_zMm_360) (by omega)) ((zIo (by decide)).trans zIs) ?_
                                      refine zs_goto (pc := 349) t325_349 ?_
                                      have w218 : zIv mLo mHi (zsI (zsI (zsI (zsI w187M 361 w201n (zI w187M 360 w194n)) 360 w194n w203v) 336 43 w209v) 336 45 w203v) := zIv.put w210 (show (-2147483648) ≤ w203v.toInt ∧ w203v.toInt ≤ 2147483647 from zrg w203v)
                                      refine zs_putI (pc := 356) t325_356 (zk1 (w187s.k fk_zMm_336)) rfl ?_
                                      obtain ⟨w219v, w219e, w219⟩ := ziadd (a := w187x6) (b := Int32.ofInt 1) rfl (show (Int32.ofInt 1).toInt = 1 by decide) (by omega) (by omega)
                                      refine zs_iinc (pc := 359) t325_359 (ls' := [(6, .int w219v), (11, .int (0 : Int32)), (0, .ref 336), (1, .int a), (2, .int b), (3, .int c), (4, .int d), (5, .int (1 : Int32)), (7, .int w187x7), (8, .int w189v), (9, .int w190x9), (10, .int w192x10)]) (zml mf325 (by decide)) rfl (c := w219v) w219e rfl ?_
                                      obtain ⟨w220v, w220e, w220⟩ := ziadd (a := w187x7) (b := Int32.ofInt 1) rfl (show (Int32.ofInt 1).toInt = 1 by decide) (by omega) (by omega)
                                      refine zs_iinc (pc := 362) t325_362 (ls' := [(7, .int w220v), (6, .int w219v), (11, .int (0 : Int32)), (0, .ref 336), (1, .int a), (2, .int b), (3, .int c), (4, .int d), (5, .int (1 : Int32)), (8, .int w189v), (9, .int w190x9), (10, .int w192x10)]) (zml mf325 (by decide)) rfl (c := w220v) w220e rfl ?_
                                      refine zs_goto (pc := 365) t325_365 ?_
                                      refine zGo.locals (ls' := [(0, .ref 336), (1, .int a), (2, .int b), (3, .int c), (4, .int d), (5, .int (1 : Int32)), (6, .int w219v), (7, .int w220v)]) (by simp) ?_
                                      have w221 := w219
                                      have w222 := w220
                                      exact w187ih (w187m - 1) (by omega) w219v w220v (zsI (zsI (zsI (zsI w187M 361 w201n (zI w187M 360 w194n)) 360 w194n w203v) 336 43 w209v) 336 45 w203v) ⟨by omega, by omega⟩ ⟨by omega, by omega⟩ w187s w218 ((((((zFr.refl).trans (w187F.mono rfl)).put rfl).put rfl).put rfl).put rfl) w187J (by omega) (by omega)
                                  · refine zs_icmp_leF (pc := 315) t325_315 rfl rfl (by omega) ?_
                                    refine zs_iconst (pc := 318) t325_318 (v := 1) (by decide) ?_
                                    refine zs_goto (pc := 319) t325_319 ?_
                                    obtain ⟨w223v, w223⟩ : ∃ v, v = (zI w187M 336 43) + (1 : Int32) := ⟨_, rfl⟩
                                    have w223g := zrg w223v
                                    refine zs_iadd (pc := 323) t325_323 (c := w223v) w223.symm ?_
                                    have w224 : zIv mLo mHi (zsI (zsI (zsI w187M 361 w201n (zI w187M 360 w194n)) 360 w194n w203v) 336 43 w223v) := zIv.put w204 (show (-2147483648) ≤ w223v.toInt ∧ w223v.toInt ≤ 2147483647 from zrg w223v)
                                    refine zs_putI (pc := 324) t325_324 (zk1 (w187s.k fk_zMm_336)) rfl ?_
                                    refine zs_aload_n (pc := 327) t325_327 rfl ?_
                                    refine zs_aload_n (pc := 328) t325_328 rfl ?_
                                    refine zs_get (pc := 329) t325_329 (by decide) (zk1 (w187s.k fk_zMm_336)) (w187s.p rfl fv_zMm_336_40) ?_
                                    refine zs_iload (pc := 332) t325_332 rfl ?_
                                    refine zs_iald (pc := 334) t325_334 (j := w194n) (by decide) (zk1 (w187s.k fk_zMm_360)) (show w192x10.toInt = ((w194n : Nat) : Int) by omega) (zk2 (w187s.k fk_zMm_360) (by omega)) ((zIo (by decide)).trans zIs) ?_
                                    refine zs_aload_n (pc := 335) t325_335 rfl ?_
                                    have w225 := zrg (zI w187M 336 45)
                                    refine zs_get (pc := 336) t325_336 (by decide) (zk1 (w187s.k fk_zMm_336)) (zfvi rfl ((zIoj (by decide)).trans ((zIo (by decide)).trans ((zIo (by decide)).trans rfl)))) ?_
                                    by_cases w226 : w203v.toInt ≤ (zI w187M 336 45).toInt
                                    · refine zs_icmp_leT (pc := 339) t325_339 rfl rfl (by omega) ?_
                                      refine zs_aload_n (pc := 352) t325_352 rfl ?_
                                      refine zs_get (pc := 353) t325_353 (by decide) (zk1 (w187s.k fk_zMm_336)) (zfvi rfl ((zIoj (by decide)).trans ((zIo (by decide)).trans ((zIo (by decide)).trans rfl)))) ?_
                                      have w227 : zIv mLo mHi (zsI (zsI (zsI (zsI w187M 361 w201n (zI w187M 360 w194n)) 360 w194n w203v) 336 43 w223v) 336 45 (zI w187M 336 45)) := zIv.put w224 (show (-2147483648) ≤ (zI w187M 336 45).toInt ∧ (zI w187M 336 45).toInt ≤ 2147483647 from zrg (zI w187M 336 45))
                                      refine zs_putI (pc := 356) t325_356 (zk1 (w187s.k fk_zMm_336)) rfl ?_
                                      obtain ⟨w228v, w228e, w228⟩ := ziadd (a := w187x6) (b := Int32.ofInt 1) rfl (show (Int32.ofInt 1).toInt = 1 by decide) (by omega) (by omega)
                                      refine zs_iinc (pc := 359) t325_359 (ls' := [(6, .int w228v), (11, .int (0 : Int32)), (0, .ref 336), (1, .int a), (2, .int b), (3, .int c), (4, .int d), (5, .int (1 : Int32)), (7, .int w187x7), (8, .int w189v), (9, .int w190x9), (10, .int w192x10)]) (zml mf325 (by decide)) rfl (c := w228v) w228e rfl ?_
                                      obtain ⟨w229v, w229e, w229⟩ := ziadd (a := w187x7) (b := Int32.ofInt 1) rfl (show (Int32.ofInt 1).toInt = 1 by decide) (by omega) (by omega)
                                      refine zs_iinc (pc := 362) t325_362 (ls' := [(7, .int w229v), (6, .int w228v), (11, .int (0 : Int32)), (0, .ref 336), (1, .int a), (2, .int b), (3, .int c), (4, .int d), (5, .int (1 : Int32)), (8, .int w189v), (9, .int w190x9), (10, .int w192x10)]) (zml mf325 (by decide)) rfl (c := w229v) w229e rfl ?_
                                      refine zs_goto (pc := 365) t325_365 ?_
                                      refine zGo.locals (ls' := [(0, .ref 336), (1, .int a), (2, .int b), (3, .int c), (4, .int d), (5, .int (1 : Int32)), (6, .int w228v), (7, .int w229v)]) (by simp) ?_
                                      have w230 := w228
                                      have w231 := w229
                                      exact w187ih (w187m - 1) (by omega) w228v w229v (zsI (zsI (zsI (zsI w187M 361 w201n (zI w187M 360 w194n)) 360 w194n w203v) 336 43 w223v) 336 45 (zI w187M 336 45)) ⟨by omega, by omega⟩ ⟨by omega, by omega⟩ w187s w227 ((((((zFr.refl).trans (w187F.mono rfl)).put rfl).put rfl).put rfl).put rfl) w187J (by omega) (by omega)
                                    · refine zs_icmp_leF (pc := 339) t325_339 rfl rfl (by omega) ?_
                                      refine zs_aload_n (pc := 342) t325_342 rfl ?_
                                      refine zs_get (pc := 343) t325_343 (by decide) (zk1 (w187s.k fk_zMm_336)) (w187s.p rfl fv_zMm_336_40) ?_
                                      refine zs_iload (pc := 346) t325_346 rfl ?_
                                      refine zs_iald (pc := 348) t325_348 (j := w194n) (by decide) (zk1 (w187s.k fk_zMm_360)) (show w192x10.toInt = ((w194n : Nat) : Int) by omega) (zk2 (w187s.k fk_zMm_360) (by omega)) ((zIo (by decide)).trans zIs) ?_
                                      refine zs_goto (pc := 349) t325_349 ?_
                                      have w232 : zIv mLo mHi (zsI (zsI (zsI (zsI w187M 361 w201n (zI w187M 360 w194n)) 360 w194n w203v) 336 43 w223v) 336 45 w203v) := zIv.put w224 (show (-2147483648) ≤ w203v.toInt ∧ w203v.toInt ≤ 2147483647 from zrg w203v)
                                      refine zs_putI (pc := 356) t325_356 (zk1 (w187s.k fk_zMm_336)) rfl ?_
                                      obtain ⟨w233v, w233e, w233⟩ := ziadd (a := w187x6) (b := Int32.ofInt 1) rfl (show (Int32.ofInt 1).toInt = 1 by decide) (by omega) (by omega)
                                      refine zs_iinc (pc := 359) t325_359 (ls' := [(6, .int w233v), (11, .int (0 : Int32)), (0, .ref 336), (1, .int a), (2, .int b), (3, .int c), (4, .int d), (5, .int (1 : Int32)), (7, .int w187x7), (8, .int w189v), (9, .int w190x9), (10, .int w192x10)]) (zml mf325 (by decide)) rfl (c := w233v) w233e rfl ?_
                                      obtain ⟨w234v, w234e, w234⟩ := ziadd (a := w187x7) (b := Int32.ofInt 1) rfl (show (Int32.ofInt 1).toInt = 1 by decide) (by omega) (by omega)
                                      refine zs_iinc (pc := 362) t325_362 (ls' := [(7, .int w234v), (6, .int w233v), (11, .int (0 : Int32)), (0, .ref 336), (1, .int a), (2, .int b), (3, .int c), (4, .int d), (5, .int (1 : Int32)), (8, .int w189v), (9, .int w190x9), (10, .int w192x10)]) (zml mf325 (by decide)) rfl (c := w234v) w234e rfl ?_
                                      refine zs_goto (pc := 365) t325_365 ?_
                                      refine zGo.locals (ls' := [(0, .ref 336), (1, .int a), (2, .int b), (3, .int c), (4, .int d), (5, .int (1 : Int32)), (6, .int w233v), (7, .int w234v)]) (by simp) ?_
                                      have w235 := w233
                                      have w236 := w234
                                      exact w187ih (w187m - 1) (by omega) w233v w234v (zsI (zsI (zsI (zsI w187M 361 w201n (zI w187M 360 w194n)) 360 w194n w203v) 336 43 w223v) 336 45 w203v) ⟨by omega, by omega⟩ ⟨by omega, by omega⟩ w187s w232 ((((((zFr.refl).trans (w187F.mono rfl)).put rfl).put rfl).put rfl).put rfl) w187J (by omega) (by omega)
                                · refine zs_icmp_leF (pc := 241) t325_241 rfl rfl (by omega) ?_
                                  refine zs_aload_n (pc := 244) t325_244 rfl ?_
                                  refine zs_iload (pc := 245) t325_245 rfl ?_
                                  refine zs_iconst (pc := 247) t325_247 (v := 1) (by decide) ?_
                                  obtain ⟨w237v, w237⟩ : ∃ v, v = w190x9 + (1 : Int32) := ⟨_, rfl⟩
                                  have w237g := zrg w237v
                                  refine zs_iadd (pc := 248) t325_248 (c := w237v) w237.symm ?_
                                  have w238 : zIv mLo mHi (zsI w187M 336 44 w237v) := zIv.put w187I (show (-2147483648) ≤ w237v.toInt ∧ w237v.toInt ≤ 2147483647 from zrg w237v)
                                  refine zs_putI (pc := 249) t325_249 (zk1 (w187s.k fk_zMm_336)) rfl ?_
                                  refine zs_aload_n (pc := 252) t325_252 rfl ?_
                                  refine zs_get (pc := 253) t325_253 (by decide) (zk1 (w187s.k fk_zMm_336)) (w187s.p rfl fv_zMm_336_41) ?_
                                  refine zs_iload (pc := 256) t325_256 rfl ?_
                                  refine zs_iload (pc := 258) t325_258 rfl ?_
                                  refine zs_if_eqT (pc := 260) t325_260 li0 (by decide) ?_
                                  refine zs_aload_n (pc := 268) t325_268 rfl ?_
                                  refine zs_get (pc := 269) t325_269 (by decide) (zk1 (w187s.k fk_zMm_336)) (w187s.p rfl fv_zMm_336_40) ?_
                                  refine zs_iload (pc := 272) t325_272 rfl ?_
                                  refine zs_iald (pc := 274) t325_274 (j := w194n) (by decide) (zk1 (w187s.k fk_zMm_360)) (show w192x10.toInt = ((w194n : Nat) : Int) by omega) (zk2 (w187s.k fk_zMm_360) (by omega)) ((zIo (by decide)).trans rfl) ?_
                                  obtain ⟨w239n, w239⟩ : ∃ n : Nat, w187x6.toInt = (n : Int) := ⟨(w187x6.toInt).toNat, by omega⟩
                                  have w240 : zIv mLo mHi (zsI (zsI w187M 336 44 w237v) 361 w239n (zI w187M 360 w194n)) := zIv.put w238 (show (-2147483648) ≤ (zI w187M 360 w194n).toInt ∧ (zI w187M 360 w194n).toInt ≤ 2147483647 from zrg (zI w187M 360 w194n))
                                  refine zs_iast (pc := 275) t325_275 (j := w239n) (by decide) (zk1 (w187s.k fk_zMm_361)) (show w187x6.toInt = ((w239n : Nat) : Int) by omega) (zk2 (w187s.k fk_zMm_361) (by omega)) ?_
                                  refine zs_aload_n (pc := 276) t325_276 rfl ?_
                                  refine zs_get (pc := 277) t325_277 (by decide) (zk1 (w187s.k fk_zMm_336)) (w187s.p rfl fv_zMm_336_40) ?_
                                  refine zs_iload (pc := 280) t325_280 rfl ?_
                                  refine zs_aload_n (pc := 282) t325_282 rfl ?_
                                  refine zs_get (pc := 283) t325_283 (by decide) (zk1 (w187s.k fk_zMm_336)) (w187s.p rfl fv_zMm_336_41) ?_
                                  refine zs_iload (pc := 286) t325_286 rfl ?_
                                  refine zs_iald (pc := 288) t325_288 (j := w239n) (by decide) (zk1 (w187s.k fk_zMm_361)) (show w187x6.toInt = ((w239n : Nat) : Int) by omega) (zk2 (w187s.k fk_zMm_361) (by omega)) zIs ?_
                                  refine zs_iload (pc := 289) t325_289 rfl ?_
                                  obtain ⟨w241v, w241⟩ : ∃ v, v = (zI w187M 360 w194n) + (1 : Int32) := ⟨_, rfl⟩
                                  have w241g := zrg w241v
                                  refine zs_iadd (pc := 291) t325_291 (c := w241v) w241.symm ?_
                                  have w242 : zIv mLo mHi (zsI (zsI (zsI w187M 336 44 w237v) 361 w239n (zI w187M 360 w194n)) 360 w194n w241v) := zIv.put w240 (show (-2147483648) ≤ w241v.toInt ∧ w241v.toInt ≤ 2147483647 from zrg w241v)
                                  refine zs_iast (pc := 292) t325_292 (j := w194n) (by decide) (zk1 (w187s.k fk_zMm_360)) (show w192x10.toInt = ((w194n : Nat) : Int) by omega) (zk2 (w187s.k fk_zMm_360) (by omega)) ?_
                                  refine zs_aload_n (pc := 293) t325_293 rfl ?_
                                  refine zs_dup (pc := 294) t325_294 rfl ?_
                                  have w243 := zrg (zI w187M 336 43)
                                  refine zs_get (pc := 295) t325_295 (by decide) (zk1 (w187s.k fk_zMm_336)) (zfvi rfl ((zIo (by decide)).trans ((zIo (by decide)).trans ((zIoj (by decide)).trans rfl)))) ?_
                                  refine zs_aload_n (pc := 298) t325_298 rfl ?_
                                  refine zs_get (pc := 299) t325_299 (by decide) (zk1 (w187s.k fk_zMm_336)) (w187s.p rfl fv_zMm_336_40) ?_
                                  refine zs_iload (pc := 302) t325_302 rfl ?_
                                  refine zs_iald (pc := 304) t325_304 (j := w194n) (by decide) (zk1 (w187s.k fk_zMm_360)) (show w192x10.toInt = ((w194n : Nat) : Int) by omega) (zk2 (w187s.k fk_zMm_360) (by omega)) zIs ?_
                                  refine zs_iload (pc := 305) t325_305 rfl ?_
                                  obtain ⟨w244v, w244⟩ : ∃ v, v = w241v - w189v := ⟨_, rfl⟩
                                  have w244g := zrg w244v
                                  refine zs_isub (pc := 307) t325_307 (c := w244v) w244.symm ?_
                                  refine zs_aload_n (pc := 308) t325_308 rfl ?_
                                  refine zs_get (pc := 309) t325_309 (by decide) (zk1 (w187s.k fk_zMm_336)) (w187s.p rfl fv_zMm_336_0) ?_
                                  refine zs_bipush (pc := 312) t325_312 (v := 13) (by decide) ?_
                                  have w245 : (zI M 337 13).toInt = F 13 := x0.at (by decide) (by decide) (by decide)
                                  refine zs_iald (pc := 314) t325_314 (j := 13) (by decide) (zk1 (w187s.k fk_zMm_337)) li13 (zk2 (w187s.k fk_zMm_337) (by decide)) ((zIo (by decide)).trans ((zIo (by decide)).trans ((zIo (by decide)).trans ((w187F 337 13 rfl).trans ((zIo (by decide)).trans ((zIo (by decide)).trans ((zIo (by decide)).trans ((zIo (by decide)).trans ((w181F 337 13 rfl).trans ((w7F 337 13 rfl).trans rfl)))))))))) ?_
                                  by_cases w246 : w244v.toInt ≤ (zI M 337 13).toInt
                                  · refine zs_icmp_leT (pc := 315) t325_315 rfl rfl (by omega) ?_
                                    refine zs_iconst (pc := 322) t325_322 (v := 0) (by decide) ?_
                                    obtain ⟨w247v, w247e, w247⟩ := ziadd (a := (zI w187M 336 43)) (b := (0 : Int32)) rfl li0 (by omega) (by omega)
                                    refine zs_iadd (pc := 323) t325_323 (c := w247v) w247e ?_
                                    have w248 : zIv mLo mHi (zsI (zsI (zsI (zsI w187M 336 44 w237v) 361 w239n (zI w187M 360 w194n)) 360 w194n w241v) 336 43 w247v) := zIv.put w242 (show (-2147483648) ≤ w247v.toInt ∧ w247v.toInt ≤ 2147483647 from zrg w247v)
                                    refine zs_putI (pc := 324) t325_324 (zk1 (w187s.k fk_zMm_336)) rfl ?_
                                    refine zs_aload_n (pc := 327) t325_327 rfl ?_
                                    refine zs_aload_n (pc := 328) t325_328 rfl ?_
                                    refine zs_get (pc := 329) t325_329 (by decide) (zk1 (w187s.k fk_zMm_336)) (w187s.p rfl fv_zMm_336_40) ?_
                                    refine zs_iload (pc := 332) t325_332 rfl ?_
                                    refine zs_iald (pc := 334) t325_334 (j := w194n) (by decide) (zk1 (w187s.k fk_zMm_360)) (show w192x10.toInt = ((w194n : Nat) : Int) by omega) (zk2 (w187s.k fk_zMm_360) (by omega)) ((zIo (by decide)).trans zIs) ?_
                                    refine zs_aload_n (pc := 335) t325_335 rfl ?_
                                    have w249 := zrg (zI w187M 336 45)
                                    refine zs_get (pc := 336) t325_336 (by decide) (zk1 (w187s.k fk_zMm_336)) (zfvi rfl ((zIoj (by decide)).trans ((zIo (by decide)).trans ((zIo (by decide)).trans ((zIoj (by decide)).trans rfl))))) ?_
                                    by_cases w250 : w241v.toInt ≤ (zI w187M 336 45).toInt
                                    · refine zs_icmp_leT (pc := 339) t325_339 rfl rfl (by omega) ?_
                                      refine zs_aload_n (pc := 352) t325_352 rfl ?_
                                      refine zs_get (pc := 353) t325_353 (by decide) (zk1 (w187s.k fk_zMm_336)) (zfvi rfl ((zIoj (by decide)).trans ((zIo (by decide)).trans ((zIo (by decide)).trans ((zIoj (by decide)).trans rfl))))) ?_
                                      have w251 : zIv mLo mHi (zsI (zsI (zsI (zsI (zsI w187M 336 44 w237v) 361 w239n (zI w187M 360 w194n)) 360 w194n w241v) 336 43 w247v) 336 45 (zI w187M 336 45)) := zIv.put w248 (show (-2147483648) ≤ (zI w187M 336 45).toInt ∧ (zI w187M 336 45).toInt ≤ 2147483647 from zrg (zI w187M 336 45))
                                      refine zs_putI (pc := 356) t325_356 (zk1 (w187s.k fk_zMm_336)) rfl ?_
                                      obtain ⟨w252v, w252e, w252⟩ := ziadd (a := w187x6) (b := Int32.ofInt 1) rfl (show (Int32.ofInt 1).toInt = 1 by decide) (by omega) (by omega)
                                      refine zs_iinc (pc := 359) t325_359 (ls' := [(6, .int w252v), (11, .int (0 : Int32)), (0, .ref 336), (1, .int a), (2, .int b), (3, .int c), (4, .int d), (5, .int (1 : Int32)), (7, .int w187x7), (8, .int w189v), (9, .int w190x9), (10, .int w192x10)]) (zml mf325 (by decide)) rfl (c := w252v) w252e rfl ?_
                                      obtain ⟨w253v, w253e, w253⟩ := ziadd (a := w187x7) (b := Int32.ofInt 1) rfl (show (Int32.ofInt 1).toInt = 1 by decide) (by omega) (by omega)
                                      refine zs_iinc (pc := 362) t325_362 (ls' := [(7, .int w253v), (6, .int w252v), (11, .int (0 : Int32)), (0, .ref 336), (1, .int a), (2, .int b), (3, .int c), (4, .int d), (5, .int (1 : Int32)), (8, .int w189v), (9, .int w190x9), (10, .int w192x10)]) (zml mf325 (by decide)) rfl (c := w253v) w253e rfl ?_
                                      refine zs_goto (pc := 365) t325_365 ?_
                                      refine zGo.locals (ls' := [(0, .ref 336), (1, .int a), (2, .int b), (3, .int c), (4, .int d), (5, .int (1 : Int32)), (6, .int w252v), (7, .int w253v)]) (by simp) ?_
                                      have w254 := w252
                                      have w255 := w253
                                      exact w187ih (w187m - 1) (by omega) w252v w253v (zsI (zsI (zsI (zsI (zsI w187M 336 44 w237v) 361 w239n (zI w187M 360 w194n)) 360 w194n w241v) 336 43 w247v) 336 45 (zI w187M 336 45)) ⟨by omega, by omega⟩ ⟨by omega, by omega⟩ w187s w251 (((((((zFr.refl).trans (w187F.mono rfl)).put rfl).put rfl).put rfl).put rfl).put rfl) w187J (by omega) (by omega)
                                    · refine zs_icmp_leF (pc := 339) t325_339 rfl rfl (by omega) ?_
                                      refine zs_aload_n (pc := 342) t325_342 rfl ?_
                                      refine zs_get (pc := 343) t325_343 (by decide) (zk1 (w187s.k fk_zMm_336)) (w187s.p rfl fv_zMm_336_40) ?_
                                      refine zs_iload (pc := 346) t325_346 rfl ?_
                                      refine zs_iald (pc := 348) t325_348 (j := w194n) (by decide) (zk1 (w187s.k fk_zMm_360)) (show w192x10.toInt = ((w194n : Nat) : Int) by omega) (zk2 (w187s.k fk_zMm_360) (by omega)) ((zIo (by decide)).trans zIs) ?_
                                      refine zs_goto (pc := 349) t325_349 ?_
                                      have w256 : zIv mLo mHi (zsI (zsI (zsI (zsI (zsI w187M 336 44 w237v) 361 w239n (zI w187M 360 w194n)) 360 w194n w241v) 336 43 w247v) 336 45 w241v) := zIv.put w248 (show (-2147483648) ≤ w241v.toInt ∧ w241v.toInt ≤ 2147483647 from zrg w241v)
                                      refine zs_putI (pc := 356) t325_356 (zk1 (w187s.k fk_zMm_336)) rfl ?_
                                      obtain ⟨w257v, w257e, w257⟩ := ziadd (a := w187x6) (b := Int32.ofInt 1) rfl (show (Int32.ofInt 1).toInt = 1 by decide) (by omega) (by omega)
                                      refine zs_iinc (pc := 359) t325_359 (ls' := [(6, .int w257v), (11, .int (0 : Int32)), (0, .ref 336), (1, .int a), (2, .int b), (3, .int c), (4, .int d), (5, .int (1 : Int32)), (7, .int w187x7), (8, .int w189v), (9, .int w190x9), (10, .int w192x10)]) (zml mf325 (by decide)) rfl (c := w257v) w257e rfl ?_
                                      obtain ⟨w258v, w258e, w258⟩ := ziadd (a := w187x7) (b := Int32.ofInt 1) rfl (show (Int32.ofInt 1).toInt = 1 by decide) (by omega) (by omega)
                                      refine zs_iinc (pc := 362) t325_362 (ls' := [(7, .int w258v), (6, .int w257v), (11, .int (0 : Int32)), (0, .ref 336), (1, .int a), (2, .int b), (3, .int c), (4, .int d), (5, .int (1 : Int32)), (8, .int w189v), (9, .int w190x9), (10, .int w192x10)]) (zml mf325 (by decide)) rfl (c := w258v) w258e rfl ?_
                                      refine zs_goto (pc := 365) t325_365 ?_
                                      refine zGo.locals (ls' := [(0, .ref 336), (1, .int a), (2, .int b), (3, .int c), (4, .int d), (5, .int (1 : Int32)), (6, .int w257v), (7, .int w258v)]) (by simp) ?_
                                      have w259 := w257
                                      have w260 := w258
                                      exact w187ih (w187m - 1) (by omega) w257v w258v (zsI (zsI (zsI (zsI (zsI w187M 336 44 w237v) 361 w239n (zI w187M 360 w194n)) 360 w194n w241v) 336 43 w247v) 336 45 w241v) ⟨by omega, by omega⟩ ⟨by omega, by omega⟩ w187s w256 (((((((zFr.refl).trans (w187F.mono rfl)).put rfl).put rfl).put rfl).put rfl).put rfl) w187J (by omega) (by omega)
                                  · refine zs_icmp_leF (pc := 315) t325_315 rfl rfl (by omega) ?_
                                    refine zs_iconst (pc := 318) t325_318 (v := 1) (by decide) ?_
                                    refine zs_goto (pc := 319) t325_319 ?_
                                    obtain ⟨w261v, w261⟩ : ∃ v, v = (zI w187M 336 43) + (1 : Int32) := ⟨_, rfl⟩
                                    have w261g := zrg w261v
                                    refine zs_iadd (pc := 323) t325_323 (c := w261v) w261.symm ?_
                                    have w262 : zIv mLo mHi (zsI (zsI (zsI (zsI w187M 336 44 w237v) 361 w239n (zI w187M 360 w194n)) 360 w194n w241v) 336 43 w261v) := zIv.put w242 (show (-2147483648) ≤ w261v.toInt ∧ w261v.toInt ≤ 2147483647 from zrg w261v)
                                    refine zs_putI (pc := 324) t325_324 (zk1 (w187s.k fk_zMm_336)) rfl ?_
                                    refine zs_aload_n (pc := 327) t325_327 rfl ?_
                                    refine zs_aload_n (pc := 328) t325_328 rfl ?_
                                    refine zs_get (pc := 329) t325_329 (by decide) (zk1 (w187s.k fk_zMm_336)) (w187s.p rfl fv_zMm_336_40) ?_
                                    refine zs_iload (pc := 332) t325_332 rfl ?_
                                    refine zs_iald (pc := 334) t325_334 (j := w194n) (by decide) (zk1 (w187s.k fk_zMm_360)) (show w192x10.toInt = ((w194n : Nat) : Int) by omega) (zk2 (w187s.k fk_zMm_360) (by omega)) ((zIo (by decide)).trans zIs) ?_
                                    refine zs_aload_n (pc := 335) t325_335 rfl ?_
                                    have w263 := zrg (zI w187M 336 45)
                                    refine zs_get (pc := 336) t325_336 (by decide) (zk1 (w187s.k fk_zMm_336)) (zfvi rfl ((zIoj (by decide)).trans ((zIo (by decide)).trans ((zIo (by decide)).trans ((zIoj (by decide)).trans rfl))))) ?_
                                    by_cases w264 : w241v.toInt ≤ (zI w187M 336 45).toInt
                                    · refine zs_icmp_leT (pc := 339) t325_339 rfl rfl (by omega) ?_
                                      refine zs_aload_n (pc := 352) t325_352 rfl ?_
                                      refine zs_get (pc := 353) t325_353 (by decide) (zk1 (w187s.k fk_zMm_336)) (zfvi rfl ((zIoj (by decide)).trans ((zIo (by decide)).trans ((zIo (by decide)).trans ((zIoj (by decide)).trans rfl))))) ?_
                                      have w265 : zIv mLo mHi (zsI (zsI (zsI (zsI (zsI w187M 336 44 w237v) 361 w239n (zI w187M 360 w194n)) 360 w194n w241v) 336 43 w261v) 336 45 (zI w187M 336 45)) := zIv.put w262 (show (-2147483648) ≤ (zI w187M 336 45).toInt ∧ (zI w187M 336 45).toInt ≤ 2147483647 from zrg (zI w187M 336 45))
                                      refine zs_putI (pc := 356) t325_356 (zk1 (w187s.k fk_zMm_336)) rfl ?_
                                      obtain ⟨w266v, w266e, w266⟩ := ziadd (a := w187x6) (b := Int32.ofInt 1) rfl (show (Int32.ofInt 1).toInt = 1 by decide) (by omega) (by omega)
                                      refine zs_iinc (pc := 359) t325_359 (ls' := [(6, .int w266v), (11, .int (0 : Int32)), (0, .ref 336), (1, .int a), (2, .int b), (3, .int c), (4, .int d), (5, .int (1 : Int32)), (7, .int w187x7), (8, .int w189v), (9, .int w190x9), (10, .int w192x10)]) (zml mf325 (by decide)) rfl (c := w266v) w266e rfl ?_
                                      obtain ⟨w267v, w267e, w267⟩ := ziadd (a := w187x7) (b := Int32.ofInt 1) rfl (show (Int32.ofInt 1).toInt = 1 by decide) (by omega) (by omega)
                                      refine zs_iinc (pc := 362) t325_362 (ls' := [(7, .int w267v), (6, .int w266v), (11, .int (0 : Int32)), (0, .ref 336), (1, .int a), (2, .int b), (3, .int c), (4, .int d), (5, .int (1 : Int32)), (8, .int w189v), (9, .int w190x9), (10, .int w192x10)]) (zml mf325 (by decide)) rfl (c := w267v) w267e rfl ?_
                                      refine zs_goto (pc := 365) t325_365 ?_
                                      refine zGo.locals (ls' := [(0, .ref 336), (1, .int a), (2, .int b), (3, .int c), (4, .int d), (5, .int (1 : Int32)), (6, .int w266v), (7, .int w267v)]) (by simp) ?_
                                      have w268 := w266
                                      have w269 := w267
                                      exact w187ih (w187m - 1) (by omega) w266v w267v (zsI (zsI (zsI (zsI (zsI w187M 336 44 w237v) 361 w239n (zI w187M 360 w194n)) 360 w194n w241v) 336 43 w261v) 336 45 (zI w187M 336 45)) ⟨by omega, by omega⟩ ⟨by omega, by omega⟩ w187s w265 (((((((zFr.refl).trans (w187F.mono rfl)).put rfl).put rfl).put rfl).put rfl).put rfl) w187J (by omega) (by omega)
                                    · refine zs_icmp_leF (pc := 339) t325_339 rfl rfl (by omega) ?_
                                      refine zs_aload_n (pc := 342) t325_342 rfl ?_
                                      refine zs_get (pc := 343) t325_343 (by decide) (zk1 (w187s.k fk_zMm_336)) (w187s.p rfl fv_zMm_336_40) ?_
                                      refine zs_iload (pc := 346) t325_346 rfl ?_
                                      refine zs_iald (pc := 348) t325_348 (j := w194n) (by decide) (zk1 (w187s.k fk_zMm_360)) (show w192x10.toInt = ((w194n : Nat) : Int) by omega) (zk2 (w187s.k fk_zMm_360) (by omega)) ((zIo (by decide)).trans zIs) ?_
                                      refine zs_goto (pc := 349) t325_349 ?_
                                      have w270 : zIv mLo mHi (zsI (zsI (zsI (zsI (zsI w187M 336 44 w237v) 361 w239n (zI w187M 360 w194n)) 360 w194n w241v) 336 43 w261v) 336 45 w241v) := zIv.put w262 (show (-2147483648) ≤ w241v.toInt ∧ w241v.toInt ≤ 2147483647 from zrg w241v)
                                      refine zs_putI (pc := 356) t325_356 (zk1 (w187s.k fk_zMm_336)) rfl ?_
                                      obtain ⟨w271v, w271e, w271⟩ := ziadd (a := w187x6) (b := Int32.ofInt 1) rfl (show (Int32.ofInt 1).toInt = 1 by decide) (by omega) (by omega)
                                      refine zs_iinc (pc := 359) t325_359 (ls' := [(6, .int w271v), (11, .int (0 : Int32)), (0, .ref 336), (1, .int a), (2, .int b), (3, .int c), (4, .int d), (5, .int (1 : Int32)), (7, .int w187x7), (8, .int w189v), (9, .int w190x9), (10, .int w192x10)]) (zml mf325 (by decide)) rfl (c := w271v) w271e rfl ?_
                                      obtain ⟨w272v, w272e, w272⟩ := ziadd (a := w187x7) (b := Int32.ofInt 1) rfl (show (Int32.ofInt 1).toInt = 1 by decide) (by omega) (by omega)
                                      refine zs_iinc (pc := 362) t325_362 (ls' := [(7, .int w272v), (6, .int w271v), (11, .int (0 : Int32)), (0, .ref 336), (1, .int a), (2, .int b), (3, .int c), (4, .int d), (5, .int (1 : Int32)), (8, .int w189v), (9, .int w190x9), (10, .int w192x10)]) (zml mf325 (by decide)) rfl (c := w272v) w272e rfl ?_
                                      refine zs_goto (pc := 365) t325_365 ?_
                                      refine zGo.locals (ls' := [(0, .ref 336), (1, .int a), (2, .int b), (3, .int c), (4, .int d), (5, .int (1 : Int32)), (6, .int w271v), (7, .int w272v)]) (by simp) ?_
                                      have w273 := w271
                                      have w274 := w272
                                      exact w187ih (w187m - 1) (by omega) w271v w272v (zsI (zsI (zsI (zsI (zsI w187M 336 44 w237v) 361 w239n (zI w187M 360 w194n)) 360 w194n w241v) 336 43 w261v) 336 45 w241v) ⟨by omega, by omega⟩ ⟨by omega, by omega⟩ w187s w270 (((((((zFr.refl).trans (w187F.mono rfl)).put rfl).put rfl).put rfl).put rfl).put rfl) w187J (by omega) (by omega)
                              · refine zs_icmp_neF (pc := 212) t325_212 rfl rfl (by omega) ?_
                                refine zs_aload_n (pc := 215) t325_215 rfl ?_
                                refine zs_dup (pc := 216) t325_216 rfl ?_
                                have w275 := zrg (zI w187M 336 42)
                                refine zs_get (pc := 217) t325_217 (by decide) (zk1 (w187s.k fk_zMm_336)) (zfvi rfl rfl) ?_
                                refine zs_iconst (pc := 220) t325_220 (v := 1) (by decide) ?_
                                obtain ⟨w276v, w276⟩ : ∃ v, v = (zI w187M 336 42) + (1 : Int32) := ⟨_, rfl⟩
                                have w276g := zrg w276v
                                refine zs_iadd (pc := 221) t325_221 (c := w276v) w276.symm ?_
                                have w277 : zIv mLo mHi (zsI w187M 336 42 w276v) := zIv.put w187I (show (-2147483648) ≤ w276v.toInt ∧ w276v.toInt ≤ 2147483647 from zrg w276v)
                                refine zs_putI (pc := 222) t325_222 (zk1 (w187s.k fk_zMm_336)) rfl ?_
                                refine zs_goto (pc := 225) t325_225 ?_
                                obtain ⟨w278v, w278e, w278⟩ := ziadd (a := w187x7) (b := Int32.ofInt 1) rfl (show (Int32.ofInt 1).toInt = 1 by decide) (by omega) (by omega)
                                refine zs_iinc (pc := 362) t325_362 (ls' := [(7, .int w278v), (11, .int (0 : Int32)), (0, .ref 336), (1, .int a), (2, .int b), (3, .int c), (4, .int d), (5, .int (1 : Int32)), (6, .int w187x6), (8, .int w189v), (9, .int w190x9), (10, .int w192x10)]) (zml mf325 (by decide)) rfl (c := w278v) w278e rfl ?_
                                refine zs_goto (pc := 365) t325_365 ?_
                                refine zGo.locals (ls' := [(0, .ref 336), (1, .int a), (2, .int b), (3, .int c), (4, .int d), (5, .int (1 : Int32)), (6, .int w187x6), (7, .int w278v)]) (by simp) ?_
                                have w279 := w278
                                exact w187ih (w187m - 1) (by omega) w187x6 w278v (zsI w187M 336 42 w276v) ⟨by omega, by omega⟩ ⟨by omega, by omega⟩ w187s w277 (((zFr.refl).trans (w187F.mono rfl)).put rfl) w187J (by omega) (by omega)
                            · refine zs_icmp_gtF (pc := 193) t325_193 rfl rfl (by omega) ?_
                              refine zs_iconst (pc := 196) t325_196 (v := 1) (by decide) ?_
                              refine zs_goto (pc := 197) t325_197 ?_
                              refine zs_istore (pc := 201) t325_201 (ls' := [(11, .int (1 : Int32)), (0, .ref 336), (1, .int a), (2, .int b), (3, .int c), (4, .int d), (5, .int (1 : Int32)), (6, .int w187x6), (7, .int w187x7), (8, .int w189v), (9, .int w190x9), (10, .int w192x10)]) (zml mf325 (by decide)) rfl ?_
                              refine zs_iload (pc := 203) t325_203 rfl ?_
                              refine zs_if_neT (pc := 205) t325_205 li1 (by decide) ?_
                              refine zs_iload (pc := 228) t325_228 rfl ?_
                              refine zs_if_neT (pc := 230) t325_230 li1 (by decide) ?_
                              refine zs_aload_n (pc := 252) t325_252 rfl ?_
                              refine zs_get (pc := 253) t325_253 (by decide) (zk1 (w187s.k fk_zMm_336)) (w187s.p rfl fv_zMm_336_41) ?_
                              refine zs_iload (pc := 256) t325_256 rfl ?_
                              refine zs_iload (pc := 258) t325_258 rfl ?_
                              refine zs_if_eqF (pc := 260) t325_260 li1 (by decide) ?_
                              refine zs_iload (pc := 263) t325_263 rfl ?_
                              refine zs_goto (pc := 265) t325_265 ?_
                              obtain ⟨w280n, w280⟩ : ∃ n : Nat, w187x6.toInt = (n : Int) := ⟨(w187x6.toInt).toNat, by omega⟩
                              have w281 : zIv mLo mHi (zsI w187M 361 w280n w189v) := zIv.put w187I (show (-2147483648) ≤ w189v.toInt ∧ w189v.toInt ≤ 2147483647 from zrg w189v)
                              refine zs_iast (pc := 275) t325_275 (j := w280n) (by decide) (zk1 (w187s.k fk_zMm_361)) (show w187x6.toInt = ((w280n : Nat) : Int) by omega) (zk2 (w187s.k fk_zMm_361) (by omega)) ?_
                              refine zs_aload_n (pc := 276) t325_276 rfl ?_
                              refine zs_get (pc := 277) t325_277 (by decide) (zk1 (w187s.k fk_zMm_336)) (w187s.p rfl fv_zMm_336_40) ?_
                              refine zs_iload (pc := 280) t325_280 rfl ?_
                              refine zs_aload_n (pc := 282) t325_282 rfl ?_
                              refine zs_get (pc := 283) t325_283 (by decide) (zk1 (w187s.k fk_zMm_336)) (w187s.p rfl fv_zMm_336_41) ?_
                              refine zs_iload (pc := 286) t325_286 rfl ?_
                              refine zs_iald (pc := 288) t325_288 (j := w280n) (by decide) (zk1 (w187s.k fk_zMm_361)) (show w187x6.toInt = ((w280n : Nat) : Int) by omega) (zk2 (w187s.k fk_zMm_361) (by omega)) zIs ?_
                              refine zs_iload (pc := 289) t325_289 rfl ?_
                              obtain ⟨w282v, w282⟩ : ∃ v, v = w189v + (1 : Int32) := ⟨_, rfl⟩
                              have w282g := zrg w282v
                              refine zs_iadd (pc := 291) t325_291 (c := w282v) w282.symm ?_
                              have w283 : zIv mLo mHi (zsI (zsI w187M 361 w280n w189v) 360 w194n w282v) := zIv.put w281 (show (-2147483648) ≤ w282v.toInt ∧ w282v.toInt ≤ 2147483647 from zrg w282v)
                              refine zs_iast (pc := 292) t325_292 (j := w194n) (by decide) (zk1 (w187s.k fk_zMm_360)) (show w192x10.toInt = ((w194n : Nat) : Int) by omega) (zk2 (w187s.k fk_zMm_360) (by omega)) ?_
                              refine zs_aload_n (pc := 293) t325_293 rfl ?_
                              refine zs_dup (pc := 294) t325_294 rfl ?_
                              have w284 := zrg (zI w187M 336 43)
                              refine zs_get (pc := 295) t325_295 (by decide) (zk1 (w187s.k fk_zMm_336)) (zfvi rfl ((zIo (by decide)).trans ((zIo (by decide)).trans rfl))) ?_
                              refine zs_aload_n (pc := 298) t325_298 rfl ?_
                              refine zs_get (pc := 299) t325_299 (by decide) (zk1 (w187s.k fk_zMm_336)) (w187s.p rfl fv_zMm_336_40) ?_
                              refine zs_iload (pc := 302) t325_302 rfl ?_
                              refine zs_iald (pc := 304) t325_304 (j := w194n) (by decide) (zk1 (w187s.k fk_zMm_360)) (show w192x10.toInt = ((w194n : Nat) : Int) by omega) (zk2 (w187s.k fk_zMm_360) (by omega)) zIs ?_
                              refine zs_iload (pc := 305) t325_305 rfl ?_
                              obtain ⟨w285v, w285⟩ : ∃ v, v = w282v - w189v := ⟨_, rfl⟩
                              have w285g := zrg w285v
                              refine zs_isub (pc := 307) t325_307 (c := w285v) w285.symm ?_
                              refine zs_aload_n (pc := 308) t325_308 rfl ?_
                              refine zs_get (pc := 309) t325_309 (by decide) (zk1 (w187s.k fk_zMm_336)) (w187s.p rfl fv_zMm_336_0) ?_
                              refine zs_bipush (pc := 312) t325_312 (v := 13) (by decide) ?_
                              have w286 : (zI M 337 13).toInt = F 13 := x0.at (by decide) (by decide) (by decide)
                              refine zs_iald (pc := 314) t325_314 (j := 13) (by decide) (zk1 (w187s.k fk_zMm_337)) li13 (zk2 (w187s.k fk_zMm_337) (by decide)) ((zIo (by decide)).trans ((zIo (by decide)).trans ((w187F 337 13 rfl).trans ((zIo (by decide)).trans ((zIo (by decide)).trans ((zIo (by decide)).trans ((zIo (by decide)).trans ((w181F 337 13 rfl).trans ((w7F 337 13 rfl).trans rfl))))))))) ?_
                              by_cases w287 : w285v.toInt ≤ (zI M 337 13).toInt
                              · refine zs_icmp_leT (pc := 315) t325_315 rfl rfl (by omega) ?_
                                refine zs_iconst (pc := 322) t325_322 (v := 0) (by decide) ?_
                                obtain ⟨w288v, w288e, w288⟩ := ziadd (a := (zI w187M 336 43)) (b := (0 : Int32)) rfl li0 (by omega) (by omega)
                                refine zs_iadd (pc := 323) t325_323 (c := w288v) w288e ?_
                                have w289 : zIv mLo mHi (zsI (zsI (zsI w187M 361 w280n w189v) 360 w194n w282v) 336 43 w288v) := zIv.put w283 (show (-2147483648) ≤ w288v.toInt ∧ w288v.toInt ≤ 2147483647 from zrg w288v)
                                refine zs_putI (pc := 324) t325_324 (zk1 (w187s.k fk_zMm_336)) rfl ?_
                                refine zs_aload_n (pc := 327) t325_327 rfl ?_
                                refine zs_aload_n (pc := 328) t325_328 rfl ?_
                                refine zs_get (pc := 329) t325_329 (by decide) (zk1 (w187s.k fk_zMm_336)) (w187s.p rfl fv_zMm_336_40) ?_
                                refine zs_iload (pc := 332) t325_332 rfl ?_
                                refine zs_iald (pc := 334) t325_334 (j := w194n) (by decide) (zk1 (w187s.k fk_zMm_360)) (show w192x10.toInt = ((w194n : Nat) : Int) by omega) (zk2 (w187s.k fk_zMm_360) (by omega)) ((zIo (by decide)).trans zIs) ?_
                                refine zs_aload_n (pc := 335) t325_335 rfl ?_
                                have w290 := zrg (zI w187M 336 45)
                                refine zs_get (pc := 336) t325_336 (by decide) (zk1 (w187s.k fk_zMm_336)) (zfvi rfl ((zIoj (by decide)).trans ((zIo (by decide)).trans ((zIo (by decide)).trans rfl)))) ?_
                                by_cases w291 : w282v.toInt ≤ (zI w187M 336 45).toInt
                                · refine zs_icmp_leT (pc := 339) t325_339 rfl rfl (by omega) ?_
                                  refine zs_aload_n (pc := 352) t325_352 rfl ?_
                                  refine zs_get (pc := 353) t325_353 (by decide) (zk1 (w187s.k fk_zMm_336)) (zfvi rfl ((zIoj (by decide)).trans ((zIo (by decide)).trans ((zIo (by decide)).trans rfl)))) ?_
                                  have w292 : zIv mLo mHi (zsI (zsI (zsI (zsI w187M 361 w280n w189v) 360 w194n w282v) 336 43 w288v) 336 45 (zI w187M 336 45)) := zIv.put w289 (show (-2147483648) ≤ (zI w187M 336 45).toInt ∧ (zI w187M 336 45).toInt ≤ 2147483647 from zrg (zI w187M 336 45))
                                  refine zs_putI (pc := 356) t325_356 (zk1 (w187s.k fk_zMm_336)) rfl ?_
                                  obtain ⟨w293v, w293e, w293⟩ := ziadd (a := w187x6) (b := Int32.ofInt 1) rfl (show (Int32.ofInt 1).toInt = 1 by decide) (by omega) (by omega)
                                  refine zs_iinc (pc := 359) t325_359 (ls' := [(6, .int w293v), (11, .int (1 : Int32)), (0, .ref 336), (1, .int a), (2, .int b), (3, .int c), (4, .int d), (5, .int (1 : Int32)), (7, .int w187x7), (8, .int w189v), (9, .int w190x9), (10, .int w192x10)]) (zml mf325 (by decide)) rfl (c := w293v) w293e rfl ?_
                                  obtain ⟨w294v, w294e, w294⟩ := ziadd (a := w187x7) (b := Int32.ofInt 1) rfl (show (Int32.ofInt 1).toInt = 1 by decide) (by omega) (by omega)
                                  refine zs_iinc (pc := 362) t325_362 (ls' := [(7, .int w294v), (6, .int w293v), (11, .int (1 : Int32)), (0, .ref 336), (1, .int a), (2, .int b), (3, .int c), (4, .int d), (5, .int (1 : Int32)), (8, .int w189v), (9, .int w190x9), (10, .int w192x10)]) (zml mf325 (by decide)) rfl (c := w294v) w294e rfl ?_
                                  refine zs_goto (pc := 365) t325_365 ?_
                                  refine zGo.locals (ls' := [(0, .ref 336), (1, .int a), (2, .int b), (3, .int c), (4, .int d), (5, .int (1 : Int32)), (6, .int w293v), (7, .int w294v)]) (by simp) ?_
                                  have w295 := w293
                                  have w296 := w294
                                  exact w187ih (w187m - 1) (by omega) w293v w294v (zsI (zsI (zsI (zsI w187M 361 w280n w189v) 360 w194n w282v) 336 43 w288v) 336 45 (zI w187M 336 45)) ⟨by omega, by omega⟩ ⟨by omega, by omega⟩ w187s w292 ((((((zFr.refl).trans (w187F.mono rfl)).put rfl).put rfl).put rfl).put rfl) w187J (by omega) (by omega)
                                · refine zs_icmp_leF (pc := 339) t325_339 rfl rfl (by omega) ?_
                                  refine zs_aload_n (pc := 342) t325_342 rfl ?_
                                  refine zs_get (pc := 343) t325_343 (by decide) (zk1 (w187s.k fk_zMm_336)) (w187s.p rfl fv_zMm_336_40) ?_
                                  refine zs_iload (pc := 346) t325_346 rfl ?_
                                  refine zs_iald (pc := 348) t325_348 (j := w194n) (by decide) (zk1 (w187s.k fk_zMm_360)) (show w192x10.toInt = ((w194n : Nat) : Int) by omega) (zk2 (w187s.k fk_zMm_360) (by omega)) ((zIo (by decide)).trans zIs) ?_
                                  refine zs_goto (pc := 349) t325_349 ?_
                                  have w297 : zIv mLo mHi (zsI (zsI (zsI (zsI w187M 361 w280n w189v) 360 w194n w282v) 336 43 w288v) 336 45 w282v) := zIv.put w289 (show (-2147483648) ≤ w282v.toInt ∧ w282v.toInt ≤ 2147483647 from zrg w282v)
                                  refine zs_putI (pc := 356) t325_356 (zk1 (w187s.k fk_zMm_336)) rfl ?_
                                  obtain ⟨w298v, w298e, w298⟩ := ziadd (a := w187x6) (b := Int32.ofInt 1) rfl (show (Int32.ofInt 1).toInt = 1 by decide) (by omega) (by omega)
                                  refine zs_iinc (pc := 359) t325_359 (ls' := [(6, .int w298v), (11, .int (1 : Int32)), (0, .ref 336), (1, .int a), (2, .int b), (3, .int c), (4, .int d), (5, .int (1 : Int32)), (7, .int w187x7), (8, .int w189v), (9, .int w190x9), (10, .int w192x10)]) (zml mf325 (by decide)) rfl (c := w298v) w298e rfl ?_
                                  obtain ⟨w299v, w299e, w299⟩ := ziadd (a := w187x7) (b := Int32.ofInt 1) rfl (show (Int32.ofInt 1).toInt = 1 by decide) (by omega) (by omega)
                                  refine zs_iinc (pc := 362) t325_362 (ls' := [(7, .int w299v), (6, .int w298v), (11, .int (1 : Int32)), (0, .ref 336), (1, .int a), (2, .int b), (3, .int c), (4, .int d), (5, .int (1 : Int32)), (8, .int w189v), (9, .int w190x9), (10, .int w192x10)]) (zml mf325 (by decide)) rfl (c := w299v) w299e rfl ?_
                                  refine zs_goto (pc := 365) t325_365 ?_
                                  refine zGo.locals (ls' := [(0, .ref 336), (1, .int a), (2, .int b), (3, .int c), (4, .int d), (5, .int (1 : Int32)), (6, .int w298v), (7, .int w299v)]) (by simp) ?_
                                  have w300 := w298
                                  have w301 := w299
                                  exact w187ih (w187m - 1) (by omega) w298v w299v (zsI (zsI (zsI (zsI w187M 361 w280n w189v) 360 w194n w282v) 336 43 w288v) 336 45 w282v) ⟨by omega, by omega⟩ ⟨by omega, by omega⟩ w187s w297 ((((((zFr.refl).trans (w187F.mono rfl)).put rfl).put rfl).put rfl).put rfl) w187J (by omega) (by omega)
                              · refine zs_icmp_leF (pc := 315) t325_315 rfl rfl (by omega) ?_
                                refine zs_iconst (pc := 318) t325_318 (v := 1) (by decide) ?_
                                refine zs_goto (pc := 319) t325_319 ?_
                                obtain ⟨w302v, w302⟩ : ∃ v, v = (zI w187M 336 43) + (1 : Int32) := ⟨_, rfl⟩
                                have w302g := zrg w302v
                                refine zs_iadd (pc := 323) t325_323 (c := w302v) w302.symm ?_
                                have w303 : zIv mLo mHi (zsI (zsI (zsI w187M 361 w280n w189v) 360 w194n w282v) 336 43 w302v) := zIv.put w283 (show (-2147483648) ≤ w302v.toInt ∧ w302v.toInt ≤ 2147483647 from zrg w302v)
                                refine zs_putI (pc := 324) t325_324 (zk1 (w187s.k fk_zMm_336)) rfl ?_
                                refine zs_aload_n (pc := 327) t325_327 rfl ?_
                                refine zs_aload_n (pc := 328) t325_328 rfl ?_
                                refine zs_get (pc := 329) t325_329 (by decide) (zk1 (w187s.k fk_zMm_336)) (w187s.p rfl fv_zMm_336_40) ?_
                                refine zs_iload (pc := 332) t325_332 rfl ?_
                                refine zs_iald (pc := 334) t325_334 (j := w194n) (by decide) (zk1 (w187s.k fk_zMm_360)) (show w192x10.toInt = ((w194n : Nat) : Int) by omega) (zk2 (w187s.k fk_zMm_360) (by omega)) ((zIo (by decide)).trans zIs) ?_
                                refine zs_aload_n (pc := 335) t325_335 rfl ?_
                                have w304 := zrg (zI w187M 336 45)
                                refine zs_get (pc := 336) t325_336 (by decide) (zk1 (w187s.k fk_zMm_336)) (zfvi rfl ((zIoj (by decide)).trans ((zIo (by decide)).trans ((zIo (by decide)).trans rfl)))) ?_
                                by_cases w305 : w282v.toInt ≤ (zI w187M 336 45).toInt
                                · refine zs_icmp_leT (pc := 339) t325_339 rfl rfl (by omega) ?_
                                  refine zs_aload_n (pc := 352) t325_352 rfl ?_
                                  refine zs_get (pc := 353) t325_353 (by decide) (zk1 (w187s.k fk_zMm_336)) (zfvi rfl ((zIoj (by decide)).trans ((zIo (by decide)).trans ((zIo (by decide)).trans rfl)))) ?_
                                  have w306 : zIv mLo mHi (zsI (zsI (zsI (zsI w187M 361 w280n w189v) 360 w194n w282v) 336 43 w302v) 336 45 (zI w187M 336 45)) := zIv.put w303 (show (-2147483648) ≤ (zI w187M 336 45).toInt ∧ (zI w187M 336 45).toInt ≤ 2147483647 from zrg (zI w187M 336 45))
                                  refine zs_putI (pc := 356) t325_356 (zk1 (w187s.k fk_zMm_336)) rfl ?_
                                  obtain ⟨w307v, w307e, w307⟩ := ziadd (a := w187x6) (b := Int32.ofInt 1) rfl (show (Int32.ofInt 1).toInt = 1 by decide) (by omega) (by omega)
                                  refine zs_iinc (pc := 359) t325_359 (ls' := [(6, .int w307v), (11, .int (1 : Int32)), (0, .ref 336), (1, .int a), (2, .int b), (3, .int c), (4, .int d), (5, .int (1 : Int32)), (7, .int w187x7), (8, .int w189v), (9, .int w190x9), (10, .int w192x10)]) (zml mf325 (by decide)) rfl (c := w307v) w307e rfl ?_
                                  obtain ⟨w308v, w308e, w308⟩ := ziadd (a := w187x7) (b := Int32.ofInt 1) rfl (show (Int32.ofInt 1).toInt = 1 by decide) (by omega) (by omega)
                                  refine zs_iinc (pc := 362) t325_362 (ls' := [(7, .int w308v), (6, .int w307v), (11, .int (1 : Int32)), (0, .ref 336), (1, .int a), (2, .int b), (3, .int c), (4, .int d), (5, .int (1 : Int32)), (8, .int w189v), (9, .int w190x9), (10, .int w192x10)]) (zml mf325 (by decide)) rfl (c := w308v) w308e rfl ?_
                                  refine zs_goto (pc := 365) t325_365 ?_
                                  refine zGo.locals (ls' := [(0, .ref 336), (1, .int a), (2, .int b), (3, .int c), (4, .int d), (5, .int (1 : Int32)), (6, .int w307v), (7, .int w308v)]) (by simp) ?_
                                  have w309 := w307
                                  have w310 := w308
                                  exact w187ih (w187m - 1) (by omega) w307v w308v (zsI (zsI (zsI (zsI w187M 361 w280n w189v) 360 w194n w282v) 336 43 w302v) 336 45 (zI w187M 336 45)) ⟨by omega, by omega⟩ ⟨by omega, by omega⟩ w187s w306 ((((((zFr.refl).trans (w187F.mono rfl)).put rfl).put rfl).put rfl).put rfl) w187J (by omega) (by omega)
                                · refine zs_icmp_leF (pc := 339) t325_339 rfl rfl (by omega) ?_
                                  refine zs_aload_n (pc := 342) t325_342 rfl ?_
                                  refine zs_get (pc := 343) t325_343 (by decide) (zk1 (w187s.k fk_zMm_336)) (w187s.p rfl fv_zMm_336_40) ?_
                                  refine zs_iload (pc := 346) t325_346 rfl ?_
                                  refine zs_iald (pc := 348) t325_348 (j := w194n) (by decide) (zk1 (w187s.k fk_zMm_360)) (show w192x10.toInt = ((w194n : Nat) : Int) by omega) (zk2 (w187s.k fk_zMm_360) (by omega)) ((zIo (by decide)).trans zIs) ?_
                                  refine zs_goto (pc := 349) t325_349 ?_
                                  have w311 : zIv mLo mHi (zsI (zsI (zsI (zsI w187M 361 w280n w189v) 360 w194n w282v) 336 43 w302v) 336 45 w282v) := zIv.put w303 (show (-2147483648) ≤ w282v.toInt ∧ w282v.toInt ≤ 2147483647 from zrg w282v)
                                  refine zs_putI (pc := 356) t325_356 (zk1 (w187s.k fk_zMm_336)) rfl ?_
                                  obtain ⟨w312v, w312e, w312⟩ := ziadd (a := w187x6) (b := Int32.ofInt 1) rfl (show (Int32.ofInt 1).toInt = 1 by decide) (by omega) (by omega)
                                  refine zs_iinc (pc := 359) t325_359 (ls' := [(6, .int w312v), (11, .int (1 : Int32)), (0, .ref 336), (1, .int a), (2, .int b), (3, .int c), (4, .int d), (5, .int (1 : Int32)), (7, .int w187x7), (8, .int w189v), (9, .int w190x9), (10, .int w192x10)]) (zml mf325 (by decide)) rfl (c := w312v) w312e rfl ?_
                                  obtain ⟨w313v, w313e, w313⟩ := ziadd (a := w187x7) (b := Int32.ofInt 1) rfl (show (Int32.ofInt 1).toInt = 1 by decide) (by omega) (by omega)
                                  refine zs_iinc (pc := 362) t325_362 (ls' := [(7, .int w313v), (6, .int w312v), (11, .int (1 : Int32)), (0, .ref 336), (1, .int a), (2, .int b), (3, .int c), (4, .int d), (5, .int (1 : Int32)), (8, .int w189v), (9, .int w190x9), (10, .int w192x10)]) (zml mf325 (by decide)) rfl (c := w313v) w313e rfl ?_
                                  refine zs_goto (pc := 365) t325_365 ?_
                                  refine zGo.locals (ls' := [(0, .ref 336), (1, .int a), (2, .int b), (3, .int c), (4, .int d), (5, .int (1 : Int32)), (6, .int w312v), (7, .int w313v)]) (by simp) ?_
                                  have w314 := w312
                                  have w315 := w313
                                  exact w187ih (w187m - 1) (by omega) w312v w313v (zsI (zsI (zsI (zsI w187M 361 w280n w189v) 360 w194n w282v) 336 43 w302v) 336 45 w282v) ⟨by omega, by omega⟩ ⟨by omega, by omega⟩ w187s w311 ((((((zFr.refl).trans (w187F.mono rfl)).put rfl).put rfl).put rfl).put rfl) w187J (by omega) (by omega)
                          · refine zs_icmp_geF (pc := 149) t325_149 rfl rfl (by omega) ?_
                            refine zs_aload_n (pc := 152) t325_152 rfl ?_
                            refine zs_get (pc := 153) t325_153 (by decide) (zk1 (w187s.k fk_zMm_336)) (w187s.p rfl fv_zMm_336_40) ?_
                            refine zs_iload (pc := 156) t325_156 rfl ?_
                            obtain ⟨w316n, w316⟩ : ∃ n : Nat, w192x11.toInt = (n : Int) := ⟨(w192x11.toInt).toNat, by omega⟩
                            have w317 := zrg (zI w187M 360 w316n)
                            refine zs_iald (pc := 158) t325_158 (j := w316n) (by decide) (zk1 (w187s.k fk_zMm_360)) (show w192x11.toInt = ((w316n : Nat) : Int) by omega) (zk2 (w187s.k fk_zMm_360) (by omega)) rfl ?_
                            refine zs_aload_n (pc := 159) t325_159 rfl ?_
                            refine zs_get (pc := 160) t325_160 (by decide) (zk1 (w187s.k fk_zMm_336)) (w187s.p rfl fv_zMm_336_40) ?_
                            refine zs_iload (pc := 163) t325_163 rfl ?_
                            obtain ⟨w318n, w318⟩ : ∃ n : Nat, w192x10.toInt = (n : Int) := ⟨(w192x10.toInt).toNat, by omega⟩
                            have w319 := zrg (zI w187M 360 w318n)
                            refine zs_iald (pc := 165) t325_165 (j := w318n) (by decide) (zk1 (w187s.k fk_zMm_360)) (show w192x10.toInt = ((w318n : Nat) : Int) by omega) (zk2 (w187s.k fk_zMm_360) (by omega)) rfl ?_
                            by_cases w320 : (zI w187M 360 w318n).toInt ≤ (zI w187M 360 w316n).toInt
                            · refine zs_icmp_geT (pc := 166) t325_166 rfl rfl (by omega) ?_
                              refine zs_iload (pc := 174) t325_174 rfl ?_
                              refine zs_istore (pc := 176) t325_176 (ls' := [(10, .int w192x10), (0, .ref 336), (1, .int a), (2, .int b), (3, .int c), (4, .int d), (5, .int (1 : Int32)), (6, .int w187x6), (7, .int w187x7), (8, .int w189v), (9, .int w190x9), (11, .int w192x11)]) (zml mf325 (by decide)) rfl ?_
                              obtain ⟨w321v, w321e, w321⟩ := ziadd (a := w192x11) (b := Int32.ofInt 1) rfl (show (Int32.ofInt 1).toInt = 1 by decide) (by omega) (by omega)
                              refine zs_iinc (pc := 178) t325_178 (ls' := [(11, .int w321v), (10, .int w192x10), (0, .ref 336), (1, .int a), (2, .int b), (3, .int c), (4, .int d), (5, .int (1 : Int32)), (6, .int w187x6), (7, .int w187x7), (8, .int w189v), (9, .int w190x9)]) (zml mf325 (by decide)) rfl (c := w321v) w321e rfl ?_
                              refine zs_goto (pc := 181) t325_181 ?_
                              refine zGo.locals (ls' := [(0, .ref 336), (1, .int a), (2, .int b), (3, .int c), (4, .int d), (5, .int (1 : Int32)), (6, .int w187x6), (7, .int w187x7), (8, .int w189v), (9, .int w190x9), (10, .int w192x10), (11, .int w321v)]) (by simp) ?_
                              have w322 := w321
                              exact w192ih (w192m - 1) (by omega) w192x10 w321v ⟨by omega, by omega⟩ ⟨by omega, by omega⟩ (by omega)
                            · refine zs_icmp_geF (pc := 166) t325_166 rfl rfl (by omega) ?_
                              refine zs_iload (pc := 169) t325_169 rfl ?_
                              refine zs_goto (pc := 171) t325_171 ?_
                              refine zs_istore (pc := 176) t325_176 (ls' := [(10, .int w192x11), (0, .ref 336), (1, .int a), (2, .int b), (3, .int c), (4, .int d), (5, .int (1 : Int32)), (6, .int w187x6), (7, .int w187x7), (8, .int w189v), (9, .int w190x9), (11, .int w192x11)]) (zml mf325 (by decide)) rfl ?_
                              obtain ⟨w323v, w323e, w323⟩ := ziadd (a := w192x11) (b := Int32.ofInt 1) rfl (show (Int32.ofInt 1).toInt = 1 by decide) (by omega) (by omega)
                              refine zs_iinc (pc := 178) t325_178 (ls' := [(11, .int w323v), (10, .int w192x11), (0, .ref 336), (1, .int a), (2, .int b), (3, .int c), (4, .int d), (5, .int (1 : Int32)), (6, .int w187x6), (7, .int w187x7), (8, .int w189v), (9, .int w190x9)]) (zml mf325 (by decide)) rfl (c := w323v) w323e rfl ?_
                              refine zs_goto (pc := 181) t325_181 ?_
                              refine zGo.locals (ls' := [(0, .ref 336), (1, .int a), (2, .int b), (3, .int c), (4, .int d), (5, .int (1 : Int32)), (6, .int w187x6), (7, .int w187x7), (8, .int w189v), (9, .int w190x9), (10, .int w192x11), (11, .int w323v)]) (by simp) ?_
                              have w324 := w323
                              exact w192ih (w192m - 1) (by omega) w192x11 w323v ⟨by omega, by omega⟩ ⟨by omega, by omega⟩ (by omega)
                      refine zGo.locals (ls' := [(0, .ref 336), (1, .int a), (2, .int b), (3, .int c), (4, .int d), (5, .int (1 : Int32)), (6, .int w187x6), (7, .int w187x7), (8, .int w189v), (9, .int w190x9), (10, .int (0 : Int32)), (11, .int (1 : Int32))]) (by simp) ?_
                      have w325 := li0
                      have w326 := li1
                      exact w192L ((8 - 1 : Int).toNat) (0 : Int32) (1 : Int32) ⟨by decide, by decide⟩ ⟨by decide, by decide⟩ (by omega)
                    · refine zs_icmp_geF (pc := 109) t325_109 rfl rfl (by omega) ?_
                      refine zs_iload (pc := 112) t325_112 rfl ?_
                      refine zs_aload_n (pc := 114) t325_114 rfl ?_
                      refine zs_get (pc := 115) t325_115 (by decide) (zk1 (w187s.k fk_zMm_336)) (w187s.p rfl fv_zMm_336_41) ?_
                      refine zs_iload (pc := 118) t325_118 rfl ?_
                      obtain ⟨w327n, w327⟩ : ∃ n : Nat, w190x10.toInt = (n : Int) := ⟨(w190x10.toInt).toNat, by omega⟩
                      have w328 := zrg (zI w187M 361 w327n)
                      refine zs_iald (pc := 120) t325_120 (j := w327n) (by decide) (zk1 (w187s.k fk_zMm_361)) (show w190x10.toInt = ((w327n : Nat) : Int) by omega) (zk2 (w187s.k fk_zMm_361) (by omega)) rfl ?_
                      refine zs_iload (pc := 121) t325_121 rfl ?_
                      by_cases w329 : (zI w187M 361 w327n).toInt ≤ w189v.toInt
                      · refine zs_icmp_leT (pc := 123) t325_123 rfl rfl (by omega) ?_
                        refine zs_iconst (pc := 130) t325_130 (v := 0) (by decide) ?_
                        obtain ⟨w330v, w330e, w330⟩ := ziadd (a := w190x9) (b := (0 : Int32)) rfl li0 (by omega) (by omega)
                        refine zs_iadd (pc := 131) t325_131 (c := w330v) w330e ?_
                        refine zs_istore (pc := 132) t325_132 (ls' := [(9, .int w330v), (0, .ref 336), (1, .int a), (2, .int b), (3, .int c), (4, .int d), (5, .int (1 : Int32)), (6, .int w187x6), (7, .int w187x7), (8, .int w189v), (10, .int w190x10)]) (zml mf325 (by decide)) rfl ?_
                        obtain ⟨w331v, w331e, w331⟩ := ziadd (a := w190x10) (b := Int32.ofInt 1) rfl (show (Int32.ofInt 1).toInt = 1 by decide) (by omega) (by omega)
                        refine zs_iinc (pc := 134) t325_134 (ls' := [(10, .int w331v), (9, .int w330v), (0, .ref 336), (1, .int a), (2, .int b), (3, .int c), (4, .int d), (5, .int (1 : Int32)), (6, .int w187x6), (7, .int w187x7), (8, .int w189v)]) (zml mf325 (by decide)) rfl (c := w331v) w331e rfl ?_
                        refine zs_goto (pc := 137) t325_137 ?_
                        refine zGo.locals (ls' := [(0, .ref 336), (1, .int a), (2, .int b), (3, .int c), (4, .int d), (5, .int (1 : Int32)), (6, .int w187x6), (7, .int w187x7), (8, .int w189v), (9, .int w330v), (10, .int w331v)]) (by simp) ?_
                        have w332 := w330
                        have w333 := w331
                        exact w190ih (w190m - 1) (by omega) w330v w331v ⟨by omega, by omega⟩ (by omega)
                      · refine zs_icmp_leF (pc := 123) t325_123 rfl rfl (by omega) ?_
                        refine zs_iconst (pc := 126) t325_126 (v := 1) (by decide) ?_
                        refine zs_goto (pc := 127) t325_127 ?_
                        obtain ⟨w334v, w334⟩ : ∃ v, v = w190x9 + (1 : Int32) := ⟨_, rfl⟩
                        have w334g := zrg w334v
                        refine zs_iadd (pc := 131) t325_131 (c := w334v) w334.symm ?_
                        refine zs_istore (pc := 132) t325_132 (ls' := [(9, .int w334v), (0, .ref 336), (1, .int a), (2, .int b), (3, .int c), (4, .int d), (5, .int (1 : Int32)), (6, .int w187x6), (7, .int w187x7), (8, .int w189v), (10, .int w190x10)]) (zml mf325 (by decide)) rfl ?_
                        obtain ⟨w335v, w335e, w335⟩ := ziadd (a := w190x10) (b := Int32.ofInt 1) rfl (show (Int32.ofInt 1).toInt = 1 by decide) (by omega) (by omega)
                        refine zs_iinc (pc := 134) t325_134 (ls' := [(10, .int w335v), (9, .int w334v), (0, .ref 336), (1, .int a), (2, .int b), (3, .int c), (4, .int d), (5, .int (1 : Int32)), (6, .int w187x6), (7, .int w187x7), (8, .int w189v)]) (zml mf325 (by decide)) rfl (c := w335v) w335e rfl ?_
                        refine zs_goto (pc := 137) t325_137 ?_
                        refine zGo.locals (ls' := [(0, .ref 336), (1, .int a), (2, .int b), (3, .int c), (4, .int d), (5, .int (1 : Int32)), (6, .int w187x6), (7, .int w187x7), (8, .int w189v), (9, .int w334v), (10, .int w335v)]) (by simp) ?_
                        have w336 := w335
                        exact w190ih (w190m - 1) (by omega) w334v w335v ⟨by omega, by omega⟩ (by omega)
                refine zGo.locals (ls' := [(0, .ref 336), (1, .int a), (2, .int b), (3, .int c), (4, .int d), (5, .int (1 : Int32)), (6, .int w187x6), (7, .int w187x7), (8, .int w189v), (9, .int (0 : Int32)), (10, .int (0 : Int32))]) (by simp) ?_
                have w337 := li0
                have w338 := li0
                exact w190L ((200 - 0 : Int).toNat) (0 : Int32) (0 : Int32) ⟨by decide, by decide⟩ (by omega)
          refine zGo.locals (ls' := [(0, .ref 336), (1, .int a), (2, .int b), (3, .int c), (4, .int d), (5, .int (1 : Int32)), (6, .int (0 : Int32)), (7, .int (0 : Int32))]) (by simp) ?_
          have w339 := li0
          have w340 := li0
          exact w187L ((200 - 0 : Int).toNat) (0 : Int32) (0 : Int32) (zsI (zsI (zsI (zsI w181M 336 42 (0 : Int32)) 336 43 (0 : Int32)) 336 44 (0 : Int32)) 336 45 (0 : Int32)) ⟨by decide, by decide⟩ ⟨by decide, by decide⟩ w181s w186 zFr.refl rfl (by omega) (by omega)
        · refine zs_icmp_geF (pc := 44) t325_44 rfl rfl (by omega) ?_
          refine zs_aload_n (pc := 47) t325_47 rfl ?_
          refine zs_get (pc := 48) t325_48 (by decide) (zk1 (w181s.k fk_zMm_336)) (w181s.p rfl fv_zMm_336_40) ?_
          refine zs_iload (pc := 51) t325_51 rfl ?_
          refine zs_iconst (pc := 53) t325_53 (v := 0) (by decide) ?_
          obtain ⟨w341n, w341⟩ : ∃ n : Nat, w181x6.toInt = (n : Int) := ⟨(w181x6.toInt).toNat, by omega⟩
          have w342 : zIv mLo mHi (zsI w181M 360 w341n (0 : Int32)) := zIv.put w181I (show (-2147483648) ≤ (0 : Int32).toInt ∧ (0 : Int32).toInt ≤ 2147483647 from zrg (0 : Int32))
          refine zs_iast (pc := 54) t325_54 (j := w341n) (by decide) (zk1 (w181s.k fk_zMm_360)) (show w181x6.toInt = ((w341n : Nat) : Int) by omega) (zk2 (w181s.k fk_zMm_360) (by omega)) ?_
          obtain ⟨w343v, w343e, w343⟩ := ziadd (a := w181x6) (b := Int32.ofInt 1) rfl (show (Int32.ofInt 1).toInt = 1 by decide) (by omega) (by omega)
          refine zs_iinc (pc := 55) t325_55 (ls' := [(6, .int w343v), (0, .ref 336), (1, .int a), (2, .int b), (3, .int c), (4, .int d), (5, .int (1 : Int32))]) (zml mf325 (by decide)) rfl (c := w343v) w343e rfl ?_
          refine zs_goto (pc := 58) t325_58 ?_
          refine zGo.locals (ls' := [(0, .ref 336), (1, .int a), (2, .int b), (3, .int c), (4, .int d), (5, .int (1 : Int32)), (6, .int w343v)]) (by simp) ?_
          have w344 := w343
          exact w181ih (w181m - 1) (by omega) w343v (zsI w181M 360 w341n (0 : Int32)) ⟨by omega, by omega⟩ w181s w342 (((zFr.refl).trans (w181F.mono rfl)).put rfl) w181J (by omega)
    refine zGo.locals (ls' := [(0, .ref 336), (1, .int a), (2, .int b), (3, .int c), (4, .int d), (5, .int (1 : Int32)), (6, .int (0 : Int32))]) (by simp) ?_
    have w345 := li0
    exact w181L ((8 - 0 : Int).toNat) (0 : Int32) w7M ⟨by decide, by decide⟩ w7s w7I zFr.refl rfl (by omega)
