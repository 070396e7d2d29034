theorem Y321 {X : zX} {l : Launch} {M : zM} {Q : Option Value → zM → Prop} {a b : Int32} (hs : zSk zMm M) (hI : zIv mLo mHi M) {F : Nat → Int} (pR : zPR M) (pC : zPC M) (pF : zPF M) (x0 : zRw M 0 F) (x1 : zWF F) (x2 : zKnB M F) (hQ : ∀ (M' : zM) (v : Int32), zSk zMm M' → zIv mLo mHi M' → zFr [(336, 336, some 3), (336, 336, some 18), (336, 336, some 19), (336, 336, some 20), (336, 336, some 21), (336, 336, some 22), (336, 336, some 37), (336, 336, some 39), (336, 336, some 42), (336, 336, some 43), (336, 336, some 44), (336, 336, some 45), (342, 361, none)] M M' → zPR M' → zPC M' → zPF M' → (zKnB M' F) → (pOf F a.toInt b.toInt v.toInt) → Q (some (.int v)) M') : zCall X l 7 0 0 321 [.ref 336, .int a, .int b] M Q := by
  have ga := zrg a
  have gb := zrg b
  refine zs_in (by decide) mf321 (Nat.le_of_ble_eq_true rfl) ?_
  show zGo X l 7 0 0 321 0 [(0, .ref 336), (1, .int a), (2, .int b)] [] M _
  have f1 := x1.1
  have f3 := x1.2.2.2
  have w1 := ibA0 hI
  have w2 : (zI M 337 0).toInt = (zI M 337 0).toInt := (congrArg Int32.toInt rfl).trans rfl
  have e0 : (zI M 337 0).toInt = F 0 := x0.at (by decide) (by decide) (by decide)
  have w3 := ibA1 hI
  have w4 : (zI M 337 1).toInt = (zI M 337 1).toInt := (congrArg Int32.toInt rfl).trans rfl
  have e1 : (zI M 337 1).toInt = F 1 := x0.at (by decide) (by decide) (by decide)
  have w5 := ibA2 hI
  have w6 : (zI M 337 2).toInt = (zI M 337 2).toInt := (congrArg Int32.toInt rfl).trans rfl
  have e2 : (zI M 337 2).toInt = F 2 := x0.at (by decide) (by decide) (by decide)
  refine zs_aload_n (pc := 0) t321_0 rfl ?_
  refine zs_invV (pc := 1) (k := 336) (as' := []) (st := []) t321_1 mf268 rfl rfl (Or.inl ⟨by decide, (zk1 (hs.k fk_zMm_336))⟩) ⟨by decide, by decide, Nat.le_of_ble_eq_true rfl, Nat.le_of_ble_eq_true rfl⟩ (U268 hs hI pR pF x0 x1 x2 ?_) (fun _ _ q => q)
  intro w7M w7s w7I w7F w7PF w7PD w7PV w7x0 w7x1
  show zGo X l 7 0 0 321 4 [(0, .ref 336), (1, .int a), (2, .int b)] [] w7M _
  have w7kb : zKnB w7M F := fun _ => w7x0
  obtain ⟨w7m, w7τ, w7tk, w7m4, w7m20, w7tm⟩ := zPicB.tk w7x0
  refine zs_aload_n (pc := 4) t321_4 rfl ?_
  refine zs_iload_n (pc := 5) t321_5 rfl ?_
  refine zs_invV (pc := 6) (k := 336) (as' := [.int a]) (st := []) t321_6 mf297 rfl rfl (Or.inl ⟨by decide, (zk1 (w7s.k fk_zMm_336))⟩) ⟨by decide, by decide, Nat.le_of_ble_eq_true rfl, Nat.le_of_ble_eq_true rfl⟩ (zs_in (by decide) mf297 (Nat.le_of_ble_eq_true rfl) ?_) (fun _ _ q => q)
  show zGo X l 1 0 0 297 0 [(0, .ref 336), (1, .int a)] [] w7M _
  refine zs_iload_n (pc := 0) t297_0 rfl ?_
  refine zs_i2l (pc := 1) t297_1 rfl ?_
  refine zs_lconst (pc := 2) t297_2 (v := 0) (by decide) ?_
  refine zs_aload_n (pc := 3) t297_3 rfl ?_
  have w8 := ib336_22 w7I
  refine zs_get (pc := 4) t297_4 (by decide) (zk1 (w7s.k fk_zMm_336)) (zfvi rfl rfl) ?_
  refine zs_iconst (pc := 7) t297_7 (v := 1) (by decide) ?_
  obtain ⟨w9v, w9e, w9⟩ := zisub (a := (zI w7M 336 22)) (b := (1 : Int32)) rfl li1 (by omega) (by omega)
  refine zs_isub (pc := 8) t297_8 (c := w9v) w9e ?_
  refine zs_i2l (pc := 9) t297_9 rfl ?_
  by_cases w10 : 0 ≤ a.toInt ∧ a.toInt ≤ ((zI w7M 336 22).toInt - 1)
  · refine zs_invS (pc := 10) (as := [.long a.toInt64, .long (0 : Int64), .long w9v.toInt64]) (st := []) t297_10 (by decide) mf228 rfl rfl ⟨by decide, by decide, Nat.le_of_ble_eq_true rfl, Nat.le_of_ble_eq_true rfl⟩ (K228T (zi2l rfl) ll0 (zi2l w9) (by omega) ?_) (fun _ _ q => q)
    show zGo X l 1 0 0 297 13 [(0, .ref 336), (1, .int a)] [.int (1 : Int32)] w7M _
    refine zs_iret (pc := 13) t297_13 mr297 (by decide) ?_
    show zGo X l 7 0 0 321 9 [(0, .ref 336), (1, .int a), (2, .int b)] [.int (1 : Int32)] w7M _
    refine zs_if_eqF (pc := 9) t321_9 li1 (by decide) ?_
    refine zs_aload_n (pc := 12) t321_12 rfl ?_
    refine zs_iload_n (pc := 13) t321_13 rfl ?_
    refine zs_invV (pc := 14) (k := 336) (as' := [.int b]) (st := []) t321_14 mf306 rfl rfl (Or.inl ⟨by decide, (zk1 (w7s.k fk_zMm_336))⟩) ⟨by decide, by decide, Nat.le_of_ble_eq_true rfl, Nat.le_of_ble_eq_true rfl⟩ (zs_in (by decide) mf306 (Nat.le_of_ble_eq_true rfl) ?_) (fun _ _ q => q)
    show zGo X l 1 0 0 306 0 [(0, .ref 336), (1, .int b)] [] w7M _
    refine zs_iload_n (pc := 0) t306_0 rfl ?_
    refine zs_i2l (pc := 1) t306_1 rfl ?_
    refine zs_lconst (pc := 2) t306_2 (v := 0) (by decide) ?_
    refine zs_aload_n (pc := 3) t306_3 rfl ?_
    refine zs_get (pc := 4) t306_4 (by decide) (zk1 (w7s.k fk_zMm_336)) (w7s.p rfl fv_zMm_336_0) ?_
    refine zs_iconst (pc := 7) t306_7 (v := 0) (by decide) ?_
    have w11 : (zI M 337 0).toInt = F 0 := x0.at (by decide) (by decide) (by decide)
    refine zs_iald (pc := 8) t306_8 (j := 0) (by decide) (zk1 (w7s.k fk_zMm_337)) li0 (zk2 (w7s.k fk_zMm_337) (by decide)) ((w7F 337 0 rfl).trans rfl) ?_
    refine zs_iconst (pc := 9) t306_9 (v := 1) (by decide) ?_
    obtain ⟨w12v, w12e, w12⟩ := zisub (a := (zI M 337 0)) (b := (1 : Int32)) rfl li1 (by omega) (by omega)
    refine zs_isub (pc := 10) t306_10 (c := w12v) w12e ?_
    refine zs_i2l (pc := 11) t306_11 rfl ?_
    by_cases w13 : 0 ≤ b.toInt ∧ b.toInt ≤ ((zI M 337 0).toInt - 1)
    · refine zs_invS (pc := 12) (as := [.long b.toInt64, .long (0 : Int64), .long w12v.toInt64]) (st := []) t306_12 (by decide) mf228 rfl rfl ⟨by decide, by decide, Nat.le_of_ble_eq_true rfl, Nat.le_of_ble_eq_true rfl⟩ (K228T (zi2l rfl) ll0 (zi2l w12) (by omega) ?_) (fun _ _ q => q)
      show zGo X l 1 0 0 306 15 [(0, .ref 336), (1, .int b)] [.int (1 : Int32)] w7M _
      refine zs_iret (pc := 15) t306_15 mr306 (by decide) ?_
      show zGo X l 7 0 0 321 17 [(0, .ref 336), (1, .int a), (2, .int b)] [.int (1 : Int32)] w7M _
      refine zs_if_eqF (pc := 17) t321_17 li1 (by decide) ?_
      refine zs_aload_n (pc := 20) t321_20 rfl ?_
      refine zs_get (pc := 21) t321_21 (by decide) (zk1 (w7s.k fk_zMm_336)) (w7s.p rfl fv_zMm_336_27) ?_
      refine zs_bipush (pc := 24) t321_24 (v := 8) (by decide) ?_
      refine zs_iload_n (pc := 26) t321_26 rfl ?_
      obtain ⟨w14v, w14⟩ : ∃ v, (8 : Int32) * a = v := ⟨_, rfl⟩
      have w14g : w14v.toInt = 8 * a.toInt := by rw [← w14]; exact zmulc li8 rfl (by omega) (by omega)
      refine zs_imul (pc := 27) t321_27 (c := w14v) w14 ?_
      refine zs_iload_n (pc := 28) t321_28 rfl ?_
      obtain ⟨w15v, w15e, w15⟩ := ziadd (a := w14v) (b := b) w14g rfl (by omega) (by omega)
      refine zs_iadd (pc := 29) t321_29 (c := w15v) w15e ?_
      obtain ⟨w16n, w16⟩ : ∃ n : Nat, a.toInt = (n : Int) := ⟨(a.toInt).toNat, by omega⟩
      obtain ⟨w17n, w17⟩ : ∃ n : Nat, b.toInt = (n : Int) := ⟨(b.toInt).toNat, by omega⟩
      have w18 := ib349 w7I (8 * w16n + w17n)
      refine zs_iald (pc := 30) t321_30 (j := (8 * w16n + w17n)) (by decide) (zk1 (w7s.k fk_zMm_349)) (show w15v.toInt = (((8 * w16n + w17n) : Nat) : Int) by omega) (zk2 (w7s.k fk_zMm_349) (by omega)) rfl ?_
      refine zs_goto (pc := 31) t321_31 ?_
      exact zs_iret (pc := 35) t321_35 mr321 rfl (hQ _ _ w7s w7I ((zFr.refl).trans (w7F.mono rfl)) (zPR.fr pR (w7F.eq rfl)) (zPC.fr pC (w7F.eq rfl)) w7PF w7kb ⟨_, _, w7tk, Or.inr ⟨by omega, by omega, by omega, by omega, by rw [show a.toInt.toNat = w16n by omega, show b.toInt.toNat = w17n by omega]; exact (w7tm.1 w16n (by omega)).2.2.2.2 w17n (by omega)⟩⟩)
    · refine zs_invS (pc := 12) (as := [.long b.toInt64, .long (0 : Int64), .long w12v.toInt64]) (st := []) t306_12 (by decide) mf228 rfl rfl ⟨by decide, by decide, Nat.le_of_ble_eq_true rfl, Nat.le_of_ble_eq_true rfl⟩ (K228F (zi2l rfl) ll0 (zi2l w12) (by omega) ?_) (fun _ _ q => q)
      show zGo X l 1 0 0 306 15 [(0, .ref 336), (1, .int b)] [.int (0 : Int32)] w7M _
      refine zs_iret (pc := 15) t306_15 mr306 (by decide) ?_
      show zGo X l 7 0 0 321 17 [(0, .ref 336), (1, .int a), (2, .int b)] [.int (0 : Int32)] w7M _
      refine zs_if_eqT (pc := 17) t321_17 li0 (by decide) ?_
      refine zs_iconst (pc := 34) t321_34 (v := -1) (by decide) ?_
      have w19 : (-1 : Int32).toInt = (-1) := lin1
      exact zs_iret (pc := 35) t321_35 mr321 (by decide) (hQ _ _ w7s w7I ((zFr.refl).trans (w7F.mono rfl)) (zPR.fr pR (w7F.eq rfl)) (zPC.fr pC (w7F.eq rfl)) w7PF w7kb ⟨_, _, w7tk, Or.inl ⟨by decide, by omega⟩⟩)
  · refine zs_invS (pc := 10) (as := [.long a.toInt64, .long (0 : Int64), .long w9v.toInt64]) (st := []) t297_10 (by decide) mf228 rfl rfl ⟨by decide, by decide, Nat.le_of_ble_eq_true rfl, Nat.le_of_ble_eq_true rfl⟩ (K228F (zi2l rfl) ll0 (zi2l w9) (by omega) ?_) (fun _ _ q => q)
    show zGo X l 1 0 0 297 13 [(0, .ref 336), (1, .int a)] [.int (0 : Int32)] w7M _
    refine zs_iret (pc := 13) t297_13 mr297 (by decide) ?_
    show zGo X l 7 0 0 321 9 [(0, .ref 336), (1, .int a), (2, .int b)] [.int (0 : Int32)] w7M _
    refine zs_if_eqT (pc := 9) t321_9 li0 (by decide) ?_
    refine zs_iconst (pc := 34) t321_34 (v := -1) (by decide) ?_
    have w20 : (-1 : Int32).toInt = (-1) := lin1
    exact zs_iret (pc := 35) t321_35 mr321 (by decide) (hQ _ _ w7s w7I ((zFr.refl).trans (w7F.mono rfl)) (zPR.fr pR (w7F.eq rfl)) (zPC.fr pC (w7F.eq rfl)) w7PF w7kb ⟨_, _, w7tk, Or.inl ⟨by decide, by omega⟩⟩)
theorem O234 {X : zX} {l : Launch} {M : zM} {Q : Option Value → zM → Prop} (hs : zSk zMm M) (hI : zIv mLo mHi M) {F : Nat → Int} (x0 : zRw M 0 F) (x1 : zWF F) (hQ : ∀ v : Int32, (v.toInt = (zI M 336 7).toInt) → Q (some (.int v)) M) : zCall X l 0 0 0 234 [.ref 336] M Q := by
  refine zs_in (by decide) mf234 (Nat.le_of_ble_eq_true rfl) ?_
  show zGo X l 0 0 0 234 0 [(0, .ref 336)] [] M _
  have f1 := x1.1
  have f3 := x1.2.2.2
  have w1 := ibA0 hI
  have w2 : (zI M 337 0).toInt = (zI M 337 0).toInt := (congrArg Int32.toInt rfl).trans rfl
  have e0 : (zI M 337 0).toInt = F 0 := x0.at (by decide) (by decide) (by decide)
  have w3 := ibA1 hI
  have w4 : (zI M 337 1).toInt = (zI M 337 1).toInt := (congrArg Int32.toInt rfl).trans rfl
  have e1 : (zI M 337 1).toInt = F 1 := x0.at (by decide) (by decide) (by decide)
  have w5 := ibA2 hI
  have w6 : (zI M 337 2).toInt = (zI M 337 2).toInt := (congrArg Int32.toInt rfl).trans rfl
  have e2 : (zI M 337 2).toInt = F 2 := x0.at (by decide) (by decide) (by decide)
  refine zs_aload_n (pc := 0) t234_0 rfl ?_
  have w7 := ib336_7 hI
  refine zs_get (pc := 1) t234_1 (by decide) (zk1 (hs.k fk_zMm_336)) (zfvi rfl rfl) ?_
  exact zs_iret (pc := 4) t234_4 mr234 rfl (hQ _ (by omega))
