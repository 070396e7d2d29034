theorem U268 {X : zX} {l : Launch} {M : zM} {Q : Option Value → zM → Prop} (hs : zSk zMm M) (hI : zIv mLo mHi M) {F : Nat → Int} (pR : zPR M) (pF : zPF M) (x0 : zRw M 0 F) (x1 : zWF F) (x2 : zKnB M F) (hQ : ∀ M', zSk zMm M' → zIv mLo mHi M' → zFr [(344, 344, none), (349, 349, none), (350, 350, none), (343, 343, none), (345, 345, none), (346, 346, none), (347, 347, none), (348, 348, none), (336, 336, some 22), (336, 336, some 18), (336, 336, some 19), (336, 336, some 20), (336, 336, some 21), (351, 354, none), (358, 358, none), (336, 336, some 37), (356, 356, none), (355, 355, none), (343, 343, none), (344, 344, none), (336, 336, some 39), (359, 359, none), (336, 336, some 3)] M M' → zPF M' → zPD M' → zPV M' → (zPicB M' F) → ((zI M' 336 3).toInt ≠ 0) → Q none M') : zCall X l 6 0 0 268 [.ref 336] M Q := by
  refine zs_in (by decide) mf268 (Nat.le_of_ble_eq_true rfl) ?_
  show zGo X l 6 0 0 268 0 [(0, .ref 336)] [] M _
  have f1 := x1.1
  have f3 := x1.2.2.2
  have w1 := ibA0 hI
  have w2 : (zI M 337 0).toInt = (zI M 337 0).toInt := (congrArg Int32.toInt rfl).trans rfl
  have e0 : (zI M 337 0).toInt = F 0 := x0.at (by decide) (by decide) (by decide)
  have w3 := ibA1 hI
  have w4 : (zI M 337 1).toInt = (zI M 337 1).toInt := (congrArg Int32.toInt rfl).trans rfl
  have e1 : (zI M 337 1).toInt = F 1 := x0.at (by decide) (by decide) (by decide)
  have w5 := ibA2 hI
  have w6 : (zI M 337 2).toInt = (zI M 337 2).toInt := (congrArg Int32.toInt rfl).trans rfl
  have e2 : (zI M 337 2).toInt = F 2 := x0.at (by decide) (by decide) (by decide)
  refine zs_aload_n (pc := 0) t268_0 rfl ?_
  have w7 := ib336_3 hI
  refine zs_get (pc := 1) t268_1 (by decide) (zk1 (hs.k fk_zMm_336)) (zfvi rfl rfl) ?_
  by_cases w8 : (zI M 336 3).toInt = 0
  · refine zs_if_eqT (pc := 4) t268_4 rfl (by omega) ?_
    refine zs_aload_n (pc := 8) t268_8 rfl ?_
    refine zs_aload_n (pc := 9) t268_9 rfl ?_
    refine zs_get (pc := 10) t268_10 (by decide) (zk1 (hs.k fk_zMm_336)) (hs.p rfl fv_zMm_336_0) ?_
    refine zs_bipush (pc := 13) t268_13 (v := 8) (by decide) ?_
    have w9 := ibA8 hI
    have w10 : (zI M 337 8).toInt = F 8 := x0.at (by decide) (by decide) (by decide)
    refine zs_iald (pc := 15) t268_15 (j := 8) (by decide) (zk1 (hs.k fk_zMm_337)) li8 (zk2 (hs.k fk_zMm_337) (by decide)) rfl ?_
    refine zs_iconst (pc := 16) t268_16 (v := -1) (by decide) ?_
    have w11 : (-1 : Int32).toInt = (-1) := lin1
    refine zs_invV (pc := 17) (k := 336) (as' := [.int (zI M 337 8), .int (-1 : Int32)]) (st := []) t268_17 mf269 rfl rfl (Or.inl ⟨by decide, (zk1 (hs.k fk_zMm_336))⟩) ⟨by decide, by decide, Nat.le_of_ble_eq_true rfl, Nat.le_of_ble_eq_true rfl⟩ (U269 hs hI pR ⟨by omega, by omega⟩ x0 x1 ?_) (fun _ _ q => q)
    intro w12M w12s w12I w12F w12J w12PT w12x0
    show zGo X l 6 0 0 268 20 [(0, .ref 336)] [] w12M _
    have w12y : zFd w12M F (-1) (F 8) := by
      have z := w12x0
      rw [show (-1 : Int32).toInt = -1 by decide, show (zI M 337 8).toInt = F 8 by omega] at z
      exact z
    obtain ⟨w12n, w12τ, w12Λ, d1, d2, d3, d4, d5, d6⟩ := w12y
    refine zs_aload_n (pc := 20) t268_20 rfl ?_
    refine zs_invV (pc := 21) (k := 336) (as' := []) (st := []) t268_21 mf282 rfl rfl (Or.inl ⟨by decide, (zk1 (w12s.k fk_zMm_336))⟩) ⟨by decide, by decide, Nat.le_of_ble_eq_true rfl, Nat.le_of_ble_eq_true rfl⟩ (K282 w12s w12I (zPR.fr pR (w12F.eq rfl)) w12PT ?_) (fun _ _ q => q)
    intro w13M w13s w13I w13F w13PD
    show zGo X l 6 0 0 268 24 [(0, .ref 336)] [] w13M _
    refine zs_aload_n (pc := 24) t268_24 rfl ?_
    refine zs_invV (pc := 25) (k := 336) (as' := []) (st := []) t268_25 mf284 rfl rfl (Or.inl ⟨by decide, (zk1 (w13s.k fk_zMm_336))⟩) ⟨by decide, by decide, Nat.le_of_ble_eq_true rfl, Nat.le_of_ble_eq_true rfl⟩ (K284 w13s w13I w13PD ?_) (fun _ _ q => q)
    intro w14M w14s w14I w14F w14J w14PV
    show zGo X l 6 0 0 268 28 [(0, .ref 336)] [] w14M _
    refine zs_aload_n (pc := 28) t268_28 rfl ?_
    refine zs_invV (pc := 29) (k := 336) (as' := []) (st := []) t268_29 mf287 rfl rfl (Or.inl ⟨by decide, (zk1 (w14s.k fk_zMm_336))⟩) ⟨by decide, by decide, Nat.le_of_ble_eq_true rfl, Nat.le_of_ble_eq_true rfl⟩ (K287 w14s w14I ?_) (fun _ _ q => q)
    intro w15M w15s w15I w15F w15J
    show zGo X l 6 0 0 268 32 [(0, .ref 336)] [] w15M _
    refine zs_aload_n (pc := 32) t268_32 rfl ?_
    refine zs_iconst (pc := 33) t268_33 (v := 1) (by decide) ?_
    have w16 : zIv mLo mHi (zsI w15M 336 3 (1 : Int32)) := zIv.put w15I (show 0 ≤ (1 : Int32).toInt ∧ (1 : Int32).toInt ≤ 1 from ⟨by decide, by decide⟩)
    have w17 : zPF (zsI w15M 336 3 (1 : Int32)) := zPF.on (zPD.fr (M' := (zsI w15M 336 3 (1 : Int32))) (zPD.fr (zPD.fr w13PD (w14F.eq rfl) w14J) (w15F.eq rfl) w15J) (zEq.put rfl) rfl) (zPV.fr (M' := (zsI w15M 336 3 (1 : Int32))) (zPV.fr w14PV (w15F.eq rfl)) (zEq.put rfl))
    refine zs_putI (pc := 34) t268_34 (zk1 (w15s.k fk_zMm_336)) (by decide) ?_
    have w18 := ib336_22 w12I
    have w19 : (zI (zsI w15M 336 3 (1 : Int32)) 336 22).toInt = (zI w12M 336 22).toInt := (congrArg Int32.toInt ((zIoj (by decide)).trans ((w15F 336 22 rfl).trans ((w14F 336 22 rfl).trans ((w13F 336 22 rfl).trans rfl))))).trans rfl
    have w20 : (zI (zsI w15M 336 3 (1 : Int32)) 336 3).toInt = 1 := (congrArg Int32.toInt zIs).trans li1
    exact zs_vret (pc := 37) t268_37 mr268 (hQ _ w15s w16 ((((((zFr.refl).trans (w12F.mono rfl)).trans (w13F.mono rfl)).trans (w14F.mono rfl)).trans (w15F.mono rfl)).put rfl) w17 (zPD.fr (M' := (zsI w15M 336 3 (1 : Int32))) (zPD.fr (zPD.fr w13PD (w14F.eq rfl) w14J) (w15F.eq rfl) w15J) (zEq.put rfl) rfl) (zPV.fr (M' := (zsI w15M 336 3 (1 : Int32))) (zPV.fr w14PV (w15F.eq rfl)) (zEq.put rfl)) ⟨_, _, _, ⟨by omega, d2⟩, d3, d4, d6, zTms.fr d5 ((((((zFr.refl).trans (w13F.mono rfl)).trans (w14F.mono rfl)).trans (w15F.mono rfl)).put rfl).eq (W := [(351, 354, none), (358, 358, none), (336, 336, some 37), (356, 356, none), (355, 355, none), (343, 343, none), (344, 344, none), (336, 336, some 39), (359, 359, none), (336, 336, some 3)]) rfl)⟩ (by omega))
  · refine zs_if_eqF (pc := 4) t268_4 rfl (by omega) ?_
    have w21 : (zI M 336 3).toInt = (zI M 336 3).toInt := (congrArg Int32.toInt rfl).trans rfl
    exact zs_vret (pc := 7) t268_7 mr268 (hQ _ hs hI (zFr.refl) pF (pF (by omega)).1 (pF (by omega)).2 (x2 (by omega)) (by omega))
