theorem Y322 {X : zX} {l : Launch} {M : zM} {Q : Option Value → zM → Prop} (hs : zSk zMm M) (hI : zIv mLo mHi M) {F : Nat → Int} (pR : zPR M) (pC : zPC M) (pF : zPF M) (x0 : zRw M 0 F) (x1 : zWF F) (x2 : zKnB M F) (hQ : ∀ (M' : zM) (v : Int32), zSk zMm M' → zIv mLo mHi M' → zFr [(336, 336, some 3), (336, 336, some 18), (336, 336, some 19), (336, 336, some 20), (336, 336, some 21), (336, 336, some 22), (336, 336, some 37), (336, 336, some 39), (336, 336, some 42), (336, 336, some 43), (336, 336, some 44), (336, 336, some 45), (342, 361, none)] M M' → zPR M' → zPC M' → zPF M' → (zKnB M' F) → (pWk F v.toInt) → Q (some (.int v)) M') : zCall X l 7 0 0 322 [.ref 336] M Q := by
  refine zs_in (by decide) mf322 (Nat.le_of_ble_eq_true rfl) ?_
  show zGo X l 7 0 0 322 0 [(0, .ref 336)] [] M _
  have f1 := x1.1
  have f3 := x1.2.2.2
  have w1 := ibA0 hI
  have w2 : (zI M 337 0).toInt = (zI M 337 0).toInt := (congrArg Int32.toInt rfl).trans rfl
  have e0 : (zI M 337 0).toInt = F 0 := x0.at (by decide) (by decide) (by decide)
  have w3 := ibA1 hI
  have w4 : (zI M 337 1).toInt = (zI M 337 1).toInt := (congrArg Int32.toInt rfl).trans rfl
  have e1 : (zI M 337 1).toInt = F 1 := x0.at (by decide) (by decide) (by decide)
  have w5 := ibA2 hI
  have w6 : (zI M 337 2).toInt = (zI M 337 2).toInt := (congrArg Int32.toInt rfl).trans rfl
  have e2 : (zI M 337 2).toInt = F 2 := x0.at (by decide) (by decide) (by decide)
  refine zs_aload_n (pc := 0) t322_0 rfl ?_
  refine zs_invV (pc := 1) (k := 336) (as' := []) (st := []) t322_1 mf268 rfl rfl (Or.inl ⟨by decide, (zk1 (hs.k fk_zMm_336))⟩) ⟨by decide, by decide, Nat.le_of_ble_eq_true rfl, Nat.le_of_ble_eq_true rfl⟩ (U268 hs hI pR pF x0 x1 x2 ?_) (fun _ _ q => q)
  intro w7M w7s w7I w7F w7PF w7PD w7PV w7x0 w7x1
  show zGo X l 7 0 0 322 4 [(0, .ref 336)] [] w7M _
  have w7kb : zKnB w7M F := fun _ => w7x0
  obtain ⟨w7m, w7τ, w7tk, w7m4, w7m20, w7tm⟩ := zPicB.tk w7x0
  refine zs_aload_n (pc := 4) t322_4 rfl ?_
  refine zs_iconst (pc := 5) t322_5 (v := -1) (by decide) ?_
  refine zs_invV (pc := 6) (k := 336) (as' := [.int (-1 : Int32)]) (st := []) t322_6 mf290 rfl rfl (Or.inl ⟨by decide, (zk1 (w7s.k fk_zMm_336))⟩) ⟨by decide, by decide, Nat.le_of_ble_eq_true rfl, Nat.le_of_ble_eq_true rfl⟩ (R290n w7s w7I (zRw.fr' x0 (fun j hj => (w7F 337 j rfl))) x1 ?_) (fun _ _ q => q)
  intro w8v w8x0
  have w8g := zrg w8v
  show zGo X l 7 0 0 322 9 [(0, .ref 336)] [.int w8v] w7M _
  refine zs_iconst (pc := 9) t322_9 (v := 2) (by decide) ?_
  refine zs_aload_n (pc := 10) t322_10 rfl ?_
  refine zs_get (pc := 11) t322_11 (by decide) (zk1 (w7s.k fk_zMm_336)) (w7s.p rfl fv_zMm_336_0) ?_
  refine zs_iconst (pc := 14) t322_14 (v := 5) (by decide) ?_
  have w9 := ibA5 hI
  have w10 : (zI M 337 5).toInt = F 5 := x0.at (by decide) (by decide) (by decide)
  refine zs_iald (pc := 15) t322_15 (j := 5) (by decide) (zk1 (w7s.k fk_zMm_337)) li5 (zk2 (w7s.k fk_zMm_337) (by decide)) ((w7F 337 5 rfl).trans rfl) ?_
  obtain ⟨w11v, w11⟩ : ∃ v, (2 : Int32) * (zI M 337 5) = v := ⟨_, rfl⟩
  have w11g : w11v.toInt = 2 * (zI M 337 5).toInt := by rw [← w11]; exact zmulc li2 rfl (by omega) (by omega)
  refine zs_imul (pc := 16) t322_16 (c := w11v) w11 ?_
  refine zs_iconst (pc := 17) t322_17 (v := 1) (by decide) ?_
  obtain ⟨w12v, w12e, w12⟩ := ziadd (a := w11v) (b := (1 : Int32)) w11g li1 (by omega) (by omega)
  refine zs_iadd (pc := 18) t322_18 (c := w12v) w12e ?_
  obtain ⟨w13v, w13⟩ : ∃ v, w8v * w12v = v := ⟨_, rfl⟩
  have w13g := zrg w13v
  refine zs_imul (pc := 19) t322_19 (c := w13v) w13 ?_
  refine zs_iconst (pc := 20) t322_20 (v := 2) (by decide) ?_
  refine zs_aload_n (pc := 21) t322_21 rfl ?_
  refine zs_get (pc := 22) t322_22 (by decide) (zk1 (w7s.k fk_zMm_336)) (w7s.p rfl fv_zMm_336_0) ?_
  refine zs_bipush (pc := 25) t322_25 (v := 6) (by decide) ?_
  have w14 := ibA6 hI
  have w15 : (zI M 337 6).toInt = F 6 := x0.at (by decide) (by decide) (by decide)
  refine zs_iald (pc := 27) t322_27 (j := 6) (by decide) (zk1 (w7s.k fk_zMm_337)) li6 (zk2 (w7s.k fk_zMm_337) (by decide)) ((w7F 337 6 rfl).trans rfl) ?_
  obtain ⟨w16v, w16⟩ : ∃ v, (2 : Int32) * (zI M 337 6) = v := ⟨_, rfl⟩
  have w16g : w16v.toInt = 2 * (zI M 337 6).toInt := by rw [← w16]; exact zmulc li2 rfl (by omega) (by omega)
  refine zs_imul (pc := 28) t322_28 (c := w16v) w16 ?_
  refine zs_iconst (pc := 29) t322_29 (v := 1) (by decide) ?_
  obtain ⟨w17v, w17e, w17⟩ := ziadd (a := w16v) (b := (1 : Int32)) w16g li1 (by omega) (by omega)
  refine zs_iadd (pc := 30) t322_30 (c := w17v) w17e ?_
  obtain ⟨w18v, w18⟩ : ∃ v, w13v * w17v = v := ⟨_, rfl⟩
  have w18g := zrg w18v
  refine zs_imul (pc := 31) t322_31 (c := w18v) w18 ?_
  refine zs_bipush (pc := 32) t322_32 (v := 10) (by decide) ?_
  refine zs_aload_n (pc := 34) t322_34 rfl ?_
  have w19 := ib336_22 w7I
  refine zs_get (pc := 35) t322_35 (by decide) (zk1 (w7s.k fk_zMm_336)) (zfvi rfl rfl) ?_
  obtain ⟨w20v, w20⟩ : ∃ v, (10 : Int32) * (zI w7M 336 22) = v := ⟨_, rfl⟩
  have w20g : w20v.toInt = 10 * (zI w7M 336 22).toInt := by rw [← w20]; exact zmulc li10 rfl (by omega) (by omega)
  refine zs_imul (pc := 38) t322_38 (c := w20v) w20 ?_
  obtain ⟨w21v, w21⟩ : ∃ v, v = w18v + w20v := ⟨_, rfl⟩
  have w21g := zrg w21v
  refine zs_iadd (pc := 39) t322_39 (c := w21v) w21.symm ?_
  have w22 : w8v = Int32.ofInt (pct (zctb F) (F 1).toNat) := zi32 ((rfl : w8v.toInt = w8v.toInt).trans (by omega))
  have w23 : w12v = Int32.ofInt (2 * F 5 + 1) := zi32 ((w12 : w12v.toInt = ((2 * (zI M 337 5).toInt) + 1)).trans (by omega))
  have w24 : w17v = Int32.ofInt (2 * F 6 + 1) := zi32 ((w17 : w17v.toInt = ((2 * (zI M 337 6).toInt) + 1)).trans (by omega))
  have w25 : (zI w7M 336 22) = Int32.ofInt ((w7m : Int)) := zi32 ((rfl : (zI w7M 336 22).toInt = (zI w7M 336 22).toInt).trans (by omega))
  exact zs_iret (pc := 40) t322_40 mr322 rfl (hQ _ _ w7s w7I ((zFr.refl).trans (w7F.mono rfl)) (zPR.fr pR (w7F.eq rfl)) (zPC.fr pC (w7F.eq rfl)) w7PF w7kb ⟨_, _, w7tk, congrArg Int32.toInt (by rw [w21, ← w18, ← w13, ← w20, w22, w23, w24, w25]; rfl)⟩)
theorem O234 {X : zX} {l : Launch} {M : zM} {Q : Option Value → zM → Prop} (hs : zSk zMm M) (hI : zIv mLo mHi M) {F : Nat → Int} (x0 : zRw M 0 F) (x1 : zWF F) (hQ : ∀ v : Int32, (v.toInt = (zI M 336 7).toInt) → Q (some (.int v)) M) : zCall X l 0 0 0 234 [.ref 336] M Q := by
  refine zs_in (by decide) mf234 (Nat.le_of_ble_eq_true rfl) ?_
  show zGo X l 0 0 0 234 0 [(0, .ref 336)] [] M _
  have f1 := x1.1
  have f3 := x1.2.2.2
  have w1 := ibA0 hI
  have w2 : (zI M 337 0).toInt = (zI M 337 0).toInt := (congrArg Int32.toInt rfl).trans rfl
  have e0 : (zI M 337 0).toInt = F 0 := x0.at (by decide) (by decide) (by decide)
  have w3 := ibA1 hI
  have w4 : (zI M 337 1).toInt = (zI M 337 1).toInt := (congrArg Int32.toInt rfl).trans rfl
  have e1 : (zI M 337 1).toInt = F 1 := x0.at (by decide) (by decide) (by decide)
  have w5 := ibA2 hI
  have w6 : (zI M 337 2).toInt = (zI M 337 2).toInt := (congrArg Int32.toInt rfl).trans rfl
  have e2 : (zI M 337 2).toInt = F 2 := x0.at (by decide) (by decide) (by decide)
  refine zs_aload_n (pc := 0) t234_0 rfl ?_
  have w7 := ib336_7 hI
  refine zs_get (pc := 1) t234_1 (by decide) (zk1 (hs.k fk_zMm_336)) (zfvi rfl rfl) ?_
  exact zs_iret (pc := 4) t234_4 mr234 rfl (hQ _ (by omega))
