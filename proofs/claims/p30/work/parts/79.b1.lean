theorem R240 {X : zX} {l : Launch} {M : zM} {Q : Option Value → zM → Prop} (hs : zSk zMm M) (hI : zIv mLo mHi M) {F : Nat → Int} {gg : Nat → Int} {nn : Int} (pR : zPR M) (pC : zPC M) (u0 : (zI M 337 0).toInt < 8) (u1 : (zI M 336 6).toInt ≤ (zI M 336 5).toInt) (u2 : 0 ≤ (zI M 336 6).toInt) (u3 : (zI M 336 7).toInt = -1) (x0 : zRw M 0 F) (x1 : zTm M gg nn) (x2 : zWF F) (hQ : ∀ (M' : zM) (v : Int32), zSk zMm M' → zIv mLo mHi M' → zFr [(336, 336, some 6), (336, 336, some 7), (336, 336, some 8), (337, 337, none)] M M' → zJ M' 351 = zJ M 351 → zUp M M' → zPR M' → zPC M' → ((zI M 336 6).toInt ≤ (zI M' 336 6).toInt) → ((v.toInt = 1 ∧ (zI M' 336 7).toInt = (zI M 336 7).toInt) ∨ (v.toInt = 0 ∧ 0 ≤ (zI M' 336 7).toInt)) → (∀ p : Nat, (zI M 336 6).toInt = (p : Int) → (v.toInt = 1 ∧ ∃ (q : Nat) (F2 : Nat → Int), (pB (pRd gg p (pLo F) 999 59) fun q x => some (q, pLay F x)) = some (q, F2) ∧ (zI M' 336 6).toInt = (q : Int) ∧ p < q ∧ (q : Int) ≤ nn ∧ (zI M' 336 7).toInt = -1 ∧ zRw M' 0 F2 ∧ zWF F2) ∨ (v.toInt = 0 ∧ (zI M' 336 7).toInt ≠ -1 ∧ (pB (pRd gg p (pLo F) 999 59) fun q x => some (q, pLay F x)) = none)) → 0 ≤ v.toInt → v.toInt ≤ 1 → Q (some (.int v)) M') : zCall X l 4 0 0 240 [.ref 336] M Q := by
  refine zs_in (by decide) mf240 (Nat.le_of_ble_eq_true rfl) ?_
  show zGo X l 4 0 0 240 0 [(0, .ref 336)] [] M _
  have hn := x1.2
  have w1 := ib336_5 hI
  have w2 : (zI M 336 5).toInt = (zI M 336 5).toInt := (congrArg Int32.toInt rfl).trans rfl
  have w3 := ib336_6 hI
  have w4 : (zI M 336 6).toInt = (zI M 336 6).toInt := (congrArg Int32.toInt rfl).trans rfl
  have w5 := ib336_7 hI
  have w6 : (zI M 336 7).toInt = (zI M 336 7).toInt := (congrArg Int32.toInt rfl).trans rfl
  obtain ⟨w7n, w7⟩ : ∃ n : Nat, (zI M 336 6).toInt = (n : Int) := ⟨((zI M 336 6).toInt).toNat, by omega⟩
  have f1 := x2.1
  have f3 := x2.2.2.2
  have w8 := ibA0 hI
  have w9 : (zI M 337 0).toInt = (zI M 337 0).toInt := (congrArg Int32.toInt rfl).trans rfl
  have e0 : (zI M 337 0).toInt = F 0 := x0.at (by decide) (by decide) (by decide)
  have w10 := ibA1 hI
  have w11 : (zI M 337 1).toInt = (zI M 337 1).toInt := (congrArg Int32.toInt rfl).trans rfl
  have e1 : (zI M 337 1).toInt = F 1 := x0.at (by decide) (by decide) (by decide)
  have w12 := ibA2 hI
  have w13 : (zI M 337 2).toInt = (zI M 337 2).toInt := (congrArg Int32.toInt rfl).trans rfl
  have e2 : (zI M 337 2).toInt = F 2 := x0.at (by decide) (by decide) (by decide)
  refine zs_aload_n (pc := 0) t240_0 rfl ?_
  refine zs_get (pc := 1) t240_1 (by decide) (zk1 (hs.k fk_zMm_336)) (hs.p rfl fv_zMm_336_0) ?_
  refine zs_iconst (pc := 4) t240_4 (v := 0) (by decide) ?_
  have w14 : (zI M 337 0).toInt = F 0 := x0.at (by decide) (by decide) (by decide)
  refine zs_iald (pc := 5) t240_5 (j := 0) (by decide) (zk1 (hs.k fk_zMm_337)) li0 (zk2 (hs.k fk_zMm_337) (by decide)) rfl ?_
  refine zs_istore_n (pc := 6) t240_6 (ls' := [(1, .int (zI M 337 0)), (0, .ref 336)]) (zml mf240 (by decide)) rfl ?_
  refine zs_aload_n (pc := 7) t240_7 rfl ?_
  refine zs_bipush (pc := 8) t240_8 (v := 14) (by decide) ?_
  refine zs_iconst (pc := 10) t240_10 (v := 2) (by decide) ?_
  refine zs_iload_n (pc := 11) t240_11 rfl ?_
  obtain ⟨w15v, w15⟩ : ∃ v, (2 : Int32) * (zI M 337 0) = v := ⟨_, rfl⟩
  have w15g : w15v.toInt = 2 * (zI M 337 0).toInt := by rw [← w15]; exact zmulc li2 rfl (by omega) (by omega)
  refine zs_imul (pc := 12) t240_12 (c := w15v) w15 ?_
  obtain ⟨w16v, w16e, w16⟩ := ziadd (a := (14 : Int32)) (b := w15v) li14 w15g (by omega) (by omega)
  refine zs_iadd (pc := 13) t240_13 (c := w16v) w16e ?_
  refine zs_iload_n (pc := 14) t240_14 rfl ?_
  by_cases w17 : (zI M 337 0).toInt ≠ 0
  · refine zs_if_neT (pc := 15) t240_15 rfl (by omega) ?_
    refine zs_aload_n (pc := 22) t240_22 rfl ?_
    refine zs_iload_n (pc := 23) t240_23 rfl ?_
    refine zs_iconst (pc := 24) t240_24 (v := 1) (by decide) ?_
    obtain ⟨w18v, w18e, w18⟩ := zisub (a := (zI M 337 0)) (b := (1 : Int32)) rfl li1 (by omega) (by omega)
    refine zs_isub (pc := 25) t240_25 (c := w18v) w18e ?_
    refine zs_invV (pc := 26) (k := 336) (as' := [.int w18v]) (st := [.int w16v, .ref 336]) t240_26 mf241 rfl rfl (Or.inl ⟨by decide, (zk1 (hs.k fk_zMm_336))⟩) ⟨by decide, by decide, Nat.le_of_ble_eq_true rfl, Nat.le_of_ble_eq_true rfl⟩ (zs_in (by decide) mf241 (Nat.le_of_ble_eq_true rfl) ?_) (fun _ _ q => q)
    show zGo X l 0 0 0 241 0 [(0, .ref 336), (1, .int w18v)] [] M _
    refine zs_aload_n (pc := 0) t241_0 rfl ?_
    refine zs_get (pc := 1) t241_1 (by decide) (zk1 (hs.k fk_zMm_336)) (hs.p rfl fv_zMm_336_0) ?_
    refine zs_bipush (pc := 4) t241_4 (v := 14) (by decide) ?_
    refine zs_iconst (pc := 6) t241_6 (v := 2) (by decide) ?_
    refine zs_iload_n (pc := 7) t241_7 rfl ?_
    obtain ⟨w19v, w19⟩ : ∃ v, (2 : Int32) * w18v = v := ⟨_, rfl⟩
    have w19g : w19v.toInt = 2 * ((zI M 337 0).toInt - 1) := by rw [← w19]; exact zmulc li2 w18 (by omega) (by omega)
    refine zs_imul (pc := 8) t241_8 (c := w19v) w19 ?_
    obtain ⟨w20v, w20e, w20⟩ := ziadd (a := (14 : Int32)) (b := w19v) li14 w19g (by omega) (by omega)
    refine zs_iadd (pc := 9) t241_9 (c := w20v) w20e ?_
    obtain ⟨w21n, w21⟩ : ∃ n : Nat, (zI M 337 0).toInt = (n : Int) := ⟨((zI M 337 0).toInt).toNat, by omega⟩
    have w22 := ibX (j := (12 + 2 * w21n)) hI (by omega) (by omega) (by omega)
    have w23 : (zI M 337 (12 + 2 * w21n)).toInt = F (12 + 2 * w21n) := x0.at (by omega) (by omega) (by omega)
    refine zs_iald (pc := 10) t241_10 (j := (12 + 2 * w21n)) (by decide) (zk1 (hs.k fk_zMm_337)) (show w20v.toInt = (((12 + 2 * w21n) : Nat) : Int) by omega) (zk2 (hs.k fk_zMm_337) (by omega)) rfl ?_
    refine zs_iret (pc := 11) t241_11 mr241 rfl ?_
    show zGo X l 4 0 0 240 29 [(1, .int (zI M 337 0)), (0, .ref 336)] [.int (zI M 337 (12 + 2 * w21n)), .int w16v, .ref 336] M _
    refine zs_iconst (pc := 29) t240_29 (v := 1) (by decide) ?_
    obtain ⟨w24v, w24e, w24⟩ := ziadd (a := (zI M 337 (12 + 2 * w21n))) (b := (1 : Int32)) rfl li1 (by omega) (by omega)
    refine zs_iadd (pc := 30) t240_30 (c := w24v) w24e ?_
    refine zs_sipush (pc := 31) t240_31 (v := 999) (by decide) ?_
    refine zs_bipush (pc := 34) t240_34 (v := 59) (by decide) ?_
    have w25 : (zI M 336 6).toInt = (zI M 336 6).toInt := (congrArg Int32.toInt rfl).trans rfl
    have w26 : w16v.toInt = (14 + (2 * (zI M 337 0).toInt)) := w16
    have w27 : w24v.toInt = ((zI M 337 (12 + 2 * w21n)).toInt + 1) := w24
    have w28 : (999 : Int32).toInt = 999 := li999
    have w29 : (59 : Int32).toInt = 59 := li59
    have w30 : (zI M 336 5).toInt = (zI M 336 5).toInt := (congrArg Int32.toInt rfl).trans rfl
    have w31 : (zI M 337 0).toInt = (zI M 337 0).toInt := (congrArg Int32.toInt rfl).trans rfl
    have w32 : (zI M 336 6).toInt = (zI M 336 6).toInt := (congrArg Int32.toInt rfl).trans rfl
    have w33 : (zI M 336 7).toInt = (zI M 336 7).toInt := (congrArg Int32.toInt rfl).trans rfl
    have w34 : (zI M 337 1).toInt = (zI M 337 1).toInt := (congrArg Int32.toInt rfl).trans rfl
    have w35 : (zI M 337 0).toInt = (zI M 337 0).toInt := (congrArg Int32.toInt rfl).trans rfl
    have w36 : (zI M 337 2).toInt = (zI M 337 2).toInt := (congrArg Int32.toInt rfl).trans rfl
    have w37 : (zI M 336 6).toInt = (zI M 336 6).toInt := (congrArg Int32.toInt rfl).trans rfl
    have w38 : (zI M 336 7).toInt = (zI M 336 7).toInt := (congrArg Int32.toInt rfl).trans rfl
    have w39 : (zI M 337 1).toInt = (zI M 337 1).toInt := (congrArg Int32.toInt rfl).trans rfl
    have w41 : w24v.toInt = ((zI M 337 (12 + 2 * w21n)).toInt + 1) := w24
    have w42 : (999 : Int32).toInt = 999 := li999
    have w43 : w16v.toInt = (14 + (2 * (zI M 337 0).toInt)) := w16
    have w40 := aX (p := w16v.toInt.toNat) (by omega) (by omega) (by omega)
    refine zs_invV (pc := 36) (k := 336) (as' := [.int w16v, .int w24v, .int (999 : Int32), .int (59 : Int32)]) (st := []) t240_36 mf242 rfl rfl (Or.inl ⟨by decide, (zk1 (hs.k fk_zMm_336))⟩) ⟨by decide, by decide, Nat.le_of_ble_eq_true rfl, Nat.le_of_ble_eq_true rfl⟩ (R242 hs hI pR pC ⟨by omega, by omega⟩ ⟨by decide, by decide⟩ (by omega) (by omega) (by omega) (by omega) (by omega) (by rw [w40.1, w40.2]; exact ⟨by omega, by omega⟩) x0 x1 ?_) (fun _ _ q => q)
    intro w44M w44v w44s w44I w44F w44J w44U w44PR w44PC w44t0 w44t1 w44t2 w44t3 w44t4 w44x0 w44x1 w44x2 w44a w44b
    have w45 := ibA0 w44I
    have w46 := ibA2 w44I
    have w47 := ib336_6 w44I
    have w48 := ib336_7 w44I
    have w49 := ibA1 w44I
    show zGo X l 4 0 0 240 39 [(1, .int (zI M 337 0)), (0, .ref 336)] [.int w44v] w44M _
    have w51 : w16v.toInt = (14 + (2 * (zI M 337 0).toInt)) := w16
    have w52 : w24v.toInt = ((zI M 337 (12 + 2 * w21n)).toInt + 1) := w24
    have w53 : (999 : Int32).toInt = 999 := li999
    have w54 : (59 : Int32).toInt = 59 := li59
    rcases w44x2 w7n (by omega) with ⟨w50v, w50q, w50x, w50_1, w50_2, w50_3, w50_4, w50_5, w50_6, w50_7, w50r⟩ | ⟨w50v, w50_5, w50z⟩
    · skip
      refine zs_if_neF (pc := 39) t240_39 rfl (by omega) ?_
      refine zs_iconst (pc := 42) t240_42 (v := 0) (by decide) ?_
      have w55 : (zI w44M 336 7).toInt = (zI w44M 336 7).toInt := (congrArg Int32.toInt rfl).trans rfl
      have w56 : (zI w44M 336 6).toInt = (zI w44M 336 6).toInt := (congrArg Int32.toInt rfl).trans rfl
      have w57 := li0
      have w58 : (zI w44M 336 6).toInt = (zI w44M 336 6).toInt := (congrArg Int32.toInt rfl).trans rfl
      have w59 : (zI w44M 336 7).toInt = (zI w44M 336 7).toInt := (congrArg Int32.toInt rfl).trans rfl
      have w60 : F 0 = 0 → pLo F = 1 := fun q => pLo.z q
      exact zs_iret (pc := 43) t240_43 mr240 (by decide) (hQ _ _ w44s w44I ((zFr.refl).trans (w44F.mono rfl)) w44J ((zUp.refl).trans w44U) w44PR w44PC (by omega) (by omega) (fun p hp => by obtain rfl : w7n = p := (by omega); exact Or.inr ⟨by first | decide | omega, by omega, (pB.f (by have z := w50z; rw [show w24v.toInt = pLo F by first | decide | omega, show (999 : Int32).toInt = 999 by first | decide | omega, show (59 : Int32).toInt = 59 by first | decide | omega] at z; exact z))⟩) (by decide) (by decide))
    · skip
      rw [show w16v.toInt.toNat = (14 + 2 * w21n) by omega] at w50r
      refine zs_if_neT (pc := 39) t240_39 rfl (by omega) ?_
      refine zs_aload_n (pc := 44) t240_44 rfl ?_
      refine zs_get (pc := 45) t240_45 (by decide) (zk1 (w44s.k fk_zMm_336)) (w44s.p rfl fv_zMm_336_0) ?_
      refine zs_bipush (pc := 48) t240_48 (v := 14) (by decide) ?_
      refine zs_iconst (pc := 50) t240_50 (v := 2) (by decide) ?_
      refine zs_iload_n (pc := 51) t240_51 rfl ?_
      obtain ⟨w61v, w61⟩ : ∃ v, (2 : Int32) * (zI M 337 0) = v := ⟨_, rfl⟩
      have w61g : w61v.toInt = 2 * (zI M 337 0).toInt := by rw [← w61]; exact zmulc li2 rfl (by omega) (by omega)
      refine zs_imul (pc := 52) t240_52 (c := w61v) w61 ?_
      obtain ⟨w62v, w62e, w62⟩ := ziadd (a := (14 : Int32)) (b := w61v) li14 w61g (by omega) (by omega)
      refine zs_iadd (pc := 53) t240_53 (c := w62v) w62e ?_
      refine zs_iconst (pc := 54) t240_54 (v := 1) (by decide) ?_
      obtain ⟨w63v, w63e, w63⟩ := ziadd (a := w62v) (b := (1 : Int32)) w62 li1 (by omega) (by omega)
      refine zs_iadd (pc := 55) t240_55 (c := w63v) w63e ?_
      refine zs_iconst (pc := 56) t240_56 (v := 1) (by decide) ?_
      have w64a := aN (p := (15 + 2 * w21n)) (by omega)
      have w64 : zIv mLo mHi (zsI w44M 337 (15 + 2 * w21n) (1 : Int32)) := zIv.putA w44I (by omega) (by rw [w64a.1, w64a.2]; exact zrg (1 : Int32))
      have w65 : (zI w44M 337 0).toInt = (zI w44M 337 0).toInt := (congrArg Int32.toInt rfl).trans rfl
      have w66 : (zI w44M 337 1).toInt = (zI w44M 337 1).toInt := (congrArg Int32.toInt rfl).trans rfl
      have w67 : zPR (zsI w44M 337 (15 + 2 * w21n) (1 : Int32)) := zPR.put w44PR (by omega) (by omega) (by omega) (by omega)
      have w68 : zPC (zsI w44M 337 (15 + 2 * w21n) (1 : Int32)) := zPC.put w44PC (by omega) (by omega)
      have w69 : zRw (zsI w44M 337 (15 + 2 * w21n) (1 : Int32)) 0 (uS (uS F (14 + 2 * w21n) w50x) (15 + 2 * w21n) 1) := zRw.put w50r (by decide)
      refine zs_iast (pc := 57) t240_57 (j := (15 + 2 * w21n)) (by decide) (zk1 (w44s.k fk_zMm_337)) (show w63v.toInt = (((15 + 2 * w21n) : Nat) : Int) by omega) (zk2 (w44s.k fk_zMm_337) (by omega)) ?_
      refine zs_aload_n (pc := 58) t240_58 rfl ?_
      refine zs_get (pc := 59) t240_59 (by decide) (zk1 (w44s.k fk_zMm_336)) (w44s.p rfl fv_zMm_336_0) ?_
      refine zs_iconst (pc := 62) t240_62 (v := 0) (by decide) ?_
      refine zs_dup2 (pc := 63) t240_63 ⟨rfl, rfl⟩ ?_
      have w70 : (zI w44M 337 0).toInt = (uS F (14 + 2 * w21n) w50x) 0 := w50r.at (by decide) (by decide) (by decide)
      refine zs_iald (pc := 64) t240_64 (j := 0) (by decide) (zk1 (w44s.k fk_zMm_337)) li0 (zk2 (w44s.k fk_zMm_337) (by decide)) ((zIoj (by omega)).trans rfl) ?_
      refine zs_iconst (pc := 65) t240_65 (v := 1) (by decide) ?_
      obtain ⟨w71v, w71e, w71⟩ := ziadd (a := (zI w44M 337 0)) (b := (1 : Int32)) rfl li1 (by omega) (by omega)
      refine zs_iadd (pc := 66) t240_66 (c := w71v) w71e ?_
      have w72 : zIv mLo mHi (zsI (zsI w44M 337 (15 + 2 * w21n) (1 : Int32)) 337 0 w71v) := zIv.putA w64 (by decide) (show 0 ≤ w71v.toInt ∧ w71v.toInt ≤ 8 from ⟨by omega, by omega⟩)
      have w73 : (zI (zsI w44M 337 (15 + 2 * w21n) (1 : Int32)) 337 0).toInt = (zI w44M 337 0).toInt := (congrArg Int32.toInt ((zIoj (by omega)).trans rfl)).trans rfl
      obtain ⟨w74n, w74⟩ : ∃ n : Nat, (zI w44M 337 0).toInt = (n : Int) := ⟨((zI w44M 337 0).toInt).toNat, by omega⟩
      have w75 : w71v.toInt = ((zI w44M 337 0).toInt + 1) := w71
      have w44q := w44x1.resolve_left (by omega) (14 + 2 * w21n) (by omega)
      have w44e := w24
      have w76 : zPR (zsI (zsI w44M 337 (15 + 2 * w21n) (1 : Int32)) 337 0 w71v) := zPR.lay (n := w21n) w67 (by omega) (by omega) (Or.inr (by rw [zIoj (by omega), zIoj (by omega), w44x0 (14 + 2 * (w21n - 1)) (by omega), show 14 + 2 * (w21n - 1) = 12 + 2 * w21n by omega]; omega))
      have w77 : zPC (zsI (zsI w44M 337 (15 + 2 * w21n) (1 : Int32)) 337 0 w71v) := zPC.put w68 (by decide) (by decide)
      have w78 : zRw (zsI (zsI w44M 337 (15 + 2 * w21n) (1 : Int32)) 337 0 w71v) 0 (uS (uS (uS F (14 + 2 * w21n) w50x) (15 + 2 * w21n) 1) 0 (F 0 + 1)) := zRw.put w69 (by omega)
      refine zs_iast (pc := 67) t240_67 (j := 0) (by decide) (zk1 (w44s.k fk_zMm_337)) li0 (zk2 (w44s.k fk_zMm_337) (by decide)) ?_
      refine zs_iconst (pc := 68) t240_68 (v := 1) (by decide) ?_
      have w79 : (zI (zsI (zsI w44M 337 (15 + 2 * w21n) (1 : Int32)) 337 0 w71v) 336 7).toInt = (zI w44M 336 7).toInt := (congrArg Int32.toInt ((zIo (by decide)).trans ((zIo (by decide)).trans rfl))).trans rfl
      have w80 : (zI (zsI (zsI w44M 337 (15 + 2 * w21n) (1 : Int32)) 337 0 w71v) 336 6).toInt = (zI w44M 336 6).toInt := (congrArg Int32.toInt ((zIo (by decide)).trans ((zIo (by decide)).trans rfl))).trans rfl
      have w81 := li1
      have w82 : (zI (zsI (zsI w44M 337 (15 + 2 * w21n) (1 : Int32)) 337 0 w71v) 336 6).toInt = (zI w44M 336 6).toInt := (congrArg Int32.toInt ((zIo (by decide)).trans ((zIo (by decide)).trans rfl))).trans rfl
      have w83 : (zI (zsI (zsI w44M 337 (15 + 2 * w21n) (1 : Int32)) 337 0 w71v) 336 7).toInt = (zI w44M 336 7).toInt := (congrArg Int32.toInt ((zIo (by decide)).trans ((zIo (by decide)).trans rfl))).trans rfl
      have w84 : F 0 = 0 → pLo F = 1 := fun q => pLo.z q
      exact zs_iret (pc := 69) t240_69 mr240 (by decide) (hQ _ _ w44s w72 ((((zFr.refl).trans (w44F.mono rfl)).put rfl).put rfl) w44J ((((zUp.refl).trans w44U).put (Or.inr (by omega))).put (Or.inr (by decide))) w76 w77 (by omega) (by omega) (fun p hp => by obtain rfl : w7n = p := (by omega); exact Or.inl ⟨by first | decide | omega, w50q, _, (pB.y (by have z := w50_1; rw [show w24v.toInt = pLo F by first | decide | omega, show (999 : Int32).toInt = 999 by first | decide | omega, show (59 : Int32).toInt = 59 by first | decide | omega] at z; exact z)), by omega, by omega, by omega, by omega, (by unfold pLay; rw [show (F 0).toNat = w21n by omega]; exact w78), zWF.lay x2 (by omega) (by omega) (by omega)⟩) (by decide) (by decide))
  · refine zs_if_neF (pc := 15) t240_15 rfl (by omega) ?_
    refine zs_iconst (pc := 18) t240_18 (v := 1) (by decide) ?_
    refine zs_goto (pc := 19) t240_19 ?_
    refine zs_sipush (pc := 31) t240_31 (v := 999) (by decide) ?_
    refine zs_bipush (pc := 34) t240_34 (v := 59) (by decide) ?_
    have w85 : (zI M 336 6).toInt = (zI M 336 6).toInt := (congrArg Int32.toInt rfl).trans rfl
    have w86 : w16v.toInt = (14 + (2 * (zI M 337 0).toInt)) := w16
    have w87 : (1 : Int32).toInt = 1 := li1
    have w88 : (999 : Int32).toInt = 999 := li999
    have w89 : (59 : Int32).toInt = 59 := li59
    have w90 : (zI M 336 5).toInt = (zI M 336 5).toInt := (congrArg Int32.toInt rfl).trans rfl
    have w91 : (zI M 337 0).toInt = (zI M 337 0).toInt := (congrArg Int32.toInt rfl).trans rfl
    have w92 : (zI M 336 6).toInt = (zI M 336 6).toInt := (congrArg Int32.toInt rfl).trans rfl
    have w93 : (zI M 336 7).toInt = (zI M 336 7).toInt := (congrArg Int32.toInt rfl).trans rfl
    have w94 : (zI M 337 1).toInt = (zI M 337 1).toInt := (congrArg Int32.toInt rfl).trans rfl
    have w95 : (zI M 337 0).toInt = (zI M 337 0).toInt := (congrArg Int32.toInt rfl).trans rfl
    have w96 : (zI M 337 2).toInt = (zI M 337 2).toInt := (congrArg Int32.toInt rfl).trans rfl
    have w97 : (zI M 336 6).toInt = (zI M 336 6).toInt := (congrArg Int32.toInt rfl).trans rfl
    have w98 : (zI M 336 7).toInt = (zI M 336 7).toInt := (congrArg Int32.toInt rfl).trans rfl
    have w99 : (zI M 337 1).toInt = (zI M 337 1).toInt := (congrArg Int32.toInt rfl).trans rfl
    have w101 : (1 : Int32).toInt = 1 := li1
    have w102 : (999 : Int32).toInt = 999 := li999
    have w103 : w16v.toInt = (14 + (2 * (zI M 337 0).toInt)) := w16
    have w100 := aX (p := w16v.toInt.toNat) (by omega) (by omega) (by omega)
    refine zs_invV (pc := 36) (k := 336) (as' := [.int w16v, .int (1 : Int32), .int (999 : Int32), .int (59 : Int32)]) (st := []) t240_36 mf242 rfl rfl (Or.inl ⟨by decide, (zk1 (hs.k fk_zMm_336))⟩) ⟨by decide, by decide, Nat.le_of_ble_eq_true rfl, Nat.le_of_ble_eq_true rfl⟩ (R242 hs hI pR pC ⟨by omega, by omega⟩ ⟨by decide, by decide⟩ (by omega) (by omega) (by omega) (by omega) (by omega) (by rw [w100.1, w100.2]; exact ⟨by omega, by omega⟩) x0 x1 ?_) (fun _ _ q => q)
    intro w104M w104v w104s w104I w104F w104J w104U w104PR w104PC w104t0 w104t1 w104t2 w104t3 w104t4 w104x0 w104x1 w104x2 w104a w104b
    have w105 := ibA0 w104I
    have w106 := ibA2 w104I
    have w107 := ib336_6 w104I
    have w108 := ib336_7 w104I
    have w109 := ibA1 w104I
    show zGo X l 4 0 0 240 39 [(1, .int (zI M 337 0)), (0, .ref 336)] [.int w104v] w104M _
    have w111 : w16v.toInt = (14 + (2 * (zI M 337 0).toInt)) := w16
    have w112 : (1 : Int32).toInt = 1 := li1
    have w113 : (999 : Int32).toInt = 999 := li999
    have w114 : (59 : Int32).toInt = 59 := li59
    rcases w104x2 w7n (by omega) with ⟨w110v, w110q, w110x, w110_1, w110_2, w110_3, w110_4, w110_5, w110_6, w110_7, w110r⟩ | ⟨w110v, w110_5, w110z⟩
    · skip
      refine zs_if_neF (pc := 39) t240_39 rfl (by omega) ?_
      refine zs_iconst (pc := 42) t240_42 (v := 0) (by decide) ?_
      have w115 : (zI w104M 336 7).toInt = (zI w104M 336 7).toInt := (congrArg Int32.toInt rfl).trans rfl
      have w116 : (zI w104M 336 6).toInt = (zI w104M 336 6).toInt := (congrArg Int32.toInt rfl).trans rfl
      have w117 := li0
      have w118 : (zI w104M 336 6).toInt = (zI w104M 336 6).toInt := (congrArg Int32.toInt rfl).trans rfl
      have w119 : (zI w104M 336 7).toInt = (zI w104M 336 7).toInt := (congrArg Int32.toInt rfl).trans rfl
      have w120 : F 0 = 0 → pLo F = 1 := fun q => pLo.z q
      exact zs_iret (pc := 43) t240_43 mr240 (by decide) (hQ _ _ w104s w104I ((zFr.refl).trans (w104F.mono rfl)) w104J ((zUp.refl).trans w104U) w104PR w104PC (by omega) (by omega) (fun p hp => by obtain rfl : w7n = p := (by omega); exact Or.inr ⟨by first | decide | omega, by omega, (pB.f (by have z := w110z; rw [show (1 : Int32).toInt = pLo F by first | decide | omega, show (999 : Int32).toInt = 999 by first | decide | omega, show (59 : Int32).toInt = 59 by first | decide | omega] at z; exact z))⟩) (by decide) (by decide))
    · skip
      obtain ⟨w121n, w121⟩ : ∃ n : Nat, (zI M 337 0).toInt = (n : Int) := ⟨((zI M 337 0).toInt).toNat, by omega⟩
      rw [show w16v.toInt.toNat = (14 + 2 * w121n) by omega] at w110r
      refine zs_if_neT (pc := 39) t240_39 rfl (by omega) ?_
      refine zs_aload_n (pc := 44) t240_44 rfl ?_
      refine zs_get (pc := 45) t240_45 (by decide) (zk1 (w104s.k fk_zMm_336)) (w104s.p rfl fv_zMm_336_0) ?_
      refine zs_bipush (pc := 48) t240_48 (v := 14) (by decide) ?_
      refine zs_iconst (pc := 50) t240_50 (v := 2) (by decide) ?_
      refine zs_iload_n (pc := 51) t240_51 rfl ?_
      obtain ⟨w122v, w122⟩ : ∃ v, (2 : Int32) * (zI M 337 0) = v := ⟨_, rfl⟩
      have w122g : w122v.toInt = 2 * (zI M 337 0).toInt := by rw [← w122]; exact zmulc li2 rfl (by omega) (by omega)
      refine zs_imul (pc := 52) t240_52 (c := w122v) w122 ?_
      obtain ⟨w123v, w123e, w123⟩ := ziadd (a := (14 : Int32)) (b := w122v) li14 w122g (by omega) (by omega)
      refine zs_iadd (pc := 53) t240_53 (c := w123v) w123e ?_
      refine zs_iconst (pc := 54) t240_54 (v := 1) (by decide) ?_
      obtain ⟨w124v, w124e, w124⟩ := ziadd (a := w123v) (b := (1 : Int32)) w123 li1 (by omega) (by omega)
      refine zs_iadd (pc := 55) t240_55 (c := w124v) w124e ?_
      refine zs_iconst (pc := 56) t240_56 (v := 1) (by decide) ?_
      have w125a := aN (p := (15 + 2 * w121n)) (by omega)
      have w125 : zIv mLo mHi (zsI w104M 337 (15 + 2 * w121n) (1 : Int32)) := zIv.putA w104I (by omega) (by rw [w125a.1, w125a.2]; exact zrg (1 : Int32))
      have w126 : (zI w104M 337 0).toInt = (zI w104M 337 0).toInt := (congrArg Int32.toInt rfl).trans rfl
      have w127 : (zI w104M 337 1).toInt = (zI w104M 337 1).toInt := (congrArg Int32.toInt rfl).trans rfl
      have w128 : zPR (zsI w104M 337 (15 + 2 * w121n) (1 : Int32)) := zPR.put w104PR (by omega) (by omega) (by omega) (by omega)
      have w129 : zPC (zsI w104M 337 (15 + 2 * w121n) (1 : Int32)) := zPC.put w104PC (by omega) (by omega)
      have w130 : zRw (zsI w104M 337 (15 + 2 * w121n) (1 : Int32)) 0 (uS (uS F (14 + 2 * w121n) w110x) (15 + 2 * w121n) 1) := zRw.put w110r (by decide)
      refine zs_iast (pc := 57) t240_57 (j := (15 + 2 * w121n)) (by decide) (zk1 (w104s.k fk_zMm_337)) (show w124v.toInt = (((15 + 2 * w121n) : Nat) : Int) by omega) (zk2 (w104s.k fk_zMm_337) (by omega)) ?_
      refine zs_aload_n (pc := 58) t240_58 rfl ?_
      refine zs_get (pc := 59) t240_59 (by decide) (zk1 (w104s.k fk_zMm_336)) (w104s.p rfl fv_zMm_336_0) ?_
      refine zs_iconst (pc := 62) t240_62 (v := 0) (by decide) ?_
      refine zs_dup2 (pc := 63) t240_63 ⟨rfl, rfl⟩ ?_
      have w131 : (zI w104M 337 0).toInt = (uS F (14 + 2 * w121n) w110x) 0 := w110r.at (by decide) (by decide) (by decide)
      refine zs_iald (pc := 64) t240_64 (j := 0) (by decide) (zk1 (w104s.k fk_zMm_337)) li0 (zk2 (w104s.k fk_zMm_337) (by decide)) ((zIoj (by omega)).trans rfl) ?_
      refine zs_iconst (pc := 65) t240_65 (v := 1) (by decide) ?_
      obtain ⟨w132v, w132e, w132⟩ := ziadd (a := (zI w104M 337 0)) (b := (1 : Int32)) rfl li1 (by omega) (by omega)
      refine zs_iadd (pc := 66) t240_66 (c := w132v) w132e ?_
      have w133 : zIv mLo mHi (zsI (zsI w104M 337 (15 + 2 * w121n) (1 : Int32)) 337 0 w132v) := zIv.putA w125 (by decide) (show 0 ≤ w132v.toInt ∧ w132v.toInt ≤ 8 from ⟨by omega, by omega⟩)
      have w134 : (zI (zsI w104M 337 (15 + 2 * w121n) (1 : Int32)) 337 0).toInt = (zI w104M 337 0).toInt := (congrArg Int32.toInt ((zIoj (by omega)).trans rfl)).trans rfl
      obtain ⟨w135n, w135⟩ : ∃ n : Nat, (zI w104M 337 0).toInt = (n : Int) := ⟨((zI w104M 337 0).toInt).toNat, by omega⟩
      have w136 : w132v.toInt = ((zI w104M 337 0).toInt + 1) := w132
      have w137 : zPR (zsI (zsI w104M 337 (15 + 2 * w121n) (1 : Int32)) 337 0 w132v) := zPR.lay (n := w121n) w128 (by omega) (by omega) (Or.inl (by omega))
      have w138 : zPC (zsI (zsI w104M 337 (15 + 2 * w121n) (1 : Int32)) 337 0 w132v) := zPC.put w129 (by decide) (by decide)
      have w139 : zRw (zsI (zsI w104M 337 (15 + 2 * w121n) (1 : Int32)) 337 0 w132v) 0 (uS (uS (uS F (14 + 2 * w121n) w110x) (15 + 2 * w121n) 1) 0 (F 0 + 1)) := zRw.put w130 (by omega)
      refine zs_iast (pc := 67) t240_67 (j := 0) (by decide) (zk1 (w104s.k fk_zMm_337)) li0 (zk2 (w104s.k fk_zMm_337) (by decide)) ?_
      refine zs_iconst (pc := 68) t240_68 (v := 1) (by decide) ?_
      have w140 : (zI (zsI (zsI w104M 337 (15 + 2 * w121n) (1 : Int32)) 337 0 w132v) 336 7).toInt = (zI w104M 336 7).toInt := (congrArg Int32.toInt ((zIo (by decide)).trans ((zIo (by decide)).trans rfl))).trans rfl
      have w141 : (zI (zsI (zsI w104M 337 (15 + 2 * w121n) (1 : Int32)) 337 0 w132v) 336 6).toInt = (zI w104M 336 6).toInt := (congrArg Int32.toInt ((zIo (by decide)).trans ((zIo (by decide)).trans rfl))).trans rfl
      have w142 := li1
      have w143 : (zI (zsI (zsI w104M 337 (15 + 2 * w121n) (1 : Int32)) 337 0 w132v) 336 6).toInt = (zI w104M 336 6).toInt := (congrArg Int32.toInt ((zIo (by decide)).trans ((zIo (by decide)).trans rfl))).trans rfl
      have w144 : (zI (zsI (zsI w104M 337 (15 + 2 * w121n) (1 : Int32)) 337 0 w132v) 336 7).toInt = (zI w104M 336 7).toInt := (congrArg Int32.toInt ((zIo (by decide)).trans ((zIo (by decide)).trans rfl))).trans rfl
      have w145 : F 0 = 0 → pLo F = 1 := fun q => pLo.z q
      exact zs_iret (pc := 69) t240_69 mr240 (by decide) (hQ _ _ w104s w133 ((((zFr.refl).trans (w104F.mono rfl)).put rfl).put rfl) w104J ((((zUp.refl).trans w104U).put (Or.inr (by omega))).put (Or.inr (by decide))) w137 w138 (by omega) (by omega) (fun p hp => by obtain rfl : w7n = p := (by omega); exact Or.inl ⟨by first | decide | omega, w110q, _, (pB.y (by have z := w110_1; rw [show (1 : Int32).toInt = pLo F by first | decide | omega, show (999 : Int32).toInt = 999 by first | decide | omega, show (59 : Int32).toInt = 59 by first | decide | omega] at z; exact z)), by omega, by omega, by omega, by omega, (by unfold pLay; rw [show (F 0).toNat = w121n by omega]; exact w139), zWF.lay x2 (by omega) (by omega) (by omega)⟩) (by decide) (by decide))
theorem R247 {X : zX} {l : Launch} {M : zM} {Q : Option Value → zM → Prop} (hs : zSk zMm M) (hI : zIv mLo mHi M) {F : Nat → Int} {gg : Nat → Int} {nn : Int} (pR : zPR M) (pC : zPC M) (u0 : (zI M 337 1).toInt < 60) (u1 : (zI M 336 6).toInt ≤ (zI M 336 5).toInt) (u2 : 0 ≤ (zI M 336 6).toInt) (u3 : (zI M 336 7).toInt = -1) (x0 : zRw M 0 F) (x1 : zTm M gg nn) (x2 : zWF F) (hQ : ∀ (M' : zM) (v : Int32), zSk zMm M' → zIv mLo mHi M' → zFr [(336, 336, some 6), (336, 336, some 7), (336, 336, some 8), (337, 337, none)] M M' → zJ M' 351 = zJ M 351 → zUp M M' → zPR M' → zPC M' → ((zI M 336 6).toInt ≤ (zI M' 336 6).toInt) → ((v.toInt = 1 ∧ (zI M' 336 7).toInt = (zI M 336 7).toInt) ∨ (v.toInt = 0 ∧ 0 ≤ (zI M' 336 7).toInt)) → (∀ p : Nat, (zI M 336 6).toInt = (p : Int) → (v.toInt = 1 ∧ ∃ (q : Nat) (F2 : Nat → Int), (pB (pRd gg p 0 (F 0 - 1) 44) fun q x => pB (pRd gg q (-9999) 9999 44) fun q2 y => pB (pRd gg q2 0 999 59) fun q3 z => some (q3, pHit F x y z (-2))) = some (q, F2) ∧ (zI M' 336 6).toInt = (q : Int) ∧ p < q ∧ (q : Int) ≤ nn ∧ (zI M' 336 7).toInt = -1 ∧ zRw M' 0 F2 ∧ zWF F2) ∨ (v.toInt = 0 ∧ (zI M' 336 7).toInt ≠ -1 ∧ (pB (pRd gg p 0 (F 0 - 1) 44) fun q x => pB (pRd gg q (-9999) 9999 44) fun q2 y => pB (pRd gg q2 0 999 59) fun q3 z => some (q3, pHit F x y z (-2))) = none)) → 0 ≤ v.toInt → v.toInt ≤ 1 → Q (some (.int v)) M') : zCall X l 4 0 0 247 [.ref 336] M Q := by
  refine zs_in (by decide) mf247 (Nat.le_of_ble_eq_true rfl) ?_
  show zGo X l 4 0 0 247 0 [(0, .ref 336)] [] M _
  have hn := x1.2
  have w1 := ib336_5 hI
  have w2 : (zI M 336 5).toInt = (zI M 336 5).toInt := (congrArg Int32.toInt rfl).trans rfl
  have w3 := ib336_6 hI
  have w4 : (zI M 336 6).toInt = (zI M 336 6).toInt := (congrArg Int32.toInt rfl).trans rfl
  have w5 := ib336_7 hI
  have w6 : (zI M 336 7).toInt = (zI M 336 7).toInt := (congrArg Int32.toInt rfl).trans rfl
  obtain ⟨w7n, w7⟩ : ∃ n : Nat, (zI M 336 6).toInt = (n : Int) := ⟨((zI M 336 6).toInt).toNat, by omega⟩
  have f1 := x2.1
  have f3 := x2.2.2.2
  have w8 := ibA0 hI
  have w9 : (zI M 337 0).toInt = (zI M 337 0).toInt := (congrArg Int32.toInt rfl).trans rfl
  have e0 : (zI M 337 0).toInt = F 0 := x0.at (by decide) (by decide) (by decide)
  have w10 := ibA1 hI
  have w11 : (zI M 337 1).toInt = (zI M 337 1).toInt := (congrArg Int32.toInt rfl).trans rfl
  have e1 : (zI M 337 1).toInt = F 1 := x0.at (by decide) (by decide) (by decide)
  have w12 := ibA2 hI
  have w13 : (zI M 337 2).toInt = (zI M 337 2).toInt := (congrArg Int32.toInt rfl).trans rfl
  have e2 : (zI M 337 2).toInt = F 2 := x0.at (by decide) (by decide) (by decide)
  refine zs_bipush (pc := 0) t247_0 (v := 30) (by decide) ?_
  refine zs_iconst (pc := 2) t247_2 (v := 4) (by decide) ?_
  refine zs_aload_n (pc := 3) t247_3 rfl ?_
  refine zs_get (pc := 4) t247_4 (by decide) (zk1 (hs.k fk_zMm_336)) (hs.p rfl fv_zMm_336_0) ?_
  refine zs_iconst (pc := 7) t247_7 (v := 1) (by decide) ?_
  have w14 : (zI M 337 1).toInt = F 1 := x0.at (by decide) (by decide) (by decide)
  refine zs_iald (pc := 8) t247_8 (j := 1) (by decide) (zk1 (hs.k fk_zMm_337)) li1 (zk2 (hs.k fk_zMm_337) (by decide)) rfl ?_
  obtain ⟨w15v, w15⟩ : ∃ v, (4 : Int32) * (zI M 337 1) = v := ⟨_, rfl⟩
  have w15g : w15v.toInt = 4 * (zI M 337 1).toInt := by rw [← w15]; exact zmulc li4 rfl (by omega) (by omega)
  refine zs_imul (pc := 9) t247_9 (c := w15v) w15 ?_
  obtain ⟨w16v, w16e, w16⟩ := ziadd (a := (30 : Int32)) (b := w15v) li30 w15g (by omega) (by omega)
  refine zs_iadd (pc := 10) t247_10 (c := w16v) w16e ?_
  refine zs_istore_n (pc := 11) t247_11 (ls' := [(1, .int w16v), (0, .ref 336)]) (zml mf247 (by decide)) rfl ?_
  refine zs_aload_n (pc := 12) t247_12 rfl ?_
  refine zs_iload_n (pc := 13) t247_13 rfl ?_
  refine zs_iconst (pc := 14) t247_14 (v := 0) (by decide) ?_
  refine zs_aload_n (pc := 15) t247_15 rfl ?_
  refine zs_get (pc := 16) t247_16 (by decide) (zk1 (hs.k fk_zMm_336)) (hs.p rfl fv_zMm_336_0) ?_
  refine zs_iconst (pc := 19) t247_19 (v := 0) (by decide) ?_
  have w17 : (zI M 337 0).toInt = F 0 := x0.at (by decide) (by decide) (by decide)
  refine zs_iald (pc := 20) t247_20 (j := 0) (by decide) (zk1 (hs.k fk_zMm_337)) li0 (zk2 (hs.k fk_zMm_337) (by decide)) rfl ?_
  refine zs_iconst (pc := 21) t247_21 (v := 1) (by decide) ?_
  obtain ⟨w18v, w18e, w18⟩ := zisub (a := (zI M 337 0)) (b := (1 : Int32)) rfl li1 (by omega) (by omega)
  refine zs_isub (pc := 22) t247_22 (c := w18v) w18e ?_
  refine zs_bipush (pc := 23) t247_23 (v := 44) (by decide) ?_
  have w19 : (zI M 336 6).toInt = (zI M 336 6).toInt := (congrArg Int32.toInt rfl).trans rfl
  have w20 : w16v.toInt = (30 + (4 * (zI M 337 1).toInt)) := w16
  have w21 : (0 : Int32).toInt = 0 := li0
  have w22 : w18v.toInt = ((zI M 337 0).toInt - 1) := w18
  have w23 : (44 : Int32).toInt = 44 := li44
  have w24 : (zI M 336 5).toInt = (zI M 336 5).toInt := (congrArg Int32.toInt rfl).trans rfl
  have w25 : (zI M 337 0).toInt = (zI M 337 0).toInt := (congrArg Int32.toInt rfl).trans rfl
  have w26 : (zI M 336 6).toInt = (zI M 336 6).toInt := (congrArg Int32.toInt rfl).trans rfl
  have w27 : (zI M 336 7).toInt = (zI M 336 7).toInt := (congrArg Int32.toInt rfl).trans rfl
  have w28 : (zI M 337 1).toInt = (zI M 337 1).toInt := (congrArg Int32.toInt rfl).trans rfl
  have w29 : (zI M 337 0).toInt = (zI M 337 0).toInt := (congrArg Int32.toInt rfl).trans rfl
  have w30 : (zI M 337 2).toInt = (zI M 337 2).toInt := (congrArg Int32.toInt rfl).trans rfl
  have w31 : (zI M 336 6).toInt = (zI M 336 6).toInt := (congrArg Int32.toInt rfl).trans rfl
  have w32 : (zI M 336 7).toInt = (zI M 336 7).toInt := (congrArg Int32.toInt rfl).trans rfl
  have w33 : (zI M 337 1).toInt = (zI M 337 1).toInt := (congrArg Int32.toInt rfl).trans rfl
  have w35 : (0 : Int32).toInt = 0 := li0
  have w36 : w18v.toInt = ((zI M 337 0).toInt - 1) := w18
  have w37 : w16v.toInt = (30 + (4 * (zI M 337 1).toInt)) := w16
  have w34 := aL (p := w16v.toInt.toNat) (by omega) (by omega) (by omega)
  refine zs_invV (pc := 25) (k := 336) (as' := [.int w16v, .int (0 : Int32), .int w18v, .int (44 : Int32)]) (st := []) t247_25 mf242 rfl rfl (Or.inl ⟨by decide, (zk1 (hs.k fk_zMm_336))⟩) ⟨by decide, by decide, Nat.le_of_ble_eq_true rfl, Nat.le_of_ble_eq_true rfl⟩ (R242 hs hI pR pC ⟨by omega, by omega⟩ ⟨by decide, by decide⟩ (by omega) (by omega) (by omega) (by omega) (by omega) (by rw [w34.1, w34.2]; exact ⟨by omega, by omega⟩) x0 x1 ?_) (fun _ _ q => q)
  intro w38M w38v w38s w38I w38F w38J w38U w38PR w38PC w38t0 w38t1 w38t2 w38t3 w38t4 w38x0 w38x1 w38x2 w38a w38b
  have w39 := ibA0 w38I
  have w40 := ibA2 w38I
  have w41 := ib336_6 w38I
  have w42 := ib336_7 w38I
  have w43 := ibA1 w38I
  show zGo X l 4 0 0 247 28 [(1, .int w16v), (0, .ref 336)] [.int w38v] w38M _
  have w45 : w16v.toInt = (30 + (4 * (zI M 337 1).toInt)) := w16
  have w46 : (0 : Int32).toInt = 0 := li0
  have w47 : w18v.toInt = ((zI M 337 0).toInt - 1) := w18
  have w48 : (44 : Int32).toInt = 44 := li44
  rcases w38x2 w7n (by omega) with ⟨w44v, w44q, w44x, w44_1, w44_2, w44_3, w44_4, w44_5, w44_6, w44_7, w44r⟩ | ⟨w44v, w44_5, w44z⟩
  · skip
    refine zs_if_eqT (pc := 28) t247_28 rfl (by omega) ?_
    refine zs_iconst (pc := 65) t247_65 (v := 0) (by decide) ?_
    have w49 : (zI w38M 336 7).toInt = (zI w38M 336 7).toInt := (congrArg Int32.toInt rfl).trans rfl
    have w50 : (zI w38M 336 6).toInt = (zI w38M 336 6).toInt := (congrArg Int32.toInt rfl).trans rfl
    have w51 := li0
    have w52 : (zI w38M 336 6).toInt = (zI w38M 336 6).toInt := (congrArg Int32.toInt rfl).trans rfl
    have w53 : (zI w38M 336 7).toInt = (zI w38M 336 7).toInt := (congrArg Int32.toInt rfl).trans rfl
    exact zs_iret (pc := 66) t247_66 mr247 (by decide) (hQ _ _ w38s w38I ((zFr.refl).trans (w38F.mono rfl)) w38J ((zUp.refl).trans w38U) w38PR w38PC (by omega) (by omega) (fun p hp => by obtain rfl : w7n = p := (by omega); exact Or.inr ⟨by first | decide | omega, by omega, (pB.f (by have z := w44z; rw [show (0 : Int32).toInt = 0 by first | decide | omega, show w18v.toInt = (F 0 - 1) by first | decide | omega, show (44 : Int32).toInt = 44 by first | decide | omega] at z; exact z))⟩) (by decide) (by decide))
  · skip
    obtain ⟨w54n, w54⟩ : ∃ n : Nat, (zI M 337 1).toInt = (n : Int) := ⟨((zI M 337 1).toInt).toNat, by omega⟩
    rw [show w16v.toInt.toNat = (30 + 4 * w54n) by omega] at w44r
    refine zs_if_eqF (pc := 28) t247_28 rfl (by omega) ?_
    refine zs_aload_n (pc := 31) t247_31 rfl ?_
    refine zs_iload_n (pc := 32) t247_32 rfl ?_
    refine zs_iconst (pc := 33) t247_33 (v := 1) (by decide) ?_
    obtain ⟨w55v, w55e, w55⟩ := ziadd (a := w16v) (b := (1 : Int32)) w16 li1 (by omega) (by omega)
    refine zs_iadd (pc := 34) t247_34 (c := w55v) w55e ?_
    refine zs_sipush (pc := 35) t247_35 (v := -9999) (by decide) ?_
    refine zs_sipush (pc := 38) t247_38 (v := 9999) (by decide) ?_
    refine zs_bipush (pc := 41) t247_41 (v := 44) (by decide) ?_
    have w56 : (zI w38M 336 6).toInt = (zI w38M 336 6).toInt := (congrArg Int32.toInt rfl).trans rfl
    have w57 : w55v.toInt = ((30 + (4 * (zI M 337 1).toInt)) + 1) := w55
    have w58 : (-9999 : Int32).toInt = (-9999) := lin9999
    have w59 : (9999 : Int32).toInt = 9999 := li9999
    have w60 : (44 : Int32).toInt = 44 := li44
    have w61 : (zI w38M 336 5).toInt = (zI M 336 5).toInt := (congrArg Int32.toInt ((w38F 336 5 rfl).trans rfl)).trans rfl
    have w62 : (zI w38M 337 0).toInt = (zI w38M 337 0).toInt := (congrArg Int32.toInt rfl).trans rfl
    have w63 : (zI w38M 336 6).toInt = (zI w38M 336 6).toInt := (congrArg Int32.toInt rfl).trans rfl
    have w64 : (zI w38M 336 7).toInt = (zI w38M 336 7).toInt := (congrArg Int32.toInt rfl).trans rfl
    have w65 : (zI w38M 337 1).toInt = (zI w38M 337 1).toInt := (congrArg Int32.toInt rfl).trans rfl
    have w66 : (zI w38M 337 0).toInt = (zI w38M 337 0).toInt := (congrArg Int32.toInt rfl).trans rfl
    have w67 : (zI w38M 337 2).toInt = (zI w38M 337 2).toInt := (congrArg Int32.toInt rfl).trans rfl
    have w68 : (zI w38M 336 6).toInt = (zI w38M 336 6).toInt := (congrArg Int32.toInt rfl).trans rfl
    have w69 : (zI w38M 336 7).toInt = (zI w38M 336 7).toInt := (congrArg Int32.toInt rfl).trans rfl
    have w70 : (zI w38M 337 1).toInt = (zI w38M 337 1).toInt := (congrArg Int32.toInt rfl).trans rfl
    have w72 : (-9999 : Int32).toInt = (-9999) := lin9999
    have w73 : (9999 : Int32).toInt = 9999 := li9999
    have w74 : w55v.toInt = ((30 + (4 * (zI M 337 1).toInt)) + 1) := w55
    have w71 := aN (p := w55v.toInt.toNat) (by omega)
    refine zs_invV (pc := 43) (k := 336) (as' := [.int w55v, .int (-9999 : Int32), .int (9999 : Int32), .int (44 : Int32)]) (st := []) t247_43 mf242 rfl rfl (Or.inl ⟨by decide, (zk1 (w38s.k fk_zMm_336))⟩) ⟨by decide, by decide, Nat.le_of_ble_eq_true rfl, Nat.le_of_ble_eq_true rfl⟩ (R242 w38s w38I w38PR w38PC ⟨by omega, by omega⟩ ⟨by decide, by decide⟩ (by omega) (by omega) (by omega) (by omega) (by omega) (by rw [w71.1, w71.2]; exact ⟨by omega, by omega⟩) w44r (zTm.mk x1 (fun j => (w38F 339 j rfl)) (w38F 336 5 rfl)) ?_) (fun _ _ q => q)
    intro w75M w75v w75s w75I w75F w75J w75U w75PR w75PC w75t0 w75t1 w75t2 w75t3 w75t4 w75x0 w75x1 w75x2 w75a w75b
    have w76 := ibA0 w75I
    have w77 := ibA2 w75I
    have w78 := ib336_6 w75I
    have w79 := ib336_7 w75I
    have w80 := ibA1 w75I
    show zGo X l 4 0 0 247 46 [(1, .int w16v), (0, .ref 336)] [.int w75v] w75M _
    have w82 : w55v.toInt = ((30 + (4 * (zI M 337 1).toInt)) + 1) := w55
    have w83 : (-9999 : Int32).toInt = (-9999) := lin9999
    have w84 : (9999 : Int32).toInt = 9999 := li9999
    have w85 : (44 : Int32).toInt = 44 := li44
    rcases w75x2 w44q (by omega) with ⟨w81v, w81q, w81x, w81_1, w81_2, w81_3, w81_4, w81_5, w81_6, w81_7, w81r⟩ | ⟨w81v, w81_5, w81z⟩
    · skip
      refine zs_if_eqT (pc := 46) t247_46 rfl (by omega) ?_
      refine zs_iconst (pc := 65) t247_65 (v := 0) (by decide) ?_
      have w86 : (zI w75M 336 7).toInt = (zI w75M 336 7).toInt := (congrArg Int32.toInt rfl).trans rfl
      have w87 : (zI w75M 336 6).toInt = (zI w75M 336 6).toInt := (congrArg Int32.toInt rfl).trans rfl
      have w88 := li0
      have w89 : (zI w75M 336 6).toInt = (zI w75M 336 6).toInt := (congrArg Int32.toInt rfl).trans rfl
      have w90 : (zI w75M 336 7).toInt = (zI w75M 336 7).toInt := (congrArg Int32.toInt rfl).trans rfl
      exact zs_iret (pc := 66) t247_66 mr247 (by decide) (hQ _ _ w75s w75I (((zFr.refl).trans (w38F.mono rfl)).trans (w75F.mono rfl)) (w75J.trans w38J) (((zUp.refl).trans w38U).trans w75U) w75PR w75PC (by omega) (by omega) (fun p hp => by obtain rfl : w7n = p := (by omega); exact Or.inr ⟨by first | decide | omega, by omega, ((pB.y (by have z := w44_1; rw [show (0 : Int32).toInt = 0 by first | decide | omega, show w18v.toInt = (F 0 - 1) by first | decide | omega, show (44 : Int32).toInt = 44 by first | decide | omega] at z; exact z)).trans (pB.f (by have z := w81z; rw [show (-9999 : Int32).toInt = (-9999) by first | decide | omega, show (9999 : Int32).toInt = 9999 by first | decide | omega, show (44 : Int32).toInt = 44 by first | decide | omega] at z; exact z)))⟩) (by decide) (by decide))
    · skip
      rw [show w55v.toInt.toNat = (31 + 4 * w54n) by omega] at w81r
      refine zs_if_eqF (pc := 46) t247_46 rfl (by omega) ?_
      refine zs_aload_n (pc := 49) t247_49 rfl ?_
      refine zs_iload_n (pc := 50) t247_50 rfl ?_
      refine zs_iconst (pc := 51) t247_51 (v := 2) (by decide) ?_
      obtain ⟨w91v, w91e, w91⟩ := ziadd (a := w16v) (b := (2 : Int32)) w16 li2 (by omega) (by omega)
      refine zs_iadd (pc := 52) t247_52 (c := w91v) w91e ?_
      refine zs_iconst (pc := 53) t247_53 (v := 0) (by decide) ?_
      refine zs_sipush (pc := 54) t247_54 (v := 999) (by decide) ?_
      refine zs_bipush (pc := 57) t247_57 (v := 59) (by decide) ?_
      have w92 : (zI w75M 336 6).toInt = (zI w75M 336 6).toInt := (congrArg Int32.toInt rfl).trans rfl
      have w93 : w91v.toInt = ((30 + (4 * (zI M 337 1).toInt)) + 2) := w91
      have w94 : (0 : Int32).toInt = 0 := li0
      have w95 : (999 : Int32).toInt = 999 := li999
      have w96 : (59 : Int32).toInt = 59 := li59
      have w97 : (zI w75M 336 5).toInt = (zI M 336 5).toInt := (congrArg Int32.toInt ((w75F 336 5 rfl).trans ((w38F 336 5 rfl).trans rfl))).trans rfl
      have w98 : (zI w75M 337 0).toInt = (zI w75M 337 0).toInt := (congrArg Int32.toInt rfl).trans rfl
      have w99 : (zI w75M 336 6).toInt = (zI w75M 336 6).toInt := (congrArg Int32.toInt rfl).trans rfl
      have w100 : (zI w75M 336 7).toInt = (zI w75M 336 7).toInt := (congrArg Int32.toInt rfl).trans rfl
      have w101 : (zI w75M 337 1).toInt = (zI w75M 337 1).toInt := (congrArg Int32.toInt rfl).trans rfl
      have w102 : (zI w75M 337 0).toInt = (zI w75M 337 0).toInt := (congrArg Int32.toInt rfl).trans rfl
      have w103 : (zI w75M 337 2).toInt = (zI w75M 337 2).toInt := (congrArg Int32.toInt rfl).trans rfl
      have w104 : (zI w75M 336 6).toInt = (zI w75M 336 6).toInt := (congrArg Int32.toInt rfl).trans rfl
      have w105 : (zI w75M 336 7).toInt = (zI w75M 336 7).toInt := (congrArg Int32.toInt rfl).trans rfl
      have w106 : (zI w75M 337 1).toInt = (zI w75M 337 1).toInt := (congrArg Int32.toInt rfl).trans rfl
      have w108 : (0 : Int32).toInt = 0 := li0
      have w109 : (999 : Int32).toInt = 999 := li999
      have w110 : w91v.toInt = ((30 + (4 * (zI M 337 1).toInt)) + 2) := w91
      have w107 := aN (p := w91v.toInt.toNat) (by omega)
      refine zs_invV (pc := 59) (k := 336) (as' := [.int w91v, .int (0 : Int32), .int (999 : Int32), .int (59 : Int32)]) (st := []) t247_59 mf242 rfl rfl (Or.inl ⟨by decide, (zk1 (w75s.k fk_zMm_336))⟩) ⟨by decide, by decide, Nat.le_of_ble_eq_true rfl, Nat.le_of_ble_eq_true rfl⟩ (R242 w75s w75I w75PR w75PC ⟨by omega, by omega⟩ ⟨by decide, by decide⟩ (by omega) (by omega) (by omega) (by omega) (by omega) (by rw [w107.1, w107.2]; exact ⟨by omega, by omega⟩) w81r (zTm.mk x1 (fun j => ((w75F 339 j rfl).trans (w38F 339 j rfl))) ((w75F 336 5 rfl).trans (w38F 336 5 rfl))) ?_) (fun _ _ q => q)
      intro w111M w111v w111s w111I w111F w111J w111U w111PR w111PC w111t0 w111t1 w111t2 w111t3 w111t4 w111x0 w111x1 w111x2 w111a w111b
      have w112 := ibA0 w111I
      have w113 := ibA2 w111I
      have w114 := ib336_6 w111I
      have w115 := ib336_7 w111I
      have w116 := ibA1 w111I
      show zGo X l 4 0 0 247 62 [(1, .int w16v), (0, .ref 336)] [.int w111v] w111M _
      have w118 : w91v.toInt = ((30 + (4 * (zI M 337 1).toInt)) + 2) := w91
      have w119 : (0 : Int32).toInt = 0 := li0
      have w120 : (999 : Int32).toInt = 999 := li999
      have w121 : (59 : Int32).toInt = 59 := li59
      rcases w111x2 w81q (by omega) with ⟨w117v, w117q, w117x, w117_1, w117_2, w117_3, w117_4, w117_5, w117_6, w117_7, w117r⟩ | ⟨w117v, w117_5, w117z⟩
      · skip
        refine zs_if_neF (pc := 62) t247_62 rfl (by omega) ?_
        refine zs_iconst (pc := 65) t247_65 (v := 0) (by decide) ?_
        have w122 : (zI w111M 336 7).toInt = (zI w111M 336 7).toInt := (congrArg Int32.toInt rfl).trans rfl
        have w123 : (zI w111M 336 6).toInt = (zI w111M 336 6).toInt := (congrArg Int32.toInt rfl).trans rfl
        have w124 := li0
        have w125 : (zI w111M 336 6).toInt = (zI w111M 336 6).toInt := (congrArg Int32.toInt rfl).trans rfl
        have w126 : (zI w111M 336 7).toInt = (zI w111M 336 7).toInt := (congrArg Int32.toInt rfl).trans rfl
        exact zs_iret (pc := 66) t247_66 mr247 (by decide) (hQ _ _ w111s w111I ((((zFr.refl).trans (w38F.mono rfl)).trans (w75F.mono rfl)).trans (w111F.mono rfl)) (w111J.trans (w75J.trans w38J)) ((((zUp.refl).trans w38U).trans w75U).trans w111U) w111PR w111PC (by omega) (by omega) (fun p hp => by obtain rfl : w7n = p := (by omega); exact Or.inr ⟨by first | decide | omega, by omega, (((pB.y (by have z := w44_1; rw [show (0 : Int32).toInt = 0 by first | decide | omega, show w18v.toInt = (F 0 - 1) by first | decide | omega, show (44 : Int32).toInt = 44 by first | decide | omega] at z; exact z)).trans (pB.y (by have z := w81_1; rw [show (-9999 : Int32).toInt = (-9999) by first | decide | omega, show (9999 : Int32).toInt = 9999 by first | decide | omega, show (44 : Int32).toInt = 44 by first | decide | omega] at z; exact z))).trans (pB.f (by have z := w117z; rw [show (0 : Int32).toInt = 0 by first | decide | omega, show (999 : Int32).toInt = 999 by first | decide | omega, show (59 : Int32).toInt = 59 by first | decide | omega] at z; exact z)))⟩) (by decide) (by decide))
      · skip
        rw [show w91v.toInt.toNat = (32 + 4 * w54n) by omega] at w117r
        refine zs_if_neT (pc := 62) t247_62 rfl (by omega) ?_
        refine zs_aload_n (pc := 67) t247_67 rfl ?_
        refine zs_get (pc := 68) t247_68 (by decide) (zk1 (w111s.k fk_zMm_336)) (w111s.p rfl fv_zMm_336_0) ?_
        refine zs_iload_n (pc := 71) t247_71 rfl ?_
        refine zs_iconst (pc := 72) t247_72 (v := 3) (by decide) ?_
        obtain ⟨w127v, w127e, w127⟩ := ziadd (a := w16v) (b := (3 : Int32)) w16 li3 (by omega) (by omega)
        refine zs_iadd (pc := 73) t247_73 (c := w127v) w127e ?_
        refine zs_bipush (pc := 74) t247_74 (v := -2) (by decide) ?_
        have w128a := aN (p := (33 + 4 * w54n)) (by omega)
        have w128 : zIv mLo mHi (zsI w111M 337 (33 + 4 * w54n) (-2 : Int32)) := zIv.putA w111I (by omega) (by rw [w128a.1, w128a.2]; exact zrg (-2 : Int32))
        have w129 : (zI w111M 337 0).toInt = (zI w111M 337 0).toInt := (congrArg Int32.toInt rfl).trans rfl
        have w130 : (zI w111M 337 1).toInt = (zI w111M 337 1).toInt := (congrArg Int32.toInt rfl).trans rfl
        have w131 : zPR (zsI w111M 337 (33 + 4 * w54n) (-2 : Int32)) := zPR.put w111PR (by omega) (by omega) (by omega) (by omega)
        have w132 : zPC (zsI w111M 337 (33 + 4 * w54n) (-2 : Int32)) := zPC.put w111PC (by omega) (by omega)
        have w133 : zRw (zsI w111M 337 (33 + 4 * w54n) (-2 : Int32)) 0 (uS (uS (uS (uS F (30 + 4 * w54n) w44x) (31 + 4 * w54n) w81x) (32 + 4 * w54n) w117x) (33 + 4 * w54n) (-2)) := zRw.put w117r (by decide)
        refine zs_iast (pc := 76) t247_76 (j := (33 + 4 * w54n)) (by decide) (zk1 (w111s.k fk_zMm_337)) (show w127v.toInt = (((33 + 4 * w54n) : Nat) : Int) by omega) (zk2 (w111s.k fk_zMm_337) (by omega)) ?_
        refine zs_aload_n (pc := 77) t247_77 rfl ?_
        refine zs_get (pc := 78) t247_78 (by decide) (zk1 (w111s.k fk_zMm_336)) (w111s.p rfl fv_zMm_336_0) ?_
        refine zs_iconst (pc := 81) t247_81 (v := 1) (by decide) ?_
        refine zs_dup2 (pc := 82) t247_82 ⟨rfl, rfl⟩ ?_
        have w134 : (zI w111M 337 1).toInt = (uS (uS (uS F (30 + 4 * w54n) w44x) (31 + 4 * w54n) w81x) (32 + 4 * w54n) w117x) 1 := w117r.at (by decide) (by decide) (by decide)
        refine zs_iald (pc := 83) t247_83 (j := 1) (by decide) (zk1 (w111s.k fk_zMm_337)) li1 (zk2 (w111s.k fk_zMm_337) (by decide)) ((zIoj (by omega)).trans rfl) ?_
        refine zs_iconst (pc := 84) t247_84 (v := 1) (by decide) ?_
        obtain ⟨w135v, w135e, w135⟩ := ziadd (a := (zI w111M 337 1)) (b := (1 : Int32)) rfl li1 (by omega) (by omega)
        refine zs_iadd (pc := 85) t247_85 (c := w135v) w135e ?_
        have w136 : zIv mLo mHi (zsI (zsI w111M 337 (33 + 4 * w54n) (-2 : Int32)) 337 1 w135v) := zIv.putA w128 (by decide) (show 0 ≤ w135v.toInt ∧ w135v.toInt ≤ 60 from ⟨by omega, by omega⟩)
        have w137 : (zI (zsI w111M 337 (33 + 4 * w54n) (-2 : Int32)) 337 1).toInt = (zI w111M 337 1).toInt := (congrArg Int32.toInt ((zIoj (by omega)).trans rfl)).trans rfl
        have w138 : (zI (zsI w111M 337 (33 + 4 * w54n) (-2 : Int32)) 337 0).toInt = (zI w111M 337 0).toInt := (congrArg Int32.toInt ((zIoj (by omega)).trans rfl)).trans rfl
        obtain ⟨w139n, w139⟩ : ∃ n : Nat, (zI w111M 337 1).toInt = (n : Int) := ⟨((zI w111M 337 1).toInt).toNat, by omega⟩
        have w140 : w135v.toInt = ((zI w111M 337 1).toInt + 1) := w135
        have w38q := w38x1.resolve_left (by omega) (30 + 4 * w54n) (by omega)
        have w141 : zPR (zsI (zsI w111M 337 (33 + 4 * w54n) (-2 : Int32)) 337 1 w135v) := zPR.hit (n := w54n) w131 (by omega) (by omega) (by rw [zIoj (by omega), w111x0 _ (by omega), w75x0 _ (by omega)]; omega)
        have w142 : zPC (zsI (zsI w111M 337 (33 + 4 * w54n) (-2 : Int32)) 337 1 w135v) := zPC.put w132 (by decide) (by decide)
        have w143 : zRw (zsI (zsI w111M 337 (33 + 4 * w54n) (-2 : Int32)) 337 1 w135v) 0 (uS (uS (uS (uS (uS F (30 + 4 * w54n) w44x) (31 + 4 * w54n) w81x) (32 + 4 * w54n) w117x) (33 + 4 * w54n) (-2)) 1 (F 1 + 1)) := zRw.put w133 (by omega)
        refine zs_iast (pc := 86) t247_86 (j := 1) (by decide) (zk1 (w111s.k fk_zMm_337)) li1 (zk2 (w111s.k fk_zMm_337) (by decide)) ?_
        refine zs_iconst (pc := 87) t247_87 (v := 1) (by decide) ?_
        have w144 : (zI (zsI (zsI w111M 337 (33 + 4 * w54n) (-2 : Int32)) 337 1 w135v) 336 7).toInt = (zI w111M 336 7).toInt := (congrArg Int32.toInt ((zIo (by decide)).trans ((zIo (by decide)).trans rfl))).trans rfl
        have w145 : (zI (zsI (zsI w111M 337 (33 + 4 * w54n) (-2 : Int32)) 337 1 w135v) 336 6).toInt = (zI w111M 336 6).toInt := (congrArg Int32.toInt ((zIo (by decide)).trans ((zIo (by decide)).trans rfl))).trans rfl
        have w146 := li1
        have w147 : (zI (zsI (zsI w111M 337 (33 + 4 * w54n) (-2 : Int32)) 337 1 w135v) 336 6).toInt = (zI w111M 336 6).toInt := (congrArg Int32.toInt ((zIo (by decide)).trans ((zIo (by decide)).trans rfl))).trans rfl
        have w148 : (zI (zsI (zsI w111M 337 (33 + 4 * w54n) (-2 : Int32)) 337 1 w135v) 336 7).toInt = (zI w111M 336 7).toInt := (congrArg Int32.toInt ((zIo (by decide)).trans ((zIo (by decide)).trans rfl))).trans rfl
        exact zs_iret (pc := 88) t247_88 mr247 (by decide) (hQ _ _ w111s w136 ((((((zFr.refl).trans (w38F.mono rfl)).trans (w75F.mono rfl)).trans (w111F.mono rfl)).put rfl).put rfl) (w111J.trans (w75J.trans w38J)) ((((((zUp.refl).trans w38U).trans w75U).trans w111U).put (Or.inr (by omega))).put (Or.inr (by decide))) w141 w142 (by omega) (by omega) (fun p hp => by obtain rfl : w7n = p := (by omega); exact Or.inl ⟨by first | decide | omega, w117q, _, (((pB.y (by have z := w44_1; rw [show (0 : Int32).toInt = 0 by first | decide | omega, show w18v.toInt = (F 0 - 1) by first | decide | omega, show (44 : Int32).toInt = 44 by first | decide | omega] at z; exact z)).trans (pB.y (by have z := w81_1; rw [show (-9999 : Int32).toInt = (-9999) by first | decide | omega, show (9999 : Int32).toInt = 9999 by first | decide | omega, show (44 : Int32).toInt = 44 by first | decide | omega] at z; exact z))).trans (pB.y (by have z := w117_1; rw [show (0 : Int32).toInt = 0 by first | decide | omega, show (999 : Int32).toInt = 999 by first | decide | omega, show (59 : Int32).toInt = 59 by first | decide | omega] at z; exact z))), by omega, by omega, by omega, by omega, (by unfold pHit; rw [show (F 1).toNat = w54n by omega]; exact w143), zWF.hit x2 (by omega) (by omega) (by omega) (by omega) (by omega) (by omega) (by omega)⟩) (by decide) (by decide))
theorem R248 {X : zX} {l : Launch} {M : zM} {Q : Option Value → zM → Prop} {a : Int32} (hs : zSk zMm M) (hI : zIv mLo mHi M) {F : Nat → Int} {gg : Nat → Int} {nn : Int} (pR : zPR M) (pC : zPC M) (ha : 0 ≤ a.toInt ∧ a.toInt ≤ 500) (u0 : (zI M 337 2).toInt < 12) (u1 : (zI M 336 6).toInt ≤ (zI M 336 5).toInt) (u2 : 0 ≤ (zI M 336 6).toInt) (u3 : (zI M 336 7).toInt = -1) (x0 : zRw M 0 F) (x1 : zTm M gg nn) (x2 : zWF F) (hQ : ∀ (M' : zM) (v : Int32), zSk zMm M' → zIv mLo mHi M' → zFr [(336, 336, some 6), (336, 336, some 7), (336, 336, some 8), (337, 337, none)] M M' → zJ M' 351 = zJ M 351 → zUp M M' → zPR M' → zPC M' → ((zI M 336 6).toInt ≤ (zI M' 336 6).toInt) → ((v.toInt = 1 ∧ (zI M' 336 7).toInt = (zI M 336 7).toInt) ∨ (v.toInt = 0 ∧ 0 ≤ (zI M' 336 7).toInt)) → (∀ p : Nat, (zI M 336 6).toInt = (p : Int) → (v.toInt = 1 ∧ ∃ (q : Nat) (F2 : Nat → Int), (pB (pRd gg p (-9999) 9999 44) fun q x => pB (pRd gg q (-50) 50 44) fun q2 y => pB (pRd gg q2 (-5) 5 59) fun q3 z => pM (pPt F x y z (F 0).toNat) fun G => some (q3, uS G 2 (F 2 + 1))) = some (q, F2) ∧ (zI M' 336 6).toInt = (q : Int) ∧ p < q ∧ (q : Int) ≤ nn ∧ (zI M' 336 7).toInt = -1 ∧ zRw M' 0 F2 ∧ zWF F2) ∨ (v.toInt = 0 ∧ (zI M' 336 7).toInt ≠ -1 ∧ (pB (pRd gg p (-9999) 9999 44) fun q x => pB (pRd gg q (-50) 50 44) fun q2 y => pB (pRd gg q2 (-5) 5 59) fun q3 z => pM (pPt F x y z (F 0).toNat) fun G => some (q3, uS G 2 (F 2 + 1))) = none)) → 0 ≤ v.toInt → v.toInt ≤ 1 → Q (some (.int v)) M') : zCall X l 4 0 0 248 [.ref 336, .int a] M Q := by
  have ga := zrg a
  refine zs_in (by decide) mf248 (Nat.le_of_ble_eq_true rfl) ?_
  show zGo X l 4 0 0 248 0 [(0, .ref 336), (1, .int a)] [] M _
  have hn := x1.2
  have w1 := ib336_5 hI
  have w2 : (zI M 336 5).toInt = (zI M 336 5).toInt := (congrArg Int32.toInt rfl).trans rfl
  have w3 := ib336_6 hI
  have w4 : (zI M 336 6).toInt = (zI M 336 6).toInt := (congrArg Int32.toInt rfl).trans rfl
  have w5 := ib336_7 hI
  have w6 : (zI M 336 7).toInt = (zI M 336 7).toInt := (congrArg Int32.toInt rfl).trans rfl
  obtain ⟨w7n, w7⟩ : ∃ n : Nat, (zI M 336 6).toInt = (n : Int) := ⟨((zI M 336 6).toInt).toNat, by omega⟩
  have f1 := x2.1
  have f3 := x2.2.2.2
  have w8 := ibA0 hI
  have w9 : (zI M 337 0).toInt = (zI M 337 0).toInt := (congrArg Int32.toInt rfl).trans rfl
  have e0 : (zI M 337 0).toInt = F 0 := x0.at (by decide) (by decide) (by decide)
  have w10 := ibA1 hI
  have w11 : (zI M 337 1).toInt = (zI M 337 1).toInt := (congrArg Int32.toInt rfl).trans rfl
  have e1 : (zI M 337 1).toInt = F 1 := x0.at (by decide) (by decide) (by decide)
  have w12 := ibA2 hI
  have w13 : (zI M 337 2).toInt = (zI M 337 2).toInt := (congrArg Int32.toInt rfl).trans rfl
  have e2 : (zI M 337 2).toInt = F 2 := x0.at (by decide) (by decide) (by decide)
  refine zs_aload_n (pc := 0) t248_0 rfl ?_
  refine zs_get (pc := 1) t248_1 (by decide) (zk1 (hs.k fk_zMm_336)) (hs.p rfl fv_zMm_336_0) ?_
  refine zs_iconst (pc := 4) t248_4 (v := 2) (by decide) ?_
  have w14 : (zI M 337 2).toInt = F 2 := x0.at (by decide) (by decide) (by decide)
  refine zs_iald (pc := 5) t248_5 (j := 2) (by decide) (zk1 (hs.k fk_zMm_337)) li2 (zk2 (hs.k fk_zMm_337) (by decide)) rfl ?_
  refine zs_istore_n (pc := 6) t248_6 (ls' := [(2, .int (zI M 337 2)), (0, .ref 336), (1, .int a)]) (zml mf248 (by decide)) rfl ?_
  refine zs_sipush (pc := 7) t248_7 (v := 270) (by decide) ?_
  refine zs_iconst (pc := 10) t248_10 (v := 3) (by decide) ?_
  refine zs_iload_n (pc := 11) t248_11 rfl ?_
  obtain ⟨w15v, w15⟩ : ∃ v, (3 : Int32) * (zI M 337 2) = v := ⟨_, rfl⟩
  have w15g : w15v.toInt = 3 * (zI M 337 2).toInt := by rw [← w15]; exact zmulc li3 rfl (by omega) (by omega)
  refine zs_imul (pc := 12) t248_12 (c := w15v) w15 ?_
  obtain ⟨w16v, w16e, w16⟩ := ziadd (a := (270 : Int32)) (b := w15v) li270 w15g (by omega) (by omega)
  refine zs_iadd (pc := 13) t248_13 (c := w16v) w16e ?_
  refine zs_istore_n (pc := 14) t248_14 (ls' := [(3, .int w16v), (2, .int (zI M 337 2)), (0, .ref 336), (1, .int a)]) (zml mf248 (by decide)) rfl ?_
  refine zs_aload_n (pc := 15) t248_15 rfl ?_
  refine zs_iload_n (pc := 16) t248_16 rfl ?_
  refine zs_sipush (pc := 17) t248_17 (v := -9999) (by decide) ?_
  refine zs_sipush (pc := 20) t248_20 (v := 9999) (by decide) ?_
  refine zs_bipush (pc := 23) t248_23 (v := 44) (by decide) ?_
  have w17 : (zI M 336 6).toInt = (zI M 336 6).toInt := (congrArg Int32.toInt rfl).trans rfl
  have w18 : w16v.toInt = (270 + (3 * (zI M 337 2).toInt)) := w16
  have w19 : (-9999 : Int32).toInt = (-9999) := lin9999
  have w20 : (9999 : Int32).toInt = 9999 := li9999
  have w21 : (44 : Int32).toInt = 44 := li44
  have w22 : (zI M 336 5).toInt = (zI M 336 5).toInt := (congrArg Int32.toInt rfl).trans rfl
  have w23 : (zI M 337 0).toInt = (zI M 337 0).toInt := (congrArg Int32.toInt rfl).trans rfl
  have w24 : (zI M 336 6).toInt = (zI M 336 6).toInt := (congrArg Int32.toInt rfl).trans rfl
  have w25 : (zI M 336 7).toInt = (zI M 336 7).toInt := (congrArg Int32.toInt rfl).trans rfl
  have w26 : (zI M 337 1).toInt = (zI M 337 1).toInt := (congrArg Int32.toInt rfl).trans rfl
  have w27 : (zI M 337 0).toInt = (zI M 337 0).toInt := (congrArg Int32.toInt rfl).trans rfl
  have w28 : (zI M 337 2).toInt = (zI M 337 2).toInt := (congrArg Int32.toInt rfl).trans rfl
  have w29 : (zI M 336 6).toInt = (zI M 336 6).toInt := (congrArg Int32.toInt rfl).trans rfl
  have w30 : (zI M 336 7).toInt = (zI M 336 7).toInt := (congrArg Int32.toInt rfl).trans rfl
  have w31 : (zI M 337 1).toInt = (zI M 337 1).toInt := (congrArg Int32.toInt rfl).trans rfl
  have w33 : (-9999 : Int32).toInt = (-9999) := lin9999
  have w34 : (9999 : Int32).toInt = 9999 := li9999
  have w35 : w16v.toInt = (270 + (3 * (zI M 337 2).toInt)) := w16
  have w32 := aN (p := w16v.toInt.toNat) (by omega)
  refine zs_invV (pc := 25) (k := 336) (as' := [.int w16v, .int (-9999 : Int32), .int (9999 : Int32), .int (44 : Int32)]) (st := []) t248_25 mf242 rfl rfl (Or.inl ⟨by decide, (zk1 (hs.k fk_zMm_336))⟩) ⟨by decide, by decide, Nat.le_of_ble_eq_true rfl, Nat.le_of_ble_eq_true rfl⟩ (R242 hs hI pR pC ⟨by omega, by omega⟩ ⟨by decide, by decide⟩ (by omega) (by omega) (by omega) (by omega) (by omega) (by rw [w32.1, w32.2]; exact ⟨by omega, by omega⟩) x0 x1 ?_) (fun _ _ q => q)
  intro w36M w36v w36s w36I w36F w36J w36U w36PR w36PC w36t0 w36t1 w36t2 w36t3 w36t4 w36x0 w36x1 w36x2 w36a w36b
  have w37 := ibA0 w36I
  have w38 := ibA2 w36I
  have w39 := ib336_6 w36I
  have w40 := ib336_7 w36I
  have w41 := ibA1 w36I
  show zGo X l 4 0 0 248 28 [(3, .int w16v), (2, .int (zI M 337 2)), (0, .ref 336), (1, .int a)] [.int w36v] w36M _
  have w43 : w16v.toInt = (270 + (3 * (zI M 337 2).toInt)) := w16
  have w44 : (-9999 : Int32).toInt = (-9999) := lin9999
  have w45 : (9999 : Int32).toInt = 9999 := li9999
  have w46 : (44 : Int32).toInt = 44 := li44
  rcases w36x2 w7n (by omega) with ⟨w42v, w42q, w42x, w42_1, w42_2, w42_3, w42_4, w42_5, w42_6, w42_7, w42r⟩ | ⟨w42v, w42_5, w42z⟩
  · skip
    refine zs_if_eqT (pc := 28) t248_28 rfl (by omega) ?_
    refine zs_iconst (pc := 57) t248_57 (v := 0) (by decide) ?_
    have w47 : (zI w36M 336 7).toInt = (zI w36M 336 7).toInt := (congrArg Int32.toInt rfl).trans rfl
    have w48 : (zI w36M 336 6).toInt = (zI w36M 336 6).toInt := (congrArg Int32.toInt rfl).trans rfl
    have w49 := li0
    have w50 : (zI w36M 336 6).toInt = (zI w36M 336 6).toInt := (congrArg Int32.toInt rfl).trans rfl
    have w51 : (zI w36M 336 7).toInt = (zI w36M 336 7).toInt := (congrArg Int32.toInt rfl).trans rfl
    exact zs_iret (pc := 58) t248_58 mr248 (by decide) (hQ _ _ w36s w36I ((zFr.refl).trans (w36F.mono rfl)) w36J ((zUp.refl).trans w36U) w36PR w36PC (by omega) (by omega) (fun p hp => by
        obtain rfl : w7n = p := (by omega)
        exact Or.inr ⟨by first | decide | omega, by omega, (pB.f (by have z := w42z; rw [show (-9999 : Int32).toInt = (-9999) by first | decide | omega, show (9999 : Int32).toInt = 9999 by first | decide | omega, show (44 : Int32).toInt = 44 by first | decide | omega] at z; exact z))⟩) (by decide) (by decide))
  · skip
    obtain ⟨w52n, w52⟩ : ∃ n : Nat, (zI M 337 2).toInt = (n : Int) := ⟨((zI M 337 2).toInt).toNat, by omega⟩
    rw [show w16v.toInt.toNat = (270 + 3 * w52n) by omega] at w42r
    refine zs_if_eqF (pc := 28) t248_28 rfl (by omega) ?_
    refine zs_aload_n (pc := 31) t248_31 rfl ?_
    refine zs_iload_n (pc := 32) t248_32 rfl ?_
    refine zs_iconst (pc := 33) t248_33 (v := 1) (by decide) ?_
    obtain ⟨w53v, w53e, w53⟩ := ziadd (a := w16v) (b := (1 : Int32)) w16 li1 (by omega) (by omega)
    refine zs_iadd (pc := 34) t248_34 (c := w53v) w53e ?_
    refine zs_bipush (pc := 35) t248_35 (v := -50) (by decide) ?_
    refine zs_bipush (pc := 37) t248_37 (v := 50) (by decide) ?_
    refine zs_bipush (pc := 39) t248_39 (v := 44) (by decide) ?_
    have w54 : (zI w36M 336 6).toInt = (zI w36M 336 6).toInt := (congrArg Int32.toInt rfl).trans rfl
    have w55 : w53v.toInt = ((270 + (3 * (zI M 337 2).toInt)) + 1) := w53
    have w56 : (-50 : Int32).toInt = (-50) := lin50
    have w57 : (50 : Int32).toInt = 50 := li50
    have w58 : (44 : Int32).toInt = 44 := li44
    have w59 : (zI w36M 336 5).toInt = (zI M 336 5).toInt := (congrArg Int32.toInt ((w36F 336 5 rfl).trans rfl)).trans rfl
    have w60 : (zI w36M 337 0).toInt = (zI w36M 337 0).toInt := (congrArg Int32.toInt rfl).trans rfl
    have w61 : (zI w36M 336 6).toInt = (zI w36M 336 6).toInt := (congrArg Int32.toInt rfl).trans rfl
    have w62 : (zI w36M 336 7).toInt = (zI w36M 336 7).toInt := (congrArg Int32.toInt rfl).trans rfl
    have w63 : (zI w36M 337 1).toInt = (zI w36M 337 1).toInt := (congrArg Int32.toInt rfl).trans rfl
    have w64 : (zI w36M 337 0).toInt = (zI w36M 337 0).toInt := (congrArg Int32.toInt rfl).trans rfl
    have w65 : (zI w36M 337 2).toInt = (zI w36M 337 2).toInt := (congrArg Int32.toInt rfl).trans rfl
    have w66 : (zI w36M 336 6).toInt = (zI w36M 336 6).toInt := (congrArg Int32.toInt rfl).trans rfl
    have w67 : (zI w36M 336 7).toInt = (zI w36M 336 7).toInt := (congrArg Int32.toInt rfl).trans rfl
    have w68 : (zI w36M 337 1).toInt = (zI w36M 337 1).toInt := (congrArg Int32.toInt rfl).trans rfl
    have w70 : (-50 : Int32).toInt = (-50) := lin50
    have w71 : (50 : Int32).toInt = 50 := li50
    have w72 : w53v.toInt = ((270 + (3 * (zI M 337 2).toInt)) + 1) := w53
    have w69 := aN (p := w53v.toInt.toNat) (by omega)
    refine zs_invV (pc := 41) (k := 336) (as' := [.int w53v, .int (-50 : Int32), .int (50 : Int32), .int (44 : Int32)]) (st := []) t248_41 mf242 rfl rfl (Or.inl ⟨by decide, (zk1 (w36s.k fk_zMm_336))⟩) ⟨by decide, by decide, Nat.le_of_ble_eq_true rfl, Nat.le_of_ble_eq_true rfl⟩ (R242 w36s w36I w36PR w36PC ⟨by omega, by omega⟩ ⟨by decide, by decide⟩ (by omega) (by omega) (by omega) (by omega) (by omega) (by rw [w69.1, w69.2]; exact ⟨by omega, by omega⟩) w42r (zTm.mk x1 (fun j => (w36F 339 j rfl)) (w36F 336 5 rfl)) ?_) (fun _ _ q => q)
    intro w73M w73v w73s w73I w73F w73J w73U w73PR w73PC w73t0 w73t1 w73t2 w73t3 w73t4 w73x0 w73x1 w73x2 w73a w73b
    have w74 := ibA0 w73I
    have w75 := ibA2 w73I
    have w76 := ib336_6 w73I
    have w77 := ib336_7 w73I
    have w78 := ibA1 w73I
    show zGo X l 4 0 0 248 44 [(3, .int w16v), (2, .int (zI M 337 2)), (0, .ref 336), (1, .int a)] [.int w73v] w73M _
    have w80 : w53v.toInt = ((270 + (3 * (zI M 337 2).toInt)) + 1) := w53
    have w81 : (-50 : Int32).toInt = (-50) := lin50
    have w82 : (50 : Int32).toInt = 50 := li50
    have w83 : (44 : Int32).toInt = 44 := li44
    rcases w73x2 w42q (by omega) with ⟨w79v, w79q, w79x, w79_1, w79_2, w79_3, w79_4, w79_5, w79_6, w79_7, w79r⟩ | ⟨w79v, w79_5, w79z⟩
    · skip
      refine zs_if_eqT (pc := 44) t248_44 rfl (by omega) ?_
      refine zs_iconst (pc := 57) t248_57 (v := 0) (by decide) ?_
      have w84 : (zI w73M 336 7).toInt = (zI w73M 336 7).toInt := (congrArg Int32.toInt rfl).trans rfl
      have w85 : (zI w73M 336 6).toInt = (zI w73M 336 6).toInt := (congrArg Int32.toInt rfl).trans rfl
      have w86 := li0
      have w87 : (zI w73M 336 6).toInt = (zI w73M 336 6).toInt := (congrArg Int32.toInt rfl).trans rfl
      have w88 : (zI w73M 336 7).toInt = (zI w73M 336 7).toInt := (congrArg Int32.toInt rfl).trans rfl
      exact zs_iret (pc := 58) t248_58 mr248 (by decide) (hQ _ _ w73s w73I (((zFr.refl).trans (w36F.mono rfl)).trans (w73F.mono rfl)) (w73J.trans w36J) (((zUp.refl).trans w36U).trans w73U) w73PR w73PC (by omega) (by omega) (fun p hp => by
          obtain rfl : w7n = p := (by omega)
          exact Or.inr ⟨by first | decide | omega, by omega, ((pB.y (by have z := w42_1; rw [show (-9999 : Int32).toInt = (-9999) by first | decide | omega, show (9999 : Int32).toInt = 9999 by first | decide | omega, show (44 : Int32).toInt = 44 by first | decide | omega] at z; exact z)).trans (pB.f (by have z := w79z; rw [show (-50 : Int32).toInt = (-50) by first | decide | omega, show (50 : Int32).toInt = 50 by first | decide | omega, show (44 : Int32).toInt = 44 by first | decide | omega] at z; exact z)))⟩) (by decide) (by decide))
    · skip
      rw [show w53v.toInt.toNat = (271 + 3 * w52n) by omega] at w79r
      refine zs_if_eqF (pc := 44) t248_44 rfl (by omega) ?_
      refine zs_aload_n (pc := 47) t248_47 rfl ?_
      refine zs_bipush (pc := 48) t248_48 (v := -5) (by decide) ?_
      refine zs_iconst (pc := 50) t248_50 (v := 5) (by decide) ?_
      have w89 : (zI w73M 336 6).toInt = (zI w73M 336 6).toInt := (congrArg Int32.toInt rfl).trans rfl
      have w90 : (-5 : Int32).toInt = (-5) := lin5
      have w91 : (5 : Int32).toInt = 5 := li5
      have w92 : (zI w73M 336 5).toInt = (zI M 336 5).toInt := (congrArg Int32.toInt ((w73F 336 5 rfl).trans ((w36F 336 5 rfl).trans rfl))).trans rfl
      have w93 : (zI w73M 336 7).toInt = (zI w73M 336 7).toInt := (congrArg Int32.toInt rfl).trans rfl
      have w94 : (zI w73M 336 6).toInt = (zI w73M 336 6).toInt := (congrArg Int32.toInt rfl).trans rfl
      refine zs_invV (pc := 51) (k := 336) (as' := [.int (-5 : Int32), .int (5 : Int32)]) (st := []) t248_51 mf243 rfl rfl (Or.inl ⟨by decide, (zk1 (w73s.k fk_zMm_336))⟩) ⟨by decide, by decide, Nat.le_of_ble_eq_true rfl, Nat.le_of_ble_eq_true rfl⟩ (R243 w73s w73I (by omega) (by omega) (by omega) (zTm.mk x1 (fun j => ((w73F 339 j rfl).trans (w36F 339 j rfl))) ((w73F 336 5 rfl).trans (w36F 336 5 rfl))) ?_) (fun _ _ q => q)
      intro w95M w95v w95s w95I w95F w95J w95x0 w95a w95b
      show zGo X l 4 0 0 248 54 [(3, .int w16v), (2, .int (zI M 337 2)), (0, .ref 336), (1, .int a)] [.int w95v] w95M _
      rcases w95x0 w79q (by omega) with ⟨w96v, w96e, w96x, w96_1, w96_2, w96_3, w96_4, w96_5, w96_6, w96_7, w96_8, w96_9, w96_10⟩ | ⟨w96v, w96_8, w96z⟩
      · skip
        rw [show (-5 : Int32).toInt = -5 by decide, show (5 : Int32).toInt = 5 by decide] at w96z
        refine zs_if_neF (pc := 54) t248_54 rfl (by omega) ?_
        refine zs_iconst (pc := 57) t248_57 (v := 0) (by decide) ?_
        have w97 := ib336_7 w95I
        have w98 : (zI w95M 336 7).toInt = (zI w95M 336 7).toInt := (congrArg Int32.toInt rfl).trans rfl
        have w99 := ib336_6 w95I
        have w100 : (zI w95M 336 6).toInt = (zI w95M 336 6).toInt := (congrArg Int32.toInt rfl).trans rfl
        have w101 := li0
        have w102 : (zI w95M 336 6).toInt = (zI w95M 336 6).toInt := (congrArg Int32.toInt rfl).trans rfl
        have w103 : (zI w95M 336 7).toInt = (zI w95M 336 7).toInt := (congrArg Int32.toInt rfl).trans rfl
        exact zs_iret (pc := 58) t248_58 mr248 (by decide) (hQ _ _ w95s w95I ((((zFr.refl).trans (w36F.mono rfl)).trans (w73F.mono rfl)).trans (w95F.mono rfl)) (w95J.trans (w73J.trans w36J)) ((((zUp.refl).trans w36U).trans w73U).trans (zUp.fr w95F rfl)) (zPR.fr w73PR (w95F.eq rfl)) (zPC.fr w73PC (w95F.eq rfl)) (by omega) (by omega) (fun p hp => by
            obtain rfl : w7n = p := (by omega)
            exact Or.inr ⟨by first | decide | omega, by omega, ((pB.y (by have z := w42_1; rw [show (-9999 : Int32).toInt = (-9999) by first | decide | omega, show (9999 : Int32).toInt = 9999 by first | decide | omega, show (44 : Int32).toInt = 44 by first | decide | omega] at z; exact z)).trans (pB.y (by have z := w79_1; rw [show (-50 : Int32).toInt = (-50) by first | decide | omega, show (50 : Int32).toInt = 50 by first | decide | omega, show (44 : Int32).toInt = 44 by first | decide | omega] at z; exact z))).trans (pB.f (by rcases w96z with q | ⟨e, x, q, q2⟩; exact pRd.f q; exact pRd.n q (by omega)))⟩) (by decide) (by decide))
      · skip
        have w96k : (-5 : Int) ≤ w96x ∧ w96x ≤ 5 := ⟨by have z := w96_2; rw [show (-5 : Int32).toInt = -5 by decide] at z; exact z, by have z := w96_3; rw [show (5 : Int32).toInt = 5 by decide] at z; exact z⟩
        refine zs_if_neT (pc := 54) t248_54 rfl (by omega) ?_
        refine zs_aload_n (pc := 59) t248_59 rfl ?_
        refine zs_get (pc := 60) t248_60 (by decide) (zk1 (w95s.k fk_zMm_336)) (w95s.p rfl fv_zMm_336_0) ?_
        refine zs_iload_n (pc := 63) t248_63 rfl ?_
        refine zs_iconst (pc := 64) t248_64 (v := 2) (by decide) ?_
        obtain ⟨w104v, w104e, w104⟩ := ziadd (a := w16v) (b := (2 : Int32)) w16 li2 (by omega) (by omega)
        refine zs_iadd (pc := 65) t248_65 (c := w104v) w104e ?_
        refine zs_aload_n (pc := 66) t248_66 rfl ?_
        have w105 := zrg (zI w95M 336 8)
        refine zs_get (pc := 67) t248_67 (by decide) (zk1 (w95s.k fk_zMm_336)) (zfvi rfl rfl) ?_
        have w106a := aN (p := (272 + 3 * w52n)) (by omega)
        have w106 : zIv mLo mHi (zsI w95M 337 (272 + 3 * w52n) (zI w95M 336 8)) := zIv.putA w95I (by omega) (by rw [w106a.1, w106a.2]; exact zrg (zI w95M 336 8))
        have w107 : (zI w95M 337 0).toInt = (zI w73M 337 0).toInt := (congrArg Int32.toInt ((w95F 337 0 rfl).trans rfl)).trans rfl
        have w108 : (zI w95M 337 1).toInt = (zI w73M 337 1).toInt := (congrArg Int32.toInt ((w95F 337 1 rfl).trans rfl)).trans rfl
        have w109 : zPR (zsI w95M 337 (272 + 3 * w52n) (zI w95M 336 8)) := zPR.put (zPR.fr w73PR (w95F.eq rfl)) (by omega) (by omega) (by omega) (by omega)
        have w110 : zPC (zsI w95M 337 (272 + 3 * w52n) (zI w95M 336 8)) := zPC.put (zPC.fr w73PC (w95F.eq rfl)) (by omega) (by omega)
        have w111 : zRw (zsI w95M 337 (272 + 3 * w52n) (zI w95M 336 8)) 0 (uS (uS (uS F (270 + 3 * w52n) w42x) (271 + 3 * w52n) w79x) (272 + 3 * w52n) w96x) := zRw.put (zRw.fr' w79r (fun j hj => (w95F 337 j rfl))) (by omega)
        refine zs_iast (pc := 70) t248_70 (j := (272 + 3 * w52n)) (by decide) (zk1 (w95s.k fk_zMm_337)) (show w104v.toInt = (((272 + 3 * w52n) : Nat) : Int) by omega) (zk2 (w95s.k fk_zMm_337) (by omega)) ?_
        refine zs_iconst (pc := 71) t248_71 (v := 0) (by decide) ?_
        refine zs_istore (pc := 72) t248_72 (ls' := [(4, .int (0 : Int32)), (3, .int w16v), (2, .int (zI M 337 2)), (0, .ref 336), (1, .int a)]) (zml mf248 (by decide)) rfl ?_
        have w112L : ∀ (m : Nat) (w112x4 : Int32) (w112M : zM), (0 ≤ w112x4.toInt ∧ w112x4.toInt ≤ 8) → zSk zMm w112M → zIv mLo mHi w112M → zFr [(337, 337, none)] (zsI w95M 337 (272 + 3 * w52n) (zI w95M 336 8)) w112M → zJ w112M 351 = zJ (zsI w95M 337 (272 + 3 * w52n) (zI w95M 336 8)) 351 → zUp (zsI w95M 337 (272 + 3 * w52n) (zI w95M 336 8)) w112M → zPR w112M → zPC w112M → ((zI w112M 337 0).toInt = (zI (zsI w95M 337 (272 + 3 * w52n) (zI w95M 336 8)) 337 0).toInt) → ((zI w112M 337 2).toInt = (zI (zsI w95M 337 (272 + 3 * w52n) (zI w95M 336 8)) 337 2).toInt) → (w112x4.toInt ≤ F 0) → (∀ l : Nat, (l : Int) = w112x4.toInt → ∃ G, zPm F w42x w79x w96x l G ∧ zRw w112M 0 G) → 8 - w112x4.toInt ≤ (m : Int) → zGo X l 4 0 0 248 74 [(0, .ref 336), (1, .int a), (2, .int (zI M 337 2)), (3, .int w16v), (4, .int w112x4)] [] w112M Q := by
          intro m
          induction m using Nat.strongRecOn with
          | ind w112m w112ih =>
            intro w112x4 w112M w112b4 w112s w112I w112F w112J w112U w112PR w112PC w112r0 w112r1 w112r2 w112t0 w112q
            obtain ⟨w113n, w113⟩ : ∃ n : Nat, w112x4.toInt = (n : Int) := ⟨(w112x4.toInt).toNat, by omega⟩
            obtain ⟨w112G, w112d, w112g⟩ := w112t0 w113n (by omega)
            have w112z := w112d.par (n := w52n) (by omega)
            have w112y := w112d.1.2.1.1
            have w112u : uS w112G 2 (F 2 + 1) 1 = w112G 1 ∧ uS w112G 2 (F 2 + 1) 0 = w112G 0 ∧ w112G 0 = F 0 := ⟨uS.o (by decide), uS.o (by decide), w112d.1.2.2 0 (Or.inl rfl)⟩
            have w112w : (zI w112M 337 1).toInt = w112G 1 := w112g.at (by decide) (by decide) (by decide)
            have w114 := ibA0 w112I
            have w115 : (zI (zsI w95M 337 (272 + 3 * w52n) (zI w95M 336 8)) 337 0).toInt = (zI w73M 337 0).toInt := (congrArg Int32.toInt ((zIoj (by omega)).trans ((w95F 337 0 rfl).trans rfl))).trans rfl
            have w116 := ibA2 w112I
            have w117 : (zI (zsI w95M 337 (272 + 3 * w52n) (zI w95M 336 8)) 337 2).toInt = (zI w73M 337 2).toInt := (congrArg Int32.toInt ((zIoj (by omega)).trans ((w95F 337 2 rfl).trans rfl))).trans rfl
            refine zs_iload (pc := 74) t248_74 rfl ?_
            refine zs_aload_n (pc := 76) t248_76 rfl ?_
            refine zs_get (pc := 77) t248_77 (by decide) (zk1 (w112s.k fk_zMm_336)) (w112s.p rfl fv_zMm_336_0) ?_
            refine zs_iconst (pc := 80) t248_80 (v := 0) (by decide) ?_
            have w118 : (zI w112M 337 0).toInt = w112G 0 := w112g.at (by decide) (by decide) (by decide)
            refine zs_iald (pc := 81) t248_81 (j := 0) (by decide) (zk1 (w112s.k fk_zMm_337)) li0 (zk2 (w112s.k fk_zMm_337) (by decide)) rfl ?_
            by_cases w119 : (zI w112M 337 0).toInt ≤ w112x4.toInt
            · refine zs_icmp_geT (pc := 82) t248_82 rfl rfl (by omega) ?_
              refine zs_aload_n (pc := 175) t248_175 rfl ?_
              refine zs_get (pc := 176) t248_176 (by decide) (zk1 (w112s.k fk_zMm_336)) (w112s.p rfl fv_zMm_336_0) ?_
              refine zs_iconst (pc := 179) t248_179 (v := 2) (by decide) ?_
              refine zs_dup2 (pc := 180) t248_180 ⟨rfl, rfl⟩ ?_
              have w120 : (zI w112M 337 2).toInt = w112G 2 := w112g.at (by decide) (by decide) (by decide)
              refine zs_iald (pc := 181) t248_181 (j := 2) (by decide) (zk1 (w112s.k fk_zMm_337)) li2 (zk2 (w112s.k fk_zMm_337) (by decide)) rfl ?_
              refine zs_iconst (pc := 182) t248_182 (v := 1) (by decide) ?_
              obtain ⟨w121v, w121e, w121⟩ := ziadd (a := (zI w112M 337 2)) (b := (1 : Int32)) rfl li1 (by omega) (by omega)
              refine zs_iadd (pc := 183) t248_183 (c := w121v) w121e ?_
              have w122 : zIv mLo mHi (zsI w112M 337 2 w121v) := zIv.putA w112I (by decide) (show 0 ≤ w121v.toInt ∧ w121v.toInt ≤ 12 from ⟨by omega, by omega⟩)
              have w123 : (zI w112M 337 0).toInt = (zI w112M 337 0).toInt := (congrArg Int32.toInt rfl).trans rfl
              have w124 := ibA1 w112I
              have w125 : (zI w112M 337 1).toInt = (zI w112M 337 1).toInt := (congrArg Int32.toInt rfl).trans rfl
              have w126 : zPR (zsI w112M 337 2 w121v) := zPR.put w112PR (by omega) (by omega) (by omega) (by omega)
              have w127 : zPC (zsI w112M 337 2 w121v) := zPC.put w112PC (by decide) (by decide)
              have w128 : zRw (zsI w112M 337 2 w121v) 0 (uS w112G 2 (F 2 + 1)) := zRw.put w112g (by omega)
              refine zs_iast (pc := 184) t248_184 (j := 2) (by decide) (zk1 (w112s.k fk_zMm_337)) li2 (zk2 (w112s.k fk_zMm_337) (by decide)) ?_
              refine zs_aload_n (pc := 185) t248_185 rfl ?_
              refine zs_bipush (pc := 186) t248_186 (v := 59) (by decide) ?_
              have w129 := ib336_6 w95I
              have w130 : (zI (zsI w112M 337 2 w121v) 336 6).toInt = (zI w95M 336 6).toInt := (congrArg Int32.toInt ((zIo (by decide)).trans ((w112F 336 6 rfl).trans ((zIo (by decide)).trans rfl)))).trans rfl
              have w131 : (59 : Int32).toInt = 59 := li59
              have w132 : (zI (zsI w112M 337 2 w121v) 336 5).toInt = (zI M 336 5).toInt := (congrArg Int32.toInt ((zIo (by decide)).trans ((w112F 336 5 rfl).trans ((zIo (by decide)).trans ((w95F 336 5 rfl).trans ((w73F 336 5 rfl).trans ((w36F 336 5 rfl).trans rfl))))))).trans rfl
              have w133 := ib336_7 w95I
              have w134 : (zI (zsI w112M 337 2 w121v) 336 7).toInt = (zI w95M 336 7).toInt := (congrArg Int32.toInt ((zIo (by decide)).trans ((w112F 336 7 rfl).trans ((zIo (by decide)).trans rfl)))).trans rfl
              have w135 : (zI (zsI w112M 337 2 w121v) 336 6).toInt = (zI w95M 336 6).toInt := (congrArg Int32.toInt ((zIo (by decide)).trans ((w112F 336 6 rfl).trans ((zIo (by decide)).trans rfl)))).trans rfl
              refine zs_invV (pc := 188) (k := 336) (as' := [.int (59 : Int32)]) (st := []) t248_188 mf246 rfl rfl (Or.inl ⟨by decide, (zk1 (w112s.k fk_zMm_336))⟩) ⟨by decide, by decide, Nat.le_of_ble_eq_true rfl, Nat.le_of_ble_eq_true rfl⟩ (R246 w112s w122 ⟨by decide, by decide⟩ (by omega) (by omega) (by omega) (zTm.mk x1 (fun j => ((zIo (by decide)).trans ((w112F 339 j rfl).trans ((zIo (by decide)).trans ((w95F 339 j rfl).trans ((w73F 339 j rfl).trans (w36F 339 j rfl))))))) ((zIo (by decide)).trans ((w112F 336 5 rfl).trans ((zIo (by decide)).trans ((w95F 336 5 rfl).trans ((w73F 336 5 rfl).trans (w36F 336 5 rfl))))))) ?_) (fun _ _ q => q)
              intro w136M w136v w136s w136I w136F w136J w136x0 w136a w136b
              show zGo X l 4 0 0 248 191 [(0, .ref 336), (1, .int a), (2, .int (zI M 337 2)), (3, .int w16v), (4, .int w112x4)] [.int w136v] w136M _
              have w137 := ib336_7 w136I
              have w138 : (zI w136M 336 7).toInt = (zI w136M 336 7).toInt := (congrArg Int32.toInt rfl).trans rfl
              have w139 := ib336_6 w136I
              have w140 : (zI w136M 336 6).toInt = (zI w136M 336 6).toInt := (congrArg Int32.toInt rfl).trans rfl
              have w141 : (zI w136M 336 6).toInt = (zI w136M 336 6).toInt := (congrArg Int32.toInt rfl).trans rfl
              have w142 : (zI w136M 336 7).toInt = (zI w136M 336 7).toInt := (congrArg Int32.toInt rfl).trans rfl
              have w136y := x1.rg w96e
              rw [show (59 : Int32).toInt = 59 by decide] at w136x0
              exact zs_iret (pc := 191) t248_191 mr248 (zfb01 (by omega)) (hQ _ _ w136s w136I ((((((((zFr.refl).trans (w36F.mono rfl)).trans (w73F.mono rfl)).trans (w95F.mono rfl)).put rfl).trans (w112F.mono rfl)).put rfl).trans (w136F.mono rfl)) (w136J.trans (w112J.trans (w95J.trans (w73J.trans w36J)))) ((((((((zUp.refl).trans w36U).trans w73U).trans (zUp.fr w95F rfl)).put (Or.inr (by omega))).trans w112U).put (Or.inr (by decide))).trans (zUp.fr w136F rfl)) (zPR.fr w126 (w136F.eq rfl)) (zPC.fr w127 (w136F.eq rfl)) (by omega) (by omega) (fun p hp => by
                  obtain rfl : w7n = p := (by omega)
                  rcases w136x0 w96e (by omega) with ⟨q1, q2, q3, q4, q5⟩ | ⟨q1, q2, q3⟩
                  · exact Or.inl ⟨by omega, w96e + 1, _, ((pB.y (by have z := w42_1; rw [show (-9999 : Int32).toInt = (-9999) by first | decide | omega, show (9999 : Int32).toInt = 9999 by first | decide | omega, show (44 : Int32).toInt = 44 by first | decide | omega] at z; exact z)).trans (pB.y (by have z := w79_1; rw [show (-50 : Int32).toInt = (-50) by first | decide | omega, show (50 : Int32).toInt = 50 by first | decide | omega, show (44 : Int32).toInt = 44 by first | decide | omega] at z; exact z))).trans ((pB.y (pRd.y w96_1 w96k.1 w96k.2 (by omega))).trans (pM.y (by rw [show (F 0).toNat = w113n by omega]; exact w112d.1.1))), by omega, by omega, by omega, by omega, (zRw.fr' w128 (fun j hj => (w136F 337 j rfl))), w112d.1.2.1⟩
                  · exact Or.inr ⟨by omega, by omega, ((pB.y (by have z := w42_1; rw [show (-9999 : Int32).toInt = (-9999) by first | decide | omega, show (9999 : Int32).toInt = 9999 by first | decide | omega, show (44 : Int32).toInt = 44 by first | decide | omega] at z; exact z)).trans (pB.y (by have z := w79_1; rw [show (-50 : Int32).toInt = (-50) by first | decide | omega, show (50 : Int32).toInt = 50 by first | decide | omega, show (44 : Int32).toInt = 44 by first | decide | omega] at z; exact z))).trans (pB.f (pRd.n w96_1 (by omega)))⟩) (by omega) (by omega))
            · refine zs_icmp_geF (pc := 82) t248_82 rfl rfl (by omega) ?_
              refine zs_aload_n (pc := 85) t248_85 rfl ?_
              refine zs_get (pc := 86) t248_86 (by decide) (zk1 (w112s.k fk_zMm_336)) (w112s.p rfl fv_zMm_336_0) ?_
              refine zs_iload_n (pc := 89) t248_89 rfl ?_
              have w143 := zrg (zI w112M 337 (270 + 3 * w52n))
              have w144 : (zI w112M 337 (270 + 3 * w52n)).toInt = w112G (270 + 3 * w52n) := w112g.at (by omega) (by omega) (by omega)
              refine zs_iald (pc := 90) t248_90 (j := (270 + 3 * w52n)) (by decide) (zk1 (w112s.k fk_zMm_337)) (show w16v.toInt = (((270 + 3 * w52n) : Nat) : Int) by omega) (zk2 (w112s.k fk_zMm_337) (by omega)) rfl ?_
              refine zs_aload_n (pc := 91) t248_91 rfl ?_
              refine zs_iload (pc := 92) t248_92 rfl ?_
              refine zs_aload_n (pc := 94) t248_94 rfl ?_
              refine zs_get (pc := 95) t248_95 (by decide) (zk1 (w112s.k fk_zMm_336)) (w112s.p rfl fv_zMm_336_0) ?_
              refine zs_iload_n (pc := 98) t248_98 rfl ?_
              refine zs_iconst (pc := 99) t248_99 (v := 1) (by decide) ?_
              obtain ⟨w145v, w145e, w145⟩ := ziadd (a := w16v) (b := (1 : Int32)) w16 li1 (by omega) (by omega)
              refine zs_iadd (pc := 100) t248_100 (c := w145v) w145e ?_
              have w146 := zrg (zI w112M 337 (271 + 3 * w52n))
              have w147 : (zI w112M 337 (271 + 3 * w52n)).toInt = w112G (271 + 3 * w52n) := w112g.at (by omega) (by omega) (by omega)
              refine zs_iald (pc := 101) t248_101 (j := (271 + 3 * w52n)) (by decide) (zk1 (w112s.k fk_zMm_337)) (show w145v.toInt = (((271 + 3 * w52n) : Nat) : Int) by omega) (zk2 (w112s.k fk_zMm_337) (by omega)) rfl ?_
              refine zs_aload_n (pc := 102) t248_102 rfl ?_
              refine zs_get (pc := 103) t248_103 (by decide) (zk1 (w112s.k fk_zMm_336)) (w112s.p rfl fv_zMm_336_0) ?_
              refine zs_iload_n (pc := 106) t248_106 rfl ?_
              refine zs_iconst (pc := 107) t248_107 (v := 2) (by decide) ?_
              obtain ⟨w148v, w148e, w148⟩ := ziadd (a := w16v) (b := (2 : Int32)) w16 li2 (by omega) (by omega)
              refine zs_iadd (pc := 108) t248_108 (c := w148v) w148e ?_
              have w149 := zrg (zI w112M 337 (272 + 3 * w52n))
              have w150 : (zI w112M 337 (272 + 3 * w52n)).toInt = w112G (272 + 3 * w52n) := w112g.at (by omega) (by omega) (by omega)
              refine zs_iald (pc := 109) t248_109 (j := (272 + 3 * w52n)) (by decide) (zk1 (w112s.k fk_zMm_337)) (show w148v.toInt = (((272 + 3 * w52n) : Nat) : Int) by omega) (zk2 (w112s.k fk_zMm_337) (by omega)) rfl ?_
              have w151 := zrg (zI w112M 337 (14 + 2 * w113n))
              refine zs_invV (pc := 110) (k := 336) (as' := [.int w112x4, .int (zI w112M 337 (271 + 3 * w52n)), .int (zI w112M 337 (272 + 3 * w52n))]) (st := [.int (zI w112M 337 (270 + 3 * w52n))]) t248_110 mf249 rfl rfl (Or.inl ⟨by decide, (zk1 (w112s.k fk_zMm_336))⟩) ⟨by decide, by decide, Nat.le_of_ble_eq_true rfl, Nat.le_of_ble_eq_true rfl⟩ (K249 w112s w112I ⟨by omega, by omega⟩ ?_) (fun _ _ q => q)
              have w152 := zrg (zlift w112M w112x4 (zI w112M 337 (271 + 3 * w52n)) (zI w112M 337 (272 + 3 * w52n)))
              have w153w := x2.2.1 w113n (by omega)
              have w153 : (zlift w112M w112x4 (zI w112M 337 (271 + 3 * w52n)) (zI w112M 337 (272 + 3 * w52n))).toInt = pLf F w113n w79x w96x := zliftE (by omega) (by omega) (by omega) (by omega) (by omega) (by omega) (by omega) ((w112g.at (by omega) (by omega) (by omega)).trans (w112d.1.2.2 _ (by omega))) w153w.1 w153w.2.1
              have w153b := pLf.b (l := w113n) (t := w79x) (k := w96x) w153w.1 w153w.2.1 (by omega) (by omega) (by omega) (by omega)
              have w153c : pLf F w113n w79x w96x = w79x * F (14 + 2 * w113n) / 100 + w96x * F (14 + 2 * w113n) * F (14 + 2 * w113n) / 10000 := rfl
              have w153e : -98901000 ≤ (zlift w112M w112x4 (zI w112M 337 (271 + 3 * w52n)) (zI w112M 337 (272 + 3 * w52n))).toInt ∧ (zlift w112M w112x4 (zI w112M 337 (271 + 3 * w52n)) (zI w112M 337 (272 + 3 * w52n))).toInt ≤ 98901000 := by omega
              show zGo X l 4 0 0 248 113 [(0, .ref 336), (1, .int a), (2, .int (zI M 337 2)), (3, .int w16v), (4, .int w112x4)] [.int (zlift w112M w112x4 (zI w112M 337 (271 + 3 * w52n)) (zI w112M 337 (272 + 3 * w52n))), .int (zI w112M 337 (270 + 3 * w52n))] w112M _
              obtain ⟨w154v, w154⟩ : ∃ v, v = (zI w112M 337 (270 + 3 * w52n)) + (zlift w112M w112x4 (zI w112M 337 (271 + 3 * w52n)) (zI w112M 337 (272 + 3 * w52n))) := ⟨_, rfl⟩
              have w154g := zrg w154v
              refine zs_iadd (pc := 113) t248_113 (c := w154v) w154.symm ?_
              refine zs_istore (pc := 114) t248_114 (ls' := [(5, .int w154v), (0, .ref 336), (1, .int a), (2, .int (zI M 337 2)), (3, .int w16v), (4, .int w112x4)]) (zml mf248 (by decide)) rfl ?_
              refine zs_iload (pc := 116) t248_116 rfl ?_
              refine zs_i2l (pc := 118) t248_118 rfl ?_
              refine zs_ldc2_w (pc := 119) t248_119 (v := -9999) (by decide) ?_
              refine zs_ldc2_w (pc := 122) t248_122 (v := 9999) (by decide) ?_
              by_cases w155 : (-9999) ≤ w154v.toInt ∧ w154v.toInt ≤ 9999
              · refine zs_invS (pc := 125) (as := [.long w154v.toInt64, .long (-9999 : Int64), .long (9999 : Int64)]) (st := []) t248_125 (by decide) mf228 rfl rfl ⟨by decide, by decide, Nat.le_of_ble_eq_true rfl, Nat.le_of_ble_eq_true rfl⟩ (K228T (zi2l rfl) lln9999 ll9999 (by omega) ?_) (fun _ _ q => q)
                show zGo X l 4 0 0 248 128 [(5, .int w154v), (0, .ref 336), (1, .int a), (2, .int (zI M 337 2)), (3, .int w16v), (4, .int w112x4)] [.int (1 : Int32)] w112M _
                refine zs_if_neT (pc := 128) t248_128 li1 (by decide) ?_
                refine zs_aload_n (pc := 134) t248_134 rfl ?_
                refine zs_get (pc := 135) t248_135 (by decide) (zk1 (w112s.k fk_zMm_336)) (w112s.p rfl fv_zMm_336_0) ?_
                refine zs_iconst (pc := 138) t248_138 (v := 1) (by decide) ?_
                have w156 := ibA1 w112I
                have w157 : (zI w112M 337 1).toInt = w112G 1 := w112g.at (by decide) (by decide) (by decide)
                refine zs_iald (pc := 139) t248_139 (j := 1) (by decide) (zk1 (w112s.k fk_zMm_337)) li1 (zk2 (w112s.k fk_zMm_337) (by decide)) rfl ?_
                refine zs_bipush (pc := 140) t248_140 (v := 60) (by decide) ?_
                by_cases w158 : (zI w112M 337 1).toInt ≠ 60
                · refine zs_icmp_neT (pc := 142) t248_142 rfl li60 (by omega) ?_
                  refine zs_aload_n (pc := 151) t248_151 rfl ?_
                  refine zs_iload (pc := 152) t248_152 rfl ?_
                  refine zs_iload (pc := 154) t248_154 rfl ?_
                  refine zs_aload_n (pc := 156) t248_156 rfl ?_
                  refine zs_iload (pc := 157) t248_157 rfl ?_
                  refine zs_invV (pc := 159) (k := 336) (as' := [.int w112x4]) (st := [.int w154v, .int w112x4, .ref 336]) t248_159 mf241 rfl rfl (Or.inl ⟨by decide, (zk1 (w112s.k fk_zMm_336))⟩) ⟨by decide, by decide, Nat.le_of_ble_eq_true rfl, Nat.le_of_ble_eq_true rfl⟩ (zs_in (by decide) mf241 (Nat.le_of_ble_eq_true rfl) ?_) (fun _ _ q => q)
                  show zGo X l 0 0 0 241 0 [(0, .ref 336), (1, .int w112x4)] [] w112M _
                  refine zs_aload_n (pc := 0) t241_0 rfl ?_
                  refine zs_get (pc := 1) t241_1 (by decide) (zk1 (w112s.k fk_zMm_336)) (w112s.p rfl fv_zMm_336_0) ?_
                  refine zs_bipush (pc := 4) t241_4 (v := 14) (by decide) ?_
                  refine zs_iconst (pc := 6) t241_6 (v := 2) (by decide) ?_
                  refine zs_iload_n (pc := 7) t241_7 rfl ?_
                  obtain ⟨w159v, w159⟩ : ∃ v, (2 : Int32) * w112x4 = v := ⟨_, rfl⟩
                  have w159g : w159v.toInt = 2 * w112x4.toInt := by rw [← w159]; exact zmulc li2 rfl (by omega) (by omega)
                  refine zs_imul (pc := 8) t241_8 (c := w159v) w159 ?_
                  obtain ⟨w160v, w160e, w160⟩ := ziadd (a := (14 : Int32)) (b := w159v) li14 w159g (by omega) (by omega)
                  refine zs_iadd (pc := 9) t241_9 (c := w160v) w160e ?_
                  have w161 : (zI w112M 337 (14 + 2 * w113n)).toInt = w112G (14 + 2 * w113n) := w112g.at (by omega) (by omega) (by omega)
                  have w162 : w112G (14 + 2 * w113n) = F (14 + 2 * w113n) := w112d.1.2.2 _ (by omega)
                  have w163 := x2.2.1 w113n (by omega)
                  refine zs_iald (pc := 10) t241_10 (j := (14 + 2 * w113n)) (by decide) (zk1 (w112s.k fk_zMm_337)) (show w160v.toInt = (((14 + 2 * w113n) : Nat) : Int) by omega) (zk2 (w112s.k fk_zMm_337) (by omega)) rfl ?_
                  refine zs_iret (pc := 11) t241_11 mr241 rfl ?_
                  show zGo X l 4 0 0 248 162 [(5, .int w154v), (0, .ref 336), (1, .int a), (2, .int (zI M 337 2)), (3, .int w16v), (4, .int w112x4)] [.int (zI w112M 337 (14 + 2 * w113n)), .int w154v, .int w112x4, .ref 336] w112M _
                  refine zs_bipush (pc := 162) t248_162 (v := 10) (by decide) ?_
                  obtain ⟨w164v, w164⟩ : ∃ v, (zI w112M 337 (14 + 2 * w113n)) / (10 : Int32) = v := ⟨_, rfl⟩
                  have w164g : w164v.toInt = (zI w112M 337 (14 + 2 * w113n)).toInt / 10 := by rw [← w164]; exact zdivp rfl li10 (by omega) (by decide)
                  refine zs_idiv (pc := 164) t248_164 (by decide) (c := w164v) w164 ?_
                  refine zs_iload_n (pc := 165) t248_165 rfl ?_
                  have w165 : (zI w112M 337 0).toInt = (zI w112M 337 0).toInt := (congrArg Int32.toInt rfl).trans rfl
                  have w166 : (zI w112M 337 1).toInt = (zI w112M 337 1).toInt := (congrArg Int32.toInt rfl).trans rfl
                  have w167 : (zI w112M 337 0).toInt = (zI w112M 337 0).toInt := (congrArg Int32.toInt rfl).trans rfl
                  have w168 : (zI w112M 337 2).toInt = (zI w112M 337 2).toInt := (congrArg Int32.toInt rfl).trans rfl
                  have w169 : (zI w112M 337 1).toInt = (zI w112M 337 1).toInt := (congrArg Int32.toInt rfl).trans rfl
                  refine zs_invV (pc := 166) (k := 336) (as' := [.int w112x4, .int w154v, .int w164v, .int (zI M 337 2)]) (st := []) t248_166 mf252 rfl rfl (Or.inl ⟨by decide, (zk1 (w112s.k fk_zMm_336))⟩) ⟨by decide, by decide, Nat.le_of_ble_eq_true rfl, Nat.le_of_ble_eq_true rfl⟩ (R252 w112s w112I w112PR w112PC ⟨by omega, by omega⟩ (by omega) (by omega) w112g ?_) (fun _ _ q => q)
                  intro w170M w170s w170I w170F w170J w170U w170PR w170PC w170t0 w170t1 w170t2 w170x0
                  have w171 := ibA0 w170I
                  have w172 := ibA2 w170I
                  have w173 := ibA1 w170I
                  show zGo X l 4 0 0 248 169 [(5, .int w154v), (0, .ref 336), (1, .int a), (2, .int (zI M 337 2)), (3, .int w16v), (4, .int w112x4)] [] w170M _
                  rw [show w112x4.toInt = (w113n : Int) by omega, show (zI M 337 2).toInt = F 2 by omega] at w170x0
                  obtain ⟨w174v, w174e, w174⟩ := ziadd (a := w112x4) (b := Int32.ofInt 1) rfl (show (Int32.ofInt 1).toInt = 1 by decide) (by omega) (by omega)
                  refine zs_iinc (pc := 169) t248_169 (ls' := [(4, .int w174v), (5, .int w154v), (0, .ref 336), (1, .int a), (2, .int (zI M 337 2)), (3, .int w16v)]) (zml mf248 (by decide)) rfl (c := w174v) w174e rfl ?_
                  refine zs_goto (pc := 172) t248_172 ?_
                  refine zGo.locals (ls' := [(0, .ref 336), (1, .int a), (2, .int (zI M 337 2)), (3, .int w16v), (4, .int w174v)]) (by simp) ?_
                  have w175 := w174
                  have w176 : (zI w170M 337 0).toInt = (zI w170M 337 0).toInt := (congrArg Int32.toInt rfl).trans rfl
                  have w177 : (zI w170M 337 2).toInt = (zI w170M 337 2).toInt := (congrArg Int32.toInt rfl).trans rfl
                  have w178 : w174v.toInt = (w112x4.toInt + 1) := w174
                  exact w112ih (w112m - 1) (by omega) w174v w170M ⟨by omega, by omega⟩ w170s w170I (((zFr.refl).trans (w112F.mono rfl)).trans (w170F.mono rfl)) (w170J.trans w112J) (((zUp.refl).trans w112U).trans w170U) w170PR w170PC (by omega) (by omega) (by omega) (fun l hl => by obtain rfl : w113n + 1 = l := (by omega); exact ⟨_, zPm.hit w112d x2 (by omega) (by omega) (by omega) (by omega) (by omega) (by omega), w170x0⟩) (by omega)
                · refine zs_icmp_neF (pc := 142) t248_142 rfl li60 (by omega) ?_
                  refine zs_aload_n (pc := 145) t248_145 rfl ?_
                  refine zs_iload_n (pc := 146) t248_146 rfl ?_
                  refine zs_invV (pc := 147) (k := 336) (as' := [.int a]) (st := []) t248_147 mf239 rfl rfl (Or.inl ⟨by decide, (zk1 (w112s.k fk_zMm_336))⟩) ⟨by decide, by decide, Nat.le_of_ble_eq_true rfl, Nat.le_of_ble_eq_true rfl⟩ (zs_in (by decide) mf239 (Nat.le_of_ble_eq_true rfl) ?_) (fun _ _ q => q)
                  show zGo X l 0 0 0 239 0 [(0, .ref 336), (1, .int a)] [] w112M _
                  refine zs_aload_n (pc := 0) t239_0 rfl ?_
                  refine zs_iload_n (pc := 1) t239_1 rfl ?_
                  have w179 : zIv mLo mHi (zsI w112M 336 7 a) := zIv.put w112I (show (-1) ≤ a.toInt ∧ a.toInt ≤ 500 from ⟨by omega, by omega⟩)
                  refine zs_putI (pc := 2) t239_2 (zk1 (w112s.k fk_zMm_336)) rfl ?_
                  refine zs_iconst (pc := 5) t239_5 (v := 0) (by decide) ?_
                  refine zs_iret (pc := 6) t239_6 mr239 (by decide) ?_
                  show zGo X l 4 0 0 248 150 [(5, .int w154v), (0, .ref 336), (1, .int a), (2, .int (zI M 337 2)), (3, .int w16v), (4, .int w112x4)] [.int (0 : Int32)] (zsI w112M 336 7 a) _
                  have w180 : (zI (zsI w112M 336 7 a) 336 7).toInt = a.toInt := (congrArg Int32.toInt zIs).trans rfl
                  have w181 : (zI (zsI w112M 336 7 a) 336 6).toInt = (zI w95M 336 6).toInt := (congrArg Int32.toInt ((zIoj (by decide)).trans ((w112F 336 6 rfl).trans ((zIo (by decide)).trans rfl)))).trans rfl
                  have w182 := li0
                  have w183 : (zI (zsI w112M 336 7 a) 336 6).toInt = (zI w95M 336 6).toInt := (congrArg Int32.toInt ((zIoj (by decide)).trans ((w112F 336 6 rfl).trans ((zIo (by decide)).trans rfl)))).trans rfl
                  have w184 : (zI (zsI w112M 336 7 a) 336 7).toInt = a.toInt := (congrArg Int32.toInt zIs).trans rfl
                  exact zs_iret (pc := 150) t248_150 mr248 (by decide) (hQ _ _ w112s w179 (((((((zFr.refl).trans (w36F.mono rfl)).trans (w73F.mono rfl)).trans (w95F.mono rfl)).put rfl).trans (w112F.mono rfl)).put rfl) (w112J.trans (w95J.trans (w73J.trans w36J))) (((((((zUp.refl).trans w36U).trans w73U).trans (zUp.fr w95F rfl)).put (Or.inr (by omega))).trans w112U).put (Or.inl (by decide))) (zPR.fr (M' := (zsI w112M 336 7 a)) w112PR (zEq.put rfl)) (zPC.fr (M' := (zsI w112M 336 7 a)) w112PC (zEq.put rfl)) (by omega) (by omega) (fun p hp => by
                      obtain rfl : w7n = p := (by omega)
                      by_cases z : gg w96e = 59
                      · exact Or.inr ⟨by first | decide | omega, by omega, ((pB.y (by have z := w42_1; rw [show (-9999 : Int32).toInt = (-9999) by first | decide | omega, show (9999 : Int32).toInt = 9999 by first | decide | omega, show (44 : Int32).toInt = 44 by first | decide | omega] at z; exact z)).trans (pB.y (by have z := w79_1; rw [show (-50 : Int32).toInt = (-50) by first | decide | omega, show (50 : Int32).toInt = 50 by first | decide | omega, show (44 : Int32).toInt = 44 by first | decide | omega] at z; exact z))).trans ((pB.y (pRd.y w96_1 w96k.1 w96k.2 z)).trans (pM.f (zPj.full w112d.1 (by omega) (by omega) (by omega) (by omega))))⟩
                      · exact Or.inr ⟨by first | decide | omega, by omega, ((pB.y (by have z := w42_1; rw [show (-9999 : Int32).toInt = (-9999) by first | decide | omega, show (9999 : Int32).toInt = 9999 by first | decide | omega, show (44 : Int32).toInt = 44 by first | decide | omega] at z; exact z)).trans (pB.y (by have z := w79_1; rw [show (-50 : Int32).toInt = (-50) by first | decide | omega, show (50 : Int32).toInt = 50 by first | decide | omega, show (44 : Int32).toInt = 44 by first | decide | omega] at z; exact z))).trans (pB.f (pRd.n w96_1 (Or.inr (Or.inr z))))⟩) (by decide) (by decide))
              · refine zs_invS (pc := 125) (as := [.long w154v.toInt64, .long (-9999 : Int64), .long (9999 : Int64)]) (st := []) t248_125 (by decide) mf228 rfl rfl ⟨by decide, by decide, Nat.le_of_ble_eq_true rfl, Nat.le_of_ble_eq_true rfl⟩ (K228F (zi2l rfl) lln9999 ll9999 (by omega) ?_) (fun _ _ q => q)
                show zGo X l 4 0 0 248 128 [(5, .int w154v), (0, .ref 336), (1, .int a), (2, .int (zI M 337 2)), (3, .int w16v), (4, .int w112x4)] [.int (0 : Int32)] w112M _
                refine zs_if_neF (pc := 128) t248_128 li0 (by decide) ?_
                refine zs_goto (pc := 131) t248_131 ?_
                obtain ⟨w185v, w185e, w185⟩ := ziadd (a := w112x4) (b := Int32.ofInt 1) rfl (show (Int32.ofInt 1).toInt = 1 by decide) (by omega) (by omega)
                refine zs_iinc (pc := 169) t248_169 (ls' := [(4, .int w185v), (5, .int w154v), (0, .ref 336), (1, .int a), (2, .int (zI M 337 2)), (3, .int w16v)]) (zml mf248 (by decide)) rfl (c := w185v) w185e rfl ?_
                refine zs_goto (pc := 172) t248_172 ?_
                refine zGo.locals (ls' := [(0, .ref 336), (1, .int a), (2, .int (zI M 337 2)), (3, .int w16v), (4, .int w185v)]) (by simp) ?_
                have w186 := w185
                have w187 : (zI w112M 337 0).toInt = (zI w112M 337 0).toInt := (congrArg Int32.toInt rfl).trans rfl
                have w188 : (zI w112M 337 2).toInt = (zI w112M 337 2).toInt := (congrArg Int32.toInt rfl).trans rfl
                have w189 : w185v.toInt = (w112x4.toInt + 1) := w185
                exact w112ih (w112m - 1) (by omega) w185v w112M ⟨by omega, by omega⟩ w112s w112I ((zFr.refl).trans (w112F.mono rfl)) w112J ((zUp.refl).trans w112U) w112PR w112PC (by omega) (by omega) (by omega) (fun l hl => by obtain rfl : w113n + 1 = l := (by omega); exact ⟨w112G, w112d.skip (by omega), w112g⟩) (by omega)
        refine zGo.locals (ls' := [(0, .ref 336), (1, .int a), (2, .int (zI M 337 2)), (3, .int w16v), (4, .int (0 : Int32))]) (by simp) ?_
        have w190 := li0
        have w191 : (zI (zsI w95M 337 (272 + 3 * w52n) (zI w95M 336 8)) 337 0).toInt = (zI w73M 337 0).toInt := (congrArg Int32.toInt ((zIoj (by omega)).trans ((w95F 337 0 rfl).trans rfl))).trans rfl
        have w192 : (zI (zsI w95M 337 (272 + 3 * w52n) (zI w95M 336 8)) 337 2).toInt = (zI w73M 337 2).toInt := (congrArg Int32.toInt ((zIoj (by omega)).trans ((w95F 337 2 rfl).trans rfl))).trans rfl
        exact w112L ((8 - 0 : Int).toNat) (0 : Int32) (zsI w95M 337 (272 + 3 * w52n) (zI w95M 336 8)) ⟨by decide, by decide⟩ w95s w106 zFr.refl rfl zUp.refl w109 w110 (by omega) (by omega) (by omega) (fun l hl => by obtain rfl : l = 0 := (by omega); exact ⟨_, zPm.zero x2 (by omega), by unfold pPar; rw [show (F 2).toNat = w52n by omega]; exact w111⟩) (by omega)
