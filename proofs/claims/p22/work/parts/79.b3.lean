theorem R248 {X : zX} {l : Launch} {M : zM} {Q : Option Value → zM → Prop} {a : Int32} (hs : zSk zMm M) (hI : zIv mLo mHi M) {F : Nat → Int} {gg : Nat → Int} {nn : Int} (pR : zPR M) (pC : zPC M) (ha : 0 ≤ a.toInt ∧ a.toInt ≤ 500) (u0 : (zI M 337 2).toInt < 12) (u1 : (zI M 336 6).toInt ≤ (zI M 336 5).toInt) (u2 : 0 ≤ (zI M 336 6).toInt) (u3 : (zI M 336 7).toInt = -1) (x0 : zRw M 0 F) (x1 : zTm M gg nn) (x2 : zWF F) (hQ : ∀ (M' : zM) (v : Int32), zSk zMm M' → zIv mLo mHi M' → zFr [(336, 336, some 6), (336, 336, some 7), (336, 336, some 8), (337, 337, none)] M M' → zJ M' 351 = zJ M 351 → zUp M M' → zPR M' → zPC M' → ((zI M 336 6).toInt ≤ (zI M' 336 6).toInt) → ((v.toInt = 1 ∧ (zI M' 336 7).toInt = (zI M 336 7).toInt) ∨ (v.toInt = 0 ∧ 0 ≤ (zI M' 336 7).toInt)) → (∀ p : Nat, (zI M 336 6).toInt = (p : Int) → (v.toInt = 1 ∧ ∃ (q : Nat) (F2 : Nat → Int), (pB (pRd gg p (-9999) 9999 44) fun q x => pB (pRd gg q (-50) 50 44) fun q2 y => pB (pRd gg q2 (-5) 5 59) fun q3 z => pM (pPt F x y z (F 0).toNat) fun G => some (q3, uS G 2 (F 2 + 1))) = some (q, F2) ∧ (zI M' 336 6).toInt = (q : Int) ∧ p < q ∧ (q : Int) ≤ nn ∧ (zI M' 336 7).toInt = -1 ∧ zRw M' 0 F2 ∧ zWF F2) ∨ (v.toInt = 0 ∧ (zI M' 336 7).toInt ≠ -1 ∧ (pB (pRd gg p (-9999) 9999 44) fun q x => pB (pRd gg q (-50) 50 44) fun q2 y => pB (pRd gg q2 (-5) 5 59) fun q3 z => pM (pPt F x y z (F 0).toNat) fun G => some (q3, uS G 2 (F 2 + 1))) = none)) → 0 ≤ v.toInt → v.toInt ≤ 1 → Q (some (.int v)) M') : zCall X l 4 0 0 248 [.ref 336, .int a] M Q := by
  have ga := zrg a
  refine zs_in (by decide) mf248 (Nat.le_of_ble_eq_true rfl) ?_
  show zGo X l 4 0 0 248 0 [(0, .ref 336), (1, .int a)] [] M _
  have hn := x1.2
  have w1 := ib336_5 hI
  have w2 : (zI M 336 5).toInt = (zI M 336 5).toInt := (congrArg Int32.toInt rfl).trans rfl
  have w3 := ib336_6 hI
  have w4 : (zI M 336 6).toInt = (zI M 336 6).toInt := (congrArg Int32.toInt rfl).trans rfl
  have w5 := ib336_7 hI
  have w6 : (zI M 336 7).toInt = (zI M 336 7).toInt := (congrArg Int32.toInt rfl).trans rfl
  obtain ⟨w7n, w7⟩ : ∃ n : Nat, (zI M 336 6).toInt = (n : Int) := ⟨((zI M 336 6).toInt).toNat, by omega⟩
  have f1 := x2.1
  have f3 := x2.2.2.2
  have w8 := ibA0 hI
  have w9 : (zI M 337 0).toInt = (zI M 337 0).toInt := (congrArg Int32.toInt rfl).trans rfl
  have e0 : (zI M 337 0).toInt = F 0 := x0.at (by decide) (by decide) (by decide)
  have w10 := ibA1 hI
  have w11 : (zI M 337 1).toInt = (zI M 337 1).toInt := (congrArg Int32.toInt rfl).trans rfl
  have e1 : (zI M 337 1).toInt = F 1 := x0.at (by decide) (by decide) (by decide)
  have w12 := ibA2 hI
  have w13 : (zI M 337 2).toInt = (zI M 337 2).toInt := (congrArg Int32.toInt rfl).trans rfl
  have e2 : (zI M 337 2).toInt = F 2 := x0.at (by decide) (by decide) (by decide)
  refine zs_aload_n (pc := 0) t248_0 rfl ?_
  refine zs_get (pc := 1) t248_1 (by decide) (zk1 (hs.k fk_zMm_336)) (hs.p rfl fv_zMm_336_0) ?_
  refine zs_iconst (pc := 4) t248_4 (v := 2) (by decide) ?_
  have w14 : (zI M 337 2).toInt = F 2 := x0.at (by decide) (by decide) (by decide)
  refine zs_iald (pc := 5) t248_5 (j := 2) (by decide) (zk1 (hs.k fk_zMm_337)) li2 (zk2 (hs.k fk_zMm_337) (by decide)) rfl ?_
  refine zs_istore_n (pc := 6) t248_6 (ls' := [(2, .int (zI M 337 2)), (0, .ref 336), (1, .int a)]) (zml mf248 (by decide)) rfl ?_
  refine zs_sipush (pc := 7) t248_7 (v := 270) (by decide) ?_
  refine zs_iconst (pc := 10) t248_10 (v := 3) (by decide) ?_
  refine zs_iload_n (pc := 11) t248_11 rfl ?_
  obtain ⟨w15v, w15⟩ : ∃ v, (3 : Int32) * (zI M 337 2) = v := ⟨_, rfl⟩
  have w15g : w15v.toInt = 3 * (zI M 337 2).toInt := by rw [← w15]; exact zmulc li3 rfl (by omega) (by omega)
  refine zs_imul (pc := 12) t248_12 (c := w15v) w15 ?_
  obtain ⟨w16v, w16e, w16⟩ := ziadd (a := (270 : Int32)) (b := w15v) li270 w15g (by omega) (by omega)
  refine zs_iadd (pc := 13) t248_13 (c := w16v) w16e ?_
  refine zs_istore_n (pc := 14) t248_14 (ls' := [(3, .int w16v), (2, .int (zI M 337 2)), (0, .ref 336), (1, .int a)]) (zml mf248 (by decide)) rfl ?_
  refine zs_aload_n (pc := 15) t248_15 rfl ?_
  refine zs_iload_n (pc := 16) t248_16 rfl ?_
  refine zs_sipush (pc := 17) t248_17 (v := -9999) (by decide) ?_
  refine zs_sipush (pc := 20) t248_20 (v := 9999) (by decide) ?_
  refine zs_bipush (pc := 23) t248_23 (v := 44) (by decide) ?_
  have w17 : (zI M 336 6).toInt = (zI M 336 6).toInt := (congrArg Int32.toInt rfl).trans rfl
  have w18 : w16v.toInt = (270 + (3 * (zI M 337 2).toInt)) := w16
  have w19 : (-9999 : Int32).toInt = (-9999) := lin9999
  have w20 : (9999 : Int32).toInt = 9999 := li9999
  have w21 : (44 : Int32).toInt = 44 := li44
  have w22 : (zI M 337 0).toInt = (zI M 337 0).toInt := (congrArg Int32.toInt rfl).trans rfl
  have w23 : (zI M 336 6).toInt = (zI M 336 6).toInt := (congrArg Int32.toInt rfl).trans rfl
  have w24 : (zI M 336 5).toInt = (zI M 336 5).toInt := (congrArg Int32.toInt rfl).trans rfl
  have w25 : (zI M 337 1).toInt = (zI M 337 1).toInt := (congrArg Int32.toInt rfl).trans rfl
  have w26 : (zI M 336 7).toInt = (zI M 336 7).toInt := (congrArg Int32.toInt rfl).trans rfl
  have w27 : (zI M 337 1).toInt = (zI M 337 1).toInt := (congrArg Int32.toInt rfl).trans rfl
  have w28 : (zI M 336 7).toInt = (zI M 336 7).toInt := (congrArg Int32.toInt rfl).trans rfl
  have w29 : (zI M 337 0).toInt = (zI M 337 0).toInt := (congrArg Int32.toInt rfl).trans rfl
  have w30 : (zI M 336 6).toInt = (zI M 336 6).toInt := (congrArg Int32.toInt rfl).trans rfl
  have w31 : (zI M 337 2).toInt = (zI M 337 2).toInt := (congrArg Int32.toInt rfl).trans rfl
  have w33 : (-9999 : Int32).toInt = (-9999) := lin9999
  have w34 : (9999 : Int32).toInt = 9999 := li9999
  have w35 : w16v.toInt = (270 + (3 * (zI M 337 2).toInt)) := w16
  have w32 := aN (p := w16v.toInt.toNat) (by omega)
  refine zs_invV (pc := 25) (k := 336) (as' := [.int w16v, .int (-9999 : Int32), .int (9999 : Int32), .int (44 : Int32)]) (st := []) t248_25 mf242 rfl rfl (Or.inl ⟨by decide, (zk1 (hs.k fk_zMm_336))⟩) ⟨by decide, by decide, Nat.le_of_ble_eq_true rfl, Nat.le_of_ble_eq_true rfl⟩ (R242 hs hI pR pC ⟨by omega, by omega⟩ ⟨by decide, by decide⟩ (by omega) (by omega) (by omega) (by omega) (by omega) (by rw [w32.1, w32.2]; exact ⟨by omega, by omega⟩) x0 x1 ?_) (fun _ _ q => q)
  intro w36M w36v w36s w36I w36F w36J w36U w36PR w36PC w36t0 w36t1 w36t2 w36t3 w36t4 w36x0 w36x1 w36x2 w36a w36b
  have w37 := ibA0 w36I
  have w38 := ib336_6 w36I
  have w39 := ibA2 w36I
  have w40 := ibA1 w36I
  have w41 := ib336_7 w36I
  show zGo X l 4 0 0 248 28 [(3, .int w16v), (2, .int (zI M 337 2)), (0, .ref 336), (1, .int a)] [.int w36v] w36M _
  have w43 : w16v.toInt = (270 + (3 * (zI M 337 2).toInt)) := w16
  have w44 : (-9999 : Int32).toInt = (-9999) := lin9999
  have w45 : (9999 : Int32).toInt = 9999 := li9999
  have w46 : (44 : Int32).toInt = 44 := li44
  rcases w36x2 w7n (by omega) with ⟨w42v, w42q, w42x, w42_1, w42_2, w42_3, w42_4, w42_5, w42_6, w42_7, w42r⟩ | ⟨w42v, w42_5, w42z⟩
  · skip
    obtain ⟨w47n, w47⟩ : ∃ n : Nat, (zI M 337 2).toInt = (n : Int) := ⟨((zI M 337 2).toInt).toNat, by omega⟩
    rw [show w16v.toInt.toNat = (270 + 3 * w47n) by omega] at w42r
    refine zs_if_eqF (pc := 28) t248_28 rfl (by omega) ?_
    refine zs_aload_n (pc := 31) t248_31 rfl ?_
    refine zs_iload_n (pc := 32) t248_32 rfl ?_
    refine zs_iconst (pc := 33) t248_33 (v := 1) (by decide) ?_
    obtain ⟨w48v, w48e, w48⟩ := ziadd (a := w16v) (b := (1 : Int32)) w16 li1 (by omega) (by omega)
    refine zs_iadd (pc := 34) t248_34 (c := w48v) w48e ?_
    refine zs_bipush (pc := 35) t248_35 (v := -50) (by decide) ?_
    refine zs_bipush (pc := 37) t248_37 (v := 50) (by decide) ?_
    refine zs_bipush (pc := 39) t248_39 (v := 44) (by decide) ?_
    have w49 : (zI w36M 336 6).toInt = (zI w36M 336 6).toInt := (congrArg Int32.toInt rfl).trans rfl
    have w50 : w48v.toInt = ((270 + (3 * (zI M 337 2).toInt)) + 1) := w48
    have w51 : (-50 : Int32).toInt = (-50) := lin50
    have w52 : (50 : Int32).toInt = 50 := li50
    have w53 : (44 : Int32).toInt = 44 := li44
    have w54 : (zI w36M 337 0).toInt = (zI w36M 337 0).toInt := (congrArg Int32.toInt rfl).trans rfl
    have w55 : (zI w36M 336 6).toInt = (zI w36M 336 6).toInt := (congrArg Int32.toInt rfl).trans rfl
    have w56 : (zI w36M 336 5).toInt = (zI M 336 5).toInt := (congrArg Int32.toInt ((w36F 336 5 rfl).trans rfl)).trans rfl
    have w57 : (zI w36M 337 1).toInt = (zI w36M 337 1).toInt := (congrArg Int32.toInt rfl).trans rfl
    have w58 : (zI w36M 336 7).toInt = (zI w36M 336 7).toInt := (congrArg Int32.toInt rfl).trans rfl
    have w59 : (zI w36M 337 1).toInt = (zI w36M 337 1).toInt := (congrArg Int32.toInt rfl).trans rfl
    have w60 : (zI w36M 336 7).toInt = (zI w36M 336 7).toInt := (congrArg Int32.toInt rfl).trans rfl
    have w61 : (zI w36M 337 0).toInt = (zI w36M 337 0).toInt := (congrArg Int32.toInt rfl).trans rfl
    have w62 : (zI w36M 336 6).toInt = (zI w36M 336 6).toInt := (congrArg Int32.toInt rfl).trans rfl
    have w63 : (zI w36M 337 2).toInt = (zI w36M 337 2).toInt := (congrArg Int32.toInt rfl).trans rfl
    have w65 : (-50 : Int32).toInt = (-50) := lin50
    have w66 : (50 : Int32).toInt = 50 := li50
    have w67 : w48v.toInt = ((270 + (3 * (zI M 337 2).toInt)) + 1) := w48
    have w64 := aN (p := w48v.toInt.toNat) (by omega)
    refine zs_invV (pc := 41) (k := 336) (as' := [.int w48v, .int (-50 : Int32), .int (50 : Int32), .int (44 : Int32)]) (st := []) t248_41 mf242 rfl rfl (Or.inl ⟨by decide, (zk1 (w36s.k fk_zMm_336))⟩) ⟨by decide, by decide, Nat.le_of_ble_eq_true rfl, Nat.le_of_ble_eq_true rfl⟩ (R242 w36s w36I w36PR w36PC ⟨by omega, by omega⟩ ⟨by decide, by decide⟩ (by omega) (by omega) (by omega) (by omega) (by omega) (by rw [w64.1, w64.2]; exact ⟨by omega, by omega⟩) w42r (zTm.mk x1 (fun j => (w36F 339 j rfl)) (w36F 336 5 rfl)) ?_) (fun _ _ q => q)
    intro w68M w68v w68s w68I w68F w68J w68U w68PR w68PC w68t0 w68t1 w68t2 w68t3 w68t4 w68x0 w68x1 w68x2 w68a w68b
    have w69 := ibA0 w68I
    have w70 := ib336_6 w68I
    have w71 := ibA2 w68I
    have w72 := ibA1 w68I
    have w73 := ib336_7 w68I
    show zGo X l 4 0 0 248 44 [(3, .int w16v), (2, .int (zI M 337 2)), (0, .ref 336), (1, .int a)] [.int w68v] w68M _
    have w75 : w48v.toInt = ((270 + (3 * (zI M 337 2).toInt)) + 1) := w48
    have w76 : (-50 : Int32).toInt = (-50) := lin50
    have w77 : (50 : Int32).toInt = 50 := li50
    have w78 : (44 : Int32).toInt = 44 := li44
    rcases w68x2 w42q (by omega) with ⟨w74v, w74q, w74x, w74_1, w74_2, w74_3, w74_4, w74_5, w74_6, w74_7, w74r⟩ | ⟨w74v, w74_5, w74z⟩
    · skip
      rw [show w48v.toInt.toNat = (271 + 3 * w47n) by omega] at w74r
      refine zs_if_eqF (pc := 44) t248_44 rfl (by omega) ?_
      refine zs_aload_n (pc := 47) t248_47 rfl ?_
      refine zs_bipush (pc := 48) t248_48 (v := -5) (by decide) ?_
      refine zs_iconst (pc := 50) t248_50 (v := 5) (by decide) ?_
      have w79 : (zI w68M 336 6).toInt = (zI w68M 336 6).toInt := (congrArg Int32.toInt rfl).trans rfl
      have w80 : (-5 : Int32).toInt = (-5) := lin5
      have w81 : (5 : Int32).toInt = 5 := li5
      have w82 : (zI w68M 336 6).toInt = (zI w68M 336 6).toInt := (congrArg Int32.toInt rfl).trans rfl
      have w83 : (zI w68M 336 5).toInt = (zI M 336 5).toInt := (congrArg Int32.toInt ((w68F 336 5 rfl).trans ((w36F 336 5 rfl).trans rfl))).trans rfl
      have w84 : (zI w68M 336 7).toInt = (zI w68M 336 7).toInt := (congrArg Int32.toInt rfl).trans rfl
      have w85 : (zI w68M 336 6).toInt = (zI w68M 336 6).toInt := (congrArg Int32.toInt rfl).trans rfl
      refine zs_invV (pc := 51) (k := 336) (as' := [.int (-5 : Int32), .int (5 : Int32)]) (st := []) t248_51 mf243 rfl rfl (Or.inl ⟨by decide, (zk1 (w68s.k fk_zMm_336))⟩) ⟨by decide, by decide, Nat.le_of_ble_eq_true rfl, Nat.le_of_ble_eq_true rfl⟩ (R243 w68s w68I (by omega) (by omega) (by omega) (zTm.mk x1 (fun j => ((w68F 339 j rfl).trans (w36F 339 j rfl))) ((w68F 336 5 rfl).trans (w36F 336 5 rfl))) ?_) (fun _ _ q => q)
      intro w86M w86v w86s w86I w86F w86J w86t0 w86x0 w86a w86b
      have w87 := ib336_6 w86I
      show zGo X l 4 0 0 248 54 [(3, .int w16v), (2, .int (zI M 337 2)), (0, .ref 336), (1, .int a)] [.int w86v] w86M _
      rcases w86x0 w74q (by omega) with ⟨w88v, w88e, w88x, w88_1, w88_2, w88_3, w88_4, w88_5, w88_6, w88_7, w88_8, w88_9, w88_10⟩ | ⟨w88v, w88_8, w88z⟩
      · skip
        have w88k : (-5 : Int) ≤ w88x ∧ w88x ≤ 5 := ⟨by have z := w88_2; rw [show (-5 : Int32).toInt = -5 by decide] at z; exact z, by have z := w88_3; rw [show (5 : Int32).toInt = 5 by decide] at z; exact z⟩
        refine zs_if_neT (pc := 54) t248_54 rfl (by omega) ?_
        refine zs_aload_n (pc := 59) t248_59 rfl ?_
        refine zs_get (pc := 60) t248_60 (by decide) (zk1 (w86s.k fk_zMm_336)) (w86s.p rfl fv_zMm_336_0) ?_
        refine zs_iload_n (pc := 63) t248_63 rfl ?_
        refine zs_iconst (pc := 64) t248_64 (v := 2) (by decide) ?_
        obtain ⟨w89v, w89e, w89⟩ := ziadd (a := w16v) (b := (2 : Int32)) w16 li2 (by omega) (by omega)
        refine zs_iadd (pc := 65) t248_65 (c := w89v) w89e ?_
        refine zs_aload_n (pc := 66) t248_66 rfl ?_
        have w90 := zrg (zI w86M 336 8)
        refine zs_get (pc := 67) t248_67 (by decide) (zk1 (w86s.k fk_zMm_336)) (zfvi rfl rfl) ?_
        have w91a := aN (p := (272 + 3 * w47n)) (by omega)
        have w91 : zIv mLo mHi (zsI w86M 337 (272 + 3 * w47n) (zI w86M 336 8)) := zIv.putA w86I (by omega) (by rw [w91a.1, w91a.2]; exact zrg (zI w86M 336 8))
        have w92 : (zI w86M 337 0).toInt = (zI w68M 337 0).toInt := (congrArg Int32.toInt ((w86F 337 0 rfl).trans rfl)).trans rfl
        have w93 : (zI w86M 337 1).toInt = (zI w68M 337 1).toInt := (congrArg Int32.toInt ((w86F 337 1 rfl).trans rfl)).trans rfl
        have w94 : zPR (zsI w86M 337 (272 + 3 * w47n) (zI w86M 336 8)) := zPR.put (zPR.fr w68PR (w86F.eq rfl)) (by omega) (by omega) (by omega) (by omega)
        have w95 : zPC (zsI w86M 337 (272 + 3 * w47n) (zI w86M 336 8)) := zPC.put (zPC.fr w68PC (w86F.eq rfl)) (by omega) (by omega)
        have w96 : zRw (zsI w86M 337 (272 + 3 * w47n) (zI w86M 336 8)) 0 (uS (uS (uS F (270 + 3 * w47n) w42x) (271 + 3 * w47n) w74x) (272 + 3 * w47n) w88x) := zRw.put (zRw.fr' w74r (fun j hj => (w86F 337 j rfl))) (by omega)
        refine zs_iast (pc := 70) t248_70 (j := (272 + 3 * w47n)) (by decide) (zk1 (w86s.k fk_zMm_337)) (show w89v.toInt = (((272 + 3 * w47n) : Nat) : Int) by omega) (zk2 (w86s.k fk_zMm_337) (by omega)) ?_
        refine zs_iconst (pc := 71) t248_71 (v := 0) (by decide) ?_
        refine zs_istore (pc := 72) t248_72 (ls' := [(4, .int (0 : Int32)), (3, .int w16v), (2, .int (zI M 337 2)), (0, .ref 336), (1, .int a)]) (zml mf248 (by decide)) rfl ?_
        have w97L : ∀ (m : Nat) (w97x4 : Int32) (w97M : zM), (0 ≤ w97x4.toInt ∧ w97x4.toInt ≤ 8) → zSk zMm w97M → zIv mLo mHi w97M → zFr [(337, 337, none)] (zsI w86M 337 (272 + 3 * w47n) (zI w86M 336 8)) w97M → zJ w97M 351 = zJ (zsI w86M 337 (272 + 3 * w47n) (zI w86M 336 8)) 351 → zUp (zsI w86M 337 (272 + 3 * w47n) (zI w86M 336 8)) w97M → zPR w97M → zPC w97M → ((zI w97M 337 0).toInt = (zI (zsI w86M 337 (272 + 3 * w47n) (zI w86M 336 8)) 337 0).toInt) → ((zI w97M 337 2).toInt = (zI (zsI w86M 337 (272 + 3 * w47n) (zI w86M 336 8)) 337 2).toInt) → (w97x4.toInt ≤ F 0) → (∀ l : Nat, (l : Int) = w97x4.toInt → ∃ G, zPm F w42x w74x w88x l G ∧ zRw w97M 0 G) → 8 - w97x4.toInt ≤ (m : Int) → zGo X l 4 0 0 248 74 [(0, .ref 336), (1, .int a), (2, .int (zI M 337 2)), (3, .int w16v), (4, .int w97x4)] [] w97M Q := by
          intro m
          induction m using Nat.strongRecOn with
          | ind w97m w97ih =>
            intro w97x4 w97M w97b4 w97s w97I w97F w97J w97U w97PR w97PC w97r0 w97r1 w97r2 w97t0 w97q
            obtain ⟨w98n, w98⟩ : ∃ n : Nat, w97x4.toInt = (n : Int) := ⟨(w97x4.toInt).toNat, by omega⟩
            obtain ⟨w97G, w97d, w97g⟩ := w97t0 w98n (by omega)
            have w97z := w97d.par (n := w47n) (by omega)
            have w97y := w97d.1.2.1.1
            have w97u : uS w97G 2 (F 2 + 1) 1 = w97G 1 ∧ uS w97G 2 (F 2 + 1) 0 = w97G 0 ∧ w97G 0 = F 0 := ⟨uS.o (by decide), uS.o (by decide), w97d.1.2.2 0 (Or.inl rfl)⟩
            have w97w : (zI w97M 337 1).toInt = w97G 1 := w97g.at (by decide) (by decide) (by decide)
            have w99 := ibA0 w97I
            have w100 : (zI (zsI w86M 337 (272 + 3 * w47n) (zI w86M 336 8)) 337 0).toInt = (zI w68M 337 0).toInt := (congrArg Int32.toInt ((zIoj (by omega)).trans ((w86F 337 0 rfl).trans rfl))).trans rfl
            have w101 := ibA2 w97I
            have w102 : (zI (zsI w86M 337 (272 + 3 * w47n) (zI w86M 336 8)) 337 2).toInt = (zI w68M 337 2).toInt := (congrArg Int32.toInt ((zIoj (by omega)).trans ((w86F 337 2 rfl).trans rfl))).trans rfl
            refine zs_iload (pc := 74) t248_74 rfl ?_
            refine zs_aload_n (pc := 76) t248_76 rfl ?_
            refine zs_get (pc := 77) t248_77 (by decide) (zk1 (w97s.k fk_zMm_336)) (w97s.p rfl fv_zMm_336_0) ?_
            refine zs_iconst (pc := 80) t248_80 (v := 0) (by decide) ?_
            have w103 : (zI w97M 337 0).toInt = w97G 0 := w97g.at (by decide) (by decide) (by decide)
            refine zs_iald (pc := 81) t248_81 (j := 0) (by decide) (zk1 (w97s.k fk_zMm_337)) li0 (zk2 (w97s.k fk_zMm_337) (by decide)) rfl ?_
            by_cases w104 : (zI w97M 337 0).toInt ≤ w97x4.toInt
            · refine zs_icmp_geT (pc := 82) t248_82 rfl rfl (by omega) ?_
              refine zs_aload_n (pc := 175) t248_175 rfl ?_
              refine zs_get (pc := 176) t248_176 (by decide) (zk1 (w97s.k fk_zMm_336)) (w97s.p rfl fv_zMm_336_0) ?_
              refine zs_iconst (pc := 179) t248_179 (v := 2) (by decide) ?_
              refine zs_dup2 (pc := 180) t248_180 ⟨rfl, rfl⟩ ?_
              have w105 : (zI w97M 337 2).toInt = w97G 2 := w97g.at (by decide) (by decide) (by decide)
              refine zs_iald (pc := 181) t248_181 (j := 2) (by decide) (zk1 (w97s.k fk_zMm_337)) li2 (zk2 (w97s.k fk_zMm_337) (by decide)) rfl ?_
              refine zs_iconst (pc := 182) t248_182 (v := 1) (by decide) ?_
              obtain ⟨w106v, w106e, w106⟩ := ziadd (a := (zI w97M 337 2)) (b := (1 : Int32)) rfl li1 (by omega) (by omega)
              refine zs_iadd (pc := 183) t248_183 (c := w106v) w106e ?_
              have w107 : zIv mLo mHi (zsI w97M 337 2 w106v) := zIv.putA w97I (by decide) (show 0 ≤ w106v.toInt ∧ w106v.toInt ≤ 12 from ⟨by omega, by omega⟩)
              have w108 : (zI w97M 337 0).toInt = (zI w97M 337 0).toInt := (congrArg Int32.toInt rfl).trans rfl
              have w109 := ibA1 w97I
              have w110 : (zI w97M 337 1).toInt = (zI w97M 337 1).toInt := (congrArg Int32.toInt rfl).trans rfl
              have w111 : zPR (zsI w97M 337 2 w106v) := zPR.put w97PR (by omega) (by omega) (by omega) (by omega)
              have w112 : zPC (zsI w97M 337 2 w106v) := zPC.put w97PC (by decide) (by decide)
              have w113 : zRw (zsI w97M 337 2 w106v) 0 (uS w97G 2 (F 2 + 1)) := zRw.put w97g (by omega)
              refine zs_iast (pc := 184) t248_184 (j := 2) (by decide) (zk1 (w97s.k fk_zMm_337)) li2 (zk2 (w97s.k fk_zMm_337) (by decide)) ?_
              refine zs_aload_n (pc := 185) t248_185 rfl ?_
              refine zs_bipush (pc := 186) t248_186 (v := 59) (by decide) ?_
              have w114 : (zI (zsI w97M 337 2 w106v) 336 6).toInt = (zI w86M 336 6).toInt := (congrArg Int32.toInt ((zIo (by decide)).trans ((w97F 336 6 rfl).trans ((zIo (by decide)).trans rfl)))).trans rfl
              have w115 : (59 : Int32).toInt = 59 := li59
              have w116 : (zI (zsI w97M 337 2 w106v) 336 6).toInt = (zI w86M 336 6).toInt := (congrArg Int32.toInt ((zIo (by decide)).trans ((w97F 336 6 rfl).trans ((zIo (by decide)).trans rfl)))).trans rfl
              have w117 : (zI (zsI w97M 337 2 w106v) 336 5).toInt = (zI M 336 5).toInt := (congrArg Int32.toInt ((zIo (by decide)).trans ((w97F 336 5 rfl).trans ((zIo (by decide)).trans ((w86F 336 5 rfl).trans ((w68F 336 5 rfl).trans ((w36F 336 5 rfl).trans rfl))))))).trans rfl
              have w118 := ib336_7 w86I
              have w119 : (zI (zsI w97M 337 2 w106v) 336 7).toInt = (zI w86M 336 7).toInt := (congrArg Int32.toInt ((zIo (by decide)).trans ((w97F 336 7 rfl).trans ((zIo (by decide)).trans rfl)))).trans rfl
              have w120 : (zI (zsI w97M 337 2 w106v) 336 6).toInt = (zI w86M 336 6).toInt := (congrArg Int32.toInt ((zIo (by decide)).trans ((w97F 336 6 rfl).trans ((zIo (by decide)).trans rfl)))).trans rfl
              have w121 : (zI (zsI w97M 337 2 w106v) 336 7).toInt = (zI w86M 336 7).toInt := (congrArg Int32.toInt ((zIo (by decide)).trans ((w97F 336 7 rfl).trans ((zIo (by decide)).trans rfl)))).trans rfl
              refine zs_invV (pc := 188) (k := 336) (as' := [.int (59 : Int32)]) (st := []) t248_188 mf246 rfl rfl (Or.inl ⟨by decide, (zk1 (w97s.k fk_zMm_336))⟩) ⟨by decide, by decide, Nat.le_of_ble_eq_true rfl, Nat.le_of_ble_eq_true rfl⟩ (R246 w97s w107 ⟨by decide, by decide⟩ (by omega) (by omega) (by omega) (zTm.mk x1 (fun j => ((zIo (by decide)).trans ((w97F 339 j rfl).trans ((zIo (by decide)).trans ((w86F 339 j rfl).trans ((w68F 339 j rfl).trans (w36F 339 j rfl))))))) ((zIo (by decide)).trans ((w97F 336 5 rfl).trans ((zIo (by decide)).trans ((w86F 336 5 rfl).trans ((w68F 336 5 rfl).trans (w36F 336 5 rfl))))))) ?_) (fun _ _ q => q)
              intro w122M w122v w122s w122I w122F w122J w122t0 w122t1 w122x0 w122a w122b
              have w123 := ib336_6 w122I
              have w124 := ib336_7 w122I
              show zGo X l 4 0 0 248 191 [(0, .ref 336), (1, .int a), (2, .int (zI M 337 2)), (3, .int w16v), (4, .int w97x4)] [.int w122v] w122M _
              have w125 : (zI w122M 336 6).toInt = (zI w122M 336 6).toInt := (congrArg Int32.toInt rfl).trans rfl
              have w126 : (zI w122M 336 7).toInt = (zI w122M 336 7).toInt := (congrArg Int32.toInt rfl).trans rfl
              have w127 : (zI w122M 336 6).toInt = (zI w122M 336 6).toInt := (congrArg Int32.toInt rfl).trans rfl
              have w128 : (zI w122M 336 7).toInt = (zI w122M 336 7).toInt := (congrArg Int32.toInt rfl).trans rfl
              have w122y := x1.rg w88e
              rw [show (59 : Int32).toInt = 59 by decide] at w122x0
              exact zs_iret (pc := 191) t248_191 mr248 (zfb01 (by omega)) (hQ _ _ w122s w122I ((((((((zFr.refl).trans (w36F.mono rfl)).trans (w68F.mono rfl)).trans (w86F.mono rfl)).put rfl).trans (w97F.mono rfl)).put rfl).trans (w122F.mono rfl)) (w122J.trans (w97J.trans (w86J.trans (w68J.trans w36J)))) ((((((((zUp.refl).trans w36U).trans w68U).trans (zUp.fr w86F rfl)).put (Or.inr (by omega))).trans w97U).put (Or.inr (by decide))).trans (zUp.fr w122F rfl)) (zPR.fr w111 (w122F.eq rfl)) (zPC.fr w112 (w122F.eq rfl)) (by omega) (by omega) (fun p hp => by
                  obtain rfl : w7n = p := (by omega)
                  rcases w122x0 w88e (by omega) with ⟨q1, q2, q3, q4, q5⟩ | ⟨q1, q2, q3⟩
                  · exact Or.inl ⟨by omega, w88e + 1, _, ((pB.y (by have z := w42_1; rw [show (-9999 : Int32).toInt = (-9999) by first | decide | omega, show (9999 : Int32).toInt = 9999 by first | decide | omega, show (44 : Int32).toInt = 44 by first | decide | omega] at z; exact z)).trans (pB.y (by have z := w74_1; rw [show (-50 : Int32).toInt = (-50) by first | decide | omega, show (50 : Int32).toInt = 50 by first | decide | omega, show (44 : Int32).toInt = 44 by first | decide | omega] at z; exact z))).trans ((pB.y (pRd.y w88_1 w88k.1 w88k.2 (by omega))).trans (pM.y (by rw [show (F 0).toNat = w98n by omega]; exact w97d.1.1))), by omega, by omega, by omega, by omega, (zRw.fr' w113 (fun j hj => (w122F 337 j rfl))), w97d.1.2.1⟩
                  · exact Or.inr ⟨by omega, by omega, ((pB.y (by have z := w42_1; rw [show (-9999 : Int32).toInt = (-9999) by first | decide | omega, show (9999 : Int32).toInt = 9999 by first | decide | omega, show (44 : Int32).toInt = 44 by first | decide | omega] at z; exact z)).trans (pB.y (by have z := w74_1; rw [show (-50 : Int32).toInt = (-50) by first | decide | omega, show (50 : Int32).toInt = 50 by first | decide | omega, show (44 : Int32).toInt = 44 by first | decide | omega] at z; exact z))).trans (pB.f (pRd.n w88_1 (by omega)))⟩) (by omega) (by omega))
            · refine zs_icmp_geF (pc := 82) t248_82 rfl rfl (by omega) ?_
              refine zs_aload_n (pc := 85) t248_85 rfl ?_
              refine zs_get (pc := 86) t248_86 (by decide) (zk1 (w97s.k fk_zMm_336)) (w97s.p rfl fv_zMm_336_0) ?_
              refine zs_iload_n (pc := 89) t248_89 rfl ?_
              have w129 := zrg (zI w97M 337 (270 + 3 * w47n))
              have w130 : (zI w97M 337 (270 + 3 * w47n)).toInt = w97G (270 + 3 * w47n) := w97g.at (by omega) (by omega) (by omega)
              refine zs_iald (pc := 90) t248_90 (j := (270 + 3 * w47n)) (by decide) (zk1 (w97s.k fk_zMm_337)) (show w16v.toInt = (((270 + 3 * w47n) : Nat) : Int) by omega) (zk2 (w97s.k fk_zMm_337) (by omega)) rfl ?_
              refine zs_aload_n (pc := 91) t248_91 rfl ?_
              refine zs_iload (pc := 92) t248_92 rfl ?_
              refine zs_aload_n (pc := 94) t248_94 rfl ?_
              refine zs_get (pc := 95) t248_95 (by decide) (zk1 (w97s.k fk_zMm_336)) (w97s.p rfl fv_zMm_336_0) ?_
              refine zs_iload_n (pc := 98) t248_98 rfl ?_
              refine zs_iconst (pc := 99) t248_99 (v := 1) (by decide) ?_
              obtain ⟨w131v, w131e, w131⟩ := ziadd (a := w16v) (b := (1 : Int32)) w16 li1 (by omega) (by omega)
              refine zs_iadd (pc := 100) t248_100 (c := w131v) w131e ?_
              have w132 := zrg (zI w97M 337 (271 + 3 * w47n))
              have w133 : (zI w97M 337 (271 + 3 * w47n)).toInt = w97G (271 + 3 * w47n) := w97g.at (by omega) (by omega) (by omega)
              refine zs_iald (pc := 101) t248_101 (j := (271 + 3 * w47n)) (by decide) (zk1 (w97s.k fk_zMm_337)) (show w131v.toInt = (((271 + 3 * w47n) : Nat) : Int) by omega) (zk2 (w97s.k fk_zMm_337) (by omega)) rfl ?_
              refine zs_aload_n (pc := 102) t248_102 rfl ?_
              refine zs_get (pc := 103) t248_103 (by decide) (zk1 (w97s.k fk_zMm_336)) (w97s.p rfl fv_zMm_336_0) ?_
              refine zs_iload_n (pc := 106) t248_106 rfl ?_
              refine zs_iconst (pc := 107) t248_107 (v := 2) (by decide) ?_
              obtain ⟨w134v, w134e, w134⟩ := ziadd (a := w16v) (b := (2 : Int32)) w16 li2 (by omega) (by omega)
              refine zs_iadd (pc := 108) t248_108 (c := w134v) w134e ?_
              have w135 := zrg (zI w97M 337 (272 + 3 * w47n))
              have w136 : (zI w97M 337 (272 + 3 * w47n)).toInt = w97G (272 + 3 * w47n) := w97g.at (by omega) (by omega) (by omega)
              refine zs_iald (pc := 109) t248_109 (j := (272 + 3 * w47n)) (by decide) (zk1 (w97s.k fk_zMm_337)) (show w134v.toInt = (((272 + 3 * w47n) : Nat) : Int) by omega) (zk2 (w97s.k fk_zMm_337) (by omega)) rfl ?_
              have w137 := zrg (zI w97M 337 (14 + 2 * w98n))
              refine zs_invV (pc := 110) (k := 336) (as' := [.int w97x4, .int (zI w97M 337 (271 + 3 * w47n)), .int (zI w97M 337 (272 + 3 * w47n))]) (st := [.int (zI w97M 337 (270 + 3 * w47n))]) t248_110 mf249 rfl rfl (Or.inl ⟨by decide, (zk1 (w97s.k fk_zMm_336))⟩) ⟨by decide, by decide, Nat.le_of_ble_eq_true rfl, Nat.le_of_ble_eq_true rfl⟩ (K249 w97s w97I ⟨by omega, by omega⟩ ?_) (fun _ _ q => q)
              have w138 := zrg (zlift w97M w97x4 (zI w97M 337 (271 + 3 * w47n)) (zI w97M 337 (272 + 3 * w47n)))
              have w139w := x2.2.1 w98n (by omega)
              have w139 : (zlift w97M w97x4 (zI w97M 337 (271 + 3 * w47n)) (zI w97M 337 (272 + 3 * w47n))).toInt = pLf F w98n w74x w88x := zliftE (by omega) (by omega) (by omega) (by omega) (by omega) (by omega) (by omega) ((w97g.at (by omega) (by omega) (by omega)).trans (w97d.1.2.2 _ (by omega))) w139w.1 w139w.2.1
              have w139b := pLf.b (l := w98n) (t := w74x) (k := w88x) w139w.1 w139w.2.1 (by omega) (by omega) (by omega) (by omega)
              have w139c : pLf F w98n w74x w88x = w74x * F (14 + 2 * w98n) / 100 + w88x * F (14 + 2 * w98n) * F (14 + 2 * w98n) / 10000 := rfl
              have w139e : -98901000 ≤ (zlift w97M w97x4 (zI w97M 337 (271 + 3 * w47n)) (zI w97M 337 (272 + 3 * w47n))).toInt ∧ (zlift w97M w97x4 (zI w97M 337 (271 + 3 * w47n)) (zI w97M 337 (272 + 3 * w47n))).toInt ≤ 98901000 := by omega
              have w139z : -9999 ≤ (zI w97M 337 (270 + 3 * w47n)).toInt ∧ (zI w97M 337 (270 + 3 * w47n)).toInt ≤ 9999 := by omega
              show zGo X l 4 0 0 248 113 [(0, .ref 336), (1, .int a), (2, .int (zI M 337 2)), (3, .int w16v), (4, .int w97x4)] [.int (zlift w97M w97x4 (zI w97M 337 (271 + 3 * w47n)) (zI w97M 337 (272 + 3 * w47n))), .int (zI w97M 337 (270 + 3 * w47n))] w97M _
              obtain ⟨w140v, w140e, w140⟩ := ziadd (a := (zI w97M 337 (270 + 3 * w47n))) (b := (zlift w97M w97x4 (zI w97M 337 (271 + 3 * w47n)) (zI w97M 337 (272 + 3 * w47n)))) rfl rfl (by omega) (by omega)
              refine zs_iadd (pc := 113) t248_113 (c := w140v) w140e ?_
              refine zs_istore (pc := 114) t248_114 (ls' := [(5, .int w140v), (0, .ref 336), (1, .int a), (2, .int (zI M 337 2)), (3, .int w16v), (4, .int w97x4)]) (zml mf248 (by decide)) rfl ?_
              refine zs_iload (pc := 116) t248_116 rfl ?_
              refine zs_i2l (pc := 118) t248_118 rfl ?_
              refine zs_ldc2_w (pc := 119) t248_119 (v := -9999) (by decide) ?_
              refine zs_ldc2_w (pc := 122) t248_122 (v := 9999) (by decide) ?_
              by_cases w141 : (-9999) ≤ ((zI w97M 337 (270 + 3 * w47n)).toInt + (zlift w97M w97x4 (zI w97M 337 (271 + 3 * w47n)) (zI w97M 337 (272 + 3 * w47n))).toInt) ∧ ((zI w97M 337 (270 + 3 * w47n)).toInt + (zlift w97M w97x4 (zI w97M 337 (271 + 3 * w47n)) (zI w97M 337 (272 + 3 * w47n))).toInt) ≤ 9999
              · refine zs_invS (pc := 125) (as := [.long w140v.toInt64, .long (-9999 : Int64), .long (9999 : Int64)]) (st := []) t248_125 (by decide) mf228 rfl rfl ⟨by decide, by decide, Nat.le_of_ble_eq_true rfl, Nat.le_of_ble_eq_true rfl⟩ (K228T (zi2l w140) lln9999 ll9999 (by omega) ?_) (fun _ _ q => q)
                show zGo X l 4 0 0 248 128 [(5, .int w140v), (0, .ref 336), (1, .int a), (2, .int (zI M 337 2)), (3, .int w16v), (4, .int w97x4)] [.int (1 : Int32)] w97M _
                refine zs_if_neT (pc := 128) t248_128 li1 (by decide) ?_
                refine zs_aload_n (pc := 134) t248_134 rfl ?_
                refine zs_get (pc := 135) t248_135 (by decide) (zk1 (w97s.k fk_zMm_336)) (w97s.p rfl fv_zMm_336_0) ?_
                refine zs_iconst (pc := 138) t248_138 (v := 1) (by decide) ?_
                have w142 := ibA1 w97I
                have w143 : (zI w97M 337 1).toInt = w97G 1 := w97g.at (by decide) (by decide) (by decide)
                refine zs_iald (pc := 139) t248_139 (j := 1) (by decide) (zk1 (w97s.k fk_zMm_337)) li1 (zk2 (w97s.k fk_zMm_337) (by decide)) rfl ?_
                refine zs_bipush (pc := 140) t248_140 (v := 60) (by decide) ?_
                by_cases w144 : (zI w97M 337 1).toInt ≠ 60
                · refine zs_icmp_neT (pc := 142) t248_142 rfl li60 (by omega) ?_
                  refine zs_aload_n (pc := 151) t248_151 rfl ?_
                  refine zs_iload (pc := 152) t248_152 rfl ?_
                  refine zs_iload (pc := 154) t248_154 rfl ?_
                  refine zs_aload_n (pc := 156) t248_156 rfl ?_
                  refine zs_iload (pc := 157) t248_157 rfl ?_
                  refine zs_invV (pc := 159) (k := 336) (as' := [.int w97x4]) (st := [.int w140v, .int w97x4, .ref 336]) t248_159 mf241 rfl rfl (Or.inl ⟨by decide, (zk1 (w97s.k fk_zMm_336))⟩) ⟨by decide, by decide, Nat.le_of_ble_eq_true rfl, Nat.le_of_ble_eq_true rfl⟩ (zs_in (by decide) mf241 (Nat.le_of_ble_eq_true rfl) ?_) (fun _ _ q => q)
                  show zGo X l 0 0 0 241 0 [(0, .ref 336), (1, .int w97x4)] [] w97M _
                  refine zs_aload_n (pc := 0) t241_0 rfl ?_
                  refine zs_get (pc := 1) t241_1 (by decide) (zk1 (w97s.k fk_zMm_336)) (w97s.p rfl fv_zMm_336_0) ?_
                  refine zs_bipush (pc := 4) t241_4 (v := 14) (by decide) ?_
                  refine zs_iconst (pc := 6) t241_6 (v := 2) (by decide) ?_
                  refine zs_iload_n (pc := 7) t241_7 rfl ?_
                  obtain ⟨w145v, w145⟩ : ∃ v, (2 : Int32) * w97x4 = v := ⟨_, rfl⟩
                  have w145g : w145v.toInt = 2 * w97x4.toInt := by rw [← w145]; exact zmulc li2 rfl (by omega) (by omega)
                  refine zs_imul (pc := 8) t241_8 (c := w145v) w145 ?_
                  obtain ⟨w146v, w146e, w146⟩ := ziadd (a := (14 : Int32)) (b := w145v) li14 w145g (by omega) (by omega)
                  refine zs_iadd (pc := 9) t241_9 (c := w146v) w146e ?_
                  have w147 : (zI w97M 337 (14 + 2 * w98n)).toInt = w97G (14 + 2 * w98n) := w97g.at (by omega) (by omega) (by omega)
                  have w148 : w97G (14 + 2 * w98n) = F (14 + 2 * w98n) := w97d.1.2.2 _ (by omega)
                  have w149 := x2.2.1 w98n (by omega)
                  refine zs_iald (pc := 10) t241_10 (j := (14 + 2 * w98n)) (by decide) (zk1 (w97s.k fk_zMm_337)) (show w146v.toInt = (((14 + 2 * w98n) : Nat) : Int) by omega) (zk2 (w97s.k fk_zMm_337) (by omega)) rfl ?_
                  refine zs_iret (pc := 11) t241_11 mr241 rfl ?_
                  show zGo X l 4 0 0 248 162 [(5, .int w140v), (0, .ref 336), (1, .int a), (2, .int (zI M 337 2)), (3, .int w16v), (4, .int w97x4)] [.int (zI w97M 337 (14 + 2 * w98n)), .int w140v, .int w97x4, .ref 336] w97M _
                  refine zs_bipush (pc := 162) t248_162 (v := 10) (by decide) ?_
                  obtain ⟨w150v, w150⟩ : ∃ v, (zI w97M 337 (14 + 2 * w98n)) / (10 : Int32) = v := ⟨_, rfl⟩
                  have w150g : w150v.toInt = (zI w97M 337 (14 + 2 * w98n)).toInt / 10 := by rw [← w150]; exact zdivp rfl li10 (by omega) (by decide)
                  refine zs_idiv (pc := 164) t248_164 (by decide) (c := w150v) w150 ?_
                  refine zs_iload_n (pc := 165) t248_165 rfl ?_
                  have w151 : w140v.toInt = ((zI w97M 337 (270 + 3 * w47n)).toInt + (zlift w97M w97x4 (zI w97M 337 (271 + 3 * w47n)) (zI w97M 337 (272 + 3 * w47n))).toInt) := w140
                  have w152 : w140v.toInt = ((zI w97M 337 (270 + 3 * w47n)).toInt + (zlift w97M w97x4 (zI w97M 337 (271 + 3 * w47n)) (zI w97M 337 (272 + 3 * w47n))).toInt) := w140
                  have w153 : (zI w97M 337 1).toInt = (zI w97M 337 1).toInt := (congrArg Int32.toInt rfl).trans rfl
                  have w154 : (zI w97M 337 0).toInt = (zI w97M 337 0).toInt := (congrArg Int32.toInt rfl).trans rfl
                  have w155 : (zI w97M 337 1).toInt = (zI w97M 337 1).toInt := (congrArg Int32.toInt rfl).trans rfl
                  have w156 : (zI w97M 337 2).toInt = (zI w97M 337 2).toInt := (congrArg Int32.toInt rfl).trans rfl
                  have w157 : (zI w97M 337 0).toInt = (zI w97M 337 0).toInt := (congrArg Int32.toInt rfl).trans rfl
                  refine zs_invV (pc := 166) (k := 336) (as' := [.int w97x4, .int w140v, .int w150v, .int (zI M 337 2)]) (st := []) t248_166 mf252 rfl rfl (Or.inl ⟨by decide, (zk1 (w97s.k fk_zMm_336))⟩) ⟨by decide, by decide, Nat.le_of_ble_eq_true rfl, Nat.le_of_ble_eq_true rfl⟩ (R252 w97s w97I w97PR w97PC ⟨by omega, by omega⟩ (by omega) (by omega) w97g ?_) (fun _ _ q => q)
                  intro w158M w158s w158I w158F w158J w158U w158PR w158PC w158t0 w158t1 w158t2 w158x0
                  have w159 := ibA1 w158I
                  have w160 := ibA2 w158I
                  have w161 := ibA0 w158I
                  show zGo X l 4 0 0 248 169 [(5, .int w140v), (0, .ref 336), (1, .int a), (2, .int (zI M 337 2)), (3, .int w16v), (4, .int w97x4)] [] w158M _
                  rw [show w97x4.toInt = (w98n : Int) by omega, show (zI M 337 2).toInt = F 2 by omega] at w158x0
                  obtain ⟨w162v, w162e, w162⟩ := ziadd (a := w97x4) (b := Int32.ofInt 1) rfl (show (Int32.ofInt 1).toInt = 1 by decide) (by omega) (by omega)
                  refine zs_iinc (pc := 169) t248_169 (ls' := [(4, .int w162v), (5, .int w140v), (0, .ref 336), (1, .int a), (2, .int (zI M 337 2)), (3, .int w16v)]) (zml mf248 (by decide)) rfl (c := w162v) w162e rfl ?_
                  refine zs_goto (pc := 172) t248_172 ?_
                  refine zGo.locals (ls' := [(0, .ref 336), (1, .int a), (2, .int (zI M 337 2)), (3, .int w16v), (4, .int w162v)]) (by simp) ?_
                  have w163 := w162
                  have w164 : (zI w158M 337 0).toInt = (zI w158M 337 0).toInt := (congrArg Int32.toInt rfl).trans rfl
                  have w165 : (zI w158M 337 2).toInt = (zI w158M 337 2).toInt := (congrArg Int32.toInt rfl).trans rfl
                  have w166 : w162v.toInt = (w97x4.toInt + 1) := w162
                  exact w97ih (w97m - 1) (by omega) w162v w158M ⟨by omega, by omega⟩ w158s w158I (((zFr.refl).trans (w97F.mono rfl)).trans (w158F.mono rfl)) (w158J.trans w97J) (((zUp.refl).trans w97U).trans w158U) w158PR w158PC (by omega) (by omega) (by omega) (fun l hl => by obtain rfl : w98n + 1 = l := (by omega); exact ⟨_, zPm.hit w97d x2 (by omega) (by unfold pLf; omega) (by omega) (by omega) (by omega) (by omega), w158x0⟩) (by omega)
                · refine zs_icmp_neF (pc := 142) t248_142 rfl li60 (by omega) ?_
                  refine zs_aload_n (pc := 145) t248_145 rfl ?_
                  refine zs_iload_n (pc := 146) t248_146 rfl ?_
                  refine zs_invV (pc := 147) (k := 336) (as' := [.int a]) (st := []) t248_147 mf239 rfl rfl (Or.inl ⟨by decide, (zk1 (w97s.k fk_zMm_336))⟩) ⟨by decide, by decide, Nat.le_of_ble_eq_true rfl, Nat.le_of_ble_eq_true rfl⟩ (zs_in (by decide) mf239 (Nat.le_of_ble_eq_true rfl) ?_) (fun _ _ q => q)
                  show zGo X l 0 0 0 239 0 [(0, .ref 336), (1, .int a)] [] w97M _
                  refine zs_aload_n (pc := 0) t239_0 rfl ?_
                  refine zs_iload_n (pc := 1) t239_1 rfl ?_
                  have w167 : zIv mLo mHi (zsI w97M 336 7 a) := zIv.put w97I (show (-1) ≤ a.toInt ∧ a.toInt ≤ 500 from ⟨by omega, by omega⟩)
                  refine zs_putI (pc := 2) t239_2 (zk1 (w97s.k fk_zMm_336)) rfl ?_
                  refine zs_iconst (pc := 5) t239_5 (v := 0) (by decide) ?_
                  refine zs_iret (pc := 6) t239_6 mr239 (by decide) ?_
                  show zGo X l 4 0 0 248 150 [(5, .int w140v), (0, .ref 336), (1, .int a), (2, .int (zI M 337 2)), (3, .int w16v), (4, .int w97x4)] [.int (0 : Int32)] (zsI w97M 336 7 a) _
                  have w168 : (0 : Int32).toInt = 0 := li0
                  have w169 : (zI (zsI w97M 336 7 a) 336 6).toInt = (zI w86M 336 6).toInt := (congrArg Int32.toInt ((zIoj (by decide)).trans ((w97F 336 6 rfl).trans ((zIo (by decide)).trans rfl)))).trans rfl
                  have w170 : (zI (zsI w97M 336 7 a) 336 7).toInt = a.toInt := (congrArg Int32.toInt zIs).trans rfl
                  have w171 := li0
                  have w172 : (zI (zsI w97M 336 7 a) 336 6).toInt = (zI w86M 336 6).toInt := (congrArg Int32.toInt ((zIoj (by decide)).trans ((w97F 336 6 rfl).trans ((zIo (by decide)).trans rfl)))).trans rfl
                  have w173 : (zI (zsI w97M 336 7 a) 336 7).toInt = a.toInt := (congrArg Int32.toInt zIs).trans rfl
                  exact zs_iret (pc := 150) t248_150 mr248 (by decide) (hQ _ _ w97s w167 (((((((zFr.refl).trans (w36F.mono rfl)).trans (w68F.mono rfl)).trans (w86F.mono rfl)).put rfl).trans (w97F.mono rfl)).put rfl) (w97J.trans (w86J.trans (w68J.trans w36J))) (((((((zUp.refl).trans w36U).trans w68U).trans (zUp.fr w86F rfl)).put (Or.inr (by omega))).trans w97U).put (Or.inl (by decide))) (zPR.fr (M' := (zsI w97M 336 7 a)) w97PR (zEq.put rfl)) (zPC.fr (M' := (zsI w97M 336 7 a)) w97PC (zEq.put rfl)) (by omega) (by omega) (fun p hp => by
                      obtain rfl : w7n = p := (by omega)
                      by_cases z : gg w88e = 59
                      · exact Or.inr ⟨by first | decide | omega, by omega, ((pB.y (by have z := w42_1; rw [show (-9999 : Int32).toInt = (-9999) by first | decide | omega, show (9999 : Int32).toInt = 9999 by first | decide | omega, show (44 : Int32).toInt = 44 by first | decide | omega] at z; exact z)).trans (pB.y (by have z := w74_1; rw [show (-50 : Int32).toInt = (-50) by first | decide | omega, show (50 : Int32).toInt = 50 by first | decide | omega, show (44 : Int32).toInt = 44 by first | decide | omega] at z; exact z))).trans ((pB.y (pRd.y w88_1 w88k.1 w88k.2 z)).trans (pM.f (zPj.full w97d.1 (by unfold pLf; omega) (by unfold pLf; omega) (by omega) (by omega))))⟩
                      · exact Or.inr ⟨by first | decide | omega, by omega, ((pB.y (by have z := w42_1; rw [show (-9999 : Int32).toInt = (-9999) by first | decide | omega, show (9999 : Int32).toInt = 9999 by first | decide | omega, show (44 : Int32).toInt = 44 by first | decide | omega] at z; exact z)).trans (pB.y (by have z := w74_1; rw [show (-50 : Int32).toInt = (-50) by first | decide | omega, show (50 : Int32).toInt = 50 by first | decide | omega, show (44 : Int32).toInt = 44 by first | decide | omega] at z; exact z))).trans (pB.f (pRd.n w88_1 (Or.inr (Or.inr z))))⟩) (by decide) (by decide))
              · refine zs_invS (pc := 125) (as := [.long w140v.toInt64, .long (-9999 : Int64), .long (9999 : Int64)]) (st := []) t248_125 (by decide) mf228 rfl rfl ⟨by decide, by decide, Nat.le_of_ble_eq_true rfl, Nat.le_of_ble_eq_true rfl⟩ (K228F (zi2l w140) lln9999 ll9999 (by omega) ?_) (fun _ _ q => q)
                show zGo X l 4 0 0 248 128 [(5, .int w140v), (0, .ref 336), (1, .int a), (2, .int (zI M 337 2)), (3, .int w16v), (4, .int w97x4)] [.int (0 : Int32)] w97M _
                refine zs_if_neF (pc := 128) t248_128 li0 (by decide) ?_
                refine zs_goto (pc := 131) t248_131 ?_
                obtain ⟨w174v, w174e, w174⟩ := ziadd (a := w97x4) (b := Int32.ofInt 1) rfl (show (Int32.ofInt 1).toInt = 1 by decide) (by omega) (by omega)
                refine zs_iinc (pc := 169) t248_169 (ls' := [(4, .int w174v), (5, .int w140v), (0, .ref 336), (1, .int a), (2, .int (zI M 337 2)), (3, .int w16v)]) (zml mf248 (by decide)) rfl (c := w174v) w174e rfl ?_
                refine zs_goto (pc := 172) t248_172 ?_
                refine zGo.locals (ls' := [(0, .ref 336), (1, .int a), (2, .int (zI M 337 2)), (3, .int w16v), (4, .int w174v)]) (by simp) ?_
                have w175 := w174
                have w176 : (zI w97M 337 0).toInt = (zI w97M 337 0).toInt := (congrArg Int32.toInt rfl).trans rfl
                have w177 : (zI w97M 337 2).toInt = (zI w97M 337 2).toInt := (congrArg Int32.toInt rfl).trans rfl
                have w178 : w174v.toInt = (w97x4.toInt + 1) := w174
                exact w97ih (w97m - 1) (by omega) w174v w97M ⟨by omega, by omega⟩ w97s w97I ((zFr.refl).trans (w97F.mono rfl)) w97J ((zUp.refl).trans w97U) w97PR w97PC (by omega) (by omega) (by omega) (fun l hl => by obtain rfl : w98n + 1 = l := (by omega); exact ⟨w97G, w97d.skip (by unfold pLf; omega), w97g⟩) (by omega)
        refine zGo.locals (ls' := [(0, .ref 336), (1, .int a), (2, .int (zI M 337 2)), (3, .int w16v), (4, .int (0 : Int32))]) (by simp) ?_
        have w179 := li0
        have w180 : (zI (zsI w86M 337 (272 + 3 * w47n) (zI w86M 336 8)) 337 0).toInt = (zI w68M 337 0).toInt := (congrArg Int32.toInt ((zIoj (by omega)).trans ((w86F 337 0 rfl).trans rfl))).trans rfl
        have w181 : (zI (zsI w86M 337 (272 + 3 * w47n) (zI w86M 336 8)) 337 2).toInt = (zI w68M 337 2).toInt := (congrArg Int32.toInt ((zIoj (by omega)).trans ((w86F 337 2 rfl).trans rfl))).trans rfl
        exact w97L ((8 - 0 : Int).toNat) (0 : Int32) (zsI w86M 337 (272 + 3 * w47n) (zI w86M 336 8)) ⟨by decide, by decide⟩ w86s w91 zFr.refl rfl zUp.refl w94 w95 (by omega) (by omega) (by omega) (fun l hl => by obtain rfl : l = 0 := (by omega); exact ⟨_, zPm.zero x2 (by omega), by unfold pPar; rw [show (F 2).toNat = w47n by omega]; exact w96⟩) (by omega)
      · skip
        rw [show (-5 : Int32).toInt = -5 by decide, show (5 : Int32).toInt = 5 by decide] at w88z
        refine zs_if_neF (pc := 54) t248_54 rfl (by omega) ?_
        refine zs_iconst (pc := 57) t248_57 (v := 0) (by decide) ?_
        have w182 : (0 : Int32).toInt = 0 := li0
        have w183 : (zI w86M 336 6).toInt = (zI w86M 336 6).toInt := (congrArg Int32.toInt rfl).trans rfl
        have w184 := ib336_7 w86I
        have w185 : (zI w86M 336 7).toInt = (zI w86M 336 7).toInt := (congrArg Int32.toInt rfl).trans rfl
        have w186 := li0
        have w187 : (zI w86M 336 6).toInt = (zI w86M 336 6).toInt := (congrArg Int32.toInt rfl).trans rfl
        have w188 : (zI w86M 336 7).toInt = (zI w86M 336 7).toInt := (congrArg Int32.toInt rfl).trans rfl
        exact zs_iret (pc := 58) t248_58 mr248 (by decide) (hQ _ _ w86s w86I ((((zFr.refl).trans (w36F.mono rfl)).trans (w68F.mono rfl)).trans (w86F.mono rfl)) (w86J.trans (w68J.trans w36J)) ((((zUp.refl).trans w36U).trans w68U).trans (zUp.fr w86F rfl)) (zPR.fr w68PR (w86F.eq rfl)) (zPC.fr w68PC (w86F.eq rfl)) (by omega) (by omega) (fun p hp => by
            obtain rfl : w7n = p := (by omega)
            exact Or.inr ⟨by first | decide | omega, by omega, ((pB.y (by have z := w42_1; rw [show (-9999 : Int32).toInt = (-9999) by first | decide | omega, show (9999 : Int32).toInt = 9999 by first | decide | omega, show (44 : Int32).toInt = 44 by first | decide | omega] at z; exact z)).trans (pB.y (by have z := w74_1; rw [show (-50 : Int32).toInt = (-50) by first | decide | omega, show (50 : Int32).toInt = 50 by first | decide | omega, show (44 : Int32).toInt = 44 by first | decide | omega] at z; exact z))).trans (pB.f (by rcases w88z with q | ⟨e, x, q, q2⟩; exact pRd.f q; exact pRd.n q (by omega)))⟩) (by decide) (by decide))
    · skip
      refine zs_if_eqT (pc := 44) t248_44 rfl (by omega) ?_
      refine zs_iconst (pc := 57) t248_57 (v := 0) (by decide) ?_
      have w189 : (0 : Int32).toInt = 0 := li0
      have w190 : (zI w68M 336 6).toInt = (zI w68M 336 6).toInt := (congrArg Int32.toInt rfl).trans rfl
      have w191 : (zI w68M 336 7).toInt = (zI w68M 336 7).toInt := (congrArg Int32.toInt rfl).trans rfl
      have w192 := li0
      have w193 : (zI w68M 336 6).toInt = (zI w68M 336 6).toInt := (congrArg Int32.toInt rfl).trans rfl
      have w194 : (zI w68M 336 7).toInt = (zI w68M 336 7).toInt := (congrArg Int32.toInt rfl).trans rfl
      exact zs_iret (pc := 58) t248_58 mr248 (by decide) (hQ _ _ w68s w68I (((zFr.refl).trans (w36F.mono rfl)).trans (w68F.mono rfl)) (w68J.trans w36J) (((zUp.refl).trans w36U).trans w68U) w68PR w68PC (by omega) (by omega) (fun p hp => by
          obtain rfl : w7n = p := (by omega)
          exact Or.inr ⟨by first | decide | omega, by omega, ((pB.y (by have z := w42_1; rw [show (-9999 : Int32).toInt = (-9999) by first | decide | omega, show (9999 : Int32).toInt = 9999 by first | decide | omega, show (44 : Int32).toInt = 44 by first | decide | omega] at z; exact z)).trans (pB.f (by have z := w74z; rw [show (-50 : Int32).toInt = (-50) by first | decide | omega, show (50 : Int32).toInt = 50 by first | decide | omega, show (44 : Int32).toInt = 44 by first | decide | omega] at z; exact z)))⟩) (by decide) (by decide))
  · skip
    refine zs_if_eqT (pc := 28) t248_28 rfl (by omega) ?_
    refine zs_iconst (pc := 57) t248_57 (v := 0) (by decide) ?_
    have w195 : (0 : Int32).toInt = 0 := li0
    have w196 : (zI w36M 336 6).toInt = (zI w36M 336 6).toInt := (congrArg Int32.toInt rfl).trans rfl
    have w197 : (zI w36M 336 7).toInt = (zI w36M 336 7).toInt := (congrArg Int32.toInt rfl).trans rfl
    have w198 := li0
    have w199 : (zI w36M 336 6).toInt = (zI w36M 336 6).toInt := (congrArg Int32.toInt rfl).trans rfl
    have w200 : (zI w36M 336 7).toInt = (zI w36M 336 7).toInt := (congrArg Int32.toInt rfl).trans rfl
    exact zs_iret (pc := 58) t248_58 mr248 (by decide) (hQ _ _ w36s w36I ((zFr.refl).trans (w36F.mono rfl)) w36J ((zUp.refl).trans w36U) w36PR w36PC (by omega) (by omega) (fun p hp => by
        obtain rfl : w7n = p := (by omega)
        exact Or.inr ⟨by first | decide | omega, by omega, (pB.f (by have z := w42z; rw [show (-9999 : Int32).toInt = (-9999) by first | decide | omega, show (9999 : Int32).toInt = 9999 by first | decide | omega, show (44 : Int32).toInt = 44 by first | decide | omega] at z; exact z))⟩) (by decide) (by decide))
