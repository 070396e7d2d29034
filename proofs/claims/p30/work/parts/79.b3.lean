theorem R248 {X : zX} {l : Launch} {M : zM} {Q : Option Value → zM → Prop} {a : Int32} (hs : zSk zMm M) (hI : zIv mLo mHi M) {F : Nat → Int} {gg : Nat → Int} {nn : Int} (pR : zPR M) (pC : zPC M) (ha : 0 ≤ a.toInt ∧ a.toInt ≤ 500) (u0 : (zI M 337 2).toInt < 12) (u1 : (zI M 336 6).toInt ≤ (zI M 336 5).toInt) (u2 : 0 ≤ (zI M 336 6).toInt) (u3 : (zI M 336 7).toInt = -1) (x0 : zRw M 0 F) (x1 : zTm M gg nn) (x2 : zWF F) (hQ : ∀ (M' : zM) (v : Int32), zSk zMm M' → zIv mLo mHi M' → zFr [(336, 336, some 6), (336, 336, some 7), (336, 336, some 8), (337, 337, none)] M M' → zJ M' 351 = zJ M 351 → zUp M M' → zPR M' → zPC M' → ((zI M 336 6).toInt ≤ (zI M' 336 6).toInt) → ((v.toInt = 1 ∧ (zI M' 336 7).toInt = (zI M 336 7).toInt) ∨ (v.toInt = 0 ∧ 0 ≤ (zI M' 336 7).toInt)) → (∀ p : Nat, (zI M 336 6).toInt = (p : Int) → (v.toInt = 1 ∧ ∃ (q : Nat) (F2 : Nat → Int), (pB (pRd gg p (-9999) 9999 44) fun q x => pB (pRd gg q (-50) 50 44) fun q2 y => pB (pRd gg q2 (-5) 5 59) fun q3 z => pM (pPt F x y z (F 0).toNat) fun G => some (q3, uS G 2 (F 2 + 1))) = some (q, F2) ∧ (zI M' 336 6).toInt = (q : Int) ∧ p < q ∧ (q : Int) ≤ nn ∧ (zI M' 336 7).toInt = -1 ∧ zRw M' 0 F2 ∧ zWF F2) ∨ (v.toInt = 0 ∧ (zI M' 336 7).toInt ≠ -1 ∧ (pB (pRd gg p (-9999) 9999 44) fun q x => pB (pRd gg q (-50) 50 44) fun q2 y => pB (pRd gg q2 (-5) 5 59) fun q3 z => pM (pPt F x y z (F 0).toNat) fun G => some (q3, uS G 2 (F 2 + 1))) = none)) → 0 ≤ v.toInt → v.toInt ≤ 1 → Q (some (.int v)) M') : zCall X l 4 0 0 248 [.ref 336, .int a] M Q := by
  have ga := zrg a
  refine zs_in (by decide) mf248 (Nat.le_of_ble_eq_true rfl) ?_
  show zGo X l 4 0 0 248 0 [(0, .ref 336), (1, .int a)] [] M _
  have hn := x1.2
  have w1 := ib336_5 hI
  have w2 : (zI M 336 5).toInt = (zI M 336 5).toInt := (congrArg Int32.toInt rfl).trans rfl
  have w3 := ib336_6 hI
  have w4 : (zI M 336 6).toInt = (zI M 336 6).toInt := (congrArg Int32.toInt rfl).trans rfl
  have w5 := ib336_7 hI
  have w6 : (zI M 336 7).toInt = (zI M 336 7).toInt := (congrArg Int32.toInt rfl).trans rfl
  obtain ⟨w7n, w7⟩ : ∃ n : Nat, (zI M 336 6).toInt = (n : Int) := ⟨((zI M 336 6).toInt).toNat, by omega⟩
  have f1 := x2.1
  have f3 := x2.2.2.2
  have w8 := ibA0 hI
  have w9 : (zI M 337 0).toInt = (zI M 337 0).toInt := (congrArg Int32.toInt rfl).trans rfl
  have e0 : (zI M 337 0).toInt = F 0 := x0.at (by decide) (by decide) (by decide)
  have w10 := ibA1 hI
  have w11 : (zI M 337 1).toInt = (zI M 337 1).toInt := (congrArg Int32.toInt rfl).trans rfl
  have e1 : (zI M 337 1).toInt = F 1 := x0.at (by decide) (by decide) (by decide)
  have w12 := ibA2 hI
  have w13 : (zI M 337 2).toInt = (zI M 337 2).toInt := (congrArg Int32.toInt rfl).trans rfl
  have e2 : (zI M 337 2).toInt = F 2 := x0.at (by decide) (by decide) (by decide)
  refine zs_aload_n (pc := 0) t248_0 rfl ?_
  refine zs_get (pc := 1) t248_1 (by decide) (zk1 (hs.k fk_zMm_336)) (hs.p rfl fv_zMm_336_0) ?_
  refine zs_iconst (pc := 4) t248_4 (v := 2) (by decide) ?_
  have w14 : (zI M 337 2).toInt = F 2 := x0.at (by decide) (by decide) (by decide)
  refine zs_iald (pc := 5) t248_5 (j := 2) (by decide) (zk1 (hs.k fk_zMm_337)) li2 (zk2 (hs.k fk_zMm_337) (by decide)) rfl ?_
  refine zs_istore_n (pc := 6) t248_6 (ls' := [(2, .int (zI M 337 2)), (0, .ref 336), (1, .int a)]) (zml mf248 (by decide)) rfl ?_
  refine zs_sipush (pc := 7) t248_7 (v := 270) (by decide) ?_
  refine zs_iconst (pc := 10) t248_10 (v := 3) (by decide) ?_
  refine zs_iload_n (pc := 11) t248_11 rfl ?_
  obtain ⟨w15v, w15⟩ : ∃ v, (3 : Int32) * (zI M 337 2) = v := ⟨_, rfl⟩
  have w15g : w15v.toInt = 3 * (zI M 337 2).toInt := by rw [← w15]; exact zmulc li3 rfl (by omega) (by omega)
  refine zs_imul (pc := 12) t248_12 (c := w15v) w15 ?_
  obtain ⟨w16v, w16e, w16⟩ := ziadd (a := (270 : Int32)) (b := w15v) li270 w15g (by omega) (by omega)
  refine zs_iadd (pc := 13) t248_13 (c := w16v) w16e ?_
  refine zs_istore_n (pc := 14) t248_14 (ls' := [(3, .int w16v), (2, .int (zI M 337 2)), (0, .ref 336), (1, .int a)]) (zml mf248 (by decide)) rfl ?_
  refine zs_aload_n (pc := 15) t248_15 rfl ?_
  refine zs_iload_n (pc := 16) t248_16 rfl ?_
  refine zs_sipush (pc := 17) t248_17 (v := -9999) (by decide) ?_
  refine zs_sipush (pc := 20) t248_20 (v := 9999) (by decide) ?_
  refine zs_bipush (pc := 23) t248_23 (v := 44) (by decide) ?_
  have w17 : (zI M 336 6).toInt = (zI M 336 6).toInt := (congrArg Int32.toInt rfl).trans rfl
  have w18 : w16v.toInt = (270 + (3 * (zI M 337 2).toInt)) := w16
  have w19 : (-9999 : Int32).toInt = (-9999) := lin9999
  have w20 : (9999 : Int32).toInt = 9999 := li9999
  have w21 : (44 : Int32).toInt = 44 := li44
  have w22 : (zI M 336 5).toInt = (zI M 336 5).toInt := (congrArg Int32.toInt rfl).trans rfl
  have w23 : (zI M 336 7).toInt = (zI M 336 7).toInt := (congrArg Int32.toInt rfl).trans rfl
  have w24 : (zI M 337 0).toInt = (zI M 337 0).toInt := (congrArg Int32.toInt rfl).trans rfl
  have w25 : (zI M 337 1).toInt = (zI M 337 1).toInt := (congrArg Int32.toInt rfl).trans rfl
  have w26 : (zI M 336 6).toInt = (zI M 336 6).toInt := (congrArg Int32.toInt rfl).trans rfl
  have w27 : (zI M 337 0).toInt = (zI M 337 0).toInt := (congrArg Int32.toInt rfl).trans rfl
  have w28 : (zI M 337 2).toInt = (zI M 337 2).toInt := (congrArg Int32.toInt rfl).trans rfl
  have w29 : (zI M 336 7).toInt = (zI M 336 7).toInt := (congrArg Int32.toInt rfl).trans rfl
  have w30 : (zI M 337 1).toInt = (zI M 337 1).toInt := (congrArg Int32.toInt rfl).trans rfl
  have w31 : (zI M 336 6).toInt = (zI M 336 6).toInt := (congrArg Int32.toInt rfl).trans rfl
  have w33 : (-9999 : Int32).toInt = (-9999) := lin9999
  have w34 : (9999 : Int32).toInt = 9999 := li9999
  have w35 : w16v.toInt = (270 + (3 * (zI M 337 2).toInt)) := w16
  have w32 := aN (p := w16v.toInt.toNat) (by omega)
  refine zs_invV (pc := 25) (k := 336) (as' := [.int w16v, .int (-9999 : Int32), .int (9999 : Int32), .int (44 : Int32)]) (st := []) t248_25 mf242 rfl rfl (Or.inl ⟨by decide, (zk1 (hs.k fk_zMm_336))⟩) ⟨by decide, by decide, Nat.le_of_ble_eq_true rfl, Nat.le_of_ble_eq_true rfl⟩ (R242 hs hI pR pC ⟨by omega, by omega⟩ ⟨by decide, by decide⟩ (by omega) (by omega) (by omega) (by omega) (by omega) (by rw [w32.1, w32.2]; exact ⟨by omega, by omega⟩) x0 x1 ?_) (fun _ _ q => q)
  intro w36M w36v w36s w36I w36F w36J w36U w36PR w36PC w36t0 w36t1 w36t2 w36t3 w36t4 w36x0 w36x1 w36x2 w36a w36b
  have w37 := ib336_7 w36I
  have w38 := ibA0 w36I
  have w39 := ibA2 w36I
  have w40 := ib336_6 w36I
  have w41 := ibA1 w36I
  show zGo X l 4 0 0 248 28 [(3, .int w16v), (2, .int (zI M 337 2)), (0, .ref 336), (1, .int a)] [.int w36v] w36M _
  have w43 : w16v.toInt = (270 + (3 * (zI M 337 2).toInt)) := w16
  have w44 : (-9999 : Int32).toInt = (-9999) := lin9999
  have w45 : (9999 : Int32).toInt = 9999 := li9999
  have w46 : (44 : Int32).toInt = 44 := li44
  rcases w36x2 w7n (by omega) with ⟨w42v, w42q, w42x, w42_1, w42_2, w42_3, w42_4, w42_5, w42_6, w42_7, w42r⟩ | ⟨w42v, w42_5, w42z⟩
  · skip
    refine zs_if_eqT (pc := 28) t248_28 rfl (by omega) ?_
    refine zs_iconst (pc := 57) t248_57 (v := 0) (by decide) ?_
    have w47 : (0 : Int32).toInt = 0 := li0
    have w48 : (zI w36M 336 6).toInt = (zI w36M 336 6).toInt := (congrArg Int32.toInt rfl).trans rfl
    have w49 : (zI w36M 336 7).toInt = (zI w36M 336 7).toInt := (congrArg Int32.toInt rfl).trans rfl
    have w50 := li0
    have w51 : (zI w36M 336 6).toInt = (zI w36M 336 6).toInt := (congrArg Int32.toInt rfl).trans rfl
    have w52 : (zI w36M 336 7).toInt = (zI w36M 336 7).toInt := (congrArg Int32.toInt rfl).trans rfl
    exact zs_iret (pc := 58) t248_58 mr248 (by decide) (hQ _ _ w36s w36I ((zFr.refl).trans (w36F.mono rfl)) w36J ((zUp.refl).trans w36U) w36PR w36PC (by omega) (by omega) (fun p hp => by
        obtain rfl : w7n = p := (by omega)
        exact Or.inr ⟨by first | decide | omega, by omega, (pB.f (by have z := w42z; rw [show (-9999 : Int32).toInt = (-9999) by first | decide | omega, show (9999 : Int32).toInt = 9999 by first | decide | omega, show (44 : Int32).toInt = 44 by first | decide | omega] at z; exact z))⟩) (by decide) (by decide))
  · skip
    obtain ⟨w53n, w53⟩ : ∃ n : Nat, (zI M 337 2).toInt = (n : Int) := ⟨((zI M 337 2).toInt).toNat, by omega⟩
    rw [show w16v.toInt.toNat = (270 + 3 * w53n) by omega] at w42r
    refine zs_if_eqF (pc := 28) t248_28 rfl (by omega) ?_
    refine zs_aload_n (pc := 31) t248_31 rfl ?_
    refine zs_iload_n (pc := 32) t248_32 rfl ?_
    refine zs_iconst (pc := 33) t248_33 (v := 1) (by decide) ?_
    obtain ⟨w54v, w54e, w54⟩ := ziadd (a := w16v) (b := (1 : Int32)) w16 li1 (by omega) (by omega)
    refine zs_iadd (pc := 34) t248_34 (c := w54v) w54e ?_
    refine zs_bipush (pc := 35) t248_35 (v := -50) (by decide) ?_
    refine zs_bipush (pc := 37) t248_37 (v := 50) (by decide) ?_
    refine zs_bipush (pc := 39) t248_39 (v := 44) (by decide) ?_
    have w55 : (zI w36M 336 6).toInt = (zI w36M 336 6).toInt := (congrArg Int32.toInt rfl).trans rfl
    have w56 : w54v.toInt = ((270 + (3 * (zI M 337 2).toInt)) + 1) := w54
    have w57 : (-50 : Int32).toInt = (-50) := lin50
    have w58 : (50 : Int32).toInt = 50 := li50
    have w59 : (44 : Int32).toInt = 44 := li44
    have w60 : (zI w36M 336 5).toInt = (zI M 336 5).toInt := (congrArg Int32.toInt ((w36F 336 5 rfl).trans rfl)).trans rfl
    have w61 : (zI w36M 336 7).toInt = (zI w36M 336 7).toInt := (congrArg Int32.toInt rfl).trans rfl
    have w62 : (zI w36M 337 0).toInt = (zI w36M 337 0).toInt := (congrArg Int32.toInt rfl).trans rfl
    have w63 : (zI w36M 337 1).toInt = (zI w36M 337 1).toInt := (congrArg Int32.toInt rfl).trans rfl
    have w64 : (zI w36M 336 6).toInt = (zI w36M 336 6).toInt := (congrArg Int32.toInt rfl).trans rfl
    have w65 : (zI w36M 337 0).toInt = (zI w36M 337 0).toInt := (congrArg Int32.toInt rfl).trans rfl
    have w66 : (zI w36M 337 2).toInt = (zI w36M 337 2).toInt := (congrArg Int32.toInt rfl).trans rfl
    have w67 : (zI w36M 336 7).toInt = (zI w36M 336 7).toInt := (congrArg Int32.toInt rfl).trans rfl
    have w68 : (zI w36M 337 1).toInt = (zI w36M 337 1).toInt := (congrArg Int32.toInt rfl).trans rfl
    have w69 : (zI w36M 336 6).toInt = (zI w36M 336 6).toInt := (congrArg Int32.toInt rfl).trans rfl
    have w71 : (-50 : Int32).toInt = (-50) := lin50
    have w72 : (50 : Int32).toInt = 50 := li50
    have w73 : w54v.toInt = ((270 + (3 * (zI M 337 2).toInt)) + 1) := w54
    have w70 := aN (p := w54v.toInt.toNat) (by omega)
    refine zs_invV (pc := 41) (k := 336) (as' := [.int w54v, .int (-50 : Int32), .int (50 : Int32), .int (44 : Int32)]) (st := []) t248_41 mf242 rfl rfl (Or.inl ⟨by decide, (zk1 (w36s.k fk_zMm_336))⟩) ⟨by decide, by decide, Nat.le_of_ble_eq_true rfl, Nat.le_of_ble_eq_true rfl⟩ (R242 w36s w36I w36PR w36PC ⟨by omega, by omega⟩ ⟨by decide, by decide⟩ (by omega) (by omega) (by omega) (by omega) (by omega) (by rw [w70.1, w70.2]; exact ⟨by omega, by omega⟩) w42r (zTm.mk x1 (fun j => (w36F 339 j rfl)) (w36F 336 5 rfl)) ?_) (fun _ _ q => q)
    intro w74M w74v w74s w74I w74F w74J w74U w74PR w74PC w74t0 w74t1 w74t2 w74t3 w74t4 w74x0 w74x1 w74x2 w74a w74b
    have w75 := ib336_7 w74I
    have w76 := ibA0 w74I
    have w77 := ibA2 w74I
    have w78 := ib336_6 w74I
    have w79 := ibA1 w74I
    show zGo X l 4 0 0 248 44 [(3, .int w16v), (2, .int (zI M 337 2)), (0, .ref 336), (1, .int a)] [.int w74v] w74M _
    have w81 : w54v.toInt = ((270 + (3 * (zI M 337 2).toInt)) + 1) := w54
    have w82 : (-50 : Int32).toInt = (-50) := lin50
    have w83 : (50 : Int32).toInt = 50 := li50
    have w84 : (44 : Int32).toInt = 44 := li44
    rcases w74x2 w42q (by omega) with ⟨w80v, w80q, w80x, w80_1, w80_2, w80_3, w80_4, w80_5, w80_6, w80_7, w80r⟩ | ⟨w80v, w80_5, w80z⟩
    · skip
      refine zs_if_eqT (pc := 44) t248_44 rfl (by omega) ?_
      refine zs_iconst (pc := 57) t248_57 (v := 0) (by decide) ?_
      have w85 : (0 : Int32).toInt = 0 := li0
      have w86 : (zI w74M 336 6).toInt = (zI w74M 336 6).toInt := (congrArg Int32.toInt rfl).trans rfl
      have w87 : (zI w74M 336 7).toInt = (zI w74M 336 7).toInt := (congrArg Int32.toInt rfl).trans rfl
      have w88 := li0
      have w89 : (zI w74M 336 6).toInt = (zI w74M 336 6).toInt := (congrArg Int32.toInt rfl).trans rfl
      have w90 : (zI w74M 336 7).toInt = (zI w74M 336 7).toInt := (congrArg Int32.toInt rfl).trans rfl
      exact zs_iret (pc := 58) t248_58 mr248 (by decide) (hQ _ _ w74s w74I (((zFr.refl).trans (w36F.mono rfl)).trans (w74F.mono rfl)) (w74J.trans w36J) (((zUp.refl).trans w36U).trans w74U) w74PR w74PC (by omega) (by omega) (fun p hp => by
          obtain rfl : w7n = p := (by omega)
          exact Or.inr ⟨by first | decide | omega, by omega, ((pB.y (by have z := w42_1; rw [show (-9999 : Int32).toInt = (-9999) by first | decide | omega, show (9999 : Int32).toInt = 9999 by first | decide | omega, show (44 : Int32).toInt = 44 by first | decide | omega] at z; exact z)).trans (pB.f (by have z := w80z; rw [show (-50 : Int32).toInt = (-50) by first | decide | omega, show (50 : Int32).toInt = 50 by first | decide | omega, show (44 : Int32).toInt = 44 by first | decide | omega] at z; exact z)))⟩) (by decide) (by decide))
    · skip
      rw [show w54v.toInt.toNat = (271 + 3 * w53n) by omega] at w80r
      refine zs_if_eqF (pc := 44) t248_44 rfl (by omega) ?_
      refine zs_aload_n (pc := 47) t248_47 rfl ?_
      refine zs_bipush (pc := 48) t248_48 (v := -5) (by decide) ?_
      refine zs_iconst (pc := 50) t248_50 (v := 5) (by decide) ?_
      have w91 : (zI w74M 336 6).toInt = (zI w74M 336 6).toInt := (congrArg Int32.toInt rfl).trans rfl
      have w92 : (-5 : Int32).toInt = (-5) := lin5
      have w93 : (5 : Int32).toInt = 5 := li5
      have w94 : (zI w74M 336 6).toInt = (zI w74M 336 6).toInt := (congrArg Int32.toInt rfl).trans rfl
      have w95 : (zI w74M 336 5).toInt = (zI M 336 5).toInt := (congrArg Int32.toInt ((w74F 336 5 rfl).trans ((w36F 336 5 rfl).trans rfl))).trans rfl
      have w96 : (zI w74M 336 7).toInt = (zI w74M 336 7).toInt := (congrArg Int32.toInt rfl).trans rfl
      refine zs_invV (pc := 51) (k := 336) (as' := [.int (-5 : Int32), .int (5 : Int32)]) (st := []) t248_51 mf243 rfl rfl (Or.inl ⟨by decide, (zk1 (w74s.k fk_zMm_336))⟩) ⟨by decide, by decide, Nat.le_of_ble_eq_true rfl, Nat.le_of_ble_eq_true rfl⟩ (R243 w74s w74I (by omega) (by omega) (by omega) (zTm.mk x1 (fun j => ((w74F 339 j rfl).trans (w36F 339 j rfl))) ((w74F 336 5 rfl).trans (w36F 336 5 rfl))) ?_) (fun _ _ q => q)
      intro w97M w97v w97s w97I w97F w97J w97x0 w97a w97b
      show zGo X l 4 0 0 248 54 [(3, .int w16v), (2, .int (zI M 337 2)), (0, .ref 336), (1, .int a)] [.int w97v] w97M _
      rcases w97x0 w80q (by omega) with ⟨w98v, w98e, w98x, w98_1, w98_2, w98_3, w98_4, w98_5, w98_6, w98_7, w98_8, w98_9, w98_10⟩ | ⟨w98v, w98_8, w98z⟩
      · skip
        rw [show (-5 : Int32).toInt = -5 by decide, show (5 : Int32).toInt = 5 by decide] at w98z
        refine zs_if_neF (pc := 54) t248_54 rfl (by omega) ?_
        refine zs_iconst (pc := 57) t248_57 (v := 0) (by decide) ?_
        have w99 : (0 : Int32).toInt = 0 := li0
        have w100 := ib336_6 w97I
        have w101 : (zI w97M 336 6).toInt = (zI w97M 336 6).toInt := (congrArg Int32.toInt rfl).trans rfl
        have w102 := ib336_7 w97I
        have w103 : (zI w97M 336 7).toInt = (zI w97M 336 7).toInt := (congrArg Int32.toInt rfl).trans rfl
        have w104 := li0
        have w105 : (zI w97M 336 6).toInt = (zI w97M 336 6).toInt := (congrArg Int32.toInt rfl).trans rfl
        have w106 : (zI w97M 336 7).toInt = (zI w97M 336 7).toInt := (congrArg Int32.toInt rfl).trans rfl
        exact zs_iret (pc := 58) t248_58 mr248 (by decide) (hQ _ _ w97s w97I ((((zFr.refl).trans (w36F.mono rfl)).trans (w74F.mono rfl)).trans (w97F.mono rfl)) (w97J.trans (w74J.trans w36J)) ((((zUp.refl).trans w36U).trans w74U).trans (zUp.fr w97F rfl)) (zPR.fr w74PR (w97F.eq rfl)) (zPC.fr w74PC (w97F.eq rfl)) (by omega) (by omega) (fun p hp => by
            obtain rfl : w7n = p := (by omega)
            exact Or.inr ⟨by first | decide | omega, by omega, ((pB.y (by have z := w42_1; rw [show (-9999 : Int32).toInt = (-9999) by first | decide | omega, show (9999 : Int32).toInt = 9999 by first | decide | omega, show (44 : Int32).toInt = 44 by first | decide | omega] at z; exact z)).trans (pB.y (by have z := w80_1; rw [show (-50 : Int32).toInt = (-50) by first | decide | omega, show (50 : Int32).toInt = 50 by first | decide | omega, show (44 : Int32).toInt = 44 by first | decide | omega] at z; exact z))).trans (pB.f (by rcases w98z with q | ⟨e, x, q, q2⟩; exact pRd.f q; exact pRd.n q (by omega)))⟩) (by decide) (by decide))
      · skip
        have w98k : (-5 : Int) ≤ w98x ∧ w98x ≤ 5 := ⟨by have z := w98_2; rw [show (-5 : Int32).toInt = -5 by decide] at z; exact z, by have z := w98_3; rw [show (5 : Int32).toInt = 5 by decide] at z; exact z⟩
        refine zs_if_neT (pc := 54) t248_54 rfl (by omega) ?_
        refine zs_aload_n (pc := 59) t248_59 rfl ?_
        refine zs_get (pc := 60) t248_60 (by decide) (zk1 (w97s.k fk_zMm_336)) (w97s.p rfl fv_zMm_336_0) ?_
        refine zs_iload_n (pc := 63) t248_63 rfl ?_
        refine zs_iconst (pc := 64) t248_64 (v := 2) (by decide) ?_
        obtain ⟨w107v, w107e, w107⟩ := ziadd (a := w16v) (b := (2 : Int32)) w16 li2 (by omega) (by omega)
        refine zs_iadd (pc := 65) t248_65 (c := w107v) w107e ?_
        refine zs_aload_n (pc := 66) t248_66 rfl ?_
        have w108 := zrg (zI w97M 336 8)
        refine zs_get (pc := 67) t248_67 (by decide) (zk1 (w97s.k fk_zMm_336)) (zfvi rfl rfl) ?_
        have w109a := aN (p := (272 + 3 * w53n)) (by omega)
        have w109 : zIv mLo mHi (zsI w97M 337 (272 + 3 * w53n) (zI w97M 336 8)) := zIv.putA w97I (by omega) (by rw [w109a.1, w109a.2]; exact zrg (zI w97M 336 8))
        have w110 : (zI w97M 337 0).toInt = (zI w74M 337 0).toInt := (congrArg Int32.toInt ((w97F 337 0 rfl).trans rfl)).trans rfl
        have w111 : (zI w97M 337 1).toInt = (zI w74M 337 1).toInt := (congrArg Int32.toInt ((w97F 337 1 rfl).trans rfl)).trans rfl
        have w112 : zPR (zsI w97M 337 (272 + 3 * w53n) (zI w97M 336 8)) := zPR.put (zPR.fr w74PR (w97F.eq rfl)) (by omega) (by omega) (by omega) (by omega)
        have w113 : zPC (zsI w97M 337 (272 + 3 * w53n) (zI w97M 336 8)) := zPC.put (zPC.fr w74PC (w97F.eq rfl)) (by omega) (by omega)
        have w114 : zRw (zsI w97M 337 (272 + 3 * w53n) (zI w97M 336 8)) 0 (uS (uS (uS F (270 + 3 * w53n) w42x) (271 + 3 * w53n) w80x) (272 + 3 * w53n) w98x) := zRw.put (zRw.fr' w80r (fun j hj => (w97F 337 j rfl))) (by omega)
        refine zs_iast (pc := 70) t248_70 (j := (272 + 3 * w53n)) (by decide) (zk1 (w97s.k fk_zMm_337)) (show w107v.toInt = (((272 + 3 * w53n) : Nat) : Int) by omega) (zk2 (w97s.k fk_zMm_337) (by omega)) ?_
        refine zs_iconst (pc := 71) t248_71 (v := 0) (by decide) ?_
        refine zs_istore (pc := 72) t248_72 (ls' := [(4, .int (0 : Int32)), (3, .int w16v), (2, .int (zI M 337 2)), (0, .ref 336), (1, .int a)]) (zml mf248 (by decide)) rfl ?_
        have w115L : ∀ (m : Nat) (w115x4 : Int32) (w115M : zM), (0 ≤ w115x4.toInt ∧ w115x4.toInt ≤ 8) → zSk zMm w115M → zIv mLo mHi w115M → zFr [(337, 337, none)] (zsI w97M 337 (272 + 3 * w53n) (zI w97M 336 8)) w115M → zJ w115M 351 = zJ (zsI w97M 337 (272 + 3 * w53n) (zI w97M 336 8)) 351 → zUp (zsI w97M 337 (272 + 3 * w53n) (zI w97M 336 8)) w115M → zPR w115M → zPC w115M → ((zI w115M 337 0).toInt = (zI (zsI w97M 337 (272 + 3 * w53n) (zI w97M 336 8)) 337 0).toInt) → ((zI w115M 337 2).toInt = (zI (zsI w97M 337 (272 + 3 * w53n) (zI w97M 336 8)) 337 2).toInt) → (w115x4.toInt ≤ F 0) → (∀ l : Nat, (l : Int) = w115x4.toInt → ∃ G, zPm F w42x w80x w98x l G ∧ zRw w115M 0 G) → 8 - w115x4.toInt ≤ (m : Int) → zGo X l 4 0 0 248 74 [(0, .ref 336), (1, .int a), (2, .int (zI M 337 2)), (3, .int w16v), (4, .int w115x4)] [] w115M Q := by
          intro m
          induction m using Nat.strongRecOn with
          | ind w115m w115ih =>
            intro w115x4 w115M w115b4 w115s w115I w115F w115J w115U w115PR w115PC w115r0 w115r1 w115r2 w115t0 w115q
            obtain ⟨w116n, w116⟩ : ∃ n : Nat, w115x4.toInt = (n : Int) := ⟨(w115x4.toInt).toNat, by omega⟩
            obtain ⟨w115G, w115d, w115g⟩ := w115t0 w116n (by omega)
            have w115z := w115d.par (n := w53n) (by omega)
            have w115y := w115d.1.2.1.1
            have w115u : uS w115G 2 (F 2 + 1) 1 = w115G 1 ∧ uS w115G 2 (F 2 + 1) 0 = w115G 0 ∧ w115G 0 = F 0 := ⟨uS.o (by decide), uS.o (by decide), w115d.1.2.2 0 (Or.inl rfl)⟩
            have w115w : (zI w115M 337 1).toInt = w115G 1 := w115g.at (by decide) (by decide) (by decide)
            have w117 := ibA0 w115I
            have w118 : (zI (zsI w97M 337 (272 + 3 * w53n) (zI w97M 336 8)) 337 0).toInt = (zI w74M 337 0).toInt := (congrArg Int32.toInt ((zIoj (by omega)).trans ((w97F 337 0 rfl).trans rfl))).trans rfl
            have w119 := ibA2 w115I
            have w120 : (zI (zsI w97M 337 (272 + 3 * w53n) (zI w97M 336 8)) 337 2).toInt = (zI w74M 337 2).toInt := (congrArg Int32.toInt ((zIoj (by omega)).trans ((w97F 337 2 rfl).trans rfl))).trans rfl
            refine zs_iload (pc := 74) t248_74 rfl ?_
            refine zs_aload_n (pc := 76) t248_76 rfl ?_
            refine zs_get (pc := 77) t248_77 (by decide) (zk1 (w115s.k fk_zMm_336)) (w115s.p rfl fv_zMm_336_0) ?_
            refine zs_iconst (pc := 80) t248_80 (v := 0) (by decide) ?_
            have w121 : (zI w115M 337 0).toInt = w115G 0 := w115g.at (by decide) (by decide) (by decide)
            refine zs_iald (pc := 81) t248_81 (j := 0) (by decide) (zk1 (w115s.k fk_zMm_337)) li0 (zk2 (w115s.k fk_zMm_337) (by decide)) rfl ?_
            by_cases w122 : (zI w115M 337 0).toInt ≤ w115x4.toInt
            · refine zs_icmp_geT (pc := 82) t248_82 rfl rfl (by omega) ?_
              refine zs_aload_n (pc := 175) t248_175 rfl ?_
              refine zs_get (pc := 176) t248_176 (by decide) (zk1 (w115s.k fk_zMm_336)) (w115s.p rfl fv_zMm_336_0) ?_
              refine zs_iconst (pc := 179) t248_179 (v := 2) (by decide) ?_
              refine zs_dup2 (pc := 180) t248_180 ⟨rfl, rfl⟩ ?_
              have w123 : (zI w115M 337 2).toInt = w115G 2 := w115g.at (by decide) (by decide) (by decide)
              refine zs_iald (pc := 181) t248_181 (j := 2) (by decide) (zk1 (w115s.k fk_zMm_337)) li2 (zk2 (w115s.k fk_zMm_337) (by decide)) rfl ?_
              refine zs_iconst (pc := 182) t248_182 (v := 1) (by decide) ?_
              obtain ⟨w124v, w124e, w124⟩ := ziadd (a := (zI w115M 337 2)) (b := (1 : Int32)) rfl li1 (by omega) (by omega)
              refine zs_iadd (pc := 183) t248_183 (c := w124v) w124e ?_
              have w125 : zIv mLo mHi (zsI w115M 337 2 w124v) := zIv.putA w115I (by decide) (show 0 ≤ w124v.toInt ∧ w124v.toInt ≤ 12 from ⟨by omega, by omega⟩)
              have w126 : (zI w115M 337 0).toInt = (zI w115M 337 0).toInt := (congrArg Int32.toInt rfl).trans rfl
              have w127 := ibA1 w115I
              have w128 : (zI w115M 337 1).toInt = (zI w115M 337 1).toInt := (congrArg Int32.toInt rfl).trans rfl
              have w129 : zPR (zsI w115M 337 2 w124v) := zPR.put w115PR (by omega) (by omega) (by omega) (by omega)
              have w130 : zPC (zsI w115M 337 2 w124v) := zPC.put w115PC (by decide) (by decide)
              have w131 : zRw (zsI w115M 337 2 w124v) 0 (uS w115G 2 (F 2 + 1)) := zRw.put w115g (by omega)
              refine zs_iast (pc := 184) t248_184 (j := 2) (by decide) (zk1 (w115s.k fk_zMm_337)) li2 (zk2 (w115s.k fk_zMm_337) (by decide)) ?_
              refine zs_aload_n (pc := 185) t248_185 rfl ?_
              refine zs_bipush (pc := 186) t248_186 (v := 59) (by decide) ?_
              have w132 := ib336_6 w97I
              have w133 : (zI (zsI w115M 337 2 w124v) 336 6).toInt = (zI w97M 336 6).toInt := (congrArg Int32.toInt ((zIo (by decide)).trans ((w115F 336 6 rfl).trans ((zIo (by decide)).trans rfl)))).trans rfl
              have w134 : (59 : Int32).toInt = 59 := li59
              have w135 : (zI (zsI w115M 337 2 w124v) 336 6).toInt = (zI w97M 336 6).toInt := (congrArg Int32.toInt ((zIo (by decide)).trans ((w115F 336 6 rfl).trans ((zIo (by decide)).trans rfl)))).trans rfl
              have w136 : (zI (zsI w115M 337 2 w124v) 336 5).toInt = (zI M 336 5).toInt := (congrArg Int32.toInt ((zIo (by decide)).trans ((w115F 336 5 rfl).trans ((zIo (by decide)).trans ((w97F 336 5 rfl).trans ((w74F 336 5 rfl).trans ((w36F 336 5 rfl).trans rfl))))))).trans rfl
              have w137 := ib336_7 w97I
              have w138 : (zI (zsI w115M 337 2 w124v) 336 7).toInt = (zI w97M 336 7).toInt := (congrArg Int32.toInt ((zIo (by decide)).trans ((w115F 336 7 rfl).trans ((zIo (by decide)).trans rfl)))).trans rfl
              refine zs_invV (pc := 188) (k := 336) (as' := [.int (59 : Int32)]) (st := []) t248_188 mf246 rfl rfl (Or.inl ⟨by decide, (zk1 (w115s.k fk_zMm_336))⟩) ⟨by decide, by decide, Nat.le_of_ble_eq_true rfl, Nat.le_of_ble_eq_true rfl⟩ (R246 w115s w125 ⟨by decide, by decide⟩ (by omega) (by omega) (by omega) (zTm.mk x1 (fun j => ((zIo (by decide)).trans ((w115F 339 j rfl).trans ((zIo (by decide)).trans ((w97F 339 j rfl).trans ((w74F 339 j rfl).trans (w36F 339 j rfl))))))) ((zIo (by decide)).trans ((w115F 336 5 rfl).trans ((zIo (by decide)).trans ((w97F 336 5 rfl).trans ((w74F 336 5 rfl).trans (w36F 336 5 rfl))))))) ?_) (fun _ _ q => q)
              intro w139M w139v w139s w139I w139F w139J w139x0 w139a w139b
              show zGo X l 4 0 0 248 191 [(0, .ref 336), (1, .int a), (2, .int (zI M 337 2)), (3, .int w16v), (4, .int w115x4)] [.int w139v] w139M _
              have w140 := ib336_6 w139I
              have w141 : (zI w139M 336 6).toInt = (zI w139M 336 6).toInt := (congrArg Int32.toInt rfl).trans rfl
              have w142 := ib336_7 w139I
              have w143 : (zI w139M 336 7).toInt = (zI w139M 336 7).toInt := (congrArg Int32.toInt rfl).trans rfl
              have w144 : (zI w139M 336 6).toInt = (zI w139M 336 6).toInt := (congrArg Int32.toInt rfl).trans rfl
              have w145 : (zI w139M 336 7).toInt = (zI w139M 336 7).toInt := (congrArg Int32.toInt rfl).trans rfl
              have w139y := x1.rg w98e
              rw [show (59 : Int32).toInt = 59 by decide] at w139x0
              exact zs_iret (pc := 191) t248_191 mr248 (zfb01 (by omega)) (hQ _ _ w139s w139I ((((((((zFr.refl).trans (w36F.mono rfl)).trans (w74F.mono rfl)).trans (w97F.mono rfl)).put rfl).trans (w115F.mono rfl)).put rfl).trans (w139F.mono rfl)) (w139J.trans (w115J.trans (w97J.trans (w74J.trans w36J)))) ((((((((zUp.refl).trans w36U).trans w74U).trans (zUp.fr w97F rfl)).put (Or.inr (by omega))).trans w115U).put (Or.inr (by decide))).trans (zUp.fr w139F rfl)) (zPR.fr w129 (w139F.eq rfl)) (zPC.fr w130 (w139F.eq rfl)) (by omega) (by omega) (fun p hp => by
                  obtain rfl : w7n = p := (by omega)
                  rcases w139x0 w98e (by omega) with ⟨q1, q2, q3, q4, q5⟩ | ⟨q1, q2, q3⟩
                  · exact Or.inl ⟨by omega, w98e + 1, _, ((pB.y (by have z := w42_1; rw [show (-9999 : Int32).toInt = (-9999) by first | decide | omega, show (9999 : Int32).toInt = 9999 by first | decide | omega, show (44 : Int32).toInt = 44 by first | decide | omega] at z; exact z)).trans (pB.y (by have z := w80_1; rw [show (-50 : Int32).toInt = (-50) by first | decide | omega, show (50 : Int32).toInt = 50 by first | decide | omega, show (44 : Int32).toInt = 44 by first | decide | omega] at z; exact z))).trans ((pB.y (pRd.y w98_1 w98k.1 w98k.2 (by omega))).trans (pM.y (by rw [show (F 0).toNat = w116n by omega]; exact w115d.1.1))), by omega, by omega, by omega, by omega, (zRw.fr' w131 (fun j hj => (w139F 337 j rfl))), w115d.1.2.1⟩
                  · exact Or.inr ⟨by omega, by omega, ((pB.y (by have z := w42_1; rw [show (-9999 : Int32).toInt = (-9999) by first | decide | omega, show (9999 : Int32).toInt = 9999 by first | decide | omega, show (44 : Int32).toInt = 44 by first | decide | omega] at z; exact z)).trans (pB.y (by have z := w80_1; rw [show (-50 : Int32).toInt = (-50) by first | decide | omega, show (50 : Int32).toInt = 50 by first | decide | omega, show (44 : Int32).toInt = 44 by first | decide | omega] at z; exact z))).trans (pB.f (pRd.n w98_1 (by omega)))⟩) (by omega) (by omega))
            · refine zs_icmp_geF (pc := 82) t248_82 rfl rfl (by omega) ?_
              refine zs_aload_n (pc := 85) t248_85 rfl ?_
              refine zs_get (pc := 86) t248_86 (by decide) (zk1 (w115s.k fk_zMm_336)) (w115s.p rfl fv_zMm_336_0) ?_
              refine zs_iload_n (pc := 89) t248_89 rfl ?_
              have w146 := zrg (zI w115M 337 (270 + 3 * w53n))
              have w147 : (zI w115M 337 (270 + 3 * w53n)).toInt = w115G (270 + 3 * w53n) := w115g.at (by omega) (by omega) (by omega)
              refine zs_iald (pc := 90) t248_90 (j := (270 + 3 * w53n)) (by decide) (zk1 (w115s.k fk_zMm_337)) (show w16v.toInt = (((270 + 3 * w53n) : Nat) : Int) by omega) (zk2 (w115s.k fk_zMm_337) (by omega)) rfl ?_
              refine zs_aload_n (pc := 91) t248_91 rfl ?_
              refine zs_iload (pc := 92) t248_92 rfl ?_
              refine zs_aload_n (pc := 94) t248_94 rfl ?_
              refine zs_get (pc := 95) t248_95 (by decide) (zk1 (w115s.k fk_zMm_336)) (w115s.p rfl fv_zMm_336_0) ?_
              refine zs_iload_n (pc := 98) t248_98 rfl ?_
              refine zs_iconst (pc := 99) t248_99 (v := 1) (by decide) ?_
              obtain ⟨w148v, w148e, w148⟩ := ziadd (a := w16v) (b := (1 : Int32)) w16 li1 (by omega) (by omega)
              refine zs_iadd (pc := 100) t248_100 (c := w148v) w148e ?_
              have w149 := zrg (zI w115M 337 (271 + 3 * w53n))
              have w150 : (zI w115M 337 (271 + 3 * w53n)).toInt = w115G (271 + 3 * w53n) := w115g.at (by omega) (by omega) (by omega)
              refine zs_iald (pc := 101) t248_101 (j := (271 + 3 * w53n)) (by decide) (zk1 (w115s.k fk_zMm_337)) (show w148v.toInt = (((271 + 3 * w53n) : Nat) : Int) by omega) (zk2 (w115s.k fk_zMm_337) (by omega)) rfl ?_
              refine zs_aload_n (pc := 102) t248_102 rfl ?_
              refine zs_get (pc := 103) t248_103 (by decide) (zk1 (w115s.k fk_zMm_336)) (w115s.p rfl fv_zMm_336_0) ?_
              refine zs_iload_n (pc := 106) t248_106 rfl ?_
              refine zs_iconst (pc := 107) t248_107 (v := 2) (by decide) ?_
              obtain ⟨w151v, w151e, w151⟩ := ziadd (a := w16v) (b := (2 : Int32)) w16 li2 (by omega) (by omega)
              refine zs_iadd (pc := 108) t248_108 (c := w151v) w151e ?_
              have w152 := zrg (zI w115M 337 (272 + 3 * w53n))
              have w153 : (zI w115M 337 (272 + 3 * w53n)).toInt = w115G (272 + 3 * w53n) := w115g.at (by omega) (by omega) (by omega)
              refine zs_iald (pc := 109) t248_109 (j := (272 + 3 * w53n)) (by decide) (zk1 (w115s.k fk_zMm_337)) (show w151v.toInt = (((272 + 3 * w53n) : Nat) : Int) by omega) (zk2 (w115s.k fk_zMm_337) (by omega)) rfl ?_
              have w154 := zrg (zI w115M 337 (14 + 2 * w116n))
              refine zs_invV (pc := 110) (k := 336) (as' := [.int w115x4, .int (zI w115M 337 (271 + 3 * w53n)), .int (zI w115M 337 (272 + 3 * w53n))]) (st := [.int (zI w115M 337 (270 + 3 * w53n))]) t248_110 mf249 rfl rfl (Or.inl ⟨by decide, (zk1 (w115s.k fk_zMm_336))⟩) ⟨by decide, by decide, Nat.le_of_ble_eq_true rfl, Nat.le_of_ble_eq_true rfl⟩ (K249 w115s w115I ⟨by omega, by omega⟩ ?_) (fun _ _ q => q)
              have w155 := zrg (zlift w115M w115x4 (zI w115M 337 (271 + 3 * w53n)) (zI w115M 337 (272 + 3 * w53n)))
              have w156w := x2.2.1 w116n (by omega)
              have w156 : (zlift w115M w115x4 (zI w115M 337 (271 + 3 * w53n)) (zI w115M 337 (272 + 3 * w53n))).toInt = pLf F w116n w80x w98x := zliftE (by omega) (by omega) (by omega) (by omega) (by omega) (by omega) (by omega) ((w115g.at (by omega) (by omega) (by omega)).trans (w115d.1.2.2 _ (by omega))) w156w.1 w156w.2.1
              have w156b := pLf.b (l := w116n) (t := w80x) (k := w98x) w156w.1 w156w.2.1 (by omega) (by omega) (by omega) (by omega)
              have w156c : pLf F w116n w80x w98x = w80x * F (14 + 2 * w116n) / 100 + w98x * F (14 + 2 * w116n) * F (14 + 2 * w116n) / 10000 := rfl
              have w156e : -98901000 ≤ (zlift w115M w115x4 (zI w115M 337 (271 + 3 * w53n)) (zI w115M 337 (272 + 3 * w53n))).toInt ∧ (zlift w115M w115x4 (zI w115M 337 (271 + 3 * w53n)) (zI w115M 337 (272 + 3 * w53n))).toInt ≤ 98901000 := by omega
              show zGo X l 4 0 0 248 113 [(0, .ref 336), (1, .int a), (2, .int (zI M 337 2)), (3, .int w16v), (4, .int w115x4)] [.int (zlift w115M w115x4 (zI w115M 337 (271 + 3 * w53n)) (zI w115M 337 (272 + 3 * w53n))), .int (zI w115M 337 (270 + 3 * w53n))] w115M _
              obtain ⟨w157v, w157⟩ : ∃ v, v = (zI w115M 337 (270 + 3 * w53n)) + (zlift w115M w115x4 (zI w115M 337 (271 + 3 * w53n)) (zI w115M 337 (272 + 3 * w53n))) := ⟨_, rfl⟩
              have w157g := zrg w157v
              refine zs_iadd (pc := 113) t248_113 (c := w157v) w157.symm ?_
              refine zs_istore (pc := 114) t248_114 (ls' := [(5, .int w157v), (0, .ref 336), (1, .int a), (2, .int (zI M 337 2)), (3, .int w16v), (4, .int w115x4)]) (zml mf248 (by decide)) rfl ?_
              refine zs_iload (pc := 116) t248_116 rfl ?_
              refine zs_i2l (pc := 118) t248_118 rfl ?_
              refine zs_ldc2_w (pc := 119) t248_119 (v := -9999) (by decide) ?_
              refine zs_ldc2_w (pc := 122) t248_122 (v := 9999) (by decide) ?_
              by_cases w158 : (-9999) ≤ w157v.toInt ∧ w157v.toInt ≤ 9999
              · refine zs_invS (pc := 125) (as := [.long w157v.toInt64, .long (-9999 : Int64), .long (9999 : Int64)]) (st := []) t248_125 (by decide) mf228 rfl rfl ⟨by decide, by decide, Nat.le_of_ble_eq_true rfl, Nat.le_of_ble_eq_true rfl⟩ (K228T (zi2l rfl) lln9999 ll9999 (by omega) ?_) (fun _ _ q => q)
                show zGo X l 4 0 0 248 128 [(5, .int w157v), (0, .ref 336), (1, .int a), (2, .int (zI M 337 2)), (3, .int w16v), (4, .int w115x4)] [.int (1 : Int32)] w115M _
                refine zs_if_neT (pc := 128) t248_128 li1 (by decide) ?_
                refine zs_aload_n (pc := 134) t248_134 rfl ?_
                refine zs_get (pc := 135) t248_135 (by decide) (zk1 (w115s.k fk_zMm_336)) (w115s.p rfl fv_zMm_336_0) ?_
                refine zs_iconst (pc := 138) t248_138 (v := 1) (by decide) ?_
                have w159 := ibA1 w115I
                have w160 : (zI w115M 337 1).toInt = w115G 1 := w115g.at (by decide) (by decide) (by decide)
                refine zs_iald (pc := 139) t248_139 (j := 1) (by decide) (zk1 (w115s.k fk_zMm_337)) li1 (zk2 (w115s.k fk_zMm_337) (by decide)) rfl ?_
                refine zs_bipush (pc := 140) t248_140 (v := 60) (by decide) ?_
                by_cases w161 : (zI w115M 337 1).toInt ≠ 60
                · refine zs_icmp_neT (pc := 142) t248_142 rfl li60 (by omega) ?_
                  refine zs_aload_n (pc := 151) t248_151 rfl ?_
                  refine zs_iload (pc := 152) t248_152 rfl ?_
                  refine zs_iload (pc := 154) t248_154 rfl ?_
                  refine zs_aload_n (pc := 156) t248_156 rfl ?_
                  refine zs_iload (pc := 157) t248_157 rfl ?_
                  refine zs_invV (pc := 159) (k := 336) (as' := [.int w115x4]) (st := [.int w157v, .int w115x4, .ref 336]) t248_159 mf241 rfl rfl (Or.inl ⟨by decide, (zk1 (w115s.k fk_zMm_336))⟩) ⟨by decide, by decide, Nat.le_of_ble_eq_true rfl, Nat.le_of_ble_eq_true rfl⟩ (zs_in (by decide) mf241 (Nat.le_of_ble_eq_true rfl) ?_) (fun _ _ q => q)
                  show zGo X l 0 0 0 241 0 [(0, .ref 336), (1, .int w115x4)] [] w115M _
                  refine zs_aload_n (pc := 0) t241_0 rfl ?_
                  refine zs_get (pc := 1) t241_1 (by decide) (zk1 (w115s.k fk_zMm_336)) (w115s.p rfl fv_zMm_336_0) ?_
                  refine zs_bipush (pc := 4) t241_4 (v := 14) (by decide) ?_
                  refine zs_iconst (pc := 6) t241_6 (v := 2) (by decide) ?_
                  refine zs_iload_n (pc := 7) t241_7 rfl ?_
                  obtain ⟨w162v, w162⟩ : ∃ v, (2 : Int32) * w115x4 = v := ⟨_, rfl⟩
                  have w162g : w162v.toInt = 2 * w115x4.toInt := by rw [← w162]; exact zmulc li2 rfl (by omega) (by omega)
                  refine zs_imul (pc := 8) t241_8 (c := w162v) w162 ?_
                  obtain ⟨w163v, w163e, w163⟩ := ziadd (a := (14 : Int32)) (b := w162v) li14 w162g (by omega) (by omega)
                  refine zs_iadd (pc := 9) t241_9 (c := w163v) w163e ?_
                  have w164 : (zI w115M 337 (14 + 2 * w116n)).toInt = w115G (14 + 2 * w116n) := w115g.at (by omega) (by omega) (by omega)
                  have w165 : w115G (14 + 2 * w116n) = F (14 + 2 * w116n) := w115d.1.2.2 _ (by omega)
                  have w166 := x2.2.1 w116n (by omega)
                  refine zs_iald (pc := 10) t241_10 (j := (14 + 2 * w116n)) (by decide) (zk1 (w115s.k fk_zMm_337)) (show w163v.toInt = (((14 + 2 * w116n) : Nat) : Int) by omega) (zk2 (w115s.k fk_zMm_337) (by omega)) rfl ?_
                  refine zs_iret (pc := 11) t241_11 mr241 rfl ?_
                  show zGo X l 4 0 0 248 162 [(5, .int w157v), (0, .ref 336), (1, .int a), (2, .int (zI M 337 2)), (3, .int w16v), (4, .int w115x4)] [.int (zI w115M 337 (14 + 2 * w116n)), .int w157v, .int w115x4, .ref 336] w115M _
                  refine zs_bipush (pc := 162) t248_162 (v := 10) (by decide) ?_
                  obtain ⟨w167v, w167⟩ : ∃ v, (zI w115M 337 (14 + 2 * w116n)) / (10 : Int32) = v := ⟨_, rfl⟩
                  have w167g : w167v.toInt = (zI w115M 337 (14 + 2 * w116n)).toInt / 10 := by rw [← w167]; exact zdivp rfl li10 (by omega) (by decide)
                  refine zs_idiv (pc := 164) t248_164 (by decide) (c := w167v) w167 ?_
                  refine zs_iload_n (pc := 165) t248_165 rfl ?_
                  have w168 : (zI w115M 337 0).toInt = (zI w115M 337 0).toInt := (congrArg Int32.toInt rfl).trans rfl
                  have w169 : (zI w115M 337 1).toInt = (zI w115M 337 1).toInt := (congrArg Int32.toInt rfl).trans rfl
                  have w170 : (zI w115M 337 0).toInt = (zI w115M 337 0).toInt := (congrArg Int32.toInt rfl).trans rfl
                  have w171 : (zI w115M 337 1).toInt = (zI w115M 337 1).toInt := (congrArg Int32.toInt rfl).trans rfl
                  have w172 : (zI w115M 337 2).toInt = (zI w115M 337 2).toInt := (congrArg Int32.toInt rfl).trans rfl
                  refine zs_invV (pc := 166) (k := 336) (as' := [.int w115x4, .int w157v, .int w167v, .int (zI M 337 2)]) (st := []) t248_166 mf252 rfl rfl (Or.inl ⟨by decide, (zk1 (w115s.k fk_zMm_336))⟩) ⟨by decide, by decide, Nat.le_of_ble_eq_true rfl, Nat.le_of_ble_eq_true rfl⟩ (R252 w115s w115I w115PR w115PC ⟨by omega, by omega⟩ (by omega) (by omega) w115g ?_) (fun _ _ q => q)
                  intro w173M w173s w173I w173F w173J w173U w173PR w173PC w173t0 w173t1 w173t2 w173x0
                  have w174 := ibA0 w173I
                  have w175 := ibA1 w173I
                  have w176 := ibA2 w173I
                  show zGo X l 4 0 0 248 169 [(5, .int w157v), (0, .ref 336), (1, .int a), (2, .int (zI M 337 2)), (3, .int w16v), (4, .int w115x4)] [] w173M _
                  rw [show w115x4.toInt = (w116n : Int) by omega, show (zI M 337 2).toInt = F 2 by omega] at w173x0
                  obtain ⟨w177v, w177e, w177⟩ := ziadd (a := w115x4) (b := Int32.ofInt 1) rfl (show (Int32.ofInt 1).toInt = 1 by decide) (by omega) (by omega)
                  refine zs_iinc (pc := 169) t248_169 (ls' := [(4, .int w177v), (5, .int w157v), (0, .ref 336), (1, .int a), (2, .int (zI M 337 2)), (3, .int w16v)]) (zml mf248 (by decide)) rfl (c := w177v) w177e rfl ?_
                  refine zs_goto (pc := 172) t248_172 ?_
                  refine zGo.locals (ls' := [(0, .ref 336), (1, .int a), (2, .int (zI M 337 2)), (3, .int w16v), (4, .int w177v)]) (by simp) ?_
                  have w178 := w177
                  have w179 : (zI w173M 337 0).toInt = (zI w173M 337 0).toInt := (congrArg Int32.toInt rfl).trans rfl
                  have w180 : (zI w173M 337 2).toInt = (zI w173M 337 2).toInt := (congrArg Int32.toInt rfl).trans rfl
                  have w181 : w177v.toInt = (w115x4.toInt + 1) := w177
                  exact w115ih (w115m - 1) (by omega) w177v w173M ⟨by omega, by omega⟩ w173s w173I (((zFr.refl).trans (w115F.mono rfl)).trans (w173F.mono rfl)) (w173J.trans w115J) (((zUp.refl).trans w115U).trans w173U) w173PR w173PC (by omega) (by omega) (by omega) (fun l hl => by obtain rfl : w116n + 1 = l := (by omega); exact ⟨_, zPm.hit w115d x2 (by omega) (by omega) (by omega) (by omega) (by omega) (by omega), w173x0⟩) (by omega)
                · refine zs_icmp_neF (pc := 142) t248_142 rfl li60 (by omega) ?_
                  refine zs_aload_n (pc := 145) t248_145 rfl ?_
                  refine zs_iload_n (pc := 146) t248_146 rfl ?_
                  refine zs_invV (pc := 147) (k := 336) (as' := [.int a]) (st := []) t248_147 mf239 rfl rfl (Or.inl ⟨by decide, (zk1 (w115s.k fk_zMm_336))⟩) ⟨by decide, by decide, Nat.le_of_ble_eq_true rfl, Nat.le_of_ble_eq_true rfl⟩ (zs_in (by decide) mf239 (Nat.le_of_ble_eq_true rfl) ?_) (fun _ _ q => q)
                  show zGo X l 0 0 0 239 0 [(0, .ref 336), (1, .int a)] [] w115M _
                  refine zs_aload_n (pc := 0) t239_0 rfl ?_
                  refine zs_iload_n (pc := 1) t239_1 rfl ?_
                  have w182 : zIv mLo mHi (zsI w115M 336 7 a) := zIv.put w115I (show (-1) ≤ a.toInt ∧ a.toInt ≤ 500 from ⟨by omega, by omega⟩)
                  refine zs_putI (pc := 2) t239_2 (zk1 (w115s.k fk_zMm_336)) rfl ?_
                  refine zs_iconst (pc := 5) t239_5 (v := 0) (by decide) ?_
                  refine zs_iret (pc := 6) t239_6 mr239 (by decide) ?_
                  show zGo X l 4 0 0 248 150 [(5, .int w157v), (0, .ref 336), (1, .int a), (2, .int (zI M 337 2)), (3, .int w16v), (4, .int w115x4)] [.int (0 : Int32)] (zsI w115M 336 7 a) _
                  have w183 : (0 : Int32).toInt = 0 := li0
                  have w184 : (zI (zsI w115M 336 7 a) 336 6).toInt = (zI w97M 336 6).toInt := (congrArg Int32.toInt ((zIoj (by decide)).trans ((w115F 336 6 rfl).trans ((zIo (by decide)).trans rfl)))).trans rfl
                  have w185 : (zI (zsI w115M 336 7 a) 336 7).toInt = a.toInt := (congrArg Int32.toInt zIs).trans rfl
                  have w186 := li0
                  have w187 : (zI (zsI w115M 336 7 a) 336 6).toInt = (zI w97M 336 6).toInt := (congrArg Int32.toInt ((zIoj (by decide)).trans ((w115F 336 6 rfl).trans ((zIo (by decide)).trans rfl)))).trans rfl
                  have w188 : (zI (zsI w115M 336 7 a) 336 7).toInt = a.toInt := (congrArg Int32.toInt zIs).trans rfl
                  exact zs_iret (pc := 150) t248_150 mr248 (by decide) (hQ _ _ w115s w182 (((((((zFr.refl).trans (w36F.mono rfl)).trans (w74F.mono rfl)).trans (w97F.mono rfl)).put rfl).trans (w115F.mono rfl)).put rfl) (w115J.trans (w97J.trans (w74J.trans w36J))) (((((((zUp.refl).trans w36U).trans w74U).trans (zUp.fr w97F rfl)).put (Or.inr (by omega))).trans w115U).put (Or.inl (by decide))) (zPR.fr (M' := (zsI w115M 336 7 a)) w115PR (zEq.put rfl)) (zPC.fr (M' := (zsI w115M 336 7 a)) w115PC (zEq.put rfl)) (by omega) (by omega) (fun p hp => by
                      obtain rfl : w7n = p := (by omega)
                      by_cases z : gg w98e = 59
                      · exact Or.inr ⟨by first | decide | omega, by omega, ((pB.y (by have z := w42_1; rw [show (-9999 : Int32).toInt = (-9999) by first | decide | omega, show (9999 : Int32).toInt = 9999 by first | decide | omega, show (44 : Int32).toInt = 44 by first | decide | omega] at z; exact z)).trans (pB.y (by have z := w80_1; rw [show (-50 : Int32).toInt = (-50) by first | decide | omega, show (50 : Int32).toInt = 50 by first | decide | omega, show (44 : Int32).toInt = 44 by first | decide | omega] at z; exact z))).trans ((pB.y (pRd.y w98_1 w98k.1 w98k.2 z)).trans (pM.f (zPj.full w115d.1 (by omega) (by omega) (by omega) (by omega))))⟩
                      · exact Or.inr ⟨by first | decide | omega, by omega, ((pB.y (by have z := w42_1; rw [show (-9999 : Int32).toInt = (-9999) by first | decide | omega, show (9999 : Int32).toInt = 9999 by first | decide | omega, show (44 : Int32).toInt = 44 by first | decide | omega] at z; exact z)).trans (pB.y (by have z := w80_1; rw [show (-50 : Int32).toInt = (-50) by first | decide | omega, show (50 : Int32).toInt = 50 by first | decide | omega, show (44 : Int32).toInt = 44 by first | decide | omega] at z; exact z))).trans (pB.f (pRd.n w98_1 (Or.inr (Or.inr z))))⟩) (by decide) (by decide))
              · refine zs_invS (pc := 125) (as := [.long w157v.toInt64, .long (-9999 : Int64), .long (9999 : Int64)]) (st := []) t248_125 (by decide) mf228 rfl rfl ⟨by decide, by decide, Nat.le_of_ble_eq_true rfl, Nat.le_of_ble_eq_true rfl⟩ (K228F (zi2l rfl) lln9999 ll9999 (by omega) ?_) (fun _ _ q => q)
                show zGo X l 4 0 0 248 128 [(5, .int w157v), (0, .ref 336), (1, .int a), (2, .int (zI M 337 2)), (3, .int w16v), (4, .int w115x4)] [.int (0 : Int32)] w115M _
                refine zs_if_neF (pc := 128) t248_128 li0 (by decide) ?_
                refine zs_goto (pc := 131) t248_131 ?_
                obtain ⟨w189v, w189e, w189⟩ := ziadd (a := w115x4) (b := Int32.ofInt 1) rfl (show (Int32.ofInt 1).toInt = 1 by decide) (by omega) (by omega)
                refine zs_iinc (pc := 169) t248_169 (ls' := [(4, .int w189v), (5, .int w157v), (0, .ref 336), (1, .int a), (2, .int (zI M 337 2)), (3, .int w16v)]) (zml mf248 (by decide)) rfl (c := w189v) w189e rfl ?_
                refine zs_goto (pc := 172) t248_172 ?_
                refine zGo.locals (ls' := [(0, .ref 336), (1, .int a), (2, .int (zI M 337 2)), (3, .int w16v), (4, .int w189v)]) (by simp) ?_
                have w190 := w189
                have w191 : (zI w115M 337 0).toInt = (zI w115M 337 0).toInt := (congrArg Int32.toInt rfl).trans rfl
                have w192 : (zI w115M 337 2).toInt = (zI w115M 337 2).toInt := (congrArg Int32.toInt rfl).trans rfl
                have w193 : w189v.toInt = (w115x4.toInt + 1) := w189
                exact w115ih (w115m - 1) (by omega) w189v w115M ⟨by omega, by omega⟩ w115s w115I ((zFr.refl).trans (w115F.mono rfl)) w115J ((zUp.refl).trans w115U) w115PR w115PC (by omega) (by omega) (by omega) (fun l hl => by obtain rfl : w116n + 1 = l := (by omega); exact ⟨w115G, w115d.skip (by omega), w115g⟩) (by omega)
        refine zGo.locals (ls' := [(0, .ref 336), (1, .int a), (2, .int (zI M 337 2)), (3, .int w16v), (4, .int (0 : Int32))]) (by simp) ?_
        have w194 := li0
        have w195 : (zI (zsI w97M 337 (272 + 3 * w53n) (zI w97M 336 8)) 337 0).toInt = (zI w74M 337 0).toInt := (congrArg Int32.toInt ((zIoj (by omega)).trans ((w97F 337 0 rfl).trans rfl))).trans rfl
        have w196 : (zI (zsI w97M 337 (272 + 3 * w53n) (zI w97M 336 8)) 337 2).toInt = (zI w74M 337 2).toInt := (congrArg Int32.toInt ((zIoj (by omega)).trans ((w97F 337 2 rfl).trans rfl))).trans rfl
        exact w115L ((8 - 0 : Int).toNat) (0 : Int32) (zsI w97M 337 (272 + 3 * w53n) (zI w97M 336 8)) ⟨by decide, by decide⟩ w97s w109 zFr.refl rfl zUp.refl w112 w113 (by omega) (by omega) (by omega) (fun l hl => by obtain rfl : l = 0 := (by omega); exact ⟨_, zPm.zero x2 (by omega), by unfold pPar; rw [show (F 2).toNat = w53n by omega]; exact w114⟩) (by omega)
