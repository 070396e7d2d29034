theorem K254 {X : zX} {l : Launch} {M : zM} {Q : Option Value → zM → Prop} (hs : zSk zMm M) (hI : zIv mLo mHi M) (pR : zPR M) (pC : zPC M) (pF : zPF M) (hQ : ∀ (M' : zM) (v : Int32), zSk zMm M' → zIv mLo mHi M' → zFr [(336, 363, none)] M M' → zPR M' → zPC M' → zPF M' → Q (some (.int v)) M') : zCall X l 7 0 0 254 [.ref 336] M Q := by
  refine zs_in (by decide) mf254 (Nat.le_of_ble_eq_true rfl) ?_
  show zGo X l 7 0 0 254 0 [(0, .ref 336)] [] M _
  refine zs_aload_n (pc := 0) t254_0 rfl ?_
  refine zs_invV (pc := 1) (k := 336) (as' := []) (st := []) t254_1 mf236 rfl rfl (Or.inl ⟨by decide, (zk1 (hs.k fk_zMm_336))⟩) ⟨by decide, by decide, Nat.le_of_ble_eq_true rfl, Nat.le_of_ble_eq_true rfl⟩ (zs_in (by decide) mf236 (Nat.le_of_ble_eq_true rfl) ?_) (fun _ _ q => q)
  show zGo X l 0 0 0 236 0 [(0, .ref 336)] [] M _
  refine zs_aload_n (pc := 0) t236_0 rfl ?_
  refine zs_iconst (pc := 1) t236_1 (v := 0) (by decide) ?_
  have w1 : zIv mLo mHi (zsI M 336 6 (0 : Int32)) := zIv.put hI (show 0 ≤ (0 : Int32).toInt ∧ (0 : Int32).toInt ≤ 500 from ⟨by decide, by decide⟩)
  refine zs_putI (pc := 2) t236_2 (zk1 (hs.k fk_zMm_336)) rfl ?_
  refine zs_aload_n (pc := 5) t236_5 rfl ?_
  refine zs_iconst (pc := 6) t236_6 (v := -1) (by decide) ?_
  have w2 : zIv mLo mHi (zsI (zsI M 336 6 (0 : Int32)) 336 7 (-1 : Int32)) := zIv.put w1 (show (-1) ≤ (-1 : Int32).toInt ∧ (-1 : Int32).toInt ≤ 500 from ⟨by decide, by decide⟩)
  refine zs_putI (pc := 7) t236_7 (zk1 (hs.k fk_zMm_336)) rfl ?_
  refine zs_vret (pc := 10) t236_10 mr236 ?_
  show zGo X l 7 0 0 254 4 [(0, .ref 336)] [] (zsI (zsI M 336 6 (0 : Int32)) 336 7 (-1 : Int32)) _
  refine zs_aload_n (pc := 4) t254_4 rfl ?_
  refine zs_iconst (pc := 5) t254_5 (v := 0) (by decide) ?_
  have w3 : zIv mLo mHi (zsI (zsI (zsI M 336 6 (0 : Int32)) 336 7 (-1 : Int32)) 336 11 (0 : Int32)) := zIv.put w2 (show 0 ≤ (0 : Int32).toInt ∧ (0 : Int32).toInt ≤ 200 from ⟨by decide, by decide⟩)
  have w4 : zGh (zsI (zsI (zsI M 336 6 (0 : Int32)) 336 7 (-1 : Int32)) 336 11 (0 : Int32)) 0 := zGh.zero (by decide)
  refine zs_putI (pc := 6) t254_6 (zk1 (hs.k fk_zMm_336)) rfl ?_
  refine zs_aload_n (pc := 9) t254_9 rfl ?_
  refine zs_iconst (pc := 10) t254_10 (v := 0) (by decide) ?_
  have w5 : zIv mLo mHi (zsI (zsI (zsI (zsI M 336 6 (0 : Int32)) 336 7 (-1 : Int32)) 336 11 (0 : Int32)) 336 12 (0 : Int32)) := zIv.put w3 (show 0 ≤ (0 : Int32).toInt ∧ (0 : Int32).toInt ≤ 40 from ⟨by decide, by decide⟩)
  refine zs_putI (pc := 11) t254_11 (zk1 (hs.k fk_zMm_336)) rfl ?_
  refine zs_aload_n (pc := 14) t254_14 rfl ?_
  refine zs_iconst (pc := 15) t254_15 (v := 0) (by decide) ?_
  have w6 : zIv mLo mHi (zsI (zsI (zsI (zsI (zsI M 336 6 (0 : Int32)) 336 7 (-1 : Int32)) 336 11 (0 : Int32)) 336 12 (0 : Int32)) 336 13 (0 : Int32)) := zIv.put w5 (show 0 ≤ (0 : Int32).toInt ∧ (0 : Int32).toInt ≤ 30 from ⟨by decide, by decide⟩)
  refine zs_putI (pc := 16) t254_16 (zk1 (hs.k fk_zMm_336)) rfl ?_
  refine zs_aload_n (pc := 19) t254_19 rfl ?_
  refine zs_iconst (pc := 20) t254_20 (v := 0) (by decide) ?_
  have w7 : zIv mLo mHi (zsI (zsI (zsI (zsI (zsI (zsI M 336 6 (0 : Int32)) 336 7 (-1 : Int32)) 336 11 (0 : Int32)) 336 12 (0 : Int32)) 336 13 (0 : Int32)) 336 14 (0 : Int32)) := zIv.put w6 (show 0 ≤ (0 : Int32).toInt ∧ (0 : Int32).toInt ≤ 6 from ⟨by decide, by decide⟩)
  have w8 : (zI (zsI (zsI (zsI (zsI (zsI (zsI M 336 6 (0 : Int32)) 336 7 (-1 : Int32)) 336 11 (0 : Int32)) 336 12 (0 : Int32)) 336 13 (0 : Int32)) 336 14 (0 : Int32)) 336 12).toInt = 0 := (congrArg Int32.toInt ((zIoj (by decide)).trans ((zIoj (by decide)).trans zIs))).trans li0
  have w9 : (zI (zsI (zsI (zsI (zsI (zsI (zsI M 336 6 (0 : Int32)) 336 7 (-1 : Int32)) 336 11 (0 : Int32)) 336 12 (0 : Int32)) 336 13 (0 : Int32)) 336 14 (0 : Int32)) 336 14).toInt = 0 := (congrArg Int32.toInt zIs).trans li0
  have w11 := li0
  have w10 : zGn (zsI (zsI (zsI (zsI (zsI (zsI M 336 6 (0 : Int32)) 336 7 (-1 : Int32)) 336 11 (0 : Int32)) 336 12 (0 : Int32)) 336 13 (0 : Int32)) 336 14 (0 : Int32)) := zGn.zero (by omega) (by omega)
  refine zs_putI (pc := 21) t254_21 (zk1 (hs.k fk_zMm_336)) rfl ?_
  refine zs_aload_n (pc := 24) t254_24 rfl ?_
  have w12 := ib336_5 hI
  refine zs_get (pc := 25) t254_25 (by decide) (zk1 (hs.k fk_zMm_336)) (zfvi rfl ((zIoj (by decide)).trans ((zIoj (by decide)).trans ((zIoj (by decide)).trans ((zIoj (by decide)).trans ((zIoj (by decide)).trans ((zIoj (by decide)).trans rfl))))))) ?_
  by_cases w13 : (zI M 336 5).toInt = 0
  · refine zs_if_eqT (pc := 28) t254_28 rfl (by omega) ?_
    refine zs_iconst (pc := 38) t254_38 (v := 1) (by decide) ?_
    refine zs_goto (pc := 39) t254_39 ?_
    refine zs_istore_n (pc := 43) t254_43 (ls' := [(1, .int (1 : Int32)), (0, .ref 336)]) (zml mf254 (by decide)) rfl ?_
    refine zs_aload_n (pc := 44) t254_44 rfl ?_
    refine zs_iconst (pc := 45) t254_45 (v := 0) (by decide) ?_
    have w14 : zIv mLo mHi (zsI (zsI (zsI (zsI (zsI (zsI (zsI M 336 6 (0 : Int32)) 336 7 (-1 : Int32)) 336 11 (0 : Int32)) 336 12 (0 : Int32)) 336 13 (0 : Int32)) 336 14 (0 : Int32)) 336 5 (0 : Int32)) := zIv.put w7 (show 0 ≤ (0 : Int32).toInt ∧ (0 : Int32).toInt ≤ 500 from ⟨by decide, by decide⟩)
    refine zs_putI (pc := 46) t254_46 (zk1 (hs.k fk_zMm_336)) rfl ?_
    refine zs_iload_n (pc := 49) t254_49 rfl ?_
    refine zs_if_neT (pc := 50) t254_50 li1 (by decide) ?_
    refine zs_aload_n (pc := 55) t254_55 rfl ?_
    refine zs_iconst (pc := 56) t254_56 (v := 0) (by decide) ?_
    have w15 := ibA1 hI
    have w16 : (zI (zsI (zsI (zsI (zsI (zsI (zsI (zsI M 336 6 (0 : Int32)) 336 7 (-1 : Int32)) 336 11 (0 : Int32)) 336 12 (0 : Int32)) 336 13 (0 : Int32)) 336 14 (0 : Int32)) 336 5 (0 : Int32)) 337 1).toInt = (zI M 337 1).toInt := (congrArg Int32.toInt ((zIo (by decide)).trans ((zIo (by decide)).trans ((zIo (by decide)).trans ((zIo (by decide)).trans ((zIo (by decide)).trans ((zIo (by decide)).trans ((zIo (by decide)).trans rfl)))))))).trans rfl
    have w17 := ibA0 hI
    have w18 : (zI (zsI (zsI (zsI (zsI (zsI (zsI (zsI M 336 6 (0 : Int32)) 336 7 (-1 : Int32)) 336 11 (0 : Int32)) 336 12 (0 : Int32)) 336 13 (0 : Int32)) 336 14 (0 : Int32)) 336 5 (0 : Int32)) 337 0).toInt = (zI M 337 0).toInt := (congrArg Int32.toInt ((zIo (by decide)).trans ((zIo (by decide)).trans ((zIo (by decide)).trans ((zIo (by decide)).trans ((zIo (by decide)).trans ((zIo (by decide)).trans ((zIo (by decide)).trans rfl)))))))).trans rfl
    have w19 := ibA2 hI
    have w20 : (zI (zsI (zsI (zsI (zsI (zsI (zsI (zsI M 336 6 (0 : Int32)) 336 7 (-1 : Int32)) 336 11 (0 : Int32)) 336 12 (0 : Int32)) 336 13 (0 : Int32)) 336 14 (0 : Int32)) 336 5 (0 : Int32)) 337 2).toInt = (zI M 337 2).toInt := (congrArg Int32.toInt ((zIo (by decide)).trans ((zIo (by decide)).trans ((zIo (by decide)).trans ((zIo (by decide)).trans ((zIo (by decide)).trans ((zIo (by decide)).trans ((zIo (by decide)).trans rfl)))))))).trans rfl
    refine zs_invV (pc := 57) (k := 336) (as' := [.int (0 : Int32)]) (st := []) t254_57 mf230 rfl rfl (Or.inl ⟨by decide, (zk1 (hs.k fk_zMm_336))⟩) ⟨by decide, by decide, Nat.le_of_ble_eq_true rfl, Nat.le_of_ble_eq_true rfl⟩ (K230_0 hs w14 (zPR.fr (M' := (zsI (zsI (zsI (zsI (zsI (zsI (zsI M 336 6 (0 : Int32)) 336 7 (-1 : Int32)) 336 11 (0 : Int32)) 336 12 (0 : Int32)) 336 13 (0 : Int32)) 336 14 (0 : Int32)) 336 5 (0 : Int32))) (zPR.fr (M' := (zsI (zsI (zsI (zsI (zsI (zsI M 336 6 (0 : Int32)) 336 7 (-1 : Int32)) 336 11 (0 : Int32)) 336 12 (0 : Int32)) 336 13 (0 : Int32)) 336 14 (0 : Int32))) (zPR.fr (M' := (zsI (zsI (zsI (zsI (zsI M 336 6 (0 : Int32)) 336 7 (-1 : Int32)) 336 11 (0 : Int32)) 336 12 (0 : Int32)) 336 13 (0 : Int32))) (zPR.fr (M' := (zsI (zsI (zsI (zsI M 336 6 (0 : Int32)) 336 7 (-1 : Int32)) 336 11 (0 : Int32)) 336 12 (0 : Int32))) (zPR.fr (M' := (zsI (zsI (zsI M 336 6 (0 : Int32)) 336 7 (-1 : Int32)) 336 11 (0 : Int32))) (zPR.fr (M' := (zsI (zsI M 336 6 (0 : Int32)) 336 7 (-1 : Int32))) (zPR.fr (M' := (zsI M 336 6 (0 : Int32))) pR (zEq.put rfl)) (zEq.put rfl)) (zEq.put rfl)) (zEq.put rfl)) (zEq.put rfl)) (zEq.put rfl)) (zEq.put rfl)) (zPC.fr (M' := (zsI (zsI (zsI (zsI (zsI (zsI (zsI M 336 6 (0 : Int32)) 336 7 (-1 : Int32)) 336 11 (0 : Int32)) 336 12 (0 : Int32)) 336 13 (0 : Int32)) 336 14 (0 : Int32)) 336 5 (0 : Int32))) (zPC.fr (M' := (zsI (zsI (zsI (zsI (zsI (zsI M 336 6 (0 : Int32)) 336 7 (-1 : Int32)) 336 11 (0 : Int32)) 336 12 (0 : Int32)) 336 13 (0 : Int32)) 336 14 (0 : Int32))) (zPC.fr (M' := (zsI (zsI (zsI (zsI (zsI M 336 6 (0 : Int32)) 336 7 (-1 : Int32)) 336 11 (0 : Int32)) 336 12 (0 : Int32)) 336 13 (0 : Int32))) (zPC.fr (M' := (zsI (zsI (zsI (zsI M 336 6 (0 : Int32)) 336 7 (-1 : Int32)) 336 11 (0 : Int32)) 336 12 (0 : Int32))) (zPC.fr (M' := (zsI (zsI (zsI M 336 6 (0 : Int32)) 336 7 (-1 : Int32)) 336 11 (0 : Int32))) (zPC.fr (M' := (zsI (zsI M 336 6 (0 : Int32)) 336 7 (-1 : Int32))) (zPC.fr (M' := (zsI M 336 6 (0 : Int32))) pC (zEq.put rfl)) (zEq.put rfl)) (zEq.put rfl)) (zEq.put rfl)) (zEq.put rfl)) (zEq.put rfl)) (zEq.put rfl)) ?_) (fun _ _ q => q)
    intro w21M w21s w21I w21F w21J w21PR w21PC w21PF w21t0 w21t1 w21t2
    have w22 := ibA1 w21I
    have w23 := ibA0 w21I
    have w24 := ibA2 w21I
    show zGo X l 7 0 0 254 60 [(1, .int (1 : Int32)), (0, .ref 336)] [] w21M _
    refine zs_aload_n (pc := 60) t254_60 rfl ?_
    refine zs_get (pc := 61) t254_61 (by decide) (zk1 (w21s.k fk_zMm_336)) (w21s.p rfl fv_zMm_336_0) ?_
    refine zs_iconst (pc := 64) t254_64 (v := 3) (by decide) ?_
    refine zs_aload_n (pc := 65) t254_65 rfl ?_
    refine zs_get (pc := 66) t254_66 (by decide) (zk1 (w21s.k fk_zMm_336)) (zfvi rfl ((w21F 336 13 rfl).trans ((zIoj (by decide)).trans ((zIoj (by decide)).trans zIs)))) ?_
    have w25 : zIv mLo mHi (zsI w21M 337 3 (0 : Int32)) := zIv.putA w21I (by decide) (show (-2147483648) ≤ (0 : Int32).toInt ∧ (0 : Int32).toInt ≤ 2147483647 from zrg (0 : Int32))
    have w26 : (zI w21M 337 0).toInt = (zI w21M 337 0).toInt := (congrArg Int32.toInt rfl).trans rfl
    have w27 : (zI w21M 337 1).toInt = (zI w21M 337 1).toInt := (congrArg Int32.toInt rfl).trans rfl
    have w28 : zPR (zsI w21M 337 3 (0 : Int32)) := zPR.put w21PR (by omega) (by omega) (by omega) (by omega)
    have w29 : zPC (zsI w21M 337 3 (0 : Int32)) := zPC.put w21PC (by decide) (by decide)
    refine zs_iast (pc := 69) t254_69 (j := 3) (by decide) (zk1 (w21s.k fk_zMm_337)) li3 (zk2 (w21s.k fk_zMm_337) (by decide)) ?_
    refine zs_aload_n (pc := 70) t254_70 rfl ?_
    refine zs_get (pc := 71) t254_71 (by decide) (zk1 (w21s.k fk_zMm_336)) (w21s.p rfl fv_zMm_336_0) ?_
    refine zs_iconst (pc := 74) t254_74 (v := 4) (by decide) ?_
    refine zs_aload_n (pc := 75) t254_75 rfl ?_
    refine zs_get (pc := 76) t254_76 (by decide) (zk1 (w21s.k fk_zMm_336)) (zfvi rfl ((zIo (by decide)).trans ((w21F 336 11 rfl).trans ((zIoj (by decide)).trans ((zIoj (by decide)).trans ((zIoj (by decide)).trans ((zIoj (by decide)).trans zIs))))))) ?_
    have w30 : zIv mLo mHi (zsI (zsI w21M 337 3 (0 : Int32)) 337 4 (0 : Int32)) := zIv.putA w25 (by decide) (show 0 ≤ (0 : Int32).toInt ∧ (0 : Int32).toInt ≤ 200 from ⟨by decide, by decide⟩)
    have w31 : (zI (zsI w21M 337 3 (0 : Int32)) 337 0).toInt = (zI w21M 337 0).toInt := (congrArg Int32.toInt ((zIoj (by decide)).trans rfl)).trans rfl
    have w32 : (zI (zsI w21M 337 3 (0 : Int32)) 337 1).toInt = (zI w21M 337 1).toInt := (congrArg Int32.toInt ((zIoj (by decide)).trans rfl)).trans rfl
    have w33 : zPR (zsI (zsI w21M 337 3 (0 : Int32)) 337 4 (0 : Int32)) := zPR.put w28 (by omega) (by omega) (by omega) (by omega)
    refine zs_iast (pc := 79) t254_79 (j := 4) (by decide) (zk1 (w21s.k fk_zMm_337)) li4 (zk2 (w21s.k fk_zMm_337) (by decide)) ?_
    refine zs_iconst (pc := 80) t254_80 (v := 0) (by decide) ?_
    refine zs_istore_n (pc := 81) t254_81 (ls' := [(2, .int (0 : Int32)), (1, .int (1 : Int32)), (0, .ref 336)]) (zml mf254 (by decide)) rfl ?_
    have w34 : zCd (zI (zsI (zsI w21M 337 3 (0 : Int32)) 337 4 (0 : Int32)) 340) (zI (zsI (zsI w21M 337 3 (0 : Int32)) 337 4 (0 : Int32)) 336 11).toInt := by
      rw [show zI (zsI (zsI w21M 337 3 (0 : Int32)) 337 4 (0 : Int32)) 336 11 = zI (zsI (zsI w21M 337 3 (0 : Int32)) 337 4 (0 : Int32)) 336 11 from rfl]
      exact zCd.cg ((zGh.fr (M' := (zsI (zsI w21M 337 3 (0 : Int32)) 337 4 (0 : Int32))) (zGh.fr (M' := (zsI w21M 337 3 (0 : Int32))) (zGh.fr (zGh.fr (M' := (zsI (zsI (zsI (zsI (zsI (zsI (zsI M 336 6 (0 : Int32)) 336 7 (-1 : Int32)) 336 11 (0 : Int32)) 336 12 (0 : Int32)) 336 13 (0 : Int32)) 336 14 (0 : Int32)) 336 5 (0 : Int32))) (zGh.fr (M' := (zsI (zsI (zsI (zsI (zsI (zsI M 336 6 (0 : Int32)) 336 7 (-1 : Int32)) 336 11 (0 : Int32)) 336 12 (0 : Int32)) 336 13 (0 : Int32)) 336 14 (0 : Int32))) (zGh.fr (M' := (zsI (zsI (zsI (zsI (zsI M 336 6 (0 : Int32)) 336 7 (-1 : Int32)) 336 11 (0 : Int32)) 336 12 (0 : Int32)) 336 13 (0 : Int32))) (zGh.fr (M' := (zsI (zsI (zsI (zsI M 336 6 (0 : Int32)) 336 7 (-1 : Int32)) 336 11 (0 : Int32)) 336 12 (0 : Int32))) w4 (zEq.put rfl)) (zEq.put rfl)) (zEq.put rfl)) (zEq.put rfl)) (w21F.eq rfl)) (zEq.put rfl)) (zEq.put rfl)).1) (fun i _ => rfl)
    have w35 : (zI (zsI (zsI w21M 337 3 (0 : Int32)) 337 4 (0 : Int32)) 336 11).toInt = 0 := (congrArg Int32.toInt ((zIo (by decide)).trans ((zIo (by decide)).trans ((w21F 336 11 rfl).trans ((zIoj (by decide)).trans ((zIoj (by decide)).trans ((zIoj (by decide)).trans ((zIoj (by decide)).trans zIs)))))))).trans li0
    have w36L : ∀ (m : Nat) (w36x2 : Int32) (w36M : zM), (0 ≤ w36x2.toInt ∧ w36x2.toInt ≤ 200) → zSk zMm w36M → zIv mLo mHi w36M → zFr [(337, 337, none)] (zsI (zsI w21M 337 3 (0 : Int32)) 337 4 (0 : Int32)) w36M → zJ w36M 351 = zJ (zsI (zsI w21M 337 3 (0 : Int32)) 337 4 (0 : Int32)) 351 → zPR w36M → ((zI w36M 337 4).toInt = (zI (zsI (zsI w21M 337 3 (0 : Int32)) 337 4 (0 : Int32)) 337 4).toInt) → (w36x2.toInt ≤ (zI (zsI (zsI w21M 337 3 (0 : Int32)) 337 4 (0 : Int32)) 336 11).toInt) → (∀ i : Nat, (i : Int) < w36x2.toInt → zI w36M 337 (306 + i) = zI (zsI (zsI w21M 337 3 (0 : Int32)) 337 4 (0 : Int32)) 340 i) → 200 - w36x2.toInt ≤ (m : Int) → zGo X l 7 0 0 254 82 [(0, .ref 336), (1, .int (1 : Int32)), (2, .int w36x2)] [] w36M Q := by
      intro m
      induction m using Nat.strongRecOn with
      | ind w36m w36ih =>
        intro w36x2 w36M w36b2 w36s w36I w36F w36J w36PR w36r0 w36r1 w36t0 w36q
        have w37 := ibA4 w36I
        have w38 : (zI (zsI (zsI w21M 337 3 (0 : Int32)) 337 4 (0 : Int32)) 337 4).toInt = 0 := (congrArg Int32.toInt zIs).trans li0
        have w39 : (zI (zsI (zsI w21M 337 3 (0 : Int32)) 337 4 (0 : Int32)) 336 11).toInt = 0 := (congrArg Int32.toInt ((zIo (by decide)).trans ((zIo (by decide)).trans ((w21F 336 11 rfl).trans ((zIoj (by decide)).trans ((zIoj (by decide)).trans ((zIoj (by decide)).trans ((zIoj (by decide)).trans zIs)))))))).trans li0
        refine zs_iload_n (pc := 82) t254_82 rfl ?_
        refine zs_aload_n (pc := 83) t254_83 rfl ?_
        refine zs_get (pc := 84) t254_84 (by decide) (zk1 (w36s.k fk_zMm_336)) (zfvi rfl ((w36F 336 11 rfl).trans ((zIo (by decide)).trans ((zIo (by decide)).trans ((w21F 336 11 rfl).trans ((zIoj (by decide)).trans ((zIoj (by decide)).trans ((zIoj (by decide)).trans ((zIoj (by decide)).trans zIs))))))))) ?_
        refine zs_icmp_geT (pc := 87) t254_87 rfl li0 (by omega) ?_
        refine zs_aload_n (pc := 112) t254_112 rfl ?_
        refine zs_get (pc := 113) t254_113 (by decide) (zk1 (w36s.k fk_zMm_336)) (zfvi rfl ((w36F 336 13 rfl).trans ((zIo (by decide)).trans ((zIo (by decide)).trans ((w21F 336 13 rfl).trans ((zIoj (by decide)).trans ((zIoj (by decide)).trans zIs))))))) ?_
        have w40 : (zI w36M 337 4).toInt = (zI w36M 337 4).toInt := (congrArg Int32.toInt rfl).trans rfl
        have w41 : (zI w36M 336 11).toInt = 0 := (congrArg Int32.toInt ((w36F 336 11 rfl).trans ((zIo (by decide)).trans ((zIo (by decide)).trans ((w21F 336 11 rfl).trans ((zIoj (by decide)).trans ((zIoj (by decide)).trans ((zIoj (by decide)).trans ((zIoj (by decide)).trans zIs))))))))).trans li0
        have w42 : zPC w36M := zPC.of w36t0 (by omega) (by rw [show w36x2.toInt = (zI (zsI (zsI w21M 337 3 (0 : Int32)) 337 4 (0 : Int32)) 336 11).toInt by omega]; exact w34)
        exact zs_iret (pc := 116) t254_116 mr254 (by decide) (hQ _ _ w36s w36I ((((((((((((zFr.refl).put rfl).put rfl).put rfl).put rfl).put rfl).put rfl).put rfl).trans (w21F.mono rfl)).put rfl).put rfl).trans (w36F.mono rfl)) w36PR w42 (zPF.fr (zPF.fr (M' := (zsI (zsI w21M 337 3 (0 : Int32)) 337 4 (0 : Int32))) (zPF.fr (M' := (zsI w21M 337 3 (0 : Int32))) w21PF (zEq.put rfl) rfl) (zEq.put rfl) rfl) (w36F.eq rfl) w36J))
    refine zGo.locals (ls' := [(0, .ref 336), (1, .int (1 : Int32)), (2, .int (0 : Int32))]) (by simp) ?_
    have w43 := li0
    have w44 : (zI (zsI (zsI w21M 337 3 (0 : Int32)) 337 4 (0 : Int32)) 337 4).toInt = 0 := (congrArg Int32.toInt zIs).trans li0
    exact w36L ((200 - 0 : Int).toNat) (0 : Int32) (zsI (zsI w21M 337 3 (0 : Int32)) 337 4 (0 : Int32)) ⟨by decide, by decide⟩ w21s w30 zFr.refl rfl w33 (by omega) (by omega) (fun i hi => absurd hi (by omega)) (by omega)
  · refine zs_if_eqF (pc := 28) t254_28 rfl (by omega) ?_
    refine zs_aload_n (pc := 31) t254_31 rfl ?_
    have w45 : (zI (zsI (zsI (zsI (zsI (zsI (zsI M 336 6 (0 : Int32)) 336 7 (-1 : Int32)) 336 11 (0 : Int32)) 336 12 (0 : Int32)) 336 13 (0 : Int32)) 336 14 (0 : Int32)) 336 11).toInt = 0 := (congrArg Int32.toInt ((zIoj (by decide)).trans ((zIoj (by decide)).trans ((zIoj (by decide)).trans zIs)))).trans li0
    have w46 : (zI (zsI (zsI (zsI (zsI (zsI (zsI M 336 6 (0 : Int32)) 336 7 (-1 : Int32)) 336 11 (0 : Int32)) 336 12 (0 : Int32)) 336 13 (0 : Int32)) 336 14 (0 : Int32)) 336 12).toInt = 0 := (congrArg Int32.toInt ((zIoj (by decide)).trans ((zIoj (by decide)).trans zIs))).trans li0
    have w47 : (zI (zsI (zsI (zsI (zsI (zsI (zsI M 336 6 (0 : Int32)) 336 7 (-1 : Int32)) 336 11 (0 : Int32)) 336 12 (0 : Int32)) 336 13 (0 : Int32)) 336 14 (0 : Int32)) 336 14).toInt = 0 := (congrArg Int32.toInt zIs).trans li0
    have w48 : (zI (zsI (zsI (zsI (zsI (zsI (zsI M 336 6 (0 : Int32)) 336 7 (-1 : Int32)) 336 11 (0 : Int32)) 336 12 (0 : Int32)) 336 13 (0 : Int32)) 336 14 (0 : Int32)) 336 13).toInt = 0 := (congrArg Int32.toInt ((zIoj (by decide)).trans zIs)).trans li0
    have w49 := zGn.le w10
    have w50 : (zI (zsI (zsI (zsI (zsI (zsI (zsI M 336 6 (0 : Int32)) 336 7 (-1 : Int32)) 336 11 (0 : Int32)) 336 12 (0 : Int32)) 336 13 (0 : Int32)) 336 14 (0 : Int32)) 336 12).toInt = 0 := (congrArg Int32.toInt ((zIoj (by decide)).trans ((zIoj (by decide)).trans zIs))).trans li0
    have w51 : (zI (zsI (zsI (zsI (zsI (zsI (zsI M 336 6 (0 : Int32)) 336 7 (-1 : Int32)) 336 11 (0 : Int32)) 336 12 (0 : Int32)) 336 13 (0 : Int32)) 336 14 (0 : Int32)) 336 14).toInt = 0 := (congrArg Int32.toInt zIs).trans li0
    have w52 : (zI (zsI (zsI (zsI (zsI (zsI (zsI M 336 6 (0 : Int32)) 336 7 (-1 : Int32)) 336 11 (0 : Int32)) 336 12 (0 : Int32)) 336 13 (0 : Int32)) 336 14 (0 : Int32)) 336 12).toInt = 0 := (congrArg Int32.toInt ((zIoj (by decide)).trans ((zIoj (by decide)).trans zIs))).trans li0
    have w53 : (zI (zsI (zsI (zsI (zsI (zsI (zsI M 336 6 (0 : Int32)) 336 7 (-1 : Int32)) 336 11 (0 : Int32)) 336 12 (0 : Int32)) 336 13 (0 : Int32)) 336 14 (0 : Int32)) 336 14).toInt = 0 := (congrArg Int32.toInt zIs).trans li0
    refine zs_invV (pc := 32) (k := 336) (as' := []) (st := []) t254_32 mf255 rfl rfl (Or.inl ⟨by decide, (zk1 (hs.k fk_zMm_336))⟩) ⟨by decide, by decide, Nat.le_of_ble_eq_true rfl, Nat.le_of_ble_eq_true rfl⟩ (K255 hs w7 w10 (zGh.cast (zGh.fr (M' := (zsI (zsI (zsI (zsI (zsI (zsI M 336 6 (0 : Int32)) 336 7 (-1 : Int32)) 336 11 (0 : Int32)) 336 12 (0 : Int32)) 336 13 (0 : Int32)) 336 14 (0 : Int32))) (zGh.fr (M' := (zsI (zsI (zsI (zsI (zsI M 336 6 (0 : Int32)) 336 7 (-1 : Int32)) 336 11 (0 : Int32)) 336 12 (0 : Int32)) 336 13 (0 : Int32))) (zGh.fr (M' := (zsI (zsI (zsI (zsI M 336 6 (0 : Int32)) 336 7 (-1 : Int32)) 336 11 (0 : Int32)) 336 12 (0 : Int32))) w4 (zEq.put rfl)) (zEq.put rfl)) (zEq.put rfl)) (by omega)) (by omega) (by omega) ?_) (fun _ _ q => q)
    intro w54M w54v w54s w54I w54F w54J w54x0 w54a w54b
    show zGo X l 7 0 0 254 35 [(0, .ref 336)] [.int w54v] w54M _
    by_cases w55 : w54v.toInt = 0
    · skip
      refine zs_if_eqT (pc := 35) t254_35 rfl (by omega) ?_
      refine zs_iconst (pc := 42) t254_42 (v := 0) (by decide) ?_
      refine zs_istore_n (pc := 43) t254_43 (ls' := [(1, .int (0 : Int32)), (0, .ref 336)]) (zml mf254 (by decide)) rfl ?_
      refine zs_aload_n (pc := 44) t254_44 rfl ?_
      refine zs_iconst (pc := 45) t254_45 (v := 0) (by decide) ?_
      have w56 : zIv mLo mHi (zsI w54M 336 5 (0 : Int32)) := zIv.put w54I (show 0 ≤ (0 : Int32).toInt ∧ (0 : Int32).toInt ≤ 500 from ⟨by decide, by decide⟩)
      refine zs_putI (pc := 46) t254_46 (zk1 (w54s.k fk_zMm_336)) rfl ?_
      refine zs_iload_n (pc := 49) t254_49 rfl ?_
      refine zs_if_neF (pc := 50) t254_50 li0 (by decide) ?_
      refine zs_iconst (pc := 53) t254_53 (v := -1) (by decide) ?_
      exact zs_iret (pc := 54) t254_54 mr254 (by decide) (hQ _ _ w54s w56 (((((((((zFr.refl).put rfl).put rfl).put rfl).put rfl).put rfl).put rfl).trans (w54F.mono rfl)).put rfl) (zPR.fr (M' := (zsI w54M 336 5 (0 : Int32))) (zPR.fr (zPR.fr (M' := (zsI (zsI (zsI (zsI (zsI (zsI M 336 6 (0 : Int32)) 336 7 (-1 : Int32)) 336 11 (0 : Int32)) 336 12 (0 : Int32)) 336 13 (0 : Int32)) 336 14 (0 : Int32))) (zPR.fr (M' := (zsI (zsI (zsI (zsI (zsI M 336 6 (0 : Int32)) 336 7 (-1 : Int32)) 336 11 (0 : Int32)) 336 12 (0 : Int32)) 336 13 (0 : Int32))) (zPR.fr (M' := (zsI (zsI (zsI (zsI M 336 6 (0 : Int32)) 336 7 (-1 : Int32)) 336 11 (0 : Int32)) 336 12 (0 : Int32))) (zPR.fr (M' := (zsI (zsI (zsI M 336 6 (0 : Int32)) 336 7 (-1 : Int32)) 336 11 (0 : Int32))) (zPR.fr (M' := (zsI (zsI M 336 6 (0 : Int32)) 336 7 (-1 : Int32))) (zPR.fr (M' := (zsI M 336 6 (0 : Int32))) pR (zEq.put rfl)) (zEq.put rfl)) (zEq.put rfl)) (zEq.put rfl)) (zEq.put rfl)) (zEq.put rfl)) (w54F.eq rfl)) (zEq.put rfl)) (zPC.fr (M' := (zsI w54M 336 5 (0 : Int32))) (zPC.fr (zPC.fr (M' := (zsI (zsI (zsI (zsI (zsI (zsI M 336 6 (0 : Int32)) 336 7 (-1 : Int32)) 336 11 (0 : Int32)) 336 12 (0 : Int32)) 336 13 (0 : Int32)) 336 14 (0 : Int32))) (zPC.fr (M' := (zsI (zsI (zsI (zsI (zsI M 336 6 (0 : Int32)) 336 7 (-1 : Int32)) 336 11 (0 : Int32)) 336 12 (0 : Int32)) 336 13 (0 : Int32))) (zPC.fr (M' := (zsI (zsI (zsI (zsI M 336 6 (0 : Int32)) 336 7 (-1 : Int32)) 336 11 (0 : Int32)) 336 12 (0 : Int32))) (zPC.fr (M' := (zsI (zsI (zsI M 336 6 (0 : Int32)) 336 7 (-1 : Int32)) 336 11 (0 : Int32))) (zPC.fr (M' := (zsI (zsI M 336 6 (0 : Int32)) 336 7 (-1 : Int32))) (zPC.fr (M' := (zsI M 336 6 (0 : Int32))) pC (zEq.put rfl)) (zEq.put rfl)) (zEq.put rfl)) (zEq.put rfl)) (zEq.put rfl)) (zEq.put rfl)) (w54F.eq rfl)) (zEq.put rfl)) (zPF.fr (M' := (zsI w54M 336 5 (0 : Int32))) (zPF.fr (zPF.fr (M' := (zsI (zsI (zsI (zsI (zsI (zsI M 336 6 (0 : Int32)) 336 7 (-1 : Int32)) 336 11 (0 : Int32)) 336 12 (0 : Int32)) 336 13 (0 : Int32)) 336 14 (0 : Int32))) (zPF.fr (M' := (zsI (zsI (zsI (zsI (zsI M 336 6 (0 : Int32)) 336 7 (-1 : Int32)) 336 11 (0 : Int32)) 336 12 (0 : Int32)) 336 13 (0 : Int32))) (zPF.fr (M' := (zsI (zsI (zsI (zsI M 336 6 (0 : Int32)) 336 7 (-1 : Int32)) 336 11 (0 : Int32)) 336 12 (0 : Int32))) (zPF.fr (M' := (zsI (zsI (zsI M 336 6 (0 : Int32)) 336 7 (-1 : Int32)) 336 11 (0 : Int32))) (zPF.fr (M' := (zsI (zsI M 336 6 (0 : Int32)) 336 7 (-1 : Int32))) (zPF.fr (M' := (zsI M 336 6 (0 : Int32))) pF (zEq.put rfl) rfl) (zEq.put rfl) rfl) (zEq.put rfl) rfl) (zEq.put rfl) rfl) (zEq.put rfl) rfl) (zEq.put rfl) rfl) (w54F.eq rfl) w54J) (zEq.put rfl) rfl))
    · skip
      have w55H := w54x0.resolve_left w55
      refine zs_if_eqF (pc := 35) t254_35 rfl (by omega) ?_
      refine zs_iconst (pc := 38) t254_38 (v := 1) (by decide) ?_
      refine zs_goto (pc := 39) t254_39 ?_
      refine zs_istore_n (pc := 43) t254_43 (ls' := [(1, .int (1 : Int32)), (0, .ref 336)]) (zml mf254 (by decide)) rfl ?_
      refine zs_aload_n (pc := 44) t254_44 rfl ?_
      refine zs_iconst (pc := 45) t254_45 (v := 0) (by decide) ?_
      have w57 : zIv mLo mHi (zsI w54M 336 5 (0 : Int32)) := zIv.put w54I (show 0 ≤ (0 : Int32).toInt ∧ (0 : Int32).toInt ≤ 500 from ⟨by decide, by decide⟩)
      refine zs_putI (pc := 46) t254_46 (zk1 (w54s.k fk_zMm_336)) rfl ?_
      refine zs_iload_n (pc := 49) t254_49 rfl ?_
      refine zs_if_neT (pc := 50) t254_50 li1 (by decide) ?_
      refine zs_aload_n (pc := 55) t254_55 rfl ?_
      refine zs_iconst (pc := 56) t254_56 (v := 0) (by decide) ?_
      have w58 := ibA1 hI
      have w59 : (zI (zsI w54M 336 5 (0 : Int32)) 337 1).toInt = (zI M 337 1).toInt := (congrArg Int32.toInt ((zIo (by decide)).trans ((w54F 337 1 rfl).trans ((zIo (by decide)).trans ((zIo (by decide)).trans ((zIo (by decide)).trans ((zIo (by decide)).trans ((zIo (by decide)).trans ((zIo (by decide)).trans rfl))))))))).trans rfl
      have w60 := ibA0 hI
      have w61 : (zI (zsI w54M 336 5 (0 : Int32)) 337 0).toInt = (zI M 337 0).toInt := (congrArg Int32.toInt ((zIo (by decide)).trans ((w54F 337 0 rfl).trans ((zIo (by decide)).trans ((zIo (by decide)).trans ((zIo (by decide)).trans ((zIo (by decide)).trans ((zIo (by decide)).trans ((zIo (by decide)).trans rfl))))))))).trans rfl
      have w62 := ibA2 hI
      have w63 : (zI (zsI w54M 336 5 (0 : Int32)) 337 2).toInt = (zI M 337 2).toInt := (congrArg Int32.toInt ((zIo (by decide)).trans ((w54F 337 2 rfl).trans ((zIo (by decide)).trans ((zIo (by decide)).trans ((zIo (by decide)).trans ((zIo (by decide)).trans ((zIo (by decide)).trans ((zIo (by decide)).trans rfl))))))))).trans rfl
      refine zs_invV (pc := 57) (k := 336) (as' := [.int (0 : Int32)]) (st := []) t254_57 mf230 rfl rfl (Or.inl ⟨by decide, (zk1 (w54s.k fk_zMm_336))⟩) ⟨by decide, by decide, Nat.le_of_ble_eq_true rfl, Nat.le_of_ble_eq_true rfl⟩ (K230_0 w54s w57 (zPR.fr (M' := (zsI w54M 336 5 (0 : Int32))) (zPR.fr (zPR.fr (M' := (zsI (zsI (zsI (zsI (zsI (zsI M 336 6 (0 : Int32)) 336 7 (-1 : Int32)) 336 11 (0 : Int32)) 336 12 (0 : Int32)) 336 13 (0 : Int32)) 336 14 (0 : Int32))) (zPR.fr (M' := (zsI (zsI (zsI (zsI (zsI M 336 6 (0 : Int32)) 336 7 (-1 : Int32)) 336 11 (0 : Int32)) 336 12 (0 : Int32)) 336 13 (0 : Int32))) (zPR.fr (M' := (zsI (zsI (zsI (zsI M 336 6 (0 : Int32)) 336 7 (-1 : Int32)) 336 11 (0 : Int32)) 336 12 (0 : Int32))) (zPR.fr (M' := (zsI (zsI (zsI M 336 6 (0 : Int32)) 336 7 (-1 : Int32)) 336 11 (0 : Int32))) (zPR.fr (M' := (zsI (zsI M 336 6 (0 : Int32)) 336 7 (-1 : Int32))) (zPR.fr (M' := (zsI M 336 6 (0 : Int32))) pR (zEq.put rfl)) (zEq.put rfl)) (zEq.put rfl)) (zEq.put rfl)) (zEq.put rfl)) (zEq.put rfl)) (w54F.eq rfl)) (zEq.put rfl)) (zPC.fr (M' := (zsI w54M 336 5 (0 : Int32))) (zPC.fr (zPC.fr (M' := (zsI (zsI (zsI (zsI (zsI (zsI M 336 6 (0 : Int32)) 336 7 (-1 : Int32)) 336 11 (0 : Int32)) 336 12 (0 : Int32)) 336 13 (0 : Int32)) 336 14 (0 : Int32))) (zPC.fr (M' := (zsI (zsI (zsI (zsI (zsI M 336 6 (0 : Int32)) 336 7 (-1 : Int32)) 336 11 (0 : Int32)) 336 12 (0 : Int32)) 336 13 (0 : Int32))) (zPC.fr (M' := (zsI (zsI (zsI (zsI M 336 6 (0 : Int32)) 336 7 (-1 : Int32)) 336 11 (0 : Int32)) 336 12 (0 : Int32))) (zPC.fr (M' := (zsI (zsI (zsI M 336 6 (0 : Int32)) 336 7 (-1 : Int32)) 336 11 (0 : Int32))) (zPC.fr (M' := (zsI (zsI M 336 6 (0 : Int32)) 336 7 (-1 : Int32))) (zPC.fr (M' := (zsI M 336 6 (0 : Int32))) pC (zEq.put rfl)) (zEq.put rfl)) (zEq.put rfl)) (zEq.put rfl)) (zEq.put rfl)) (zEq.put rfl)) (w54F.eq rfl)) (zEq.put rfl)) ?_) (fun _ _ q => q)
      intro w64M w64s w64I w64F w64J w64PR w64PC w64PF w64t0 w64t1 w64t2
      have w65 := ibA1 w64I
      have w66 := ibA0 w64I
      have w67 := ibA2 w64I
      show zGo X l 7 0 0 254 60 [(1, .int (1 : Int32)), (0, .ref 336)] [] w64M _
      refine zs_aload_n (pc := 60) t254_60 rfl ?_
      refine zs_get (pc := 61) t254_61 (by decide) (zk1 (w64s.k fk_zMm_336)) (w64s.p rfl fv_zMm_336_0) ?_
      refine zs_iconst (pc := 64) t254_64 (v := 3) (by decide) ?_
      refine zs_aload_n (pc := 65) t254_65 rfl ?_
      have w68 := ib336_13 w54I
      refine zs_get (pc := 66) t254_66 (by decide) (zk1 (w64s.k fk_zMm_336)) (zfvi rfl ((w64F 336 13 rfl).trans ((zIoj (by decide)).trans rfl))) ?_
      have w69 : zIv mLo mHi (zsI w64M 337 3 (zI w54M 336 13)) := zIv.putA w64I (by decide) (show (-2147483648) ≤ (zI w54M 336 13).toInt ∧ (zI w54M 336 13).toInt ≤ 2147483647 from zrg (zI w54M 336 13))
      have w70 : (zI w64M 337 0).toInt = (zI w64M 337 0).toInt := (congrArg Int32.toInt rfl).trans rfl
      have w71 : (zI w64M 337 1).toInt = (zI w64M 337 1).toInt := (congrArg Int32.toInt rfl).trans rfl
      have w72 : zPR (zsI w64M 337 3 (zI w54M 336 13)) := zPR.put w64PR (by omega) (by omega) (by omega) (by omega)
      have w73 : zPC (zsI w64M 337 3 (zI w54M 336 13)) := zPC.put w64PC (by decide) (by decide)
      refine zs_iast (pc := 69) t254_69 (j := 3) (by decide) (zk1 (w64s.k fk_zMm_337)) li3 (zk2 (w64s.k fk_zMm_337) (by decide)) ?_
      refine zs_aload_n (pc := 70) t254_70 rfl ?_
      refine zs_get (pc := 71) t254_71 (by decide) (zk1 (w64s.k fk_zMm_336)) (w64s.p rfl fv_zMm_336_0) ?_
      refine zs_iconst (pc := 74) t254_74 (v := 4) (by decide) ?_
      refine zs_aload_n (pc := 75) t254_75 rfl ?_
      have w74 := ib336_11 w54I
      refine zs_get (pc := 76) t254_76 (by decide) (zk1 (w64s.k fk_zMm_336)) (zfvi rfl ((zIo (by decide)).trans ((w64F 336 11 rfl).trans ((zIoj (by decide)).trans rfl)))) ?_
      have w75 : zIv mLo mHi (zsI (zsI w64M 337 3 (zI w54M 336 13)) 337 4 (zI w54M 336 11)) := zIv.putA w69 (by decide) (show 0 ≤ (zI w54M 336 11).toInt ∧ (zI w54M 336 11).toInt ≤ 200 from ⟨by omega, by omega⟩)
      have w76 : (zI (zsI w64M 337 3 (zI w54M 336 13)) 337 0).toInt = (zI w64M 337 0).toInt := (congrArg Int32.toInt ((zIoj (by decide)).trans rfl)).trans rfl
      have w77 : (zI (zsI w64M 337 3 (zI w54M 336 13)) 337 1).toInt = (zI w64M 337 1).toInt := (congrArg Int32.toInt ((zIoj (by decide)).trans rfl)).trans rfl
      have w78 : zPR (zsI (zsI w64M 337 3 (zI w54M 336 13)) 337 4 (zI w54M 336 11)) := zPR.put w72 (by omega) (by omega) (by omega) (by omega)
      refine zs_iast (pc := 79) t254_79 (j := 4) (by decide) (zk1 (w64s.k fk_zMm_337)) li4 (zk2 (w64s.k fk_zMm_337) (by decide)) ?_
      refine zs_iconst (pc := 80) t254_80 (v := 0) (by decide) ?_
      refine zs_istore_n (pc := 81) t254_81 (ls' := [(2, .int (0 : Int32)), (1, .int (1 : Int32)), (0, .ref 336)]) (zml mf254 (by decide)) rfl ?_
      have w79 : zCd (zI (zsI (zsI w64M 337 3 (zI w54M 336 13)) 337 4 (zI w54M 336 11)) 340) (zI (zsI (zsI w64M 337 3 (zI w54M 336 13)) 337 4 (zI w54M 336 11)) 336 11).toInt := by
        rw [show zI (zsI (zsI w64M 337 3 (zI w54M 336 13)) 337 4 (zI w54M 336 11)) 336 11 = zI w54M 336 11 from ((zIo (by decide)).trans ((zIo (by decide)).trans ((w64F 336 11 rfl).trans (zIoj (by decide)))))]
        exact zCd.cg (w55H) (fun i _ => ((zIo (by decide)).trans ((zIo (by decide)).trans ((w64F 340 i rfl).trans (zIo (by decide))))))
      have w80 : (zI (zsI (zsI w64M 337 3 (zI w54M 336 13)) 337 4 (zI w54M 336 11)) 336 11).toInt = (zI w54M 336 11).toInt := (congrArg Int32.toInt ((zIo (by decide)).trans ((zIo (by decide)).trans ((w64F 336 11 rfl).trans ((zIoj (by decide)).trans rfl))))).trans rfl
      have w81L : ∀ (m : Nat) (w81x2 : Int32) (w81M : zM), (0 ≤ w81x2.toInt ∧ w81x2.toInt ≤ 200) → zSk zMm w81M → zIv mLo mHi w81M → zFr [(337, 337, none)] (zsI (zsI w64M 337 3 (zI w54M 336 13)) 337 4 (zI w54M 336 11)) w81M → zJ w81M 351 = zJ (zsI (zsI w64M 337 3 (zI w54M 336 13)) 337 4 (zI w54M 336 11)) 351 → zPR w81M → ((zI w81M 337 4).toInt = (zI (zsI (zsI w64M 337 3 (zI w54M 336 13)) 337 4 (zI w54M 336 11)) 337 4).toInt) → (w81x2.toInt ≤ (zI (zsI (zsI w64M 337 3 (zI w54M 336 13)) 337 4 (zI w54M 336 11)) 336 11).toInt) → (∀ i : Nat, (i : Int) < w81x2.toInt → zI w81M 337 (306 + i) = zI (zsI (zsI w64M 337 3 (zI w54M 336 13)) 337 4 (zI w54M 336 11)) 340 i) → 200 - w81x2.toInt ≤ (m : Int) → zGo X l 7 0 0 254 82 [(0, .ref 336), (1, .int (1 : Int32)), (2, .int w81x2)] [] w81M Q := by
        intro m
        induction m using Nat.strongRecOn with
        | ind w81m w81ih =>
          intro w81x2 w81M w81b2 w81s w81I w81F w81J w81PR w81r0 w81r1 w81t0 w81q
          have w82 := ibA4 w81I
          have w83 : (zI (zsI (zsI w64M 337 3 (zI w54M 336 13)) 337 4 (zI w54M 336 11)) 337 4).toInt = (zI w54M 336 11).toInt := (congrArg Int32.toInt zIs).trans rfl
          have w84 : (zI (zsI (zsI w64M 337 3 (zI w54M 336 13)) 337 4 (zI w54M 336 11)) 336 11).toInt = (zI w54M 336 11).toInt := (congrArg Int32.toInt ((zIo (by decide)).trans ((zIo (by decide)).trans ((w64F 336 11 rfl).trans ((zIoj (by decide)).trans rfl))))).trans rfl
          refine zs_iload_n (pc := 82) t254_82 rfl ?_
          refine zs_aload_n (pc := 83) t254_83 rfl ?_
          refine zs_get (pc := 84) t254_84 (by decide) (zk1 (w81s.k fk_zMm_336)) (zfvi rfl ((w81F 336 11 rfl).trans ((zIo (by decide)).trans ((zIo (by decide)).trans ((w64F 336 11 rfl).trans ((zIoj (by decide)).trans rfl)))))) ?_
          by_cases w85 : (zI w54M 336 11).toInt ≤ w81x2.toInt
          · refine zs_icmp_geT (pc := 87) t254_87 rfl rfl (by omega) ?_
            refine zs_aload_n (pc := 112) t254_112 rfl ?_
            refine zs_get (pc := 113) t254_113 (by decide) (zk1 (w81s.k fk_zMm_336)) (zfvi rfl ((w81F 336 13 rfl).trans ((zIo (by decide)).trans ((zIo (by decide)).trans ((w64F 336 13 rfl).trans ((zIoj (by decide)).trans rfl)))))) ?_
            have w86 : (zI w81M 337 4).toInt = (zI w81M 337 4).toInt := (congrArg Int32.toInt rfl).trans rfl
            have w87 : (zI w81M 336 11).toInt = (zI w54M 336 11).toInt := (congrArg Int32.toInt ((w81F 336 11 rfl).trans ((zIo (by decide)).trans ((zIo (by decide)).trans ((w64F 336 11 rfl).trans ((zIoj (by decide)).trans rfl)))))).trans rfl
            have w88 : zPC w81M := zPC.of w81t0 (by omega) (by rw [show w81x2.toInt = (zI (zsI (zsI w64M 337 3 (zI w54M 336 13)) 337 4 (zI w54M 336 11)) 336 11).toInt by omega]; exact w79)
            exact zs_iret (pc := 116) t254_116 mr254 rfl (hQ _ _ w81s w81I (((((((((((((zFr.refl).put rfl).put rfl).put rfl).put rfl).put rfl).put rfl).trans (w54F.mono rfl)).put rfl).trans (w64F.mono rfl)).put rfl).put rfl).trans (w81F.mono rfl)) w81PR w88 (zPF.fr (zPF.fr (M' := (zsI (zsI w64M 337 3 (zI w54M 336 13)) 337 4 (zI w54M 336 11))) (zPF.fr (M' := (zsI w64M 337 3 (zI w54M 336 13))) w64PF (zEq.put rfl) rfl) (zEq.put rfl) rfl) (w81F.eq rfl) w81J))
          · refine zs_icmp_geF (pc := 87) t254_87 rfl rfl (by omega) ?_
            refine zs_aload_n (pc := 90) t254_90 rfl ?_
            refine zs_get (pc := 91) t254_91 (by decide) (zk1 (w81s.k fk_zMm_336)) (w81s.p rfl fv_zMm_336_0) ?_
            refine zs_sipush (pc := 94) t254_94 (v := 306) (by decide) ?_
            refine zs_iload_n (pc := 97) t254_97 rfl ?_
            obtain ⟨w89v, w89e, w89⟩ := ziadd (a := (306 : Int32)) (b := w81x2) li306 rfl (by omega) (by omega)
            refine zs_iadd (pc := 98) t254_98 (c := w89v) w89e ?_
            refine zs_aload_n (pc := 99) t254_99 rfl ?_
            refine zs_get (pc := 100) t254_100 (by decide) (zk1 (w81s.k fk_zMm_336)) (w81s.p rfl fv_zMm_336_9) ?_
            refine zs_iload_n (pc := 103) t254_103 rfl ?_
            obtain ⟨w90n, w90⟩ : ∃ n : Nat, w81x2.toInt = (n : Int) := ⟨(w81x2.toInt).toNat, by omega⟩
            have w91 := zrg (zI w54M 340 w90n)
            refine zs_iald (pc := 104) t254_104 (j := w90n) (by decide) (zk1 (w81s.k fk_zMm_340)) (show w81x2.toInt = ((w90n : Nat) : Int) by omega) (zk2 (w81s.k fk_zMm_340) (by omega)) ((w81F 340 w90n rfl).trans ((zIo (by decide)).trans ((zIo (by decide)).trans ((w64F 340 w90n rfl).trans ((zIo (by decide)).trans rfl))))) ?_
            have w92a := aN (p := (306 + w90n)) (by omega)
            have w92 : zIv mLo mHi (zsI w81M 337 (306 + w90n) (zI w54M 340 w90n)) := zIv.putA w81I (by omega) (by rw [w92a.1, w92a.2]; exact zrg (zI w54M 340 w90n))
            have w93 := ibA0 w81I
            have w94 : (zI w81M 337 0).toInt = (zI w81M 337 0).toInt := (congrArg Int32.toInt rfl).trans rfl
            have w95 := ibA1 w81I
            have w96 : (zI w81M 337 1).toInt = (zI w81M 337 1).toInt := (congrArg Int32.toInt rfl).trans rfl
            have w97 : zPR (zsI w81M 337 (306 + w90n) (zI w54M 340 w90n)) := zPR.put w81PR (by omega) (by omega) (by omega) (by omega)
            refine zs_iast (pc := 105) t254_105 (j := (306 + w90n)) (by decide) (zk1 (w81s.k fk_zMm_337)) (show w89v.toInt = (((306 + w90n) : Nat) : Int) by omega) (zk2 (w81s.k fk_zMm_337) (by omega)) ?_
            obtain ⟨w98v, w98e, w98⟩ := ziadd (a := w81x2) (b := Int32.ofInt 1) rfl (show (Int32.ofInt 1).toInt = 1 by decide) (by omega) (by omega)
            refine zs_iinc (pc := 106) t254_106 (ls' := [(2, .int w98v), (0, .ref 336), (1, .int (1 : Int32))]) (zml mf254 (by decide)) rfl (c := w98v) w98e rfl ?_
            refine zs_goto (pc := 109) t254_109 ?_
            refine zGo.locals (ls' := [(0, .ref 336), (1, .int (1 : Int32)), (2, .int w98v)]) (by simp) ?_
            have w99 := w98
            have w100 : (zI (zsI w81M 337 (306 + w90n) (zI w54M 340 w90n)) 337 4).toInt = (zI w81M 337 4).toInt := (congrArg Int32.toInt ((zIoj (by omega)).trans rfl)).trans rfl
            have w101 : ∀ i : Nat, (i : Int) < w98v.toInt → zI (zsI w81M 337 (306 + w90n) (zI w54M 340 w90n)) 337 (306 + i) = zI (zsI (zsI w64M 337 3 (zI w54M 336 13)) 337 4 (zI w54M 336 11)) 340 i := by
              intro i hi
              by_cases e : i = w90n
              · rw [e, zIs]
                exact (((zIo (by decide)).trans ((zIo (by decide)).trans ((w64F 340 w90n rfl).trans ((zIo (by decide)).trans rfl))))).symm
              · rw [zIoj (by omega)]
                exact w81t0 i (by omega)
            exact w81ih (w81m - 1) (by omega) w98v (zsI w81M 337 (306 + w90n) (zI w54M 340 w90n)) ⟨by omega, by omega⟩ w81s w92 (((zFr.refl).trans (w81F.mono rfl)).put rfl) w81J w97 (by omega) (by omega) w101 (by omega)
      refine zGo.locals (ls' := [(0, .ref 336), (1, .int (1 : Int32)), (2, .int (0 : Int32))]) (by simp) ?_
      have w102 := li0
      have w103 : (zI (zsI (zsI w64M 337 3 (zI w54M 336 13)) 337 4 (zI w54M 336 11)) 337 4).toInt = (zI w54M 336 11).toInt := (congrArg Int32.toInt zIs).trans rfl
      exact w81L ((200 - 0 : Int).toNat) (0 : Int32) (zsI (zsI w64M 337 3 (zI w54M 336 13)) 337 4 (zI w54M 336 11)) ⟨by decide, by decide⟩ w64s w75 zFr.refl rfl w78 (by omega) (by omega) (fun i hi => absurd hi (by omega)) (by omega)
theorem K266 {X : zX} {l : Launch} {M : zM} {Q : Option Value → zM → Prop} (hs : zSk zMm M) (hI : zIv mLo mHi M) (pR : zPR M) (pC : zPC M) (pF : zPF M) (hQ : ∀ (M' : zM) (v : Int32), zSk zMm M' → zIv mLo mHi M' → zFr [(336, 363, none)] M M' → zPR M' → zPC M' → zPF M' → Q (some (.int v)) M') : zCall X l 8 0 0 266 [.ref 336] M Q := by
  refine zs_in (by decide) mf266 (Nat.le_of_ble_eq_true rfl) ?_
  show zGo X l 8 0 0 266 0 [(0, .ref 336)] [] M _
  refine zs_aload_n (pc := 0) t266_0 rfl ?_
  refine zs_get (pc := 1) t266_1 (by decide) (zk1 (hs.k fk_zMm_336)) (hs.p rfl fv_zMm_336_0) ?_
  refine zs_iconst (pc := 4) t266_4 (v := 3) (by decide) ?_
  have w1 := zrg (zI M 337 3)
  refine zs_iald (pc := 5) t266_5 (j := 3) (by decide) (zk1 (hs.k fk_zMm_337)) li3 (zk2 (hs.k fk_zMm_337) (by decide)) rfl ?_
  by_cases w2 : (zI M 337 3).toInt ≠ 0
  · refine zs_if_neT (pc := 6) t266_6 rfl (by omega) ?_
    refine zs_iconst (pc := 11) t266_11 (v := 0) (by decide) ?_
    refine zs_istore_n (pc := 12) t266_12 (ls' := [(1, .int (0 : Int32)), (0, .ref 336)]) (zml mf266 (by decide)) rfl ?_
    refine zs_iconst (pc := 13) t266_13 (v := 0) (by decide) ?_
    refine zs_istore_n (pc := 14) t266_14 (ls' := [(2, .int (0 : Int32)), (1, .int (0 : Int32)), (0, .ref 336)]) (zml mf266 (by decide)) rfl ?_
    have w3L : ∀ (m : Nat) (w3x1 : Int32) (w3x2 : Int32) (w3M : zM), (0 ≤ w3x1.toInt ∧ w3x1.toInt ≤ 59) → (0 ≤ w3x2.toInt ∧ w3x2.toInt ≤ 200) → zSk zMm w3M → zIv mLo mHi w3M → zFr [(344, 344, none), (349, 349, none), (350, 350, none), (343, 343, none), (345, 345, none), (346, 346, none), (347, 347, none), (348, 348, none), (336, 336, some 22), (336, 336, some 18), (336, 336, some 19), (336, 336, some 20), (336, 336, some 21), (351, 354, none), (358, 358, none), (336, 336, some 37), (356, 356, none), (355, 355, none), (343, 343, none), (344, 344, none), (336, 336, some 39), (359, 359, none), (336, 336, some 3), (342, 342, none)] M w3M → zPF w3M → (w3x1.toInt = zhp (fun i => zrow M 0 (306 + i)) (w3x2.toInt).toNat) → 200 - w3x2.toInt ≤ (m : Int) → zGo X l 8 0 0 266 15 [(0, .ref 336), (1, .int w3x1), (2, .int w3x2)] [] w3M Q := by
      intro m
      induction m using Nat.strongRecOn with
      | ind w3m w3ih =>
        intro w3x1 w3x2 w3M w3b1 w3b2 w3s w3I w3F w3PF w3t0 w3q
        refine zs_iload_n (pc := 15) t266_15 rfl ?_
        refine zs_aload_n (pc := 16) t266_16 rfl ?_
        refine zs_get (pc := 17) t266_17 (by decide) (zk1 (w3s.k fk_zMm_336)) (w3s.p rfl fv_zMm_336_0) ?_
        refine zs_iconst (pc := 20) t266_20 (v := 4) (by decide) ?_
        have w4 := ibA4 hI
        refine zs_iald (pc := 21) t266_21 (j := 4) (by decide) (zk1 (w3s.k fk_zMm_337)) li4 (zk2 (w3s.k fk_zMm_337) (by decide)) ((w3F 337 4 rfl).trans rfl) ?_
        by_cases w5 : (zI M 337 4).toInt ≤ w3x2.toInt
        · refine zs_icmp_geT (pc := 22) t266_22 rfl rfl (by omega) ?_
          refine zs_aload_n (pc := 142) t266_142 rfl ?_
          refine zs_get (pc := 143) t266_143 (by decide) (zk1 (w3s.k fk_zMm_336)) (w3s.p rfl fv_zMm_336_15) ?_
          refine zs_iconst (pc := 146) t266_146 (v := 0) (by decide) ?_
          have w6 := zrg (zI w3M 342 0)
          refine zs_iald (pc := 147) t266_147 (j := 0) (by decide) (zk1 (w3s.k fk_zMm_342)) li0 (zk2 (w3s.k fk_zMm_342) (by decide)) rfl ?_
          exact zs_iret (pc := 148) t266_148 mr266 rfl (hQ _ _ w3s w3I ((zFr.refl).trans (w3F.mono rfl)) (zPR.fr pR (w3F.eq rfl)) (zPC.fr pC (w3F.eq rfl)) w3PF)
        · refine zs_icmp_geF (pc := 22) t266_22 rfl rfl (by omega) ?_
          refine zs_aload_n (pc := 25) t266_25 rfl ?_
          refine zs_get (pc := 26) t266_26 (by decide) (zk1 (w3s.k fk_zMm_336)) (w3s.p rfl fv_zMm_336_0) ?_
          refine zs_sipush (pc := 29) t266_29 (v := 306) (by decide) ?_
          refine zs_iload_n (pc := 32) t266_32 rfl ?_
          obtain ⟨w7v, w7e, w7⟩ := ziadd (a := (306 : Int32)) (b := w3x2) li306 rfl (by omega) (by omega)
          refine zs_iadd (pc := 33) t266_33 (c := w7v) w7e ?_
          obtain ⟨w8n, w8⟩ : ∃ n : Nat, w3x2.toInt = (n : Int) := ⟨(w3x2.toInt).toNat, by omega⟩
          have w9 := zrg (zI M 337 (306 + w8n))
          have w10 : (zI w3M 337 4).toInt = (zI M 337 4).toInt := (congrArg Int32.toInt ((w3F 337 4 rfl).trans rfl)).trans rfl
          have w11 := zPC.at (n := w8n) pC (by omega)
          have w12 : zhp (fun i => zrow M 0 (306 + i)) w3x2.toInt.toNat = zhp (fun i => zrow M 0 (306 + i)) w8n := congrArg _ (by omega)
          refine zs_iald (pc := 34) t266_34 (j := (306 + w8n)) (by decide) (zk1 (w3s.k fk_zMm_337)) (show w7v.toInt = (((306 + w8n) : Nat) : Int) by omega) (zk2 (w3s.k fk_zMm_337) (by omega)) ((w3F 337 (306 + w8n) rfl).trans rfl) ?_
          refine zs_istore_n (pc := 35) t266_35 (ls' := [(3, .int (zI M 337 (306 + w8n))), (0, .ref 336), (1, .int w3x1), (2, .int w3x2)]) (zml mf266 (by decide)) rfl ?_
          refine zs_iload_n (pc := 36) t266_36 rfl ?_
          refine zs_sipush (pc := 37) t266_37 (v := 20000) (by decide) ?_
          by_cases w13 : 20000 ≤ (zI M 337 (306 + w8n)).toInt
          · refine zs_icmp_geT (pc := 40) t266_40 rfl li20000 (by omega) ?_
            refine zs_iload_n (pc := 75) t266_75 rfl ?_
            refine zs_sipush (pc := 76) t266_76 (v := 20033) (by decide) ?_
            by_cases w14 : (zI M 337 (306 + w8n)).toInt ≠ 20033
            · refine zs_icmp_neT (pc := 79) t266_79 rfl li20033 (by omega) ?_
              obtain ⟨w15v, w15e, w15⟩ := ziadd (a := w3x1) (b := Int32.ofInt (-1)) rfl (show (Int32.ofInt (-1)).toInt = (-1) by decide) (by omega) (by omega)
              refine zs_iinc (pc := 103) t266_103 (ls' := [(1, .int w15v), (3, .int (zI M 337 (306 + w8n))), (0, .ref 336), (2, .int w3x2)]) (zml mf266 (by decide)) rfl (c := w15v) w15e rfl ?_
              refine zs_aload_n (pc := 106) t266_106 rfl ?_
              refine zs_get (pc := 107) t266_107 (by decide) (zk1 (w3s.k fk_zMm_336)) (w3s.p rfl fv_zMm_336_15) ?_
              refine zs_iload_n (pc := 110) t266_110 rfl ?_
              refine zs_iconst (pc := 111) t266_111 (v := 1) (by decide) ?_
              obtain ⟨w16v, w16e, w16⟩ := zisub (a := w15v) (b := (1 : Int32)) w15 li1 (by omega) (by omega)
              refine zs_isub (pc := 112) t266_112 (c := w16v) w16e ?_
              refine zs_iload_n (pc := 113) t266_113 rfl ?_
              refine zs_sipush (pc := 114) t266_114 (v := 20000) (by decide) ?_
              obtain ⟨w17v, w17e, w17⟩ := zisub (a := (zI M 337 (306 + w8n))) (b := (20000 : Int32)) rfl li20000 (by omega) (by omega)
              refine zs_isub (pc := 117) t266_117 (c := w17v) w17e ?_
              refine zs_aload_n (pc := 118) t266_118 rfl ?_
              refine zs_get (pc := 119) t266_119 (by decide) (zk1 (w3s.k fk_zMm_336)) (w3s.p rfl fv_zMm_336_15) ?_
              refine zs_iload_n (pc := 122) t266_122 rfl ?_
              refine zs_iconst (pc := 123) t266_123 (v := 1) (by decide) ?_
              obtain ⟨w18v, w18e, w18⟩ := zisub (a := w15v) (b := (1 : Int32)) w15 li1 (by omega) (by omega)
              refine zs_isub (pc := 124) t266_124 (c := w18v) w18e ?_
              obtain ⟨w19n, w19⟩ : ∃ n : Nat, w18v.toInt = (n : Int) := ⟨w18v.toInt.toNat, by omega⟩
              have w20 := zrg (zI w3M 342 w19n)
              refine zs_iald (pc := 125) t266_125 (j := w19n) (by decide) (zk1 (w3s.k fk_zMm_342)) w19 (zk2 (w3s.k fk_zMm_342) (by omega)) rfl ?_
              refine zs_aload_n (pc := 126) t266_126 rfl ?_
              refine zs_get (pc := 127) t266_127 (by decide) (zk1 (w3s.k fk_zMm_336)) (w3s.p rfl fv_zMm_336_15) ?_
              refine zs_iload_n (pc := 130) t266_130 rfl ?_
              obtain ⟨w21n, w21⟩ : ∃ n : Nat, w15v.toInt = (n : Int) := ⟨w15v.toInt.toNat, by omega⟩
              have w22 := zrg (zI w3M 342 w21n)
              refine zs_iald (pc := 131) t266_131 (j := w21n) (by decide) (zk1 (w3s.k fk_zMm_342)) w21 (zk2 (w3s.k fk_zMm_342) (by omega)) rfl ?_
              refine zs_invS (pc := 132) (as := [.int w17v, .int (zI w3M 342 w19n), .int (zI w3M 342 w21n)]) (st := [.int w16v, .ref 342]) t266_132 (by decide) mf294 rfl rfl ⟨by decide, by decide, Nat.le_of_ble_eq_true rfl, Nat.le_of_ble_eq_true rfl⟩ (K294 w3s w3I ?_) (fun _ _ q => q)
              intro w23v
              have w23g := zrg w23v
              show zGo X l 8 0 0 266 135 [(1, .int w15v), (3, .int (zI M 337 (306 + w8n))), (0, .ref 336), (2, .int w3x2)] [.int w23v, .int w16v, .ref 342] w3M _
              obtain ⟨w24n, w24⟩ : ∃ n : Nat, w16v.toInt = (n : Int) := ⟨w16v.toInt.toNat, by omega⟩
              have w25 : zIv mLo mHi (zsI w3M 342 w24n w23v) := zIv.put w3I (show (-2147483648) ≤ w23v.toInt ∧ w23v.toInt ≤ 2147483647 from zrg w23v)
              refine zs_iast (pc := 135) t266_135 (j := w24n) (by decide) (zk1 (w3s.k fk_zMm_342)) w24 (zk2 (w3s.k fk_zMm_342) (by omega)) ?_
              obtain ⟨w26v, w26e, w26⟩ := ziadd (a := w3x2) (b := Int32.ofInt 1) rfl (show (Int32.ofInt 1).toInt = 1 by decide) (by omega) (by omega)
              refine zs_iinc (pc := 136) t266_136 (ls' := [(2, .int w26v), (1, .int w15v), (3, .int (zI M 337 (306 + w8n))), (0, .ref 336)]) (zml mf266 (by decide)) rfl (c := w26v) w26e rfl ?_
              refine zs_goto (pc := 139) t266_139 ?_
              refine zGo.locals (ls' := [(0, .ref 336), (1, .int w15v), (2, .int w26v)]) (by simp) ?_
              have w27 := w15
              have w28 := w26
              exact w3ih (w3m - 1) (by omega) w15v w26v (zsI w3M 342 w24n w23v) ⟨by omega, by omega⟩ ⟨by omega, by omega⟩ w3s w25 (((zFr.refl).trans (w3F.mono rfl)).put rfl) (zPF.fr (M' := (zsI w3M 342 w24n w23v)) w3PF (zEq.put rfl) rfl) (by rw [show w26v.toInt.toNat = w8n + 1 by omega]; omega) (by omega)
            · refine zs_icmp_neF (pc := 79) t266_79 rfl li20033 (by omega) ?_
              refine zs_aload_n (pc := 82) t266_82 rfl ?_
              refine zs_get (pc := 83) t266_83 (by decide) (zk1 (w3s.k fk_zMm_336)) (w3s.p rfl fv_zMm_336_15) ?_
              refine zs_iload_n (pc := 86) t266_86 rfl ?_
              refine zs_iconst (pc := 87) t266_87 (v := 1) (by decide) ?_
              obtain ⟨w29v, w29e, w29⟩ := zisub (a := w3x1) (b := (1 : Int32)) rfl li1 (by omega) (by omega)
              refine zs_isub (pc := 88) t266_88 (c := w29v) w29e ?_
              refine zs_iconst (pc := 89) t266_89 (v := 1) (by decide) ?_
              refine zs_aload_n (pc := 90) t266_90 rfl ?_
              refine zs_get (pc := 91) t266_91 (by decide) (zk1 (w3s.k fk_zMm_336)) (w3s.p rfl fv_zMm_336_15) ?_
              refine zs_iload_n (pc := 94) t266_94 rfl ?_
              refine zs_iconst (pc := 95) t266_95 (v := 1) (by decide) ?_
              obtain ⟨w30v, w30e, w30⟩ := zisub (a := w3x1) (b := (1 : Int32)) rfl li1 (by omega) (by omega)
              refine zs_isub (pc := 96) t266_96 (c := w30v) w30e ?_
              obtain ⟨w31n, w31⟩ : ∃ n : Nat, w30v.toInt = (n : Int) := ⟨w30v.toInt.toNat, by omega⟩
              have w32 := zrg (zI w3M 342 w31n)
              refine zs_iald (pc := 97) t266_97 (j := w31n) (by decide) (zk1 (w3s.k fk_zMm_342)) w31 (zk2 (w3s.k fk_zMm_342) (by omega)) rfl ?_
              obtain ⟨w33v, w33⟩ : ∃ v, v = (1 : Int32) - (zI w3M 342 w31n) := ⟨_, rfl⟩
              have w33g := zrg w33v
              refine zs_isub (pc := 98) t266_98 (c := w33v) w33.symm ?_
              obtain ⟨w34n, w34⟩ : ∃ n : Nat, w29v.toInt = (n : Int) := ⟨w29v.toInt.toNat, by omega⟩
              have w35 : zIv mLo mHi (zsI w3M 342 w34n w33v) := zIv.put w3I (show (-2147483648) ≤ w33v.toInt ∧ w33v.toInt ≤ 2147483647 from zrg w33v)
              refine zs_iast (pc := 99) t266_99 (j := w34n) (by decide) (zk1 (w3s.k fk_zMm_342)) w34 (zk2 (w3s.k fk_zMm_342) (by omega)) ?_
              refine zs_goto (pc := 100) t266_100 ?_
              obtain ⟨w36v, w36e, w36⟩ := ziadd (a := w3x2) (b := Int32.ofInt 1) rfl (show (Int32.ofInt 1).toInt = 1 by decide) (by omega) (by omega)
              refine zs_iinc (pc := 136) t266_136 (ls' := [(2, .int w36v), (3, .int (zI M 337 (306 + w8n))), (0, .ref 336), (1, .int w3x1)]) (zml mf266 (by decide)) rfl (c := w36v) w36e rfl ?_
              refine zs_goto (pc := 139) t266_139 ?_
              refine zGo.locals (ls' := [(0, .ref 336), (1, .int w3x1), (2, .int w36v)]) (by simp) ?_
              have w37 := w36
              exact w3ih (w3m - 1) (by omega) w3x1 w36v (zsI w3M 342 w34n w33v) ⟨by omega, by omega⟩ ⟨by omega, by omega⟩ w3s w35 (((zFr.refl).trans (w3F.mono rfl)).put rfl) (zPF.fr (M' := (zsI w3M 342 w34n w33v)) w3PF (zEq.put rfl) rfl) (by rw [show w36v.toInt.toNat = w8n + 1 by omega]; omega) (by omega)
          · refine zs_icmp_geF (pc := 40) t266_40 rfl li20000 (by omega) ?_
            refine zs_aload_n (pc := 43) t266_43 rfl ?_
            refine zs_get (pc := 44) t266_44 (by decide) (zk1 (w3s.k fk_zMm_336)) (w3s.p rfl fv_zMm_336_15) ?_
            refine zs_iload_n (pc := 47) t266_47 rfl ?_
            refine zs_iload_n (pc := 48) t266_48 rfl ?_
            refine zs_sipush (pc := 49) t266_49 (v := 10000) (by decide) ?_
            by_cases w38 : 10000 ≤ (zI M 337 (306 + w8n)).toInt
            · refine zs_icmp_geT (pc := 52) t266_52 rfl li10000 (by omega) ?_
              refine zs_aload_n (pc := 59) t266_59 rfl ?_
              refine zs_iload_n (pc := 60) t266_60 rfl ?_
              refine zs_sipush (pc := 61) t266_61 (v := 10000) (by decide) ?_
              obtain ⟨w39v, w39e, w39⟩ := zisub (a := (zI M 337 (306 + w8n))) (b := (10000 : Int32)) rfl li10000 (by omega) (by omega)
              refine zs_isub (pc := 64) t266_64 (c := w39v) w39e ?_
              refine zs_invV (pc := 65) (k := 336) (as' := [.int w39v]) (st := [.int w3x1, .ref 342]) t266_65 mf267 rfl rfl (Or.inl ⟨by decide, (zk1 (w3s.k fk_zMm_336))⟩) ⟨by decide, by decide, Nat.le_of_ble_eq_true rfl, Nat.le_of_ble_eq_true rfl⟩ (K267 w3s w3I (zPR.fr pR (w3F.eq rfl)) w3PF ?_) (fun _ _ q => q)
              intro w40M w40v w40s w40I w40F w40PF w40PD w40PV
              have w40g := zrg w40v
              show zGo X l 8 0 0 266 68 [(3, .int (zI M 337 (306 + w8n))), (0, .ref 336), (1, .int w3x1), (2, .int w3x2)] [.int w40v, .int w3x1, .ref 342] w40M _
              obtain ⟨w41n, w41⟩ : ∃ n : Nat, w3x1.toInt = (n : Int) := ⟨(w3x1.toInt).toNat, by omega⟩
              have w42 : zIv mLo mHi (zsI w40M 342 w41n w40v) := zIv.put w40I (show (-2147483648) ≤ w40v.toInt ∧ w40v.toInt ≤ 2147483647 from zrg w40v)
              refine zs_iast (pc := 68) t266_68 (j := w41n) (by decide) (zk1 (w40s.k fk_zMm_342)) (show w3x1.toInt = ((w41n : Nat) : Int) by omega) (zk2 (w40s.k fk_zMm_342) (by omega)) ?_
              obtain ⟨w43v, w43e, w43⟩ := ziadd (a := w3x1) (b := Int32.ofInt 1) rfl (show (Int32.ofInt 1).toInt = 1 by decide) (by omega) (by omega)
              refine zs_iinc (pc := 69) t266_69 (ls' := [(1, .int w43v), (3, .int (zI M 337 (306 + w8n))), (0, .ref 336), (2, .int w3x2)]) (zml mf266 (by decide)) rfl (c := w43v) w43e rfl ?_
              refine zs_goto (pc := 72) t266_72 ?_
              obtain ⟨w44v, w44e, w44⟩ := ziadd (a := w3x2) (b := Int32.ofInt 1) rfl (show (Int32.ofInt 1).toInt = 1 by decide) (by omega) (by omega)
              refine zs_iinc (pc := 136) t266_136 (ls' := [(2, .int w44v), (1, .int w43v), (3, .int (zI M 337 (306 + w8n))), (0, .ref 336)]) (zml mf266 (by decide)) rfl (c := w44v) w44e rfl ?_
              refine zs_goto (pc := 139) t266_139 ?_
              refine zGo.locals (ls' := [(0, .ref 336), (1, .int w43v), (2, .int w44v)]) (by simp) ?_
              have w45 := w43
              have w46 := w44
              exact w3ih (w3m - 1) (by omega) w43v w44v (zsI w40M 342 w41n w40v) ⟨by omega, by omega⟩ ⟨by omega, by omega⟩ w40s w42 ((((zFr.refl).trans (w3F.mono rfl)).trans (w40F.mono rfl)).put rfl) (zPF.fr (M' := (zsI w40M 342 w41n w40v)) w40PF (zEq.put rfl) rfl) (by rw [show w44v.toInt.toNat = w8n + 1 by omega]; omega) (by omega)
            · refine zs_icmp_geF (pc := 52) t266_52 rfl li10000 (by omega) ?_
              refine zs_iload_n (pc := 55) t266_55 rfl ?_
              refine zs_goto (pc := 56) t266_56 ?_
              obtain ⟨w47n, w47⟩ : ∃ n : Nat, w3x1.toInt = (n : Int) := ⟨(w3x1.toInt).toNat, by omega⟩
              have w48 : zIv mLo mHi (zsI w3M 342 w47n (zI M 337 (306 + w8n))) := zIv.put w3I (show (-2147483648) ≤ (zI M 337 (306 + w8n)).toInt ∧ (zI M 337 (306 + w8n)).toInt ≤ 2147483647 from zrg (zI M 337 (306 + w8n)))
              refine zs_iast (pc := 68) t266_68 (j := w47n) (by decide) (zk1 (w3s.k fk_zMm_342)) (show w3x1.toInt = ((w47n : Nat) : Int) by omega) (zk2 (w3s.k fk_zMm_342) (by omega)) ?_
              obtain ⟨w49v, w49e, w49⟩ := ziadd (a := w3x1) (b := Int32.ofInt 1) rfl (show (Int32.ofInt 1).toInt = 1 by decide) (by omega) (by omega)
              refine zs_iinc (pc := 69) t266_69 (ls' := [(1, .int w49v), (3, .int (zI M 337 (306 + w8n))), (0, .ref 336), (2, .int w3x2)]) (zml mf266 (by decide)) rfl (c := w49v) w49e rfl ?_
              refine zs_goto (pc := 72) t266_72 ?_
              obtain ⟨w50v, w50e, w50⟩ := ziadd (a := w3x2) (b := Int32.ofInt 1) rfl (show (Int32.ofInt 1).toInt = 1 by decide) (by omega) (by omega)
              refine zs_iinc (pc := 136) t266_136 (ls' := [(2, .int w50v), (1, .int w49v), (3, .int (zI M 337 (306 + w8n))), (0, .ref 336)]) (zml mf266 (by decide)) rfl (c := w50v) w50e rfl ?_
              refine zs_goto (pc := 139) t266_139 ?_
              refine zGo.locals (ls' := [(0, .ref 336), (1, .int w49v), (2, .int w50v)]) (by simp) ?_
              have w51 := w49
              have w52 := w50
              exact w3ih (w3m - 1) (by omega) w49v w50v (zsI w3M 342 w47n (zI M 337 (306 + w8n))) ⟨by omega, by omega⟩ ⟨by omega, by omega⟩ w3s w48 (((zFr.refl).trans (w3F.mono rfl)).put rfl) (zPF.fr (M' := (zsI w3M 342 w47n (zI M 337 (306 + w8n)))) w3PF (zEq.put rfl) rfl) (by rw [show w50v.toInt.toNat = w8n + 1 by omega]; omega) (by omega)
    refine zGo.locals (ls' := [(0, .ref 336), (1, .int (0 : Int32)), (2, .int (0 : Int32))]) (by simp) ?_
    have w53 := li0
    have w54 := li0
    exact w3L ((200 - 0 : Int).toNat) (0 : Int32) (0 : Int32) M ⟨by decide, by decide⟩ ⟨by decide, by decide⟩ hs hI zFr.refl pF rfl (by omega)
  · refine zs_if_neF (pc := 6) t266_6 rfl (by omega) ?_
    refine zs_iconst (pc := 9) t266_9 (v := 0) (by decide) ?_
    exact zs_iret (pc := 10) t266_10 mr266 (by decide) (hQ _ _ hs hI (zFr.refl) pR pC pF)
