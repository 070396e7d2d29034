theorem R254 {X : zX} {l : Launch} {M : zM} {Q : Option Value → zM → Prop} (hs : zSk zMm M) (hI : zIv mLo mHi M) {F : Nat → Int} {H : Nat → Nat → Int} {n : Int} {K : Nat → Nat → Int} {T : Nat → Int} (pR : zPR M) (pC : zPC M) (pF : zPF M) (x0 : zRw M 0 F) (x1 : zHM M H n) (x2 : zKM M K T) (x3 : zWF F) (hQ : ∀ (M' : zM) (v : Int32), zSk zMm M' → zIv mLo mHi M' → zFr [(337, 337, none), (336, 336, some 6), (336, 336, some 7), (336, 336, some 8), (336, 336, some 11), (336, 336, some 12), (336, 336, some 13), (336, 336, some 14), (336, 336, some 5), (336, 336, some 1), (336, 336, some 3), (340, 341, none)] M M' → zJ M' 351 = zJ M 351 → zPR M' → zPC M' → zPF M' → ((zI M' 336 5).toInt = 0) → ((zI M' 336 3).toInt = 0 ∨ (zI M' 336 3).toInt = (zI M 336 3).toInt) → (zTg5 (zI M 339) (zI M 336 5).toInt v.toInt (zI M' 336 7).toInt) → ((v.toInt = -1 ∧ zSM M' F H n K T) ∨ (0 ≤ v.toInt ∧ zSM M' F (pushH F H) (nP n) K T)) → Q (some (.int v)) M') : zCall X l 7 0 0 254 [.ref 336] M Q := by
  refine zs_in (by decide) mf254 (Nat.le_of_ble_eq_true rfl) ?_
  show zGo X l 7 0 0 254 0 [(0, .ref 336)] [] M _
  have w1 := ib336_5 hI
  have w2 : (zI M 336 5).toInt = (zI M 336 5).toInt := (congrArg Int32.toInt rfl).trans rfl
  refine zs_aload_n (pc := 0) t254_0 rfl ?_
  refine zs_invV (pc := 1) (k := 336) (as' := []) (st := []) t254_1 mf236 rfl rfl (Or.inl ⟨by decide, (zk1 (hs.k fk_zMm_336))⟩) ⟨by decide, by decide, Nat.le_of_ble_eq_true rfl, Nat.le_of_ble_eq_true rfl⟩ (zs_in (by decide) mf236 (Nat.le_of_ble_eq_true rfl) ?_) (fun _ _ q => q)
  show zGo X l 0 0 0 236 0 [(0, .ref 336)] [] M _
  refine zs_aload_n (pc := 0) t236_0 rfl ?_
  refine zs_iconst (pc := 1) t236_1 (v := 0) (by decide) ?_
  have w3 : zIv mLo mHi (zsI M 336 6 (0 : Int32)) := zIv.put hI (show 0 ≤ (0 : Int32).toInt ∧ (0 : Int32).toInt ≤ 500 from ⟨by decide, by decide⟩)
  refine zs_putI (pc := 2) t236_2 (zk1 (hs.k fk_zMm_336)) rfl ?_
  refine zs_aload_n (pc := 5) t236_5 rfl ?_
  refine zs_iconst (pc := 6) t236_6 (v := -1) (by decide) ?_
  have w4 : zIv mLo mHi (zsI (zsI M 336 6 (0 : Int32)) 336 7 (-1 : Int32)) := zIv.put w3 (show (-1) ≤ (-1 : Int32).toInt ∧ (-1 : Int32).toInt ≤ 500 from ⟨by decide, by decide⟩)
  refine zs_putI (pc := 7) t236_7 (zk1 (hs.k fk_zMm_336)) rfl ?_
  refine zs_vret (pc := 10) t236_10 mr236 ?_
  show zGo X l 7 0 0 254 4 [(0, .ref 336)] [] (zsI (zsI M 336 6 (0 : Int32)) 336 7 (-1 : Int32)) _
  refine zs_aload_n (pc := 4) t254_4 rfl ?_
  refine zs_iconst (pc := 5) t254_5 (v := 0) (by decide) ?_
  have w5 : zIv mLo mHi (zsI (zsI (zsI M 336 6 (0 : Int32)) 336 7 (-1 : Int32)) 336 11 (0 : Int32)) := zIv.put w4 (show 0 ≤ (0 : Int32).toInt ∧ (0 : Int32).toInt ≤ 200 from ⟨by decide, by decide⟩)
  have w6 : zGh (zsI (zsI (zsI M 336 6 (0 : Int32)) 336 7 (-1 : Int32)) 336 11 (0 : Int32)) 0 := zGh.zero (by decide)
  refine zs_putI (pc := 6) t254_6 (zk1 (hs.k fk_zMm_336)) rfl ?_
  refine zs_aload_n (pc := 9) t254_9 rfl ?_
  refine zs_iconst (pc := 10) t254_10 (v := 0) (by decide) ?_
  have w7 : zIv mLo mHi (zsI (zsI (zsI (zsI M 336 6 (0 : Int32)) 336 7 (-1 : Int32)) 336 11 (0 : Int32)) 336 12 (0 : Int32)) := zIv.put w5 (show 0 ≤ (0 : Int32).toInt ∧ (0 : Int32).toInt ≤ 40 from ⟨by decide, by decide⟩)
  refine zs_putI (pc := 11) t254_11 (zk1 (hs.k fk_zMm_336)) rfl ?_
  refine zs_aload_n (pc := 14) t254_14 rfl ?_
  refine zs_iconst (pc := 15) t254_15 (v := 0) (by decide) ?_
  have w8 : zIv mLo mHi (zsI (zsI (zsI (zsI (zsI M 336 6 (0 : Int32)) 336 7 (-1 : Int32)) 336 11 (0 : Int32)) 336 12 (0 : Int32)) 336 13 (0 : Int32)) := zIv.put w7 (show 0 ≤ (0 : Int32).toInt ∧ (0 : Int32).toInt ≤ 30 from ⟨by decide, by decide⟩)
  refine zs_putI (pc := 16) t254_16 (zk1 (hs.k fk_zMm_336)) rfl ?_
  refine zs_aload_n (pc := 19) t254_19 rfl ?_
  refine zs_iconst (pc := 20) t254_20 (v := 0) (by decide) ?_
  have w9 : zIv mLo mHi (zsI (zsI (zsI (zsI (zsI (zsI M 336 6 (0 : Int32)) 336 7 (-1 : Int32)) 336 11 (0 : Int32)) 336 12 (0 : Int32)) 336 13 (0 : Int32)) 336 14 (0 : Int32)) := zIv.put w8 (show 0 ≤ (0 : Int32).toInt ∧ (0 : Int32).toInt ≤ 6 from ⟨by decide, by decide⟩)
  have w10 : (zI (zsI (zsI (zsI (zsI (zsI (zsI M 336 6 (0 : Int32)) 336 7 (-1 : Int32)) 336 11 (0 : Int32)) 336 12 (0 : Int32)) 336 13 (0 : Int32)) 336 14 (0 : Int32)) 336 12).toInt = 0 := (congrArg Int32.toInt ((zIoj (by decide)).trans ((zIoj (by decide)).trans zIs))).trans li0
  have w11 : (zI (zsI (zsI (zsI (zsI (zsI (zsI M 336 6 (0 : Int32)) 336 7 (-1 : Int32)) 336 11 (0 : Int32)) 336 12 (0 : Int32)) 336 13 (0 : Int32)) 336 14 (0 : Int32)) 336 14).toInt = 0 := (congrArg Int32.toInt zIs).trans li0
  have w13 := li0
  have w12 : zGn (zsI (zsI (zsI (zsI (zsI (zsI M 336 6 (0 : Int32)) 336 7 (-1 : Int32)) 336 11 (0 : Int32)) 336 12 (0 : Int32)) 336 13 (0 : Int32)) 336 14 (0 : Int32)) := zGn.zero (by omega) (by omega)
  refine zs_putI (pc := 21) t254_21 (zk1 (hs.k fk_zMm_336)) rfl ?_
  refine zs_aload_n (pc := 24) t254_24 rfl ?_
  refine zs_get (pc := 25) t254_25 (by decide) (zk1 (hs.k fk_zMm_336)) (zfvi rfl ((zIoj (by decide)).trans ((zIoj (by decide)).trans ((zIoj (by decide)).trans ((zIoj (by decide)).trans ((zIoj (by decide)).trans ((zIoj (by decide)).trans rfl))))))) ?_
  by_cases w14 : (zI M 336 5).toInt = 0
  · refine zs_if_eqT (pc := 28) t254_28 rfl (by omega) ?_
    refine zs_iconst (pc := 38) t254_38 (v := 1) (by decide) ?_
    refine zs_goto (pc := 39) t254_39 ?_
    refine zs_istore_n (pc := 43) t254_43 (ls' := [(1, .int (1 : Int32)), (0, .ref 336)]) (zml mf254 (by decide)) rfl ?_
    refine zs_aload_n (pc := 44) t254_44 rfl ?_
    refine zs_iconst (pc := 45) t254_45 (v := 0) (by decide) ?_
    have w15 : zIv mLo mHi (zsI (zsI (zsI (zsI (zsI (zsI (zsI M 336 6 (0 : Int32)) 336 7 (-1 : Int32)) 336 11 (0 : Int32)) 336 12 (0 : Int32)) 336 13 (0 : Int32)) 336 14 (0 : Int32)) 336 5 (0 : Int32)) := zIv.put w9 (show 0 ≤ (0 : Int32).toInt ∧ (0 : Int32).toInt ≤ 500 from ⟨by decide, by decide⟩)
    refine zs_putI (pc := 46) t254_46 (zk1 (hs.k fk_zMm_336)) rfl ?_
    refine zs_iload_n (pc := 49) t254_49 rfl ?_
    refine zs_if_neT (pc := 50) t254_50 li1 (by decide) ?_
    refine zs_aload_n (pc := 55) t254_55 rfl ?_
    refine zs_iconst (pc := 56) t254_56 (v := 0) (by decide) ?_
    have w16 := ibA1 hI
    have w17 : (zI (zsI (zsI (zsI (zsI (zsI (zsI (zsI M 336 6 (0 : Int32)) 336 7 (-1 : Int32)) 336 11 (0 : Int32)) 336 12 (0 : Int32)) 336 13 (0 : Int32)) 336 14 (0 : Int32)) 336 5 (0 : Int32)) 337 1).toInt = (zI M 337 1).toInt := (congrArg Int32.toInt ((zIo (by decide)).trans ((zIo (by decide)).trans ((zIo (by decide)).trans ((zIo (by decide)).trans ((zIo (by decide)).trans ((zIo (by decide)).trans ((zIo (by decide)).trans rfl)))))))).trans rfl
    have w18 := ibA2 hI
    have w19 : (zI (zsI (zsI (zsI (zsI (zsI (zsI (zsI M 336 6 (0 : Int32)) 336 7 (-1 : Int32)) 336 11 (0 : Int32)) 336 12 (0 : Int32)) 336 13 (0 : Int32)) 336 14 (0 : Int32)) 336 5 (0 : Int32)) 337 2).toInt = (zI M 337 2).toInt := (congrArg Int32.toInt ((zIo (by decide)).trans ((zIo (by decide)).trans ((zIo (by decide)).trans ((zIo (by decide)).trans ((zIo (by decide)).trans ((zIo (by decide)).trans ((zIo (by decide)).trans rfl)))))))).trans rfl
    have w20 := ibA0 hI
    have w21 : (zI (zsI (zsI (zsI (zsI (zsI (zsI (zsI M 336 6 (0 : Int32)) 336 7 (-1 : Int32)) 336 11 (0 : Int32)) 336 12 (0 : Int32)) 336 13 (0 : Int32)) 336 14 (0 : Int32)) 336 5 (0 : Int32)) 337 0).toInt = (zI M 337 0).toInt := (congrArg Int32.toInt ((zIo (by decide)).trans ((zIo (by decide)).trans ((zIo (by decide)).trans ((zIo (by decide)).trans ((zIo (by decide)).trans ((zIo (by decide)).trans ((zIo (by decide)).trans rfl)))))))).trans rfl
    refine zs_invV (pc := 57) (k := 336) (as' := [.int (0 : Int32)]) (st := []) t254_57 mf230 rfl rfl (Or.inl ⟨by decide, (zk1 (hs.k fk_zMm_336))⟩) ⟨by decide, by decide, Nat.le_of_ble_eq_true rfl, Nat.le_of_ble_eq_true rfl⟩ (R230_0 hs w15 (zPR.fr (M' := (zsI (zsI (zsI (zsI (zsI (zsI (zsI M 336 6 (0 : Int32)) 336 7 (-1 : Int32)) 336 11 (0 : Int32)) 336 12 (0 : Int32)) 336 13 (0 : Int32)) 336 14 (0 : Int32)) 336 5 (0 : Int32))) (zPR.fr (M' := (zsI (zsI (zsI (zsI (zsI (zsI M 336 6 (0 : Int32)) 336 7 (-1 : Int32)) 336 11 (0 : Int32)) 336 12 (0 : Int32)) 336 13 (0 : Int32)) 336 14 (0 : Int32))) (zPR.fr (M' := (zsI (zsI (zsI (zsI (zsI M 336 6 (0 : Int32)) 336 7 (-1 : Int32)) 336 11 (0 : Int32)) 336 12 (0 : Int32)) 336 13 (0 : Int32))) (zPR.fr (M' := (zsI (zsI (zsI (zsI M 336 6 (0 : Int32)) 336 7 (-1 : Int32)) 336 11 (0 : Int32)) 336 12 (0 : Int32))) (zPR.fr (M' := (zsI (zsI (zsI M 336 6 (0 : Int32)) 336 7 (-1 : Int32)) 336 11 (0 : Int32))) (zPR.fr (M' := (zsI (zsI M 336 6 (0 : Int32)) 336 7 (-1 : Int32))) (zPR.fr (M' := (zsI M 336 6 (0 : Int32))) pR (zEq.put rfl)) (zEq.put rfl)) (zEq.put rfl)) (zEq.put rfl)) (zEq.put rfl)) (zEq.put rfl)) (zEq.put rfl)) (zPC.fr (M' := (zsI (zsI (zsI (zsI (zsI (zsI (zsI M 336 6 (0 : Int32)) 336 7 (-1 : Int32)) 336 11 (0 : Int32)) 336 12 (0 : Int32)) 336 13 (0 : Int32)) 336 14 (0 : Int32)) 336 5 (0 : Int32))) (zPC.fr (M' := (zsI (zsI (zsI (zsI (zsI (zsI M 336 6 (0 : Int32)) 336 7 (-1 : Int32)) 336 11 (0 : Int32)) 336 12 (0 : Int32)) 336 13 (0 : Int32)) 336 14 (0 : Int32))) (zPC.fr (M' := (zsI (zsI (zsI (zsI (zsI M 336 6 (0 : Int32)) 336 7 (-1 : Int32)) 336 11 (0 : Int32)) 336 12 (0 : Int32)) 336 13 (0 : Int32))) (zPC.fr (M' := (zsI (zsI (zsI (zsI M 336 6 (0 : Int32)) 336 7 (-1 : Int32)) 336 11 (0 : Int32)) 336 12 (0 : Int32))) (zPC.fr (M' := (zsI (zsI (zsI M 336 6 (0 : Int32)) 336 7 (-1 : Int32)) 336 11 (0 : Int32))) (zPC.fr (M' := (zsI (zsI M 336 6 (0 : Int32)) 336 7 (-1 : Int32))) (zPC.fr (M' := (zsI M 336 6 (0 : Int32))) pC (zEq.put rfl)) (zEq.put rfl)) (zEq.put rfl)) (zEq.put rfl)) (zEq.put rfl)) (zEq.put rfl)) (zEq.put rfl)) (zRw.fr' x0 (fun j hj => ((zIo (by decide)).trans ((zIo (by decide)).trans ((zIo (by decide)).trans ((zIo (by decide)).trans ((zIo (by decide)).trans ((zIo (by decide)).trans (zIo (by decide)))))))))) (zHM.fr x1 (fun j hj => ((zIo (by decide)).trans ((zIo (by decide)).trans ((zIo (by decide)).trans ((zIo (by decide)).trans ((zIo (by decide)).trans ((zIo (by decide)).trans (zIo (by decide))))))))) ((zIoj (by decide)).trans ((zIoj (by decide)).trans ((zIoj (by decide)).trans ((zIoj (by decide)).trans ((zIoj (by decide)).trans ((zIoj (by decide)).trans (zIoj (by decide))))))))) ?_) (fun _ _ q => q)
    intro w22M w22s w22I w22F w22J w22PR w22PC w22PF w22t0 w22t1 w22t2 w22t3 w22x0 w22x1
    have w23 := ibA1 w22I
    have w24 := ib336_3 w22I
    have w25 := ibA2 w22I
    have w26 := ibA0 w22I
    have w22r0 := w22x1 0 (by decide) _ (zRw.fr' x0 (fun j hj => ((zIo (by decide)).trans ((zIo (by decide)).trans ((zIo (by decide)).trans ((zIo (by decide)).trans ((zIo (by decide)).trans ((zIo (by decide)).trans (zIo (by decide))))))))))
    show zGo X l 7 0 0 254 60 [(1, .int (1 : Int32)), (0, .ref 336)] [] w22M _
    refine zs_aload_n (pc := 60) t254_60 rfl ?_
    refine zs_get (pc := 61) t254_61 (by decide) (zk1 (w22s.k fk_zMm_336)) (w22s.p rfl fv_zMm_336_0) ?_
    refine zs_iconst (pc := 64) t254_64 (v := 3) (by decide) ?_
    refine zs_aload_n (pc := 65) t254_65 rfl ?_
    refine zs_get (pc := 66) t254_66 (by decide) (zk1 (w22s.k fk_zMm_336)) (zfvi rfl ((w22F 336 13 rfl).trans ((zIoj (by decide)).trans ((zIoj (by decide)).trans zIs)))) ?_
    have w27 : zIv mLo mHi (zsI w22M 337 3 (0 : Int32)) := zIv.putA w22I (by decide) (show (-2147483648) ≤ (0 : Int32).toInt ∧ (0 : Int32).toInt ≤ 2147483647 from zrg (0 : Int32))
    have w28 : (zI w22M 337 0).toInt = (zI w22M 337 0).toInt := (congrArg Int32.toInt rfl).trans rfl
    have w29 : (zI w22M 337 1).toInt = (zI w22M 337 1).toInt := (congrArg Int32.toInt rfl).trans rfl
    have w30 : zPR (zsI w22M 337 3 (0 : Int32)) := zPR.put w22PR (by omega) (by omega) (by omega) (by omega)
    have w31 : zPC (zsI w22M 337 3 (0 : Int32)) := zPC.put w22PC (by decide) (by decide)
    have w32 : zRw (zsI w22M 337 3 (0 : Int32)) 0 F := zRw.put3 w22r0 (by decide)
    refine zs_iast (pc := 69) t254_69 (j := 3) (by decide) (zk1 (w22s.k fk_zMm_337)) li3 (zk2 (w22s.k fk_zMm_337) (by decide)) ?_
    refine zs_aload_n (pc := 70) t254_70 rfl ?_
    refine zs_get (pc := 71) t254_71 (by decide) (zk1 (w22s.k fk_zMm_336)) (w22s.p rfl fv_zMm_336_0) ?_
    refine zs_iconst (pc := 74) t254_74 (v := 4) (by decide) ?_
    refine zs_aload_n (pc := 75) t254_75 rfl ?_
    refine zs_get (pc := 76) t254_76 (by decide) (zk1 (w22s.k fk_zMm_336)) (zfvi rfl ((zIo (by decide)).trans ((w22F 336 11 rfl).trans ((zIoj (by decide)).trans ((zIoj (by decide)).trans ((zIoj (by decide)).trans ((zIoj (by decide)).trans zIs))))))) ?_
    have w33 : zIv mLo mHi (zsI (zsI w22M 337 3 (0 : Int32)) 337 4 (0 : Int32)) := zIv.putA w27 (by decide) (show 0 ≤ (0 : Int32).toInt ∧ (0 : Int32).toInt ≤ 200 from ⟨by decide, by decide⟩)
    have w34 : (zI (zsI w22M 337 3 (0 : Int32)) 337 0).toInt = (zI w22M 337 0).toInt := (congrArg Int32.toInt ((zIoj (by decide)).trans rfl)).trans rfl
    have w35 : (zI (zsI w22M 337 3 (0 : Int32)) 337 1).toInt = (zI w22M 337 1).toInt := (congrArg Int32.toInt ((zIoj (by decide)).trans rfl)).trans rfl
    have w36 : zPR (zsI (zsI w22M 337 3 (0 : Int32)) 337 4 (0 : Int32)) := zPR.put w30 (by omega) (by omega) (by omega) (by omega)
    have w37 : zRw (zsI (zsI w22M 337 3 (0 : Int32)) 337 4 (0 : Int32)) 0 F := zRw.put3 w32 (by decide)
    refine zs_iast (pc := 79) t254_79 (j := 4) (by decide) (zk1 (w22s.k fk_zMm_337)) li4 (zk2 (w22s.k fk_zMm_337) (by decide)) ?_
    refine zs_iconst (pc := 80) t254_80 (v := 0) (by decide) ?_
    refine zs_istore_n (pc := 81) t254_81 (ls' := [(2, .int (0 : Int32)), (1, .int (1 : Int32)), (0, .ref 336)]) (zml mf254 (by decide)) rfl ?_
    have w38 : zCd (zI (zsI (zsI w22M 337 3 (0 : Int32)) 337 4 (0 : Int32)) 340) (zI (zsI (zsI w22M 337 3 (0 : Int32)) 337 4 (0 : Int32)) 336 11).toInt := by
      rw [show zI (zsI (zsI w22M 337 3 (0 : Int32)) 337 4 (0 : Int32)) 336 11 = zI (zsI (zsI w22M 337 3 (0 : Int32)) 337 4 (0 : Int32)) 336 11 from rfl]
      exact zCd.cg ((zGh.fr (M' := (zsI (zsI w22M 337 3 (0 : Int32)) 337 4 (0 : Int32))) (zGh.fr (M' := (zsI w22M 337 3 (0 : Int32))) (zGh.fr (zGh.fr (M' := (zsI (zsI (zsI (zsI (zsI (zsI (zsI M 336 6 (0 : Int32)) 336 7 (-1 : Int32)) 336 11 (0 : Int32)) 336 12 (0 : Int32)) 336 13 (0 : Int32)) 336 14 (0 : Int32)) 336 5 (0 : Int32))) (zGh.fr (M' := (zsI (zsI (zsI (zsI (zsI (zsI M 336 6 (0 : Int32)) 336 7 (-1 : Int32)) 336 11 (0 : Int32)) 336 12 (0 : Int32)) 336 13 (0 : Int32)) 336 14 (0 : Int32))) (zGh.fr (M' := (zsI (zsI (zsI (zsI (zsI M 336 6 (0 : Int32)) 336 7 (-1 : Int32)) 336 11 (0 : Int32)) 336 12 (0 : Int32)) 336 13 (0 : Int32))) (zGh.fr (M' := (zsI (zsI (zsI (zsI M 336 6 (0 : Int32)) 336 7 (-1 : Int32)) 336 11 (0 : Int32)) 336 12 (0 : Int32))) w6 (zEq.put rfl)) (zEq.put rfl)) (zEq.put rfl)) (zEq.put rfl)) (w22F.eq rfl)) (zEq.put rfl)) (zEq.put rfl)).1) (fun i _ => rfl)
    have w39 : (zI (zsI (zsI w22M 337 3 (0 : Int32)) 337 4 (0 : Int32)) 336 11).toInt = 0 := (congrArg Int32.toInt ((zIo (by decide)).trans ((zIo (by decide)).trans ((w22F 336 11 rfl).trans ((zIoj (by decide)).trans ((zIoj (by decide)).trans ((zIoj (by decide)).trans ((zIoj (by decide)).trans zIs)))))))).trans li0
    have w40L : ∀ (m : Nat) (w40x2 : Int32) (w40M : zM), (0 ≤ w40x2.toInt ∧ w40x2.toInt ≤ 200) → zSk zMm w40M → zIv mLo mHi w40M → zFr [(337, 337, none)] (zsI (zsI w22M 337 3 (0 : Int32)) 337 4 (0 : Int32)) w40M → zJ w40M 351 = zJ (zsI (zsI w22M 337 3 (0 : Int32)) 337 4 (0 : Int32)) 351 → zPR w40M → ((zI w40M 337 4).toInt = (zI (zsI (zsI w22M 337 3 (0 : Int32)) 337 4 (0 : Int32)) 337 4).toInt) → (w40x2.toInt ≤ (zI (zsI (zsI w22M 337 3 (0 : Int32)) 337 4 (0 : Int32)) 336 11).toInt) → ((zI w40M 336 5).toInt = (zI (zsI (zsI w22M 337 3 (0 : Int32)) 337 4 (0 : Int32)) 336 5).toInt) → ((zI w40M 336 13).toInt = (zI (zsI (zsI w22M 337 3 (0 : Int32)) 337 4 (0 : Int32)) 336 13).toInt) → ((zI w40M 336 7).toInt = (zI (zsI (zsI w22M 337 3 (0 : Int32)) 337 4 (0 : Int32)) 336 7).toInt) → (∀ i : Nat, (i : Int) < w40x2.toInt → zI w40M 337 (306 + i) = zI (zsI (zsI w22M 337 3 (0 : Int32)) 337 4 (0 : Int32)) 340 i) → (∀ j : Nat, j < 306 ∨ 506 ≤ j → zI w40M 337 j = zI (zsI (zsI w22M 337 3 (0 : Int32)) 337 4 (0 : Int32)) 337 j) → 200 - w40x2.toInt ≤ (m : Int) → zGo X l 7 0 0 254 82 [(0, .ref 336), (1, .int (1 : Int32)), (2, .int w40x2)] [] w40M Q := by
      intro m
      induction m using Nat.strongRecOn with
      | ind w40m w40ih =>
        intro w40x2 w40M w40b2 w40s w40I w40F w40J w40PR w40r0 w40r1 w40r2 w40r3 w40r4 w40t0 w40t1 w40q
        have w41 := ibA4 w40I
        have w42 : (zI (zsI (zsI w22M 337 3 (0 : Int32)) 337 4 (0 : Int32)) 337 4).toInt = 0 := (congrArg Int32.toInt zIs).trans li0
        have w43 : (zI (zsI (zsI w22M 337 3 (0 : Int32)) 337 4 (0 : Int32)) 336 11).toInt = 0 := (congrArg Int32.toInt ((zIo (by decide)).trans ((zIo (by decide)).trans ((w22F 336 11 rfl).trans ((zIoj (by decide)).trans ((zIoj (by decide)).trans ((zIoj (by decide)).trans ((zIoj (by decide)).trans zIs)))))))).trans li0
        have w44 : (zI (zsI (zsI w22M 337 3 (0 : Int32)) 337 4 (0 : Int32)) 336 5).toInt = 0 := (congrArg Int32.toInt ((zIo (by decide)).trans ((zIo (by decide)).trans ((w22F 336 5 rfl).trans zIs)))).trans li0
        have w45 : (zI (zsI (zsI w22M 337 3 (0 : Int32)) 337 4 (0 : Int32)) 336 13).toInt = 0 := (congrArg Int32.toInt ((zIo (by decide)).trans ((zIo (by decide)).trans ((w22F 336 13 rfl).trans ((zIoj (by decide)).trans ((zIoj (by decide)).trans zIs)))))).trans li0
        have w46 : (zI (zsI (zsI w22M 337 3 (0 : Int32)) 337 4 (0 : Int32)) 336 7).toInt = (-1) := (congrArg Int32.toInt ((zIo (by decide)).trans ((zIo (by decide)).trans ((w22F 336 7 rfl).trans ((zIoj (by decide)).trans ((zIoj (by decide)).trans ((zIoj (by decide)).trans ((zIoj (by decide)).trans ((zIoj (by decide)).trans zIs))))))))).trans lin1
        refine zs_iload_n (pc := 82) t254_82 rfl ?_
        refine zs_aload_n (pc := 83) t254_83 rfl ?_
        refine zs_get (pc := 84) t254_84 (by decide) (zk1 (w40s.k fk_zMm_336)) (zfvi rfl ((w40F 336 11 rfl).trans ((zIo (by decide)).trans ((zIo (by decide)).trans ((w22F 336 11 rfl).trans ((zIoj (by decide)).trans ((zIoj (by decide)).trans ((zIoj (by decide)).trans ((zIoj (by decide)).trans zIs))))))))) ?_
        refine zs_icmp_geT (pc := 87) t254_87 rfl li0 (by omega) ?_
        refine zs_aload_n (pc := 112) t254_112 rfl ?_
        refine zs_get (pc := 113) t254_113 (by decide) (zk1 (w40s.k fk_zMm_336)) (zfvi rfl ((w40F 336 13 rfl).trans ((zIo (by decide)).trans ((zIo (by decide)).trans ((w22F 336 13 rfl).trans ((zIoj (by decide)).trans ((zIoj (by decide)).trans zIs))))))) ?_
        have w47 : (zI w40M 337 4).toInt = (zI w40M 337 4).toInt := (congrArg Int32.toInt rfl).trans rfl
        have w48 : (zI w40M 336 11).toInt = 0 := (congrArg Int32.toInt ((w40F 336 11 rfl).trans ((zIo (by decide)).trans ((zIo (by decide)).trans ((w22F 336 11 rfl).trans ((zIoj (by decide)).trans ((zIoj (by decide)).trans ((zIoj (by decide)).trans ((zIoj (by decide)).trans zIs))))))))).trans li0
        have w49 : zPC w40M := zPC.of w40t0 (by omega) (by rw [show w40x2.toInt = (zI (zsI (zsI w22M 337 3 (0 : Int32)) 337 4 (0 : Int32)) 336 11).toInt by omega]; exact w38)
        have w50 : (zI w40M 336 5).toInt = 0 := (congrArg Int32.toInt ((w40F 336 5 rfl).trans ((zIo (by decide)).trans ((zIo (by decide)).trans ((w22F 336 5 rfl).trans zIs))))).trans li0
        have w51 : (zI w40M 336 3).toInt = (zI w22M 336 3).toInt := (congrArg Int32.toInt ((w40F 336 3 rfl).trans ((zIo (by decide)).trans ((zIo (by decide)).trans rfl)))).trans rfl
        have w52 := li0
        have w53 : (0 : Int32).toInt = 0 := li0
        have w54 : (zI w40M 336 7).toInt = (-1) := (congrArg Int32.toInt ((w40F 336 7 rfl).trans ((zIo (by decide)).trans ((zIo (by decide)).trans ((w22F 336 7 rfl).trans ((zIoj (by decide)).trans ((zIoj (by decide)).trans ((zIoj (by decide)).trans ((zIoj (by decide)).trans ((zIoj (by decide)).trans zIs)))))))))).trans lin1
        exact zs_iret (pc := 116) t254_116 mr254 (by decide) (hQ _ _ w40s w40I ((((((((((((zFr.refl).put rfl).put rfl).put rfl).put rfl).put rfl).put rfl).put rfl).trans (w22F.mono rfl)).put rfl).put rfl).trans (w40F.mono rfl)) (w40J.trans w22J) w40PR w49 (zPF.fr (zPF.fr (M' := (zsI (zsI w22M 337 3 (0 : Int32)) 337 4 (0 : Int32))) (zPF.fr (M' := (zsI w22M 337 3 (0 : Int32))) w22PF (zEq.put rfl) rfl) (zEq.put rfl) rfl) (w40F.eq rfl) w40J) (by omega) (by omega) (Or.inl ⟨by omega, by omega, by omega⟩) (Or.inr ⟨by omega, (zRw.fr' w37 (fun j hj => w40t1 j (Or.inl (by omega)))), (zHM.fr (zHM.fr w22x0 (fun j hj => ((zIoj (by omega)).trans (zIoj (by omega)))) ((zIo (by decide)).trans (zIo (by decide)))) (fun j hj => w40t1 j (Or.inr hj)) (w40F 336 1 rfl)), (zKM.fr (zKM.fr (zKM.rows (zKM.fr x2 (fun j hj => ((zIo (by decide)).trans ((zIo (by decide)).trans ((zIo (by decide)).trans ((zIo (by decide)).trans ((zIo (by decide)).trans ((zIo (by decide)).trans (zIo (by decide))))))))) (fun k => ((zIo (by decide)).trans ((zIo (by decide)).trans ((zIo (by decide)).trans ((zIo (by decide)).trans ((zIo (by decide)).trans ((zIo (by decide)).trans (zIo (by decide)))))))))) (fun r h1 h2 G z => w22x1 r (Or.inl (by omega)) G z) (fun k => w22F 338 k rfl)) (fun j hj => ((zIoj (by omega)).trans (zIoj (by omega)))) (fun k => ((zIo (by decide)).trans (zIo (by decide))))) (fun j hj => w40t1 j (Or.inr hj)) (fun k => w40F 338 k rfl))⟩))
    refine zGo.locals (ls' := [(0, .ref 336), (1, .int (1 : Int32)), (2, .int (0 : Int32))]) (by simp) ?_
    have w55 := li0
    have w56 : (zI (zsI (zsI w22M 337 3 (0 : Int32)) 337 4 (0 : Int32)) 337 4).toInt = 0 := (congrArg Int32.toInt zIs).trans li0
    have w57 : (zI (zsI (zsI w22M 337 3 (0 : Int32)) 337 4 (0 : Int32)) 336 5).toInt = 0 := (congrArg Int32.toInt ((zIo (by decide)).trans ((zIo (by decide)).trans ((w22F 336 5 rfl).trans zIs)))).trans li0
    have w58 : (zI (zsI (zsI w22M 337 3 (0 : Int32)) 337 4 (0 : Int32)) 336 13).toInt = 0 := (congrArg Int32.toInt ((zIo (by decide)).trans ((zIo (by decide)).trans ((w22F 336 13 rfl).trans ((zIoj (by decide)).trans ((zIoj (by decide)).trans zIs)))))).trans li0
    have w59 : (zI (zsI (zsI w22M 337 3 (0 : Int32)) 337 4 (0 : Int32)) 336 7).toInt = (-1) := (congrArg Int32.toInt ((zIo (by decide)).trans ((zIo (by decide)).trans ((w22F 336 7 rfl).trans ((zIoj (by decide)).trans ((zIoj (by decide)).trans ((zIoj (by decide)).trans ((zIoj (by decide)).trans ((zIoj (by decide)).trans zIs))))))))).trans lin1
    exact w40L ((200 - 0 : Int).toNat) (0 : Int32) (zsI (zsI w22M 337 3 (0 : Int32)) 337 4 (0 : Int32)) ⟨by decide, by decide⟩ w22s w33 zFr.refl rfl w36 (by omega) (by omega) (by omega) (by omega) (by omega) (fun i hi => absurd hi (by omega)) (fun j hj => rfl) (by omega)
  · refine zs_if_eqF (pc := 28) t254_28 rfl (by omega) ?_
    refine zs_aload_n (pc := 31) t254_31 rfl ?_
    have w60 : (zI (zsI (zsI (zsI (zsI (zsI (zsI M 336 6 (0 : Int32)) 336 7 (-1 : Int32)) 336 11 (0 : Int32)) 336 12 (0 : Int32)) 336 13 (0 : Int32)) 336 14 (0 : Int32)) 336 5).toInt = (zI M 336 5).toInt := (congrArg Int32.toInt ((zIoj (by decide)).trans ((zIoj (by decide)).trans ((zIoj (by decide)).trans ((zIoj (by decide)).trans ((zIoj (by decide)).trans ((zIoj (by decide)).trans rfl))))))).trans rfl
    have w61 : (zI (zsI (zsI (zsI (zsI (zsI (zsI M 336 6 (0 : Int32)) 336 7 (-1 : Int32)) 336 11 (0 : Int32)) 336 12 (0 : Int32)) 336 13 (0 : Int32)) 336 14 (0 : Int32)) 336 6).toInt = 0 := (congrArg Int32.toInt ((zIoj (by decide)).trans ((zIoj (by decide)).trans ((zIoj (by decide)).trans ((zIoj (by decide)).trans ((zIoj (by decide)).trans zIs)))))).trans li0
    have w62 : (zI (zsI (zsI (zsI (zsI (zsI (zsI M 336 6 (0 : Int32)) 336 7 (-1 : Int32)) 336 11 (0 : Int32)) 336 12 (0 : Int32)) 336 13 (0 : Int32)) 336 14 (0 : Int32)) 336 12).toInt = 0 := (congrArg Int32.toInt ((zIoj (by decide)).trans ((zIoj (by decide)).trans zIs))).trans li0
    have w63 : (zI (zsI (zsI (zsI (zsI (zsI (zsI M 336 6 (0 : Int32)) 336 7 (-1 : Int32)) 336 11 (0 : Int32)) 336 12 (0 : Int32)) 336 13 (0 : Int32)) 336 14 (0 : Int32)) 336 13).toInt = 0 := (congrArg Int32.toInt ((zIoj (by decide)).trans zIs)).trans li0
    have w64 : (zI (zsI (zsI (zsI (zsI (zsI (zsI M 336 6 (0 : Int32)) 336 7 (-1 : Int32)) 336 11 (0 : Int32)) 336 12 (0 : Int32)) 336 13 (0 : Int32)) 336 14 (0 : Int32)) 336 14).toInt = 0 := (congrArg Int32.toInt zIs).trans li0
    have w66 := li0
    have w65 : zXm (zsI (zsI (zsI (zsI (zsI (zsI M 336 6 (0 : Int32)) 336 7 (-1 : Int32)) 336 11 (0 : Int32)) 336 12 (0 : Int32)) 336 13 (0 : Int32)) 336 14 (0 : Int32)) 1 (zsy (zI M 339) (zI M 336 5).toInt) (zI M 336 5).toInt (true, [], 0, 0) := zXm.zero (by omega) (by omega) (by omega) (by omega)
    have w67 : (zI (zsI (zsI (zsI (zsI (zsI (zsI M 336 6 (0 : Int32)) 336 7 (-1 : Int32)) 336 11 (0 : Int32)) 336 12 (0 : Int32)) 336 13 (0 : Int32)) 336 14 (0 : Int32)) 336 13).toInt = 0 := (congrArg Int32.toInt ((zIoj (by decide)).trans zIs)).trans li0
    have w68 : (zI (zsI (zsI (zsI (zsI (zsI (zsI M 336 6 (0 : Int32)) 336 7 (-1 : Int32)) 336 11 (0 : Int32)) 336 12 (0 : Int32)) 336 13 (0 : Int32)) 336 14 (0 : Int32)) 336 6).toInt = 0 := (congrArg Int32.toInt ((zIoj (by decide)).trans ((zIoj (by decide)).trans ((zIoj (by decide)).trans ((zIoj (by decide)).trans ((zIoj (by decide)).trans zIs)))))).trans li0
    have w69 : (zI (zsI (zsI (zsI (zsI (zsI (zsI M 336 6 (0 : Int32)) 336 7 (-1 : Int32)) 336 11 (0 : Int32)) 336 12 (0 : Int32)) 336 13 (0 : Int32)) 336 14 (0 : Int32)) 336 5).toInt = (zI M 336 5).toInt := (congrArg Int32.toInt ((zIoj (by decide)).trans ((zIoj (by decide)).trans ((zIoj (by decide)).trans ((zIoj (by decide)).trans ((zIoj (by decide)).trans ((zIoj (by decide)).trans rfl))))))).trans rfl
    have w70 : (zI (zsI (zsI (zsI (zsI (zsI (zsI M 336 6 (0 : Int32)) 336 7 (-1 : Int32)) 336 11 (0 : Int32)) 336 12 (0 : Int32)) 336 13 (0 : Int32)) 336 14 (0 : Int32)) 336 14).toInt = 0 := (congrArg Int32.toInt zIs).trans li0
    have w71 : (zI (zsI (zsI (zsI (zsI (zsI (zsI M 336 6 (0 : Int32)) 336 7 (-1 : Int32)) 336 11 (0 : Int32)) 336 12 (0 : Int32)) 336 13 (0 : Int32)) 336 14 (0 : Int32)) 336 12).toInt = 0 := (congrArg Int32.toInt ((zIoj (by decide)).trans ((zIoj (by decide)).trans zIs))).trans li0
    have w72 : (zI (zsI (zsI (zsI (zsI (zsI (zsI M 336 6 (0 : Int32)) 336 7 (-1 : Int32)) 336 11 (0 : Int32)) 336 12 (0 : Int32)) 336 13 (0 : Int32)) 336 14 (0 : Int32)) 336 7).toInt = (-1) := (congrArg Int32.toInt ((zIoj (by decide)).trans ((zIoj (by decide)).trans ((zIoj (by decide)).trans ((zIoj (by decide)).trans zIs))))).trans lin1
    have w73 : (zI (zsI (zsI (zsI (zsI (zsI (zsI M 336 6 (0 : Int32)) 336 7 (-1 : Int32)) 336 11 (0 : Int32)) 336 12 (0 : Int32)) 336 13 (0 : Int32)) 336 14 (0 : Int32)) 336 11).toInt = 0 := (congrArg Int32.toInt ((zIoj (by decide)).trans ((zIoj (by decide)).trans ((zIoj (by decide)).trans zIs)))).trans li0
    have w74 := zGn.le w12
    have w75 : (zI (zsI (zsI (zsI (zsI (zsI (zsI M 336 6 (0 : Int32)) 336 7 (-1 : Int32)) 336 11 (0 : Int32)) 336 12 (0 : Int32)) 336 13 (0 : Int32)) 336 14 (0 : Int32)) 336 12).toInt = 0 := (congrArg Int32.toInt ((zIoj (by decide)).trans ((zIoj (by decide)).trans zIs))).trans li0
    have w76 : (zI (zsI (zsI (zsI (zsI (zsI (zsI M 336 6 (0 : Int32)) 336 7 (-1 : Int32)) 336 11 (0 : Int32)) 336 12 (0 : Int32)) 336 13 (0 : Int32)) 336 14 (0 : Int32)) 336 14).toInt = 0 := (congrArg Int32.toInt zIs).trans li0
    have w77 : (zI (zsI (zsI (zsI (zsI (zsI (zsI M 336 6 (0 : Int32)) 336 7 (-1 : Int32)) 336 11 (0 : Int32)) 336 12 (0 : Int32)) 336 13 (0 : Int32)) 336 14 (0 : Int32)) 336 12).toInt = 0 := (congrArg Int32.toInt ((zIoj (by decide)).trans ((zIoj (by decide)).trans zIs))).trans li0
    have w78 : (zI (zsI (zsI (zsI (zsI (zsI (zsI M 336 6 (0 : Int32)) 336 7 (-1 : Int32)) 336 11 (0 : Int32)) 336 12 (0 : Int32)) 336 13 (0 : Int32)) 336 14 (0 : Int32)) 336 14).toInt = 0 := (congrArg Int32.toInt zIs).trans li0
    refine zs_invV (pc := 32) (k := 336) (as' := []) (st := []) t254_32 mf255 rfl rfl (Or.inl ⟨by decide, (zk1 (hs.k fk_zMm_336))⟩) ⟨by decide, by decide, Nat.le_of_ble_eq_true rfl, Nat.le_of_ble_eq_true rfl⟩ (E255 hs w9 w12 (zGh.cast (zGh.fr (M' := (zsI (zsI (zsI (zsI (zsI (zsI M 336 6 (0 : Int32)) 336 7 (-1 : Int32)) 336 11 (0 : Int32)) 336 12 (0 : Int32)) 336 13 (0 : Int32)) 336 14 (0 : Int32))) (zGh.fr (M' := (zsI (zsI (zsI (zsI (zsI M 336 6 (0 : Int32)) 336 7 (-1 : Int32)) 336 11 (0 : Int32)) 336 12 (0 : Int32)) 336 13 (0 : Int32))) (zGh.fr (M' := (zsI (zsI (zsI (zsI M 336 6 (0 : Int32)) 336 7 (-1 : Int32)) 336 11 (0 : Int32)) 336 12 (0 : Int32))) w6 (zEq.put rfl)) (zEq.put rfl)) (zEq.put rfl)) (by omega)) (zXm.cast w65 (by omega)) (by omega) (by omega) (by omega) (by omega) (zTm.mk (show zTm M (zsy (zI M 339) (zI M 336 5).toInt) (zI M 336 5).toInt from ⟨rfl, rfl⟩) (fun j => ((zIo (by decide)).trans ((zIo (by decide)).trans ((zIo (by decide)).trans ((zIo (by decide)).trans ((zIo (by decide)).trans (zIo (by decide)))))))) ((zIoj (by decide)).trans ((zIoj (by decide)).trans ((zIoj (by decide)).trans ((zIoj (by decide)).trans ((zIoj (by decide)).trans (zIoj (by decide)))))))) ?_) (fun _ _ q => q)
    intro w79M w79v w79s w79I w79F w79J w79x0 w79x1 w79a w79b
    show zGo X l 7 0 0 254 35 [(0, .ref 336)] [.int w79v] w79M _
    by_cases w80 : w79v.toInt = 0
    have w81 := ib336_13 w79I
    have w82 : (zI w79M 336 13).toInt = (zI w79M 336 13).toInt := (congrArg Int32.toInt rfl).trans rfl
    · skip
      refine zs_if_eqT (pc := 35) t254_35 rfl (by omega) ?_
      refine zs_iconst (pc := 42) t254_42 (v := 0) (by decide) ?_
      refine zs_istore_n (pc := 43) t254_43 (ls' := [(1, .int (0 : Int32)), (0, .ref 336)]) (zml mf254 (by decide)) rfl ?_
      refine zs_aload_n (pc := 44) t254_44 rfl ?_
      refine zs_iconst (pc := 45) t254_45 (v := 0) (by decide) ?_
      have w83 : zIv mLo mHi (zsI w79M 336 5 (0 : Int32)) := zIv.put w79I (show 0 ≤ (0 : Int32).toInt ∧ (0 : Int32).toInt ≤ 500 from ⟨by decide, by decide⟩)
      refine zs_putI (pc := 46) t254_46 (zk1 (w79s.k fk_zMm_336)) rfl ?_
      refine zs_iload_n (pc := 49) t254_49 rfl ?_
      refine zs_if_neF (pc := 50) t254_50 li0 (by decide) ?_
      refine zs_iconst (pc := 53) t254_53 (v := -1) (by decide) ?_
      have w84 : (zI (zsI w79M 336 5 (0 : Int32)) 336 5).toInt = 0 := (congrArg Int32.toInt zIs).trans li0
      have w85 := ib336_3 hI
      have w86 : (zI (zsI w79M 336 5 (0 : Int32)) 336 3).toInt = (zI M 336 3).toInt := (congrArg Int32.toInt ((zIoj (by decide)).trans ((w79F 336 3 rfl).trans ((zIoj (by decide)).trans ((zIoj (by decide)).trans ((zIoj (by decide)).trans ((zIoj (by decide)).trans ((zIoj (by decide)).trans ((zIoj (by decide)).trans rfl))))))))).trans rfl
      have w87 := lin1
      have w88 : (-1 : Int32).toInt = (-1) := lin1
      have w89 := ib336_7 w79I
      have w90 : (zI (zsI w79M 336 5 (0 : Int32)) 336 7).toInt = (zI w79M 336 7).toInt := (congrArg Int32.toInt ((zIoj (by decide)).trans rfl)).trans rfl
      exact zs_iret (pc := 54) t254_54 mr254 (by decide) (hQ _ _ w79s w83 (((((((((zFr.refl).put rfl).put rfl).put rfl).put rfl).put rfl).put rfl).trans (w79F.mono rfl)).put rfl) w79J (zPR.fr (M' := (zsI w79M 336 5 (0 : Int32))) (zPR.fr (zPR.fr (M' := (zsI (zsI (zsI (zsI (zsI (zsI M 336 6 (0 : Int32)) 336 7 (-1 : Int32)) 336 11 (0 : Int32)) 336 12 (0 : Int32)) 336 13 (0 : Int32)) 336 14 (0 : Int32))) (zPR.fr (M' := (zsI (zsI (zsI (zsI (zsI M 336 6 (0 : Int32)) 336 7 (-1 : Int32)) 336 11 (0 : Int32)) 336 12 (0 : Int32)) 336 13 (0 : Int32))) (zPR.fr (M' := (zsI (zsI (zsI (zsI M 336 6 (0 : Int32)) 336 7 (-1 : Int32)) 336 11 (0 : Int32)) 336 12 (0 : Int32))) (zPR.fr (M' := (zsI (zsI (zsI M 336 6 (0 : Int32)) 336 7 (-1 : Int32)) 336 11 (0 : Int32))) (zPR.fr (M' := (zsI (zsI M 336 6 (0 : Int32)) 336 7 (-1 : Int32))) (zPR.fr (M' := (zsI M 336 6 (0 : Int32))) pR (zEq.put rfl)) (zEq.put rfl)) (zEq.put rfl)) (zEq.put rfl)) (zEq.put rfl)) (zEq.put rfl)) (w79F.eq rfl)) (zEq.put rfl)) (zPC.fr (M' := (zsI w79M 336 5 (0 : Int32))) (zPC.fr (zPC.fr (M' := (zsI (zsI (zsI (zsI (zsI (zsI M 336 6 (0 : Int32)) 336 7 (-1 : Int32)) 336 11 (0 : Int32)) 336 12 (0 : Int32)) 336 13 (0 : Int32)) 336 14 (0 : Int32))) (zPC.fr (M' := (zsI (zsI (zsI (zsI (zsI M 336 6 (0 : Int32)) 336 7 (-1 : Int32)) 336 11 (0 : Int32)) 336 12 (0 : Int32)) 336 13 (0 : Int32))) (zPC.fr (M' := (zsI (zsI (zsI (zsI M 336 6 (0 : Int32)) 336 7 (-1 : Int32)) 336 11 (0 : Int32)) 336 12 (0 : Int32))) (zPC.fr (M' := (zsI (zsI (zsI M 336 6 (0 : Int32)) 336 7 (-1 : Int32)) 336 11 (0 : Int32))) (zPC.fr (M' := (zsI (zsI M 336 6 (0 : Int32)) 336 7 (-1 : Int32))) (zPC.fr (M' := (zsI M 336 6 (0 : Int32))) pC (zEq.put rfl)) (zEq.put rfl)) (zEq.put rfl)) (zEq.put rfl)) (zEq.put rfl)) (zEq.put rfl)) (w79F.eq rfl)) (zEq.put rfl)) (zPF.fr (M' := (zsI w79M 336 5 (0 : Int32))) (zPF.fr (zPF.fr (M' := (zsI (zsI (zsI (zsI (zsI (zsI M 336 6 (0 : Int32)) 336 7 (-1 : Int32)) 336 11 (0 : Int32)) 336 12 (0 : Int32)) 336 13 (0 : Int32)) 336 14 (0 : Int32))) (zPF.fr (M' := (zsI (zsI (zsI (zsI (zsI M 336 6 (0 : Int32)) 336 7 (-1 : Int32)) 336 11 (0 : Int32)) 336 12 (0 : Int32)) 336 13 (0 : Int32))) (zPF.fr (M' := (zsI (zsI (zsI (zsI M 336 6 (0 : Int32)) 336 7 (-1 : Int32)) 336 11 (0 : Int32)) 336 12 (0 : Int32))) (zPF.fr (M' := (zsI (zsI (zsI M 336 6 (0 : Int32)) 336 7 (-1 : Int32)) 336 11 (0 : Int32))) (zPF.fr (M' := (zsI (zsI M 336 6 (0 : Int32)) 336 7 (-1 : Int32))) (zPF.fr (M' := (zsI M 336 6 (0 : Int32))) pF (zEq.put rfl) rfl) (zEq.put rfl) rfl) (zEq.put rfl) rfl) (zEq.put rfl) rfl) (zEq.put rfl) rfl) (zEq.put rfl) rfl) (w79F.eq rfl) w79J) (zEq.put rfl) rfl) (by omega) (by omega) (by first | exact zTg5.my w79x1 (by omega) w80 (by omega) (by omega) | exact zTg5.mn w79x1 (by omega) w80 (by omega) (by omega)) (Or.inl ⟨by decide, (zRw.fr' x0 (fun j hj => ((zIo (by decide)).trans ((w79F 337 j rfl).trans ((zIo (by decide)).trans ((zIo (by decide)).trans ((zIo (by decide)).trans ((zIo (by decide)).trans ((zIo (by decide)).trans (zIo (by decide))))))))))), (zHM.fr x1 (fun j hj => ((zIo (by decide)).trans ((w79F 337 j rfl).trans ((zIo (by decide)).trans ((zIo (by decide)).trans ((zIo (by decide)).trans ((zIo (by decide)).trans ((zIo (by decide)).trans (zIo (by decide)))))))))) ((zIoj (by decide)).trans ((w79F 336 1 rfl).trans ((zIoj (by decide)).trans ((zIoj (by decide)).trans ((zIoj (by decide)).trans ((zIoj (by decide)).trans ((zIoj (by decide)).trans (zIoj (by decide)))))))))), (zKM.fr x2 (fun j hj => ((zIo (by decide)).trans ((w79F 337 j rfl).trans ((zIo (by decide)).trans ((zIo (by decide)).trans ((zIo (by decide)).trans ((zIo (by decide)).trans ((zIo (by decide)).trans (zIo (by decide)))))))))) (fun k => ((zIo (by decide)).trans ((w79F 338 k rfl).trans ((zIo (by decide)).trans ((zIo (by decide)).trans ((zIo (by decide)).trans ((zIo (by decide)).trans ((zIo (by decide)).trans (zIo (by decide)))))))))))⟩))
    · skip
      have w807 := (w79x1.resolve_left (fun q => w80 q.1)).2.1
      have w80H := w79x0.resolve_left w80
      refine zs_if_eqF (pc := 35) t254_35 rfl (by omega) ?_
      refine zs_iconst (pc := 38) t254_38 (v := 1) (by decide) ?_
      refine zs_goto (pc := 39) t254_39 ?_
      refine zs_istore_n (pc := 43) t254_43 (ls' := [(1, .int (1 : Int32)), (0, .ref 336)]) (zml mf254 (by decide)) rfl ?_
      refine zs_aload_n (pc := 44) t254_44 rfl ?_
      refine zs_iconst (pc := 45) t254_45 (v := 0) (by decide) ?_
      have w91 : zIv mLo mHi (zsI w79M 336 5 (0 : Int32)) := zIv.put w79I (show 0 ≤ (0 : Int32).toInt ∧ (0 : Int32).toInt ≤ 500 from ⟨by decide, by decide⟩)
      refine zs_putI (pc := 46) t254_46 (zk1 (w79s.k fk_zMm_336)) rfl ?_
      refine zs_iload_n (pc := 49) t254_49 rfl ?_
      refine zs_if_neT (pc := 50) t254_50 li1 (by decide) ?_
      refine zs_aload_n (pc := 55) t254_55 rfl ?_
      refine zs_iconst (pc := 56) t254_56 (v := 0) (by decide) ?_
      have w92 := ibA1 hI
      have w93 : (zI (zsI w79M 336 5 (0 : Int32)) 337 1).toInt = (zI M 337 1).toInt := (congrArg Int32.toInt ((zIo (by decide)).trans ((w79F 337 1 rfl).trans ((zIo (by decide)).trans ((zIo (by decide)).trans ((zIo (by decide)).trans ((zIo (by decide)).trans ((zIo (by decide)).trans ((zIo (by decide)).trans rfl))))))))).trans rfl
      have w94 := ibA2 hI
      have w95 : (zI (zsI w79M 336 5 (0 : Int32)) 337 2).toInt = (zI M 337 2).toInt := (congrArg Int32.toInt ((zIo (by decide)).trans ((w79F 337 2 rfl).trans ((zIo (by decide)).trans ((zIo (by decide)).trans ((zIo (by decide)).trans ((zIo (by decide)).trans ((zIo (by decide)).trans ((zIo (by decide)).trans rfl))))))))).trans rfl
      have w96 := ibA0 hI
      have w97 : (zI (zsI w79M 336 5 (0 : Int32)) 337 0).toInt = (zI M 337 0).toInt := (congrArg Int32.toInt ((zIo (by decide)).trans ((w79F 337 0 rfl).trans ((zIo (by decide)).trans ((zIo (by decide)).trans ((zIo (by decide)).trans ((zIo (by decide)).trans ((zIo (by decide)).trans ((zIo (by decide)).trans rfl))))))))).trans rfl
      refine zs_invV (pc := 57) (k := 336) (as' := [.int (0 : Int32)]) (st := []) t254_57 mf230 rfl rfl (Or.inl ⟨by decide, (zk1 (w79s.k fk_zMm_336))⟩) ⟨by decide, by decide, Nat.le_of_ble_eq_true rfl, Nat.le_of_ble_eq_true rfl⟩ (R230_0 w79s w91 (zPR.fr (M' := (zsI w79M 336 5 (0 : Int32))) (zPR.fr (zPR.fr (M' := (zsI (zsI (zsI (zsI (zsI (zsI M 336 6 (0 : Int32)) 336 7 (-1 : Int32)) 336 11 (0 : Int32)) 336 12 (0 : Int32)) 336 13 (0 : Int32)) 336 14 (0 : Int32))) (zPR.fr (M' := (zsI (zsI (zsI (zsI (zsI M 336 6 (0 : Int32)) 336 7 (-1 : Int32)) 336 11 (0 : Int32)) 336 12 (0 : Int32)) 336 13 (0 : Int32))) (zPR.fr (M' := (zsI (zsI (zsI (zsI M 336 6 (0 : Int32)) 336 7 (-1 : Int32)) 336 11 (0 : Int32)) 336 12 (0 : Int32))) (zPR.fr (M' := (zsI (zsI (zsI M 336 6 (0 : Int32)) 336 7 (-1 : Int32)) 336 11 (0 : Int32))) (zPR.fr (M' := (zsI (zsI M 336 6 (0 : Int32)) 336 7 (-1 : Int32))) (zPR.fr (M' := (zsI M 336 6 (0 : Int32))) pR (zEq.put rfl)) (zEq.put rfl)) (zEq.put rfl)) (zEq.put rfl)) (zEq.put rfl)) (zEq.put rfl)) (w79F.eq rfl)) (zEq.put rfl)) (zPC.fr (M' := (zsI w79M 336 5 (0 : Int32))) (zPC.fr (zPC.fr (M' := (zsI (zsI (zsI (zsI (zsI (zsI M 336 6 (0 : Int32)) 336 7 (-1 : Int32)) 336 11 (0 : Int32)) 336 12 (0 : Int32)) 336 13 (0 : Int32)) 336 14 (0 : Int32))) (zPC.fr (M' := (zsI (zsI (zsI (zsI (zsI M 336 6 (0 : Int32)) 336 7 (-1 : Int32)) 336 11 (0 : Int32)) 336 12 (0 : Int32)) 336 13 (0 : Int32))) (zPC.fr (M' := (zsI (zsI (zsI (zsI M 336 6 (0 : Int32)) 336 7 (-1 : Int32)) 336 11 (0 : Int32)) 336 12 (0 : Int32))) (zPC.fr (M' := (zsI (zsI (zsI M 336 6 (0 : Int32)) 336 7 (-1 : Int32)) 336 11 (0 : Int32))) (zPC.fr (M' := (zsI (zsI M 336 6 (0 : Int32)) 336 7 (-1 : Int32))) (zPC.fr (M' := (zsI M 336 6 (0 : Int32))) pC (zEq.put rfl)) (zEq.put rfl)) (zEq.put rfl)) (zEq.put rfl)) (zEq.put rfl)) (zEq.put rfl)) (w79F.eq rfl)) (zEq.put rfl)) (zRw.fr' x0 (fun j hj => ((zIo (by decide)).trans ((w79F 337 j rfl).trans ((zIo (by decide)).trans ((zIo (by decide)).trans ((zIo (by decide)).trans ((zIo (by decide)).trans ((zIo (by decide)).trans (zIo (by decide))))))))))) (zHM.fr x1 (fun j hj => ((zIo (by decide)).trans ((w79F 337 j rfl).trans ((zIo (by decide)).trans ((zIo (by decide)).trans ((zIo (by decide)).trans ((zIo (by decide)).trans ((zIo (by decide)).trans (zIo (by decide)))))))))) ((zIoj (by decide)).trans ((w79F 336 1 rfl).trans ((zIoj (by decide)).trans ((zIoj (by decide)).trans ((zIoj (by decide)).trans ((zIoj (by decide)).trans ((zIoj (by decide)).trans (zIoj (by decide)))))))))) ?_) (fun _ _ q => q)
      intro w98M w98s w98I w98F w98J w98PR w98PC w98PF w98t0 w98t1 w98t2 w98t3 w98x0 w98x1
      have w99 := ibA1 w98I
      have w100 := ib336_3 w98I
      have w101 := ibA2 w98I
      have w102 := ibA0 w98I
      have w98r0 := w98x1 0 (by decide) _ (zRw.fr' x0 (fun j hj => ((zIo (by decide)).trans ((w79F 337 j rfl).trans ((zIo (by decide)).trans ((zIo (by decide)).trans ((zIo (by decide)).trans ((zIo (by decide)).trans ((zIo (by decide)).trans (zIo (by decide)))))))))))
      show zGo X l 7 0 0 254 60 [(1, .int (1 : Int32)), (0, .ref 336)] [] w98M _
      refine zs_aload_n (pc := 60) t254_60 rfl ?_
      refine zs_get (pc := 61) t254_61 (by decide) (zk1 (w98s.k fk_zMm_336)) (w98s.p rfl fv_zMm_336_0) ?_
      refine zs_iconst (pc := 64) t254_64 (v := 3) (by decide) ?_
      refine zs_aload_n (pc := 65) t254_65 rfl ?_
      refine zs_get (pc := 66) t254_66 (by decide) (zk1 (w98s.k fk_zMm_336)) (zfvi rfl ((w98F 336 13 rfl).trans ((zIoj (by decide)).trans rfl))) ?_
      have w103 : zIv mLo mHi (zsI w98M 337 3 (zI w79M 336 13)) := zIv.putA w98I (by decide) (show (-2147483648) ≤ (zI w79M 336 13).toInt ∧ (zI w79M 336 13).toInt ≤ 2147483647 from zrg (zI w79M 336 13))
      have w104 : (zI w98M 337 0).toInt = (zI w98M 337 0).toInt := (congrArg Int32.toInt rfl).trans rfl
      have w105 : (zI w98M 337 1).toInt = (zI w98M 337 1).toInt := (congrArg Int32.toInt rfl).trans rfl
      have w106 : zPR (zsI w98M 337 3 (zI w79M 336 13)) := zPR.put w98PR (by omega) (by omega) (by omega) (by omega)
      have w107 : zPC (zsI w98M 337 3 (zI w79M 336 13)) := zPC.put w98PC (by decide) (by decide)
      have w108 : zRw (zsI w98M 337 3 (zI w79M 336 13)) 0 F := zRw.put3 w98r0 (by decide)
      refine zs_iast (pc := 69) t254_69 (j := 3) (by decide) (zk1 (w98s.k fk_zMm_337)) li3 (zk2 (w98s.k fk_zMm_337) (by decide)) ?_
      refine zs_aload_n (pc := 70) t254_70 rfl ?_
      refine zs_get (pc := 71) t254_71 (by decide) (zk1 (w98s.k fk_zMm_336)) (w98s.p rfl fv_zMm_336_0) ?_
      refine zs_iconst (pc := 74) t254_74 (v := 4) (by decide) ?_
      refine zs_aload_n (pc := 75) t254_75 rfl ?_
      have w109 := ib336_11 w79I
      refine zs_get (pc := 76) t254_76 (by decide) (zk1 (w98s.k fk_zMm_336)) (zfvi rfl ((zIo (by decide)).trans ((w98F 336 11 rfl).trans ((zIoj (by decide)).trans rfl)))) ?_
      have w110 : zIv mLo mHi (zsI (zsI w98M 337 3 (zI w79M 336 13)) 337 4 (zI w79M 336 11)) := zIv.putA w103 (by decide) (show 0 ≤ (zI w79M 336 11).toInt ∧ (zI w79M 336 11).toInt ≤ 200 from ⟨by omega, by omega⟩)
      have w111 : (zI (zsI w98M 337 3 (zI w79M 336 13)) 337 0).toInt = (zI w98M 337 0).toInt := (congrArg Int32.toInt ((zIoj (by decide)).trans rfl)).trans rfl
      have w112 : (zI (zsI w98M 337 3 (zI w79M 336 13)) 337 1).toInt = (zI w98M 337 1).toInt := (congrArg Int32.toInt ((zIoj (by decide)).trans rfl)).trans rfl
      have w113 : zPR (zsI (zsI w98M 337 3 (zI w79M 336 13)) 337 4 (zI w79M 336 11)) := zPR.put w106 (by omega) (by omega) (by omega) (by omega)
      have w114 : zRw (zsI (zsI w98M 337 3 (zI w79M 336 13)) 337 4 (zI w79M 336 11)) 0 F := zRw.put3 w108 (by decide)
      refine zs_iast (pc := 79) t254_79 (j := 4) (by decide) (zk1 (w98s.k fk_zMm_337)) li4 (zk2 (w98s.k fk_zMm_337) (by decide)) ?_
      refine zs_iconst (pc := 80) t254_80 (v := 0) (by decide) ?_
      refine zs_istore_n (pc := 81) t254_81 (ls' := [(2, .int (0 : Int32)), (1, .int (1 : Int32)), (0, .ref 336)]) (zml mf254 (by decide)) rfl ?_
      have w115 : zCd (zI (zsI (zsI w98M 337 3 (zI w79M 336 13)) 337 4 (zI w79M 336 11)) 340) (zI (zsI (zsI w98M 337 3 (zI w79M 336 13)) 337 4 (zI w79M 336 11)) 336 11).toInt := by
        rw [show zI (zsI (zsI w98M 337 3 (zI w79M 336 13)) 337 4 (zI w79M 336 11)) 336 11 = zI w79M 336 11 from ((zIo (by decide)).trans ((zIo (by decide)).trans ((w98F 336 11 rfl).trans (zIoj (by decide)))))]
        exact zCd.cg (w80H) (fun i _ => ((zIo (by decide)).trans ((zIo (by decide)).trans ((w98F 340 i rfl).trans (zIo (by decide))))))
      have w116 : (zI (zsI (zsI w98M 337 3 (zI w79M 336 13)) 337 4 (zI w79M 336 11)) 336 11).toInt = (zI w79M 336 11).toInt := (congrArg Int32.toInt ((zIo (by decide)).trans ((zIo (by decide)).trans ((w98F 336 11 rfl).trans ((zIoj (by decide)).trans rfl))))).trans rfl
      have w117L : ∀ (m : Nat) (w117x2 : Int32) (w117M : zM), (0 ≤ w117x2.toInt ∧ w117x2.toInt ≤ 200) → zSk zMm w117M → zIv mLo mHi w117M → zFr [(337, 337, none)] (zsI (zsI w98M 337 3 (zI w79M 336 13)) 337 4 (zI w79M 336 11)) w117M → zJ w117M 351 = zJ (zsI (zsI w98M 337 3 (zI w79M 336 13)) 337 4 (zI w79M 336 11)) 351 → zPR w117M → ((zI w117M 337 4).toInt = (zI (zsI (zsI w98M 337 3 (zI w79M 336 13)) 337 4 (zI w79M 336 11)) 337 4).toInt) → (w117x2.toInt ≤ (zI (zsI (zsI w98M 337 3 (zI w79M 336 13)) 337 4 (zI w79M 336 11)) 336 11).toInt) → ((zI w117M 336 5).toInt = (zI (zsI (zsI w98M 337 3 (zI w79M 336 13)) 337 4 (zI w79M 336 11)) 336 5).toInt) → ((zI w117M 336 13).toInt = (zI (zsI (zsI w98M 337 3 (zI w79M 336 13)) 337 4 (zI w79M 336 11)) 336 13).toInt) → ((zI w117M 336 7).toInt = (zI (zsI (zsI w98M 337 3 (zI w79M 336 13)) 337 4 (zI w79M 336 11)) 336 7).toInt) → (∀ i : Nat, (i : Int) < w117x2.toInt → zI w117M 337 (306 + i) = zI (zsI (zsI w98M 337 3 (zI w79M 336 13)) 337 4 (zI w79M 336 11)) 340 i) → (∀ j : Nat, j < 306 ∨ 506 ≤ j → zI w117M 337 j = zI (zsI (zsI w98M 337 3 (zI w79M 336 13)) 337 4 (zI w79M 336 11)) 337 j) → 200 - w117x2.toInt ≤ (m : Int) → zGo X l 7 0 0 254 82 [(0, .ref 336), (1, .int (1 : Int32)), (2, .int w117x2)] [] w117M Q := by
        intro m
        induction m using Nat.strongRecOn with
        | ind w117m w117ih =>
          intro w117x2 w117M w117b2 w117s w117I w117F w117J w117PR w117r0 w117r1 w117r2 w117r3 w117r4 w117t0 w117t1 w117q
          have w118 := ibA4 w117I
          have w119 : (zI (zsI (zsI w98M 337 3 (zI w79M 336 13)) 337 4 (zI w79M 336 11)) 337 4).toInt = (zI w79M 336 11).toInt := (congrArg Int32.toInt zIs).trans rfl
          have w120 : (zI (zsI (zsI w98M 337 3 (zI w79M 336 13)) 337 4 (zI w79M 336 11)) 336 11).toInt = (zI w79M 336 11).toInt := (congrArg Int32.toInt ((zIo (by decide)).trans ((zIo (by decide)).trans ((w98F 336 11 rfl).trans ((zIoj (by decide)).trans rfl))))).trans rfl
          have w121 : (zI (zsI (zsI w98M 337 3 (zI w79M 336 13)) 337 4 (zI w79M 336 11)) 336 5).toInt = 0 := (congrArg Int32.toInt ((zIo (by decide)).trans ((zIo (by decide)).trans ((w98F 336 5 rfl).trans zIs)))).trans li0
          have w122 : (zI (zsI (zsI w98M 337 3 (zI w79M 336 13)) 337 4 (zI w79M 336 11)) 336 13).toInt = (zI w79M 336 13).toInt := (congrArg Int32.toInt ((zIo (by decide)).trans ((zIo (by decide)).trans ((w98F 336 13 rfl).trans ((zIoj (by decide)).trans rfl))))).trans rfl
          have w123 := ib336_7 w79I
          have w124 : (zI (zsI (zsI w98M 337 3 (zI w79M 336 13)) 337 4 (zI w79M 336 11)) 336 7).toInt = (zI w79M 336 7).toInt := (congrArg Int32.toInt ((zIo (by decide)).trans ((zIo (by decide)).trans ((w98F 336 7 rfl).trans ((zIoj (by decide)).trans rfl))))).trans rfl
          refine zs_iload_n (pc := 82) t254_82 rfl ?_
          refine zs_aload_n (pc := 83) t254_83 rfl ?_
          refine zs_get (pc := 84) t254_84 (by decide) (zk1 (w117s.k fk_zMm_336)) (zfvi rfl ((w117F 336 11 rfl).trans ((zIo (by decide)).trans ((zIo (by decide)).trans ((w98F 336 11 rfl).trans ((zIoj (by decide)).trans rfl)))))) ?_
          by_cases w125 : (zI w79M 336 11).toInt ≤ w117x2.toInt
          · refine zs_icmp_geT (pc := 87) t254_87 rfl rfl (by omega) ?_
            refine zs_aload_n (pc := 112) t254_112 rfl ?_
            refine zs_get (pc := 113) t254_113 (by decide) (zk1 (w117s.k fk_zMm_336)) (zfvi rfl ((w117F 336 13 rfl).trans ((zIo (by decide)).trans ((zIo (by decide)).trans ((w98F 336 13 rfl).trans ((zIoj (by decide)).trans rfl)))))) ?_
            have w126 : (zI w117M 337 4).toInt = (zI w117M 337 4).toInt := (congrArg Int32.toInt rfl).trans rfl
            have w127 : (zI w117M 336 11).toInt = (zI w79M 336 11).toInt := (congrArg Int32.toInt ((w117F 336 11 rfl).trans ((zIo (by decide)).trans ((zIo (by decide)).trans ((w98F 336 11 rfl).trans ((zIoj (by decide)).trans rfl)))))).trans rfl
            have w128 : zPC w117M := zPC.of w117t0 (by omega) (by rw [show w117x2.toInt = (zI (zsI (zsI w98M 337 3 (zI w79M 336 13)) 337 4 (zI w79M 336 11)) 336 11).toInt by omega]; exact w115)
            have w129 : (zI w117M 336 5).toInt = 0 := (congrArg Int32.toInt ((w117F 336 5 rfl).trans ((zIo (by decide)).trans ((zIo (by decide)).trans ((w98F 336 5 rfl).trans zIs))))).trans li0
            have w130 : (zI w117M 336 3).toInt = (zI w98M 336 3).toInt := (congrArg Int32.toInt ((w117F 336 3 rfl).trans ((zIo (by decide)).trans ((zIo (by decide)).trans rfl)))).trans rfl
            have w131 : (zI w117M 336 7).toInt = (zI w79M 336 7).toInt := (congrArg Int32.toInt ((w117F 336 7 rfl).trans ((zIo (by decide)).trans ((zIo (by decide)).trans ((w98F 336 7 rfl).trans ((zIoj (by decide)).trans rfl)))))).trans rfl
            have w132 := ib336_13 w79I
            exact zs_iret (pc := 116) t254_116 mr254 rfl (hQ _ _ w117s w117I (((((((((((((zFr.refl).put rfl).put rfl).put rfl).put rfl).put rfl).put rfl).trans (w79F.mono rfl)).put rfl).trans (w98F.mono rfl)).put rfl).put rfl).trans (w117F.mono rfl)) (w117J.trans (w98J.trans w79J)) w117PR w128 (zPF.fr (zPF.fr (M' := (zsI (zsI w98M 337 3 (zI w79M 336 13)) 337 4 (zI w79M 336 11))) (zPF.fr (M' := (zsI w98M 337 3 (zI w79M 336 13))) w98PF (zEq.put rfl) rfl) (zEq.put rfl) rfl) (w117F.eq rfl) w117J) (by omega) (by omega) (by first | exact zTg5.my w79x1 (by omega) w80 (by omega) (by omega) | exact zTg5.mn w79x1 (by omega) w80 (by omega) (by omega)) (Or.inr ⟨by omega, (zRw.fr' w114 (fun j hj => w117t1 j (Or.inl (by omega)))), (zHM.fr (zHM.fr w98x0 (fun j hj => ((zIoj (by omega)).trans (zIoj (by omega)))) ((zIo (by decide)).trans (zIo (by decide)))) (fun j hj => w117t1 j (Or.inr hj)) (w117F 336 1 rfl)), (zKM.fr (zKM.fr (zKM.rows (zKM.fr x2 (fun j hj => ((zIo (by decide)).trans ((w79F 337 j rfl).trans ((zIo (by decide)).trans ((zIo (by decide)).trans ((zIo (by decide)).trans ((zIo (by decide)).trans ((zIo (by decide)).trans (zIo (by decide)))))))))) (fun k => ((zIo (by decide)).trans ((w79F 338 k rfl).trans ((zIo (by decide)).trans ((zIo (by decide)).trans ((zIo (by decide)).trans ((zIo (by decide)).trans ((zIo (by decide)).trans (zIo (by decide))))))))))) (fun r h1 h2 G z => w98x1 r (Or.inl (by omega)) G z) (fun k => w98F 338 k rfl)) (fun j hj => ((zIoj (by omega)).trans (zIoj (by omega)))) (fun k => ((zIo (by decide)).trans (zIo (by decide))))) (fun j hj => w117t1 j (Or.inr hj)) (fun k => w117F 338 k rfl))⟩))
          · refine zs_icmp_geF (pc := 87) t254_87 rfl rfl (by omega) ?_
            refine zs_aload_n (pc := 90) t254_90 rfl ?_
            refine zs_get (pc := 91) t254_91 (by decide) (zk1 (w117s.k fk_zMm_336)) (w117s.p rfl fv_zMm_336_0) ?_
            refine zs_sipush (pc := 94) t254_94 (v := 306) (by decide) ?_
            refine zs_iload_n (pc := 97) t254_97 rfl ?_
            obtain ⟨w133v, w133e, w133⟩ := ziadd (a := (306 : Int32)) (b := w117x2) li306 rfl (by omega) (by omega)
            refine zs_iadd (pc := 98) t254_98 (c := w133v) w133e ?_
            refine zs_aload_n (pc := 99) t254_99 rfl ?_
            refine zs_get (pc := 100) t254_100 (by decide) (zk1 (w117s.k fk_zMm_336)) (w117s.p rfl fv_zMm_336_9) ?_
            refine zs_iload_n (pc := 103) t254_103 rfl ?_
            obtain ⟨w134n, w134⟩ : ∃ n : Nat, w117x2.toInt = (n : Int) := ⟨(w117x2.toInt).toNat, by omega⟩
            have w135 := zrg (zI w79M 340 w134n)
            refine zs_iald (pc := 104) t254_104 (j := w134n) (by decide) (zk1 (w117s.k fk_zMm_340)) (show w117x2.toInt = ((w134n : Nat) : Int) by omega) (zk2 (w117s.k fk_zMm_340) (by omega)) ((w117F 340 w134n rfl).trans ((zIo (by decide)).trans ((zIo (by decide)).trans ((w98F 340 w134n rfl).trans ((zIo (by decide)).trans rfl))))) ?_
            have w136a := aN (p := (306 + w134n)) (by omega)
            have w136 : zIv mLo mHi (zsI w117M 337 (306 + w134n) (zI w79M 340 w134n)) := zIv.putA w117I (by omega) (by rw [w136a.1, w136a.2]; exact zrg (zI w79M 340 w134n))
            have w137 := ibA0 w117I
            have w138 : (zI w117M 337 0).toInt = (zI w117M 337 0).toInt := (congrArg Int32.toInt rfl).trans rfl
            have w139 := ibA1 w117I
            have w140 : (zI w117M 337 1).toInt = (zI w117M 337 1).toInt := (congrArg Int32.toInt rfl).trans rfl
            have w141 : zPR (zsI w117M 337 (306 + w134n) (zI w79M 340 w134n)) := zPR.put w117PR (by omega) (by omega) (by omega) (by omega)
            refine zs_iast (pc := 105) t254_105 (j := (306 + w134n)) (by decide) (zk1 (w117s.k fk_zMm_337)) (show w133v.toInt = (((306 + w134n) : Nat) : Int) by omega) (zk2 (w117s.k fk_zMm_337) (by omega)) ?_
            obtain ⟨w142v, w142e, w142⟩ := ziadd (a := w117x2) (b := Int32.ofInt 1) rfl (show (Int32.ofInt 1).toInt = 1 by decide) (by omega) (by omega)
            refine zs_iinc (pc := 106) t254_106 (ls' := [(2, .int w142v), (0, .ref 336), (1, .int (1 : Int32))]) (zml mf254 (by decide)) rfl (c := w142v) w142e rfl ?_
            refine zs_goto (pc := 109) t254_109 ?_
            refine zGo.locals (ls' := [(0, .ref 336), (1, .int (1 : Int32)), (2, .int w142v)]) (by simp) ?_
            have w143 := w142
            have w144 : (zI (zsI w117M 337 (306 + w134n) (zI w79M 340 w134n)) 337 4).toInt = (zI w117M 337 4).toInt := (congrArg Int32.toInt ((zIoj (by omega)).trans rfl)).trans rfl
            have w145 : (zI (zsI w117M 337 (306 + w134n) (zI w79M 340 w134n)) 336 5).toInt = 0 := (congrArg Int32.toInt ((zIo (by decide)).trans ((w117F 336 5 rfl).trans ((zIo (by decide)).trans ((zIo (by decide)).trans ((w98F 336 5 rfl).trans zIs)))))).trans li0
            have w146 : (zI (zsI w117M 337 (306 + w134n) (zI w79M 340 w134n)) 336 13).toInt = (zI w79M 336 13).toInt := (congrArg Int32.toInt ((zIo (by decide)).trans ((w117F 336 13 rfl).trans ((zIo (by decide)).trans ((zIo (by decide)).trans ((w98F 336 13 rfl).trans ((zIoj (by decide)).trans rfl))))))).trans rfl
            have w147 : (zI (zsI w117M 337 (306 + w134n) (zI w79M 340 w134n)) 336 7).toInt = (zI w79M 336 7).toInt := (congrArg Int32.toInt ((zIo (by decide)).trans ((w117F 336 7 rfl).trans ((zIo (by decide)).trans ((zIo (by decide)).trans ((w98F 336 7 rfl).trans ((zIoj (by decide)).trans rfl))))))).trans rfl
            have w148 : ∀ i : Nat, (i : Int) < w142v.toInt → zI (zsI w117M 337 (306 + w134n) (zI w79M 340 w134n)) 337 (306 + i) = zI (zsI (zsI w98M 337 3 (zI w79M 336 13)) 337 4 (zI w79M 336 11)) 340 i := by
              intro i hi
              by_cases e : i = w134n
              · rw [e, zIs]
                exact (((zIo (by decide)).trans ((zIo (by decide)).trans ((w98F 340 w134n rfl).trans ((zIo (by decide)).trans rfl))))).symm
              · rw [zIoj (by omega)]
                exact w117t0 i (by omega)
            exact w117ih (w117m - 1) (by omega) w142v (zsI w117M 337 (306 + w134n) (zI w79M 340 w134n)) ⟨by omega, by omega⟩ w117s w136 (((zFr.refl).trans (w117F.mono rfl)).put rfl) w117J w141 (by omega) (by omega) (by omega) (by omega) (by omega) w148 (fun j hj => ((zIoj (by omega))).trans (w117t1 j hj)) (by omega)
      refine zGo.locals (ls' := [(0, .ref 336), (1, .int (1 : Int32)), (2, .int (0 : Int32))]) (by simp) ?_
      have w149 := li0
      have w150 : (zI (zsI (zsI w98M 337 3 (zI w79M 336 13)) 337 4 (zI w79M 336 11)) 337 4).toInt = (zI w79M 336 11).toInt := (congrArg Int32.toInt zIs).trans rfl
      have w151 : (zI (zsI (zsI w98M 337 3 (zI w79M 336 13)) 337 4 (zI w79M 336 11)) 336 5).toInt = 0 := (congrArg Int32.toInt ((zIo (by decide)).trans ((zIo (by decide)).trans ((w98F 336 5 rfl).trans zIs)))).trans li0
      have w152 : (zI (zsI (zsI w98M 337 3 (zI w79M 336 13)) 337 4 (zI w79M 336 11)) 336 13).toInt = (zI w79M 336 13).toInt := (congrArg Int32.toInt ((zIo (by decide)).trans ((zIo (by decide)).trans ((w98F 336 13 rfl).trans ((zIoj (by decide)).trans rfl))))).trans rfl
      have w153 : (zI (zsI (zsI w98M 337 3 (zI w79M 336 13)) 337 4 (zI w79M 336 11)) 336 7).toInt = (zI w79M 336 7).toInt := (congrArg Int32.toInt ((zIo (by decide)).trans ((zIo (by decide)).trans ((w98F 336 7 rfl).trans ((zIoj (by decide)).trans rfl))))).trans rfl
      exact w117L ((200 - 0 : Int).toNat) (0 : Int32) (zsI (zsI w98M 337 3 (zI w79M 336 13)) 337 4 (zI w79M 336 11)) ⟨by decide, by decide⟩ w98s w110 zFr.refl rfl w113 (by omega) (by omega) (by omega) (by omega) (by omega) (fun i hi => absurd hi (by omega)) (fun j hj => rfl) (by omega)
