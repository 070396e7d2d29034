theorem K268 {X : zX} {l : Launch} {M : zM} {Q : Option Value → zM → Prop} (hs : zSk zMm M) (hI : zIv mLo mHi M) (pR : zPR M) (pF : zPF M) (hQ : ∀ M', zSk zMm M' → zIv mLo mHi M' → zFr [(344, 344, none), (349, 349, none), (350, 350, none), (343, 343, none), (345, 345, none), (346, 346, none), (347, 347, none), (348, 348, none), (336, 336, some 22), (336, 336, some 18), (336, 336, some 19), (336, 336, some 20), (336, 336, some 21), (351, 354, none), (358, 358, none), (336, 336, some 37), (356, 356, none), (355, 355, none), (343, 343, none), (344, 344, none), (336, 336, some 39), (359, 359, none), (336, 336, some 3)] M M' → zPF M' → zPD M' → zPV M' → Q none M') : zCall X l 6 0 0 268 [.ref 336] M Q := by
  refine zs_in (by decide) mf268 (Nat.le_of_ble_eq_true rfl) ?_
  show zGo X l 6 0 0 268 0 [(0, .ref 336)] [] M _
  refine zs_aload_n (pc := 0) t268_0 rfl ?_
  have w1 := ib336_3 hI
  refine zs_get (pc := 1) t268_1 (by decide) (zk1 (hs.k fk_zMm_336)) (zfvi rfl rfl) ?_
  by_cases w2 : (zI M 336 3).toInt = 0
  · refine zs_if_eqT (pc := 4) t268_4 rfl (by omega) ?_
    refine zs_aload_n (pc := 8) t268_8 rfl ?_
    refine zs_aload_n (pc := 9) t268_9 rfl ?_
    refine zs_get (pc := 10) t268_10 (by decide) (zk1 (hs.k fk_zMm_336)) (hs.p rfl fv_zMm_336_0) ?_
    refine zs_bipush (pc := 13) t268_13 (v := 8) (by decide) ?_
    have w3 := ibA8 hI
    refine zs_iald (pc := 15) t268_15 (j := 8) (by decide) (zk1 (hs.k fk_zMm_337)) li8 (zk2 (hs.k fk_zMm_337) (by decide)) rfl ?_
    refine zs_iconst (pc := 16) t268_16 (v := -1) (by decide) ?_
    refine zs_invV (pc := 17) (k := 336) (as' := [.int (zI M 337 8), .int (-1 : Int32)]) (st := []) t268_17 mf269 rfl rfl (Or.inl ⟨by decide, (zk1 (hs.k fk_zMm_336))⟩) ⟨by decide, by decide, Nat.le_of_ble_eq_true rfl, Nat.le_of_ble_eq_true rfl⟩ (K269 hs hI pR ⟨by omega, by omega⟩ ?_) (fun _ _ q => q)
    intro w4M w4s w4I w4F w4J w4PT
    show zGo X l 6 0 0 268 20 [(0, .ref 336)] [] w4M _
    refine zs_aload_n (pc := 20) t268_20 rfl ?_
    refine zs_invV (pc := 21) (k := 336) (as' := []) (st := []) t268_21 mf282 rfl rfl (Or.inl ⟨by decide, (zk1 (w4s.k fk_zMm_336))⟩) ⟨by decide, by decide, Nat.le_of_ble_eq_true rfl, Nat.le_of_ble_eq_true rfl⟩ (K282 w4s w4I (zPR.fr pR (w4F.eq rfl)) w4PT ?_) (fun _ _ q => q)
    intro w5M w5s w5I w5F w5PD
    show zGo X l 6 0 0 268 24 [(0, .ref 336)] [] w5M _
    refine zs_aload_n (pc := 24) t268_24 rfl ?_
    refine zs_invV (pc := 25) (k := 336) (as' := []) (st := []) t268_25 mf284 rfl rfl (Or.inl ⟨by decide, (zk1 (w5s.k fk_zMm_336))⟩) ⟨by decide, by decide, Nat.le_of_ble_eq_true rfl, Nat.le_of_ble_eq_true rfl⟩ (K284 w5s w5I w5PD ?_) (fun _ _ q => q)
    intro w6M w6s w6I w6F w6J w6PV
    show zGo X l 6 0 0 268 28 [(0, .ref 336)] [] w6M _
    refine zs_aload_n (pc := 28) t268_28 rfl ?_
    refine zs_invV (pc := 29) (k := 336) (as' := []) (st := []) t268_29 mf287 rfl rfl (Or.inl ⟨by decide, (zk1 (w6s.k fk_zMm_336))⟩) ⟨by decide, by decide, Nat.le_of_ble_eq_true rfl, Nat.le_of_ble_eq_true rfl⟩ (K287 w6s w6I ?_) (fun _ _ q => q)
    intro w7M w7s w7I w7F w7J
    show zGo X l 6 0 0 268 32 [(0, .ref 336)] [] w7M _
    refine zs_aload_n (pc := 32) t268_32 rfl ?_
    refine zs_iconst (pc := 33) t268_33 (v := 1) (by decide) ?_
    have w8 : zIv mLo mHi (zsI w7M 336 3 (1 : Int32)) := zIv.put w7I (show 0 ≤ (1 : Int32).toInt ∧ (1 : Int32).toInt ≤ 1 from ⟨by decide, by decide⟩)
    have w9 : zPF (zsI w7M 336 3 (1 : Int32)) := zPF.on (zPD.fr (M' := (zsI w7M 336 3 (1 : Int32))) (zPD.fr (zPD.fr w5PD (w6F.eq rfl) w6J) (w7F.eq rfl) w7J) (zEq.put rfl) rfl) (zPV.fr (M' := (zsI w7M 336 3 (1 : Int32))) (zPV.fr w6PV (w7F.eq rfl)) (zEq.put rfl))
    refine zs_putI (pc := 34) t268_34 (zk1 (w7s.k fk_zMm_336)) (by decide) ?_
    exact zs_vret (pc := 37) t268_37 mr268 (hQ _ w7s w8 ((((((zFr.refl).trans (w4F.mono rfl)).trans (w5F.mono rfl)).trans (w6F.mono rfl)).trans (w7F.mono rfl)).put rfl) w9 (zPD.fr (M' := (zsI w7M 336 3 (1 : Int32))) (zPD.fr (zPD.fr w5PD (w6F.eq rfl) w6J) (w7F.eq rfl) w7J) (zEq.put rfl) rfl) (zPV.fr (M' := (zsI w7M 336 3 (1 : Int32))) (zPV.fr w6PV (w7F.eq rfl)) (zEq.put rfl)))
  · refine zs_if_eqF (pc := 4) t268_4 rfl (by omega) ?_
    exact zs_vret (pc := 7) t268_7 mr268 (hQ _ hs hI (zFr.refl) pF (pF (by omega)).1 (pF (by omega)).2)
theorem K235 {X : zX} {l : Launch} {M : zM} {Q : Option Value → zM → Prop} (hs : zSk zMm M) (hI : zIv mLo mHi M) (pR : zPR M) (pC : zPC M) (pF : zPF M) (hQ : ∀ (M' : zM) (v : Int32), zSk zMm M' → zIv mLo mHi M' → zFr [(336, 363, none)] M M' → zPR M' → zPC M' → zPF M' → Q (some (.int v)) M') : zCall X l 6 0 0 235 [.ref 336] M Q := by
  refine zs_in (by decide) mf235 (Nat.le_of_ble_eq_true rfl) ?_
  show zGo X l 6 0 0 235 0 [(0, .ref 336)] [] M _
  refine zs_aload_n (pc := 0) t235_0 rfl ?_
  refine zs_iconst (pc := 1) t235_1 (v := 0) (by decide) ?_
  refine zs_bipush (pc := 2) t235_2 (v := 11) (by decide) ?_
  have w1k : zRk (zrow M 0) := (zRk0 hI pR pC)
  refine zs_invV (pc := 4) (k := 336) (as' := [.int (0 : Int32), .int (11 : Int32)]) (st := []) t235_4 mf226 rfl rfl (Or.inl ⟨by decide, (zk1 (hs.k fk_zMm_336))⟩) ⟨by decide, by decide, Nat.le_of_ble_eq_true rfl, Nat.le_of_ble_eq_true rfl⟩ (K226 (na := 0) (nb := 11) hs hI (by decide) (by decide) (by omega) (by omega) (by omega) w1k ?_) (fun _ _ q => q)
  intro w1M w1s w1I w1F w1J w1c
  have w1R : zPR w1M := zPR.cp pR hI w1k w1c (w1F.eq rfl)
  have w1C : zPC w1M := zPC.cp pC hI pR w1k w1c
  have w1A : zPA w1M := zPA.cp w1k w1c (Or.inl rfl)
  show zGo X l 6 0 0 235 7 [(0, .ref 336)] [] w1M _
  refine zs_aload_n (pc := 7) t235_7 rfl ?_
  refine zs_invV (pc := 8) (k := 336) (as' := []) (st := []) t235_8 mf236 rfl rfl (Or.inl ⟨by decide, (zk1 (w1s.k fk_zMm_336))⟩) ⟨by decide, by decide, Nat.le_of_ble_eq_true rfl, Nat.le_of_ble_eq_true rfl⟩ (zs_in (by decide) mf236 (Nat.le_of_ble_eq_true rfl) ?_) (fun _ _ q => q)
  show zGo X l 0 0 0 236 0 [(0, .ref 336)] [] w1M _
  refine zs_aload_n (pc := 0) t236_0 rfl ?_
  refine zs_iconst (pc := 1) t236_1 (v := 0) (by decide) ?_
  have w2 : zIv mLo mHi (zsI w1M 336 6 (0 : Int32)) := zIv.put w1I (show 0 ≤ (0 : Int32).toInt ∧ (0 : Int32).toInt ≤ 500 from ⟨by decide, by decide⟩)
  refine zs_putI (pc := 2) t236_2 (zk1 (w1s.k fk_zMm_336)) rfl ?_
  refine zs_aload_n (pc := 5) t236_5 rfl ?_
  refine zs_iconst (pc := 6) t236_6 (v := -1) (by decide) ?_
  have w3 : zIv mLo mHi (zsI (zsI w1M 336 6 (0 : Int32)) 336 7 (-1 : Int32)) := zIv.put w2 (show (-1) ≤ (-1 : Int32).toInt ∧ (-1 : Int32).toInt ≤ 500 from ⟨by decide, by decide⟩)
  refine zs_putI (pc := 7) t236_7 (zk1 (w1s.k fk_zMm_336)) rfl ?_
  refine zs_vret (pc := 10) t236_10 mr236 ?_
  show zGo X l 6 0 0 235 11 [(0, .ref 336)] [] (zsI (zsI w1M 336 6 (0 : Int32)) 336 7 (-1 : Int32)) _
  refine zs_iconst (pc := 11) t235_11 (v := 0) (by decide) ?_
  refine zs_istore_n (pc := 12) t235_12 (ls' := [(1, .int (0 : Int32)), (0, .ref 336)]) (zml mf235 (by decide)) rfl ?_
  have w4L : ∀ (m : Nat) (w4x1 : Int32) (w4M : zM), zSk zMm w4M → zIv mLo mHi w4M → zFr [(336, 336, some 6), (336, 336, some 7), (336, 336, some 8), (337, 337, none)] (zsI (zsI w1M 336 6 (0 : Int32)) 336 7 (-1 : Int32)) w4M → zJ w4M 351 = zJ (zsI (zsI w1M 336 6 (0 : Int32)) 336 7 (-1 : Int32)) 351 → zUp (zsI (zsI w1M 336 6 (0 : Int32)) 336 7 (-1 : Int32)) w4M → zPR w4M → zPC w4M → 501 - (zI w4M 336 6).toInt - 501 * (min (zI w4M 336 7).toInt 0) ≤ (m : Int) → zGo X l 6 0 0 235 13 [(0, .ref 336), (1, .int w4x1)] [] w4M Q := by
    intro m
    induction m using Nat.strongRecOn with
    | ind w4m w4ih =>
      intro w4x1 w4M w4s w4I w4F w4J w4U w4PR w4PC w4q
      have w4g1 := zrg w4x1
      have w5 := ib336_6 w4I
      have w6 := ib336_7 w4I
      refine zs_aload_n (pc := 13) t235_13 rfl ?_
      refine zs_get (pc := 14) t235_14 (by decide) (zk1 (w4s.k fk_zMm_336)) (zfvi rfl rfl) ?_
      refine zs_iconst (pc := 17) t235_17 (v := -1) (by decide) ?_
      by_cases w7 : (zI w4M 336 7).toInt ≠ (-1)
      · refine zs_icmp_neT (pc := 18) t235_18 rfl lin1 (by omega) ?_
        refine zs_aload_n (pc := 45) t235_45 rfl ?_
        refine zs_invV (pc := 46) (k := 336) (as' := []) (st := []) t235_46 mf253 rfl rfl (Or.inl ⟨by decide, (zk1 (w4s.k fk_zMm_336))⟩) ⟨by decide, by decide, Nat.le_of_ble_eq_true rfl, Nat.le_of_ble_eq_true rfl⟩ (zs_in (by decide) mf253 (Nat.le_of_ble_eq_true rfl) ?_) (fun _ _ q => q)
        show zGo X l 0 0 0 253 0 [(0, .ref 336)] [] w4M _
        refine zs_aload_n (pc := 0) t253_0 rfl ?_
        refine zs_iconst (pc := 1) t253_1 (v := 0) (by decide) ?_
        have w8 : zIv mLo mHi (zsI w4M 336 5 (0 : Int32)) := zIv.put w4I (show 0 ≤ (0 : Int32).toInt ∧ (0 : Int32).toInt ≤ 500 from ⟨by decide, by decide⟩)
        refine zs_putI (pc := 2) t253_2 (zk1 (w4s.k fk_zMm_336)) rfl ?_
        refine zs_aload_n (pc := 5) t253_5 rfl ?_
        refine zs_get (pc := 6) t253_6 (by decide) (zk1 (w4s.k fk_zMm_336)) (zfvi rfl ((zIoj (by decide)).trans rfl)) ?_
        refine zs_iconst (pc := 9) t253_9 (v := -1) (by decide) ?_
        refine zs_icmp_neT (pc := 10) t253_10 rfl lin1 (by omega) ?_
        refine zs_iconst (pc := 17) t253_17 (v := 0) (by decide) ?_
        refine zs_iret (pc := 18) t253_18 mr253 (by decide) ?_
        show zGo X l 6 0 0 235 49 [(0, .ref 336), (1, .int w4x1)] [.int (0 : Int32)] (zsI w4M 336 5 (0 : Int32)) _
        refine zs_if_eqT (pc := 49) t235_49 li0 (by decide) ?_
        refine zs_aload_n (pc := 60) t235_60 rfl ?_
        refine zs_bipush (pc := 61) t235_61 (v := 11) (by decide) ?_
        refine zs_iconst (pc := 63) t235_63 (v := 0) (by decide) ?_
        have w9k : zRk (zrow (zsI w4M 336 5 (0 : Int32)) 11) := (zPA.fr (M' := (zsI w4M 336 5 (0 : Int32))) (zPA.up (zPA.fr (M' := (zsI (zsI w1M 336 6 (0 : Int32)) 336 7 (-1 : Int32))) (zPA.fr (M' := (zsI w1M 336 6 (0 : Int32))) w1A (zEq.put rfl)) (zEq.put rfl)) w4U) (zEq.put rfl))
        refine zs_invV (pc := 64) (k := 336) (as' := [.int (11 : Int32), .int (0 : Int32)]) (st := []) t235_64 mf226 rfl rfl (Or.inl ⟨by decide, (zk1 (w4s.k fk_zMm_336))⟩) ⟨by decide, by decide, Nat.le_of_ble_eq_true rfl, Nat.le_of_ble_eq_true rfl⟩ (K226 (na := 11) (nb := 0) w4s w8 (by decide) (by decide) (by omega) (by omega) (by omega) w9k ?_) (fun _ _ q => q)
        intro w9M w9s w9I w9F w9J w9c
        have w9R : zPR w9M := zPR.cp (zPR.fr (M' := (zsI w4M 336 5 (0 : Int32))) w4PR (zEq.put rfl)) w8 w9k w9c (w9F.eq rfl)
        have w9C : zPC w9M := zPC.cp (zPC.fr (M' := (zsI w4M 336 5 (0 : Int32))) w4PC (zEq.put rfl)) w8 (zPR.fr (M' := (zsI w4M 336 5 (0 : Int32))) w4PR (zEq.put rfl)) w9k w9c
        have w9A : zPA w9M := zPA.cp w9k w9c (Or.inr (zPA.fr (M' := (zsI w4M 336 5 (0 : Int32))) (zPA.up (zPA.fr (M' := (zsI (zsI w1M 336 6 (0 : Int32)) 336 7 (-1 : Int32))) (zPA.fr (M' := (zsI w1M 336 6 (0 : Int32))) w1A (zEq.put rfl)) (zEq.put rfl)) w4U) (zEq.put rfl)))
        show zGo X l 6 0 0 235 67 [(0, .ref 336), (1, .int w4x1)] [] w9M _
        refine zs_iconst (pc := 67) t235_67 (v := -1) (by decide) ?_
        exact zs_iret (pc := 68) t235_68 mr235 (by decide) (hQ _ _ w9s w9I (((((((zFr.refl).trans (w1F.mono rfl)).put rfl).put rfl).trans (w4F.mono rfl)).put rfl).trans (w9F.mono rfl)) w9R w9C (zPF.fr (zPF.fr (M' := (zsI w4M 336 5 (0 : Int32))) (zPF.fr (zPF.fr (M' := (zsI (zsI w1M 336 6 (0 : Int32)) 336 7 (-1 : Int32))) (zPF.fr (M' := (zsI w1M 336 6 (0 : Int32))) (zPF.fr pF (w1F.eq rfl) w1J) (zEq.put rfl) rfl) (zEq.put rfl) rfl) (w4F.eq rfl) w4J) (zEq.put rfl) rfl) (w9F.eq rfl) w9J))
      · refine zs_icmp_neF (pc := 18) t235_18 rfl lin1 (by omega) ?_
        refine zs_aload_n (pc := 21) t235_21 rfl ?_
        refine zs_get (pc := 22) t235_22 (by decide) (zk1 (w4s.k fk_zMm_336)) (zfvi rfl rfl) ?_
        refine zs_aload_n (pc := 25) t235_25 rfl ?_
        have w10 := ib336_5 hI
        refine zs_get (pc := 26) t235_26 (by decide) (zk1 (w4s.k fk_zMm_336)) (zfvi rfl ((w4F 336 5 rfl).trans ((zIoj (by decide)).trans ((zIoj (by decide)).trans ((w1F 336 5 rfl).trans rfl))))) ?_
        by_cases w11 : (zI M 336 5).toInt ≤ (zI w4M 336 6).toInt
        · refine zs_icmp_geT (pc := 29) t235_29 rfl rfl (by omega) ?_
          refine zs_aload_n (pc := 45) t235_45 rfl ?_
          refine zs_invV (pc := 46) (k := 336) (as' := []) (st := []) t235_46 mf253 rfl rfl (Or.inl ⟨by decide, (zk1 (w4s.k fk_zMm_336))⟩) ⟨by decide, by decide, Nat.le_of_ble_eq_true rfl, Nat.le_of_ble_eq_true rfl⟩ (zs_in (by decide) mf253 (Nat.le_of_ble_eq_true rfl) ?_) (fun _ _ q => q)
          show zGo X l 0 0 0 253 0 [(0, .ref 336)] [] w4M _
          refine zs_aload_n (pc := 0) t253_0 rfl ?_
          refine zs_iconst (pc := 1) t253_1 (v := 0) (by decide) ?_
          have w12 : zIv mLo mHi (zsI w4M 336 5 (0 : Int32)) := zIv.put w4I (show 0 ≤ (0 : Int32).toInt ∧ (0 : Int32).toInt ≤ 500 from ⟨by decide, by decide⟩)
          refine zs_putI (pc := 2) t253_2 (zk1 (w4s.k fk_zMm_336)) rfl ?_
          refine zs_aload_n (pc := 5) t253_5 rfl ?_
          refine zs_get (pc := 6) t253_6 (by decide) (zk1 (w4s.k fk_zMm_336)) (zfvi rfl ((zIoj (by decide)).trans rfl)) ?_
          refine zs_iconst (pc := 9) t253_9 (v := -1) (by decide) ?_
          refine zs_icmp_neF (pc := 10) t253_10 rfl lin1 (by omega) ?_
          refine zs_iconst (pc := 13) t253_13 (v := 1) (by decide) ?_
          refine zs_goto (pc := 14) t253_14 ?_
          refine zs_iret (pc := 18) t253_18 mr253 (by decide) ?_
          show zGo X l 6 0 0 235 49 [(0, .ref 336), (1, .int w4x1)] [.int (1 : Int32)] (zsI w4M 336 5 (0 : Int32)) _
          refine zs_if_eqF (pc := 49) t235_49 li1 (by decide) ?_
          refine zs_aload_n (pc := 52) t235_52 rfl ?_
          refine zs_bipush (pc := 53) t235_53 (v := 11) (by decide) ?_
          refine zs_invV (pc := 55) (k := 336) (as' := [.int (11 : Int32)]) (st := []) t235_55 mf230 rfl rfl (Or.inl ⟨by decide, (zk1 (w4s.k fk_zMm_336))⟩) ⟨by decide, by decide, Nat.le_of_ble_eq_true rfl, Nat.le_of_ble_eq_true rfl⟩ (K230_11 w4s w12 (zPR.fr (M' := (zsI w4M 336 5 (0 : Int32))) w4PR (zEq.put rfl)) (zPC.fr (M' := (zsI w4M 336 5 (0 : Int32))) w4PC (zEq.put rfl)) (zPA.fr (M' := (zsI w4M 336 5 (0 : Int32))) (zPA.up (zPA.fr (M' := (zsI (zsI w1M 336 6 (0 : Int32)) 336 7 (-1 : Int32))) (zPA.fr (M' := (zsI w1M 336 6 (0 : Int32))) w1A (zEq.put rfl)) (zEq.put rfl)) w4U) (zEq.put rfl)) ?_) (fun _ _ q => q)
          intro w13M w13s w13I w13F w13J w13PR w13PC w13PF
          show zGo X l 6 0 0 235 58 [(0, .ref 336), (1, .int w4x1)] [] w13M _
          refine zs_iload_n (pc := 58) t235_58 rfl ?_
          exact zs_iret (pc := 59) t235_59 mr235 rfl (hQ _ _ w13s w13I (((((((zFr.refl).trans (w1F.mono rfl)).put rfl).put rfl).trans (w4F.mono rfl)).put rfl).trans (w13F.mono rfl)) w13PR w13PC w13PF)
        · refine zs_icmp_geF (pc := 29) t235_29 rfl rfl (by omega) ?_
          refine zs_aload_n (pc := 32) t235_32 rfl ?_
          have w14 : (zI w4M 336 7).toInt = (zI w4M 336 7).toInt := (congrArg Int32.toInt rfl).trans rfl
          have w15 : (zI w4M 336 6).toInt = (zI w4M 336 6).toInt := (congrArg Int32.toInt rfl).trans rfl
          have w16 : (zI w4M 336 5).toInt = (zI M 336 5).toInt := (congrArg Int32.toInt ((w4F 336 5 rfl).trans ((zIoj (by decide)).trans ((zIoj (by decide)).trans ((w1F 336 5 rfl).trans rfl))))).trans rfl
          have w17 : (zI w4M 336 6).toInt = (zI w4M 336 6).toInt := (congrArg Int32.toInt rfl).trans rfl
          refine zs_invV (pc := 33) (k := 336) (as' := []) (st := []) t235_33 mf237 rfl rfl (Or.inl ⟨by decide, (zk1 (w4s.k fk_zMm_336))⟩) ⟨by decide, by decide, Nat.le_of_ble_eq_true rfl, Nat.le_of_ble_eq_true rfl⟩ (K237 w4s w4I w4PR w4PC (by omega) (by omega) ?_) (fun _ _ q => q)
          intro w18M w18v w18s w18I w18F w18J w18U w18PR w18PC w18t0 w18a w18b
          have w19 := ib336_7 w18I
          have w20 := ib336_6 w18I
          show zGo X l 6 0 0 235 36 [(0, .ref 336), (1, .int w4x1)] [.int w18v] w18M _
          by_cases w21 : w18v.toInt = 0
          · refine zs_if_eqT (pc := 36) t235_36 rfl (by omega) ?_
            refine zGo.locals (ls' := [(0, .ref 336), (1, .int w4x1)]) (by simp) ?_
            have w22 : (zI w18M 336 6).toInt = (zI w18M 336 6).toInt := (congrArg Int32.toInt rfl).trans rfl
            have w23 : (zI w18M 336 7).toInt = (zI w18M 336 7).toInt := (congrArg Int32.toInt rfl).trans rfl
            exact w4ih (w4m - 1) (by omega) w4x1 w18M w18s w18I (((zFr.refl).trans (w4F.mono rfl)).trans (w18F.mono rfl)) (w18J.trans w4J) (((zUp.refl).trans w4U).trans w18U) w18PR w18PC (by omega)
          · refine zs_if_eqF (pc := 36) t235_36 rfl (by omega) ?_
            obtain ⟨w24v, w24e⟩ : ∃ v, w4x1 + Int32.ofInt 1 = v := ⟨_, rfl⟩
            have w24 := zrg w24v
            refine zs_iinc (pc := 39) t235_39 (ls' := [(1, .int w24v), (0, .ref 336)]) (zml mf235 (by decide)) rfl (c := w24v) w24e rfl ?_
            refine zs_goto (pc := 42) t235_42 ?_
            refine zGo.locals (ls' := [(0, .ref 336), (1, .int w24v)]) (by simp) ?_
            have w25 : (zI w18M 336 6).toInt = (zI w18M 336 6).toInt := (congrArg Int32.toInt rfl).trans rfl
            have w26 : (zI w18M 336 7).toInt = (zI w18M 336 7).toInt := (congrArg Int32.toInt rfl).trans rfl
            exact w4ih (w4m - 1) (by omega) w24v w18M w18s w18I (((zFr.refl).trans (w4F.mono rfl)).trans (w18F.mono rfl)) (w18J.trans w4J) (((zUp.refl).trans w4U).trans w18U) w18PR w18PC (by omega)
  refine zGo.locals (ls' := [(0, .ref 336), (1, .int (0 : Int32))]) (by simp) ?_
  have w27 := li0
  have w28 : (zI (zsI (zsI w1M 336 6 (0 : Int32)) 336 7 (-1 : Int32)) 336 6).toInt = 0 := (congrArg Int32.toInt ((zIoj (by decide)).trans zIs)).trans li0
  have w29 : (zI (zsI (zsI w1M 336 6 (0 : Int32)) 336 7 (-1 : Int32)) 336 7).toInt = (-1) := (congrArg Int32.toInt zIs).trans lin1
  exact w4L ((501 - (zI (zsI (zsI w1M 336 6 (0 : Int32)) 336 7 (-1 : Int32)) 336 6).toInt - 501 * (min (zI (zsI (zsI w1M 336 6 (0 : Int32)) 336 7 (-1 : Int32)) 336 7).toInt 0) : Int).toNat) (0 : Int32) (zsI (zsI w1M 336 6 (0 : Int32)) 336 7 (-1 : Int32)) w1s w3 zFr.refl rfl zUp.refl (zPR.fr (M' := (zsI (zsI w1M 336 6 (0 : Int32)) 336 7 (-1 : Int32))) (zPR.fr (M' := (zsI w1M 336 6 (0 : Int32))) w1R (zEq.put rfl)) (zEq.put rfl)) (zPC.fr (M' := (zsI (zsI w1M 336 6 (0 : Int32)) 336 7 (-1 : Int32))) (zPC.fr (M' := (zsI w1M 336 6 (0 : Int32))) w1C (zEq.put rfl)) (zEq.put rfl)) (by omega)
theorem K231 {X : zX} {l : Launch} {M : zM} {Q : Option Value → zM → Prop} {a b c d e : Int32} (hs : zSk zMm M) (hI : zIv mLo mHi M) (pR : zPR M) (pC : zPC M) (pF : zPF M) (hQ : ∀ (M' : zM) (v : Int32), zSk zMm M' → zIv mLo mHi M' → zFr [(336, 363, none)] M M' → zPR M' → zPC M' → zPF M' → Q (some (.int v)) M') : zCall X l 1 0 0 231 [.ref 336, .int a, .int b, .int c, .int d, .int e] M Q := by
  have ga := zrg a
  have gb := zrg b
  have gc := zrg c
  have gd := zrg d
  have ge := zrg e
  refine zs_in (by decide) mf231 (Nat.le_of_ble_eq_true rfl) ?_
  show zGo X l 1 0 0 231 0 [(0, .ref 336), (1, .int a), (2, .int b), (3, .int c), (4, .int d), (5, .int e)] [] M _
  refine zs_aload_n (pc := 0) t231_0 rfl ?_
  have w1 := ib336_5 hI
  refine zs_get (pc := 1) t231_1 (by decide) (zk1 (hs.k fk_zMm_336)) (zfvi rfl rfl) ?_
  refine zs_bipush (pc := 4) t231_4 (v := 20) (by decide) ?_
  obtain ⟨w2v, w2e, w2⟩ := ziadd (a := (zI M 336 5)) (b := (20 : Int32)) rfl li20 (by omega) (by omega)
  refine zs_iadd (pc := 6) t231_6 (c := w2v) w2e ?_
  refine zs_sipush (pc := 7) t231_7 (v := 500) (by decide) ?_
  by_cases w3 : ((zI M 336 5).toInt + 20) ≤ 500
  · refine zs_icmp_leT (pc := 10) t231_10 w2 li500 (by omega) ?_
    refine zs_aload_n (pc := 15) t231_15 rfl ?_
    refine zs_iload_n (pc := 16) t231_16 rfl ?_
    have w4 : (zI M 336 5).toInt = (zI M 336 5).toInt := (congrArg Int32.toInt rfl).trans rfl
    have w5 : (zI M 336 5).toInt = (zI M 336 5).toInt := (congrArg Int32.toInt rfl).trans rfl
    refine zs_invV (pc := 17) (k := 336) (as' := [.int a]) (st := []) t231_17 mf232 rfl rfl (Or.inl ⟨by decide, (zk1 (hs.k fk_zMm_336))⟩) ⟨by decide, by decide, Nat.le_of_ble_eq_true rfl, Nat.le_of_ble_eq_true rfl⟩ (K232 hs hI (by omega) ?_) (fun _ _ q => q)
    intro w6M w6s w6I w6F w6J w6t0
    have w7 := ib336_5 w6I
    show zGo X l 1 0 0 231 20 [(0, .ref 336), (1, .int a), (2, .int b), (3, .int c), (4, .int d), (5, .int e)] [] w6M _
    refine zs_aload_n (pc := 20) t231_20 rfl ?_
    refine zs_iload_n (pc := 21) t231_21 rfl ?_
    have w8 : (zI w6M 336 5).toInt = (zI w6M 336 5).toInt := (congrArg Int32.toInt rfl).trans rfl
    have w9 : (zI w6M 336 5).toInt = (zI w6M 336 5).toInt := (congrArg Int32.toInt rfl).trans rfl
    refine zs_invV (pc := 22) (k := 336) (as' := [.int b]) (st := []) t231_22 mf232 rfl rfl (Or.inl ⟨by decide, (zk1 (w6s.k fk_zMm_336))⟩) ⟨by decide, by decide, Nat.le_of_ble_eq_true rfl, Nat.le_of_ble_eq_true rfl⟩ (K232 w6s w6I (by omega) ?_) (fun _ _ q => q)
    intro w10M w10s w10I w10F w10J w10t0
    have w11 := ib336_5 w10I
    show zGo X l 1 0 0 231 25 [(0, .ref 336), (1, .int a), (2, .int b), (3, .int c), (4, .int d), (5, .int e)] [] w10M _
    refine zs_aload_n (pc := 25) t231_25 rfl ?_
    refine zs_iload_n (pc := 26) t231_26 rfl ?_
    have w12 : (zI w10M 336 5).toInt = (zI w10M 336 5).toInt := (congrArg Int32.toInt rfl).trans rfl
    have w13 : (zI w10M 336 5).toInt = (zI w10M 336 5).toInt := (congrArg Int32.toInt rfl).trans rfl
    refine zs_invV (pc := 27) (k := 336) (as' := [.int c]) (st := []) t231_27 mf232 rfl rfl (Or.inl ⟨by decide, (zk1 (w10s.k fk_zMm_336))⟩) ⟨by decide, by decide, Nat.le_of_ble_eq_true rfl, Nat.le_of_ble_eq_true rfl⟩ (K232 w10s w10I (by omega) ?_) (fun _ _ q => q)
    intro w14M w14s w14I w14F w14J w14t0
    have w15 := ib336_5 w14I
    show zGo X l 1 0 0 231 30 [(0, .ref 336), (1, .int a), (2, .int b), (3, .int c), (4, .int d), (5, .int e)] [] w14M _
    refine zs_aload_n (pc := 30) t231_30 rfl ?_
    refine zs_iload (pc := 31) t231_31 rfl ?_
    have w16 : (zI w14M 336 5).toInt = (zI w14M 336 5).toInt := (congrArg Int32.toInt rfl).trans rfl
    have w17 : (zI w14M 336 5).toInt = (zI w14M 336 5).toInt := (congrArg Int32.toInt rfl).trans rfl
    refine zs_invV (pc := 33) (k := 336) (as' := [.int d]) (st := []) t231_33 mf232 rfl rfl (Or.inl ⟨by decide, (zk1 (w14s.k fk_zMm_336))⟩) ⟨by decide, by decide, Nat.le_of_ble_eq_true rfl, Nat.le_of_ble_eq_true rfl⟩ (K232 w14s w14I (by omega) ?_) (fun _ _ q => q)
    intro w18M w18s w18I w18F w18J w18t0
    have w19 := ib336_5 w18I
    show zGo X l 1 0 0 231 36 [(0, .ref 336), (1, .int a), (2, .int b), (3, .int c), (4, .int d), (5, .int e)] [] w18M _
    refine zs_aload_n (pc := 36) t231_36 rfl ?_
    refine zs_iload (pc := 37) t231_37 rfl ?_
    have w20 : (zI w18M 336 5).toInt = (zI w18M 336 5).toInt := (congrArg Int32.toInt rfl).trans rfl
    have w21 : (zI w18M 336 5).toInt = (zI w18M 336 5).toInt := (congrArg Int32.toInt rfl).trans rfl
    refine zs_invV (pc := 39) (k := 336) (as' := [.int e]) (st := []) t231_39 mf232 rfl rfl (Or.inl ⟨by decide, (zk1 (w18s.k fk_zMm_336))⟩) ⟨by decide, by decide, Nat.le_of_ble_eq_true rfl, Nat.le_of_ble_eq_true rfl⟩ (K232 w18s w18I (by omega) ?_) (fun _ _ q => q)
    intro w22M w22s w22I w22F w22J w22t0
    have w23 := ib336_5 w22I
    show zGo X l 1 0 0 231 42 [(0, .ref 336), (1, .int a), (2, .int b), (3, .int c), (4, .int d), (5, .int e)] [] w22M _
    refine zs_aload_n (pc := 42) t231_42 rfl ?_
    refine zs_get (pc := 43) t231_43 (by decide) (zk1 (w22s.k fk_zMm_336)) (zfvi rfl rfl) ?_
    exact zs_iret (pc := 46) t231_46 mr231 rfl (hQ _ _ w22s w22I ((((((zFr.refl).trans (w6F.mono rfl)).trans (w10F.mono rfl)).trans (w14F.mono rfl)).trans (w18F.mono rfl)).trans (w22F.mono rfl)) (zPR.fr (zPR.fr (zPR.fr (zPR.fr (zPR.fr pR (w6F.eq rfl)) (w10F.eq rfl)) (w14F.eq rfl)) (w18F.eq rfl)) (w22F.eq rfl)) (zPC.fr (zPC.fr (zPC.fr (zPC.fr (zPC.fr pC (w6F.eq rfl)) (w10F.eq rfl)) (w14F.eq rfl)) (w18F.eq rfl)) (w22F.eq rfl)) (zPF.fr (zPF.fr (zPF.fr (zPF.fr (zPF.fr pF (w6F.eq rfl) w6J) (w10F.eq rfl) w10J) (w14F.eq rfl) w14J) (w18F.eq rfl) w18J) (w22F.eq rfl) w22J))
  · refine zs_icmp_leF (pc := 10) t231_10 w2 li500 (by omega) ?_
    refine zs_iconst (pc := 13) t231_13 (v := -1) (by decide) ?_
    exact zs_iret (pc := 14) t231_14 mr231 (by decide) (hQ _ _ hs hI (zFr.refl) pR pC pF)
theorem K233 {X : zX} {l : Launch} {M : zM} {Q : Option Value → zM → Prop} {a : Int32} (hs : zSk zMm M) (hI : zIv mLo mHi M) (pR : zPR M) (pC : zPC M) (pF : zPF M) (hQ : ∀ (M' : zM) (v : Int32), zSk zMm M' → zIv mLo mHi M' → zFr [(336, 363, none)] M M' → zPR M' → zPC M' → zPF M' → Q (some (.int v)) M') : zCall X l 1 0 0 233 [.ref 336, .int a] M Q := by
  have ga := zrg a
  refine zs_in (by decide) mf233 (Nat.le_of_ble_eq_true rfl) ?_
  show zGo X l 1 0 0 233 0 [(0, .ref 336), (1, .int a)] [] M _
  refine zs_iload_n (pc := 0) t233_0 rfl ?_
  refine zs_i2l (pc := 1) t233_1 rfl ?_
  refine zs_lconst (pc := 2) t233_2 (v := 0) (by decide) ?_
  refine zs_aload_n (pc := 3) t233_3 rfl ?_
  have w1 := ib336_5 hI
  refine zs_get (pc := 4) t233_4 (by decide) (zk1 (hs.k fk_zMm_336)) (zfvi rfl rfl) ?_
  refine zs_i2l (pc := 7) t233_7 rfl ?_
  by_cases w2 : 0 ≤ a.toInt ∧ a.toInt ≤ (zI M 336 5).toInt
  · refine zs_invS (pc := 8) (as := [.long a.toInt64, .long (0 : Int64), .long (zI M 336 5).toInt64]) (st := []) t233_8 (by decide) mf228 rfl rfl ⟨by decide, by decide, Nat.le_of_ble_eq_true rfl, Nat.le_of_ble_eq_true rfl⟩ (K228T (zi2l rfl) ll0 (zi2l rfl) (by omega) ?_) (fun _ _ q => q)
    show zGo X l 1 0 0 233 11 [(0, .ref 336), (1, .int a)] [.int (1 : Int32)] M _
    refine zs_if_neT (pc := 11) t233_11 li1 (by decide) ?_
    refine zs_aload_n (pc := 16) t233_16 rfl ?_
    refine zs_iload_n (pc := 17) t233_17 rfl ?_
    have w3 : zIv mLo mHi (zsI M 336 5 a) := zIv.put hI (show 0 ≤ a.toInt ∧ a.toInt ≤ 500 from ⟨by omega, by omega⟩)
    refine zs_putI (pc := 18) t233_18 (zk1 (hs.k fk_zMm_336)) rfl ?_
    refine zs_iload_n (pc := 21) t233_21 rfl ?_
    exact zs_iret (pc := 22) t233_22 mr233 rfl (hQ _ _ hs w3 ((zFr.refl).put rfl) (zPR.fr (M' := (zsI M 336 5 a)) pR (zEq.put rfl)) (zPC.fr (M' := (zsI M 336 5 a)) pC (zEq.put rfl)) (zPF.fr (M' := (zsI M 336 5 a)) pF (zEq.put rfl) rfl))
  · refine zs_invS (pc := 8) (as := [.long a.toInt64, .long (0 : Int64), .long (zI M 336 5).toInt64]) (st := []) t233_8 (by decide) mf228 rfl rfl ⟨by decide, by decide, Nat.le_of_ble_eq_true rfl, Nat.le_of_ble_eq_true rfl⟩ (K228F (zi2l rfl) ll0 (zi2l rfl) (by omega) ?_) (fun _ _ q => q)
    show zGo X l 1 0 0 233 11 [(0, .ref 336), (1, .int a)] [.int (0 : Int32)] M _
    refine zs_if_neF (pc := 11) t233_11 li0 (by decide) ?_
    refine zs_iconst (pc := 14) t233_14 (v := -1) (by decide) ?_
    exact zs_iret (pc := 15) t233_15 mr233 (by decide) (hQ _ _ hs hI (zFr.refl) pR pC pF)
theorem K225 {X : zX} {l : Launch} {M : zM} {Q : Option Value → zM → Prop} (hs : zSk zMm M) (hI : zIv mLo mHi M) (pR : zPR M) (pC : zPC M) (pF : zPF M) (hQ : ∀ (M' : zM) (v : Int32), zSk zMm M' → zIv mLo mHi M' → zFr [(336, 363, none)] M M' → zPR M' → zPC M' → zPF M' → Q (some (.int v)) M') : zCall X l 1 0 0 225 [.ref 336] M Q := by
  refine zs_in (by decide) mf225 (Nat.le_of_ble_eq_true rfl) ?_
  show zGo X l 1 0 0 225 0 [(0, .ref 336)] [] M _
  refine zs_aload_n (pc := 0) t225_0 rfl ?_
  have w1 := ib336_1 hI
  refine zs_get (pc := 1) t225_1 (by decide) (zk1 (hs.k fk_zMm_336)) (zfvi rfl rfl) ?_
  by_cases w2 : (zI M 336 1).toInt ≠ 0
  · refine zs_if_neT (pc := 4) t225_4 rfl (by omega) ?_
    refine zs_aload_n (pc := 9) t225_9 rfl ?_
    refine zs_dup (pc := 10) t225_10 rfl ?_
    refine zs_get (pc := 11) t225_11 (by decide) (zk1 (hs.k fk_zMm_336)) (zfvi rfl rfl) ?_
    refine zs_iconst (pc := 14) t225_14 (v := 1) (by decide) ?_
    obtain ⟨w3v, w3e, w3⟩ := zisub (a := (zI M 336 1)) (b := (1 : Int32)) rfl li1 (by omega) (by omega)
    refine zs_isub (pc := 15) t225_15 (c := w3v) w3e ?_
    have w4 : zIv mLo mHi (zsI M 336 1 w3v) := zIv.put hI (show 0 ≤ w3v.toInt ∧ w3v.toInt ≤ 8 from ⟨by omega, by omega⟩)
    have w5 : (zI M 336 1).toInt = (zI M 336 1).toInt := (congrArg Int32.toInt rfl).trans rfl
    have w6 : w3v.toInt = ((zI M 336 1).toInt - 1) := w3
    have w7 : zPR (zsI M 336 1 w3v) := zPR.less pR (by omega)
    refine zs_putI (pc := 16) t225_16 (zk1 (hs.k fk_zMm_336)) rfl ?_
    refine zs_aload_n (pc := 19) t225_19 rfl ?_
    refine zs_iconst (pc := 20) t225_20 (v := 3) (by decide) ?_
    refine zs_aload_n (pc := 21) t225_21 rfl ?_
    refine zs_get (pc := 22) t225_22 (by decide) (zk1 (hs.k fk_zMm_336)) (zfvi rfl zIs) ?_
    obtain ⟨w8v, w8e, w8⟩ := ziadd (a := (3 : Int32)) (b := w3v) li3 w3 (by omega) (by omega)
    refine zs_iadd (pc := 25) t225_25 (c := w8v) w8e ?_
    refine zs_iconst (pc := 26) t225_26 (v := 0) (by decide) ?_
    obtain ⟨w9n, w9⟩ : ∃ n : Nat, (zI M 336 1).toInt = (n : Int) := ⟨((zI M 336 1).toInt).toNat, by omega⟩
    have w10 : (zI (zsI M 336 1 w3v) 336 1).toInt = ((zI M 336 1).toInt - 1) := (congrArg Int32.toInt zIs).trans w3
    have w11k : zRk (zrow (zsI M 336 1 w3v) (2 + w9n)) := (w7.2.2 w9n (by omega))
    refine zs_invV (pc := 27) (k := 336) (as' := [.int w8v, .int (0 : Int32)]) (st := []) t225_27 mf226 rfl rfl (Or.inl ⟨by decide, (zk1 (hs.k fk_zMm_336))⟩) ⟨by decide, by decide, Nat.le_of_ble_eq_true rfl, Nat.le_of_ble_eq_true rfl⟩ (K226 (na := (2 + w9n)) (nb := 0) hs w4 (by omega) (by decide) (by omega) (by omega) (by omega) w11k ?_) (fun _ _ q => q)
    intro w11M w11s w11I w11F w11J w11c
    have w11R : zPR w11M := zPR.cp w7 w4 w11k w11c (w11F.eq rfl)
    have w11C : zPC w11M := zPC.cp (zPC.fr (M' := (zsI M 336 1 w3v)) pC (zEq.put rfl)) w4 w7 w11k w11c
    show zGo X l 1 0 0 225 30 [(0, .ref 336)] [] w11M _
    refine zs_aload_n (pc := 30) t225_30 rfl ?_
    refine zs_iconst (pc := 31) t225_31 (v := 0) (by decide) ?_
    have w12 : zIv mLo mHi (zsI w11M 336 3 (0 : Int32)) := zIv.put w11I (show 0 ≤ (0 : Int32).toInt ∧ (0 : Int32).toInt ≤ 1 from ⟨by decide, by decide⟩)
    have w13 : zPF (zsI w11M 336 3 (0 : Int32)) := zPF.off
    refine zs_putI (pc := 32) t225_32 (zk1 (w11s.k fk_zMm_336)) (by decide) ?_
    refine zs_aload_n (pc := 35) t225_35 rfl ?_
    refine zs_get (pc := 36) t225_36 (by decide) (zk1 (w11s.k fk_zMm_336)) (zfvi rfl ((zIoj (by decide)).trans ((w11F 336 1 rfl).trans zIs))) ?_
    exact zs_iret (pc := 39) t225_39 mr225 rfl (hQ _ _ w11s w12 ((((zFr.refl).put rfl).trans (w11F.mono rfl)).put rfl) (zPR.fr (M' := (zsI w11M 336 3 (0 : Int32))) w11R (zEq.put rfl)) (zPC.fr (M' := (zsI w11M 336 3 (0 : Int32))) w11C (zEq.put rfl)) w13)
  · refine zs_if_neF (pc := 4) t225_4 rfl (by omega) ?_
    refine zs_iconst (pc := 7) t225_7 (v := -1) (by decide) ?_
    exact zs_iret (pc := 8) t225_8 mr225 (by decide) (hQ _ _ hs hI (zFr.refl) pR pC pF)
theorem K227 {X : zX} {l : Launch} {M : zM} {Q : Option Value → zM → Prop} {a : Int32} (hs : zSk zMm M) (hI : zIv mLo mHi M) (pR : zPR M) (pC : zPC M) (pF : zPF M) (hQ : ∀ (M' : zM) (v : Int32), zSk zMm M' → zIv mLo mHi M' → zFr [(336, 363, none)] M M' → zPR M' → zPC M' → zPF M' → 0 ≤ v.toInt → v.toInt ≤ 1 → Q (some (.int v)) M') : zCall X l 1 0 0 227 [.ref 336, .int a] M Q := by
  have ga := zrg a
  refine zs_in (by decide) mf227 (Nat.le_of_ble_eq_true rfl) ?_
  show zGo X l 1 0 0 227 0 [(0, .ref 336), (1, .int a)] [] M _
  refine zs_iload_n (pc := 0) t227_0 rfl ?_
  refine zs_i2l (pc := 1) t227_1 rfl ?_
  refine zs_lconst (pc := 2) t227_2 (v := 0) (by decide) ?_
  refine zs_lconst (pc := 3) t227_3 (v := 1) (by decide) ?_
  by_cases w1 : 0 ≤ a.toInt ∧ a.toInt ≤ 1
  · refine zs_invS (pc := 4) (as := [.long a.toInt64, .long (0 : Int64), .long (1 : Int64)]) (st := []) t227_4 (by decide) mf228 rfl rfl ⟨by decide, by decide, Nat.le_of_ble_eq_true rfl, Nat.le_of_ble_eq_true rfl⟩ (K228T (zi2l rfl) ll0 ll1 (by omega) ?_) (fun _ _ q => q)
    show zGo X l 1 0 0 227 7 [(0, .ref 336), (1, .int a)] [.int (1 : Int32)] M _
    refine zs_if_neT (pc := 7) t227_7 li1 (by decide) ?_
    refine zs_aload_n (pc := 12) t227_12 rfl ?_
    refine zs_iconst (pc := 13) t227_13 (v := 0) (by decide) ?_
    refine zs_iconst (pc := 14) t227_14 (v := 1) (by decide) ?_
    refine zs_iload_n (pc := 15) t227_15 rfl ?_
    obtain ⟨w2v, w2e, w2⟩ := ziadd (a := (1 : Int32)) (b := a) li1 rfl (by omega) (by omega)
    refine zs_iadd (pc := 16) t227_16 (c := w2v) w2e ?_
    obtain ⟨w3n, w3⟩ : ∃ n : Nat, a.toInt = (n : Int) := ⟨(a.toInt).toNat, by omega⟩
    have w4k : zRk (zrow M 0) := (zRk0 hI pR pC)
    refine zs_invV (pc := 17) (k := 336) (as' := [.int (0 : Int32), .int w2v]) (st := []) t227_17 mf226 rfl rfl (Or.inl ⟨by decide, (zk1 (hs.k fk_zMm_336))⟩) ⟨by decide, by decide, Nat.le_of_ble_eq_true rfl, Nat.le_of_ble_eq_true rfl⟩ (K226 (na := 0) (nb := (1 + w3n)) hs hI (by decide) (by omega) (by omega) (by omega) (by omega) w4k ?_) (fun _ _ q => q)
    intro w4M w4s w4I w4F w4J w4c
    have w4R : zPR w4M := zPR.cp pR hI w4k w4c (w4F.eq rfl)
    have w4C : zPC w4M := zPC.cp pC hI pR w4k w4c
    show zGo X l 1 0 0 227 20 [(0, .ref 336), (1, .int a)] [] w4M _
    refine zs_aload_n (pc := 20) t227_20 rfl ?_
    refine zs_get (pc := 21) t227_21 (by decide) (zk1 (w4s.k fk_zMm_336)) (w4s.p rfl fv_zMm_336_2) ?_
    refine zs_iload_n (pc := 24) t227_24 rfl ?_
    refine zs_iconst (pc := 25) t227_25 (v := 1) (by decide) ?_
    have w5e : vp_nar .boolean (1 : Int32) = (1 : Int32) := by decide
    have w6 : zIv mLo mHi (zsI w4M 338 w3n (1 : Int32)) := zIv.put w4I (show 0 ≤ (1 : Int32).toInt ∧ (1 : Int32).toInt ≤ 1 from ⟨by decide, by decide⟩)
    have w7 : zPR (zsI w4M 338 w3n (1 : Int32)) := zPR.keep (n := w3n) w4R (zCp.k w4c w4k (Or.inl (by omega)))
    refine zs_bastZ (pc := 26) t227_26 (j := w3n) (by decide) (zk1 (w4s.k fk_zMm_338)) (show a.toInt = ((w3n : Nat) : Int) by omega) (zk2 (w4s.k fk_zMm_338) (by omega)) w5e ?_
    refine zs_iconst (pc := 27) t227_27 (v := 1) (by decide) ?_
    exact zs_iret (pc := 28) t227_28 mr227 (by decide) (hQ _ _ w4s w6 (((zFr.refl).trans (w4F.mono rfl)).put rfl) w7 (zPC.fr (M' := (zsI w4M 338 w3n (1 : Int32))) w4C (zEq.put rfl)) (zPF.fr (M' := (zsI w4M 338 w3n (1 : Int32))) (zPF.fr pF (w4F.eq rfl) w4J) (zEq.put rfl) rfl) (by decide) (by decide))
  · refine zs_invS (pc := 4) (as := [.long a.toInt64, .long (0 : Int64), .long (1 : Int64)]) (st := []) t227_4 (by decide) mf228 rfl rfl ⟨by decide, by decide, Nat.le_of_ble_eq_true rfl, Nat.le_of_ble_eq_true rfl⟩ (K228F (zi2l rfl) ll0 ll1 (by omega) ?_) (fun _ _ q => q)
    show zGo X l 1 0 0 227 7 [(0, .ref 336), (1, .int a)] [.int (0 : Int32)] M _
    refine zs_if_neF (pc := 7) t227_7 li0 (by decide) ?_
    refine zs_iconst (pc := 10) t227_10 (v := 0) (by decide) ?_
    exact zs_iret (pc := 11) t227_11 mr227 (by decide) (hQ _ _ hs hI (zFr.refl) pR pC pF (by decide) (by decide))
theorem K229 {X : zX} {l : Launch} {M : zM} {Q : Option Value → zM → Prop} {a : Int32} (hs : zSk zMm M) (hI : zIv mLo mHi M) (pR : zPR M) (pC : zPC M) (pF : zPF M) (hQ : ∀ (M' : zM) (v : Int32), zSk zMm M' → zIv mLo mHi M' → zFr [(336, 363, none)] M M' → zPR M' → zPC M' → zPF M' → 0 ≤ v.toInt → v.toInt ≤ 1 → Q (some (.int v)) M') : zCall X l 2 0 0 229 [.ref 336, .int a] M Q := by
  have ga := zrg a
  refine zs_in (by decide) mf229 (Nat.le_of_ble_eq_true rfl) ?_
  show zGo X l 2 0 0 229 0 [(0, .ref 336), (1, .int a)] [] M _
  refine zs_iload_n (pc := 0) t229_0 rfl ?_
  refine zs_i2l (pc := 1) t229_1 rfl ?_
  refine zs_lconst (pc := 2) t229_2 (v := 0) (by decide) ?_
  refine zs_lconst (pc := 3) t229_3 (v := 1) (by decide) ?_
  by_cases w1 : 0 ≤ a.toInt ∧ a.toInt ≤ 1
  · refine zs_invS (pc := 4) (as := [.long a.toInt64, .long (0 : Int64), .long (1 : Int64)]) (st := []) t229_4 (by decide) mf228 rfl rfl ⟨by decide, by decide, Nat.le_of_ble_eq_true rfl, Nat.le_of_ble_eq_true rfl⟩ (K228T (zi2l rfl) ll0 ll1 (by omega) ?_) (fun _ _ q => q)
    show zGo X l 2 0 0 229 7 [(0, .ref 336), (1, .int a)] [.int (1 : Int32)] M _
    refine zs_if_eqF (pc := 7) t229_7 li1 (by decide) ?_
    refine zs_aload_n (pc := 10) t229_10 rfl ?_
    refine zs_get (pc := 11) t229_11 (by decide) (zk1 (hs.k fk_zMm_336)) (hs.p rfl fv_zMm_336_2) ?_
    refine zs_iload_n (pc := 14) t229_14 rfl ?_
    obtain ⟨w2n, w2⟩ : ∃ n : Nat, a.toInt = (n : Int) := ⟨(a.toInt).toNat, by omega⟩
    have w3 := ib338 hI w2n
    refine zs_bald (pc := 15) t229_15 (j := w2n) (Or.inr (zk1 (hs.k fk_zMm_338))) (show a.toInt = ((w2n : Nat) : Int) by omega) (zk2 (hs.k fk_zMm_338) (by omega)) rfl ?_
    by_cases w4 : (zI M 338 w2n).toInt ≠ 0
    · refine zs_if_neT (pc := 16) t229_16 rfl (by omega) ?_
      refine zs_aload_n (pc := 21) t229_21 rfl ?_
      refine zs_iconst (pc := 22) t229_22 (v := 0) (by decide) ?_
      refine zs_invV (pc := 23) (k := 336) (as' := [.int (0 : Int32)]) (st := []) t229_23 mf230 rfl rfl (Or.inl ⟨by decide, (zk1 (hs.k fk_zMm_336))⟩) ⟨by decide, by decide, Nat.le_of_ble_eq_true rfl, Nat.le_of_ble_eq_true rfl⟩ (K230_0 hs hI pR pC ?_) (fun _ _ q => q)
      intro w5M w5s w5I w5F w5J w5PR w5PC w5PF
      show zGo X l 2 0 0 229 26 [(0, .ref 336), (1, .int a)] [] w5M _
      refine zs_aload_n (pc := 26) t229_26 rfl ?_
      refine zs_iconst (pc := 27) t229_27 (v := 1) (by decide) ?_
      refine zs_iload_n (pc := 28) t229_28 rfl ?_
      obtain ⟨w6v, w6e, w6⟩ := ziadd (a := (1 : Int32)) (b := a) li1 rfl (by omega) (by omega)
      refine zs_iadd (pc := 29) t229_29 (c := w6v) w6e ?_
      refine zs_iconst (pc := 30) t229_30 (v := 0) (by decide) ?_
      have w7 : (zI w5M 338 w2n).toInt = (zI M 338 w2n).toInt := (congrArg Int32.toInt ((w5F 338 w2n rfl).trans rfl)).trans rfl
      have w8k : zRk (zrow w5M (1 + w2n)) := (w5PR.2.1 w2n (by omega) (by omega))
      refine zs_invV (pc := 31) (k := 336) (as' := [.int w6v, .int (0 : Int32)]) (st := []) t229_31 mf226 rfl rfl (Or.inl ⟨by decide, (zk1 (w5s.k fk_zMm_336))⟩) ⟨by decide, by decide, Nat.le_of_ble_eq_true rfl, Nat.le_of_ble_eq_true rfl⟩ (K226 (na := (1 + w2n)) (nb := 0) w5s w5I (by omega) (by decide) (by omega) (by omega) (by omega) w8k ?_) (fun _ _ q => q)
      intro w8M w8s w8I w8F w8J w8c
      have w8R : zPR w8M := zPR.cp w5PR w5I w8k w8c (w8F.eq rfl)
      have w8C : zPC w8M := zPC.cp w5PC w5I w5PR w8k w8c
      show zGo X l 2 0 0 229 34 [(0, .ref 336), (1, .int a)] [] w8M _
      refine zs_iconst (pc := 34) t229_34 (v := 1) (by decide) ?_
      exact zs_iret (pc := 35) t229_35 mr229 (by decide) (hQ _ _ w8s w8I (((zFr.refl).trans (w5F.mono rfl)).trans (w8F.mono rfl)) w8R w8C (zPF.fr w5PF (w8F.eq rfl) w8J) (by decide) (by decide))
    · refine zs_if_neF (pc := 16) t229_16 rfl (by omega) ?_
      refine zs_iconst (pc := 19) t229_19 (v := 0) (by decide) ?_
      exact zs_iret (pc := 20) t229_20 mr229 (by decide) (hQ _ _ hs hI (zFr.refl) pR pC pF (by decide) (by decide))
  · refine zs_invS (pc := 4) (as := [.long a.toInt64, .long (0 : Int64), .long (1 : Int64)]) (st := []) t229_4 (by decide) mf228 rfl rfl ⟨by decide, by decide, Nat.le_of_ble_eq_true rfl, Nat.le_of_ble_eq_true rfl⟩ (K228F (zi2l rfl) ll0 ll1 (by omega) ?_) (fun _ _ q => q)
    show zGo X l 2 0 0 229 7 [(0, .ref 336), (1, .int a)] [.int (0 : Int32)] M _
    refine zs_if_eqT (pc := 7) t229_7 li0 (by decide) ?_
    refine zs_iconst (pc := 19) t229_19 (v := 0) (by decide) ?_
    exact zs_iret (pc := 20) t229_20 mr229 (by decide) (hQ _ _ hs hI (zFr.refl) pR pC pF (by decide) (by decide))
theorem K331 {X : zX} {l : Launch} {M : zM} {Q : Option Value → zM → Prop} {a b c : Int32} (hs : zSk zMm M) (hI : zIv mLo mHi M) (pR : zPR M) (pC : zPC M) (pF : zPF M) (hQ : ∀ (M' : zM) (v : Int32), zSk zMm M' → zIv mLo mHi M' → zFr [(336, 363, none)] M M' → zPR M' → zPC M' → zPF M' → Q (some (.int v)) M') : zCall X l 2 0 0 331 [.ref 336, .int a, .int b, .int c] M Q := by
  have ga := zrg a
  have gb := zrg b
  have gc := zrg c
  refine zs_in (by decide) mf331 (Nat.le_of_ble_eq_true rfl) ?_
  show zGo X l 2 0 0 331 0 [(0, .ref 336), (1, .int a), (2, .int b), (3, .int c)] [] M _
  refine zs_aload_n (pc := 0) t331_0 rfl ?_
  refine zs_iload_n (pc := 1) t331_1 rfl ?_
  refine zs_invV (pc := 2) (k := 336) (as' := [.int a]) (st := []) t331_2 mf306 rfl rfl (Or.inl ⟨by decide, (zk1 (hs.k fk_zMm_336))⟩) ⟨by decide, by decide, Nat.le_of_ble_eq_true rfl, Nat.le_of_ble_eq_true rfl⟩ (zs_in (by decide) mf306 (Nat.le_of_ble_eq_true rfl) ?_) (fun _ _ q => q)
  show zGo X l 1 0 0 306 0 [(0, .ref 336), (1, .int a)] [] M _
  refine zs_iload_n (pc := 0) t306_0 rfl ?_
  refine zs_i2l (pc := 1) t306_1 rfl ?_
  refine zs_lconst (pc := 2) t306_2 (v := 0) (by decide) ?_
  refine zs_aload_n (pc := 3) t306_3 rfl ?_
  refine zs_get (pc := 4) t306_4 (by decide) (zk1 (hs.k fk_zMm_336)) (hs.p rfl fv_zMm_336_0) ?_
  refine zs_iconst (pc := 7) t306_7 (v := 0) (by decide) ?_
  have w1 := ibA0 hI
  refine zs_iald (pc := 8) t306_8 (j := 0) (by decide) (zk1 (hs.k fk_zMm_337)) li0 (zk2 (hs.k fk_zMm_337) (by decide)) rfl ?_
  refine zs_iconst (pc := 9) t306_9 (v := 1) (by decide) ?_
  obtain ⟨w2v, w2e, w2⟩ := zisub (a := (zI M 337 0)) (b := (1 : Int32)) rfl li1 (by omega) (by omega)
  refine zs_isub (pc := 10) t306_10 (c := w2v) w2e ?_
  refine zs_i2l (pc := 11) t306_11 rfl ?_
  by_cases w3 : 0 ≤ a.toInt ∧ a.toInt ≤ ((zI M 337 0).toInt - 1)
  · refine zs_invS (pc := 12) (as := [.long a.toInt64, .long (0 : Int64), .long w2v.toInt64]) (st := []) t306_12 (by decide) mf228 rfl rfl ⟨by decide, by decide, Nat.le_of_ble_eq_true rfl, Nat.le_of_ble_eq_true rfl⟩ (K228T (zi2l rfl) ll0 (zi2l w2) (by omega) ?_) (fun _ _ q => q)
    show zGo X l 1 0 0 306 15 [(0, .ref 336), (1, .int a)] [.int (1 : Int32)] M _
    refine zs_iret (pc := 15) t306_15 mr306 (by decide) ?_
    show zGo X l 2 0 0 331 5 [(0, .ref 336), (1, .int a), (2, .int b), (3, .int c)] [.int (1 : Int32)] M _
    refine zs_if_eqF (pc := 5) t331_5 li1 (by decide) ?_
    refine zs_iload_n (pc := 8) t331_8 rfl ?_
    refine zs_i2l (pc := 9) t331_9 rfl ?_
    refine zs_ldc2_w (pc := 10) t331_10 (v := -9999) (by decide) ?_
    refine zs_ldc2_w (pc := 13) t331_13 (v := 9999) (by decide) ?_
    by_cases w4 : (-9999) ≤ b.toInt ∧ b.toInt ≤ 9999
    · refine zs_invS (pc := 16) (as := [.long b.toInt64, .long (-9999 : Int64), .long (9999 : Int64)]) (st := []) t331_16 (by decide) mf228 rfl rfl ⟨by decide, by decide, Nat.le_of_ble_eq_true rfl, Nat.le_of_ble_eq_true rfl⟩ (K228T (zi2l rfl) lln9999 ll9999 (by omega) ?_) (fun _ _ q => q)
      show zGo X l 2 0 0 331 19 [(0, .ref 336), (1, .int a), (2, .int b), (3, .int c)] [.int (1 : Int32)] M _
      refine zs_if_eqF (pc := 19) t331_19 li1 (by decide) ?_
      refine zs_iload_n (pc := 22) t331_22 rfl ?_
      refine zs_i2l (pc := 23) t331_23 rfl ?_
      refine zs_lconst (pc := 24) t331_24 (v := 0) (by decide) ?_
      refine zs_ldc2_w (pc := 25) t331_25 (v := 999) (by decide) ?_
      by_cases w5 : 0 ≤ c.toInt ∧ c.toInt ≤ 999
      · refine zs_invS (pc := 28) (as := [.long c.toInt64, .long (0 : Int64), .long (999 : Int64)]) (st := []) t331_28 (by decide) mf228 rfl rfl ⟨by decide, by decide, Nat.le_of_ble_eq_true rfl, Nat.le_of_ble_eq_true rfl⟩ (K228T (zi2l rfl) ll0 ll999 (by omega) ?_) (fun _ _ q => q)
        show zGo X l 2 0 0 331 31 [(0, .ref 336), (1, .int a), (2, .int b), (3, .int c)] [.int (1 : Int32)] M _
        refine zs_if_eqF (pc := 31) t331_31 li1 (by decide) ?_
        refine zs_aload_n (pc := 34) t331_34 rfl ?_
        refine zs_get (pc := 35) t331_35 (by decide) (zk1 (hs.k fk_zMm_336)) (hs.p rfl fv_zMm_336_0) ?_
        refine zs_iconst (pc := 38) t331_38 (v := 1) (by decide) ?_
        have w6 := ibA1 hI
        refine zs_iald (pc := 39) t331_39 (j := 1) (by decide) (zk1 (hs.k fk_zMm_337)) li1 (zk2 (hs.k fk_zMm_337) (by decide)) rfl ?_
        refine zs_bipush (pc := 40) t331_40 (v := 60) (by decide) ?_
        by_cases w7 : (zI M 337 1).toInt ≠ 60
        · refine zs_icmp_neT (pc := 42) t331_42 rfl li60 (by omega) ?_
          refine zs_aload_n (pc := 47) t331_47 rfl ?_
          refine zs_iconst (pc := 48) t331_48 (v := 0) (by decide) ?_
          refine zs_invV (pc := 49) (k := 336) (as' := [.int (0 : Int32)]) (st := []) t331_49 mf230 rfl rfl (Or.inl ⟨by decide, (zk1 (hs.k fk_zMm_336))⟩) ⟨by decide, by decide, Nat.le_of_ble_eq_true rfl, Nat.le_of_ble_eq_true rfl⟩ (K230_0 hs hI pR pC ?_) (fun _ _ q => q)
          intro w8M w8s w8I w8F w8J w8PR w8PC w8PF
          show zGo X l 2 0 0 331 52 [(0, .ref 336), (1, .int a), (2, .int b), (3, .int c)] [] w8M _
          refine zs_aload_n (pc := 52) t331_52 rfl ?_
          refine zs_iload_n (pc := 53) t331_53 rfl ?_
          refine zs_iload_n (pc := 54) t331_54 rfl ?_
          refine zs_iload_n (pc := 55) t331_55 rfl ?_
          refine zs_bipush (pc := 56) t331_56 (v := -2) (by decide) ?_
          have w9 : (-2 : Int32).toInt = (-2) := lin2
          have w10 := ibA0 w8I
          have w11 : (zI w8M 337 0).toInt = (zI w8M 337 0).toInt := (congrArg Int32.toInt rfl).trans rfl
          have w12 := ibA1 w8I
          have w13 : (zI w8M 337 1).toInt = (zI w8M 337 1).toInt := (congrArg Int32.toInt rfl).trans rfl
          have w14 : (zI w8M 337 0).toInt = (zI w8M 337 0).toInt := (congrArg Int32.toInt rfl).trans rfl
          have w15 := ibA2 w8I
          have w16 : (zI w8M 337 2).toInt = (zI w8M 337 2).toInt := (congrArg Int32.toInt rfl).trans rfl
          have w17 : (zI w8M 337 1).toInt = (zI w8M 337 1).toInt := (congrArg Int32.toInt rfl).trans rfl
          refine zs_invV (pc := 58) (k := 336) (as' := [.int a, .int b, .int c, .int (-2 : Int32)]) (st := []) t331_58 mf252 rfl rfl (Or.inl ⟨by decide, (zk1 (w8s.k fk_zMm_336))⟩) ⟨by decide, by decide, Nat.le_of_ble_eq_true rfl, Nat.le_of_ble_eq_true rfl⟩ (K252 w8s w8I w8PR w8PC ⟨by omega, by omega⟩ (by omega) (by omega) ?_) (fun _ _ q => q)
          intro w18M w18s w18I w18F w18J w18U w18PR w18PC w18t0 w18t1 w18t2
          have w19 := ibA0 w18I
          have w20 := ibA2 w18I
          have w21 := ibA1 w18I
          show zGo X l 2 0 0 331 61 [(0, .ref 336), (1, .int a), (2, .int b), (3, .int c)] [] w18M _
          refine zs_aload_n (pc := 61) t331_61 rfl ?_
          refine zs_get (pc := 62) t331_62 (by decide) (zk1 (w18s.k fk_zMm_336)) (w18s.p rfl fv_zMm_336_0) ?_
          refine zs_iconst (pc := 65) t331_65 (v := 1) (by decide) ?_
          refine zs_iald (pc := 66) t331_66 (j := 1) (by decide) (zk1 (w18s.k fk_zMm_337)) li1 (zk2 (w18s.k fk_zMm_337) (by decide)) rfl ?_
          refine zs_iconst (pc := 67) t331_67 (v := 1) (by decide) ?_
          obtain ⟨w22v, w22e, w22⟩ := zisub (a := (zI w18M 337 1)) (b := (1 : Int32)) rfl li1 (by omega) (by omega)
          refine zs_isub (pc := 68) t331_68 (c := w22v) w22e ?_
          exact zs_iret (pc := 69) t331_69 mr331 rfl (hQ _ _ w18s w18I (((zFr.refl).trans (w8F.mono rfl)).trans (w18F.mono rfl)) w18PR w18PC (zPF.fr w8PF (w18F.eq rfl) w18J))
        · refine zs_icmp_neF (pc := 42) t331_42 rfl li60 (by omega) ?_
          refine zs_iconst (pc := 45) t331_45 (v := -1) (by decide) ?_
          exact zs_iret (pc := 46) t331_46 mr331 (by decide) (hQ _ _ hs hI (zFr.refl) pR pC pF)
      · refine zs_invS (pc := 28) (as := [.long c.toInt64, .long (0 : Int64), .long (999 : Int64)]) (st := []) t331_28 (by decide) mf228 rfl rfl ⟨by decide, by decide, Nat.le_of_ble_eq_true rfl, Nat.le_of_ble_eq_true rfl⟩ (K228F (zi2l rfl) ll0 ll999 (by omega) ?_) (fun _ _ q => q)
        show zGo X l 2 0 0 331 31 [(0, .ref 336), (1, .int a), (2, .int b), (3, .int c)] [.int (0 : Int32)] M _
        refine zs_if_eqT (pc := 31) t331_31 li0 (by decide) ?_
        refine zs_iconst (pc := 45) t331_45 (v := -1) (by decide) ?_
        exact zs_iret (pc := 46) t331_46 mr331 (by decide) (hQ _ _ hs hI (zFr.refl) pR pC pF)
    · refine zs_invS (pc := 16) (as := [.long b.toInt64, .long (-9999 : Int64), .long (9999 : Int64)]) (st := []) t331_16 (by decide) mf228 rfl rfl ⟨by decide, by decide, Nat.le_of_ble_eq_true rfl, Nat.le_of_ble_eq_true rfl⟩ (K228F (zi2l rfl) lln9999 ll9999 (by omega) ?_) (fun _ _ q => q)
      show zGo X l 2 0 0 331 19 [(0, .ref 336), (1, .int a), (2, .int b), (3, .int c)] [.int (0 : Int32)] M _
      refine zs_if_eqT (pc := 19) t331_19 li0 (by decide) ?_
      refine zs_iconst (pc := 45) t331_45 (v := -1) (by decide) ?_
      exact zs_iret (pc := 46) t331_46 mr331 (by decide) (hQ _ _ hs hI (zFr.refl) pR pC pF)
  · refine zs_invS (pc := 12) (as := [.long a.toInt64, .long (0 : Int64), .long w2v.toInt64]) (st := []) t306_12 (by decide) mf228 rfl rfl ⟨by decide, by decide, Nat.le_of_ble_eq_true rfl, Nat.le_of_ble_eq_true rfl⟩ (K228F (zi2l rfl) ll0 (zi2l w2) (by omega) ?_) (fun _ _ q => q)
    show zGo X l 1 0 0 306 15 [(0, .ref 336), (1, .int a)] [.int (0 : Int32)] M _
    refine zs_iret (pc := 15) t306_15 mr306 (by decide) ?_
    show zGo X l 2 0 0 331 5 [(0, .ref 336), (1, .int a), (2, .int b), (3, .int c)] [.int (0 : Int32)] M _
    refine zs_if_eqT (pc := 5) t331_5 li0 (by decide) ?_
    refine zs_iconst (pc := 45) t331_45 (v := -1) (by decide) ?_
    exact zs_iret (pc := 46) t331_46 mr331 (by decide) (hQ _ _ hs hI (zFr.refl) pR pC pF)
theorem K332 {X : zX} {l : Launch} {M : zM} {Q : Option Value → zM → Prop} {a : Int32} (hs : zSk zMm M) (hI : zIv mLo mHi M) (pR : zPR M) (pC : zPC M) (pF : zPF M) (hQ : ∀ (M' : zM) (v : Int32), zSk zMm M' → zIv mLo mHi M' → zFr [(336, 363, none)] M M' → zPR M' → zPC M' → zPF M' → Q (some (.int v)) M') : zCall X l 3 0 0 332 [.ref 336, .int a] M Q := by
  have ga := zrg a
  refine zs_in (by decide) mf332 (Nat.le_of_ble_eq_true rfl) ?_
  show zGo X l 3 0 0 332 0 [(0, .ref 336), (1, .int a)] [] M _
  refine zs_aload_n (pc := 0) t332_0 rfl ?_
  refine zs_iload_n (pc := 1) t332_1 rfl ?_
  refine zs_invV (pc := 2) (k := 336) (as' := [.int a]) (st := []) t332_2 mf308 rfl rfl (Or.inl ⟨by decide, (zk1 (hs.k fk_zMm_336))⟩) ⟨by decide, by decide, Nat.le_of_ble_eq_true rfl, Nat.le_of_ble_eq_true rfl⟩ (zs_in (by decide) mf308 (Nat.le_of_ble_eq_true rfl) ?_) (fun _ _ q => q)
  show zGo X l 1 0 0 308 0 [(0, .ref 336), (1, .int a)] [] M _
  refine zs_iload_n (pc := 0) t308_0 rfl ?_
  refine zs_i2l (pc := 1) t308_1 rfl ?_
  refine zs_lconst (pc := 2) t308_2 (v := 0) (by decide) ?_
  refine zs_aload_n (pc := 3) t308_3 rfl ?_
  refine zs_get (pc := 4) t308_4 (by decide) (zk1 (hs.k fk_zMm_336)) (hs.p rfl fv_zMm_336_0) ?_
  refine zs_iconst (pc := 7) t308_7 (v := 1) (by decide) ?_
  have w1 := ibA1 hI
  refine zs_iald (pc := 8) t308_8 (j := 1) (by decide) (zk1 (hs.k fk_zMm_337)) li1 (zk2 (hs.k fk_zMm_337) (by decide)) rfl ?_
  refine zs_iconst (pc := 9) t308_9 (v := 1) (by decide) ?_
  obtain ⟨w2v, w2e, w2⟩ := zisub (a := (zI M 337 1)) (b := (1 : Int32)) rfl li1 (by omega) (by omega)
  refine zs_isub (pc := 10) t308_10 (c := w2v) w2e ?_
  refine zs_i2l (pc := 11) t308_11 rfl ?_
  by_cases w3 : 0 ≤ a.toInt ∧ a.toInt ≤ ((zI M 337 1).toInt - 1)
  · refine zs_invS (pc := 12) (as := [.long a.toInt64, .long (0 : Int64), .long w2v.toInt64]) (st := []) t308_12 (by decide) mf228 rfl rfl ⟨by decide, by decide, Nat.le_of_ble_eq_true rfl, Nat.le_of_ble_eq_true rfl⟩ (K228T (zi2l rfl) ll0 (zi2l w2) (by omega) ?_) (fun _ _ q => q)
    show zGo X l 1 0 0 308 15 [(0, .ref 336), (1, .int a)] [.int (1 : Int32)] M _
    refine zs_iret (pc := 15) t308_15 mr308 (by decide) ?_
    show zGo X l 3 0 0 332 5 [(0, .ref 336), (1, .int a)] [.int (1 : Int32)] M _
    refine zs_if_eqF (pc := 5) t332_5 li1 (by decide) ?_
    refine zs_aload_n (pc := 8) t332_8 rfl ?_
    refine zs_iload_n (pc := 9) t332_9 rfl ?_
    refine zs_iconst (pc := 10) t332_10 (v := 2) (by decide) ?_
    refine zs_invV (pc := 11) (k := 336) (as' := [.int a, .int (2 : Int32)]) (st := []) t332_11 mf272 rfl rfl (Or.inl ⟨by decide, (zk1 (hs.k fk_zMm_336))⟩) ⟨by decide, by decide, Nat.le_of_ble_eq_true rfl, Nat.le_of_ble_eq_true rfl⟩ (zs_in (by decide) mf272 (Nat.le_of_ble_eq_true rfl) ?_) (fun _ _ q => q)
    show zGo X l 0 0 0 272 0 [(0, .ref 336), (1, .int a), (2, .int (2 : Int32))] [] M _
    refine zs_aload_n (pc := 0) t272_0 rfl ?_
    refine zs_get (pc := 1) t272_1 (by decide) (zk1 (hs.k fk_zMm_336)) (hs.p rfl fv_zMm_336_0) ?_
    refine zs_bipush (pc := 4) t272_4 (v := 30) (by decide) ?_
    refine zs_iconst (pc := 6) t272_6 (v := 4) (by decide) ?_
    refine zs_iload_n (pc := 7) t272_7 rfl ?_
    obtain ⟨w4v, w4⟩ : ∃ v, (4 : Int32) * a = v := ⟨_, rfl⟩
    have w4g : w4v.toInt = 4 * a.toInt := by rw [← w4]; exact zmulc li4 rfl (by omega) (by omega)
    refine zs_imul (pc := 8) t272_8 (c := w4v) w4 ?_
    obtain ⟨w5v, w5e, w5⟩ := ziadd (a := (30 : Int32)) (b := w4v) li30 w4g (by omega) (by omega)
    refine zs_iadd (pc := 9) t272_9 (c := w5v) w5e ?_
    refine zs_iload_n (pc := 10) t272_10 rfl ?_
    obtain ⟨w6v, w6e, w6⟩ := ziadd (a := w5v) (b := (2 : Int32)) w5 li2 (by omega) (by omega)
    refine zs_iadd (pc := 11) t272_11 (c := w6v) w6e ?_
    obtain ⟨w7n, w7⟩ : ∃ n : Nat, a.toInt = (n : Int) := ⟨(a.toInt).toNat, by omega⟩
    have w8 := zrg (zI M 337 (32 + 4 * w7n))
    refine zs_iald (pc := 12) t272_12 (j := (32 + 4 * w7n)) (by decide) (zk1 (hs.k fk_zMm_337)) (show w6v.toInt = (((32 + 4 * w7n) : Nat) : Int) by omega) (zk2 (hs.k fk_zMm_337) (by omega)) rfl ?_
    refine zs_iret (pc := 13) t272_13 mr272 rfl ?_
    show zGo X l 3 0 0 332 14 [(0, .ref 336), (1, .int a)] [.int (zI M 337 (32 + 4 * w7n))] M _
    refine zs_iconst (pc := 14) t332_14 (v := -1) (by decide) ?_
    by_cases w9 : (zI M 337 (32 + 4 * w7n)).toInt ≠ (-1)
    · refine zs_icmp_neT (pc := 15) t332_15 rfl lin1 (by omega) ?_
      refine zs_aload_n (pc := 20) t332_20 rfl ?_
      refine zs_iconst (pc := 21) t332_21 (v := 0) (by decide) ?_
      refine zs_invV (pc := 22) (k := 336) (as' := [.int (0 : Int32)]) (st := []) t332_22 mf230 rfl rfl (Or.inl ⟨by decide, (zk1 (hs.k fk_zMm_336))⟩) ⟨by decide, by decide, Nat.le_of_ble_eq_true rfl, Nat.le_of_ble_eq_true rfl⟩ (K230_0 hs hI pR pC ?_) (fun _ _ q => q)
      intro w10M w10s w10I w10F w10J w10PR w10PC w10PF
      show zGo X l 3 0 0 332 25 [(0, .ref 336), (1, .int a)] [] w10M _
      refine zs_aload_n (pc := 25) t332_25 rfl ?_
      refine zs_get (pc := 26) t332_26 (by decide) (zk1 (w10s.k fk_zMm_336)) (w10s.p rfl fv_zMm_336_0) ?_
      refine zs_bipush (pc := 29) t332_29 (v := 30) (by decide) ?_
      refine zs_iconst (pc := 31) t332_31 (v := 4) (by decide) ?_
      refine zs_iload_n (pc := 32) t332_32 rfl ?_
      obtain ⟨w11v, w11⟩ : ∃ v, (4 : Int32) * a = v := ⟨_, rfl⟩
      have w11g : w11v.toInt = 4 * a.toInt := by rw [← w11]; exact zmulc li4 rfl (by omega) (by omega)
      refine zs_imul (pc := 33) t332_33 (c := w11v) w11 ?_
      obtain ⟨w12v, w12e, w12⟩ := ziadd (a := (30 : Int32)) (b := w11v) li30 w11g (by omega) (by omega)
      refine zs_iadd (pc := 34) t332_34 (c := w12v) w12e ?_
      refine zs_iconst (pc := 35) t332_35 (v := 2) (by decide) ?_
      obtain ⟨w13v, w13e, w13⟩ := ziadd (a := w12v) (b := (2 : Int32)) w12 li2 (by omega) (by omega)
      refine zs_iadd (pc := 36) t332_36 (c := w13v) w13e ?_
      refine zs_iconst (pc := 37) t332_37 (v := -1) (by decide) ?_
      have w14a := aN (p := (32 + 4 * w7n)) (by omega)
      have w14 : zIv mLo mHi (zsI w10M 337 (32 + 4 * w7n) (-1 : Int32)) := zIv.putA w10I (by omega) (by rw [w14a.1, w14a.2]; exact zrg (-1 : Int32))
      have w15 := ibA0 w10I
      have w16 : (zI w10M 337 0).toInt = (zI w10M 337 0).toInt := (congrArg Int32.toInt rfl).trans rfl
      have w17 := ibA1 w10I
      have w18 : (zI w10M 337 1).toInt = (zI w10M 337 1).toInt := (congrArg Int32.toInt rfl).trans rfl
      have w19 : zPR (zsI w10M 337 (32 + 4 * w7n) (-1 : Int32)) := zPR.put w10PR (by omega) (by omega) (by omega) (by omega)
      have w20 : zPC (zsI w10M 337 (32 + 4 * w7n) (-1 : Int32)) := zPC.put w10PC (by omega) (by omega)
      refine zs_iast (pc := 38) t332_38 (j := (32 + 4 * w7n)) (by decide) (zk1 (w10s.k fk_zMm_337)) (show w13v.toInt = (((32 + 4 * w7n) : Nat) : Int) by omega) (zk2 (w10s.k fk_zMm_337) (by omega)) ?_
      refine zs_aload_n (pc := 39) t332_39 rfl ?_
      refine zs_iconst (pc := 40) t332_40 (v := -1) (by decide) ?_
      refine zs_invV (pc := 41) (k := 336) (as' := [.int (-1 : Int32)]) (st := []) t332_41 mf290 rfl rfl (Or.inl ⟨by decide, (zk1 (w10s.k fk_zMm_336))⟩) ⟨by decide, by decide, Nat.le_of_ble_eq_true rfl, Nat.le_of_ble_eq_true rfl⟩ (K290 w10s w14 ?_) (fun _ _ q => q)
      intro w21v
      have w21g := zrg w21v
      show zGo X l 3 0 0 332 44 [(0, .ref 336), (1, .int a)] [.int w21v] (zsI w10M 337 (32 + 4 * w7n) (-1 : Int32)) _
      exact zs_iret (pc := 44) t332_44 mr332 rfl (hQ _ _ w10s w14 (((zFr.refl).trans (w10F.mono rfl)).put rfl) w19 w20 (zPF.fr (M' := (zsI w10M 337 (32 + 4 * w7n) (-1 : Int32))) w10PF (zEq.put rfl) rfl))
    · refine zs_icmp_neF (pc := 15) t332_15 rfl lin1 (by omega) ?_
      refine zs_iconst (pc := 18) t332_18 (v := -1) (by decide) ?_
      exact zs_iret (pc := 19) t332_19 mr332 (by decide) (hQ _ _ hs hI (zFr.refl) pR pC pF)
  · refine zs_invS (pc := 12) (as := [.long a.toInt64, .long (0 : Int64), .long w2v.toInt64]) (st := []) t308_12 (by decide) mf228 rfl rfl ⟨by decide, by decide, Nat.le_of_ble_eq_true rfl, Nat.le_of_ble_eq_true rfl⟩ (K228F (zi2l rfl) ll0 (zi2l w2) (by omega) ?_) (fun _ _ q => q)
    show zGo X l 1 0 0 308 15 [(0, .ref 336), (1, .int a)] [.int (0 : Int32)] M _
    refine zs_iret (pc := 15) t308_15 mr308 (by decide) ?_
    show zGo X l 3 0 0 332 5 [(0, .ref 336), (1, .int a)] [.int (0 : Int32)] M _
    refine zs_if_eqT (pc := 5) t332_5 li0 (by decide) ?_
    refine zs_iconst (pc := 18) t332_18 (v := -1) (by decide) ?_
    exact zs_iret (pc := 19) t332_19 mr332 (by decide) (hQ _ _ hs hI (zFr.refl) pR pC pF)
theorem K333 {X : zX} {l : Launch} {M : zM} {Q : Option Value → zM → Prop} {a : Int32} (hs : zSk zMm M) (hI : zIv mLo mHi M) (pR : zPR M) (pC : zPC M) (pF : zPF M) (hQ : ∀ (M' : zM) (v : Int32), zSk zMm M' → zIv mLo mHi M' → zFr [(336, 363, none)] M M' → zPR M' → zPC M' → zPF M' → Q (some (.int v)) M') : zCall X l 2 0 0 333 [.ref 336, .int a] M Q := by
  have ga := zrg a
  refine zs_in (by decide) mf333 (Nat.le_of_ble_eq_true rfl) ?_
  show zGo X l 2 0 0 333 0 [(0, .ref 336), (1, .int a)] [] M _
  refine zs_aload_n (pc := 0) t333_0 rfl ?_
  refine zs_iload_n (pc := 1) t333_1 rfl ?_
  refine zs_invV (pc := 2) (k := 336) (as' := [.int a]) (st := []) t333_2 mf306 rfl rfl (Or.inl ⟨by decide, (zk1 (hs.k fk_zMm_336))⟩) ⟨by decide, by decide, Nat.le_of_ble_eq_true rfl, Nat.le_of_ble_eq_true rfl⟩ (zs_in (by decide) mf306 (Nat.le_of_ble_eq_true rfl) ?_) (fun _ _ q => q)
  show zGo X l 1 0 0 306 0 [(0, .ref 336), (1, .int a)] [] M _
  refine zs_iload_n (pc := 0) t306_0 rfl ?_
  refine zs_i2l (pc := 1) t306_1 rfl ?_
  refine zs_lconst (pc := 2) t306_2 (v := 0) (by decide) ?_
  refine zs_aload_n (pc := 3) t306_3 rfl ?_
  refine zs_get (pc := 4) t306_4 (by decide) (zk1 (hs.k fk_zMm_336)) (hs.p rfl fv_zMm_336_0) ?_
  refine zs_iconst (pc := 7) t306_7 (v := 0) (by decide) ?_
  have w1 := ibA0 hI
  refine zs_iald (pc := 8) t306_8 (j := 0) (by decide) (zk1 (hs.k fk_zMm_337)) li0 (zk2 (hs.k fk_zMm_337) (by decide)) rfl ?_
  refine zs_iconst (pc := 9) t306_9 (v := 1) (by decide) ?_
  obtain ⟨w2v, w2e, w2⟩ := zisub (a := (zI M 337 0)) (b := (1 : Int32)) rfl li1 (by omega) (by omega)
  refine zs_isub (pc := 10) t306_10 (c := w2v) w2e ?_
  refine zs_i2l (pc := 11) t306_11 rfl ?_
  by_cases w3 : 0 ≤ a.toInt ∧ a.toInt ≤ ((zI M 337 0).toInt - 1)
  · refine zs_invS (pc := 12) (as := [.long a.toInt64, .long (0 : Int64), .long w2v.toInt64]) (st := []) t306_12 (by decide) mf228 rfl rfl ⟨by decide, by decide, Nat.le_of_ble_eq_true rfl, Nat.le_of_ble_eq_true rfl⟩ (K228T (zi2l rfl) ll0 (zi2l w2) (by omega) ?_) (fun _ _ q => q)
    show zGo X l 1 0 0 306 15 [(0, .ref 336), (1, .int a)] [.int (1 : Int32)] M _
    refine zs_iret (pc := 15) t306_15 mr306 (by decide) ?_
    show zGo X l 2 0 0 333 5 [(0, .ref 336), (1, .int a)] [.int (1 : Int32)] M _
    refine zs_if_neT (pc := 5) t333_5 li1 (by decide) ?_
    refine zs_aload_n (pc := 10) t333_10 rfl ?_
    refine zs_iconst (pc := 11) t333_11 (v := 0) (by decide) ?_
    refine zs_invV (pc := 12) (k := 336) (as' := [.int (0 : Int32)]) (st := []) t333_12 mf230 rfl rfl (Or.inl ⟨by decide, (zk1 (hs.k fk_zMm_336))⟩) ⟨by decide, by decide, Nat.le_of_ble_eq_true rfl, Nat.le_of_ble_eq_true rfl⟩ (K230_0 hs hI pR pC ?_) (fun _ _ q => q)
    intro w4M w4s w4I w4F w4J w4PR w4PC w4PF
    show zGo X l 2 0 0 333 15 [(0, .ref 336), (1, .int a)] [] w4M _
    refine zs_aload_n (pc := 15) t333_15 rfl ?_
    refine zs_get (pc := 16) t333_16 (by decide) (zk1 (w4s.k fk_zMm_336)) (w4s.p rfl fv_zMm_336_0) ?_
    refine zs_bipush (pc := 19) t333_19 (v := 14) (by decide) ?_
    refine zs_iconst (pc := 21) t333_21 (v := 2) (by decide) ?_
    refine zs_iload_n (pc := 22) t333_22 rfl ?_
    obtain ⟨w5v, w5⟩ : ∃ v, (2 : Int32) * a = v := ⟨_, rfl⟩
    have w5g : w5v.toInt = 2 * a.toInt := by rw [← w5]; exact zmulc li2 rfl (by omega) (by omega)
    refine zs_imul (pc := 23) t333_23 (c := w5v) w5 ?_
    obtain ⟨w6v, w6e, w6⟩ := ziadd (a := (14 : Int32)) (b := w5v) li14 w5g (by omega) (by omega)
    refine zs_iadd (pc := 24) t333_24 (c := w6v) w6e ?_
    refine zs_iconst (pc := 25) t333_25 (v := 1) (by decide) ?_
    obtain ⟨w7v, w7e, w7⟩ := ziadd (a := w6v) (b := (1 : Int32)) w6 li1 (by omega) (by omega)
    refine zs_iadd (pc := 26) t333_26 (c := w7v) w7e ?_
    refine zs_dup2 (pc := 27) t333_27 ⟨rfl, rfl⟩ ?_
    obtain ⟨w8n, w8⟩ : ∃ n : Nat, a.toInt = (n : Int) := ⟨(a.toInt).toNat, by omega⟩
    have w9 := zrg (zI w4M 337 (15 + 2 * w8n))
    refine zs_iald (pc := 28) t333_28 (j := (15 + 2 * w8n)) (by decide) (zk1 (w4s.k fk_zMm_337)) (show w7v.toInt = (((15 + 2 * w8n) : Nat) : Int) by omega) (zk2 (w4s.k fk_zMm_337) (by omega)) rfl ?_
    refine zs_iconst (pc := 29) t333_29 (v := 1) (by decide) ?_
    obtain ⟨w10v, w10⟩ : ∃ v, (zI w4M 337 (15 + 2 * w8n)) ^^^ (1 : Int32) = v := ⟨_, rfl⟩
    have w10g := zrg w10v
    refine zs_ixor (pc := 30) t333_30 (c := w10v) w10 ?_
    have w11a := aN (p := (15 + 2 * w8n)) (by omega)
    have w11 : zIv mLo mHi (zsI w4M 337 (15 + 2 * w8n) w10v) := zIv.putA w4I (by omega) (by rw [w11a.1, w11a.2]; exact zrg w10v)
    have w12 := ibA0 w4I
    have w13 : (zI w4M 337 0).toInt = (zI w4M 337 0).toInt := (congrArg Int32.toInt rfl).trans rfl
    have w14 := ibA1 w4I
    have w15 : (zI w4M 337 1).toInt = (zI w4M 337 1).toInt := (congrArg Int32.toInt rfl).trans rfl
    have w16 : zPR (zsI w4M 337 (15 + 2 * w8n) w10v) := zPR.put w4PR (by omega) (by omega) (by omega) (by omega)
    have w17 : zPC (zsI w4M 337 (15 + 2 * w8n) w10v) := zPC.put w4PC (by omega) (by omega)
    refine zs_iast (pc := 31) t333_31 (j := (15 + 2 * w8n)) (by decide) (zk1 (w4s.k fk_zMm_337)) (show w7v.toInt = (((15 + 2 * w8n) : Nat) : Int) by omega) (zk2 (w4s.k fk_zMm_337) (by omega)) ?_
    refine zs_aload_n (pc := 32) t333_32 rfl ?_
    refine zs_get (pc := 33) t333_33 (by decide) (zk1 (w4s.k fk_zMm_336)) (w4s.p rfl fv_zMm_336_0) ?_
    refine zs_bipush (pc := 36) t333_36 (v := 14) (by decide) ?_
    refine zs_iconst (pc := 38) t333_38 (v := 2) (by decide) ?_
    refine zs_iload_n (pc := 39) t333_39 rfl ?_
    obtain ⟨w18v, w18⟩ : ∃ v, (2 : Int32) * a = v := ⟨_, rfl⟩
    have w18g : w18v.toInt = 2 * a.toInt := by rw [← w18]; exact zmulc li2 rfl (by omega) (by omega)
    refine zs_imul (pc := 40) t333_40 (c := w18v) w18 ?_
    obtain ⟨w19v, w19e, w19⟩ := ziadd (a := (14 : Int32)) (b := w18v) li14 w18g (by omega) (by omega)
    refine zs_iadd (pc := 41) t333_41 (c := w19v) w19e ?_
    refine zs_iconst (pc := 42) t333_42 (v := 1) (by decide) ?_
    obtain ⟨w20v, w20e, w20⟩ := ziadd (a := w19v) (b := (1 : Int32)) w19 li1 (by omega) (by omega)
    refine zs_iadd (pc := 43) t333_43 (c := w20v) w20e ?_
    refine zs_iald (pc := 44) t333_44 (j := (15 + 2 * w8n)) (by decide) (zk1 (w4s.k fk_zMm_337)) (show w20v.toInt = (((15 + 2 * w8n) : Nat) : Int) by omega) (zk2 (w4s.k fk_zMm_337) (by omega)) zIs ?_
    exact zs_iret (pc := 45) t333_45 mr333 rfl (hQ _ _ w4s w11 (((zFr.refl).trans (w4F.mono rfl)).put rfl) w16 w17 (zPF.fr (M' := (zsI w4M 337 (15 + 2 * w8n) w10v)) w4PF (zEq.put rfl) rfl))
  · refine zs_invS (pc := 12) (as := [.long a.toInt64, .long (0 : Int64), .long w2v.toInt64]) (st := []) t306_12 (by decide) mf228 rfl rfl ⟨by decide, by decide, Nat.le_of_ble_eq_true rfl, Nat.le_of_ble_eq_true rfl⟩ (K228F (zi2l rfl) ll0 (zi2l w2) (by omega) ?_) (fun _ _ q => q)
    show zGo X l 1 0 0 306 15 [(0, .ref 336), (1, .int a)] [.int (0 : Int32)] M _
    refine zs_iret (pc := 15) t306_15 mr306 (by decide) ?_
    show zGo X l 2 0 0 333 5 [(0, .ref 336), (1, .int a)] [.int (0 : Int32)] M _
    refine zs_if_neF (pc := 5) t333_5 li0 (by decide) ?_
    refine zs_iconst (pc := 8) t333_8 (v := -1) (by decide) ?_
    exact zs_iret (pc := 9) t333_9 mr333 (by decide) (hQ _ _ hs hI (zFr.refl) pR pC pF)
theorem K334 {X : zX} {l : Launch} {M : zM} {Q : Option Value → zM → Prop} {a : Int32} (hs : zSk zMm M) (hI : zIv mLo mHi M) (pR : zPR M) (pC : zPC M) (pF : zPF M) (hQ : ∀ (M' : zM) (v : Int32), zSk zMm M' → zIv mLo mHi M' → zFr [(336, 363, none)] M M' → zPR M' → zPC M' → zPF M' → Q (some (.int v)) M') : zCall X l 2 0 0 334 [.ref 336, .int a] M Q := by
  have ga := zrg a
  refine zs_in (by decide) mf334 (Nat.le_of_ble_eq_true rfl) ?_
  show zGo X l 2 0 0 334 0 [(0, .ref 336), (1, .int a)] [] M _
  refine zs_iload_n (pc := 0) t334_0 rfl ?_
  refine zs_i2l (pc := 1) t334_1 rfl ?_
  refine zs_ldc2_w (pc := 2) t334_2 (v := 2) (by decide) ?_
  refine zs_ldc2_w (pc := 5) t334_5 (v := 8) (by decide) ?_
  by_cases w1 : 2 ≤ a.toInt ∧ a.toInt ≤ 8
  · refine zs_invS (pc := 8) (as := [.long a.toInt64, .long (2 : Int64), .long (8 : Int64)]) (st := []) t334_8 (by decide) mf228 rfl rfl ⟨by decide, by decide, Nat.le_of_ble_eq_true rfl, Nat.le_of_ble_eq_true rfl⟩ (K228T (zi2l rfl) ll2 ll8 (by omega) ?_) (fun _ _ q => q)
    show zGo X l 2 0 0 334 11 [(0, .ref 336), (1, .int a)] [.int (1 : Int32)] M _
    refine zs_if_neT (pc := 11) t334_11 li1 (by decide) ?_
    refine zs_aload_n (pc := 16) t334_16 rfl ?_
    refine zs_iconst (pc := 17) t334_17 (v := 0) (by decide) ?_
    refine zs_invV (pc := 18) (k := 336) (as' := [.int (0 : Int32)]) (st := []) t334_18 mf230 rfl rfl (Or.inl ⟨by decide, (zk1 (hs.k fk_zMm_336))⟩) ⟨by decide, by decide, Nat.le_of_ble_eq_true rfl, Nat.le_of_ble_eq_true rfl⟩ (K230_0 hs hI pR pC ?_) (fun _ _ q => q)
    intro w2M w2s w2I w2F w2J w2PR w2PC w2PF
    show zGo X l 2 0 0 334 21 [(0, .ref 336), (1, .int a)] [] w2M _
    refine zs_aload_n (pc := 21) t334_21 rfl ?_
    refine zs_get (pc := 22) t334_22 (by decide) (zk1 (w2s.k fk_zMm_336)) (w2s.p rfl fv_zMm_336_0) ?_
    refine zs_bipush (pc := 25) t334_25 (v := 8) (by decide) ?_
    have w3 := ibA8 w2I
    refine zs_iald (pc := 27) t334_27 (j := 8) (by decide) (zk1 (w2s.k fk_zMm_337)) li8 (zk2 (w2s.k fk_zMm_337) (by decide)) rfl ?_
    refine zs_istore_n (pc := 28) t334_28 (ls' := [(2, .int (zI w2M 337 8)), (0, .ref 336), (1, .int a)]) (zml mf334 (by decide)) rfl ?_
    refine zs_aload_n (pc := 29) t334_29 rfl ?_
    refine zs_get (pc := 30) t334_30 (by decide) (zk1 (w2s.k fk_zMm_336)) (w2s.p rfl fv_zMm_336_0) ?_
    refine zs_bipush (pc := 33) t334_33 (v := 8) (by decide) ?_
    refine zs_iload_n (pc := 35) t334_35 rfl ?_
    have w4 : zIv mLo mHi (zsI w2M 337 8 a) := zIv.putA w2I (by decide) (show 2 ≤ a.toInt ∧ a.toInt ≤ 8 from ⟨by omega, by omega⟩)
    have w5 := ibA0 w2I
    have w6 : (zI w2M 337 0).toInt = (zI w2M 337 0).toInt := (congrArg Int32.toInt rfl).trans rfl
    have w7 := ibA1 w2I
    have w8 : (zI w2M 337 1).toInt = (zI w2M 337 1).toInt := (congrArg Int32.toInt rfl).trans rfl
    have w9 : zPR (zsI w2M 337 8 a) := zPR.put w2PR (by omega) (by omega) (by omega) (by omega)
    have w10 : zPC (zsI w2M 337 8 a) := zPC.put w2PC (by decide) (by decide)
    refine zs_iast (pc := 36) t334_36 (j := 8) (by decide) (zk1 (w2s.k fk_zMm_337)) li8 (zk2 (w2s.k fk_zMm_337) (by decide)) ?_
    refine zs_iload_n (pc := 37) t334_37 rfl ?_
    exact zs_iret (pc := 38) t334_38 mr334 rfl (hQ _ _ w2s w4 (((zFr.refl).trans (w2F.mono rfl)).put rfl) w9 w10 (zPF.fr (M' := (zsI w2M 337 8 a)) w2PF (zEq.put rfl) rfl))
  · refine zs_invS (pc := 8) (as := [.long a.toInt64, .long (2 : Int64), .long (8 : Int64)]) (st := []) t334_8 (by decide) mf228 rfl rfl ⟨by decide, by decide, Nat.le_of_ble_eq_true rfl, Nat.le_of_ble_eq_true rfl⟩ (K228F (zi2l rfl) ll2 ll8 (by omega) ?_) (fun _ _ q => q)
    show zGo X l 2 0 0 334 11 [(0, .ref 336), (1, .int a)] [.int (0 : Int32)] M _
    refine zs_if_neF (pc := 11) t334_11 li0 (by decide) ?_
    refine zs_iconst (pc := 14) t334_14 (v := -1) (by decide) ?_
    exact zs_iret (pc := 15) t334_15 mr334 (by decide) (hQ _ _ hs hI (zFr.refl) pR pC pF)
theorem K335 {X : zX} {l : Launch} {M : zM} {Q : Option Value → zM → Prop} {a b : Int32} (hs : zSk zMm M) (hI : zIv mLo mHi M) (pR : zPR M) (pC : zPC M) (pF : zPF M) (hQ : ∀ (M' : zM) (v : Int32), zSk zMm M' → zIv mLo mHi M' → zFr [(336, 363, none)] M M' → zPR M' → zPC M' → zPF M' → Q (some (.int v)) M') : zCall X l 2 0 0 335 [.ref 336, .int a, .int b] M Q := by
  have ga := zrg a
  have gb := zrg b
  refine zs_in (by decide) mf335 (Nat.le_of_ble_eq_true rfl) ?_
  show zGo X l 2 0 0 335 0 [(0, .ref 336), (1, .int a), (2, .int b)] [] M _
  refine zs_aload_n (pc := 0) t335_0 rfl ?_
  refine zs_iload_n (pc := 1) t335_1 rfl ?_
  refine zs_invV (pc := 2) (k := 336) (as' := [.int a]) (st := []) t335_2 mf306 rfl rfl (Or.inl ⟨by decide, (zk1 (hs.k fk_zMm_336))⟩) ⟨by decide, by decide, Nat.le_of_ble_eq_true rfl, Nat.le_of_ble_eq_true rfl⟩ (zs_in (by decide) mf306 (Nat.le_of_ble_eq_true rfl) ?_) (fun _ _ q => q)
  show zGo X l 1 0 0 306 0 [(0, .ref 336), (1, .int a)] [] M _
  refine zs_iload_n (pc := 0) t306_0 rfl ?_
  refine zs_i2l (pc := 1) t306_1 rfl ?_
  refine zs_lconst (pc := 2) t306_2 (v := 0) (by decide) ?_
  refine zs_aload_n (pc := 3) t306_3 rfl ?_
  refine zs_get (pc := 4) t306_4 (by decide) (zk1 (hs.k fk_zMm_336)) (hs.p rfl fv_zMm_336_0) ?_
  refine zs_iconst (pc := 7) t306_7 (v := 0) (by decide) ?_
  have w1 := ibA0 hI
  refine zs_iald (pc := 8) t306_8 (j := 0) (by decide) (zk1 (hs.k fk_zMm_337)) li0 (zk2 (hs.k fk_zMm_337) (by decide)) rfl ?_
  refine zs_iconst (pc := 9) t306_9 (v := 1) (by decide) ?_
  obtain ⟨w2v, w2e, w2⟩ := zisub (a := (zI M 337 0)) (b := (1 : Int32)) rfl li1 (by omega) (by omega)
  refine zs_isub (pc := 10) t306_10 (c := w2v) w2e ?_
  refine zs_i2l (pc := 11) t306_11 rfl ?_
  by_cases w3 : 0 ≤ a.toInt ∧ a.toInt ≤ ((zI M 337 0).toInt - 1)
  · refine zs_invS (pc := 12) (as := [.long a.toInt64, .long (0 : Int64), .long w2v.toInt64]) (st := []) t306_12 (by decide) mf228 rfl rfl ⟨by decide, by decide, Nat.le_of_ble_eq_true rfl, Nat.le_of_ble_eq_true rfl⟩ (K228T (zi2l rfl) ll0 (zi2l w2) (by omega) ?_) (fun _ _ q => q)
    show zGo X l 1 0 0 306 15 [(0, .ref 336), (1, .int a)] [.int (1 : Int32)] M _
    refine zs_iret (pc := 15) t306_15 mr306 (by decide) ?_
    show zGo X l 2 0 0 335 5 [(0, .ref 336), (1, .int a), (2, .int b)] [.int (1 : Int32)] M _
    refine zs_if_eqF (pc := 5) t335_5 li1 (by decide) ?_
    refine zs_iload_n (pc := 8) t335_8 rfl ?_
    refine zs_i2l (pc := 9) t335_9 rfl ?_
    refine zs_ldc2_w (pc := 10) t335_10 (v := -999) (by decide) ?_
    refine zs_ldc2_w (pc := 13) t335_13 (v := 999) (by decide) ?_
    by_cases w4 : (-999) ≤ b.toInt ∧ b.toInt ≤ 999
    · refine zs_invS (pc := 16) (as := [.long b.toInt64, .long (-999 : Int64), .long (999 : Int64)]) (st := []) t335_16 (by decide) mf228 rfl rfl ⟨by decide, by decide, Nat.le_of_ble_eq_true rfl, Nat.le_of_ble_eq_true rfl⟩ (K228T (zi2l rfl) lln999 ll999 (by omega) ?_) (fun _ _ q => q)
      show zGo X l 2 0 0 335 19 [(0, .ref 336), (1, .int a), (2, .int b)] [.int (1 : Int32)] M _
      refine zs_if_neT (pc := 19) t335_19 li1 (by decide) ?_
      refine zs_aload_n (pc := 24) t335_24 rfl ?_
      refine zs_iconst (pc := 25) t335_25 (v := 0) (by decide) ?_
      refine zs_invV (pc := 26) (k := 336) (as' := [.int (0 : Int32)]) (st := []) t335_26 mf230 rfl rfl (Or.inl ⟨by decide, (zk1 (hs.k fk_zMm_336))⟩) ⟨by decide, by decide, Nat.le_of_ble_eq_true rfl, Nat.le_of_ble_eq_true rfl⟩ (K230_0 hs hI pR pC ?_) (fun _ _ q => q)
      intro w5M w5s w5I w5F w5J w5PR w5PC w5PF
      show zGo X l 2 0 0 335 29 [(0, .ref 336), (1, .int a), (2, .int b)] [] w5M _
      refine zs_iconst (pc := 29) t335_29 (v := 0) (by decide) ?_
      refine zs_istore_n (pc := 30) t335_30 (ls' := [(3, .int (0 : Int32)), (0, .ref 336), (1, .int a), (2, .int b)]) (zml mf335 (by decide)) rfl ?_
      refine zs_iconst (pc := 31) t335_31 (v := 0) (by decide) ?_
      refine zs_istore (pc := 32) t335_32 (ls' := [(4, .int (0 : Int32)), (3, .int (0 : Int32)), (0, .ref 336), (1, .int a), (2, .int b)]) (zml mf335 (by decide)) rfl ?_
      have w6L : ∀ (m : Nat) (w6x3 : Int32) (w6x4 : Int32) (w6M : zM), (0 ≤ w6x4.toInt ∧ w6x4.toInt ≤ 60) → zSk zMm w6M → zIv mLo mHi w6M → zFr [(337, 337, none)] w5M w6M → zJ w6M 351 = zJ w5M 351 → zPR w6M → zPC w6M → ((zI w6M 337 1).toInt = (zI w5M 337 1).toInt) → 60 - w6x4.toInt ≤ (m : Int) → zGo X l 2 0 0 335 34 [(0, .ref 336), (1, .int a), (2, .int b), (3, .int w6x3), (4, .int w6x4)] [] w6M Q := by
        intro m
        induction m using Nat.strongRecOn with
        | ind w6m w6ih =>
          intro w6x3 w6x4 w6M w6b4 w6s w6I w6F w6J w6PR w6PC w6r0 w6q
          have w6g3 := zrg w6x3
          have w7 := ibA1 w6I
          have w8 := ibA1 w5I
          have w9 : (zI w5M 337 1).toInt = (zI w5M 337 1).toInt := (congrArg Int32.toInt rfl).trans rfl
          refine zs_iload (pc := 34) t335_34 rfl ?_
          refine zs_aload_n (pc := 36) t335_36 rfl ?_
          refine zs_get (pc := 37) t335_37 (by decide) (zk1 (w6s.k fk_zMm_336)) (w6s.p rfl fv_zMm_336_0) ?_
          refine zs_iconst (pc := 40) t335_40 (v := 1) (by decide) ?_
          refine zs_iald (pc := 41) t335_41 (j := 1) (by decide) (zk1 (w6s.k fk_zMm_337)) li1 (zk2 (w6s.k fk_zMm_337) (by decide)) rfl ?_
          by_cases w10 : (zI w6M 337 1).toInt ≤ w6x4.toInt
          · refine zs_icmp_geT (pc := 42) t335_42 rfl rfl (by omega) ?_
            refine zs_iload_n (pc := 108) t335_108 rfl ?_
            exact zs_iret (pc := 109) t335_109 mr335 rfl (hQ _ _ w6s w6I (((zFr.refl).trans (w5F.mono rfl)).trans (w6F.mono rfl)) w6PR w6PC (zPF.fr w5PF (w6F.eq rfl) w6J))
          · refine zs_icmp_geF (pc := 42) t335_42 rfl rfl (by omega) ?_
            refine zs_aload_n (pc := 45) t335_45 rfl ?_
            refine zs_iload (pc := 46) t335_46 rfl ?_
            refine zs_iconst (pc := 48) t335_48 (v := 0) (by decide) ?_
            refine zs_invV (pc := 49) (k := 336) (as' := [.int w6x4, .int (0 : Int32)]) (st := []) t335_49 mf272 rfl rfl (Or.inl ⟨by decide, (zk1 (w6s.k fk_zMm_336))⟩) ⟨by decide, by decide, Nat.le_of_ble_eq_true rfl, Nat.le_of_ble_eq_true rfl⟩ (zs_in (by decide) mf272 (Nat.le_of_ble_eq_true rfl) ?_) (fun _ _ q => q)
            show zGo X l 0 0 0 272 0 [(0, .ref 336), (1, .int w6x4), (2, .int (0 : Int32))] [] w6M _
            refine zs_aload_n (pc := 0) t272_0 rfl ?_
            refine zs_get (pc := 1) t272_1 (by decide) (zk1 (w6s.k fk_zMm_336)) (w6s.p rfl fv_zMm_336_0) ?_
            refine zs_bipush (pc := 4) t272_4 (v := 30) (by decide) ?_
            refine zs_iconst (pc := 6) t272_6 (v := 4) (by decide) ?_
            refine zs_iload_n (pc := 7) t272_7 rfl ?_
            obtain ⟨w11v, w11⟩ : ∃ v, (4 : Int32) * w6x4 = v := ⟨_, rfl⟩
            have w11g : w11v.toInt = 4 * w6x4.toInt := by rw [← w11]; exact zmulc li4 rfl (by omega) (by omega)
            refine zs_imul (pc := 8) t272_8 (c := w11v) w11 ?_
            obtain ⟨w12v, w12e, w12⟩ := ziadd (a := (30 : Int32)) (b := w11v) li30 w11g (by omega) (by omega)
            refine zs_iadd (pc := 9) t272_9 (c := w12v) w12e ?_
            refine zs_iload_n (pc := 10) t272_10 rfl ?_
            obtain ⟨w13v, w13e, w13⟩ := ziadd (a := w12v) (b := (0 : Int32)) w12 li0 (by omega) (by omega)
            refine zs_iadd (pc := 11) t272_11 (c := w13v) w13e ?_
            obtain ⟨w14n, w14⟩ : ∃ n : Nat, w6x4.toInt = (n : Int) := ⟨(w6x4.toInt).toNat, by omega⟩
            have w15 := ibL (j := (30 + 4 * w14n)) w6I (by omega) (by omega) (by omega)
            refine zs_iald (pc := 12) t272_12 (j := (30 + 4 * w14n)) (by decide) (zk1 (w6s.k fk_zMm_337)) (show w13v.toInt = (((30 + 4 * w14n) : Nat) : Int) by omega) (zk2 (w6s.k fk_zMm_337) (by omega)) rfl ?_
            refine zs_iret (pc := 13) t272_13 mr272 rfl ?_
            show zGo X l 2 0 0 335 52 [(0, .ref 336), (1, .int a), (2, .int b), (3, .int w6x3), (4, .int w6x4)] [.int (zI w6M 337 (30 + 4 * w14n))] w6M _
            refine zs_iload_n (pc := 52) t335_52 rfl ?_
            by_cases w16 : (zI w6M 337 (30 + 4 * w14n)).toInt ≠ a.toInt
            · refine zs_icmp_neT (pc := 53) t335_53 rfl rfl (by omega) ?_
              obtain ⟨w17v, w17e, w17⟩ := ziadd (a := w6x4) (b := Int32.ofInt 1) rfl (show (Int32.ofInt 1).toInt = 1 by decide) (by omega) (by omega)
              refine zs_iinc (pc := 102) t335_102 (ls' := [(4, .int w17v), (0, .ref 336), (1, .int a), (2, .int b), (3, .int w6x3)]) (zml mf335 (by decide)) rfl (c := w17v) w17e rfl ?_
              refine zs_goto (pc := 105) t335_105 ?_
              refine zGo.locals (ls' := [(0, .ref 336), (1, .int a), (2, .int b), (3, .int w6x3), (4, .int w17v)]) (by simp) ?_
              have w18 := w17
              have w19 : (zI w6M 337 1).toInt = (zI w6M 337 1).toInt := (congrArg Int32.toInt rfl).trans rfl
              exact w6ih (w6m - 1) (by omega) w6x3 w17v w6M ⟨by omega, by omega⟩ w6s w6I ((zFr.refl).trans (w6F.mono rfl)) w6J w6PR w6PC (by omega) (by omega)
            · refine zs_icmp_neF (pc := 53) t335_53 rfl rfl (by omega) ?_
              refine zs_aload_n (pc := 56) t335_56 rfl ?_
              refine zs_iload (pc := 57) t335_57 rfl ?_
              refine zs_iconst (pc := 59) t335_59 (v := 1) (by decide) ?_
              refine zs_invV (pc := 60) (k := 336) (as' := [.int w6x4, .int (1 : Int32)]) (st := []) t335_60 mf272 rfl rfl (Or.inl ⟨by decide, (zk1 (w6s.k fk_zMm_336))⟩) ⟨by decide, by decide, Nat.le_of_ble_eq_true rfl, Nat.le_of_ble_eq_true rfl⟩ (zs_in (by decide) mf272 (Nat.le_of_ble_eq_true rfl) ?_) (fun _ _ q => q)
              show zGo X l 0 0 0 272 0 [(0, .ref 336), (1, .int w6x4), (2, .int (1 : Int32))] [] w6M _
              refine zs_aload_n (pc := 0) t272_0 rfl ?_
              refine zs_get (pc := 1) t272_1 (by decide) (zk1 (w6s.k fk_zMm_336)) (w6s.p rfl fv_zMm_336_0) ?_
              refine zs_bipush (pc := 4) t272_4 (v := 30) (by decide) ?_
              refine zs_iconst (pc := 6) t272_6 (v := 4) (by decide) ?_
              refine zs_iload_n (pc := 7) t272_7 rfl ?_
              obtain ⟨w20v, w20⟩ : ∃ v, (4 : Int32) * w6x4 = v := ⟨_, rfl⟩
              have w20g : w20v.toInt = 4 * w6x4.toInt := by rw [← w20]; exact zmulc li4 rfl (by omega) (by omega)
              refine zs_imul (pc := 8) t272_8 (c := w20v) w20 ?_
              obtain ⟨w21v, w21e, w21⟩ := ziadd (a := (30 : Int32)) (b := w20v) li30 w20g (by omega) (by omega)
              refine zs_iadd (pc := 9) t272_9 (c := w21v) w21e ?_
              refine zs_iload_n (pc := 10) t272_10 rfl ?_
              obtain ⟨w22v, w22e, w22⟩ := ziadd (a := w21v) (b := (1 : Int32)) w21 li1 (by omega) (by omega)
              refine zs_iadd (pc := 11) t272_11 (c := w22v) w22e ?_
              have w23 := zrg (zI w6M 337 (31 + 4 * w14n))
              refine zs_iald (pc := 12) t272_12 (j := (31 + 4 * w14n)) (by decide) (zk1 (w6s.k fk_zMm_337)) (show w22v.toInt = (((31 + 4 * w14n) : Nat) : Int) by omega) (zk2 (w6s.k fk_zMm_337) (by omega)) rfl ?_
              refine zs_iret (pc := 13) t272_13 mr272 rfl ?_
              show zGo X l 2 0 0 335 63 [(0, .ref 336), (1, .int a), (2, .int b), (3, .int w6x3), (4, .int w6x4)] [.int (zI w6M 337 (31 + 4 * w14n))] w6M _
              refine zs_iload_n (pc := 63) t335_63 rfl ?_
              obtain ⟨w24v, w24⟩ : ∃ v, v = (zI w6M 337 (31 + 4 * w14n)) + b := ⟨_, rfl⟩
              have w24g := zrg w24v
              refine zs_iadd (pc := 64) t335_64 (c := w24v) w24.symm ?_
              refine zs_i2l (pc := 65) t335_65 rfl ?_
              refine zs_ldc2_w (pc := 66) t335_66 (v := -9999) (by decide) ?_
              refine zs_ldc2_w (pc := 69) t335_69 (v := 9999) (by decide) ?_
              by_cases w25 : (-9999) ≤ w24v.toInt ∧ w24v.toInt ≤ 9999
              · refine zs_invS (pc := 72) (as := [.long w24v.toInt64, .long (-9999 : Int64), .long (9999 : Int64)]) (st := []) t335_72 (by decide) mf228 rfl rfl ⟨by decide, by decide, Nat.le_of_ble_eq_true rfl, Nat.le_of_ble_eq_true rfl⟩ (K228T (zi2l rfl) lln9999 ll9999 (by omega) ?_) (fun _ _ q => q)
                show zGo X l 2 0 0 335 75 [(0, .ref 336), (1, .int a), (2, .int b), (3, .int w6x3), (4, .int w6x4)] [.int (1 : Int32)] w6M _
                refine zs_if_neT (pc := 75) t335_75 li1 (by decide) ?_
                refine zs_aload_n (pc := 81) t335_81 rfl ?_
                refine zs_get (pc := 82) t335_82 (by decide) (zk1 (w6s.k fk_zMm_336)) (w6s.p rfl fv_zMm_336_0) ?_
                refine zs_bipush (pc := 85) t335_85 (v := 30) (by decide) ?_
                refine zs_iconst (pc := 87) t335_87 (v := 4) (by decide) ?_
                refine zs_iload (pc := 88) t335_88 rfl ?_
                obtain ⟨w26v, w26⟩ : ∃ v, (4 : Int32) * w6x4 = v := ⟨_, rfl⟩
                have w26g : w26v.toInt = 4 * w6x4.toInt := by rw [← w26]; exact zmulc li4 rfl (by omega) (by omega)
                refine zs_imul (pc := 90) t335_90 (c := w26v) w26 ?_
                obtain ⟨w27v, w27e, w27⟩ := ziadd (a := (30 : Int32)) (b := w26v) li30 w26g (by omega) (by omega)
                refine zs_iadd (pc := 91) t335_91 (c := w27v) w27e ?_
                refine zs_iconst (pc := 92) t335_92 (v := 1) (by decide) ?_
                obtain ⟨w28v, w28e, w28⟩ := ziadd (a := w27v) (b := (1 : Int32)) w27 li1 (by omega) (by omega)
                refine zs_iadd (pc := 93) t335_93 (c := w28v) w28e ?_
                refine zs_dup2 (pc := 94) t335_94 ⟨rfl, rfl⟩ ?_
                refine zs_iald (pc := 95) t335_95 (j := (31 + 4 * w14n)) (by decide) (zk1 (w6s.k fk_zMm_337)) (show w28v.toInt = (((31 + 4 * w14n) : Nat) : Int) by omega) (zk2 (w6s.k fk_zMm_337) (by omega)) rfl ?_
                refine zs_iload_n (pc := 96) t335_96 rfl ?_
                obtain ⟨w29v, w29⟩ : ∃ v, v = (zI w6M 337 (31 + 4 * w14n)) + b := ⟨_, rfl⟩
                have w29g := zrg w29v
                refine zs_iadd (pc := 97) t335_97 (c := w29v) w29.symm ?_
                have w30a := aN (p := (31 + 4 * w14n)) (by omega)
                have w30 : zIv mLo mHi (zsI w6M 337 (31 + 4 * w14n) w29v) := zIv.putA w6I (by omega) (by rw [w30a.1, w30a.2]; exact zrg w29v)
                have w31 := ibA0 w6I
                have w32 : (zI w6M 337 0).toInt = (zI w6M 337 0).toInt := (congrArg Int32.toInt rfl).trans rfl
                have w33 : (zI w6M 337 1).toInt = (zI w6M 337 1).toInt := (congrArg Int32.toInt rfl).trans rfl
                have w34 : zPR (zsI w6M 337 (31 + 4 * w14n) w29v) := zPR.put w6PR (by omega) (by omega) (by omega) (by omega)
                have w35 : zPC (zsI w6M 337 (31 + 4 * w14n) w29v) := zPC.put w6PC (by omega) (by omega)
                refine zs_iast (pc := 98) t335_98 (j := (31 + 4 * w14n)) (by decide) (zk1 (w6s.k fk_zMm_337)) (show w28v.toInt = (((31 + 4 * w14n) : Nat) : Int) by omega) (zk2 (w6s.k fk_zMm_337) (by omega)) ?_
                obtain ⟨w36v, w36e⟩ : ∃ v, w6x3 + Int32.ofInt 1 = v := ⟨_, rfl⟩
                have w36 := zrg w36v
                refine zs_iinc (pc := 99) t335_99 (ls' := [(3, .int w36v), (0, .ref 336), (1, .int a), (2, .int b), (4, .int w6x4)]) (zml mf335 (by decide)) rfl (c := w36v) w36e rfl ?_
                obtain ⟨w37v, w37e, w37⟩ := ziadd (a := w6x4) (b := Int32.ofInt 1) rfl (show (Int32.ofInt 1).toInt = 1 by decide) (by omega) (by omega)
                refine zs_iinc (pc := 102) t335_102 (ls' := [(4, .int w37v), (3, .int w36v), (0, .ref 336), (1, .int a), (2, .int b)]) (zml mf335 (by decide)) rfl (c := w37v) w37e rfl ?_
                refine zs_goto (pc := 105) t335_105 ?_
                refine zGo.locals (ls' := [(0, .ref 336), (1, .int a), (2, .int b), (3, .int w36v), (4, .int w37v)]) (by simp) ?_
                have w38 := w37
                have w39 : (zI (zsI w6M 337 (31 + 4 * w14n) w29v) 337 1).toInt = (zI w6M 337 1).toInt := (congrArg Int32.toInt ((zIoj (by omega)).trans rfl)).trans rfl
                exact w6ih (w6m - 1) (by omega) w36v w37v (zsI w6M 337 (31 + 4 * w14n) w29v) ⟨by omega, by omega⟩ w6s w30 (((zFr.refl).trans (w6F.mono rfl)).put rfl) w6J w34 w35 (by omega) (by omega)
              · refine zs_invS (pc := 72) (as := [.long w24v.toInt64, .long (-9999 : Int64), .long (9999 : Int64)]) (st := []) t335_72 (by decide) mf228 rfl rfl ⟨by decide, by decide, Nat.le_of_ble_eq_true rfl, Nat.le_of_ble_eq_true rfl⟩ (K228F (zi2l rfl) lln9999 ll9999 (by omega) ?_) (fun _ _ q => q)
                show zGo X l 2 0 0 335 75 [(0, .ref 336), (1, .int a), (2, .int b), (3, .int w6x3), (4, .int w6x4)] [.int (0 : Int32)] w6M _
                refine zs_if_neF (pc := 75) t335_75 li0 (by decide) ?_
                refine zs_goto (pc := 78) t335_78 ?_
                obtain ⟨w40v, w40e, w40⟩ := ziadd (a := w6x4) (b := Int32.ofInt 1) rfl (show (Int32.ofInt 1).toInt = 1 by decide) (by omega) (by omega)
                refine zs_iinc (pc := 102) t335_102 (ls' := [(4, .int w40v), (0, .ref 336), (1, .int a), (2, .int b), (3, .int w6x3)]) (zml mf335 (by decide)) rfl (c := w40v) w40e rfl ?_
                refine zs_goto (pc := 105) t335_105 ?_
                refine zGo.locals (ls' := [(0, .ref 336), (1, .int a), (2, .int b), (3, .int w6x3), (4, .int w40v)]) (by simp) ?_
                have w41 := w40
                have w42 : (zI w6M 337 1).toInt = (zI w6M 337 1).toInt := (congrArg Int32.toInt rfl).trans rfl
                exact w6ih (w6m - 1) (by omega) w6x3 w40v w6M ⟨by omega, by omega⟩ w6s w6I ((zFr.refl).trans (w6F.mono rfl)) w6J w6PR w6PC (by omega) (by omega)
      refine zGo.locals (ls' := [(0, .ref 336), (1, .int a), (2, .int b), (3, .int (0 : Int32)), (4, .int (0 : Int32))]) (by simp) ?_
      have w43 := li0
      have w44 := li0
      have w45 : (zI w5M 337 1).toInt = (zI w5M 337 1).toInt := (congrArg Int32.toInt rfl).trans rfl
      exact w6L ((60 - 0 : Int).toNat) (0 : Int32) (0 : Int32) w5M ⟨by decide, by decide⟩ w5s w5I zFr.refl rfl w5PR w5PC (by omega) (by omega)
    · refine zs_invS (pc := 16) (as := [.long b.toInt64, .long (-999 : Int64), .long (999 : Int64)]) (st := []) t335_16 (by decide) mf228 rfl rfl ⟨by decide, by decide, Nat.le_of_ble_eq_true rfl, Nat.le_of_ble_eq_true rfl⟩ (K228F (zi2l rfl) lln999 ll999 (by omega) ?_) (fun _ _ q => q)
      show zGo X l 2 0 0 335 19 [(0, .ref 336), (1, .int a), (2, .int b)] [.int (0 : Int32)] M _
      refine zs_if_neF (pc := 19) t335_19 li0 (by decide) ?_
      refine zs_iconst (pc := 22) t335_22 (v := -1) (by decide) ?_
      exact zs_iret (pc := 23) t335_23 mr335 (by decide) (hQ _ _ hs hI (zFr.refl) pR pC pF)
  · refine zs_invS (pc := 12) (as := [.long a.toInt64, .long (0 : Int64), .long w2v.toInt64]) (st := []) t306_12 (by decide) mf228 rfl rfl ⟨by decide, by decide, Nat.le_of_ble_eq_true rfl, Nat.le_of_ble_eq_true rfl⟩ (K228F (zi2l rfl) ll0 (zi2l w2) (by omega) ?_) (fun _ _ q => q)
    show zGo X l 1 0 0 306 15 [(0, .ref 336), (1, .int a)] [.int (0 : Int32)] M _
    refine zs_iret (pc := 15) t306_15 mr306 (by decide) ?_
    show zGo X l 2 0 0 335 5 [(0, .ref 336), (1, .int a), (2, .int b)] [.int (0 : Int32)] M _
    refine zs_if_eqT (pc := 5) t335_5 li0 (by decide) ?_
    refine zs_iconst (pc := 22) t335_22 (v := -1) (by decide) ?_
    exact zs_iret (pc := 23) t335_23 mr335 (by decide) (hQ _ _ hs hI (zFr.refl) pR pC pF)
theorem K343 {X : zX} {l : Launch} {M : zM} {Q : Option Value → zM → Prop} (hs : zSk zMm M) (hI : zIv mLo mHi M) (u0 : (zI M 336 7).toInt = -1) (u1 : (zI M 336 6).toInt < (zI M 336 5).toInt) (hQ : ∀ (M' : zM) (v : Int32), zSk zMm M' → zIv mLo mHi M' → zFr [(336, 336, some 6), (336, 336, some 7), (336, 336, some 8), (362, 362, none), (336, 336, some 47)] M M' → zJ M' 351 = zJ M 351 → ((0 ≤ (zI M' 336 7).toInt) ∨ ((zI M' 336 7).toInt = -1 ∧ (zI M 336 6).toInt < (zI M' 336 6).toInt)) → 0 ≤ v.toInt → v.toInt ≤ 1 → Q (some (.int v)) M') : zCall X l 3 0 0 343 [.ref 336] M Q := by
  refine zs_in (by decide) mf343 (Nat.le_of_ble_eq_true rfl) ?_
  show zGo X l 3 0 0 343 0 [(0, .ref 336)] [] M _
  refine zs_aload_n (pc := 0) t343_0 rfl ?_
  have w1 := ib336_6 hI
  have w2 : (zI M 336 6).toInt = (zI M 336 6).toInt := (congrArg Int32.toInt rfl).trans rfl
  have w3 := ib336_5 hI
  have w4 : (zI M 336 5).toInt = (zI M 336 5).toInt := (congrArg Int32.toInt rfl).trans rfl
  refine zs_invV (pc := 1) (k := 336) (as' := []) (st := []) t343_1 mf238 rfl rfl (Or.inl ⟨by decide, (zk1 (hs.k fk_zMm_336))⟩) ⟨by decide, by decide, Nat.le_of_ble_eq_true rfl, Nat.le_of_ble_eq_true rfl⟩ (K238 hs hI ?_) (fun _ _ q => q)
  intro w5v w5t0 w5a w5b
  show zGo X l 3 0 0 343 4 [(0, .ref 336)] [.int w5v] M _
  refine zs_istore_n (pc := 4) t343_4 (ls' := [(1, .int w5v), (0, .ref 336)]) (zml mf343 (by decide)) rfl ?_
  refine zs_iload_n (pc := 5) t343_5 rfl ?_
  refine zs_bipush (pc := 6) t343_6 (v := 104) (by decide) ?_
  by_cases w6 : w5v.toInt ≠ 104
  · refine zs_icmp_neT (pc := 8) t343_8 rfl li104 (by omega) ?_
    refine zs_iload_n (pc := 15) t343_15 rfl ?_
    refine zs_bipush (pc := 16) t343_16 (v := 120) (by decide) ?_
    by_cases w7 : w5v.toInt = 120
    · refine zs_icmp_eqT (pc := 18) t343_18 rfl li120 (by omega) ?_
      refine zs_iconst (pc := 33) t343_33 (v := 1) (by decide) ?_
      refine zs_goto (pc := 34) t343_34 ?_
      refine zs_istore_n (pc := 38) t343_38 (ls' := [(2, .int (1 : Int32)), (1, .int w5v), (0, .ref 336)]) (zml mf343 (by decide)) rfl ?_
      refine zs_iload_n (pc := 39) t343_39 rfl ?_
      refine zs_if_eqF (pc := 40) t343_40 li1 (by decide) ?_
      refine zs_aload_n (pc := 43) t343_43 rfl ?_
      have w8 := ib336_47 hI
      refine zs_get (pc := 44) t343_44 (by decide) (zk1 (hs.k fk_zMm_336)) (zfvi rfl rfl) ?_
      refine zs_bipush (pc := 47) t343_47 (v := 20) (by decide) ?_
      by_cases w9 : (zI M 336 47).toInt ≠ 20
      · refine zs_icmp_neT (pc := 49) t343_49 rfl li20 (by omega) ?_
        refine zs_iconst (pc := 61) t343_61 (v := 4) (by decide) ?_
        refine zs_aload_n (pc := 62) t343_62 rfl ?_
        refine zs_get (pc := 63) t343_63 (by decide) (zk1 (hs.k fk_zMm_336)) (zfvi rfl rfl) ?_
        obtain ⟨w10v, w10⟩ : ∃ v, (4 : Int32) * (zI M 336 47) = v := ⟨_, rfl⟩
        have w10g : w10v.toInt = 4 * (zI M 336 47).toInt := by rw [← w10]; exact zmulc li4 rfl (by omega) (by omega)
        refine zs_imul (pc := 66) t343_66 (c := w10v) w10 ?_
        refine zs_istore_n (pc := 67) t343_67 (ls' := [(3, .int w10v), (2, .int (1 : Int32)), (1, .int w5v), (0, .ref 336)]) (zml mf343 (by decide)) rfl ?_
        refine zs_aload_n (pc := 68) t343_68 rfl ?_
        refine zs_get (pc := 69) t343_69 (by decide) (zk1 (hs.k fk_zMm_336)) (hs.p rfl fv_zMm_336_46) ?_
        refine zs_iload_n (pc := 72) t343_72 rfl ?_
        refine zs_iload_n (pc := 73) t343_73 rfl ?_
        obtain ⟨w11n, w11⟩ : ∃ n : Nat, (zI M 336 47).toInt = (n : Int) := ⟨((zI M 336 47).toInt).toNat, by omega⟩
        have w12 : zIv mLo mHi (zsI M 362 (4 * w11n) w5v) := zIv.put hI (show (-2147483648) ≤ w5v.toInt ∧ w5v.toInt ≤ 2147483647 from zrg w5v)
        refine zs_iast (pc := 74) t343_74 (j := (4 * w11n)) (by decide) (zk1 (hs.k fk_zMm_362)) (show w10v.toInt = (((4 * w11n) : Nat) : Int) by omega) (zk2 (hs.k fk_zMm_362) (by omega)) ?_
        refine zs_aload_n (pc := 75) t343_75 rfl ?_
        refine zs_dup (pc := 76) t343_76 rfl ?_
        refine zs_get (pc := 77) t343_77 (by decide) (zk1 (hs.k fk_zMm_336)) (zfvi rfl ((zIo (by decide)).trans rfl)) ?_
        refine zs_iconst (pc := 80) t343_80 (v := 1) (by decide) ?_
        obtain ⟨w13v, w13e, w13⟩ := ziadd (a := (zI M 336 6)) (b := (1 : Int32)) rfl li1 (by omega) (by omega)
        refine zs_iadd (pc := 81) t343_81 (c := w13v) w13e ?_
        have w14 : zIv mLo mHi (zsI (zsI M 362 (4 * w11n) w5v) 336 6 w13v) := zIv.put w12 (show 0 ≤ w13v.toInt ∧ w13v.toInt ≤ 500 from ⟨by omega, by omega⟩)
        refine zs_putI (pc := 82) t343_82 (zk1 (hs.k fk_zMm_336)) rfl ?_
        refine zs_iconst (pc := 85) t343_85 (v := 1) (by decide) ?_
        refine zs_istore (pc := 86) t343_86 (ls' := [(4, .int (1 : Int32)), (3, .int w10v), (2, .int (1 : Int32)), (1, .int w5v), (0, .ref 336)]) (zml mf343 (by decide)) rfl ?_
        have w15L : ∀ (m : Nat) (w15x4 : Int32) (w15M : zM), (1 ≤ w15x4.toInt ∧ w15x4.toInt ≤ 4) → zSk zMm w15M → zIv mLo mHi w15M → zFr [(336, 336, some 6), (336, 336, some 7), (336, 336, some 8), (362, 362, none)] (zsI (zsI M 362 (4 * w11n) w5v) 336 6 w13v) w15M → zJ w15M 351 = zJ (zsI (zsI M 362 (4 * w11n) w5v) 336 6 w13v) 351 → ((zI w15M 336 47).toInt = (zI (zsI (zsI M 362 (4 * w11n) w5v) 336 6 w13v) 336 47).toInt) → ((zI (zsI (zsI M 362 (4 * w11n) w5v) 336 6 w13v) 336 6).toInt ≤ (zI w15M 336 6).toInt) → ((zI w15M 336 7).toInt = (zI (zsI (zsI M 362 (4 * w11n) w5v) 336 6 w13v) 336 7).toInt) → 4 - w15x4.toInt ≤ (m : Int) → zGo X l 3 0 0 343 88 [(0, .ref 336), (1, .int w5v), (2, .int (1 : Int32)), (3, .int w10v), (4, .int w15x4)] [] w15M Q := by
          intro m
          induction m using Nat.strongRecOn with
          | ind w15m w15ih =>
            intro w15x4 w15M w15b4 w15s w15I w15F w15J w15r0 w15r1 w15r2 w15q
            have w16 : (zI (zsI (zsI M 362 (4 * w11n) w5v) 336 6 w13v) 336 47).toInt = (zI M 336 47).toInt := (congrArg Int32.toInt ((zIoj (by decide)).trans ((zIo (by decide)).trans rfl))).trans rfl
            have w17 := ib336_6 w15I
            have w18 : (zI (zsI (zsI M 362 (4 * w11n) w5v) 336 6 w13v) 336 6).toInt = ((zI M 336 6).toInt + 1) := (congrArg Int32.toInt zIs).trans w13
            have w19 := ib336_7 w15I
            have w20 := ib336_7 hI
            have w21 : (zI (zsI (zsI M 362 (4 * w11n) w5v) 336 6 w13v) 336 7).toInt = (zI M 336 7).toInt := (congrArg Int32.toInt ((zIoj (by decide)).trans ((zIo (by decide)).trans rfl))).trans rfl
            refine zs_iload (pc := 88) t343_88 rfl ?_
            refine zs_iload_n (pc := 90) t343_90 rfl ?_
            by_cases w22 : 1 < w15x4.toInt
            · refine zs_icmp_gtT (pc := 91) t343_91 rfl li1 (by omega) ?_
              refine zs_aload_n (pc := 148) t343_148 rfl ?_
              refine zs_dup (pc := 149) t343_149 rfl ?_
              refine zs_get (pc := 150) t343_150 (by decide) (zk1 (w15s.k fk_zMm_336)) (zfvi rfl ((w15F 336 47 rfl).trans ((zIoj (by decide)).trans ((zIo (by decide)).trans rfl)))) ?_
              refine zs_iconst (pc := 153) t343_153 (v := 1) (by decide) ?_
              obtain ⟨w23v, w23e, w23⟩ := ziadd (a := (zI M 336 47)) (b := (1 : Int32)) rfl li1 (by omega) (by omega)
              refine zs_iadd (pc := 154) t343_154 (c := w23v) w23e ?_
              have w24 : zIv mLo mHi (zsI w15M 336 47 w23v) := zIv.put w15I (show 0 ≤ w23v.toInt ∧ w23v.toInt ≤ 20 from ⟨by omega, by omega⟩)
              refine zs_putI (pc := 155) t343_155 (zk1 (w15s.k fk_zMm_336)) rfl ?_
              refine zs_iconst (pc := 158) t343_158 (v := 1) (by decide) ?_
              have w25 : (zI (zsI w15M 336 47 w23v) 336 7).toInt = (zI w15M 336 7).toInt := (congrArg Int32.toInt ((zIoj (by decide)).trans rfl)).trans rfl
              have w26 : (zI (zsI w15M 336 47 w23v) 336 6).toInt = (zI w15M 336 6).toInt := (congrArg Int32.toInt ((zIoj (by decide)).trans rfl)).trans rfl
              have w27 := li1
              exact zs_iret (pc := 159) t343_159 mr343 (by decide) (hQ _ _ w15s w24 (((((zFr.refl).put rfl).put rfl).trans (w15F.mono rfl)).put rfl) w15J (by omega) (by decide) (by decide))
            · refine zs_icmp_gtF (pc := 91) t343_91 rfl li1 (by omega) ?_
              refine zs_aload_n (pc := 94) t343_94 rfl ?_
              refine zs_sipush (pc := 95) t343_95 (v := -9999) (by decide) ?_
              refine zs_sipush (pc := 98) t343_98 (v := 9999) (by decide) ?_
              have w28 : (-9999 : Int32).toInt = (-9999) := lin9999
              have w29 : (9999 : Int32).toInt = 9999 := li9999
              have w30 : (zI w15M 336 6).toInt = (zI w15M 336 6).toInt := (congrArg Int32.toInt rfl).trans rfl
              have w31 : (zI w15M 336 7).toInt = (zI w15M 336 7).toInt := (congrArg Int32.toInt rfl).trans rfl
              refine zs_invV (pc := 101) (k := 336) (as' := [.int (-9999 : Int32), .int (9999 : Int32)]) (st := []) t343_101 mf243 rfl rfl (Or.inl ⟨by decide, (zk1 (w15s.k fk_zMm_336))⟩) ⟨by decide, by decide, Nat.le_of_ble_eq_true rfl, Nat.le_of_ble_eq_true rfl⟩ (K243 w15s w15I ?_) (fun _ _ q => q)
              intro w32M w32v w32s w32I w32F w32J w32t0 w32t1 w32t2 w32a w32b
              have w33 := zrg (zI w32M 336 8)
              have w34 := ib336_6 w32I
              have w35 := ib336_7 w32I
              show zGo X l 3 0 0 343 104 [(0, .ref 336), (1, .int w5v), (2, .int (1 : Int32)), (3, .int w10v), (4, .int w15x4)] [.int w32v] w32M _
              by_cases w36 : w32v.toInt = 0
              · refine zs_if_eqT (pc := 104) t343_104 rfl (by omega) ?_
                refine zs_iconst (pc := 127) t343_127 (v := 0) (by decide) ?_
                have w37 : (zI w32M 336 7).toInt = (zI w32M 336 7).toInt := (congrArg Int32.toInt rfl).trans rfl
                have w38 : (zI w32M 336 6).toInt = (zI w32M 336 6).toInt := (congrArg Int32.toInt rfl).trans rfl
                have w39 := li0
                exact zs_iret (pc := 128) t343_128 mr343 (by decide) (hQ _ _ w32s w32I (((((zFr.refl).put rfl).put rfl).trans (w15F.mono rfl)).trans (w32F.mono rfl)) (w32J.trans w15J) (by omega) (by decide) (by decide))
              · refine zs_if_eqF (pc := 104) t343_104 rfl (by omega) ?_
                refine zs_aload_n (pc := 107) t343_107 rfl ?_
                refine zs_iload (pc := 108) t343_108 rfl ?_
                refine zs_iload_n (pc := 110) t343_110 rfl ?_
                refine zs_icmp_neF (pc := 111) t343_111 rfl li1 (by omega) ?_
                refine zs_bipush (pc := 114) t343_114 (v := 59) (by decide) ?_
                refine zs_goto (pc := 116) t343_116 ?_
                have w40 : (59 : Int32).toInt = 59 := li59
                have w41 : (zI w32M 336 6).toInt = (zI w32M 336 6).toInt := (congrArg Int32.toInt rfl).trans rfl
                have w42 : (zI w32M 336 7).toInt = (zI w32M 336 7).toInt := (congrArg Int32.toInt rfl).trans rfl
                refine zs_invV (pc := 121) (k := 336) (as' := [.int (59 : Int32)]) (st := []) t343_121 mf246 rfl rfl (Or.inl ⟨by decide, (zk1 (w32s.k fk_zMm_336))⟩) ⟨by decide, by decide, Nat.le_of_ble_eq_true rfl, Nat.le_of_ble_eq_true rfl⟩ (K246 w32s w32I ⟨by decide, by decide⟩ ?_) (fun _ _ q => q)
                intro w43M w43v w43s w43I w43F w43J w43t0 w43t1 w43a w43b
                have w44 := ib336_6 w43I
                have w45 := ib336_7 w43I
                show zGo X l 3 0 0 343 124 [(0, .ref 336), (1, .int w5v), (2, .int (1 : Int32)), (3, .int w10v), (4, .int w15x4)] [.int w43v] w43M _
                by_cases w46 : w43v.toInt ≠ 0
                · refine zs_if_neT (pc := 124) t343_124 rfl (by omega) ?_
                  refine zs_aload_n (pc := 129) t343_129 rfl ?_
                  refine zs_get (pc := 130) t343_130 (by decide) (zk1 (w43s.k fk_zMm_336)) (w43s.p rfl fv_zMm_336_46) ?_
                  refine zs_iload_n (pc := 133) t343_133 rfl ?_
                  refine zs_iload (pc := 134) t343_134 rfl ?_
                  obtain ⟨w47v, w47e, w47⟩ := ziadd (a := w10v) (b := w15x4) w10g rfl (by omega) (by omega)
                  refine zs_iadd (pc := 136) t343_136 (c := w47v) w47e ?_
                  refine zs_aload_n (pc := 137) t343_137 rfl ?_
                  refine zs_get (pc := 138) t343_138 (by decide) (zk1 (w43s.k fk_zMm_336)) (zfvi rfl ((w43F 336 8 rfl).trans rfl)) ?_
                  obtain ⟨w48n, w48⟩ : ∃ n : Nat, w15x4.toInt = (n : Int) := ⟨(w15x4.toInt).toNat, by omega⟩
                  have w49 : zIv mLo mHi (zsI w43M 362 (4 * w11n + w48n) (zI w32M 336 8)) := zIv.put w43I (show (-2147483648) ≤ (zI w32M 336 8).toInt ∧ (zI w32M 336 8).toInt ≤ 2147483647 from zrg (zI w32M 336 8))
                  refine zs_iast (pc := 141) t343_141 (j := (4 * w11n + w48n)) (by decide) (zk1 (w43s.k fk_zMm_362)) (show w47v.toInt = (((4 * w11n + w48n) : Nat) : Int) by omega) (zk2 (w43s.k fk_zMm_362) (by omega)) ?_
                  obtain ⟨w50v, w50e, w50⟩ := ziadd (a := w15x4) (b := Int32.ofInt 1) rfl (show (Int32.ofInt 1).toInt = 1 by decide) (by omega) (by omega)
                  refine zs_iinc (pc := 142) t343_142 (ls' := [(4, .int w50v), (0, .ref 336), (1, .int w5v), (2, .int (1 : Int32)), (3, .int w10v)]) (zml mf343 (by decide)) rfl (c := w50v) w50e rfl ?_
                  refine zs_goto (pc := 145) t343_145 ?_
                  refine zGo.locals (ls' := [(0, .ref 336), (1, .int w5v), (2, .int (1 : Int32)), (3, .int w10v), (4, .int w50v)]) (by simp) ?_
                  have w51 := w50
                  have w52 : (zI (zsI w43M 362 (4 * w11n + w48n) (zI w32M 336 8)) 336 47).toInt = (zI M 336 47).toInt := (congrArg Int32.toInt ((zIo (by decide)).trans ((w43F 336 47 rfl).trans ((w32F 336 47 rfl).trans ((w15F 336 47 rfl).trans ((zIoj (by decide)).trans ((zIo (by decide)).trans rfl))))))).trans rfl
                  have w53 : (zI (zsI w43M 362 (4 * w11n + w48n) (zI w32M 336 8)) 336 6).toInt = (zI w43M 336 6).toInt := (congrArg Int32.toInt ((zIo (by decide)).trans rfl)).trans rfl
                  have w54 : (zI (zsI w43M 362 (4 * w11n + w48n) (zI w32M 336 8)) 336 7).toInt = (zI w43M 336 7).toInt := (congrArg Int32.toInt ((zIo (by decide)).trans rfl)).trans rfl
                  exact w15ih (w15m - 1) (by omega) w50v (zsI w43M 362 (4 * w11n + w48n) (zI w32M 336 8)) ⟨by omega, by omega⟩ w43s w49 (((((zFr.refl).trans (w15F.mono rfl)).trans (w32F.mono rfl)).trans (w43F.mono rfl)).put rfl) (w43J.trans (w32J.trans w15J)) (by omega) (by omega) (by omega) (by omega)
                · refine zs_if_neF (pc := 124) t343_124 rfl (by omega) ?_
                  refine zs_iconst (pc := 127) t343_127 (v := 0) (by decide) ?_
                  have w55 : (zI w43M 336 7).toInt = (zI w43M 336 7).toInt := (congrArg Int32.toInt rfl).trans rfl
                  have w56 : (zI w43M 336 6).toInt = (zI w43M 336 6).toInt := (congrArg Int32.toInt rfl).trans rfl
                  have w57 := li0
                  exact zs_iret (pc := 128) t343_128 mr343 (by decide) (hQ _ _ w43s w43I ((((((zFr.refl).put rfl).put rfl).trans (w15F.mono rfl)).trans (w32F.mono rfl)).trans (w43F.mono rfl)) (w43J.trans (w32J.trans w15J)) (by omega) (by decide) (by decide))
        refine zGo.locals (ls' := [(0, .ref 336), (1, .int w5v), (2, .int (1 : Int32)), (3, .int w10v), (4, .int (1 : Int32))]) (by simp) ?_
        have w58 := li1
        have w59 : (zI (zsI (zsI M 362 (4 * w11n) w5v) 336 6 w13v) 336 47).toInt = (zI M 336 47).toInt := (congrArg Int32.toInt ((zIoj (by decide)).trans ((zIo (by decide)).trans rfl))).trans rfl
        have w60 : (zI (zsI (zsI M 362 (4 * w11n) w5v) 336 6 w13v) 336 6).toInt = ((zI M 336 6).toInt + 1) := (congrArg Int32.toInt zIs).trans w13
        have w61 : (zI (zsI (zsI M 362 (4 * w11n) w5v) 336 6 w13v) 336 7).toInt = (zI M 336 7).toInt := (congrArg Int32.toInt ((zIoj (by decide)).trans ((zIo (by decide)).trans rfl))).trans rfl
        exact w15L ((4 - 1 : Int).toNat) (1 : Int32) (zsI (zsI M 362 (4 * w11n) w5v) 336 6 w13v) ⟨by decide, by decide⟩ hs w14 zFr.refl rfl (by omega) (by omega) (by omega) (by omega)
      · refine zs_icmp_neF (pc := 49) t343_49 rfl li20 (by omega) ?_
        refine zs_aload_n (pc := 52) t343_52 rfl ?_
        refine zs_aload_n (pc := 53) t343_53 rfl ?_
        refine zs_get (pc := 54) t343_54 (by decide) (zk1 (hs.k fk_zMm_336)) (zfvi rfl rfl) ?_
        refine zs_invV (pc := 57) (k := 336) (as' := [.int (zI M 336 6)]) (st := []) t343_57 mf239 rfl rfl (Or.inl ⟨by decide, (zk1 (hs.k fk_zMm_336))⟩) ⟨by decide, by decide, Nat.le_of_ble_eq_true rfl, Nat.le_of_ble_eq_true rfl⟩ (zs_in (by decide) mf239 (Nat.le_of_ble_eq_true rfl) ?_) (fun _ _ q => q)
        show zGo X l 0 0 0 239 0 [(0, .ref 336), (1, .int (zI M 336 6))] [] M _
        refine zs_aload_n (pc := 0) t239_0 rfl ?_
        refine zs_iload_n (pc := 1) t239_1 rfl ?_
        have w62 : zIv mLo mHi (zsI M 336 7 (zI M 336 6)) := zIv.put hI (show (-1) ≤ (zI M 336 6).toInt ∧ (zI M 336 6).toInt ≤ 500 from ⟨by omega, by omega⟩)
        refine zs_putI (pc := 2) t239_2 (zk1 (hs.k fk_zMm_336)) rfl ?_
        refine zs_iconst (pc := 5) t239_5 (v := 0) (by decide) ?_
        refine zs_iret (pc := 6) t239_6 mr239 (by decide) ?_
        show zGo X l 3 0 0 343 60 [(2, .int (1 : Int32)), (1, .int w5v), (0, .ref 336)] [.int (0 : Int32)] (zsI M 336 7 (zI M 336 6)) _
        have w63 : (zI (zsI M 336 7 (zI M 336 6)) 336 7).toInt = (zI M 336 6).toInt := (congrArg Int32.toInt zIs).trans rfl
        have w64 : (zI (zsI M 336 7 (zI M 336 6)) 336 6).toInt = (zI M 336 6).toInt := (congrArg Int32.toInt ((zIoj (by decide)).trans rfl)).trans rfl
        have w65 := li0
        exact zs_iret (pc := 60) t343_60 mr343 (by decide) (hQ _ _ hs w62 ((zFr.refl).put rfl) rfl (by omega) (by decide) (by decide))
    · refine zs_icmp_eqF (pc := 18) t343_18 rfl li120 (by omega) ?_
      refine zs_iload_n (pc := 21) t343_21 rfl ?_
      refine zs_bipush (pc := 22) t343_22 (v := 100) (by decide) ?_
      by_cases w66 : w5v.toInt = 100
      · refine zs_icmp_eqT (pc := 24) t343_24 rfl li100 (by omega) ?_
        refine zs_iconst (pc := 33) t343_33 (v := 1) (by decide) ?_
        refine zs_goto (pc := 34) t343_34 ?_
        refine zs_istore_n (pc := 38) t343_38 (ls' := [(2, .int (1 : Int32)), (1, .int w5v), (0, .ref 336)]) (zml mf343 (by decide)) rfl ?_
        refine zs_iload_n (pc := 39) t343_39 rfl ?_
        refine zs_if_eqF (pc := 40) t343_40 li1 (by decide) ?_
        refine zs_aload_n (pc := 43) t343_43 rfl ?_
        have w67 := ib336_47 hI
        refine zs_get (pc := 44) t343_44 (by decide) (zk1 (hs.k fk_zMm_336)) (zfvi rfl rfl) ?_
        refine zs_bipush (pc := 47) t343_47 (v := 20) (by decide) ?_
        by_cases w68 : (zI M 336 47).toInt ≠ 20
        · refine zs_icmp_neT (pc := 49) t343_49 rfl li20 (by omega) ?_
          refine zs_iconst (pc := 61) t343_61 (v := 4) (by decide) ?_
          refine zs_aload_n (pc := 62) t343_62 rfl ?_
          refine zs_get (pc := 63) t343_63 (by decide) (zk1 (hs.k fk_zMm_336)) (zfvi rfl rfl) ?_
          obtain ⟨w69v, w69⟩ : ∃ v, (4 : Int32) * (zI M 336 47) = v := ⟨_, rfl⟩
          have w69g : w69v.toInt = 4 * (zI M 336 47).toInt := by rw [← w69]; exact zmulc li4 rfl (by omega) (by omega)
          refine zs_imul (pc := 66) t343_66 (c := w69v) w69 ?_
          refine zs_istore_n (pc := 67) t343_67 (ls' := [(3, .int w69v), (2, .int (1 : Int32)), (1, .int w5v), (0, .ref 336)]) (zml mf343 (by decide)) rfl ?_
          refine zs_aload_n (pc := 68) t343_68 rfl ?_
          refine zs_get (pc := 69) t343_69 (by decide) (zk1 (hs.k fk_zMm_336)) (hs.p rfl fv_zMm_336_46) ?_
          refine zs_iload_n (pc := 72) t343_72 rfl ?_
          refine zs_iload_n (pc := 73) t343_73 rfl ?_
          obtain ⟨w70n, w70⟩ : ∃ n : Nat, (zI M 336 47).toInt = (n : Int) := ⟨((zI M 336 47).toInt).toNat, by omega⟩
          have w71 : zIv mLo mHi (zsI M 362 (4 * w70n) w5v) := zIv.put hI (show (-2147483648) ≤ w5v.toInt ∧ w5v.toInt ≤ 2147483647 from zrg w5v)
          refine zs_iast (pc := 74) t343_74 (j := (4 * w70n)) (by decide) (zk1 (hs.k fk_zMm_362)) (show w69v.toInt = (((4 * w70n) : Nat) : Int) by omega) (zk2 (hs.k fk_zMm_362) (by omega)) ?_
          refine zs_aload_n (pc := 75) t343_75 rfl ?_
          refine zs_dup (pc := 76) t343_76 rfl ?_
          refine zs_get (pc := 77) t343_77 (by decide) (zk1 (hs.k fk_zMm_336)) (zfvi rfl ((zIo (by decide)).trans rfl)) ?_
          refine zs_iconst (pc := 80) t343_80 (v := 1) (by decide) ?_
          obtain ⟨w72v, w72e, w72⟩ := ziadd (a := (zI M 336 6)) (b := (1 : Int32)) rfl li1 (by omega) (by omega)
          refine zs_iadd (pc := 81) t343_81 (c := w72v) w72e ?_
          have w73 : zIv mLo mHi (zsI (zsI M 362 (4 * w70n) w5v) 336 6 w72v) := zIv.put w71 (show 0 ≤ w72v.toInt ∧ w72v.toInt ≤ 500 from ⟨by omega, by omega⟩)
          refine zs_putI (pc := 82) t343_82 (zk1 (hs.k fk_zMm_336)) rfl ?_
          refine zs_iconst (pc := 85) t343_85 (v := 1) (by decide) ?_
          refine zs_istore (pc := 86) t343_86 (ls' := [(4, .int (1 : Int32)), (3, .int w69v), (2, .int (1 : Int32)), (1, .int w5v), (0, .ref 336)]) (zml mf343 (by decide)) rfl ?_
          have w74L : ∀ (m : Nat) (w74x4 : Int32) (w74M : zM), (1 ≤ w74x4.toInt ∧ w74x4.toInt ≤ 4) → zSk zMm w74M → zIv mLo mHi w74M → zFr [(336, 336, some 6), (336, 336, some 7), (336, 336, some 8), (362, 362, none)] (zsI (zsI M 362 (4 * w70n) w5v) 336 6 w72v) w74M → zJ w74M 351 = zJ (zsI (zsI M 362 (4 * w70n) w5v) 336 6 w72v) 351 → ((zI w74M 336 47).toInt = (zI (zsI (zsI M 362 (4 * w70n) w5v) 336 6 w72v) 336 47).toInt) → ((zI (zsI (zsI M 362 (4 * w70n) w5v) 336 6 w72v) 336 6).toInt ≤ (zI w74M 336 6).toInt) → ((zI w74M 336 7).toInt = (zI (zsI (zsI M 362 (4 * w70n) w5v) 336 6 w72v) 336 7).toInt) → 4 - w74x4.toInt ≤ (m : Int) → zGo X l 3 0 0 343 88 [(0, .ref 336), (1, .int w5v), (2, .int (1 : Int32)), (3, .int w69v), (4, .int w74x4)] [] w74M Q := by
            intro m
            induction m using Nat.strongRecOn with
            | ind w74m w74ih =>
              intro w74x4 w74M w74b4 w74s w74I w74F w74J w74r0 w74r1 w74r2 w74q
              have w75 : (zI (zsI (zsI M 362 (4 * w70n) w5v) 336 6 w72v) 336 47).toInt = (zI M 336 47).toInt := (congrArg Int32.toInt ((zIoj (by decide)).trans ((zIo (by decide)).trans rfl))).trans rfl
              have w76 := ib336_6 w74I
              have w77 : (zI (zsI (zsI M 362 (4 * w70n) w5v) 336 6 w72v) 336 6).toInt = ((zI M 336 6).toInt + 1) := (congrArg Int32.toInt zIs).trans w72
              have w78 := ib336_7 w74I
              have w79 := ib336_7 hI
              have w80 : (zI (zsI (zsI M 362 (4 * w70n) w5v) 336 6 w72v) 336 7).toInt = (zI M 336 7).toInt := (congrArg Int32.toInt ((zIoj (by decide)).trans ((zIo (by decide)).trans rfl))).trans rfl
              refine zs_iload (pc := 88) t343_88 rfl ?_
              refine zs_iload_n (pc := 90) t343_90 rfl ?_
              by_cases w81 : 1 < w74x4.toInt
              · refine zs_icmp_gtT (pc := 91) t343_91 rfl li1 (by omega) ?_
                refine zs_aload_n (pc := 148) t343_148 rfl ?_
                refine zs_dup (pc := 149) t343_149 rfl ?_
                refine zs_get (pc := 150) t343_150 (by decide) (zk1 (w74s.k fk_zMm_336)) (zfvi rfl ((w74F 336 47 rfl).trans ((zIoj (by decide)).trans ((zIo (by decide)).trans rfl)))) ?_
                refine zs_iconst (pc := 153) t343_153 (v := 1) (by decide) ?_
                obtain ⟨w82v, w82e, w82⟩ := ziadd (a := (zI M 336 47)) (b := (1 : Int32)) rfl li1 (by omega) (by omega)
                refine zs_iadd (pc := 154) t343_154 (c := w82v) w82e ?_
                have w83 : zIv mLo mHi (zsI w74M 336 47 w82v) := zIv.put w74I (show 0 ≤ w82v.toInt ∧ w82v.toInt ≤ 20 from ⟨by omega, by omega⟩)
                refine zs_putI (pc := 155) t343_155 (zk1 (w74s.k fk_zMm_336)) rfl ?_
                refine zs_iconst (pc := 158) t343_158 (v := 1) (by decide) ?_
                have w84 : (zI (zsI w74M 336 47 w82v) 336 7).toInt = (zI w74M 336 7).toInt := (congrArg Int32.toInt ((zIoj (by decide)).trans rfl)).trans rfl
                have w85 : (zI (zsI w74M 336 47 w82v) 336 6).toInt = (zI w74M 336 6).toInt := (congrArg Int32.toInt ((zIoj (by decide)).trans rfl)).trans rfl
                have w86 := li1
                exact zs_iret (pc := 159) t343_159 mr343 (by decide) (hQ _ _ w74s w83 (((((zFr.refl).put rfl).put rfl).trans (w74F.mono rfl)).put rfl) w74J (by omega) (by decide) (by decide))
              · refine zs_icmp_gtF (pc := 91) t343_91 rfl li1 (by omega) ?_
                refine zs_aload_n (pc := 94) t343_94 rfl ?_
                refine zs_sipush (pc := 95) t343_95 (v := -9999) (by decide) ?_
                refine zs_sipush (pc := 98) t343_98 (v := 9999) (by decide) ?_
                have w87 : (-9999 : Int32).toInt = (-9999) := lin9999
                have w88 : (9999 : Int32).toInt = 9999 := li9999
                have w89 : (zI w74M 336 6).toInt = (zI w74M 336 6).toInt := (congrArg Int32.toInt rfl).trans rfl
                have w90 : (zI w74M 336 7).toInt = (zI w74M 336 7).toInt := (congrArg Int32.toInt rfl).trans rfl
                refine zs_invV (pc := 101) (k := 336) (as' := [.int (-9999 : Int32), .int (9999 : Int32)]) (st := []) t343_101 mf243 rfl rfl (Or.inl ⟨by decide, (zk1 (w74s.k fk_zMm_336))⟩) ⟨by decide, by decide, Nat.le_of_ble_eq_true rfl, Nat.le_of_ble_eq_true rfl⟩ (K243 w74s w74I ?_) (fun _ _ q => q)
                intro w91M w91v w91s w91I w91F w91J w91t0 w91t1 w91t2 w91a w91b
                have w92 := zrg (zI w91M 336 8)
                have w93 := ib336_6 w91I
                have w94 := ib336_7 w91I
                show zGo X l 3 0 0 343 104 [(0, .ref 336), (1, .int w5v), (2, .int (1 : Int32)), (3, .int w69v), (4, .int w74x4)] [.int w91v] w91M _
                by_cases w95 : w91v.toInt = 0
                · refine zs_if_eqT (pc := 104) t343_104 rfl (by omega) ?_
                  refine zs_iconst (pc := 127) t343_127 (v := 0) (by decide) ?_
                  have w96 : (zI w91M 336 7).toInt = (zI w91M 336 7).toInt := (congrArg Int32.toInt rfl).trans rfl
                  have w97 : (zI w91M 336 6).toInt = (zI w91M 336 6).toInt := (congrArg Int32.toInt rfl).trans rfl
                  have w98 := li0
                  exact zs_iret (pc := 128) t343_128 mr343 (by decide) (hQ _ _ w91s w91I (((((zFr.refl).put rfl).put rfl).trans (w74F.mono rfl)).trans (w91F.mono rfl)) (w91J.trans w74J) (by omega) (by decide) (by decide))
                · refine zs_if_eqF (pc := 104) t343_104 rfl (by omega) ?_
                  refine zs_aload_n (pc := 107) t343_107 rfl ?_
                  refine zs_iload (pc := 108) t343_108 rfl ?_
                  refine zs_iload_n (pc := 110) t343_110 rfl ?_
                  refine zs_icmp_neF (pc := 111) t343_111 rfl li1 (by omega) ?_
                  refine zs_bipush (pc := 114) t343_114 (v := 59) (by decide) ?_
                  refine zs_goto (pc := 116) t343_116 ?_
                  have w99 : (59 : Int32).toInt = 59 := li59
                  have w100 : (zI w91M 336 6).toInt = (zI w91M 336 6).toInt := (congrArg Int32.toInt rfl).trans rfl
                  have w101 : (zI w91M 336 7).toInt = (zI w91M 336 7).toInt := (congrArg Int32.toInt rfl).trans rfl
                  refine zs_invV (pc := 121) (k := 336) (as' := [.int (59 : Int32)]) (st := []) t343_121 mf246 rfl rfl (Or.inl ⟨by decide, (zk1 (w91s.k fk_zMm_336))⟩) ⟨by decide, by decide, Nat.le_of_ble_eq_true rfl, Nat.le_of_ble_eq_true rfl⟩ (K246 w91s w91I ⟨by decide, by decide⟩ ?_) (fun _ _ q => q)
                  intro w102M w102v w102s w102I w102F w102J w102t0 w102t1 w102a w102b
                  have w103 := ib336_6 w102I
                  have w104 := ib336_7 w102I
                  show zGo X l 3 0 0 343 124 [(0, .ref 336), (1, .int w5v), (2, .int (1 : Int32)), (3, .int w69v), (4, .int w74x4)] [.int w102v] w102M _
                  by_cases w105 : w102v.toInt ≠ 0
                  · refine zs_if_neT (pc := 124) t343_124 rfl (by omega) ?_
                    refine zs_aload_n (pc := 129) t343_129 rfl ?_
                    refine zs_get (pc := 130) t343_130 (by decide) (zk1 (w102s.k fk_zMm_336)) (w102s.p rfl fv_zMm_336_46) ?_
                    refine zs_iload_n (pc := 133) t343_133 rfl ?_
                    refine zs_iload (pc := 134) t343_134 rfl ?_
                    obtain ⟨w106v, w106e, w106⟩ := ziadd (a := w69v) (b := w74x4) w69g rfl (by omega) (by omega)
                    refine zs_iadd (pc := 136) t343_136 (c := w106v) w106e ?_
                    refine zs_aload_n (pc := 137) t343_137 rfl ?_
                    refine zs_get (pc := 138) t343_138 (by decide) (zk1 (w102s.k fk_zMm_336)) (zfvi rfl ((w102F 336 8 rfl).trans rfl)) ?_
                    obtain ⟨w107n, w107⟩ : ∃ n : Nat, w74x4.toInt = (n : Int) := ⟨(w74x4.toInt).toNat, by omega⟩
                    have w108 : zIv mLo mHi (zsI w102M 362 (4 * w70n + w107n) (zI w91M 336 8)) := zIv.put w102I (show (-2147483648) ≤ (zI w91M 336 8).toInt ∧ (zI w91M 336 8).toInt ≤ 2147483647 from zrg (zI w91M 336 8))
                    refine zs_iast (pc := 141) t343_141 (j := (4 * w70n + w107n)) (by decide) (zk1 (w102s.k fk_zMm_362)) (show w106v.toInt = (((4 * w70n + w107n) : Nat) : Int) by omega) (zk2 (w102s.k fk_zMm_362) (by omega)) ?_
                    obtain ⟨w109v, w109e, w109⟩ := ziadd (a := w74x4) (b := Int32.ofInt 1) rfl (show (Int32.ofInt 1).toInt = 1 by decide) (by omega) (by omega)
                    refine zs_iinc (pc := 142) t343_142 (ls' := [(4, .int w109v), (0, .ref 336), (1, .int w5v), (2, .int (1 : Int32)), (3, .int w69v)]) (zml mf343 (by decide)) rfl (c := w109v) w109e rfl ?_
                    refine zs_goto (pc := 145) t343_145 ?_
                    refine zGo.locals (ls' := [(0, .ref 336), (1, .int w5v), (2, .int (1 : Int32)), (3, .int w69v), (4, .int w109v)]) (by simp) ?_
                    have w110 := w109
                    have w111 : (zI (zsI w102M 362 (4 * w70n + w107n) (zI w91M 336 8)) 336 47).toInt = (zI M 336 47).toInt := (congrArg Int32.toInt ((zIo (by decide)).trans ((w102F 336 47 rfl).trans ((w91F 336 47 rfl).trans ((w74F 336 47 rfl).trans ((zIoj (by decide)).trans ((zIo (by decide)).trans rfl))))))).trans rfl
                    have w112 : (zI (zsI w102M 362 (4 * w70n + w107n) (zI w91M 336 8)) 336 6).toInt = (zI w102M 336 6).toInt := (congrArg Int32.toInt ((zIo (by decide)).trans rfl)).trans rfl
                    have w113 : (zI (zsI w102M 362 (4 * w70n + w107n) (zI w91M 336 8)) 336 7).toInt = (zI w102M 336 7).toInt := (congrArg Int32.toInt ((zIo (by decide)).trans rfl)).trans rfl
                    exact w74ih (w74m - 1) (by omega) w109v (zsI w102M 362 (4 * w70n + w107n) (zI w91M 336 8)) ⟨by omega, by omega⟩ w102s w108 (((((zFr.refl).trans (w74F.mono rfl)).trans (w91F.mono rfl)).trans (w102F.mono rfl)).put rfl) (w102J.trans (w91J.trans w74J)) (by omega) (by omega) (by omega) (by omega)
                  · refine zs_if_neF (pc := 124) t343_124 rfl (by omega) ?_
                    refine zs_iconst (pc := 127) t343_127 (v := 0) (by decide) ?_
                    have w114 : (zI w102M 336 7).toInt = (zI w102M 336 7).toInt := (congrArg Int32.toInt rfl).trans rfl
                    have w115 : (zI w102M 336 6).toInt = (zI w102M 336 6).toInt := (congrArg Int32.toInt rfl).trans rfl
                    have w116 := li0
                    exact zs_iret (pc := 128) t343_128 mr343 (by decide) (hQ _ _ w102s w102I ((((((zFr.refl).put rfl).put rfl).trans (w74F.mono rfl)).trans (w91F.mono rfl)).trans (w102F.mono rfl)) (w102J.trans (w91J.trans w74J)) (by omega) (by decide) (by decide))
          refine zGo.locals (ls' := [(0, .ref 336), (1, .int w5v), (2, .int (1 : Int32)), (3, .int w69v), (4, .int (1 : Int32))]) (by simp) ?_
          have w117 := li1
          have w118 : (zI (zsI (zsI M 362 (4 * w70n) w5v) 336 6 w72v) 336 47).toInt = (zI M 336 47).toInt := (congrArg Int32.toInt ((zIoj (by decide)).trans ((zIo (by decide)).trans rfl))).trans rfl
          have w119 : (zI (zsI (zsI M 362 (4 * w70n) w5v) 336 6 w72v) 336 6).toInt = ((zI M 336 6).toInt + 1) := (congrArg Int32.toInt zIs).trans w72
          have w120 : (zI (zsI (zsI M 362 (4 * w70n) w5v) 336 6 w72v) 336 7).toInt = (zI M 336 7).toInt := (congrArg Int32.toInt ((zIoj (by decide)).trans ((zIo (by decide)).trans rfl))).trans rfl
          exact w74L ((4 - 1 : Int).toNat) (1 : Int32) (zsI (zsI M 362 (4 * w70n) w5v) 336 6 w72v) ⟨by decide, by decide⟩ hs w73 zFr.refl rfl (by omega) (by omega) (by omega) (by omega)
        · refine zs_icmp_neF (pc := 49) t343_49 rfl li20 (by omega) ?_
          refine zs_aload_n (pc := 52) t343_52 rfl ?_
          refine zs_aload_n (pc := 53) t343_53 rfl ?_
          refine zs_get (pc := 54) t343_54 (by decide) (zk1 (hs.k fk_zMm_336)) (zfvi rfl rfl) ?_
          refine zs_invV (pc := 57) (k := 336) (as' := [.int (zI M 336 6)]) (st := []) t343_57 mf239 rfl rfl (Or.inl ⟨by decide, (zk1 (hs.k fk_zMm_336))⟩) ⟨by decide, by decide, Nat.le_of_ble_eq_true rfl, Nat.le_of_ble_eq_true rfl⟩ (zs_in (by decide) mf239 (Nat.le_of_ble_eq_true rfl) ?_) (fun _ _ q => q)
          show zGo X l 0 0 0 239 0 [(0, .ref 336), (1, .int (zI M 336 6))] [] M _
          refine zs_aload_n (pc := 0) t239_0 rfl ?_
          refine zs_iload_n (pc := 1) t239_1 rfl ?_
          have w121 : zIv mLo mHi (zsI M 336 7 (zI M 336 6)) := zIv.put hI (show (-1) ≤ (zI M 336 6).toInt ∧ (zI M 336 6).toInt ≤ 500 from ⟨by omega, by omega⟩)
          refine zs_putI (pc := 2) t239_2 (zk1 (hs.k fk_zMm_336)) rfl ?_
          refine zs_iconst (pc := 5) t239_5 (v := 0) (by decide) ?_
          refine zs_iret (pc := 6) t239_6 mr239 (by decide) ?_
          show zGo X l 3 0 0 343 60 [(2, .int (1 : Int32)), (1, .int w5v), (0, .ref 336)] [.int (0 : Int32)] (zsI M 336 7 (zI M 336 6)) _
          have w122 : (zI (zsI M 336 7 (zI M 336 6)) 336 7).toInt = (zI M 336 6).toInt := (congrArg Int32.toInt zIs).trans rfl
          have w123 : (zI (zsI M 336 7 (zI M 336 6)) 336 6).toInt = (zI M 336 6).toInt := (congrArg Int32.toInt ((zIoj (by decide)).trans rfl)).trans rfl
          have w124 := li0
          exact zs_iret (pc := 60) t343_60 mr343 (by decide) (hQ _ _ hs w121 ((zFr.refl).put rfl) rfl (by omega) (by decide) (by decide))
      · refine zs_icmp_eqF (pc := 24) t343_24 rfl li100 (by omega) ?_
        refine zs_iload_n (pc := 27) t343_27 rfl ?_
        refine zs_bipush (pc := 28) t343_28 (v := 110) (by decide) ?_
        by_cases w125 : w5v.toInt ≠ 110
        · refine zs_icmp_neT (pc := 30) t343_30 rfl li110 (by omega) ?_
          refine zs_iconst (pc := 37) t343_37 (v := 0) (by decide) ?_
          refine zs_istore_n (pc := 38) t343_38 (ls' := [(2, .int (0 : Int32)), (1, .int w5v), (0, .ref 336)]) (zml mf343 (by decide)) rfl ?_
          refine zs_iload_n (pc := 39) t343_39 rfl ?_
          refine zs_if_eqT (pc := 40) t343_40 li0 (by decide) ?_
          refine zs_aload_n (pc := 52) t343_52 rfl ?_
          refine zs_aload_n (pc := 53) t343_53 rfl ?_
          refine zs_get (pc := 54) t343_54 (by decide) (zk1 (hs.k fk_zMm_336)) (zfvi rfl rfl) ?_
          refine zs_invV (pc := 57) (k := 336) (as' := [.int (zI M 336 6)]) (st := []) t343_57 mf239 rfl rfl (Or.inl ⟨by decide, (zk1 (hs.k fk_zMm_336))⟩) ⟨by decide, by decide, Nat.le_of_ble_eq_true rfl, Nat.le_of_ble_eq_true rfl⟩ (zs_in (by decide) mf239 (Nat.le_of_ble_eq_true rfl) ?_) (fun _ _ q => q)
          show zGo X l 0 0 0 239 0 [(0, .ref 336), (1, .int (zI M 336 6))] [] M _
          refine zs_aload_n (pc := 0) t239_0 rfl ?_
          refine zs_iload_n (pc := 1) t239_1 rfl ?_
          have w126 : zIv mLo mHi (zsI M 336 7 (zI M 336 6)) := zIv.put hI (show (-1) ≤ (zI M 336 6).toInt ∧ (zI M 336 6).toInt ≤ 500 from ⟨by omega, by omega⟩)
          refine zs_putI (pc := 2) t239_2 (zk1 (hs.k fk_zMm_336)) rfl ?_
          refine zs_iconst (pc := 5) t239_5 (v := 0) (by decide) ?_
          refine zs_iret (pc := 6) t239_6 mr239 (by decide) ?_
          show zGo X l 3 0 0 343 60 [(2, .int (0 : Int32)), (1, .int w5v), (0, .ref 336)] [.int (0 : Int32)] (zsI M 336 7 (zI M 336 6)) _
          have w127 : (zI (zsI M 336 7 (zI M 336 6)) 336 7).toInt = (zI M 336 6).toInt := (congrArg Int32.toInt zIs).trans rfl
          have w128 : (zI (zsI M 336 7 (zI M 336 6)) 336 6).toInt = (zI M 336 6).toInt := (congrArg Int32.toInt ((zIoj (by decide)).trans rfl)).trans rfl
          have w129 := li0
          exact zs_iret (pc := 60) t343_60 mr343 (by decide) (hQ _ _ hs w126 ((zFr.refl).put rfl) rfl (by omega) (by decide) (by decide))
        · refine zs_icmp_neF (pc := 30) t343_30 rfl li110 (by omega) ?_
          refine zs_iconst (pc := 33) t343_33 (v := 1) (by decide) ?_
          refine zs_goto (pc := 34) t343_34 ?_
          refine zs_istore_n (pc := 38) t343_38 (ls' := [(2, .int (1 : Int32)), (1, .int w5v), (0, .ref 336)]) (zml mf343 (by decide)) rfl ?_
          refine zs_iload_n (pc := 39) t343_39 rfl ?_
          refine zs_if_eqF (pc := 40) t343_40 li1 (by decide) ?_
          refine zs_aload_n (pc := 43) t343_43 rfl ?_
          have w130 := ib336_47 hI
          refine zs_get (pc := 44) t343_44 (by decide) (zk1 (hs.k fk_zMm_336)) (zfvi rfl rfl) ?_
          refine zs_bipush (pc := 47) t343_47 (v := 20) (by decide) ?_
          by_cases w131 : (zI M 336 47).toInt ≠ 20
          · refine zs_icmp_neT (pc := 49) t343_49 rfl li20 (by omega) ?_
            refine zs_iconst (pc := 61) t343_61 (v := 4) (by decide) ?_
            refine zs_aload_n (pc := 62) t343_62 rfl ?_
            refine zs_get (pc := 63) t343_63 (by decide) (zk1 (hs.k fk_zMm_336)) (zfvi rfl rfl) ?_
            obtain ⟨w132v, w132⟩ : ∃ v, (4 : Int32) * (zI M 336 47) = v := ⟨_, rfl⟩
            have w132g : w132v.toInt = 4 * (zI M 336 47).toInt := by rw [← w132]; exact zmulc li4 rfl (by omega) (by omega)
            refine zs_imul (pc := 66) t343_66 (c := w132v) w132 ?_
            refine zs_istore_n (pc := 67) t343_67 (ls' := [(3, .int w132v), (2, .int (1 : Int32)), (1, .int w5v), (0, .ref 336)]) (zml mf343 (by decide)) rfl ?_
            refine zs_aload_n (pc := 68) t343_68 rfl ?_
            refine zs_get (pc := 69) t343_69 (by decide) (zk1 (hs.k fk_zMm_336)) (hs.p rfl fv_zMm_336_46) ?_
            refine zs_iload_n (pc := 72) t343_72 rfl ?_
            refine zs_iload_n (pc := 73) t343_73 rfl ?_
            obtain ⟨w133n, w133⟩ : ∃ n : Nat, (zI M 336 47).toInt = (n : Int) := ⟨((zI M 336 47).toInt).toNat, by omega⟩
            have w134 : zIv mLo mHi (zsI M 362 (4 * w133n) w5v) := zIv.put hI (show (-2147483648) ≤ w5v.toInt ∧ w5v.toInt ≤ 2147483647 from zrg w5v)
            refine zs_iast (pc := 74) t343_74 (j := (4 * w133n)) (by decide) (zk1 (hs.k fk_zMm_362)) (show w132v.toInt = (((4 * w133n) : Nat) : Int) by omega) (zk2 (hs.k fk_zMm_362) (by omega)) ?_
            refine zs_aload_n (pc := 75) t343_75 rfl ?_
            refine zs_dup (pc := 76) t343_76 rfl ?_
            refine zs_get (pc := 77) t343_77 (by decide) (zk1 (hs.k fk_zMm_336)) (zfvi rfl ((zIo (by decide)).trans rfl)) ?_
            refine zs_iconst (pc := 80) t343_80 (v := 1) (by decide) ?_
            obtain ⟨w135v, w135e, w135⟩ := ziadd (a := (zI M 336 6)) (b := (1 : Int32)) rfl li1 (by omega) (by omega)
            refine zs_iadd (pc := 81) t343_81 (c := w135v) w135e ?_
            have w136 : zIv mLo mHi (zsI (zsI M 362 (4 * w133n) w5v) 336 6 w135v) := zIv.put w134 (show 0 ≤ w135v.toInt ∧ w135v.toInt ≤ 500 from ⟨by omega, by omega⟩)
            refine zs_putI (pc := 82) t343_82 (zk1 (hs.k fk_zMm_336)) rfl ?_
            refine zs_iconst (pc := 85) t343_85 (v := 1) (by decide) ?_
            refine zs_istore (pc := 86) t343_86 (ls' := [(4, .int (1 : Int32)), (3, .int w132v), (2, .int (1 : Int32)), (1, .int w5v), (0, .ref 336)]) (zml mf343 (by decide)) rfl ?_
            have w137L : ∀ (m : Nat) (w137x4 : Int32) (w137M : zM), (1 ≤ w137x4.toInt ∧ w137x4.toInt ≤ 4) → zSk zMm w137M → zIv mLo mHi w137M → zFr [(336, 336, some 6), (336, 336, some 7), (336, 336, some 8), (362, 362, none)] (zsI (zsI M 362 (4 * w133n) w5v) 336 6 w135v) w137M → zJ w137M 351 = zJ (zsI (zsI M 362 (4 * w133n) w5v) 336 6 w135v) 351 → ((zI w137M 336 47).toInt = (zI (zsI (zsI M 362 (4 * w133n) w5v) 336 6 w135v) 336 47).toInt) → ((zI (zsI (zsI M 362 (4 * w133n) w5v) 336 6 w135v) 336 6).toInt ≤ (zI w137M 336 6).toInt) → ((zI w137M 336 7).toInt = (zI (zsI (zsI M 362 (4 * w133n) w5v) 336 6 w135v) 336 7).toInt) → 4 - w137x4.toInt ≤ (m : Int) → zGo X l 3 0 0 343 88 [(0, .ref 336), (1, .int w5v), (2, .int (1 : Int32)), (3, .int w132v), (4, .int w137x4)] [] w137M Q := by
              intro m
              induction m using Nat.strongRecOn with
              | ind w137m w137ih =>
                intro w137x4 w137M w137b4 w137s w137I w137F w137J w137r0 w137r1 w137r2 w137q
                have w138 : (zI (zsI (zsI M 362 (4 * w133n) w5v) 336 6 w135v) 336 47).toInt = (zI M 336 47).toInt := (congrArg Int32.toInt ((zIoj (by decide)).trans ((zIo (by decide)).trans rfl))).trans rfl
                have w139 := ib336_6 w137I
                have w140 : (zI (zsI (zsI M 362 (4 * w133n) w5v) 336 6 w135v) 336 6).toInt = ((zI M 336 6).toInt + 1) := (congrArg Int32.toInt zIs).trans w135
                have w141 := ib336_7 w137I
                have w142 := ib336_7 hI
                have w143 : (zI (zsI (zsI M 362 (4 * w133n) w5v) 336 6 w135v) 336 7).toInt = (zI M 336 7).toInt := (congrArg Int32.toInt ((zIoj (by decide)).trans ((zIo (by decide)).trans rfl))).trans rfl
                refine zs_iload (pc := 88) t343_88 rfl ?_
                refine zs_iload_n (pc := 90) t343_90 rfl ?_
                by_cases w144 : 1 < w137x4.toInt
                · refine zs_icmp_gtT (pc := 91) t343_91 rfl li1 (by omega) ?_
                  refine zs_aload_n (pc := 148) t343_148 rfl ?_
                  refine zs_dup (pc := 149) t343_149 rfl ?_
                  refine zs_get (pc := 150) t343_150 (by decide) (zk1 (w137s.k fk_zMm_336)) (zfvi rfl ((w137F 336 47 rfl).trans ((zIoj (by decide)).trans ((zIo (by decide)).trans rfl)))) ?_
                  refine zs_iconst (pc := 153) t343_153 (v := 1) (by decide) ?_
                  obtain ⟨w145v, w145e, w145⟩ := ziadd (a := (zI M 336 47)) (b := (1 : Int32)) rfl li1 (by omega) (by omega)
                  refine zs_iadd (pc := 154) t343_154 (c := w145v) w145e ?_
                  have w146 : zIv mLo mHi (zsI w137M 336 47 w145v) := zIv.put w137I (show 0 ≤ w145v.toInt ∧ w145v.toInt ≤ 20 from ⟨by omega, by omega⟩)
                  refine zs_putI (pc := 155) t343_155 (zk1 (w137s.k fk_zMm_336)) rfl ?_
                  refine zs_iconst (pc := 158) t343_158 (v := 1) (by decide) ?_
                  have w147 : (zI (zsI w137M 336 47 w145v) 336 7).toInt = (zI w137M 336 7).toInt := (congrArg Int32.toInt ((zIoj (by decide)).trans rfl)).trans rfl
                  have w148 : (zI (zsI w137M 336 47 w145v) 336 6).toInt = (zI w137M 336 6).toInt := (congrArg Int32.toInt ((zIoj (by decide)).trans rfl)).trans rfl
                  have w149 := li1
                  exact zs_iret (pc := 159) t343_159 mr343 (by decide) (hQ _ _ w137s w146 (((((zFr.refl).put rfl).put rfl).trans (w137F.mono rfl)).put rfl) w137J (by omega) (by decide) (by decide))
                · refine zs_icmp_gtF (pc := 91) t343_91 rfl li1 (by omega) ?_
                  refine zs_aload_n (pc := 94) t343_94 rfl ?_
                  refine zs_sipush (pc := 95) t343_95 (v := -9999) (by decide) ?_
                  refine zs_sipush (pc := 98) t343_98 (v := 9999) (by decide) ?_
                  have w150 : (-9999 : Int32).toInt = (-9999) := lin9999
                  have w151 : (9999 : Int32).toInt = 9999 := li9999
                  have w152 : (zI w137M 336 6).toInt = (zI w137M 336 6).toInt := (congrArg Int32.toInt rfl).trans rfl
                  have w153 : (zI w137M 336 7).toInt = (zI w137M 336 7).toInt := (congrArg Int32.toInt rfl).trans rfl
                  refine zs_invV (pc := 101) (k := 336) (as' := [.int (-9999 : Int32), .int (9999 : Int32)]) (st := []) t343_101 mf243 rfl rfl (Or.inl ⟨by decide, (zk1 (w137s.k fk_zMm_336))⟩) ⟨by decide, by decide, Nat.le_of_ble_eq_true rfl, Nat.le_of_ble_eq_true rfl⟩ (K243 w137s w137I ?_) (fun _ _ q => q)
                  intro w154M w154v w154s w154I w154F w154J w154t0 w154t1 w154t2 w154a w154b
                  have w155 := zrg (zI w154M 336 8)
                  have w156 := ib336_6 w154I
                  have w157 := ib336_7 w154I
                  show zGo X l 3 0 0 343 104 [(0, .ref 336), (1, .int w5v), (2, .int (1 : Int32)), (3, .int w132v), (4, .int w137x4)] [.int w154v] w154M _
                  by_cases w158 : w154v.toInt = 0
                  · refine zs_if_eqT (pc := 104) t343_104 rfl (by omega) ?_
                    refine zs_iconst (pc := 127) t343_127 (v := 0) (by decide) ?_
                    have w159 : (zI w154M 336 7).toInt = (zI w154M 336 7).toInt := (congrArg Int32.toInt rfl).trans rfl
                    have w160 : (zI w154M 336 6).toInt = (zI w154M 336 6).toInt := (congrArg Int32.toInt rfl).trans rfl
                    have w161 := li0
                    exact zs_iret (pc := 128) t343_128 mr343 (by decide) (hQ _ _ w154s w154I (((((zFr.refl).put rfl).put rfl).trans (w137F.mono rfl)).trans (w154F.mono rfl)) (w154J.trans w137J) (by omega) (by decide) (by decide))
                  · refine zs_if_eqF (pc := 104) t343_104 rfl (by omega) ?_
                    refine zs_aload_n (pc := 107) t343_107 rfl ?_
                    refine zs_iload (pc := 108) t343_108 rfl ?_
                    refine zs_iload_n (pc := 110) t343_110 rfl ?_
                    refine zs_icmp_neF (pc := 111) t343_111 rfl li1 (by omega) ?_
                    refine zs_bipush (pc := 114) t343_114 (v := 59) (by decide) ?_
                    refine zs_goto (pc := 116) t343_116 ?_
                    have w162 : (59 : Int32).toInt = 59 := li59
                    have w163 : (zI w154M 336 6).toInt = (zI w154M 336 6).toInt := (congrArg Int32.toInt rfl).trans rfl
                    have w164 : (zI w154M 336 7).toInt = (zI w154M 336 7).toInt := (congrArg Int32.toInt rfl).trans rfl
                    refine zs_invV (pc := 121) (k := 336) (as' := [.int (59 : Int32)]) (st := []) t343_121 mf246 rfl rfl (Or.inl ⟨by decide, (zk1 (w154s.k fk_zMm_336))⟩) ⟨by decide, by decide, Nat.le_of_ble_eq_true rfl, Nat.le_of_ble_eq_true rfl⟩ (K246 w154s w154I ⟨by decide, by decide⟩ ?_) (fun _ _ q => q)
                    intro w165M w165v w165s w165I w165F w165J w165t0 w165t1 w165a w165b
                    have w166 := ib336_6 w165I
                    have w167 := ib336_7 w165I
                    show zGo X l 3 0 0 343 124 [(0, .ref 336), (1, .int w5v), (2, .int (1 : Int32)), (3, .int w132v), (4, .int w137x4)] [.int w165v] w165M _
                    by_cases w168 : w165v.toInt ≠ 0
                    · refine zs_if_neT (pc := 124) t343_124 rfl (by omega) ?_
                      refine zs_aload_n (pc := 129) t343_129 rfl ?_
                      refine zs_get (pc := 130) t343_130 (by decide) (zk1 (w165s.k fk_zMm_336)) (w165s.p rfl fv_zMm_336_46) ?_
                      refine zs_iload_n (pc := 133) t343_133 rfl ?_
                      refine zs_iload (pc := 134) t343_134 rfl ?_
                      obtain ⟨w169v, w169e, w169⟩ := ziadd (a := w132v) (b := w137x4) w132g rfl (by omega) (by omega)
                      refine zs_iadd (pc := 136) t343_136 (c := w169v) w169e ?_
                      refine zs_aload_n (pc := 137) t343_137 rfl ?_
                      refine zs_get (pc := 138) t343_138 (by decide) (zk1 (w165s.k fk_zMm_336)) (zfvi rfl ((w165F 336 8 rfl).trans rfl)) ?_
                      obtain ⟨w170n, w170⟩ : ∃ n : Nat, w137x4.toInt = (n : Int) := ⟨(w137x4.toInt).toNat, by omega⟩
                      have w171 : zIv mLo mHi (zsI w165M 362 (4 * w133n + w170n) (zI w154M 336 8)) := zIv.put w165I (show (-2147483648) ≤ (zI w154M 336 8).toInt ∧ (zI w154M 336 8).toInt ≤ 2147483647 from zrg (zI w154M 336 8))
                      refine zs_iast (pc := 141) t343_141 (j := (4 * w133n + w170n)) (by decide) (zk1 (w165s.k fk_zMm_362)) (show w169v.toInt = (((4 * w133n + w170n) : Nat) : Int) by omega) (zk2 (w165s.k fk_zMm_362) (by omega)) ?_
                      obtain ⟨w172v, w172e, w172⟩ := ziadd (a := w137x4) (b := Int32.ofInt 1) rfl (show (Int32.ofInt 1).toInt = 1 by decide) (by omega) (by omega)
                      refine zs_iinc (pc := 142) t343_142 (ls' := [(4, .int w172v), (0, .ref 336), (1, .int w5v), (2, .int (1 : Int32)), (3, .int w132v)]) (zml mf343 (by decide)) rfl (c := w172v) w172e rfl ?_
                      refine zs_goto (pc := 145) t343_145 ?_
                      refine zGo.locals (ls' := [(0, .ref 336), (1, .int w5v), (2, .int (1 : Int32)), (3, .int w132v), (4, .int w172v)]) (by simp) ?_
                      have w173 := w172
                      have w174 : (zI (zsI w165M 362 (4 * w133n + w170n) (zI w154M 336 8)) 336 47).toInt = (zI M 336 47).toInt := (congrArg Int32.toInt ((zIo (by decide)).trans ((w165F 336 47 rfl).trans ((w154F 336 47 rfl).trans ((w137F 336 47 rfl).trans ((zIoj (by decide)).trans ((zIo (by decide)).trans rfl))))))).trans rfl
                      have w175 : (zI (zsI w165M 362 (4 * w133n + w170n) (zI w154M 336 8)) 336 6).toInt = (zI w165M 336 6).toInt := (congrArg Int32.toInt ((zIo (by decide)).trans rfl)).trans rfl
                      have w176 : (zI (zsI w165M 362 (4 * w133n + w170n) (zI w154M 336 8)) 336 7).toInt = (zI w165M 336 7).toInt := (congrArg Int32.toInt ((zIo (by decide)).trans rfl)).trans rfl
                      exact w137ih (w137m - 1) (by omega) w172v (zsI w165M 362 (4 * w133n + w170n) (zI w154M 336 8)) ⟨by omega, by omega⟩ w165s w171 (((((zFr.refl).trans (w137F.mono rfl)).trans (w154F.mono rfl)).trans (w165F.mono rfl)).put rfl) (w165J.trans (w154J.trans w137J)) (by omega) (by omega) (by omega) (by omega)
                    · refine zs_if_neF (pc := 124) t343_124 rfl (by omega) ?_
                      refine zs_iconst (pc := 127) t343_127 (v := 0) (by decide) ?_
                      have w177 : (zI w165M 336 7).toInt = (zI w165M 336 7).toInt := (congrArg Int32.toInt rfl).trans rfl
                      have w178 : (zI w165M 336 6).toInt = (zI w165M 336 6).toInt := (congrArg Int32.toInt rfl).trans rfl
                      have w179 := li0
                      exact zs_iret (pc := 128) t343_128 mr343 (by decide) (hQ _ _ w165s w165I ((((((zFr.refl).put rfl).put rfl).trans (w137F.mono rfl)).trans (w154F.mono rfl)).trans (w165F.mono rfl)) (w165J.trans (w154J.trans w137J)) (by omega) (by decide) (by decide))
            refine zGo.locals (ls' := [(0, .ref 336), (1, .int w5v), (2, .int (1 : Int32)), (3, .int w132v), (4, .int (1 : Int32))]) (by simp) ?_
            have w180 := li1
            have w181 : (zI (zsI (zsI M 362 (4 * w133n) w5v) 336 6 w135v) 336 47).toInt = (zI M 336 47).toInt := (congrArg Int32.toInt ((zIoj (by decide)).trans ((zIo (by decide)).trans rfl))).trans rfl
            have w182 : (zI (zsI (zsI M 362 (4 * w133n) w5v) 336 6 w135v) 336 6).toInt = ((zI M 336 6).toInt + 1) := (congrArg Int32.toInt zIs).trans w135
            have w183 : (zI (zsI (zsI M 362 (4 * w133n) w5v) 336 6 w135v) 336 7).toInt = (zI M 336 7).toInt := (congrArg Int32.toInt ((zIoj (by decide)).trans ((zIo (by decide)).trans rfl))).trans rfl
            exact w137L ((4 - 1 : Int).toNat) (1 : Int32) (zsI (zsI M 362 (4 * w133n) w5v) 336 6 w135v) ⟨by decide, by decide⟩ hs w136 zFr.refl rfl (by omega) (by omega) (by omega) (by omega)
          · refine zs_icmp_neF (pc := 49) t343_49 rfl li20 (by omega) ?_
            refine zs_aload_n (pc := 52) t343_52 rfl ?_
            refine zs_aload_n (pc := 53) t343_53 rfl ?_
            refine zs_get (pc := 54) t343_54 (by decide) (zk1 (hs.k fk_zMm_336)) (zfvi rfl rfl) ?_
            refine zs_invV (pc := 57) (k := 336) (as' := [.int (zI M 336 6)]) (st := []) t343_57 mf239 rfl rfl (Or.inl ⟨by decide, (zk1 (hs.k fk_zMm_336))⟩) ⟨by decide, by decide, Nat.le_of_ble_eq_true rfl, Nat.le_of_ble_eq_true rfl⟩ (zs_in (by decide) mf239 (Nat.le_of_ble_eq_true rfl) ?_) (fun _ _ q => q)
            show zGo X l 0 0 0 239 0 [(0, .ref 336), (1, .int (zI M 336 6))] [] M _
            refine zs_aload_n (pc := 0) t239_0 rfl ?_
            refine zs_iload_n (pc := 1) t239_1 rfl ?_
            have w184 : zIv mLo mHi (zsI M 336 7 (zI M 336 6)) := zIv.put hI (show (-1) ≤ (zI M 336 6).toInt ∧ (zI M 336 6).toInt ≤ 500 from ⟨by omega, by omega⟩)
            refine zs_putI (pc := 2) t239_2 (zk1 (hs.k fk_zMm_336)) rfl ?_
            refine zs_iconst (pc := 5) t239_5 (v := 0) (by decide) ?_
            refine zs_iret (pc := 6) t239_6 mr239 (by decide) ?_
            show zGo X l 3 0 0 343 60 [(2, .int (1 : Int32)), (1, .int w5v), (0, .ref 336)] [.int (0 : Int32)] (zsI M 336 7 (zI M 336 6)) _
            have w185 : (zI (zsI M 336 7 (zI M 336 6)) 336 7).toInt = (zI M 336 6).toInt := (congrArg Int32.toInt zIs).trans rfl
            have w186 : (zI (zsI M 336 7 (zI M 336 6)) 336 6).toInt = (zI M 336 6).toInt := (congrArg Int32.toInt ((zIoj (by decide)).trans rfl)).trans rfl
            have w187 := li0
            exact zs_iret (pc := 60) t343_60 mr343 (by decide) (hQ _ _ hs w184 ((zFr.refl).put rfl) rfl (by omega) (by decide) (by decide))
  · refine zs_icmp_neF (pc := 8) t343_8 rfl li104 (by omega) ?_
    refine zs_iconst (pc := 11) t343_11 (v := 3) (by decide) ?_
    refine zs_goto (pc := 12) t343_12 ?_
    refine zs_istore_n (pc := 38) t343_38 (ls' := [(2, .int (3 : Int32)), (1, .int w5v), (0, .ref 336)]) (zml mf343 (by decide)) rfl ?_
    refine zs_iload_n (pc := 39) t343_39 rfl ?_
    refine zs_if_eqF (pc := 40) t343_40 li3 (by decide) ?_
    refine zs_aload_n (pc := 43) t343_43 rfl ?_
    have w188 := ib336_47 hI
    refine zs_get (pc := 44) t343_44 (by decide) (zk1 (hs.k fk_zMm_336)) (zfvi rfl rfl) ?_
    refine zs_bipush (pc := 47) t343_47 (v := 20) (by decide) ?_
    by_cases w189 : (zI M 336 47).toInt ≠ 20
    · refine zs_icmp_neT (pc := 49) t343_49 rfl li20 (by omega) ?_
      refine zs_iconst (pc := 61) t343_61 (v := 4) (by decide) ?_
      refine zs_aload_n (pc := 62) t343_62 rfl ?_
      refine zs_get (pc := 63) t343_63 (by decide) (zk1 (hs.k fk_zMm_336)) (zfvi rfl rfl) ?_
      obtain ⟨w190v, w190⟩ : ∃ v, (4 : Int32) * (zI M 336 47) = v := ⟨_, rfl⟩
      have w190g : w190v.toInt = 4 * (zI M 336 47).toInt := by rw [← w190]; exact zmulc li4 rfl (by omega) (by omega)
      refine zs_imul (pc := 66) t343_66 (c := w190v) w190 ?_
      refine zs_istore_n (pc := 67) t343_67 (ls' := [(3, .int w190v), (2, .int (3 : Int32)), (1, .int w5v), (0, .ref 336)]) (zml mf343 (by decide)) rfl ?_
      refine zs_aload_n (pc := 68) t343_68 rfl ?_
      refine zs_get (pc := 69) t343_69 (by decide) (zk1 (hs.k fk_zMm_336)) (hs.p rfl fv_zMm_336_46) ?_
      refine zs_iload_n (pc := 72) t343_72 rfl ?_
      refine zs_iload_n (pc := 73) t343_73 rfl ?_
      obtain ⟨w191n, w191⟩ : ∃ n : Nat, (zI M 336 47).toInt = (n : Int) := ⟨((zI M 336 47).toInt).toNat, by omega⟩
      have w192 : zIv mLo mHi (zsI M 362 (4 * w191n) w5v) := zIv.put hI (show (-2147483648) ≤ w5v.toInt ∧ w5v.toInt ≤ 2147483647 from zrg w5v)
      refine zs_iast (pc := 74) t343_74 (j := (4 * w191n)) (by decide) (zk1 (hs.k fk_zMm_362)) (show w190v.toInt = (((4 * w191n) : Nat) : Int) by omega) (zk2 (hs.k fk_zMm_362) (by omega)) ?_
      refine zs_aload_n (pc := 75) t343_75 rfl ?_
      refine zs_dup (pc := 76) t343_76 rfl ?_
      refine zs_get (pc := 77) t343_77 (by decide) (zk1 (hs.k fk_zMm_336)) (zfvi rfl ((zIo (by decide)).trans rfl)) ?_
      refine zs_iconst (pc := 80) t343_80 (v := 1) (by decide) ?_
      obtain ⟨w193v, w193e, w193⟩ := ziadd (a := (zI M 336 6)) (b := (1 : Int32)) rfl li1 (by omega) (by omega)
      refine zs_iadd (pc := 81) t343_81 (c := w193v) w193e ?_
      have w194 : zIv mLo mHi (zsI (zsI M 362 (4 * w191n) w5v) 336 6 w193v) := zIv.put w192 (show 0 ≤ w193v.toInt ∧ w193v.toInt ≤ 500 from ⟨by omega, by omega⟩)
      refine zs_putI (pc := 82) t343_82 (zk1 (hs.k fk_zMm_336)) rfl ?_
      refine zs_iconst (pc := 85) t343_85 (v := 1) (by decide) ?_
      refine zs_istore (pc := 86) t343_86 (ls' := [(4, .int (1 : Int32)), (3, .int w190v), (2, .int (3 : Int32)), (1, .int w5v), (0, .ref 336)]) (zml mf343 (by decide)) rfl ?_
      have w195L : ∀ (m : Nat) (w195x4 : Int32) (w195M : zM), (1 ≤ w195x4.toInt ∧ w195x4.toInt ≤ 4) → zSk zMm w195M → zIv mLo mHi w195M → zFr [(336, 336, some 6), (336, 336, some 7), (336, 336, some 8), (362, 362, none)] (zsI (zsI M 362 (4 * w191n) w5v) 336 6 w193v) w195M → zJ w195M 351 = zJ (zsI (zsI M 362 (4 * w191n) w5v) 336 6 w193v) 351 → ((zI w195M 336 47).toInt = (zI (zsI (zsI M 362 (4 * w191n) w5v) 336 6 w193v) 336 47).toInt) → ((zI (zsI (zsI M 362 (4 * w191n) w5v) 336 6 w193v) 336 6).toInt ≤ (zI w195M 336 6).toInt) → ((zI w195M 336 7).toInt = (zI (zsI (zsI M 362 (4 * w191n) w5v) 336 6 w193v) 336 7).toInt) → 4 - w195x4.toInt ≤ (m : Int) → zGo X l 3 0 0 343 88 [(0, .ref 336), (1, .int w5v), (2, .int (3 : Int32)), (3, .int w190v), (4, .int w195x4)] [] w195M Q := by
        intro m
        induction m using Nat.strongRecOn with
        | ind w195m w195ih =>
          intro w195x4 w195M w195b4 w195s w195I w195F w195J w195r0 w195r1 w195r2 w195q
          have w196 : (zI (zsI (zsI M 362 (4 * w191n) w5v) 336 6 w193v) 336 47).toInt = (zI M 336 47).toInt := (congrArg Int32.toInt ((zIoj (by decide)).trans ((zIo (by decide)).trans rfl))).trans rfl
          have w197 := ib336_6 w195I
          have w198 : (zI (zsI (zsI M 362 (4 * w191n) w5v) 336 6 w193v) 336 6).toInt = ((zI M 336 6).toInt + 1) := (congrArg Int32.toInt zIs).trans w193
          have w199 := ib336_7 w195I
          have w200 := ib336_7 hI
          have w201 : (zI (zsI (zsI M 362 (4 * w191n) w5v) 336 6 w193v) 336 7).toInt = (zI M 336 7).toInt := (congrArg Int32.toInt ((zIoj (by decide)).trans ((zIo (by decide)).trans rfl))).trans rfl
          refine zs_iload (pc := 88) t343_88 rfl ?_
          refine zs_iload_n (pc := 90) t343_90 rfl ?_
          by_cases w202 : 3 < w195x4.toInt
          · refine zs_icmp_gtT (pc := 91) t343_91 rfl li3 (by omega) ?_
            refine zs_aload_n (pc := 148) t343_148 rfl ?_
            refine zs_dup (pc := 149) t343_149 rfl ?_
            refine zs_get (pc := 150) t343_150 (by decide) (zk1 (w195s.k fk_zMm_336)) (zfvi rfl ((w195F 336 47 rfl).trans ((zIoj (by decide)).trans ((zIo (by decide)).trans rfl)))) ?_
            refine zs_iconst (pc := 153) t343_153 (v := 1) (by decide) ?_
            obtain ⟨w203v, w203e, w203⟩ := ziadd (a := (zI M 336 47)) (b := (1 : Int32)) rfl li1 (by omega) (by omega)
            refine zs_iadd (pc := 154) t343_154 (c := w203v) w203e ?_
            have w204 : zIv mLo mHi (zsI w195M 336 47 w203v) := zIv.put w195I (show 0 ≤ w203v.toInt ∧ w203v.toInt ≤ 20 from ⟨by omega, by omega⟩)
            refine zs_putI (pc := 155) t343_155 (zk1 (w195s.k fk_zMm_336)) rfl ?_
            refine zs_iconst (pc := 158) t343_158 (v := 1) (by decide) ?_
            have w205 : (zI (zsI w195M 336 47 w203v) 336 7).toInt = (zI w195M 336 7).toInt := (congrArg Int32.toInt ((zIoj (by decide)).trans rfl)).trans rfl
            have w206 : (zI (zsI w195M 336 47 w203v) 336 6).toInt = (zI w195M 336 6).toInt := (congrArg Int32.toInt ((zIoj (by decide)).trans rfl)).trans rfl
            have w207 := li1
            exact zs_iret (pc := 159) t343_159 mr343 (by decide) (hQ _ _ w195s w204 (((((zFr.refl).put rfl).put rfl).trans (w195F.mono rfl)).put rfl) w195J (by omega) (by decide) (by decide))
          · refine zs_icmp_gtF (pc := 91) t343_91 rfl li3 (by omega) ?_
            refine zs_aload_n (pc := 94) t343_94 rfl ?_
            refine zs_sipush (pc := 95) t343_95 (v := -9999) (by decide) ?_
            refine zs_sipush (pc := 98) t343_98 (v := 9999) (by decide) ?_
            have w208 : (-9999 : Int32).toInt = (-9999) := lin9999
            have w209 : (9999 : Int32).toInt = 9999 := li9999
            have w210 : (zI w195M 336 6).toInt = (zI w195M 336 6).toInt := (congrArg Int32.toInt rfl).trans rfl
            have w211 : (zI w195M 336 7).toInt = (zI w195M 336 7).toInt := (congrArg Int32.toInt rfl).trans rfl
            refine zs_invV (pc := 101) (k := 336) (as' := [.int (-9999 : Int32), .int (9999 : Int32)]) (st := []) t343_101 mf243 rfl rfl (Or.inl ⟨by decide, (zk1 (w195s.k fk_zMm_336))⟩) ⟨by decide, by decide, Nat.le_of_ble_eq_true rfl, Nat.le_of_ble_eq_true rfl⟩ (K243 w195s w195I ?_) (fun _ _ q => q)
            intro w212M w212v w212s w212I w212F w212J w212t0 w212t1 w212t2 w212a w212b
            have w213 := zrg (zI w212M 336 8)
            have w214 := ib336_6 w212I
            have w215 := ib336_7 w212I
            show zGo X l 3 0 0 343 104 [(0, .ref 336), (1, .int w5v), (2, .int (3 : Int32)), (3, .int w190v), (4, .int w195x4)] [.int w212v] w212M _
            by_cases w216 : w212v.toInt = 0
            · refine zs_if_eqT (pc := 104) t343_104 rfl (by omega) ?_
              refine zs_iconst (pc := 127) t343_127 (v := 0) (by decide) ?_
              have w217 : (zI w212M 336 7).toInt = (zI w212M 336 7).toInt := (congrArg Int32.toInt rfl).trans rfl
              have w218 : (zI w212M 336 6).toInt = (zI w212M 336 6).toInt := (congrArg Int32.toInt rfl).trans rfl
              have w219 := li0
              exact zs_iret (pc := 128) t343_128 mr343 (by decide) (hQ _ _ w212s w212I (((((zFr.refl).put rfl).put rfl).trans (w195F.mono rfl)).trans (w212F.mono rfl)) (w212J.trans w195J) (by omega) (by decide) (by decide))
            · refine zs_if_eqF (pc := 104) t343_104 rfl (by omega) ?_
              refine zs_aload_n (pc := 107) t343_107 rfl ?_
              refine zs_iload (pc := 108) t343_108 rfl ?_
              refine zs_iload_n (pc := 110) t343_110 rfl ?_
              by_cases w220 : w195x4.toInt ≠ 3
              · refine zs_icmp_neT (pc := 111) t343_111 rfl li3 (by omega) ?_
                refine zs_bipush (pc := 119) t343_119 (v := 44) (by decide) ?_
                have w221 : (44 : Int32).toInt = 44 := li44
                have w222 : (zI w212M 336 6).toInt = (zI w212M 336 6).toInt := (congrArg Int32.toInt rfl).trans rfl
                have w223 : (zI w212M 336 7).toInt = (zI w212M 336 7).toInt := (congrArg Int32.toInt rfl).trans rfl
                refine zs_invV (pc := 121) (k := 336) (as' := [.int (44 : Int32)]) (st := []) t343_121 mf246 rfl rfl (Or.inl ⟨by decide, (zk1 (w212s.k fk_zMm_336))⟩) ⟨by decide, by decide, Nat.le_of_ble_eq_true rfl, Nat.le_of_ble_eq_true rfl⟩ (K246 w212s w212I ⟨by decide, by decide⟩ ?_) (fun _ _ q => q)
                intro w224M w224v w224s w224I w224F w224J w224t0 w224t1 w224a w224b
                have w225 := ib336_6 w224I
                have w226 := ib336_7 w224I
                show zGo X l 3 0 0 343 124 [(0, .ref 336), (1, .int w5v), (2, .int (3 : Int32)), (3, .int w190v), (4, .int w195x4)] [.int w224v] w224M _
                by_cases w227 : w224v.toInt ≠ 0
                · refine zs_if_neT (pc := 124) t343_124 rfl (by omega) ?_
                  refine zs_aload_n (pc := 129) t343_129 rfl ?_
                  refine zs_get (pc := 130) t343_130 (by decide) (zk1 (w224s.k fk_zMm_336)) (w224s.p rfl fv_zMm_336_46) ?_
                  refine zs_iload_n (pc := 133) t343_133 rfl ?_
                  refine zs_iload (pc := 134) t343_134 rfl ?_
                  obtain ⟨w228v, w228e, w228⟩ := ziadd (a := w190v) (b := w195x4) w190g rfl (by omega) (by omega)
                  refine zs_iadd (pc := 136) t343_136 (c := w228v) w228e ?_
                  refine zs_aload_n (pc := 137) t343_137 rfl ?_
                  refine zs_get (pc := 138) t343_138 (by decide) (zk1 (w224s.k fk_zMm_336)) (zfvi rfl ((w224F 336 8 rfl).trans rfl)) ?_
                  obtain ⟨w229n, w229⟩ : ∃ n : Nat, w195x4.toInt = (n : Int) := ⟨(w195x4.toInt).toNat, by omega⟩
                  have w230 : zIv mLo mHi (zsI w224M 362 (4 * w191n + w229n) (zI w212M 336 8)) := zIv.put w224I (show (-2147483648) ≤ (zI w212M 336 8).toInt ∧ (zI w212M 336 8).toInt ≤ 2147483647 from zrg (zI w212M 336 8))
                  refine zs_iast (pc := 141) t343_141 (j := (4 * w191n + w229n)) (by decide) (zk1 (w224s.k fk_zMm_362)) (show w228v.toInt = (((4 * w191n + w229n) : Nat) : Int) by omega) (zk2 (w224s.k fk_zMm_362) (by omega)) ?_
                  obtain ⟨w231v, w231e, w231⟩ := ziadd (a := w195x4) (b := Int32.ofInt 1) rfl (show (Int32.ofInt 1).toInt = 1 by decide) (by omega) (by omega)
                  refine zs_iinc (pc := 142) t343_142 (ls' := [(4, .int w231v), (0, .ref 336), (1, .int w5v), (2, .int (3 : Int32)), (3, .int w190v)]) (zml mf343 (by decide)) rfl (c := w231v) w231e rfl ?_
                  refine zs_goto (pc := 145) t343_145 ?_
                  refine zGo.locals (ls' := [(0, .ref 336), (1, .int w5v), (2, .int (3 : Int32)), (3, .int w190v), (4, .int w231v)]) (by simp) ?_
                  have w232 := w231
                  have w233 : (zI (zsI w224M 362 (4 * w191n + w229n) (zI w212M 336 8)) 336 47).toInt = (zI M 336 47).toInt := (congrArg Int32.toInt ((zIo (by decide)).trans ((w224F 336 47 rfl).trans ((w212F 336 47 rfl).trans ((w195F 336 47 rfl).trans ((zIoj (by decide)).trans ((zIo (by decide)).trans rfl))))))).trans rfl
                  have w234 : (zI (zsI w224M 362 (4 * w191n + w229n) (zI w212M 336 8)) 336 6).toInt = (zI w224M 336 6).toInt := (congrArg Int32.toInt ((zIo (by decide)).trans rfl)).trans rfl
                  have w235 : (zI (zsI w224M 362 (4 * w191n + w229n) (zI w212M 336 8)) 336 7).toInt = (zI w224M 336 7).toInt := (congrArg Int32.toInt ((zIo (by decide)).trans rfl)).trans rfl
                  exact w195ih (w195m - 1) (by omega) w231v (zsI w224M 362 (4 * w191n + w229n) (zI w212M 336 8)) ⟨by omega, by omega⟩ w224s w230 (((((zFr.refl).trans (w195F.mono rfl)).trans (w212F.mono rfl)).trans (w224F.mono rfl)).put rfl) (w224J.trans (w212J.trans w195J)) (by omega) (by omega) (by omega) (by omega)
                · refine zs_if_neF (pc := 124) t343_124 rfl (by omega) ?_
                  refine zs_iconst (pc := 127) t343_127 (v := 0) (by decide) ?_
                  have w236 : (zI w224M 336 7).toInt = (zI w224M 336 7).toInt := (congrArg Int32.toInt rfl).trans rfl
                  have w237 : (zI w224M 336 6).toInt = (zI w224M 336 6).toInt := (congrArg Int32.toInt rfl).trans rfl
                  have w238 := li0
                  exact zs_iret (pc := 128) t343_128 mr343 (by decide) (hQ _ _ w224s w224I ((((((zFr.refl).put rfl).put rfl).trans (w195F.mono rfl)).trans (w212F.mono rfl)).trans (w224F.mono rfl)) (w224J.trans (w212J.trans w195J)) (by omega) (by decide) (by decide))
              · refine zs_icmp_neF (pc := 111) t343_111 rfl li3 (by omega) ?_
                refine zs_bipush (pc := 114) t343_114 (v := 59) (by decide) ?_
                refine zs_goto (pc := 116) t343_116 ?_
                have w239 : (59 : Int32).toInt = 59 := li59
                have w240 : (zI w212M 336 6).toInt = (zI w212M 336 6).toInt := (congrArg Int32.toInt rfl).trans rfl
                have w241 : (zI w212M 336 7).toInt = (zI w212M 336 7).toInt := (congrArg Int32.toInt rfl).trans rfl
                refine zs_invV (pc := 121) (k := 336) (as' := [.int (59 : Int32)]) (st := []) t343_121 mf246 rfl rfl (Or.inl ⟨by decide, (zk1 (w212s.k fk_zMm_336))⟩) ⟨by decide, by decide, Nat.le_of_ble_eq_true rfl, Nat.le_of_ble_eq_true rfl⟩ (K246 w212s w212I ⟨by decide, by decide⟩ ?_) (fun _ _ q => q)
                intro w242M w242v w242s w242I w242F w242J w242t0 w242t1 w242a w242b
                have w243 := ib336_6 w242I
                have w244 := ib336_7 w242I
                show zGo X l 3 0 0 343 124 [(0, .ref 336), (1, .int w5v), (2, .int (3 : Int32)), (3, .int w190v), (4, .int w195x4)] [.int w242v] w242M _
                by_cases w245 : w242v.toInt ≠ 0
                · refine zs_if_neT (pc := 124) t343_124 rfl (by omega) ?_
                  refine zs_aload_n (pc := 129) t343_129 rfl ?_
                  refine zs_get (pc := 130) t343_130 (by decide) (zk1 (w242s.k fk_zMm_336)) (w242s.p rfl fv_zMm_336_46) ?_
                  refine zs_iload_n (pc := 133) t343_133 rfl ?_
                  refine zs_iload (pc := 134) t343_134 rfl ?_
                  obtain ⟨w246v, w246e, w246⟩ := ziadd (a := w190v) (b := w195x4) w190g rfl (by omega) (by omega)
                  refine zs_iadd (pc := 136) t343_136 (c := w246v) w246e ?_
                  refine zs_aload_n (pc := 137) t343_137 rfl ?_
                  refine zs_get (pc := 138) t343_138 (by decide) (zk1 (w242s.k fk_zMm_336)) (zfvi rfl ((w242F 336 8 rfl).trans rfl)) ?_
                  obtain ⟨w247n, w247⟩ : ∃ n : Nat, w195x4.toInt = (n : Int) := ⟨(w195x4.toInt).toNat, by omega⟩
                  have w248 : zIv mLo mHi (zsI w242M 362 (4 * w191n + w247n) (zI w212M 336 8)) := zIv.put w242I (show (-2147483648) ≤ (zI w212M 336 8).toInt ∧ (zI w212M 336 8).toInt ≤ 2147483647 from zrg (zI w212M 336 8))
                  refine zs_iast (pc := 141) t343_141 (j := (4 * w191n + w247n)) (by decide) (zk1 (w242s.k fk_zMm_362)) (show w246v.toInt = (((4 * w191n + w247n) : Nat) : Int) by omega) (zk2 (w242s.k fk_zMm_362) (by omega)) ?_
                  obtain ⟨w249v, w249e, w249⟩ := ziadd (a := w195x4) (b := Int32.ofInt 1) rfl (show (Int32.ofInt 1).toInt = 1 by decide) (by omega) (by omega)
                  refine zs_iinc (pc := 142) t343_142 (ls' := [(4, .int w249v), (0, .ref 336), (1, .int w5v), (2, .int (3 : Int32)), (3, .int w190v)]) (zml mf343 (by decide)) rfl (c := w249v) w249e rfl ?_
                  refine zs_goto (pc := 145) t343_145 ?_
                  refine zGo.locals (ls' := [(0, .ref 336), (1, .int w5v), (2, .int (3 : Int32)), (3, .int w190v), (4, .int w249v)]) (by simp) ?_
                  have w250 := w249
                  have w251 : (zI (zsI w242M 362 (4 * w191n + w247n) (zI w212M 336 8)) 336 47).toInt = (zI M 336 47).toInt := (congrArg Int32.toInt ((zIo (by decide)).trans ((w242F 336 47 rfl).trans ((w212F 336 47 rfl).trans ((w195F 336 47 rfl).trans ((zIoj (by decide)).trans ((zIo (by decide)).trans rfl))))))).trans rfl
                  have w252 : (zI (zsI w242M 362 (4 * w191n + w247n) (zI w212M 336 8)) 336 6).toInt = (zI w242M 336 6).toInt := (congrArg Int32.toInt ((zIo (by decide)).trans rfl)).trans rfl
                  have w253 : (zI (zsI w242M 362 (4 * w191n + w247n) (zI w212M 336 8)) 336 7).toInt = (zI w242M 336 7).toInt := (congrArg Int32.toInt ((zIo (by decide)).trans rfl)).trans rfl
                  exact w195ih (w195m - 1) (by omega) w249v (zsI w242M 362 (4 * w191n + w247n) (zI w212M 336 8)) ⟨by omega, by omega⟩ w242s w248 (((((zFr.refl).trans (w195F.mono rfl)).trans (w212F.mono rfl)).trans (w242F.mono rfl)).put rfl) (w242J.trans (w212J.trans w195J)) (by omega) (by omega) (by omega) (by omega)
                · refine zs_if_neF (pc := 124) t343_124 rfl (by omega) ?_
                  refine zs_iconst (pc := 127) t343_127 (v := 0) (by decide) ?_
                  have w254 : (zI w242M 336 7).toInt = (zI w242M 336 7).toInt := (congrArg Int32.toInt rfl).trans rfl
                  have w255 : (zI w242M 336 6).toInt = (zI w242M 336 6).toInt := (congrArg Int32.toInt rfl).trans rfl
                  have w256 := li0
                  exact zs_iret (pc := 128) t343_128 mr343 (by decide) (hQ _ _ w242s w242I ((((((zFr.refl).put rfl).put rfl).trans (w195F.mono rfl)).trans (w212F.mono rfl)).trans (w242F.mono rfl)) (w242J.trans (w212J.trans w195J)) (by omega) (by decide) (by decide))
      refine zGo.locals (ls' := [(0, .ref 336), (1, .int w5v), (2, .int (3 : Int32)), (3, .int w190v), (4, .int (1 : Int32))]) (by simp) ?_
      have w257 := li1
      have w258 : (zI (zsI (zsI M 362 (4 * w191n) w5v) 336 6 w193v) 336 47).toInt = (zI M 336 47).toInt := (congrArg Int32.toInt ((zIoj (by decide)).trans ((zIo (by decide)).trans rfl))).trans rfl
      have w259 : (zI (zsI (zsI M 362 (4 * w191n) w5v) 336 6 w193v) 336 6).toInt = ((zI M 336 6).toInt + 1) := (congrArg Int32.toInt zIs).trans w193
      have w260 : (zI (zsI (zsI M 362 (4 * w191n) w5v) 336 6 w193v) 336 7).toInt = (zI M 336 7).toInt := (congrArg Int32.toInt ((zIoj (by decide)).trans ((zIo (by decide)).trans rfl))).trans rfl
      exact w195L ((4 - 1 : Int).toNat) (1 : Int32) (zsI (zsI M 362 (4 * w191n) w5v) 336 6 w193v) ⟨by decide, by decide⟩ hs w194 zFr.refl rfl (by omega) (by omega) (by omega) (by omega)
    · refine zs_icmp_neF (pc := 49) t343_49 rfl li20 (by omega) ?_
      refine zs_aload_n (pc := 52) t343_52 rfl ?_
      refine zs_aload_n (pc := 53) t343_53 rfl ?_
      refine zs_get (pc := 54) t343_54 (by decide) (zk1 (hs.k fk_zMm_336)) (zfvi rfl rfl) ?_
      refine zs_invV (pc := 57) (k := 336) (as' := [.int (zI M 336 6)]) (st := []) t343_57 mf239 rfl rfl (Or.inl ⟨by decide, (zk1 (hs.k fk_zMm_336))⟩) ⟨by decide, by decide, Nat.le_of_ble_eq_true rfl, Nat.le_of_ble_eq_true rfl⟩ (zs_in (by decide) mf239 (Nat.le_of_ble_eq_true rfl) ?_) (fun _ _ q => q)
      show zGo X l 0 0 0 239 0 [(0, .ref 336), (1, .int (zI M 336 6))] [] M _
      refine zs_aload_n (pc := 0) t239_0 rfl ?_
      refine zs_iload_n (pc := 1) t239_1 rfl ?_
      have w261 : zIv mLo mHi (zsI M 336 7 (zI M 336 6)) := zIv.put hI (show (-1) ≤ (zI M 336 6).toInt ∧ (zI M 336 6).toInt ≤ 500 from ⟨by omega, by omega⟩)
      refine zs_putI (pc := 2) t239_2 (zk1 (hs.k fk_zMm_336)) rfl ?_
      refine zs_iconst (pc := 5) t239_5 (v := 0) (by decide) ?_
      refine zs_iret (pc := 6) t239_6 mr239 (by decide) ?_
      show zGo X l 3 0 0 343 60 [(2, .int (3 : Int32)), (1, .int w5v), (0, .ref 336)] [.int (0 : Int32)] (zsI M 336 7 (zI M 336 6)) _
      have w262 : (zI (zsI M 336 7 (zI M 336 6)) 336 7).toInt = (zI M 336 6).toInt := (congrArg Int32.toInt zIs).trans rfl
      have w263 : (zI (zsI M 336 7 (zI M 336 6)) 336 6).toInt = (zI M 336 6).toInt := (congrArg Int32.toInt ((zIoj (by decide)).trans rfl)).trans rfl
      have w264 := li0
      exact zs_iret (pc := 60) t343_60 mr343 (by decide) (hQ _ _ hs w261 ((zFr.refl).put rfl) rfl (by omega) (by decide) (by decide))
