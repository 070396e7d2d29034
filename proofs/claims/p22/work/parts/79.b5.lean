theorem R235 {X : zX} {l : Launch} {M : zM} {Q : Option Value → zM → Prop} (hs : zSk zMm M) (hI : zIv mLo mHi M) {F : Nat → Int} {H : Nat → Nat → Int} {n : Int} {K : Nat → Nat → Int} {T : Nat → Int} {gg : Nat → Int} {nn : Int} (pR : zPR M) (pC : zPC M) (pF : zPF M) (x0 : zRw M 0 F) (x1 : zHM M H n) (x2 : zKM M K T) (x3 : zWF F) (x4 : zTm M gg nn) (hQ : ∀ (M' : zM) (v : Int32), zSk zMm M' → zIv mLo mHi M' → zFr [(337, 337, none), (336, 336, some 6), (336, 336, some 7), (336, 336, some 8), (336, 336, some 5), (336, 336, some 1), (336, 336, some 3)] M M' → zJ M' 351 = zJ M 351 → zPR M' → zPC M' → zPF M' → ((zI M' 336 5).toInt = 0) → ((zI M' 336 3).toInt = 0 ∨ (v.toInt = -1 ∧ (zI M' 336 3).toInt = (zI M 336 3).toInt)) → ((v.toInt = -1 ∧ tR gg nn (0, F, 0) none ∧ zSM M' F H n K T) ∨ (0 ≤ v.toInt ∧ ∃ F2 : Nat → Int, tR gg nn (0, F, 0) (some (F2, v.toInt)) ∧ zWF F2 ∧ zSM M' F2 (pushH F H) (nP n) K T)) → Q (some (.int v)) M') : zCall X l 6 0 0 235 [.ref 336] M Q := by
  refine zs_in (by decide) mf235 (Nat.le_of_ble_eq_true rfl) ?_
  show zGo X l 6 0 0 235 0 [(0, .ref 336)] [] M _
  have f1 := x3.1
  have f3 := x3.2.2.2
  have w1 := ibA0 hI
  have w2 : (zI M 337 0).toInt = (zI M 337 0).toInt := (congrArg Int32.toInt rfl).trans rfl
  have e0 : (zI M 337 0).toInt = F 0 := x0.at (by decide) (by decide) (by decide)
  have w3 := ibA1 hI
  have w4 : (zI M 337 1).toInt = (zI M 337 1).toInt := (congrArg Int32.toInt rfl).trans rfl
  have e1 : (zI M 337 1).toInt = F 1 := x0.at (by decide) (by decide) (by decide)
  have w5 := ibA2 hI
  have w6 : (zI M 337 2).toInt = (zI M 337 2).toInt := (congrArg Int32.toInt rfl).trans rfl
  have e2 : (zI M 337 2).toInt = F 2 := x0.at (by decide) (by decide) (by decide)
  have hn := x4.2
  have w7 := ib336_5 hI
  have w8 : (zI M 336 5).toInt = (zI M 336 5).toInt := (congrArg Int32.toInt rfl).trans rfl
  have w9 := ib336_1 hI
  have w10 : (zI M 336 1).toInt = (zI M 336 1).toInt := (congrArg Int32.toInt rfl).trans rfl
  have g1 := x1.1
  refine zs_aload_n (pc := 0) t235_0 rfl ?_
  refine zs_iconst (pc := 1) t235_1 (v := 0) (by decide) ?_
  refine zs_bipush (pc := 2) t235_2 (v := 11) (by decide) ?_
  have w11k : zRk (zrow M 0) := (zRk0 hI pR pC)
  refine zs_invV (pc := 4) (k := 336) (as' := [.int (0 : Int32), .int (11 : Int32)]) (st := []) t235_4 mf226 rfl rfl (Or.inl ⟨by decide, (zk1 (hs.k fk_zMm_336))⟩) ⟨by decide, by decide, Nat.le_of_ble_eq_true rfl, Nat.le_of_ble_eq_true rfl⟩ (K226 (na := 0) (nb := 11) hs hI (by decide) (by decide) (by omega) (by omega) (by omega) w11k ?_) (fun _ _ q => q)
  intro w11M w11s w11I w11F w11J w11c
  have w11R : zPR w11M := zPR.cp pR hI w11k w11c (w11F.eq rfl)
  have w11C : zPC w11M := zPC.cp pC hI pR w11k w11c
  have w11A : zPA w11M := zPA.cp w11k w11c (Or.inl rfl)
  have w11r0 : zI w11M 337 0 = (zI M 337 0) := (w11c.1 0 (Or.inl (by omega))).trans rfl
  have w11r1 : zI w11M 337 1 = (zI M 337 1) := (w11c.1 1 (Or.inl (by omega))).trans rfl
  have w11r2 : zI w11M 337 2 = (zI M 337 2) := (w11c.1 2 (Or.inl (by omega))).trans rfl
  show zGo X l 6 0 0 235 7 [(0, .ref 336)] [] w11M _
  refine zs_aload_n (pc := 7) t235_7 rfl ?_
  refine zs_invV (pc := 8) (k := 336) (as' := []) (st := []) t235_8 mf236 rfl rfl (Or.inl ⟨by decide, (zk1 (w11s.k fk_zMm_336))⟩) ⟨by decide, by decide, Nat.le_of_ble_eq_true rfl, Nat.le_of_ble_eq_true rfl⟩ (zs_in (by decide) mf236 (Nat.le_of_ble_eq_true rfl) ?_) (fun _ _ q => q)
  show zGo X l 0 0 0 236 0 [(0, .ref 336)] [] w11M _
  refine zs_aload_n (pc := 0) t236_0 rfl ?_
  refine zs_iconst (pc := 1) t236_1 (v := 0) (by decide) ?_
  have w12 : zIv mLo mHi (zsI w11M 336 6 (0 : Int32)) := zIv.put w11I (show 0 ≤ (0 : Int32).toInt ∧ (0 : Int32).toInt ≤ 500 from ⟨by decide, by decide⟩)
  refine zs_putI (pc := 2) t236_2 (zk1 (w11s.k fk_zMm_336)) rfl ?_
  refine zs_aload_n (pc := 5) t236_5 rfl ?_
  refine zs_iconst (pc := 6) t236_6 (v := -1) (by decide) ?_
  have w13 : zIv mLo mHi (zsI (zsI w11M 336 6 (0 : Int32)) 336 7 (-1 : Int32)) := zIv.put w12 (show (-1) ≤ (-1 : Int32).toInt ∧ (-1 : Int32).toInt ≤ 500 from ⟨by decide, by decide⟩)
  refine zs_putI (pc := 7) t236_7 (zk1 (w11s.k fk_zMm_336)) rfl ?_
  refine zs_vret (pc := 10) t236_10 mr236 ?_
  show zGo X l 6 0 0 235 11 [(0, .ref 336)] [] (zsI (zsI w11M 336 6 (0 : Int32)) 336 7 (-1 : Int32)) _
  refine zs_iconst (pc := 11) t235_11 (v := 0) (by decide) ?_
  refine zs_istore_n (pc := 12) t235_12 (ls' := [(1, .int (0 : Int32)), (0, .ref 336)]) (zml mf235 (by decide)) rfl ?_
  have w14L : ∀ (m : Nat) (w14x1 : Int32) (w14M : zM), (0 ≤ w14x1.toInt ∧ w14x1.toInt ≤ 500) → zSk zMm w14M → zIv mLo mHi w14M → zFr [(336, 336, some 6), (336, 336, some 7), (336, 336, some 8), (337, 337, none)] (zsI (zsI w11M 336 6 (0 : Int32)) 336 7 (-1 : Int32)) w14M → zJ w14M 351 = zJ (zsI (zsI w11M 336 6 (0 : Int32)) 336 7 (-1 : Int32)) 351 → zUp (zsI (zsI w11M 336 6 (0 : Int32)) 336 7 (-1 : Int32)) w14M → zPR w14M → zPC w14M → ((zI w14M 336 7).toInt ≠ -1 ∨ w14x1.toInt ≤ (zI w14M 336 6).toInt) → ((zI w14M 336 7).toInt ≠ -1 ∨ (0 ≤ (zI w14M 336 6).toInt ∧ (zI w14M 336 6).toInt ≤ (zI w14M 336 5).toInt)) → ((zI w14M 336 5).toInt = (zI (zsI (zsI w11M 336 6 (0 : Int32)) 336 7 (-1 : Int32)) 336 5).toInt) → ((zI w14M 336 7).toInt = -1 → ∀ (p : Nat) (x : Int), (p : Int) = (zI w14M 336 6).toInt → x = w14x1.toInt → ∃ G, tE gg nn (0, F, 0) (p, G, x) ∧ zRw w14M 0 G ∧ zWF G) → ((zI w14M 336 7).toInt ≠ -1 → tR gg nn (0, F, 0) none) → 501 - (zI w14M 336 6).toInt - 501 * (min (zI w14M 336 7).toInt 0) ≤ (m : Int) → zGo X l 6 0 0 235 13 [(0, .ref 336), (1, .int w14x1)] [] w14M Q := by
    intro m
    induction m using Nat.strongRecOn with
    | ind w14m w14ih =>
      intro w14x1 w14M w14b1 w14s w14I w14F w14J w14U w14PR w14PC w14r0 w14r1 w14r2 w14t0 w14t1 w14q
      have w15 := ib336_6 w14I
      have w16 := ib336_7 w14I
      have w17 : (zI (zsI (zsI w11M 336 6 (0 : Int32)) 336 7 (-1 : Int32)) 336 5).toInt = (zI M 336 5).toInt := (congrArg Int32.toInt ((zIoj (by decide)).trans ((zIoj (by decide)).trans ((w11F 336 5 rfl).trans rfl)))).trans rfl
      refine zs_aload_n (pc := 13) t235_13 rfl ?_
      refine zs_get (pc := 14) t235_14 (by decide) (zk1 (w14s.k fk_zMm_336)) (zfvi rfl rfl) ?_
      refine zs_iconst (pc := 17) t235_17 (v := -1) (by decide) ?_
      by_cases w18 : (zI w14M 336 7).toInt ≠ (-1)
      · refine zs_icmp_neT (pc := 18) t235_18 rfl lin1 (by omega) ?_
        refine zs_aload_n (pc := 45) t235_45 rfl ?_
        refine zs_invV (pc := 46) (k := 336) (as' := []) (st := []) t235_46 mf253 rfl rfl (Or.inl ⟨by decide, (zk1 (w14s.k fk_zMm_336))⟩) ⟨by decide, by decide, Nat.le_of_ble_eq_true rfl, Nat.le_of_ble_eq_true rfl⟩ (zs_in (by decide) mf253 (Nat.le_of_ble_eq_true rfl) ?_) (fun _ _ q => q)
        show zGo X l 0 0 0 253 0 [(0, .ref 336)] [] w14M _
        refine zs_aload_n (pc := 0) t253_0 rfl ?_
        refine zs_iconst (pc := 1) t253_1 (v := 0) (by decide) ?_
        have w19 : zIv mLo mHi (zsI w14M 336 5 (0 : Int32)) := zIv.put w14I (show 0 ≤ (0 : Int32).toInt ∧ (0 : Int32).toInt ≤ 500 from ⟨by decide, by decide⟩)
        refine zs_putI (pc := 2) t253_2 (zk1 (w14s.k fk_zMm_336)) rfl ?_
        refine zs_aload_n (pc := 5) t253_5 rfl ?_
        refine zs_get (pc := 6) t253_6 (by decide) (zk1 (w14s.k fk_zMm_336)) (zfvi rfl ((zIoj (by decide)).trans rfl)) ?_
        refine zs_iconst (pc := 9) t253_9 (v := -1) (by decide) ?_
        refine zs_icmp_neT (pc := 10) t253_10 rfl lin1 (by omega) ?_
        refine zs_iconst (pc := 17) t253_17 (v := 0) (by decide) ?_
        refine zs_iret (pc := 18) t253_18 mr253 (by decide) ?_
        show zGo X l 6 0 0 235 49 [(0, .ref 336), (1, .int w14x1)] [.int (0 : Int32)] (zsI w14M 336 5 (0 : Int32)) _
        refine zs_if_eqT (pc := 49) t235_49 li0 (by decide) ?_
        refine zs_aload_n (pc := 60) t235_60 rfl ?_
        refine zs_bipush (pc := 61) t235_61 (v := 11) (by decide) ?_
        refine zs_iconst (pc := 63) t235_63 (v := 0) (by decide) ?_
        have w20k : zRk (zrow (zsI w14M 336 5 (0 : Int32)) 11) := (zPA.fr (M' := (zsI w14M 336 5 (0 : Int32))) (zPA.up (zPA.fr (M' := (zsI (zsI w11M 336 6 (0 : Int32)) 336 7 (-1 : Int32))) (zPA.fr (M' := (zsI w11M 336 6 (0 : Int32))) w11A (zEq.put rfl)) (zEq.put rfl)) w14U) (zEq.put rfl))
        refine zs_invV (pc := 64) (k := 336) (as' := [.int (11 : Int32), .int (0 : Int32)]) (st := []) t235_64 mf226 rfl rfl (Or.inl ⟨by decide, (zk1 (w14s.k fk_zMm_336))⟩) ⟨by decide, by decide, Nat.le_of_ble_eq_true rfl, Nat.le_of_ble_eq_true rfl⟩ (K226 (na := 11) (nb := 0) w14s w19 (by decide) (by decide) (by omega) (by omega) (by omega) w20k ?_) (fun _ _ q => q)
        intro w20M w20s w20I w20F w20J w20c
        have w20R : zPR w20M := zPR.cp (zPR.fr (M' := (zsI w14M 336 5 (0 : Int32))) w14PR (zEq.put rfl)) w19 w20k w20c (w20F.eq rfl)
        have w20C : zPC w20M := zPC.cp (zPC.fr (M' := (zsI w14M 336 5 (0 : Int32))) w14PC (zEq.put rfl)) w19 (zPR.fr (M' := (zsI w14M 336 5 (0 : Int32))) w14PR (zEq.put rfl)) w20k w20c
        have w20A : zPA w20M := zPA.cp w20k w20c (Or.inr (zPA.fr (M' := (zsI w14M 336 5 (0 : Int32))) (zPA.up (zPA.fr (M' := (zsI (zsI w11M 336 6 (0 : Int32)) 336 7 (-1 : Int32))) (zPA.fr (M' := (zsI w11M 336 6 (0 : Int32))) w11A (zEq.put rfl)) (zEq.put rfl)) w14U) (zEq.put rfl)))
        show zGo X l 6 0 0 235 67 [(0, .ref 336), (1, .int w14x1)] [] w20M _
        refine zs_iconst (pc := 67) t235_67 (v := -1) (by decide) ?_
        have w21 : (-1 : Int32).toInt = (-1) := lin1
        have w22 : (zI w20M 336 5).toInt = 0 := (congrArg Int32.toInt ((w20F 336 5 rfl).trans zIs)).trans li0
        have w23 := ib336_3 hI
        have w24 : (zI w20M 336 3).toInt = (zI M 336 3).toInt := (congrArg Int32.toInt ((w20F 336 3 rfl).trans ((zIoj (by decide)).trans ((w14F 336 3 rfl).trans ((zIoj (by decide)).trans ((zIoj (by decide)).trans ((w11F 336 3 rfl).trans rfl))))))).trans rfl
        have w25 := lin1
        have w26 : (-1 : Int32).toInt = (-1) := lin1
        exact zs_iret (pc := 68) t235_68 mr235 (by decide) (hQ _ _ w20s w20I (((((((zFr.refl).trans (w11F.mono rfl)).put rfl).put rfl).trans (w14F.mono rfl)).put rfl).trans (w20F.mono rfl)) (w20J.trans (w14J.trans w11J)) w20R w20C (zPF.fr (zPF.fr (M' := (zsI w14M 336 5 (0 : Int32))) (zPF.fr (zPF.fr (M' := (zsI (zsI w11M 336 6 (0 : Int32)) 336 7 (-1 : Int32))) (zPF.fr (M' := (zsI w11M 336 6 (0 : Int32))) (zPF.fr pF (w11F.eq rfl) w11J) (zEq.put rfl) rfl) (zEq.put rfl) rfl) (w14F.eq rfl) w14J) (zEq.put rfl) rfl) (w20F.eq rfl) w20J) (by omega) (by omega) (Or.inl ⟨by decide, w14t1 (by omega), (zRw.cp w20c (zRw.frR (zRw.frR (zRw.cp w11c x0) (by decide) (fun j hj => ((w14U j hj).trans ((zIo (by decide)).trans (zIo (by decide)))))) (by decide) (fun j hj => (zIo (by decide))))), (zHM.cp (zHM.fr (zHM.fr (zHM.cp x1 w11c (by omega) (by omega) (w11F 336 1 rfl)) (fun j hj => ((w14U j hj).trans ((zIo (by decide)).trans (zIo (by decide))))) ((w14F 336 1 rfl).trans ((zIoj (by decide)).trans (zIoj (by decide))))) (fun j hj => (zIo (by decide))) (zIoj (by decide))) w20c (by omega) (by omega) (w20F 336 1 rfl)), (zKM.cp (zKM.fr (zKM.fr (zKM.cp x2 w11c (by omega) (fun k => w11F 338 k rfl)) (fun j hj => ((w14U j hj).trans ((zIo (by decide)).trans (zIo (by decide))))) (fun k => ((w14F 338 k rfl).trans ((zIo (by decide)).trans (zIo (by decide)))))) (fun j hj => (zIo (by decide))) (fun k => (zIo (by decide)))) w20c (by omega) (fun k => w20F 338 k rfl))⟩))
      · refine zs_icmp_neF (pc := 18) t235_18 rfl lin1 (by omega) ?_
        refine zs_aload_n (pc := 21) t235_21 rfl ?_
        refine zs_get (pc := 22) t235_22 (by decide) (zk1 (w14s.k fk_zMm_336)) (zfvi rfl rfl) ?_
        refine zs_aload_n (pc := 25) t235_25 rfl ?_
        refine zs_get (pc := 26) t235_26 (by decide) (zk1 (w14s.k fk_zMm_336)) (zfvi rfl ((w14F 336 5 rfl).trans ((zIoj (by decide)).trans ((zIoj (by decide)).trans ((w11F 336 5 rfl).trans rfl))))) ?_
        by_cases w27 : (zI M 336 5).toInt ≤ (zI w14M 336 6).toInt
        · refine zs_icmp_geT (pc := 29) t235_29 rfl rfl (by omega) ?_
          refine zs_aload_n (pc := 45) t235_45 rfl ?_
          refine zs_invV (pc := 46) (k := 336) (as' := []) (st := []) t235_46 mf253 rfl rfl (Or.inl ⟨by decide, (zk1 (w14s.k fk_zMm_336))⟩) ⟨by decide, by decide, Nat.le_of_ble_eq_true rfl, Nat.le_of_ble_eq_true rfl⟩ (zs_in (by decide) mf253 (Nat.le_of_ble_eq_true rfl) ?_) (fun _ _ q => q)
          show zGo X l 0 0 0 253 0 [(0, .ref 336)] [] w14M _
          refine zs_aload_n (pc := 0) t253_0 rfl ?_
          refine zs_iconst (pc := 1) t253_1 (v := 0) (by decide) ?_
          have w28 : zIv mLo mHi (zsI w14M 336 5 (0 : Int32)) := zIv.put w14I (show 0 ≤ (0 : Int32).toInt ∧ (0 : Int32).toInt ≤ 500 from ⟨by decide, by decide⟩)
          refine zs_putI (pc := 2) t253_2 (zk1 (w14s.k fk_zMm_336)) rfl ?_
          refine zs_aload_n (pc := 5) t253_5 rfl ?_
          refine zs_get (pc := 6) t253_6 (by decide) (zk1 (w14s.k fk_zMm_336)) (zfvi rfl ((zIoj (by decide)).trans rfl)) ?_
          refine zs_iconst (pc := 9) t253_9 (v := -1) (by decide) ?_
          refine zs_icmp_neF (pc := 10) t253_10 rfl lin1 (by omega) ?_
          refine zs_iconst (pc := 13) t253_13 (v := 1) (by decide) ?_
          refine zs_goto (pc := 14) t253_14 ?_
          refine zs_iret (pc := 18) t253_18 mr253 (by decide) ?_
          show zGo X l 6 0 0 235 49 [(0, .ref 336), (1, .int w14x1)] [.int (1 : Int32)] (zsI w14M 336 5 (0 : Int32)) _
          refine zs_if_eqF (pc := 49) t235_49 li1 (by decide) ?_
          refine zs_aload_n (pc := 52) t235_52 rfl ?_
          refine zs_bipush (pc := 53) t235_53 (v := 11) (by decide) ?_
          have w29 : (zI (zsI w14M 336 5 (0 : Int32)) 336 6).toInt = (zI w14M 336 6).toInt := (congrArg Int32.toInt ((zIoj (by decide)).trans rfl)).trans rfl
          have w30 : (zI (zsI w14M 336 5 (0 : Int32)) 336 7).toInt = (zI w14M 336 7).toInt := (congrArg Int32.toInt ((zIoj (by decide)).trans rfl)).trans rfl
          obtain ⟨w31n, w31⟩ : ∃ n : Nat, (zI w14M 336 6).toInt = (n : Int) := ⟨((zI w14M 336 6).toInt).toNat, by omega⟩
          obtain ⟨w32G, w32d, w32g, w32w⟩ := w14t0 (by omega) w31n w14x1.toInt (by omega) rfl
          have w33 := ibA1 w14I
          have w34 : (zI (zsI w14M 336 5 (0 : Int32)) 337 1).toInt = (zI w14M 337 1).toInt := (congrArg Int32.toInt ((zIo (by decide)).trans rfl)).trans rfl
          have w35 := ibA2 w14I
          have w36 : (zI (zsI w14M 336 5 (0 : Int32)) 337 2).toInt = (zI w14M 337 2).toInt := (congrArg Int32.toInt ((zIo (by decide)).trans rfl)).trans rfl
          have w37 := ibA0 w14I
          have w38 : (zI (zsI w14M 336 5 (0 : Int32)) 337 0).toInt = (zI w14M 337 0).toInt := (congrArg Int32.toInt ((zIo (by decide)).trans rfl)).trans rfl
          refine zs_invV (pc := 55) (k := 336) (as' := [.int (11 : Int32)]) (st := []) t235_55 mf230 rfl rfl (Or.inl ⟨by decide, (zk1 (w14s.k fk_zMm_336))⟩) ⟨by decide, by decide, Nat.le_of_ble_eq_true rfl, Nat.le_of_ble_eq_true rfl⟩ (R230_11 w14s w28 (zPR.fr (M' := (zsI w14M 336 5 (0 : Int32))) w14PR (zEq.put rfl)) (zPC.fr (M' := (zsI w14M 336 5 (0 : Int32))) w14PC (zEq.put rfl)) (zPA.fr (M' := (zsI w14M 336 5 (0 : Int32))) (zPA.up (zPA.fr (M' := (zsI (zsI w11M 336 6 (0 : Int32)) 336 7 (-1 : Int32))) (zPA.fr (M' := (zsI w11M 336 6 (0 : Int32))) w11A (zEq.put rfl)) (zEq.put rfl)) w14U) (zEq.put rfl)) (zRw.frR (zRw.frR (zRw.cp w11c x0) (by decide) (fun j hj => ((w14U j hj).trans ((zIo (by decide)).trans (zIo (by decide)))))) (by decide) (fun j hj => (zIo (by decide)))) (zHM.fr (zHM.fr (zHM.cp x1 w11c (by omega) (by omega) (w11F 336 1 rfl)) (fun j hj => ((w14U j hj).trans ((zIo (by decide)).trans (zIo (by decide))))) ((w14F 336 1 rfl).trans ((zIoj (by decide)).trans (zIoj (by decide))))) (fun j hj => (zIo (by decide))) (zIoj (by decide))) ?_) (fun _ _ q => q)
          intro w39M w39s w39I w39F w39J w39PR w39PC w39PF w39t0 w39t1 w39t2 w39t3 w39x0 w39x1
          have w40 := ibA1 w39I
          have w41 := ib336_3 w39I
          have w42 := ibA2 w39I
          have w43 := ibA0 w39I
          have w39r0 := w39x1 0 (by decide) _ (zRw.fr' w32g (fun j hj => (zIo (by decide))))
          show zGo X l 6 0 0 235 58 [(0, .ref 336), (1, .int w14x1)] [] w39M _
          refine zs_iload_n (pc := 58) t235_58 rfl ?_
          have w44 : (zI w39M 336 5).toInt = 0 := (congrArg Int32.toInt ((w39F 336 5 rfl).trans zIs)).trans li0
          have w45 : (zI w39M 336 3).toInt = (zI w39M 336 3).toInt := (congrArg Int32.toInt rfl).trans rfl
          exact zs_iret (pc := 59) t235_59 mr235 rfl (hQ _ _ w39s w39I (((((((zFr.refl).trans (w11F.mono rfl)).put rfl).put rfl).trans (w14F.mono rfl)).put rfl).trans (w39F.mono rfl)) (w39J.trans (w14J.trans w11J)) w39PR w39PC w39PF (by omega) (by omega) (Or.inr ⟨by omega, w32G, w32d.end (by omega), w32w, w39r0, w39x0, (zKM.rows (zKM.fr (zKM.fr (zKM.cp x2 w11c (by omega) (fun k => w11F 338 k rfl)) (fun j hj => ((w14U j hj).trans ((zIo (by decide)).trans (zIo (by decide))))) (fun k => ((w14F 338 k rfl).trans ((zIo (by decide)).trans (zIo (by decide)))))) (fun j hj => (zIo (by decide))) (fun k => (zIo (by decide)))) (fun r h1 h2 G z => w39x1 r (Or.inl (by omega)) G z) (fun k => w39F 338 k rfl))⟩))
        · refine zs_icmp_geF (pc := 29) t235_29 rfl rfl (by omega) ?_
          refine zs_aload_n (pc := 32) t235_32 rfl ?_
          have w46 : (zI w14M 336 6).toInt = (zI w14M 336 6).toInt := (congrArg Int32.toInt rfl).trans rfl
          have w47 : (zI w14M 336 7).toInt = (zI w14M 336 7).toInt := (congrArg Int32.toInt rfl).trans rfl
          obtain ⟨w48n, w48⟩ : ∃ n : Nat, (zI w14M 336 6).toInt = (n : Int) := ⟨((zI w14M 336 6).toInt).toNat, by omega⟩
          obtain ⟨w49G, w49d, w49g, w49w⟩ := w14t0 (by omega) w48n w14x1.toInt (by omega) rfl
          have w50 : (zI w14M 336 6).toInt = (zI w14M 336 6).toInt := (congrArg Int32.toInt rfl).trans rfl
          have w51 : (zI w14M 336 5).toInt = (zI M 336 5).toInt := (congrArg Int32.toInt ((w14F 336 5 rfl).trans ((zIoj (by decide)).trans ((zIoj (by decide)).trans ((w11F 336 5 rfl).trans rfl))))).trans rfl
          have w52 : (zI w14M 336 7).toInt = (zI w14M 336 7).toInt := (congrArg Int32.toInt rfl).trans rfl
          have w53 : (zI w14M 336 6).toInt = (zI w14M 336 6).toInt := (congrArg Int32.toInt rfl).trans rfl
          refine zs_invV (pc := 33) (k := 336) (as' := []) (st := []) t235_33 mf237 rfl rfl (Or.inl ⟨by decide, (zk1 (w14s.k fk_zMm_336))⟩) ⟨by decide, by decide, Nat.le_of_ble_eq_true rfl, Nat.le_of_ble_eq_true rfl⟩ (R237 w14s w14I w14PR w14PC (by omega) (by omega) (by omega) (by omega) (by omega) w49g (zTm.mk x4 (fun j => ((w14F 339 j rfl).trans ((zIo (by decide)).trans ((zIo (by decide)).trans (w11F 339 j rfl))))) ((w14F 336 5 rfl).trans ((zIoj (by decide)).trans ((zIoj (by decide)).trans (w11F 336 5 rfl))))) w49w ?_) (fun _ _ q => q)
          intro w54M w54v w54s w54I w54F w54J w54U w54PR w54PC w54t0 w54x0 w54a w54b
          have w55 := ib336_6 w54I
          have w56 := ib336_7 w54I
          show zGo X l 6 0 0 235 36 [(0, .ref 336), (1, .int w14x1)] [.int w54v] w54M _
          rcases w54x0 w48n (by omega) with ⟨w49v, w49q, w49F, w49_1, w49_2, w49_3, w49_4, w49_5, w49r, w49wf⟩ | ⟨w49v, w49_5, w49z⟩
          · skip
            refine zs_if_eqF (pc := 36) t235_36 rfl (by omega) ?_
            obtain ⟨w57v, w57e, w57⟩ := ziadd (a := w14x1) (b := Int32.ofInt 1) rfl (show (Int32.ofInt 1).toInt = 1 by decide) (by omega) (by omega)
            refine zs_iinc (pc := 39) t235_39 (ls' := [(1, .int w57v), (0, .ref 336)]) (zml mf235 (by decide)) rfl (c := w57v) w57e rfl ?_
            refine zs_goto (pc := 42) t235_42 ?_
            refine zGo.locals (ls' := [(0, .ref 336), (1, .int w57v)]) (by simp) ?_
            have w58 := w57
            have w59 : (zI w54M 336 6).toInt = (zI w54M 336 6).toInt := (congrArg Int32.toInt rfl).trans rfl
            have w60 : (zI w54M 336 7).toInt = (zI w54M 336 7).toInt := (congrArg Int32.toInt rfl).trans rfl
            have w61 : (zI w54M 336 6).toInt = (zI w54M 336 6).toInt := (congrArg Int32.toInt rfl).trans rfl
            have w62 : (zI w54M 336 5).toInt = (zI M 336 5).toInt := (congrArg Int32.toInt ((w54F 336 5 rfl).trans ((w14F 336 5 rfl).trans ((zIoj (by decide)).trans ((zIoj (by decide)).trans ((w11F 336 5 rfl).trans rfl)))))).trans rfl
            have w63 : (zI w54M 336 7).toInt = (zI w54M 336 7).toInt := (congrArg Int32.toInt rfl).trans rfl
            have w64 : (zI w54M 336 5).toInt = (zI M 336 5).toInt := (congrArg Int32.toInt ((w54F 336 5 rfl).trans ((w14F 336 5 rfl).trans ((zIoj (by decide)).trans ((zIoj (by decide)).trans ((w11F 336 5 rfl).trans rfl)))))).trans rfl
            have w65 : w57v.toInt = (w14x1.toInt + 1) := w57
            have w66 : (zI w54M 336 6).toInt = (zI w54M 336 6).toInt := (congrArg Int32.toInt rfl).trans rfl
            have w67 : (zI w54M 336 7).toInt = (zI w54M 336 7).toInt := (congrArg Int32.toInt rfl).trans rfl
            exact w14ih (w14m - 1) (by omega) w57v w54M ⟨by omega, by omega⟩ w54s w54I (((zFr.refl).trans (w14F.mono rfl)).trans (w54F.mono rfl)) (w54J.trans w14J) (((zUp.refl).trans w14U).trans w54U) w54PR w54PC (by omega) (by omega) (by omega) (fun q p x hp hx => by obtain rfl : w49q = p := (by omega); rw [show x = w14x1.toInt + 1 by omega]; exact ⟨w49F, w49d.it (by omega) w49_1, w49r, w49wf⟩) (fun q => absurd (by omega) q) (by omega)
          · skip
            refine zs_if_eqT (pc := 36) t235_36 rfl (by omega) ?_
            refine zGo.locals (ls' := [(0, .ref 336), (1, .int w14x1)]) (by simp) ?_
            have w68 : (zI w54M 336 6).toInt = (zI w54M 336 6).toInt := (congrArg Int32.toInt rfl).trans rfl
            have w69 : (zI w54M 336 7).toInt = (zI w54M 336 7).toInt := (congrArg Int32.toInt rfl).trans rfl
            have w70 : (zI w54M 336 6).toInt = (zI w54M 336 6).toInt := (congrArg Int32.toInt rfl).trans rfl
            have w71 : (zI w54M 336 5).toInt = (zI M 336 5).toInt := (congrArg Int32.toInt ((w54F 336 5 rfl).trans ((w14F 336 5 rfl).trans ((zIoj (by decide)).trans ((zIoj (by decide)).trans ((w11F 336 5 rfl).trans rfl)))))).trans rfl
            have w72 : (zI w54M 336 7).toInt = (zI w54M 336 7).toInt := (congrArg Int32.toInt rfl).trans rfl
            have w73 : (zI w54M 336 5).toInt = (zI M 336 5).toInt := (congrArg Int32.toInt ((w54F 336 5 rfl).trans ((w14F 336 5 rfl).trans ((zIoj (by decide)).trans ((zIoj (by decide)).trans ((w11F 336 5 rfl).trans rfl)))))).trans rfl
            have w74 : (zI w54M 336 6).toInt = (zI w54M 336 6).toInt := (congrArg Int32.toInt rfl).trans rfl
            have w75 : (zI w54M 336 7).toInt = (zI w54M 336 7).toInt := (congrArg Int32.toInt rfl).trans rfl
            exact w14ih (w14m - 1) (by omega) w14x1 w54M ⟨by omega, by omega⟩ w54s w54I (((zFr.refl).trans (w14F.mono rfl)).trans (w54F.mono rfl)) (w54J.trans w14J) (((zUp.refl).trans w14U).trans w54U) w54PR w54PC (by omega) (by omega) (by omega) (fun q => absurd q (by omega)) (fun q => w49d.no (by omega) w49z) (by omega)
  refine zGo.locals (ls' := [(0, .ref 336), (1, .int (0 : Int32))]) (by simp) ?_
  have w76 := li0
  have w77 : (zI (zsI (zsI w11M 336 6 (0 : Int32)) 336 7 (-1 : Int32)) 336 6).toInt = 0 := (congrArg Int32.toInt ((zIoj (by decide)).trans zIs)).trans li0
  have w78 : (zI (zsI (zsI w11M 336 6 (0 : Int32)) 336 7 (-1 : Int32)) 336 7).toInt = (-1) := (congrArg Int32.toInt zIs).trans lin1
  have w79 : (zI (zsI (zsI w11M 336 6 (0 : Int32)) 336 7 (-1 : Int32)) 336 6).toInt = 0 := (congrArg Int32.toInt ((zIoj (by decide)).trans zIs)).trans li0
  have w80 : (zI (zsI (zsI w11M 336 6 (0 : Int32)) 336 7 (-1 : Int32)) 336 5).toInt = (zI M 336 5).toInt := (congrArg Int32.toInt ((zIoj (by decide)).trans ((zIoj (by decide)).trans ((w11F 336 5 rfl).trans rfl)))).trans rfl
  have w81 : (zI (zsI (zsI w11M 336 6 (0 : Int32)) 336 7 (-1 : Int32)) 336 7).toInt = (-1) := (congrArg Int32.toInt zIs).trans lin1
  have w82 : (zI (zsI (zsI w11M 336 6 (0 : Int32)) 336 7 (-1 : Int32)) 336 5).toInt = (zI M 336 5).toInt := (congrArg Int32.toInt ((zIoj (by decide)).trans ((zIoj (by decide)).trans ((w11F 336 5 rfl).trans rfl)))).trans rfl
  have w83 : (zI (zsI (zsI w11M 336 6 (0 : Int32)) 336 7 (-1 : Int32)) 336 6).toInt = 0 := (congrArg Int32.toInt ((zIoj (by decide)).trans zIs)).trans li0
  have w84 : (zI (zsI (zsI w11M 336 6 (0 : Int32)) 336 7 (-1 : Int32)) 336 7).toInt = (-1) := (congrArg Int32.toInt zIs).trans lin1
  exact w14L ((501 - (zI (zsI (zsI w11M 336 6 (0 : Int32)) 336 7 (-1 : Int32)) 336 6).toInt - 501 * (min (zI (zsI (zsI w11M 336 6 (0 : Int32)) 336 7 (-1 : Int32)) 336 7).toInt 0) : Int).toNat) (0 : Int32) (zsI (zsI w11M 336 6 (0 : Int32)) 336 7 (-1 : Int32)) ⟨by decide, by decide⟩ w11s w13 zFr.refl rfl zUp.refl (zPR.fr (M' := (zsI (zsI w11M 336 6 (0 : Int32)) 336 7 (-1 : Int32))) (zPR.fr (M' := (zsI w11M 336 6 (0 : Int32))) w11R (zEq.put rfl)) (zEq.put rfl)) (zPC.fr (M' := (zsI (zsI w11M 336 6 (0 : Int32)) 336 7 (-1 : Int32))) (zPC.fr (M' := (zsI w11M 336 6 (0 : Int32))) w11C (zEq.put rfl)) (zEq.put rfl)) (by omega) (by omega) (by omega) (fun q p x hp hx => by obtain rfl : p = 0 := (by omega); obtain rfl : x = 0 := (by omega); exact ⟨F, tE.refl, (zRw.fr' (zRw.cpo w11c x0 (by omega)) (fun j hj => ((zIo (by decide)).trans (zIo (by decide))))), x3⟩) (fun q => absurd q (by omega)) (by omega)
