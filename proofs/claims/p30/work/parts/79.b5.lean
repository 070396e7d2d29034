theorem R235 {X : zX} {l : Launch} {M : zM} {Q : Option Value → zM → Prop} (hs : zSk zMm M) (hI : zIv mLo mHi M) {F : Nat → Int} {H : Nat → Nat → Int} {n : Int} {K : Nat → Nat → Int} {T : Nat → Int} {gg : Nat → Int} {nn : Int} (pR : zPR M) (pC : zPC M) (pF : zPF M) (x0 : zRw M 0 F) (x1 : zHM M H n) (x2 : zKM M K T) (x3 : zWF F) (x4 : zTm M gg nn) (hQ : ∀ (M' : zM) (v : Int32), zSk zMm M' → zIv mLo mHi M' → zFr [(337, 337, none), (336, 336, some 6), (336, 336, some 7), (336, 336, some 8), (336, 336, some 5), (336, 336, some 1), (336, 336, some 3)] M M' → zJ M' 351 = zJ M 351 → zPR M' → zPC M' → zPF M' → ((zI M' 336 5).toInt = 0) → ((v.toInt = -1 ∧ tR gg nn (0, F, 0) none ∧ zSM M' F H n K T) ∨ (0 ≤ v.toInt ∧ ∃ F2 : Nat → Int, tR gg nn (0, F, 0) (some (F2, v.toInt)) ∧ zWF F2 ∧ zSM M' F2 (pushH F H) (nP n) K T)) → Q (some (.int v)) M') : zCall X l 6 0 0 235 [.ref 336] M Q := by
  refine zs_in (by decide) mf235 (Nat.le_of_ble_eq_true rfl) ?_
  show zGo X l 6 0 0 235 0 [(0, .ref 336)] [] M _
  have f1 := x3.1
  have f3 := x3.2.2.2
  have w1 := ibA0 hI
  have w2 : (zI M 337 0).toInt = (zI M 337 0).toInt := (congrArg Int32.toInt rfl).trans rfl
  have e0 : (zI M 337 0).toInt = F 0 := x0.at (by decide) (by decide) (by decide)
  have w3 := ibA1 hI
  have w4 : (zI M 337 1).toInt = (zI M 337 1).toInt := (congrArg Int32.toInt rfl).trans rfl
  have e1 : (zI M 337 1).toInt = F 1 := x0.at (by decide) (by decide) (by decide)
  have w5 := ibA2 hI
  have w6 : (zI M 337 2).toInt = (zI M 337 2).toInt := (congrArg Int32.toInt rfl).trans rfl
  have e2 : (zI M 337 2).toInt = F 2 := x0.at (by decide) (by decide) (by decide)
  have hn := x4.2
  have w7 := ib336_5 hI
  have w8 : (zI M 336 5).toInt = (zI M 336 5).toInt := (congrArg Int32.toInt rfl).trans rfl
  refine zs_aload_n (pc := 0) t235_0 rfl ?_
  refine zs_iconst (pc := 1) t235_1 (v := 0) (by decide) ?_
  refine zs_bipush (pc := 2) t235_2 (v := 11) (by decide) ?_
  have w9k : zRk (zrow M 0) := (zRk0 hI pR pC)
  refine zs_invV (pc := 4) (k := 336) (as' := [.int (0 : Int32), .int (11 : Int32)]) (st := []) t235_4 mf226 rfl rfl (Or.inl ⟨by decide, (zk1 (hs.k fk_zMm_336))⟩) ⟨by decide, by decide, Nat.le_of_ble_eq_true rfl, Nat.le_of_ble_eq_true rfl⟩ (K226 (na := 0) (nb := 11) hs hI (by decide) (by decide) (by omega) (by omega) (by omega) w9k ?_) (fun _ _ q => q)
  intro w9M w9s w9I w9F w9J w9c
  have w9R : zPR w9M := zPR.cp pR hI w9k w9c (w9F.eq rfl)
  have w9C : zPC w9M := zPC.cp pC hI pR w9k w9c
  have w9A : zPA w9M := zPA.cp w9k w9c (Or.inl rfl)
  have w9r0 : zI w9M 337 0 = (zI M 337 0) := (w9c.1 0 (Or.inl (by omega))).trans rfl
  have w9r1 : zI w9M 337 1 = (zI M 337 1) := (w9c.1 1 (Or.inl (by omega))).trans rfl
  have w9r2 : zI w9M 337 2 = (zI M 337 2) := (w9c.1 2 (Or.inl (by omega))).trans rfl
  show zGo X l 6 0 0 235 7 [(0, .ref 336)] [] w9M _
  refine zs_aload_n (pc := 7) t235_7 rfl ?_
  refine zs_invV (pc := 8) (k := 336) (as' := []) (st := []) t235_8 mf236 rfl rfl (Or.inl ⟨by decide, (zk1 (w9s.k fk_zMm_336))⟩) ⟨by decide, by decide, Nat.le_of_ble_eq_true rfl, Nat.le_of_ble_eq_true rfl⟩ (zs_in (by decide) mf236 (Nat.le_of_ble_eq_true rfl) ?_) (fun _ _ q => q)
  show zGo X l 0 0 0 236 0 [(0, .ref 336)] [] w9M _
  refine zs_aload_n (pc := 0) t236_0 rfl ?_
  refine zs_iconst (pc := 1) t236_1 (v := 0) (by decide) ?_
  have w10 : zIv mLo mHi (zsI w9M 336 6 (0 : Int32)) := zIv.put w9I (show 0 ≤ (0 : Int32).toInt ∧ (0 : Int32).toInt ≤ 500 from ⟨by decide, by decide⟩)
  refine zs_putI (pc := 2) t236_2 (zk1 (w9s.k fk_zMm_336)) rfl ?_
  refine zs_aload_n (pc := 5) t236_5 rfl ?_
  refine zs_iconst (pc := 6) t236_6 (v := -1) (by decide) ?_
  have w11 : zIv mLo mHi (zsI (zsI w9M 336 6 (0 : Int32)) 336 7 (-1 : Int32)) := zIv.put w10 (show (-1) ≤ (-1 : Int32).toInt ∧ (-1 : Int32).toInt ≤ 500 from ⟨by decide, by decide⟩)
  refine zs_putI (pc := 7) t236_7 (zk1 (w9s.k fk_zMm_336)) rfl ?_
  refine zs_vret (pc := 10) t236_10 mr236 ?_
  show zGo X l 6 0 0 235 11 [(0, .ref 336)] [] (zsI (zsI w9M 336 6 (0 : Int32)) 336 7 (-1 : Int32)) _
  refine zs_iconst (pc := 11) t235_11 (v := 0) (by decide) ?_
  refine zs_istore_n (pc := 12) t235_12 (ls' := [(1, .int (0 : Int32)), (0, .ref 336)]) (zml mf235 (by decide)) rfl ?_
  have w12L : ∀ (m : Nat) (w12x1 : Int32) (w12M : zM), (0 ≤ w12x1.toInt ∧ w12x1.toInt ≤ 500) → zSk zMm w12M → zIv mLo mHi w12M → zFr [(336, 336, some 6), (336, 336, some 7), (336, 336, some 8), (337, 337, none)] (zsI (zsI w9M 336 6 (0 : Int32)) 336 7 (-1 : Int32)) w12M → zJ w12M 351 = zJ (zsI (zsI w9M 336 6 (0 : Int32)) 336 7 (-1 : Int32)) 351 → zUp (zsI (zsI w9M 336 6 (0 : Int32)) 336 7 (-1 : Int32)) w12M → zPR w12M → zPC w12M → ((zI w12M 336 7).toInt ≠ -1 ∨ w12x1.toInt ≤ (zI w12M 336 6).toInt) → ((zI w12M 336 7).toInt ≠ -1 ∨ (0 ≤ (zI w12M 336 6).toInt ∧ (zI w12M 336 6).toInt ≤ (zI w12M 336 5).toInt)) → ((zI w12M 336 5).toInt = (zI (zsI (zsI w9M 336 6 (0 : Int32)) 336 7 (-1 : Int32)) 336 5).toInt) → ((zI w12M 336 7).toInt = -1 → ∀ (p : Nat) (x : Int), (p : Int) = (zI w12M 336 6).toInt → x = w12x1.toInt → ∃ G, tE gg nn (0, F, 0) (p, G, x) ∧ zRw w12M 0 G ∧ zWF G) → ((zI w12M 336 7).toInt ≠ -1 → tR gg nn (0, F, 0) none) → 501 - (zI w12M 336 6).toInt - 501 * (min (zI w12M 336 7).toInt 0) ≤ (m : Int) → zGo X l 6 0 0 235 13 [(0, .ref 336), (1, .int w12x1)] [] w12M Q := by
    intro m
    induction m using Nat.strongRecOn with
    | ind w12m w12ih =>
      intro w12x1 w12M w12b1 w12s w12I w12F w12J w12U w12PR w12PC w12r0 w12r1 w12r2 w12t0 w12t1 w12q
      have w13 := ib336_6 w12I
      have w14 := ib336_7 w12I
      have w15 : (zI (zsI (zsI w9M 336 6 (0 : Int32)) 336 7 (-1 : Int32)) 336 5).toInt = (zI M 336 5).toInt := (congrArg Int32.toInt ((zIoj (by decide)).trans ((zIoj (by decide)).trans ((w9F 336 5 rfl).trans rfl)))).trans rfl
      refine zs_aload_n (pc := 13) t235_13 rfl ?_
      refine zs_get (pc := 14) t235_14 (by decide) (zk1 (w12s.k fk_zMm_336)) (zfvi rfl rfl) ?_
      refine zs_iconst (pc := 17) t235_17 (v := -1) (by decide) ?_
      by_cases w16 : (zI w12M 336 7).toInt ≠ (-1)
      · refine zs_icmp_neT (pc := 18) t235_18 rfl lin1 (by omega) ?_
        refine zs_aload_n (pc := 45) t235_45 rfl ?_
        refine zs_invV (pc := 46) (k := 336) (as' := []) (st := []) t235_46 mf253 rfl rfl (Or.inl ⟨by decide, (zk1 (w12s.k fk_zMm_336))⟩) ⟨by decide, by decide, Nat.le_of_ble_eq_true rfl, Nat.le_of_ble_eq_true rfl⟩ (zs_in (by decide) mf253 (Nat.le_of_ble_eq_true rfl) ?_) (fun _ _ q => q)
        show zGo X l 0 0 0 253 0 [(0, .ref 336)] [] w12M _
        refine zs_aload_n (pc := 0) t253_0 rfl ?_
        refine zs_iconst (pc := 1) t253_1 (v := 0) (by decide) ?_
        have w17 : zIv mLo mHi (zsI w12M 336 5 (0 : Int32)) := zIv.put w12I (show 0 ≤ (0 : Int32).toInt ∧ (0 : Int32).toInt ≤ 500 from ⟨by decide, by decide⟩)
        refine zs_putI (pc := 2) t253_2 (zk1 (w12s.k fk_zMm_336)) rfl ?_
        refine zs_aload_n (pc := 5) t253_5 rfl ?_
        refine zs_get (pc := 6) t253_6 (by decide) (zk1 (w12s.k fk_zMm_336)) (zfvi rfl ((zIoj (by decide)).trans rfl)) ?_
        refine zs_iconst (pc := 9) t253_9 (v := -1) (by decide) ?_
        refine zs_icmp_neT (pc := 10) t253_10 rfl lin1 (by omega) ?_
        refine zs_iconst (pc := 17) t253_17 (v := 0) (by decide) ?_
        refine zs_iret (pc := 18) t253_18 mr253 (by decide) ?_
        show zGo X l 6 0 0 235 49 [(0, .ref 336), (1, .int w12x1)] [.int (0 : Int32)] (zsI w12M 336 5 (0 : Int32)) _
        refine zs_if_eqT (pc := 49) t235_49 li0 (by decide) ?_
        refine zs_aload_n (pc := 60) t235_60 rfl ?_
        refine zs_bipush (pc := 61) t235_61 (v := 11) (by decide) ?_
        refine zs_iconst (pc := 63) t235_63 (v := 0) (by decide) ?_
        have w18k : zRk (zrow (zsI w12M 336 5 (0 : Int32)) 11) := (zPA.fr (M' := (zsI w12M 336 5 (0 : Int32))) (zPA.up (zPA.fr (M' := (zsI (zsI w9M 336 6 (0 : Int32)) 336 7 (-1 : Int32))) (zPA.fr (M' := (zsI w9M 336 6 (0 : Int32))) w9A (zEq.put rfl)) (zEq.put rfl)) w12U) (zEq.put rfl))
        refine zs_invV (pc := 64) (k := 336) (as' := [.int (11 : Int32), .int (0 : Int32)]) (st := []) t235_64 mf226 rfl rfl (Or.inl ⟨by decide, (zk1 (w12s.k fk_zMm_336))⟩) ⟨by decide, by decide, Nat.le_of_ble_eq_true rfl, Nat.le_of_ble_eq_true rfl⟩ (K226 (na := 11) (nb := 0) w12s w17 (by decide) (by decide) (by omega) (by omega) (by omega) w18k ?_) (fun _ _ q => q)
        intro w18M w18s w18I w18F w18J w18c
        have w18R : zPR w18M := zPR.cp (zPR.fr (M' := (zsI w12M 336 5 (0 : Int32))) w12PR (zEq.put rfl)) w17 w18k w18c (w18F.eq rfl)
        have w18C : zPC w18M := zPC.cp (zPC.fr (M' := (zsI w12M 336 5 (0 : Int32))) w12PC (zEq.put rfl)) w17 (zPR.fr (M' := (zsI w12M 336 5 (0 : Int32))) w12PR (zEq.put rfl)) w18k w18c
        have w18A : zPA w18M := zPA.cp w18k w18c (Or.inr (zPA.fr (M' := (zsI w12M 336 5 (0 : Int32))) (zPA.up (zPA.fr (M' := (zsI (zsI w9M 336 6 (0 : Int32)) 336 7 (-1 : Int32))) (zPA.fr (M' := (zsI w9M 336 6 (0 : Int32))) w9A (zEq.put rfl)) (zEq.put rfl)) w12U) (zEq.put rfl)))
        show zGo X l 6 0 0 235 67 [(0, .ref 336), (1, .int w12x1)] [] w18M _
        refine zs_iconst (pc := 67) t235_67 (v := -1) (by decide) ?_
        have w19 : (-1 : Int32).toInt = (-1) := lin1
        have w20 : (zI w18M 336 5).toInt = 0 := (congrArg Int32.toInt ((w18F 336 5 rfl).trans zIs)).trans li0
        have w21 := lin1
        have w22 : (-1 : Int32).toInt = (-1) := lin1
        exact zs_iret (pc := 68) t235_68 mr235 (by decide) (hQ _ _ w18s w18I (((((((zFr.refl).trans (w9F.mono rfl)).put rfl).put rfl).trans (w12F.mono rfl)).put rfl).trans (w18F.mono rfl)) (w18J.trans (w12J.trans w9J)) w18R w18C (zPF.fr (zPF.fr (M' := (zsI w12M 336 5 (0 : Int32))) (zPF.fr (zPF.fr (M' := (zsI (zsI w9M 336 6 (0 : Int32)) 336 7 (-1 : Int32))) (zPF.fr (M' := (zsI w9M 336 6 (0 : Int32))) (zPF.fr pF (w9F.eq rfl) w9J) (zEq.put rfl) rfl) (zEq.put rfl) rfl) (w12F.eq rfl) w12J) (zEq.put rfl) rfl) (w18F.eq rfl) w18J) (by omega) (Or.inl ⟨by decide, w12t1 (by omega), (zRw.cp w18c (zRw.frR (zRw.frR (zRw.cp w9c x0) (by decide) (fun j hj => ((w12U j hj).trans ((zIo (by decide)).trans (zIo (by decide)))))) (by decide) (fun j hj => (zIo (by decide))))), (zHM.cp (zHM.fr (zHM.fr (zHM.cp x1 w9c (by omega) (by omega) (w9F 336 1 rfl)) (fun j hj => ((w12U j hj).trans ((zIo (by decide)).trans (zIo (by decide))))) ((w12F 336 1 rfl).trans ((zIoj (by decide)).trans (zIoj (by decide))))) (fun j hj => (zIo (by decide))) (zIoj (by decide))) w18c (by omega) (by omega) (w18F 336 1 rfl)), (zKM.cp (zKM.fr (zKM.fr (zKM.cp x2 w9c (by omega) (fun k => w9F 338 k rfl)) (fun j hj => ((w12U j hj).trans ((zIo (by decide)).trans (zIo (by decide))))) (fun k => ((w12F 338 k rfl).trans ((zIo (by decide)).trans (zIo (by decide)))))) (fun j hj => (zIo (by decide))) (fun k => (zIo (by decide)))) w18c (by omega) (fun k => w18F 338 k rfl))⟩))
      · refine zs_icmp_neF (pc := 18) t235_18 rfl lin1 (by omega) ?_
        refine zs_aload_n (pc := 21) t235_21 rfl ?_
        refine zs_get (pc := 22) t235_22 (by decide) (zk1 (w12s.k fk_zMm_336)) (zfvi rfl rfl) ?_
        refine zs_aload_n (pc := 25) t235_25 rfl ?_
        refine zs_get (pc := 26) t235_26 (by decide) (zk1 (w12s.k fk_zMm_336)) (zfvi rfl ((w12F 336 5 rfl).trans ((zIoj (by decide)).trans ((zIoj (by decide)).trans ((w9F 336 5 rfl).trans rfl))))) ?_
        by_cases w23 : (zI M 336 5).toInt ≤ (zI w12M 336 6).toInt
        · refine zs_icmp_geT (pc := 29) t235_29 rfl rfl (by omega) ?_
          refine zs_aload_n (pc := 45) t235_45 rfl ?_
          refine zs_invV (pc := 46) (k := 336) (as' := []) (st := []) t235_46 mf253 rfl rfl (Or.inl ⟨by decide, (zk1 (w12s.k fk_zMm_336))⟩) ⟨by decide, by decide, Nat.le_of_ble_eq_true rfl, Nat.le_of_ble_eq_true rfl⟩ (zs_in (by decide) mf253 (Nat.le_of_ble_eq_true rfl) ?_) (fun _ _ q => q)
          show zGo X l 0 0 0 253 0 [(0, .ref 336)] [] w12M _
          refine zs_aload_n (pc := 0) t253_0 rfl ?_
          refine zs_iconst (pc := 1) t253_1 (v := 0) (by decide) ?_
          have w24 : zIv mLo mHi (zsI w12M 336 5 (0 : Int32)) := zIv.put w12I (show 0 ≤ (0 : Int32).toInt ∧ (0 : Int32).toInt ≤ 500 from ⟨by decide, by decide⟩)
          refine zs_putI (pc := 2) t253_2 (zk1 (w12s.k fk_zMm_336)) rfl ?_
          refine zs_aload_n (pc := 5) t253_5 rfl ?_
          refine zs_get (pc := 6) t253_6 (by decide) (zk1 (w12s.k fk_zMm_336)) (zfvi rfl ((zIoj (by decide)).trans rfl)) ?_
          refine zs_iconst (pc := 9) t253_9 (v := -1) (by decide) ?_
          refine zs_icmp_neF (pc := 10) t253_10 rfl lin1 (by omega) ?_
          refine zs_iconst (pc := 13) t253_13 (v := 1) (by decide) ?_
          refine zs_goto (pc := 14) t253_14 ?_
          refine zs_iret (pc := 18) t253_18 mr253 (by decide) ?_
          show zGo X l 6 0 0 235 49 [(0, .ref 336), (1, .int w12x1)] [.int (1 : Int32)] (zsI w12M 336 5 (0 : Int32)) _
          refine zs_if_eqF (pc := 49) t235_49 li1 (by decide) ?_
          refine zs_aload_n (pc := 52) t235_52 rfl ?_
          refine zs_bipush (pc := 53) t235_53 (v := 11) (by decide) ?_
          have w25 : (zI (zsI w12M 336 5 (0 : Int32)) 336 6).toInt = (zI w12M 336 6).toInt := (congrArg Int32.toInt ((zIoj (by decide)).trans rfl)).trans rfl
          have w26 : (zI (zsI w12M 336 5 (0 : Int32)) 336 7).toInt = (zI w12M 336 7).toInt := (congrArg Int32.toInt ((zIoj (by decide)).trans rfl)).trans rfl
          obtain ⟨w27n, w27⟩ : ∃ n : Nat, (zI w12M 336 6).toInt = (n : Int) := ⟨((zI w12M 336 6).toInt).toNat, by omega⟩
          obtain ⟨w28G, w28d, w28g, w28w⟩ := w12t0 (by omega) w27n w12x1.toInt (by omega) rfl
          have w29 := ibA1 w12I
          have w30 : (zI (zsI w12M 336 5 (0 : Int32)) 337 1).toInt = (zI w12M 337 1).toInt := (congrArg Int32.toInt ((zIo (by decide)).trans rfl)).trans rfl
          have w31 := ibA2 w12I
          have w32 : (zI (zsI w12M 336 5 (0 : Int32)) 337 2).toInt = (zI w12M 337 2).toInt := (congrArg Int32.toInt ((zIo (by decide)).trans rfl)).trans rfl
          have w33 := ibA0 w12I
          have w34 : (zI (zsI w12M 336 5 (0 : Int32)) 337 0).toInt = (zI w12M 337 0).toInt := (congrArg Int32.toInt ((zIo (by decide)).trans rfl)).trans rfl
          refine zs_invV (pc := 55) (k := 336) (as' := [.int (11 : Int32)]) (st := []) t235_55 mf230 rfl rfl (Or.inl ⟨by decide, (zk1 (w12s.k fk_zMm_336))⟩) ⟨by decide, by decide, Nat.le_of_ble_eq_true rfl, Nat.le_of_ble_eq_true rfl⟩ (R230_11 w12s w24 (zPR.fr (M' := (zsI w12M 336 5 (0 : Int32))) w12PR (zEq.put rfl)) (zPC.fr (M' := (zsI w12M 336 5 (0 : Int32))) w12PC (zEq.put rfl)) (zPA.fr (M' := (zsI w12M 336 5 (0 : Int32))) (zPA.up (zPA.fr (M' := (zsI (zsI w9M 336 6 (0 : Int32)) 336 7 (-1 : Int32))) (zPA.fr (M' := (zsI w9M 336 6 (0 : Int32))) w9A (zEq.put rfl)) (zEq.put rfl)) w12U) (zEq.put rfl)) (zRw.frR (zRw.frR (zRw.cp w9c x0) (by decide) (fun j hj => ((w12U j hj).trans ((zIo (by decide)).trans (zIo (by decide)))))) (by decide) (fun j hj => (zIo (by decide)))) (zHM.fr (zHM.fr (zHM.cp x1 w9c (by omega) (by omega) (w9F 336 1 rfl)) (fun j hj => ((w12U j hj).trans ((zIo (by decide)).trans (zIo (by decide))))) ((w12F 336 1 rfl).trans ((zIoj (by decide)).trans (zIoj (by decide))))) (fun j hj => (zIo (by decide))) (zIoj (by decide))) ?_) (fun _ _ q => q)
          intro w35M w35s w35I w35F w35J w35PR w35PC w35PF w35t0 w35t1 w35t2 w35x0 w35x1
          have w36 := ibA1 w35I
          have w37 := ibA2 w35I
          have w38 := ibA0 w35I
          have w35r0 := w35x1 0 (by decide) _ (zRw.fr' w28g (fun j hj => (zIo (by decide))))
          show zGo X l 6 0 0 235 58 [(0, .ref 336), (1, .int w12x1)] [] w35M _
          refine zs_iload_n (pc := 58) t235_58 rfl ?_
          have w39 : (zI w35M 336 5).toInt = 0 := (congrArg Int32.toInt ((w35F 336 5 rfl).trans zIs)).trans li0
          exact zs_iret (pc := 59) t235_59 mr235 rfl (hQ _ _ w35s w35I (((((((zFr.refl).trans (w9F.mono rfl)).put rfl).put rfl).trans (w12F.mono rfl)).put rfl).trans (w35F.mono rfl)) (w35J.trans (w12J.trans w9J)) w35PR w35PC w35PF (by omega) (Or.inr ⟨by omega, w28G, w28d.end (by omega), w28w, w35r0, w35x0, (zKM.rows (zKM.fr (zKM.fr (zKM.cp x2 w9c (by omega) (fun k => w9F 338 k rfl)) (fun j hj => ((w12U j hj).trans ((zIo (by decide)).trans (zIo (by decide))))) (fun k => ((w12F 338 k rfl).trans ((zIo (by decide)).trans (zIo (by decide)))))) (fun j hj => (zIo (by decide))) (fun k => (zIo (by decide)))) (fun r h1 h2 G z => w35x1 r (Or.inl (by omega)) G z) (fun k => w35F 338 k rfl))⟩))
        · refine zs_icmp_geF (pc := 29) t235_29 rfl rfl (by omega) ?_
          refine zs_aload_n (pc := 32) t235_32 rfl ?_
          have w40 : (zI w12M 336 6).toInt = (zI w12M 336 6).toInt := (congrArg Int32.toInt rfl).trans rfl
          have w41 : (zI w12M 336 7).toInt = (zI w12M 336 7).toInt := (congrArg Int32.toInt rfl).trans rfl
          obtain ⟨w42n, w42⟩ : ∃ n : Nat, (zI w12M 336 6).toInt = (n : Int) := ⟨((zI w12M 336 6).toInt).toNat, by omega⟩
          obtain ⟨w43G, w43d, w43g, w43w⟩ := w12t0 (by omega) w42n w12x1.toInt (by omega) rfl
          have w44 : (zI w12M 336 6).toInt = (zI w12M 336 6).toInt := (congrArg Int32.toInt rfl).trans rfl
          have w45 : (zI w12M 336 5).toInt = (zI M 336 5).toInt := (congrArg Int32.toInt ((w12F 336 5 rfl).trans ((zIoj (by decide)).trans ((zIoj (by decide)).trans ((w9F 336 5 rfl).trans rfl))))).trans rfl
          have w46 : (zI w12M 336 7).toInt = (zI w12M 336 7).toInt := (congrArg Int32.toInt rfl).trans rfl
          have w47 : (zI w12M 336 6).toInt = (zI w12M 336 6).toInt := (congrArg Int32.toInt rfl).trans rfl
          refine zs_invV (pc := 33) (k := 336) (as' := []) (st := []) t235_33 mf237 rfl rfl (Or.inl ⟨by decide, (zk1 (w12s.k fk_zMm_336))⟩) ⟨by decide, by decide, Nat.le_of_ble_eq_true rfl, Nat.le_of_ble_eq_true rfl⟩ (R237 w12s w12I w12PR w12PC (by omega) (by omega) (by omega) (by omega) (by omega) w43g (zTm.mk x4 (fun j => ((w12F 339 j rfl).trans ((zIo (by decide)).trans ((zIo (by decide)).trans (w9F 339 j rfl))))) ((w12F 336 5 rfl).trans ((zIoj (by decide)).trans ((zIoj (by decide)).trans (w9F 336 5 rfl))))) w43w ?_) (fun _ _ q => q)
          intro w48M w48v w48s w48I w48F w48J w48U w48PR w48PC w48t0 w48x0 w48a w48b
          have w49 := ib336_6 w48I
          have w50 := ib336_7 w48I
          show zGo X l 6 0 0 235 36 [(0, .ref 336), (1, .int w12x1)] [.int w48v] w48M _
          rcases w48x0 w42n (by omega) with ⟨w43v, w43q, w43F, w43_1, w43_2, w43_3, w43_4, w43_5, w43r, w43wf⟩ | ⟨w43v, w43_5, w43z⟩
          · skip
            refine zs_if_eqF (pc := 36) t235_36 rfl (by omega) ?_
            obtain ⟨w51v, w51e, w51⟩ := ziadd (a := w12x1) (b := Int32.ofInt 1) rfl (show (Int32.ofInt 1).toInt = 1 by decide) (by omega) (by omega)
            refine zs_iinc (pc := 39) t235_39 (ls' := [(1, .int w51v), (0, .ref 336)]) (zml mf235 (by decide)) rfl (c := w51v) w51e rfl ?_
            refine zs_goto (pc := 42) t235_42 ?_
            refine zGo.locals (ls' := [(0, .ref 336), (1, .int w51v)]) (by simp) ?_
            have w52 := w51
            have w53 : (zI w48M 336 6).toInt = (zI w48M 336 6).toInt := (congrArg Int32.toInt rfl).trans rfl
            have w54 : (zI w48M 336 7).toInt = (zI w48M 336 7).toInt := (congrArg Int32.toInt rfl).trans rfl
            have w55 : (zI w48M 336 6).toInt = (zI w48M 336 6).toInt := (congrArg Int32.toInt rfl).trans rfl
            have w56 : (zI w48M 336 5).toInt = (zI M 336 5).toInt := (congrArg Int32.toInt ((w48F 336 5 rfl).trans ((w12F 336 5 rfl).trans ((zIoj (by decide)).trans ((zIoj (by decide)).trans ((w9F 336 5 rfl).trans rfl)))))).trans rfl
            have w57 : (zI w48M 336 7).toInt = (zI w48M 336 7).toInt := (congrArg Int32.toInt rfl).trans rfl
            have w58 : (zI w48M 336 5).toInt = (zI M 336 5).toInt := (congrArg Int32.toInt ((w48F 336 5 rfl).trans ((w12F 336 5 rfl).trans ((zIoj (by decide)).trans ((zIoj (by decide)).trans ((w9F 336 5 rfl).trans rfl)))))).trans rfl
            have w59 : w51v.toInt = (w12x1.toInt + 1) := w51
            have w60 : (zI w48M 336 6).toInt = (zI w48M 336 6).toInt := (congrArg Int32.toInt rfl).trans rfl
            have w61 : (zI w48M 336 7).toInt = (zI w48M 336 7).toInt := (congrArg Int32.toInt rfl).trans rfl
            exact w12ih (w12m - 1) (by omega) w51v w48M ⟨by omega, by omega⟩ w48s w48I (((zFr.refl).trans (w12F.mono rfl)).trans (w48F.mono rfl)) (w48J.trans w12J) (((zUp.refl).trans w12U).trans w48U) w48PR w48PC (by omega) (by omega) (by omega) (fun q p x hp hx => by obtain rfl : w43q = p := (by omega); rw [show x = w12x1.toInt + 1 by omega]; exact ⟨w43F, w43d.it (by omega) w43_1, w43r, w43wf⟩) (fun q => absurd (by omega) q) (by omega)
          · skip
            refine zs_if_eqT (pc := 36) t235_36 rfl (by omega) ?_
            refine zGo.locals (ls' := [(0, .ref 336), (1, .int w12x1)]) (by simp) ?_
            have w62 : (zI w48M 336 6).toInt = (zI w48M 336 6).toInt := (congrArg Int32.toInt rfl).trans rfl
            have w63 : (zI w48M 336 7).toInt = (zI w48M 336 7).toInt := (congrArg Int32.toInt rfl).trans rfl
            have w64 : (zI w48M 336 6).toInt = (zI w48M 336 6).toInt := (congrArg Int32.toInt rfl).trans rfl
            have w65 : (zI w48M 336 5).toInt = (zI M 336 5).toInt := (congrArg Int32.toInt ((w48F 336 5 rfl).trans ((w12F 336 5 rfl).trans ((zIoj (by decide)).trans ((zIoj (by decide)).trans ((w9F 336 5 rfl).trans rfl)))))).trans rfl
            have w66 : (zI w48M 336 7).toInt = (zI w48M 336 7).toInt := (congrArg Int32.toInt rfl).trans rfl
            have w67 : (zI w48M 336 5).toInt = (zI M 336 5).toInt := (congrArg Int32.toInt ((w48F 336 5 rfl).trans ((w12F 336 5 rfl).trans ((zIoj (by decide)).trans ((zIoj (by decide)).trans ((w9F 336 5 rfl).trans rfl)))))).trans rfl
            have w68 : (zI w48M 336 6).toInt = (zI w48M 336 6).toInt := (congrArg Int32.toInt rfl).trans rfl
            have w69 : (zI w48M 336 7).toInt = (zI w48M 336 7).toInt := (congrArg Int32.toInt rfl).trans rfl
            exact w12ih (w12m - 1) (by omega) w12x1 w48M ⟨by omega, by omega⟩ w48s w48I (((zFr.refl).trans (w12F.mono rfl)).trans (w48F.mono rfl)) (w48J.trans w12J) (((zUp.refl).trans w12U).trans w48U) w48PR w48PC (by omega) (by omega) (by omega) (fun q => absurd q (by omega)) (fun q => w43d.no (by omega) w43z) (by omega)
  refine zGo.locals (ls' := [(0, .ref 336), (1, .int (0 : Int32))]) (by simp) ?_
  have w70 := li0
  have w71 : (zI (zsI (zsI w9M 336 6 (0 : Int32)) 336 7 (-1 : Int32)) 336 6).toInt = 0 := (congrArg Int32.toInt ((zIoj (by decide)).trans zIs)).trans li0
  have w72 : (zI (zsI (zsI w9M 336 6 (0 : Int32)) 336 7 (-1 : Int32)) 336 7).toInt = (-1) := (congrArg Int32.toInt zIs).trans lin1
  have w73 : (zI (zsI (zsI w9M 336 6 (0 : Int32)) 336 7 (-1 : Int32)) 336 6).toInt = 0 := (congrArg Int32.toInt ((zIoj (by decide)).trans zIs)).trans li0
  have w74 : (zI (zsI (zsI w9M 336 6 (0 : Int32)) 336 7 (-1 : Int32)) 336 5).toInt = (zI M 336 5).toInt := (congrArg Int32.toInt ((zIoj (by decide)).trans ((zIoj (by decide)).trans ((w9F 336 5 rfl).trans rfl)))).trans rfl
  have w75 : (zI (zsI (zsI w9M 336 6 (0 : Int32)) 336 7 (-1 : Int32)) 336 7).toInt = (-1) := (congrArg Int32.toInt zIs).trans lin1
  have w76 : (zI (zsI (zsI w9M 336 6 (0 : Int32)) 336 7 (-1 : Int32)) 336 5).toInt = (zI M 336 5).toInt := (congrArg Int32.toInt ((zIoj (by decide)).trans ((zIoj (by decide)).trans ((w9F 336 5 rfl).trans rfl)))).trans rfl
  have w77 : (zI (zsI (zsI w9M 336 6 (0 : Int32)) 336 7 (-1 : Int32)) 336 6).toInt = 0 := (congrArg Int32.toInt ((zIoj (by decide)).trans zIs)).trans li0
  have w78 : (zI (zsI (zsI w9M 336 6 (0 : Int32)) 336 7 (-1 : Int32)) 336 7).toInt = (-1) := (congrArg Int32.toInt zIs).trans lin1
  exact w12L ((501 - (zI (zsI (zsI w9M 336 6 (0 : Int32)) 336 7 (-1 : Int32)) 336 6).toInt - 501 * (min (zI (zsI (zsI w9M 336 6 (0 : Int32)) 336 7 (-1 : Int32)) 336 7).toInt 0) : Int).toNat) (0 : Int32) (zsI (zsI w9M 336 6 (0 : Int32)) 336 7 (-1 : Int32)) ⟨by decide, by decide⟩ w9s w11 zFr.refl rfl zUp.refl (zPR.fr (M' := (zsI (zsI w9M 336 6 (0 : Int32)) 336 7 (-1 : Int32))) (zPR.fr (M' := (zsI w9M 336 6 (0 : Int32))) w9R (zEq.put rfl)) (zEq.put rfl)) (zPC.fr (M' := (zsI (zsI w9M 336 6 (0 : Int32)) 336 7 (-1 : Int32))) (zPC.fr (M' := (zsI w9M 336 6 (0 : Int32))) w9C (zEq.put rfl)) (zEq.put rfl)) (by omega) (by omega) (by omega) (fun q p x hp hx => by obtain rfl : p = 0 := (by omega); obtain rfl : x = 0 := (by omega); exact ⟨F, tE.refl, (zRw.fr' (zRw.cpo w9c x0 (by omega)) (fun j hj => ((zIo (by decide)).trans (zIo (by decide))))), x3⟩) (fun q => absurd q (by omega)) (by omega)
