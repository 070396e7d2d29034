theorem T233 {X : zX} {l : Launch} {M : zM} {Q : Option Value → zM → Prop} {a : Int32} (hs : zSk zMm M) (hI : zIv mLo mHi M) (pR : zPR M) (pC : zPC M) (pF : zPF M) (hQ : ∀ (M' : zM) (v : Int32), zSk zMm M' → zIv mLo mHi M' → zFr [(336, 338, none), (340, 363, none)] M M' → zPR M' → zPC M' → zPF M' → ((v.toInt = a.toInt ∧ 0 ≤ a.toInt ∧ a.toInt ≤ (zI M 336 5).toInt ∧ (zI M' 336 5).toInt = a.toInt) ∨ (v.toInt = -1 ∧ (a.toInt < 0 ∨ (zI M 336 5).toInt < a.toInt) ∧ (zI M' 336 5).toInt = (zI M 336 5).toInt)) → Q (some (.int v)) M') : zCall X l 1 0 0 233 [.ref 336, .int a] M Q := by
  have ga := zrg a
  refine zs_in (by decide) mf233 (Nat.le_of_ble_eq_true rfl) ?_
  show zGo X l 1 0 0 233 0 [(0, .ref 336), (1, .int a)] [] M _
  refine zs_iload_n (pc := 0) t233_0 rfl ?_
  refine zs_i2l (pc := 1) t233_1 rfl ?_
  refine zs_lconst (pc := 2) t233_2 (v := 0) (by decide) ?_
  refine zs_aload_n (pc := 3) t233_3 rfl ?_
  have w1 := ib336_5 hI
  refine zs_get (pc := 4) t233_4 (by decide) (zk1 (hs.k fk_zMm_336)) (zfvi rfl rfl) ?_
  refine zs_i2l (pc := 7) t233_7 rfl ?_
  by_cases w2 : 0 ≤ a.toInt ∧ a.toInt ≤ (zI M 336 5).toInt
  · refine zs_invS (pc := 8) (as := [.long a.toInt64, .long (0 : Int64), .long (zI M 336 5).toInt64]) (st := []) t233_8 (by decide) mf228 rfl rfl ⟨by decide, by decide, Nat.le_of_ble_eq_true rfl, Nat.le_of_ble_eq_true rfl⟩ (K228T (zi2l rfl) ll0 (zi2l rfl) (by omega) ?_) (fun _ _ q => q)
    show zGo X l 1 0 0 233 11 [(0, .ref 336), (1, .int a)] [.int (1 : Int32)] M _
    refine zs_if_neT (pc := 11) t233_11 li1 (by decide) ?_
    refine zs_aload_n (pc := 16) t233_16 rfl ?_
    refine zs_iload_n (pc := 17) t233_17 rfl ?_
    have w3 : zIv mLo mHi (zsI M 336 5 a) := zIv.put hI (show 0 ≤ a.toInt ∧ a.toInt ≤ 500 from ⟨by omega, by omega⟩)
    refine zs_putI (pc := 18) t233_18 (zk1 (hs.k fk_zMm_336)) rfl ?_
    refine zs_iload_n (pc := 21) t233_21 rfl ?_
    have w4 : (zI (zsI M 336 5 a) 336 5).toInt = a.toInt := (congrArg Int32.toInt zIs).trans rfl
    exact zs_iret (pc := 22) t233_22 mr233 rfl (hQ _ _ hs w3 ((zFr.refl).put rfl) (zPR.fr (M' := (zsI M 336 5 a)) pR (zEq.put rfl)) (zPC.fr (M' := (zsI M 336 5 a)) pC (zEq.put rfl)) (zPF.fr (M' := (zsI M 336 5 a)) pF (zEq.put rfl) rfl) (by omega))
  · refine zs_invS (pc := 8) (as := [.long a.toInt64, .long (0 : Int64), .long (zI M 336 5).toInt64]) (st := []) t233_8 (by decide) mf228 rfl rfl ⟨by decide, by decide, Nat.le_of_ble_eq_true rfl, Nat.le_of_ble_eq_true rfl⟩ (K228F (zi2l rfl) ll0 (zi2l rfl) (by omega) ?_) (fun _ _ q => q)
    show zGo X l 1 0 0 233 11 [(0, .ref 336), (1, .int a)] [.int (0 : Int32)] M _
    refine zs_if_neF (pc := 11) t233_11 li0 (by decide) ?_
    refine zs_iconst (pc := 14) t233_14 (v := -1) (by decide) ?_
    have w5 : (zI M 336 5).toInt = (zI M 336 5).toInt := (congrArg Int32.toInt rfl).trans rfl
    have w6 := lin1
    exact zs_iret (pc := 15) t233_15 mr233 (by decide) (hQ _ _ hs hI (zFr.refl) pR pC pF (by omega))
theorem T235 {X : zX} {l : Launch} {M : zM} {Q : Option Value → zM → Prop} (hs : zSk zMm M) (hI : zIv mLo mHi M) (pR : zPR M) (pC : zPC M) (pF : zPF M) (hQ : ∀ (M' : zM) (v : Int32), zSk zMm M' → zIv mLo mHi M' → zFr [(336, 338, none), (340, 363, none)] M M' → zPR M' → zPC M' → zPF M' → ((zI M' 336 5).toInt = 0) → Q (some (.int v)) M') : zCall X l 6 0 0 235 [.ref 336] M Q := by
  refine zs_in (by decide) mf235 (Nat.le_of_ble_eq_true rfl) ?_
  show zGo X l 6 0 0 235 0 [(0, .ref 336)] [] M _
  refine zs_aload_n (pc := 0) t235_0 rfl ?_
  refine zs_iconst (pc := 1) t235_1 (v := 0) (by decide) ?_
  refine zs_bipush (pc := 2) t235_2 (v := 11) (by decide) ?_
  have w1k : zRk (zrow M 0) := (zRk0 hI pR pC)
  refine zs_invV (pc := 4) (k := 336) (as' := [.int (0 : Int32), .int (11 : Int32)]) (st := []) t235_4 mf226 rfl rfl (Or.inl ⟨by decide, (zk1 (hs.k fk_zMm_336))⟩) ⟨by decide, by decide, Nat.le_of_ble_eq_true rfl, Nat.le_of_ble_eq_true rfl⟩ (K226 (na := 0) (nb := 11) hs hI (by decide) (by decide) (by omega) (by omega) (by omega) w1k ?_) (fun _ _ q => q)
  intro w1M w1s w1I w1F w1J w1c
  have w1R : zPR w1M := zPR.cp pR hI w1k w1c (w1F.eq rfl)
  have w1C : zPC w1M := zPC.cp pC hI pR w1k w1c
  have w1A : zPA w1M := zPA.cp w1k w1c (Or.inl rfl)
  have w2 := ibA0 hI
  have w1r0 : zI w1M 337 0 = (zI M 337 0) := (w1c.1 0 (Or.inl (by omega))).trans rfl
  have w3 := ibA1 hI
  have w1r1 : zI w1M 337 1 = (zI M 337 1) := (w1c.1 1 (Or.inl (by omega))).trans rfl
  have w4 := ibA2 hI
  have w1r2 : zI w1M 337 2 = (zI M 337 2) := (w1c.1 2 (Or.inl (by omega))).trans rfl
  show zGo X l 6 0 0 235 7 [(0, .ref 336)] [] w1M _
  refine zs_aload_n (pc := 7) t235_7 rfl ?_
  refine zs_invV (pc := 8) (k := 336) (as' := []) (st := []) t235_8 mf236 rfl rfl (Or.inl ⟨by decide, (zk1 (w1s.k fk_zMm_336))⟩) ⟨by decide, by decide, Nat.le_of_ble_eq_true rfl, Nat.le_of_ble_eq_true rfl⟩ (zs_in (by decide) mf236 (Nat.le_of_ble_eq_true rfl) ?_) (fun _ _ q => q)
  show zGo X l 0 0 0 236 0 [(0, .ref 336)] [] w1M _
  refine zs_aload_n (pc := 0) t236_0 rfl ?_
  refine zs_iconst (pc := 1) t236_1 (v := 0) (by decide) ?_
  have w5 : zIv mLo mHi (zsI w1M 336 6 (0 : Int32)) := zIv.put w1I (show 0 ≤ (0 : Int32).toInt ∧ (0 : Int32).toInt ≤ 500 from ⟨by decide, by decide⟩)
  refine zs_putI (pc := 2) t236_2 (zk1 (w1s.k fk_zMm_336)) rfl ?_
  refine zs_aload_n (pc := 5) t236_5 rfl ?_
  refine zs_iconst (pc := 6) t236_6 (v := -1) (by decide) ?_
  have w6 : zIv mLo mHi (zsI (zsI w1M 336 6 (0 : Int32)) 336 7 (-1 : Int32)) := zIv.put w5 (show (-1) ≤ (-1 : Int32).toInt ∧ (-1 : Int32).toInt ≤ 500 from ⟨by decide, by decide⟩)
  refine zs_putI (pc := 7) t236_7 (zk1 (w1s.k fk_zMm_336)) rfl ?_
  refine zs_vret (pc := 10) t236_10 mr236 ?_
  show zGo X l 6 0 0 235 11 [(0, .ref 336)] [] (zsI (zsI w1M 336 6 (0 : Int32)) 336 7 (-1 : Int32)) _
  refine zs_iconst (pc := 11) t235_11 (v := 0) (by decide) ?_
  refine zs_istore_n (pc := 12) t235_12 (ls' := [(1, .int (0 : Int32)), (0, .ref 336)]) (zml mf235 (by decide)) rfl ?_
  have w7L : ∀ (m : Nat) (w7x1 : Int32) (w7M : zM), zSk zMm w7M → zIv mLo mHi w7M → zFr [(336, 336, some 6), (336, 336, some 7), (336, 336, some 8), (337, 337, none)] (zsI (zsI w1M 336 6 (0 : Int32)) 336 7 (-1 : Int32)) w7M → zJ w7M 351 = zJ (zsI (zsI w1M 336 6 (0 : Int32)) 336 7 (-1 : Int32)) 351 → zUp (zsI (zsI w1M 336 6 (0 : Int32)) 336 7 (-1 : Int32)) w7M → zPR w7M → zPC w7M → 501 - (zI w7M 336 6).toInt - 501 * (min (zI w7M 336 7).toInt 0) ≤ (m : Int) → zGo X l 6 0 0 235 13 [(0, .ref 336), (1, .int w7x1)] [] w7M Q := by
    intro m
    induction m using Nat.strongRecOn with
    | ind w7m w7ih =>
      intro w7x1 w7M w7s w7I w7F w7J w7U w7PR w7PC w7q
      have w7g1 := zrg w7x1
      have w8 := ib336_7 w7I
      have w9 := ib336_6 w7I
      refine zs_aload_n (pc := 13) t235_13 rfl ?_
      refine zs_get (pc := 14) t235_14 (by decide) (zk1 (w7s.k fk_zMm_336)) (zfvi rfl rfl) ?_
      refine zs_iconst (pc := 17) t235_17 (v := -1) (by decide) ?_
      by_cases w10 : (zI w7M 336 7).toInt ≠ (-1)
      · refine zs_icmp_neT (pc := 18) t235_18 rfl lin1 (by omega) ?_
        refine zs_aload_n (pc := 45) t235_45 rfl ?_
        refine zs_invV (pc := 46) (k := 336) (as' := []) (st := []) t235_46 mf253 rfl rfl (Or.inl ⟨by decide, (zk1 (w7s.k fk_zMm_336))⟩) ⟨by decide, by decide, Nat.le_of_ble_eq_true rfl, Nat.le_of_ble_eq_true rfl⟩ (zs_in (by decide) mf253 (Nat.le_of_ble_eq_true rfl) ?_) (fun _ _ q => q)
        show zGo X l 0 0 0 253 0 [(0, .ref 336)] [] w7M _
        refine zs_aload_n (pc := 0) t253_0 rfl ?_
        refine zs_iconst (pc := 1) t253_1 (v := 0) (by decide) ?_
        have w11 : zIv mLo mHi (zsI w7M 336 5 (0 : Int32)) := zIv.put w7I (show 0 ≤ (0 : Int32).toInt ∧ (0 : Int32).toInt ≤ 500 from ⟨by decide, by decide⟩)
        refine zs_putI (pc := 2) t253_2 (zk1 (w7s.k fk_zMm_336)) rfl ?_
        refine zs_aload_n (pc := 5) t253_5 rfl ?_
        refine zs_get (pc := 6) t253_6 (by decide) (zk1 (w7s.k fk_zMm_336)) (zfvi rfl ((zIoj (by decide)).trans rfl)) ?_
        refine zs_iconst (pc := 9) t253_9 (v := -1) (by decide) ?_
        refine zs_icmp_neT (pc := 10) t253_10 rfl lin1 (by omega) ?_
        refine zs_iconst (pc := 17) t253_17 (v := 0) (by decide) ?_
        refine zs_iret (pc := 18) t253_18 mr253 (by decide) ?_
        show zGo X l 6 0 0 235 49 [(0, .ref 336), (1, .int w7x1)] [.int (0 : Int32)] (zsI w7M 336 5 (0 : Int32)) _
        refine zs_if_eqT (pc := 49) t235_49 li0 (by decide) ?_
        refine zs_aload_n (pc := 60) t235_60 rfl ?_
        refine zs_bipush (pc := 61) t235_61 (v := 11) (by decide) ?_
        refine zs_iconst (pc := 63) t235_63 (v := 0) (by decide) ?_
        have w12k : zRk (zrow (zsI w7M 336 5 (0 : Int32)) 11) := (zPA.fr (M' := (zsI w7M 336 5 (0 : Int32))) (zPA.up (zPA.fr (M' := (zsI (zsI w1M 336 6 (0 : Int32)) 336 7 (-1 : Int32))) (zPA.fr (M' := (zsI w1M 336 6 (0 : Int32))) w1A (zEq.put rfl)) (zEq.put rfl)) w7U) (zEq.put rfl))
        refine zs_invV (pc := 64) (k := 336) (as' := [.int (11 : Int32), .int (0 : Int32)]) (st := []) t235_64 mf226 rfl rfl (Or.inl ⟨by decide, (zk1 (w7s.k fk_zMm_336))⟩) ⟨by decide, by decide, Nat.le_of_ble_eq_true rfl, Nat.le_of_ble_eq_true rfl⟩ (K226 (na := 11) (nb := 0) w7s w11 (by decide) (by decide) (by omega) (by omega) (by omega) w12k ?_) (fun _ _ q => q)
        intro w12M w12s w12I w12F w12J w12c
        have w12R : zPR w12M := zPR.cp (zPR.fr (M' := (zsI w7M 336 5 (0 : Int32))) w7PR (zEq.put rfl)) w11 w12k w12c (w12F.eq rfl)
        have w12C : zPC w12M := zPC.cp (zPC.fr (M' := (zsI w7M 336 5 (0 : Int32))) w7PC (zEq.put rfl)) w11 (zPR.fr (M' := (zsI w7M 336 5 (0 : Int32))) w7PR (zEq.put rfl)) w12k w12c
        have w12A : zPA w12M := zPA.cp w12k w12c (Or.inr (zPA.fr (M' := (zsI w7M 336 5 (0 : Int32))) (zPA.up (zPA.fr (M' := (zsI (zsI w1M 336 6 (0 : Int32)) 336 7 (-1 : Int32))) (zPA.fr (M' := (zsI w1M 336 6 (0 : Int32))) w1A (zEq.put rfl)) (zEq.put rfl)) w7U) (zEq.put rfl)))
        show zGo X l 6 0 0 235 67 [(0, .ref 336), (1, .int w7x1)] [] w12M _
        refine zs_iconst (pc := 67) t235_67 (v := -1) (by decide) ?_
        have w13 : (zI w12M 336 5).toInt = 0 := (congrArg Int32.toInt ((w12F 336 5 rfl).trans zIs)).trans li0
        have w14 := lin1
        exact zs_iret (pc := 68) t235_68 mr235 (by decide) (hQ _ _ w12s w12I (((((((zFr.refl).trans (w1F.mono rfl)).put rfl).put rfl).trans (w7F.mono rfl)).put rfl).trans (w12F.mono rfl)) w12R w12C (zPF.fr (zPF.fr (M' := (zsI w7M 336 5 (0 : Int32))) (zPF.fr (zPF.fr (M' := (zsI (zsI w1M 336 6 (0 : Int32)) 336 7 (-1 : Int32))) (zPF.fr (M' := (zsI w1M 336 6 (0 : Int32))) (zPF.fr pF (w1F.eq rfl) w1J) (zEq.put rfl) rfl) (zEq.put rfl) rfl) (w7F.eq rfl) w7J) (zEq.put rfl) rfl) (w12F.eq rfl) w12J) (by omega))
      · refine zs_icmp_neF (pc := 18) t235_18 rfl lin1 (by omega) ?_
        refine zs_aload_n (pc := 21) t235_21 rfl ?_
        refine zs_get (pc := 22) t235_22 (by decide) (zk1 (w7s.k fk_zMm_336)) (zfvi rfl rfl) ?_
        refine zs_aload_n (pc := 25) t235_25 rfl ?_
        have w15 := ib336_5 hI
        refine zs_get (pc := 26) t235_26 (by decide) (zk1 (w7s.k fk_zMm_336)) (zfvi rfl ((w7F 336 5 rfl).trans ((zIoj (by decide)).trans ((zIoj (by decide)).trans ((w1F 336 5 rfl).trans rfl))))) ?_
        by_cases w16 : (zI M 336 5).toInt ≤ (zI w7M 336 6).toInt
        · refine zs_icmp_geT (pc := 29) t235_29 rfl rfl (by omega) ?_
          refine zs_aload_n (pc := 45) t235_45 rfl ?_
          refine zs_invV (pc := 46) (k := 336) (as' := []) (st := []) t235_46 mf253 rfl rfl (Or.inl ⟨by decide, (zk1 (w7s.k fk_zMm_336))⟩) ⟨by decide, by decide, Nat.le_of_ble_eq_true rfl, Nat.le_of_ble_eq_true rfl⟩ (zs_in (by decide) mf253 (Nat.le_of_ble_eq_true rfl) ?_) (fun _ _ q => q)
          show zGo X l 0 0 0 253 0 [(0, .ref 336)] [] w7M _
          refine zs_aload_n (pc := 0) t253_0 rfl ?_
          refine zs_iconst (pc := 1) t253_1 (v := 0) (by decide) ?_
          have w17 : zIv mLo mHi (zsI w7M 336 5 (0 : Int32)) := zIv.put w7I (show 0 ≤ (0 : Int32).toInt ∧ (0 : Int32).toInt ≤ 500 from ⟨by decide, by decide⟩)
          refine zs_putI (pc := 2) t253_2 (zk1 (w7s.k fk_zMm_336)) rfl ?_
          refine zs_aload_n (pc := 5) t253_5 rfl ?_
          refine zs_get (pc := 6) t253_6 (by decide) (zk1 (w7s.k fk_zMm_336)) (zfvi rfl ((zIoj (by decide)).trans rfl)) ?_
          refine zs_iconst (pc := 9) t253_9 (v := -1) (by decide) ?_
          refine zs_icmp_neF (pc := 10) t253_10 rfl lin1 (by omega) ?_
          refine zs_iconst (pc := 13) t253_13 (v := 1) (by decide) ?_
          refine zs_goto (pc := 14) t253_14 ?_
          refine zs_iret (pc := 18) t253_18 mr253 (by decide) ?_
          show zGo X l 6 0 0 235 49 [(0, .ref 336), (1, .int w7x1)] [.int (1 : Int32)] (zsI w7M 336 5 (0 : Int32)) _
          refine zs_if_eqF (pc := 49) t235_49 li1 (by decide) ?_
          refine zs_aload_n (pc := 52) t235_52 rfl ?_
          refine zs_bipush (pc := 53) t235_53 (v := 11) (by decide) ?_
          have w18 := ibA0 w7I
          have w19 : (zI (zsI w7M 336 5 (0 : Int32)) 337 0).toInt = (zI w7M 337 0).toInt := (congrArg Int32.toInt ((zIo (by decide)).trans rfl)).trans rfl
          have w20 := ibA2 w7I
          have w21 : (zI (zsI w7M 336 5 (0 : Int32)) 337 2).toInt = (zI w7M 337 2).toInt := (congrArg Int32.toInt ((zIo (by decide)).trans rfl)).trans rfl
          have w22 := ibA1 w7I
          have w23 : (zI (zsI w7M 336 5 (0 : Int32)) 337 1).toInt = (zI w7M 337 1).toInt := (congrArg Int32.toInt ((zIo (by decide)).trans rfl)).trans rfl
          refine zs_invV (pc := 55) (k := 336) (as' := [.int (11 : Int32)]) (st := []) t235_55 mf230 rfl rfl (Or.inl ⟨by decide, (zk1 (w7s.k fk_zMm_336))⟩) ⟨by decide, by decide, Nat.le_of_ble_eq_true rfl, Nat.le_of_ble_eq_true rfl⟩ (K230_11 w7s w17 (zPR.fr (M' := (zsI w7M 336 5 (0 : Int32))) w7PR (zEq.put rfl)) (zPC.fr (M' := (zsI w7M 336 5 (0 : Int32))) w7PC (zEq.put rfl)) (zPA.fr (M' := (zsI w7M 336 5 (0 : Int32))) (zPA.up (zPA.fr (M' := (zsI (zsI w1M 336 6 (0 : Int32)) 336 7 (-1 : Int32))) (zPA.fr (M' := (zsI w1M 336 6 (0 : Int32))) w1A (zEq.put rfl)) (zEq.put rfl)) w7U) (zEq.put rfl)) ?_) (fun _ _ q => q)
          intro w24M w24s w24I w24F w24J w24PR w24PC w24PF w24t0 w24t1 w24t2
          have w25 := ibA0 w24I
          have w26 := ibA2 w24I
          have w27 := ibA1 w24I
          show zGo X l 6 0 0 235 58 [(0, .ref 336), (1, .int w7x1)] [] w24M _
          refine zs_iload_n (pc := 58) t235_58 rfl ?_
          have w28 : (zI w24M 336 5).toInt = 0 := (congrArg Int32.toInt ((w24F 336 5 rfl).trans zIs)).trans li0
          exact zs_iret (pc := 59) t235_59 mr235 rfl (hQ _ _ w24s w24I (((((((zFr.refl).trans (w1F.mono rfl)).put rfl).put rfl).trans (w7F.mono rfl)).put rfl).trans (w24F.mono rfl)) w24PR w24PC w24PF (by omega))
        · refine zs_icmp_geF (pc := 29) t235_29 rfl rfl (by omega) ?_
          refine zs_aload_n (pc := 32) t235_32 rfl ?_
          have w29 : (zI w7M 336 7).toInt = (zI w7M 336 7).toInt := (congrArg Int32.toInt rfl).trans rfl
          have w30 : (zI w7M 336 6).toInt = (zI w7M 336 6).toInt := (congrArg Int32.toInt rfl).trans rfl
          have w31 : (zI w7M 336 5).toInt = (zI M 336 5).toInt := (congrArg Int32.toInt ((w7F 336 5 rfl).trans ((zIoj (by decide)).trans ((zIoj (by decide)).trans ((w1F 336 5 rfl).trans rfl))))).trans rfl
          have w32 : (zI w7M 336 6).toInt = (zI w7M 336 6).toInt := (congrArg Int32.toInt rfl).trans rfl
          refine zs_invV (pc := 33) (k := 336) (as' := []) (st := []) t235_33 mf237 rfl rfl (Or.inl ⟨by decide, (zk1 (w7s.k fk_zMm_336))⟩) ⟨by decide, by decide, Nat.le_of_ble_eq_true rfl, Nat.le_of_ble_eq_true rfl⟩ (K237 w7s w7I w7PR w7PC (by omega) (by omega) ?_) (fun _ _ q => q)
          intro w33M w33v w33s w33I w33F w33J w33U w33PR w33PC w33t0 w33a w33b
          have w34 := ib336_7 w33I
          have w35 := ib336_6 w33I
          show zGo X l 6 0 0 235 36 [(0, .ref 336), (1, .int w7x1)] [.int w33v] w33M _
          by_cases w36 : w33v.toInt = 0
          · refine zs_if_eqT (pc := 36) t235_36 rfl (by omega) ?_
            refine zGo.locals (ls' := [(0, .ref 336), (1, .int w7x1)]) (by simp) ?_
            have w37 : (zI w33M 336 7).toInt = (zI w33M 336 7).toInt := (congrArg Int32.toInt rfl).trans rfl
            have w38 : (zI w33M 336 6).toInt = (zI w33M 336 6).toInt := (congrArg Int32.toInt rfl).trans rfl
            exact w7ih (w7m - 1) (by omega) w7x1 w33M w33s w33I (((zFr.refl).trans (w7F.mono rfl)).trans (w33F.mono rfl)) (w33J.trans w7J) (((zUp.refl).trans w7U).trans w33U) w33PR w33PC (by omega)
          · refine zs_if_eqF (pc := 36) t235_36 rfl (by omega) ?_
            obtain ⟨w39v, w39e⟩ : ∃ v, w7x1 + Int32.ofInt 1 = v := ⟨_, rfl⟩
            have w39 := zrg w39v
            refine zs_iinc (pc := 39) t235_39 (ls' := [(1, .int w39v), (0, .ref 336)]) (zml mf235 (by decide)) rfl (c := w39v) w39e rfl ?_
            refine zs_goto (pc := 42) t235_42 ?_
            refine zGo.locals (ls' := [(0, .ref 336), (1, .int w39v)]) (by simp) ?_
            have w40 : (zI w33M 336 7).toInt = (zI w33M 336 7).toInt := (congrArg Int32.toInt rfl).trans rfl
            have w41 : (zI w33M 336 6).toInt = (zI w33M 336 6).toInt := (congrArg Int32.toInt rfl).trans rfl
            exact w7ih (w7m - 1) (by omega) w39v w33M w33s w33I (((zFr.refl).trans (w7F.mono rfl)).trans (w33F.mono rfl)) (w33J.trans w7J) (((zUp.refl).trans w7U).trans w33U) w33PR w33PC (by omega)
  refine zGo.locals (ls' := [(0, .ref 336), (1, .int (0 : Int32))]) (by simp) ?_
  have w42 := li0
  have w43 : (zI (zsI (zsI w1M 336 6 (0 : Int32)) 336 7 (-1 : Int32)) 336 7).toInt = (-1) := (congrArg Int32.toInt zIs).trans lin1
  have w44 : (zI (zsI (zsI w1M 336 6 (0 : Int32)) 336 7 (-1 : Int32)) 336 6).toInt = 0 := (congrArg Int32.toInt ((zIoj (by decide)).trans zIs)).trans li0
  exact w7L ((501 - (zI (zsI (zsI w1M 336 6 (0 : Int32)) 336 7 (-1 : Int32)) 336 6).toInt - 501 * (min (zI (zsI (zsI w1M 336 6 (0 : Int32)) 336 7 (-1 : Int32)) 336 7).toInt 0) : Int).toNat) (0 : Int32) (zsI (zsI w1M 336 6 (0 : Int32)) 336 7 (-1 : Int32)) w1s w6 zFr.refl rfl zUp.refl (zPR.fr (M' := (zsI (zsI w1M 336 6 (0 : Int32)) 336 7 (-1 : Int32))) (zPR.fr (M' := (zsI w1M 336 6 (0 : Int32))) w1R (zEq.put rfl)) (zEq.put rfl)) (zPC.fr (M' := (zsI (zsI w1M 336 6 (0 : Int32)) 336 7 (-1 : Int32))) (zPC.fr (M' := (zsI w1M 336 6 (0 : Int32))) w1C (zEq.put rfl)) (zEq.put rfl)) (by omega)
theorem T254 {X : zX} {l : Launch} {M : zM} {Q : Option Value → zM → Prop} (hs : zSk zMm M) (hI : zIv mLo mHi M) (pR : zPR M) (pC : zPC M) (pF : zPF M) (hQ : ∀ (M' : zM) (v : Int32), zSk zMm M' → zIv mLo mHi M' → zFr [(336, 338, none), (340, 363, none)] M M' → zPR M' → zPC M' → zPF M' → ((zI M' 336 5).toInt = 0) → Q (some (.int v)) M') : zCall X l 7 0 0 254 [.ref 336] M Q := by
  refine zs_in (by decide) mf254 (Nat.le_of_ble_eq_true rfl) ?_
  show zGo X l 7 0 0 254 0 [(0, .ref 336)] [] M _
  refine zs_aload_n (pc := 0) t254_0 rfl ?_
  refine zs_invV (pc := 1) (k := 336) (as' := []) (st := []) t254_1 mf236 rfl rfl (Or.inl ⟨by decide, (zk1 (hs.k fk_zMm_336))⟩) ⟨by decide, by decide, Nat.le_of_ble_eq_true rfl, Nat.le_of_ble_eq_true rfl⟩ (zs_in (by decide) mf236 (Nat.le_of_ble_eq_true rfl) ?_) (fun _ _ q => q)
  show zGo X l 0 0 0 236 0 [(0, .ref 336)] [] M _
  refine zs_aload_n (pc := 0) t236_0 rfl ?_
  refine zs_iconst (pc := 1) t236_1 (v := 0) (by decide) ?_
  have w1 : zIv mLo mHi (zsI M 336 6 (0 : Int32)) := zIv.put hI (show 0 ≤ (0 : Int32).toInt ∧ (0 : Int32).toInt ≤ 500 from ⟨by decide, by decide⟩)
  refine zs_putI (pc := 2) t236_2 (zk1 (hs.k fk_zMm_336)) rfl ?_
  refine zs_aload_n (pc := 5) t236_5 rfl ?_
  refine zs_iconst (pc := 6) t236_6 (v := -1) (by decide) ?_
  have w2 : zIv mLo mHi (zsI (zsI M 336 6 (0 : Int32)) 336 7 (-1 : Int32)) := zIv.put w1 (show (-1) ≤ (-1 : Int32).toInt ∧ (-1 : Int32).toInt ≤ 500 from ⟨by decide, by decide⟩)
  refine zs_putI (pc := 7) t236_7 (zk1 (hs.k fk_zMm_336)) rfl ?_
  refine zs_vret (pc := 10) t236_10 mr236 ?_
  show zGo X l 7 0 0 254 4 [(0, .ref 336)] [] (zsI (zsI M 336 6 (0 : Int32)) 336 7 (-1 : Int32)) _
  refine zs_aload_n (pc := 4) t254_4 rfl ?_
  refine zs_iconst (pc := 5) t254_5 (v := 0) (by decide) ?_
  have w3 : zIv mLo mHi (zsI (zsI (zsI M 336 6 (0 : Int32)) 336 7 (-1 : Int32)) 336 11 (0 : Int32)) := zIv.put w2 (show 0 ≤ (0 : Int32).toInt ∧ (0 : Int32).toInt ≤ 200 from ⟨by decide, by decide⟩)
  have w4 : zGh (zsI (zsI (zsI M 336 6 (0 : Int32)) 336 7 (-1 : Int32)) 336 11 (0 : Int32)) 0 := zGh.zero (by decide)
  refine zs_putI (pc := 6) t254_6 (zk1 (hs.k fk_zMm_336)) rfl ?_
  refine zs_aload_n (pc := 9) t254_9 rfl ?_
  refine zs_iconst (pc := 10) t254_10 (v := 0) (by decide) ?_
  have w5 : zIv mLo mHi (zsI (zsI (zsI (zsI M 336 6 (0 : Int32)) 336 7 (-1 : Int32)) 336 11 (0 : Int32)) 336 12 (0 : Int32)) := zIv.put w3 (show 0 ≤ (0 : Int32).toInt ∧ (0 : Int32).toInt ≤ 40 from ⟨by decide, by decide⟩)
  refine zs_putI (pc := 11) t254_11 (zk1 (hs.k fk_zMm_336)) rfl ?_
  refine zs_aload_n (pc := 14) t254_14 rfl ?_
  refine zs_iconst (pc := 15) t254_15 (v := 0) (by decide) ?_
  have w6 : zIv mLo mHi (zsI (zsI (zsI (zsI (zsI M 336 6 (0 : Int32)) 336 7 (-1 : Int32)) 336 11 (0 : Int32)) 336 12 (0 : Int32)) 336 13 (0 : Int32)) := zIv.put w5 (show 0 ≤ (0 : Int32).toInt ∧ (0 : Int32).toInt ≤ 30 from ⟨by decide, by decide⟩)
  refine zs_putI (pc := 16) t254_16 (zk1 (hs.k fk_zMm_336)) rfl ?_
  refine zs_aload_n (pc := 19) t254_19 rfl ?_
  refine zs_iconst (pc := 20) t254_20 (v := 0) (by decide) ?_
  have w7 : zIv mLo mHi (zsI (zsI (zsI (zsI (zsI (zsI M 336 6 (0 : Int32)) 336 7 (-1 : Int32)) 336 11 (0 : Int32)) 336 12 (0 : Int32)) 336 13 (0 : Int32)) 336 14 (0 : Int32)) := zIv.put w6 (show 0 ≤ (0 : Int32).toInt ∧ (0 : Int32).toInt ≤ 6 from ⟨by decide, by decide⟩)
  have w8 : (zI (zsI (zsI (zsI (zsI (zsI (zsI M 336 6 (0 : Int32)) 336 7 (-1 : Int32)) 336 11 (0 : Int32)) 336 12 (0 : Int32)) 336 13 (0 : Int32)) 336 14 (0 : Int32)) 336 12).toInt = 0 := (congrArg Int32.toInt ((zIoj (by decide)).trans ((zIoj (by decide)).trans zIs))).trans li0
  have w9 : (zI (zsI (zsI (zsI (zsI (zsI (zsI M 336 6 (0 : Int32)) 336 7 (-1 : Int32)) 336 11 (0 : Int32)) 336 12 (0 : Int32)) 336 13 (0 : Int32)) 336 14 (0 : Int32)) 336 14).toInt = 0 := (congrArg Int32.toInt zIs).trans li0
  have w11 := li0
  have w10 : zGn (zsI (zsI (zsI (zsI (zsI (zsI M 336 6 (0 : Int32)) 336 7 (-1 : Int32)) 336 11 (0 : Int32)) 336 12 (0 : Int32)) 336 13 (0 : Int32)) 336 14 (0 : Int32)) := zGn.zero (by omega) (by omega)
  refine zs_putI (pc := 21) t254_21 (zk1 (hs.k fk_zMm_336)) rfl ?_
  refine zs_aload_n (pc := 24) t254_24 rfl ?_
  have w12 := ib336_5 hI
  refine zs_get (pc := 25) t254_25 (by decide) (zk1 (hs.k fk_zMm_336)) (zfvi rfl ((zIoj (by decide)).trans ((zIoj (by decide)).trans ((zIoj (by decide)).trans ((zIoj (by decide)).trans ((zIoj (by decide)).trans ((zIoj (by decide)).trans rfl))))))) ?_
  by_cases w13 : (zI M 336 5).toInt = 0
  · refine zs_if_eqT (pc := 28) t254_28 rfl (by omega) ?_
    refine zs_iconst (pc := 38) t254_38 (v := 1) (by decide) ?_
    refine zs_goto (pc := 39) t254_39 ?_
    refine zs_istore_n (pc := 43) t254_43 (ls' := [(1, .int (1 : Int32)), (0, .ref 336)]) (zml mf254 (by decide)) rfl ?_
    refine zs_aload_n (pc := 44) t254_44 rfl ?_
    refine zs_iconst (pc := 45) t254_45 (v := 0) (by decide) ?_
    have w14 : zIv mLo mHi (zsI (zsI (zsI (zsI (zsI (zsI (zsI M 336 6 (0 : Int32)) 336 7 (-1 : Int32)) 336 11 (0 : Int32)) 336 12 (0 : Int32)) 336 13 (0 : Int32)) 336 14 (0 : Int32)) 336 5 (0 : Int32)) := zIv.put w7 (show 0 ≤ (0 : Int32).toInt ∧ (0 : Int32).toInt ≤ 500 from ⟨by decide, by decide⟩)
    refine zs_putI (pc := 46) t254_46 (zk1 (hs.k fk_zMm_336)) rfl ?_
    refine zs_iload_n (pc := 49) t254_49 rfl ?_
    refine zs_if_neT (pc := 50) t254_50 li1 (by decide) ?_
    refine zs_aload_n (pc := 55) t254_55 rfl ?_
    refine zs_iconst (pc := 56) t254_56 (v := 0) (by decide) ?_
    have w15 := ibA0 hI
    have w16 : (zI (zsI (zsI (zsI (zsI (zsI (zsI (zsI M 336 6 (0 : Int32)) 336 7 (-1 : Int32)) 336 11 (0 : Int32)) 336 12 (0 : Int32)) 336 13 (0 : Int32)) 336 14 (0 : Int32)) 336 5 (0 : Int32)) 337 0).toInt = (zI M 337 0).toInt := (congrArg Int32.toInt ((zIo (by decide)).trans ((zIo (by decide)).trans ((zIo (by decide)).trans ((zIo (by decide)).trans ((zIo (by decide)).trans ((zIo (by decide)).trans ((zIo (by decide)).trans rfl)))))))).trans rfl
    have w17 := ibA2 hI
    have w18 : (zI (zsI (zsI (zsI (zsI (zsI (zsI (zsI M 336 6 (0 : Int32)) 336 7 (-1 : Int32)) 336 11 (0 : Int32)) 336 12 (0 : Int32)) 336 13 (0 : Int32)) 336 14 (0 : Int32)) 336 5 (0 : Int32)) 337 2).toInt = (zI M 337 2).toInt := (congrArg Int32.toInt ((zIo (by decide)).trans ((zIo (by decide)).trans ((zIo (by decide)).trans ((zIo (by decide)).trans ((zIo (by decide)).trans ((zIo (by decide)).trans ((zIo (by decide)).trans rfl)))))))).trans rfl
    have w19 := ibA1 hI
    have w20 : (zI (zsI (zsI (zsI (zsI (zsI (zsI (zsI M 336 6 (0 : Int32)) 336 7 (-1 : Int32)) 336 11 (0 : Int32)) 336 12 (0 : Int32)) 336 13 (0 : Int32)) 336 14 (0 : Int32)) 336 5 (0 : Int32)) 337 1).toInt = (zI M 337 1).toInt := (congrArg Int32.toInt ((zIo (by decide)).trans ((zIo (by decide)).trans ((zIo (by decide)).trans ((zIo (by decide)).trans ((zIo (by decide)).trans ((zIo (by decide)).trans ((zIo (by decide)).trans rfl)))))))).trans rfl
    refine zs_invV (pc := 57) (k := 336) (as' := [.int (0 : Int32)]) (st := []) t254_57 mf230 rfl rfl (Or.inl ⟨by decide, (zk1 (hs.k fk_zMm_336))⟩) ⟨by decide, by decide, Nat.le_of_ble_eq_true rfl, Nat.le_of_ble_eq_true rfl⟩ (K230_0 hs w14 (zPR.fr (M' := (zsI (zsI (zsI (zsI (zsI (zsI (zsI M 336 6 (0 : Int32)) 336 7 (-1 : Int32)) 336 11 (0 : Int32)) 336 12 (0 : Int32)) 336 13 (0 : Int32)) 336 14 (0 : Int32)) 336 5 (0 : Int32))) (zPR.fr (M' := (zsI (zsI (zsI (zsI (zsI (zsI M 336 6 (0 : Int32)) 336 7 (-1 : Int32)) 336 11 (0 : Int32)) 336 12 (0 : Int32)) 336 13 (0 : Int32)) 336 14 (0 : Int32))) (zPR.fr (M' := (zsI (zsI (zsI (zsI (zsI M 336 6 (0 : Int32)) 336 7 (-1 : Int32)) 336 11 (0 : Int32)) 336 12 (0 : Int32)) 336 13 (0 : Int32))) (zPR.fr (M' := (zsI (zsI (zsI (zsI M 336 6 (0 : Int32)) 336 7 (-1 : Int32)) 336 11 (0 : Int32)) 336 12 (0 : Int32))) (zPR.fr (M' := (zsI (zsI (zsI M 336 6 (0 : Int32)) 336 7 (-1 : Int32)) 336 11 (0 : Int32))) (zPR.fr (M' := (zsI (zsI M 336 6 (0 : Int32)) 336 7 (-1 : Int32))) (zPR.fr (M' := (zsI M 336 6 (0 : Int32))) pR (zEq.put rfl)) (zEq.put rfl)) (zEq.put rfl)) (zEq.put rfl)) (zEq.put rfl)) (zEq.put rfl)) (zEq.put rfl)) (zPC.fr (M' := (zsI (zsI (zsI (zsI (zsI (zsI (zsI M 336 6 (0 : Int32)) 336 7 (-1 : Int32)) 336 11 (0 : Int32)) 336 12 (0 : Int32)) 336 13 (0 : Int32)) 336 14 (0 : Int32)) 336 5 (0 : Int32))) (zPC.fr (M' := (zsI (zsI (zsI (zsI (zsI (zsI M 336 6 (0 : Int32)) 336 7 (-1 : Int32)) 336 11 (0 : Int32)) 336 12 (0 : Int32)) 336 13 (0 : Int32)) 336 14 (0 : Int32))) (zPC.fr (M' := (zsI (zsI (zsI (zsI (zsI M 336 6 (0 : Int32)) 336 7 (-1 : Int32)) 336 11 (0 : Int32)) 336 12 (0 : Int32)) 336 13 (0 : Int32))) (zPC.fr (M' := (zsI (zsI (zsI (zsI M 336 6 (0 : Int32)) 336 7 (-1 : Int32)) 336 11 (0 : Int32)) 336 12 (0 : Int32))) (zPC.fr (M' := (zsI (zsI (zsI M 336 6 (0 : Int32)) 336 7 (-1 : Int32)) 336 11 (0 : Int32))) (zPC.fr (M' := (zsI (zsI M 336 6 (0 : Int32)) 336 7 (-1 : Int32))) (zPC.fr (M' := (zsI M 336 6 (0 : Int32))) pC (zEq.put rfl)) (zEq.put rfl)) (zEq.put rfl)) (zEq.put rfl)) (zEq.put rfl)) (zEq.put rfl)) (zEq.put rfl)) ?_) (fun _ _ q => q)
    intro w21M w21s w21I w21F w21J w21PR w21PC w21PF w21t0 w21t1 w21t2
    have w22 := ibA0 w21I
    have w23 := ibA2 w21I
    have w24 := ibA1 w21I
    show zGo X l 7 0 0 254 60 [(1, .int (1 : Int32)), (0, .ref 336)] [] w21M _
    refine zs_aload_n (pc := 60) t254_60 rfl ?_
    refine zs_get (pc := 61) t254_61 (by decide) (zk1 (w21s.k fk_zMm_336)) (w21s.p rfl fv_zMm_336_0) ?_
    refine zs_iconst (pc := 64) t254_64 (v := 3) (by decide) ?_
    refine zs_aload_n (pc := 65) t254_65 rfl ?_
    refine zs_get (pc := 66) t254_66 (by decide) (zk1 (w21s.k fk_zMm_336)) (zfvi rfl ((w21F 336 13 rfl).trans ((zIoj (by decide)).trans ((zIoj (by decide)).trans zIs)))) ?_
    have w25 : zIv mLo mHi (zsI w21M 337 3 (0 : Int32)) := zIv.putA w21I (by decide) (show (-2147483648) ≤ (0 : Int32).toInt ∧ (0 : Int32).toInt ≤ 2147483647 from zrg (0 : Int32))
    have w26 : (zI w21M 337 0).toInt = (zI w21M 337 0).toInt := (congrArg Int32.toInt rfl).trans rfl
    have w27 : (zI w21M 337 1).toInt = (zI w21M 337 1).toInt := (congrArg Int32.toInt rfl).trans rfl
    have w28 : zPR (zsI w21M 337 3 (0 : Int32)) := zPR.put w21PR (by omega) (by omega) (by omega) (by omega)
    have w29 : zPC (zsI w21M 337 3 (0 : Int32)) := zPC.put w21PC (by decide) (by decide)
    refine zs_iast (pc := 69) t254_69 (j := 3) (by decide) (zk1 (w21s.k fk_zMm_337)) li3 (zk2 (w21s.k fk_zMm_337) (by decide)) ?_
    refine zs_aload_n (pc := 70) t254_70 rfl ?_
    refine zs_get (pc := 71) t254_71 (by decide) (zk1 (w21s.k fk_zMm_336)) (w21s.p rfl fv_zMm_336_0) ?_
    refine zs_iconst (pc := 74) t254_74 (v := 4) (by decide) ?_
    refine zs_aload_n (pc := 75) t254_75 rfl ?_
    refine zs_get (pc := 76) t254_76 (by decide) (zk1 (w21s.k fk_zMm_336)) (zfvi rfl ((zIo (by decide)).trans ((w21F 336 11 rfl).trans ((zIoj (by decide)).trans ((zIoj (by decide)).trans ((zIoj (by decide)).trans ((zIoj (by decide)).trans zIs))))))) ?_
    have w30 : zIv mLo mHi (zsI (zsI w21M 337 3 (0 : Int32)) 337 4 (0 : Int32)) := zIv.putA w25 (by decide) (show 0 ≤ (0 : Int32).toInt ∧ (0 : Int32).toInt ≤ 200 from ⟨by decide, by decide⟩)
    have w31 : (zI (zsI w21M 337 3 (0 : Int32)) 337 0).toInt = (zI w21M 337 0).toInt := (congrArg Int32.toInt ((zIoj (by decide)).trans rfl)).trans rfl
    have w32 : (zI (zsI w21M 337 3 (0 : Int32)) 337 1).toInt = (zI w21M 337 1).toInt := (congrArg Int32.toInt ((zIoj (by decide)).trans rfl)).trans rfl
    have w33 : zPR (zsI (zsI w21M 337 3 (0 : Int32)) 337 4 (0 : Int32)) := zPR.put w28 (by omega) (by omega) (by omega) (by omega)
    refine zs_iast (pc := 79) t254_79 (j := 4) (by decide) (zk1 (w21s.k fk_zMm_337)) li4 (zk2 (w21s.k fk_zMm_337) (by decide)) ?_
    refine zs_iconst (pc := 80) t254_80 (v := 0) (by decide) ?_
    refine zs_istore_n (pc := 81) t254_81 (ls' := [(2, .int (0 : Int32)), (1, .int (1 : Int32)), (0, .ref 336)]) (zml mf254 (by decide)) rfl ?_
    have w34 : zCd (zI (zsI (zsI w21M 337 3 (0 : Int32)) 337 4 (0 : Int32)) 340) (zI (zsI (zsI w21M 337 3 (0 : Int32)) 337 4 (0 : Int32)) 336 11).toInt := by
      rw [show zI (zsI (zsI w21M 337 3 (0 : Int32)) 337 4 (0 : Int32)) 336 11 = zI (zsI (zsI w21M 337 3 (0 : Int32)) 337 4 (0 : Int32)) 336 11 from rfl]
      exact zCd.cg ((zGh.fr (M' := (zsI (zsI w21M 337 3 (0 : Int32)) 337 4 (0 : Int32))) (zGh.fr (M' := (zsI w21M 337 3 (0 : Int32))) (zGh.fr (zGh.fr (M' := (zsI (zsI (zsI (zsI (zsI (zsI (zsI M 336 6 (0 : Int32)) 336 7 (-1 : Int32)) 336 11 (0 : Int32)) 336 12 (0 : Int32)) 336 13 (0 : Int32)) 336 14 (0 : Int32)) 336 5 (0 : Int32))) (zGh.fr (M' := (zsI (zsI (zsI (zsI (zsI (zsI M 336 6 (0 : Int32)) 336 7 (-1 : Int32)) 336 11 (0 : Int32)) 336 12 (0 : Int32)) 336 13 (0 : Int32)) 336 14 (0 : Int32))) (zGh.fr (M' := (zsI (zsI (zsI (zsI (zsI M 336 6 (0 : Int32)) 336 7 (-1 : Int32)) 336 11 (0 : Int32)) 336 12 (0 : Int32)) 336 13 (0 : Int32))) (zGh.fr (M' := (zsI (zsI (zsI (zsI M 336 6 (0 : Int32)) 336 7 (-1 : Int32)) 336 11 (0 : Int32)) 336 12 (0 : Int32))) w4 (zEq.put rfl)) (zEq.put rfl)) (zEq.put rfl)) (zEq.put rfl)) (w21F.eq rfl)) (zEq.put rfl)) (zEq.put rfl)).1) (fun i _ => rfl)
    have w35 : (zI (zsI (zsI w21M 337 3 (0 : Int32)) 337 4 (0 : Int32)) 336 11).toInt = 0 := (congrArg Int32.toInt ((zIo (by decide)).trans ((zIo (by decide)).trans ((w21F 336 11 rfl).trans ((zIoj (by decide)).trans ((zIoj (by decide)).trans ((zIoj (by decide)).trans ((zIoj (by decide)).trans zIs)))))))).trans li0
    have w36L : ∀ (m : Nat) (w36x2 : Int32) (w36M : zM), (0 ≤ w36x2.toInt ∧ w36x2.toInt ≤ 200) → zSk zMm w36M → zIv mLo mHi w36M → zFr [(337, 337, none)] (zsI (zsI w21M 337 3 (0 : Int32)) 337 4 (0 : Int32)) w36M → zJ w36M 351 = zJ (zsI (zsI w21M 337 3 (0 : Int32)) 337 4 (0 : Int32)) 351 → zPR w36M → ((zI w36M 337 4).toInt = (zI (zsI (zsI w21M 337 3 (0 : Int32)) 337 4 (0 : Int32)) 337 4).toInt) → (w36x2.toInt ≤ (zI (zsI (zsI w21M 337 3 (0 : Int32)) 337 4 (0 : Int32)) 336 11).toInt) → (∀ i : Nat, (i : Int) < w36x2.toInt → zI w36M 337 (306 + i) = zI (zsI (zsI w21M 337 3 (0 : Int32)) 337 4 (0 : Int32)) 340 i) → 200 - w36x2.toInt ≤ (m : Int) → zGo X l 7 0 0 254 82 [(0, .ref 336), (1, .int (1 : Int32)), (2, .int w36x2)] [] w36M Q := by
      intro m
      induction m using Nat.strongRecOn with
      | ind w36m w36ih =>
        intro w36x2 w36M w36b2 w36s w36I w36F w36J w36PR w36r0 w36r1 w36t0 w36q
        have w37 := ibA4 w36I
        have w38 : (zI (zsI (zsI w21M 337 3 (0 : Int32)) 337 4 (0 : Int32)) 337 4).toInt = 0 := (congrArg Int32.toInt zIs).trans li0
        have w39 : (zI (zsI (zsI w21M 337 3 (0 : Int32)) 337 4 (0 : Int32)) 336 11).toInt = 0 := (congrArg Int32.toInt ((zIo (by decide)).trans ((zIo (by decide)).trans ((w21F 336 11 rfl).trans ((zIoj (by decide)).trans ((zIoj (by decide)).trans ((zIoj (by decide)).trans ((zIoj (by decide)).trans zIs)))))))).trans li0
        refine zs_iload_n (pc := 82) t254_82 rfl ?_
        refine zs_aload_n (pc := 83) t254_83 rfl ?_
        refine zs_get (pc := 84) t254_84 (by decide) (zk1 (w36s.k fk_zMm_336)) (zfvi rfl ((w36F 336 11 rfl).trans ((zIo (by decide)).trans ((zIo (by decide)).trans ((w21F 336 11 rfl).trans ((zIoj (by decide)).trans ((zIoj (by decide)).trans ((zIoj (by decide)).trans ((zIoj (by decide)).trans zIs))))))))) ?_
        refine zs_icmp_geT (pc := 87) t254_87 rfl li0 (by omega) ?_
        refine zs_aload_n (pc := 112) t254_112 rfl ?_
        refine zs_get (pc := 113) t254_113 (by decide) (zk1 (w36s.k fk_zMm_336)) (zfvi rfl ((w36F 336 13 rfl).trans ((zIo (by decide)).trans ((zIo (by decide)).trans ((w21F 336 13 rfl).trans ((zIoj (by decide)).trans ((zIoj (by decide)).trans zIs))))))) ?_
        have w40 : (zI w36M 337 4).toInt = (zI w36M 337 4).toInt := (congrArg Int32.toInt rfl).trans rfl
        have w41 : (zI w36M 336 11).toInt = 0 := (congrArg Int32.toInt ((w36F 336 11 rfl).trans ((zIo (by decide)).trans ((zIo (by decide)).trans ((w21F 336 11 rfl).trans ((zIoj (by decide)).trans ((zIoj (by decide)).trans ((zIoj (by decide)).trans ((zIoj (by decide)).trans zIs))))))))).trans li0
        have w42 : zPC w36M := zPC.of w36t0 (by omega) (by rw [show w36x2.toInt = (zI (zsI (zsI w21M 337 3 (0 : Int32)) 337 4 (0 : Int32)) 336 11).toInt by omega]; exact w34)
        have w43 : (zI w36M 336 5).toInt = 0 := (congrArg Int32.toInt ((w36F 336 5 rfl).trans ((zIo (by decide)).trans ((zIo (by decide)).trans ((w21F 336 5 rfl).trans zIs))))).trans li0
        have w44 := li0
        exact zs_iret (pc := 116) t254_116 mr254 (by decide) (hQ _ _ w36s w36I ((((((((((((zFr.refl).put rfl).put rfl).put rfl).put rfl).put rfl).put rfl).put rfl).trans (w21F.mono rfl)).put rfl).put rfl).trans (w36F.mono rfl)) w36PR w42 (zPF.fr (zPF.fr (M' := (zsI (zsI w21M 337 3 (0 : Int32)) 337 4 (0 : Int32))) (zPF.fr (M' := (zsI w21M 337 3 (0 : Int32))) w21PF (zEq.put rfl) rfl) (zEq.put rfl) rfl) (w36F.eq rfl) w36J) (by omega))
    refine zGo.locals (ls' := [(0, .ref 336), (1, .int (1 : Int32)), (2, .int (0 : Int32))]) (by simp) ?_
    have w45 := li0
    have w46 : (zI (zsI (zsI w21M 337 3 (0 : Int32)) 337 4 (0 : Int32)) 337 4).toInt = 0 := (congrArg Int32.toInt zIs).trans li0
    exact w36L ((200 - 0 : Int).toNat) (0 : Int32) (zsI (zsI w21M 337 3 (0 : Int32)) 337 4 (0 : Int32)) ⟨by decide, by decide⟩ w21s w30 zFr.refl rfl w33 (by omega) (by omega) (fun i hi => absurd hi (by omega)) (by omega)
  · refine zs_if_eqF (pc := 28) t254_28 rfl (by omega) ?_
    refine zs_aload_n (pc := 31) t254_31 rfl ?_
    have w47 : (zI (zsI (zsI (zsI (zsI (zsI (zsI M 336 6 (0 : Int32)) 336 7 (-1 : Int32)) 336 11 (0 : Int32)) 336 12 (0 : Int32)) 336 13 (0 : Int32)) 336 14 (0 : Int32)) 336 14).toInt = 0 := (congrArg Int32.toInt zIs).trans li0
    have w48 : (zI (zsI (zsI (zsI (zsI (zsI (zsI M 336 6 (0 : Int32)) 336 7 (-1 : Int32)) 336 11 (0 : Int32)) 336 12 (0 : Int32)) 336 13 (0 : Int32)) 336 14 (0 : Int32)) 336 11).toInt = 0 := (congrArg Int32.toInt ((zIoj (by decide)).trans ((zIoj (by decide)).trans ((zIoj (by decide)).trans zIs)))).trans li0
    have w49 : (zI (zsI (zsI (zsI (zsI (zsI (zsI M 336 6 (0 : Int32)) 336 7 (-1 : Int32)) 336 11 (0 : Int32)) 336 12 (0 : Int32)) 336 13 (0 : Int32)) 336 14 (0 : Int32)) 336 13).toInt = 0 := (congrArg Int32.toInt ((zIoj (by decide)).trans zIs)).trans li0
    have w50 : (zI (zsI (zsI (zsI (zsI (zsI (zsI M 336 6 (0 : Int32)) 336 7 (-1 : Int32)) 336 11 (0 : Int32)) 336 12 (0 : Int32)) 336 13 (0 : Int32)) 336 14 (0 : Int32)) 336 12).toInt = 0 := (congrArg Int32.toInt ((zIoj (by decide)).trans ((zIoj (by decide)).trans zIs))).trans li0
    have w51 := zGn.le w10
    have w52 : (zI (zsI (zsI (zsI (zsI (zsI (zsI M 336 6 (0 : Int32)) 336 7 (-1 : Int32)) 336 11 (0 : Int32)) 336 12 (0 : Int32)) 336 13 (0 : Int32)) 336 14 (0 : Int32)) 336 12).toInt = 0 := (congrArg Int32.toInt ((zIoj (by decide)).trans ((zIoj (by decide)).trans zIs))).trans li0
    have w53 : (zI (zsI (zsI (zsI (zsI (zsI (zsI M 336 6 (0 : Int32)) 336 7 (-1 : Int32)) 336 11 (0 : Int32)) 336 12 (0 : Int32)) 336 13 (0 : Int32)) 336 14 (0 : Int32)) 336 14).toInt = 0 := (congrArg Int32.toInt zIs).trans li0
    have w54 : (zI (zsI (zsI (zsI (zsI (zsI (zsI M 336 6 (0 : Int32)) 336 7 (-1 : Int32)) 336 11 (0 : Int32)) 336 12 (0 : Int32)) 336 13 (0 : Int32)) 336 14 (0 : Int32)) 336 12).toInt = 0 := (congrArg Int32.toInt ((zIoj (by decide)).trans ((zIoj (by decide)).trans zIs))).trans li0
    have w55 : (zI (zsI (zsI (zsI (zsI (zsI (zsI M 336 6 (0 : Int32)) 336 7 (-1 : Int32)) 336 11 (0 : Int32)) 336 12 (0 : Int32)) 336 13 (0 : Int32)) 336 14 (0 : Int32)) 336 14).toInt = 0 := (congrArg Int32.toInt zIs).trans li0
    refine zs_invV (pc := 32) (k := 336) (as' := []) (st := []) t254_32 mf255 rfl rfl (Or.inl ⟨by decide, (zk1 (hs.k fk_zMm_336))⟩) ⟨by decide, by decide, Nat.le_of_ble_eq_true rfl, Nat.le_of_ble_eq_true rfl⟩ (K255 hs w7 w10 (zGh.cast (zGh.fr (M' := (zsI (zsI (zsI (zsI (zsI (zsI M 336 6 (0 : Int32)) 336 7 (-1 : Int32)) 336 11 (0 : Int32)) 336 12 (0 : Int32)) 336 13 (0 : Int32)) 336 14 (0 : Int32))) (zGh.fr (M' := (zsI (zsI (zsI (zsI (zsI M 336 6 (0 : Int32)) 336 7 (-1 : Int32)) 336 11 (0 : Int32)) 336 12 (0 : Int32)) 336 13 (0 : Int32))) (zGh.fr (M' := (zsI (zsI (zsI (zsI M 336 6 (0 : Int32)) 336 7 (-1 : Int32)) 336 11 (0 : Int32)) 336 12 (0 : Int32))) w4 (zEq.put rfl)) (zEq.put rfl)) (zEq.put rfl)) (by omega)) (by omega) (by omega) ?_) (fun _ _ q => q)
    intro w56M w56v w56s w56I w56F w56J w56x0 w56a w56b
    show zGo X l 7 0 0 254 35 [(0, .ref 336)] [.int w56v] w56M _
    by_cases w57 : w56v.toInt = 0
    · skip
      refine zs_if_eqT (pc := 35) t254_35 rfl (by omega) ?_
      refine zs_iconst (pc := 42) t254_42 (v := 0) (by decide) ?_
      refine zs_istore_n (pc := 43) t254_43 (ls' := [(1, .int (0 : Int32)), (0, .ref 336)]) (zml mf254 (by decide)) rfl ?_
      refine zs_aload_n (pc := 44) t254_44 rfl ?_
      refine zs_iconst (pc := 45) t254_45 (v := 0) (by decide) ?_
      have w58 : zIv mLo mHi (zsI w56M 336 5 (0 : Int32)) := zIv.put w56I (show 0 ≤ (0 : Int32).toInt ∧ (0 : Int32).toInt ≤ 500 from ⟨by decide, by decide⟩)
      refine zs_putI (pc := 46) t254_46 (zk1 (w56s.k fk_zMm_336)) rfl ?_
      refine zs_iload_n (pc := 49) t254_49 rfl ?_
      refine zs_if_neF (pc := 50) t254_50 li0 (by decide) ?_
      refine zs_iconst (pc := 53) t254_53 (v := -1) (by decide) ?_
      have w59 : (zI (zsI w56M 336 5 (0 : Int32)) 336 5).toInt = 0 := (congrArg Int32.toInt zIs).trans li0
      have w60 := lin1
      exact zs_iret (pc := 54) t254_54 mr254 (by decide) (hQ _ _ w56s w58 (((((((((zFr.refl).put rfl).put rfl).put rfl).put rfl).put rfl).put rfl).trans (w56F.mono rfl)).put rfl) (zPR.fr (M' := (zsI w56M 336 5 (0 : Int32))) (zPR.fr (zPR.fr (M' := (zsI (zsI (zsI (zsI (zsI (zsI M 336 6 (0 : Int32)) 336 7 (-1 : Int32)) 336 11 (0 : Int32)) 336 12 (0 : Int32)) 336 13 (0 : Int32)) 336 14 (0 : Int32))) (zPR.fr (M' := (zsI (zsI (zsI (zsI (zsI M 336 6 (0 : Int32)) 336 7 (-1 : Int32)) 336 11 (0 : Int32)) 336 12 (0 : Int32)) 336 13 (0 : Int32))) (zPR.fr (M' := (zsI (zsI (zsI (zsI M 336 6 (0 : Int32)) 336 7 (-1 : Int32)) 336 11 (0 : Int32)) 336 12 (0 : Int32))) (zPR.fr (M' := (zsI (zsI (zsI M 336 6 (0 : Int32)) 336 7 (-1 : Int32)) 336 11 (0 : Int32))) (zPR.fr (M' := (zsI (zsI M 336 6 (0 : Int32)) 336 7 (-1 : Int32))) (zPR.fr (M' := (zsI M 336 6 (0 : Int32))) pR (zEq.put rfl)) (zEq.put rfl)) (zEq.put rfl)) (zEq.put rfl)) (zEq.put rfl)) (zEq.put rfl)) (w56F.eq rfl)) (zEq.put rfl)) (zPC.fr (M' := (zsI w56M 336 5 (0 : Int32))) (zPC.fr (zPC.fr (M' := (zsI (zsI (zsI (zsI (zsI (zsI M 336 6 (0 : Int32)) 336 7 (-1 : Int32)) 336 11 (0 : Int32)) 336 12 (0 : Int32)) 336 13 (0 : Int32)) 336 14 (0 : Int32))) (zPC.fr (M' := (zsI (zsI (zsI (zsI (zsI M 336 6 (0 : Int32)) 336 7 (-1 : Int32)) 336 11 (0 : Int32)) 336 12 (0 : Int32)) 336 13 (0 : Int32))) (zPC.fr (M' := (zsI (zsI (zsI (zsI M 336 6 (0 : Int32)) 336 7 (-1 : Int32)) 336 11 (0 : Int32)) 336 12 (0 : Int32))) (zPC.fr (M' := (zsI (zsI (zsI M 336 6 (0 : Int32)) 336 7 (-1 : Int32)) 336 11 (0 : Int32))) (zPC.fr (M' := (zsI (zsI M 336 6 (0 : Int32)) 336 7 (-1 : Int32))) (zPC.fr (M' := (zsI M 336 6 (0 : Int32))) pC (zEq.put rfl)) (zEq.put rfl)) (zEq.put rfl)) (zEq.put rfl)) (zEq.put rfl)) (zEq.put rfl)) (w56F.eq rfl)) (zEq.put rfl)) (zPF.fr (M' := (zsI w56M 336 5 (0 : Int32))) (zPF.fr (zPF.fr (M' := (zsI (zsI (zsI (zsI (zsI (zsI M 336 6 (0 : Int32)) 336 7 (-1 : Int32)) 336 11 (0 : Int32)) 336 12 (0 : Int32)) 336 13 (0 : Int32)) 336 14 (0 : Int32))) (zPF.fr (M' := (zsI (zsI (zsI (zsI (zsI M 336 6 (0 : Int32)) 336 7 (-1 : Int32)) 336 11 (0 : Int32)) 336 12 (0 : Int32)) 336 13 (0 : Int32))) (zPF.fr (M' := (zsI (zsI (zsI (zsI M 336 6 (0 : Int32)) 336 7 (-1 : Int32)) 336 11 (0 : Int32)) 336 12 (0 : Int32))) (zPF.fr (M' := (zsI (zsI (zsI M 336 6 (0 : Int32)) 336 7 (-1 : Int32)) 336 11 (0 : Int32))) (zPF.fr (M' := (zsI (zsI M 336 6 (0 : Int32)) 336 7 (-1 : Int32))) (zPF.fr (M' := (zsI M 336 6 (0 : Int32))) pF (zEq.put rfl) rfl) (zEq.put rfl) rfl) (zEq.put rfl) rfl) (zEq.put rfl) rfl) (zEq.put rfl) rfl) (zEq.put rfl) rfl) (w56F.eq rfl) w56J) (zEq.put rfl) rfl) (by omega))
    · skip
      have w57H := w56x0.resolve_left w57
      refine zs_if_eqF (pc := 35) t254_35 rfl (by omega) ?_
      refine zs_iconst (pc := 38) t254_38 (v := 1) (by decide) ?_
      refine zs_goto (pc := 39) t254_39 ?_
      refine zs_istore_n (pc := 43) t254_43 (ls' := [(1, .int (1 : Int32)), (0, .ref 336)]) (zml mf254 (by decide)) rfl ?_
      refine zs_aload_n (pc := 44) t254_44 rfl ?_
      refine zs_iconst (pc := 45) t254_45 (v := 0) (by decide) ?_
      have w61 : zIv mLo mHi (zsI w56M 336 5 (0 : Int32)) := zIv.put w56I (show 0 ≤ (0 : Int32).toInt ∧ (0 : Int32).toInt ≤ 500 from ⟨by decide, by decide⟩)
      refine zs_putI (pc := 46) t254_46 (zk1 (w56s.k fk_zMm_336)) rfl ?_
      refine zs_iload_n (pc := 49) t254_49 rfl ?_
      refine zs_if_neT (pc := 50) t254_50 li1 (by decide) ?_
      refine zs_aload_n (pc := 55) t254_55 rfl ?_
      refine zs_iconst (pc := 56) t254_56 (v := 0) (by decide) ?_
      have w62 := ibA0 hI
      have w63 : (zI (zsI w56M 336 5 (0 : Int32)) 337 0).toInt = (zI M 337 0).toInt := (congrArg Int32.toInt ((zIo (by decide)).trans ((w56F 337 0 rfl).trans ((zIo (by decide)).trans ((zIo (by decide)).trans ((zIo (by decide)).trans ((zIo (by decide)).trans ((zIo (by decide)).trans ((zIo (by decide)).trans rfl))))))))).trans rfl
      have w64 := ibA2 hI
      have w65 : (zI (zsI w56M 336 5 (0 : Int32)) 337 2).toInt = (zI M 337 2).toInt := (congrArg Int32.toInt ((zIo (by decide)).trans ((w56F 337 2 rfl).trans ((zIo (by decide)).trans ((zIo (by decide)).trans ((zIo (by decide)).trans ((zIo (by decide)).trans ((zIo (by decide)).trans ((zIo (by decide)).trans rfl))))))))).trans rfl
      have w66 := ibA1 hI
      have w67 : (zI (zsI w56M 336 5 (0 : Int32)) 337 1).toInt = (zI M 337 1).toInt := (congrArg Int32.toInt ((zIo (by decide)).trans ((w56F 337 1 rfl).trans ((zIo (by decide)).trans ((zIo (by decide)).trans ((zIo (by decide)).trans ((zIo (by decide)).trans ((zIo (by decide)).trans ((zIo (by decide)).trans rfl))))))))).trans rfl
      refine zs_invV (pc := 57) (k := 336) (as' := [.int (0 : Int32)]) (st := []) t254_57 mf230 rfl rfl (Or.inl ⟨by decide, (zk1 (w56s.k fk_zMm_336))⟩) ⟨by decide, by decide, Nat.le_of_ble_eq_true rfl, Nat.le_of_ble_eq_true rfl⟩ (K230_0 w56s w61 (zPR.fr (M' := (zsI w56M 336 5 (0 : Int32))) (zPR.fr (zPR.fr (M' := (zsI (zsI (zsI (zsI (zsI (zsI M 336 6 (0 : Int32)) 336 7 (-1 : Int32)) 336 11 (0 : Int32)) 336 12 (0 : Int32)) 336 13 (0 : Int32)) 336 14 (0 : Int32))) (zPR.fr (M' := (zsI (zsI (zsI (zsI (zsI M 336 6 (0 : Int32)) 336 7 (-1 : Int32)) 336 11 (0 : Int32)) 336 12 (0 : Int32)) 336 13 (0 : Int32))) (zPR.fr (M' := (zsI (zsI (zsI (zsI M 336 6 (0 : Int32)) 336 7 (-1 : Int32)) 336 11 (0 : Int32)) 336 12 (0 : Int32))) (zPR.fr (M' := (zsI (zsI (zsI M 336 6 (0 : Int32)) 336 7 (-1 : Int32)) 336 11 (0 : Int32))) (zPR.fr (M' := (zsI (zsI M 336 6 (0 : Int32)) 336 7 (-1 : Int32))) (zPR.fr (M' := (zsI M 336 6 (0 : Int32))) pR (zEq.put rfl)) (zEq.put rfl)) (zEq.put rfl)) (zEq.put rfl)) (zEq.put rfl)) (zEq.put rfl)) (w56F.eq rfl)) (zEq.put rfl)) (zPC.fr (M' := (zsI w56M 336 5 (0 : Int32))) (zPC.fr (zPC.fr (M' := (zsI (zsI (zsI (zsI (zsI (zsI M 336 6 (0 : Int32)) 336 7 (-1 : Int32)) 336 11 (0 : Int32)) 336 12 (0 : Int32)) 336 13 (0 : Int32)) 336 14 (0 : Int32))) (zPC.fr (M' := (zsI (zsI (zsI (zsI (zsI M 336 6 (0 : Int32)) 336 7 (-1 : Int32)) 336 11 (0 : Int32)) 336 12 (0 : Int32)) 336 13 (0 : Int32))) (zPC.fr (M' := (zsI (zsI (zsI (zsI M 336 6 (0 : Int32)) 336 7 (-1 : Int32)) 336 11 (0 : Int32)) 336 12 (0 : Int32))) (zPC.fr (M' := (zsI (zsI (zsI M 336 6 (0 : Int32)) 336 7 (-1 : Int32)) 336 11 (0 : Int32))) (zPC.fr (M' := (zsI (zsI M 336 6 (0 : Int32)) 336 7 (-1 : Int32))) (zPC.fr (M' := (zsI M 336 6 (0 : Int32))) pC (zEq.put rfl)) (zEq.put rfl)) (zEq.put rfl)) (zEq.put rfl)) (zEq.put rfl)) (zEq.put rfl)) (w56F.eq rfl)) (zEq.put rfl)) ?_) (fun _ _ q => q)
      intro w68M w68s w68I w68F w68J w68PR w68PC w68PF w68t0 w68t1 w68t2
      have w69 := ibA0 w68I
      have w70 := ibA2 w68I
      have w71 := ibA1 w68I
      show zGo X l 7 0 0 254 60 [(1, .int (1 : Int32)), (0, .ref 336)] [] w68M _
      refine zs_aload_n (pc := 60) t254_60 rfl ?_
      refine zs_get (pc := 61) t254_61 (by decide) (zk1 (w68s.k fk_zMm_336)) (w68s.p rfl fv_zMm_336_0) ?_
      refine zs_iconst (pc := 64) t254_64 (v := 3) (by decide) ?_
      refine zs_aload_n (pc := 65) t254_65 rfl ?_
      have w72 := ib336_13 w56I
      refine zs_get (pc := 66) t254_66 (by decide) (zk1 (w68s.k fk_zMm_336)) (zfvi rfl ((w68F 336 13 rfl).trans ((zIoj (by decide)).trans rfl))) ?_
      have w73 : zIv mLo mHi (zsI w68M 337 3 (zI w56M 336 13)) := zIv.putA w68I (by decide) (show (-2147483648) ≤ (zI w56M 336 13).toInt ∧ (zI w56M 336 13).toInt ≤ 2147483647 from zrg (zI w56M 336 13))
      have w74 : (zI w68M 337 0).toInt = (zI w68M 337 0).toInt := (congrArg Int32.toInt rfl).trans rfl
      have w75 : (zI w68M 337 1).toInt = (zI w68M 337 1).toInt := (congrArg Int32.toInt rfl).trans rfl
      have w76 : zPR (zsI w68M 337 3 (zI w56M 336 13)) := zPR.put w68PR (by omega) (by omega) (by omega) (by omega)
      have w77 : zPC (zsI w68M 337 3 (zI w56M 336 13)) := zPC.put w68PC (by decide) (by decide)
      refine zs_iast (pc := 69) t254_69 (j := 3) (by decide) (zk1 (w68s.k fk_zMm_337)) li3 (zk2 (w68s.k fk_zMm_337) (by decide)) ?_
      refine zs_aload_n (pc := 70) t254_70 rfl ?_
      refine zs_get (pc := 71) t254_71 (by decide) (zk1 (w68s.k fk_zMm_336)) (w68s.p rfl fv_zMm_336_0) ?_
      refine zs_iconst (pc := 74) t254_74 (v := 4) (by decide) ?_
      refine zs_aload_n (pc := 75) t254_75 rfl ?_
      have w78 := ib336_11 w56I
      refine zs_get (pc := 76) t254_76 (by decide) (zk1 (w68s.k fk_zMm_336)) (zfvi rfl ((zIo (by decide)).trans ((w68F 336 11 rfl).trans ((zIoj (by decide)).trans rfl)))) ?_
      have w79 : zIv mLo mHi (zsI (zsI w68M 337 3 (zI w56M 336 13)) 337 4 (zI w56M 336 11)) := zIv.putA w73 (by decide) (show 0 ≤ (zI w56M 336 11).toInt ∧ (zI w56M 336 11).toInt ≤ 200 from ⟨by omega, by omega⟩)
      have w80 : (zI (zsI w68M 337 3 (zI w56M 336 13)) 337 0).toInt = (zI w68M 337 0).toInt := (congrArg Int32.toInt ((zIoj (by decide)).trans rfl)).trans rfl
      have w81 : (zI (zsI w68M 337 3 (zI w56M 336 13)) 337 1).toInt = (zI w68M 337 1).toInt := (congrArg Int32.toInt ((zIoj (by decide)).trans rfl)).trans rfl
      have w82 : zPR (zsI (zsI w68M 337 3 (zI w56M 336 13)) 337 4 (zI w56M 336 11)) := zPR.put w76 (by omega) (by omega) (by omega) (by omega)
      refine zs_iast (pc := 79) t254_79 (j := 4) (by decide) (zk1 (w68s.k fk_zMm_337)) li4 (zk2 (w68s.k fk_zMm_337) (by decide)) ?_
      refine zs_iconst (pc := 80) t254_80 (v := 0) (by decide) ?_
      refine zs_istore_n (pc := 81) t254_81 (ls' := [(2, .int (0 : Int32)), (1, .int (1 : Int32)), (0, .ref 336)]) (zml mf254 (by decide)) rfl ?_
      have w83 : zCd (zI (zsI (zsI w68M 337 3 (zI w56M 336 13)) 337 4 (zI w56M 336 11)) 340) (zI (zsI (zsI w68M 337 3 (zI w56M 336 13)) 337 4 (zI w56M 336 11)) 336 11).toInt := by
        rw [show zI (zsI (zsI w68M 337 3 (zI w56M 336 13)) 337 4 (zI w56M 336 11)) 336 11 = zI w56M 336 11 from ((zIo (by decide)).trans ((zIo (by decide)).trans ((w68F 336 11 rfl).trans (zIoj (by decide)))))]
        exact zCd.cg (w57H) (fun i _ => ((zIo (by decide)).trans ((zIo (by decide)).trans ((w68F 340 i rfl).trans (zIo (by decide))))))
      have w84 : (zI (zsI (zsI w68M 337 3 (zI w56M 336 13)) 337 4 (zI w56M 336 11)) 336 11).toInt = (zI w56M 336 11).toInt := (congrArg Int32.toInt ((zIo (by decide)).trans ((zIo (by decide)).trans ((w68F 336 11 rfl).trans ((zIoj (by decide)).trans rfl))))).trans rfl
      have w85L : ∀ (m : Nat) (w85x2 : Int32) (w85M : zM), (0 ≤ w85x2.toInt ∧ w85x2.toInt ≤ 200) → zSk zMm w85M → zIv mLo mHi w85M → zFr [(337, 337, none)] (zsI (zsI w68M 337 3 (zI w56M 336 13)) 337 4 (zI w56M 336 11)) w85M → zJ w85M 351 = zJ (zsI (zsI w68M 337 3 (zI w56M 336 13)) 337 4 (zI w56M 336 11)) 351 → zPR w85M → ((zI w85M 337 4).toInt = (zI (zsI (zsI w68M 337 3 (zI w56M 336 13)) 337 4 (zI w56M 336 11)) 337 4).toInt) → (w85x2.toInt ≤ (zI (zsI (zsI w68M 337 3 (zI w56M 336 13)) 337 4 (zI w56M 336 11)) 336 11).toInt) → (∀ i : Nat, (i : Int) < w85x2.toInt → zI w85M 337 (306 + i) = zI (zsI (zsI w68M 337 3 (zI w56M 336 13)) 337 4 (zI w56M 336 11)) 340 i) → 200 - w85x2.toInt ≤ (m : Int) → zGo X l 7 0 0 254 82 [(0, .ref 336), (1, .int (1 : Int32)), (2, .int w85x2)] [] w85M Q := by
        intro m
        induction m using Nat.strongRecOn with
        | ind w85m w85ih =>
          intro w85x2 w85M w85b2 w85s w85I w85F w85J w85PR w85r0 w85r1 w85t0 w85q
          have w86 := ibA4 w85I
          have w87 : (zI (zsI (zsI w68M 337 3 (zI w56M 336 13)) 337 4 (zI w56M 336 11)) 337 4).toInt = (zI w56M 336 11).toInt := (congrArg Int32.toInt zIs).trans rfl
          have w88 : (zI (zsI (zsI w68M 337 3 (zI w56M 336 13)) 337 4 (zI w56M 336 11)) 336 11).toInt = (zI w56M 336 11).toInt := (congrArg Int32.toInt ((zIo (by decide)).trans ((zIo (by decide)).trans ((w68F 336 11 rfl).trans ((zIoj (by decide)).trans rfl))))).trans rfl
          refine zs_iload_n (pc := 82) t254_82 rfl ?_
          refine zs_aload_n (pc := 83) t254_83 rfl ?_
          refine zs_get (pc := 84) t254_84 (by decide) (zk1 (w85s.k fk_zMm_336)) (zfvi rfl ((w85F 336 11 rfl).trans ((zIo (by decide)).trans ((zIo (by decide)).trans ((w68F 336 11 rfl).trans ((zIoj (by decide)).trans rfl)))))) ?_
          by_cases w89 : (zI w56M 336 11).toInt ≤ w85x2.toInt
          · refine zs_icmp_geT (pc := 87) t254_87 rfl rfl (by omega) ?_
            refine zs_aload_n (pc := 112) t254_112 rfl ?_
            refine zs_get (pc := 113) t254_113 (by decide) (zk1 (w85s.k fk_zMm_336)) (zfvi rfl ((w85F 336 13 rfl).trans ((zIo (by decide)).trans ((zIo (by decide)).trans ((w68F 336 13 rfl).trans ((zIoj (by decide)).trans rfl)))))) ?_
            have w90 : (zI w85M 337 4).toInt = (zI w85M 337 4).toInt := (congrArg Int32.toInt rfl).trans rfl
            have w91 : (zI w85M 336 11).toInt = (zI w56M 336 11).toInt := (congrArg Int32.toInt ((w85F 336 11 rfl).trans ((zIo (by decide)).trans ((zIo (by decide)).trans ((w68F 336 11 rfl).trans ((zIoj (by decide)).trans rfl)))))).trans rfl
            have w92 : zPC w85M := zPC.of w85t0 (by omega) (by rw [show w85x2.toInt = (zI (zsI (zsI w68M 337 3 (zI w56M 336 13)) 337 4 (zI w56M 336 11)) 336 11).toInt by omega]; exact w83)
            have w93 : (zI w85M 336 5).toInt = 0 := (congrArg Int32.toInt ((w85F 336 5 rfl).trans ((zIo (by decide)).trans ((zIo (by decide)).trans ((w68F 336 5 rfl).trans zIs))))).trans li0
            exact zs_iret (pc := 116) t254_116 mr254 rfl (hQ _ _ w85s w85I (((((((((((((zFr.refl).put rfl).put rfl).put rfl).put rfl).put rfl).put rfl).trans (w56F.mono rfl)).put rfl).trans (w68F.mono rfl)).put rfl).put rfl).trans (w85F.mono rfl)) w85PR w92 (zPF.fr (zPF.fr (M' := (zsI (zsI w68M 337 3 (zI w56M 336 13)) 337 4 (zI w56M 336 11))) (zPF.fr (M' := (zsI w68M 337 3 (zI w56M 336 13))) w68PF (zEq.put rfl) rfl) (zEq.put rfl) rfl) (w85F.eq rfl) w85J) (by omega))
          · refine zs_icmp_geF (pc := 87) t254_87 rfl rfl (by omega) ?_
            refine zs_aload_n (pc := 90) t254_90 rfl ?_
            refine zs_get (pc := 91) t254_91 (by decide) (zk1 (w85s.k fk_zMm_336)) (w85s.p rfl fv_zMm_336_0) ?_
            refine zs_sipush (pc := 94) t254_94 (v := 306) (by decide) ?_
            refine zs_iload_n (pc := 97) t254_97 rfl ?_
            obtain ⟨w94v, w94e, w94⟩ := ziadd (a := (306 : Int32)) (b := w85x2) li306 rfl (by omega) (by omega)
            refine zs_iadd (pc := 98) t254_98 (c := w94v) w94e ?_
            refine zs_aload_n (pc := 99) t254_99 rfl ?_
            refine zs_get (pc := 100) t254_100 (by decide) (zk1 (w85s.k fk_zMm_336)) (w85s.p rfl fv_zMm_336_9) ?_
            refine zs_iload_n (pc := 103) t254_103 rfl ?_
            obtain ⟨w95n, w95⟩ : ∃ n : Nat, w85x2.toInt = (n : Int) := ⟨(w85x2.toInt).toNat, by omega⟩
            have w96 := zrg (zI w56M 340 w95n)
            refine zs_iald (pc := 104) t254_104 (j := w95n) (by decide) (zk1 (w85s.k fk_zMm_340)) (show w85x2.toInt = ((w95n : Nat) : Int) by omega) (zk2 (w85s.k fk_zMm_340) (by omega)) ((w85F 340 w95n rfl).trans ((zIo (by decide)).trans ((zIo (by decide)).trans ((w68F 340 w95n rfl).trans ((zIo (by decide)).trans rfl))))) ?_
            have w97a := aN (p := (306 + w95n)) (by omega)
            have w97 : zIv mLo mHi (zsI w85M 337 (306 + w95n) (zI w56M 340 w95n)) := zIv.putA w85I (by omega) (by rw [w97a.1, w97a.2]; exact zrg (zI w56M 340 w95n))
            have w98 := ibA0 w85I
            have w99 : (zI w85M 337 0).toInt = (zI w85M 337 0).toInt := (congrArg Int32.toInt rfl).trans rfl
            have w100 := ibA1 w85I
            have w101 : (zI w85M 337 1).toInt = (zI w85M 337 1).toInt := (congrArg Int32.toInt rfl).trans rfl
            have w102 : zPR (zsI w85M 337 (306 + w95n) (zI w56M 340 w95n)) := zPR.put w85PR (by omega) (by omega) (by omega) (by omega)
            refine zs_iast (pc := 105) t254_105 (j := (306 + w95n)) (by decide) (zk1 (w85s.k fk_zMm_337)) (show w94v.toInt = (((306 + w95n) : Nat) : Int) by omega) (zk2 (w85s.k fk_zMm_337) (by omega)) ?_
            obtain ⟨w103v, w103e, w103⟩ := ziadd (a := w85x2) (b := Int32.ofInt 1) rfl (show (Int32.ofInt 1).toInt = 1 by decide) (by omega) (by omega)
            refine zs_iinc (pc := 106) t254_106 (ls' := [(2, .int w103v), (0, .ref 336), (1, .int (1 : Int32))]) (zml mf254 (by decide)) rfl (c := w103v) w103e rfl ?_
            refine zs_goto (pc := 109) t254_109 ?_
            refine zGo.locals (ls' := [(0, .ref 336), (1, .int (1 : Int32)), (2, .int w103v)]) (by simp) ?_
            have w104 := w103
            have w105 : (zI (zsI w85M 337 (306 + w95n) (zI w56M 340 w95n)) 337 4).toInt = (zI w85M 337 4).toInt := (congrArg Int32.toInt ((zIoj (by omega)).trans rfl)).trans rfl
            have w106 : ∀ i : Nat, (i : Int) < w103v.toInt → zI (zsI w85M 337 (306 + w95n) (zI w56M 340 w95n)) 337 (306 + i) = zI (zsI (zsI w68M 337 3 (zI w56M 336 13)) 337 4 (zI w56M 336 11)) 340 i := by
              intro i hi
              by_cases e : i = w95n
              · rw [e, zIs]
                exact (((zIo (by decide)).trans ((zIo (by decide)).trans ((w68F 340 w95n rfl).trans ((zIo (by decide)).trans rfl))))).symm
              · rw [zIoj (by omega)]
                exact w85t0 i (by omega)
            exact w85ih (w85m - 1) (by omega) w103v (zsI w85M 337 (306 + w95n) (zI w56M 340 w95n)) ⟨by omega, by omega⟩ w85s w97 (((zFr.refl).trans (w85F.mono rfl)).put rfl) w85J w102 (by omega) (by omega) w106 (by omega)
      refine zGo.locals (ls' := [(0, .ref 336), (1, .int (1 : Int32)), (2, .int (0 : Int32))]) (by simp) ?_
      have w107 := li0
      have w108 : (zI (zsI (zsI w68M 337 3 (zI w56M 336 13)) 337 4 (zI w56M 336 11)) 337 4).toInt = (zI w56M 336 11).toInt := (congrArg Int32.toInt zIs).trans rfl
      exact w85L ((200 - 0 : Int).toNat) (0 : Int32) (zsI (zsI w68M 337 3 (zI w56M 336 13)) 337 4 (zI w56M 336 11)) ⟨by decide, by decide⟩ w68s w79 zFr.refl rfl w82 (by omega) (by omega) (fun i hi => absurd hi (by omega)) (by omega)
theorem T331 {X : zX} {l : Launch} {M : zM} {Q : Option Value → zM → Prop} {a b c : Int32} (hs : zSk zMm M) (hI : zIv mLo mHi M) (pR : zPR M) (pC : zPC M) (pF : zPF M) (hQ : ∀ (M' : zM) (v : Int32), zSk zMm M' → zIv mLo mHi M' → zFr [(336, 338, none), (340, 363, none)] M M' → zPR M' → zPC M' → zPF M' → ((zI M' 336 5).toInt = (zI M 336 5).toInt) → Q (some (.int v)) M') : zCall X l 2 0 0 331 [.ref 336, .int a, .int b, .int c] M Q := by
  have ga := zrg a
  have gb := zrg b
  have gc := zrg c
  refine zs_in (by decide) mf331 (Nat.le_of_ble_eq_true rfl) ?_
  show zGo X l 2 0 0 331 0 [(0, .ref 336), (1, .int a), (2, .int b), (3, .int c)] [] M _
  refine zs_aload_n (pc := 0) t331_0 rfl ?_
  refine zs_iload_n (pc := 1) t331_1 rfl ?_
  refine zs_invV (pc := 2) (k := 336) (as' := [.int a]) (st := []) t331_2 mf306 rfl rfl (Or.inl ⟨by decide, (zk1 (hs.k fk_zMm_336))⟩) ⟨by decide, by decide, Nat.le_of_ble_eq_true rfl, Nat.le_of_ble_eq_true rfl⟩ (zs_in (by decide) mf306 (Nat.le_of_ble_eq_true rfl) ?_) (fun _ _ q => q)
  show zGo X l 1 0 0 306 0 [(0, .ref 336), (1, .int a)] [] M _
  refine zs_iload_n (pc := 0) t306_0 rfl ?_
  refine zs_i2l (pc := 1) t306_1 rfl ?_
  refine zs_lconst (pc := 2) t306_2 (v := 0) (by decide) ?_
  refine zs_aload_n (pc := 3) t306_3 rfl ?_
  refine zs_get (pc := 4) t306_4 (by decide) (zk1 (hs.k fk_zMm_336)) (hs.p rfl fv_zMm_336_0) ?_
  refine zs_iconst (pc := 7) t306_7 (v := 0) (by decide) ?_
  have w1 := ibA0 hI
  refine zs_iald (pc := 8) t306_8 (j := 0) (by decide) (zk1 (hs.k fk_zMm_337)) li0 (zk2 (hs.k fk_zMm_337) (by decide)) rfl ?_
  refine zs_iconst (pc := 9) t306_9 (v := 1) (by decide) ?_
  obtain ⟨w2v, w2e, w2⟩ := zisub (a := (zI M 337 0)) (b := (1 : Int32)) rfl li1 (by omega) (by omega)
  refine zs_isub (pc := 10) t306_10 (c := w2v) w2e ?_
  refine zs_i2l (pc := 11) t306_11 rfl ?_
  by_cases w3 : 0 ≤ a.toInt ∧ a.toInt ≤ ((zI M 337 0).toInt - 1)
  · refine zs_invS (pc := 12) (as := [.long a.toInt64, .long (0 : Int64), .long w2v.toInt64]) (st := []) t306_12 (by decide) mf228 rfl rfl ⟨by decide, by decide, Nat.le_of_ble_eq_true rfl, Nat.le_of_ble_eq_true rfl⟩ (K228T (zi2l rfl) ll0 (zi2l w2) (by omega) ?_) (fun _ _ q => q)
    show zGo X l 1 0 0 306 15 [(0, .ref 336), (1, .int a)] [.int (1 : Int32)] M _
    refine zs_iret (pc := 15) t306_15 mr306 (by decide) ?_
    show zGo X l 2 0 0 331 5 [(0, .ref 336), (1, .int a), (2, .int b), (3, .int c)] [.int (1 : Int32)] M _
    refine zs_if_eqF (pc := 5) t331_5 li1 (by decide) ?_
    refine zs_iload_n (pc := 8) t331_8 rfl ?_
    refine zs_i2l (pc := 9) t331_9 rfl ?_
    refine zs_ldc2_w (pc := 10) t331_10 (v := -9999) (by decide) ?_
    refine zs_ldc2_w (pc := 13) t331_13 (v := 9999) (by decide) ?_
    by_cases w4 : (-9999) ≤ b.toInt ∧ b.toInt ≤ 9999
    · refine zs_invS (pc := 16) (as := [.long b.toInt64, .long (-9999 : Int64), .long (9999 : Int64)]) (st := []) t331_16 (by decide) mf228 rfl rfl ⟨by decide, by decide, Nat.le_of_ble_eq_true rfl, Nat.le_of_ble_eq_true rfl⟩ (K228T (zi2l rfl) lln9999 ll9999 (by omega) ?_) (fun _ _ q => q)
      show zGo X l 2 0 0 331 19 [(0, .ref 336), (1, .int a), (2, .int b), (3, .int c)] [.int (1 : Int32)] M _
      refine zs_if_eqF (pc := 19) t331_19 li1 (by decide) ?_
      refine zs_iload_n (pc := 22) t331_22 rfl ?_
      refine zs_i2l (pc := 23) t331_23 rfl ?_
      refine zs_lconst (pc := 24) t331_24 (v := 0) (by decide) ?_
      refine zs_ldc2_w (pc := 25) t331_25 (v := 999) (by decide) ?_
      by_cases w5 : 0 ≤ c.toInt ∧ c.toInt ≤ 999
      · refine zs_invS (pc := 28) (as := [.long c.toInt64, .long (0 : Int64), .long (999 : Int64)]) (st := []) t331_28 (by decide) mf228 rfl rfl ⟨by decide, by decide, Nat.le_of_ble_eq_true rfl, Nat.le_of_ble_eq_true rfl⟩ (K228T (zi2l rfl) ll0 ll999 (by omega) ?_) (fun _ _ q => q)
        show zGo X l 2 0 0 331 31 [(0, .ref 336), (1, .int a), (2, .int b), (3, .int c)] [.int (1 : Int32)] M _
        refine zs_if_eqF (pc := 31) t331_31 li1 (by decide) ?_
        refine zs_aload_n (pc := 34) t331_34 rfl ?_
        refine zs_get (pc := 35) t331_35 (by decide) (zk1 (hs.k fk_zMm_336)) (hs.p rfl fv_zMm_336_0) ?_
        refine zs_iconst (pc := 38) t331_38 (v := 1) (by decide) ?_
        have w6 := ibA1 hI
        refine zs_iald (pc := 39) t331_39 (j := 1) (by decide) (zk1 (hs.k fk_zMm_337)) li1 (zk2 (hs.k fk_zMm_337) (by decide)) rfl ?_
        refine zs_bipush (pc := 40) t331_40 (v := 60) (by decide) ?_
        by_cases w7 : (zI M 337 1).toInt ≠ 60
        · refine zs_icmp_neT (pc := 42) t331_42 rfl li60 (by omega) ?_
          refine zs_aload_n (pc := 47) t331_47 rfl ?_
          refine zs_iconst (pc := 48) t331_48 (v := 0) (by decide) ?_
          have w8 : (zI M 337 0).toInt = (zI M 337 0).toInt := (congrArg Int32.toInt rfl).trans rfl
          have w9 := ibA2 hI
          have w10 : (zI M 337 2).toInt = (zI M 337 2).toInt := (congrArg Int32.toInt rfl).trans rfl
          have w11 : (zI M 337 1).toInt = (zI M 337 1).toInt := (congrArg Int32.toInt rfl).trans rfl
          refine zs_invV (pc := 49) (k := 336) (as' := [.int (0 : Int32)]) (st := []) t331_49 mf230 rfl rfl (Or.inl ⟨by decide, (zk1 (hs.k fk_zMm_336))⟩) ⟨by decide, by decide, Nat.le_of_ble_eq_true rfl, Nat.le_of_ble_eq_true rfl⟩ (K230_0 hs hI pR pC ?_) (fun _ _ q => q)
          intro w12M w12s w12I w12F w12J w12PR w12PC w12PF w12t0 w12t1 w12t2
          have w13 := ibA0 w12I
          have w14 := ibA2 w12I
          have w15 := ibA1 w12I
          show zGo X l 2 0 0 331 52 [(0, .ref 336), (1, .int a), (2, .int b), (3, .int c)] [] w12M _
          refine zs_aload_n (pc := 52) t331_52 rfl ?_
          refine zs_iload_n (pc := 53) t331_53 rfl ?_
          refine zs_iload_n (pc := 54) t331_54 rfl ?_
          refine zs_iload_n (pc := 55) t331_55 rfl ?_
          refine zs_bipush (pc := 56) t331_56 (v := -2) (by decide) ?_
          have w16 : (-2 : Int32).toInt = (-2) := lin2
          have w17 : (zI w12M 337 0).toInt = (zI w12M 337 0).toInt := (congrArg Int32.toInt rfl).trans rfl
          have w18 : (zI w12M 337 1).toInt = (zI w12M 337 1).toInt := (congrArg Int32.toInt rfl).trans rfl
          have w19 : (zI w12M 337 0).toInt = (zI w12M 337 0).toInt := (congrArg Int32.toInt rfl).trans rfl
          have w20 : (zI w12M 337 2).toInt = (zI w12M 337 2).toInt := (congrArg Int32.toInt rfl).trans rfl
          have w21 : (zI w12M 337 1).toInt = (zI w12M 337 1).toInt := (congrArg Int32.toInt rfl).trans rfl
          refine zs_invV (pc := 58) (k := 336) (as' := [.int a, .int b, .int c, .int (-2 : Int32)]) (st := []) t331_58 mf252 rfl rfl (Or.inl ⟨by decide, (zk1 (w12s.k fk_zMm_336))⟩) ⟨by decide, by decide, Nat.le_of_ble_eq_true rfl, Nat.le_of_ble_eq_true rfl⟩ (K252 w12s w12I w12PR w12PC ⟨by omega, by omega⟩ (by omega) (by omega) ?_) (fun _ _ q => q)
          intro w22M w22s w22I w22F w22J w22U w22PR w22PC w22t0 w22t1 w22t2
          have w23 := ibA0 w22I
          have w24 := ibA2 w22I
          have w25 := ibA1 w22I
          show zGo X l 2 0 0 331 61 [(0, .ref 336), (1, .int a), (2, .int b), (3, .int c)] [] w22M _
          refine zs_aload_n (pc := 61) t331_61 rfl ?_
          refine zs_get (pc := 62) t331_62 (by decide) (zk1 (w22s.k fk_zMm_336)) (w22s.p rfl fv_zMm_336_0) ?_
          refine zs_iconst (pc := 65) t331_65 (v := 1) (by decide) ?_
          refine zs_iald (pc := 66) t331_66 (j := 1) (by decide) (zk1 (w22s.k fk_zMm_337)) li1 (zk2 (w22s.k fk_zMm_337) (by decide)) rfl ?_
          refine zs_iconst (pc := 67) t331_67 (v := 1) (by decide) ?_
          obtain ⟨w26v, w26e, w26⟩ := zisub (a := (zI w22M 337 1)) (b := (1 : Int32)) rfl li1 (by omega) (by omega)
          refine zs_isub (pc := 68) t331_68 (c := w26v) w26e ?_
          have w27 := ib336_5 hI
          have w28 : (zI w22M 336 5).toInt = (zI M 336 5).toInt := (congrArg Int32.toInt ((w22F 336 5 rfl).trans ((w12F 336 5 rfl).trans rfl))).trans rfl
          have w29 := w26
          exact zs_iret (pc := 69) t331_69 mr331 rfl (hQ _ _ w22s w22I (((zFr.refl).trans (w12F.mono rfl)).trans (w22F.mono rfl)) w22PR w22PC (zPF.fr w12PF (w22F.eq rfl) w22J) (by omega))
        · refine zs_icmp_neF (pc := 42) t331_42 rfl li60 (by omega) ?_
          refine zs_iconst (pc := 45) t331_45 (v := -1) (by decide) ?_
          have w30 := ib336_5 hI
          have w31 : (zI M 336 5).toInt = (zI M 336 5).toInt := (congrArg Int32.toInt rfl).trans rfl
          have w32 := lin1
          exact zs_iret (pc := 46) t331_46 mr331 (by decide) (hQ _ _ hs hI (zFr.refl) pR pC pF (by omega))
      · refine zs_invS (pc := 28) (as := [.long c.toInt64, .long (0 : Int64), .long (999 : Int64)]) (st := []) t331_28 (by decide) mf228 rfl rfl ⟨by decide, by decide, Nat.le_of_ble_eq_true rfl, Nat.le_of_ble_eq_true rfl⟩ (K228F (zi2l rfl) ll0 ll999 (by omega) ?_) (fun _ _ q => q)
        show zGo X l 2 0 0 331 31 [(0, .ref 336), (1, .int a), (2, .int b), (3, .int c)] [.int (0 : Int32)] M _
        refine zs_if_eqT (pc := 31) t331_31 li0 (by decide) ?_
        refine zs_iconst (pc := 45) t331_45 (v := -1) (by decide) ?_
        have w33 := ib336_5 hI
        have w34 : (zI M 336 5).toInt = (zI M 336 5).toInt := (congrArg Int32.toInt rfl).trans rfl
        have w35 := lin1
        exact zs_iret (pc := 46) t331_46 mr331 (by decide) (hQ _ _ hs hI (zFr.refl) pR pC pF (by omega))
    · refine zs_invS (pc := 16) (as := [.long b.toInt64, .long (-9999 : Int64), .long (9999 : Int64)]) (st := []) t331_16 (by decide) mf228 rfl rfl ⟨by decide, by decide, Nat.le_of_ble_eq_true rfl, Nat.le_of_ble_eq_true rfl⟩ (K228F (zi2l rfl) lln9999 ll9999 (by omega) ?_) (fun _ _ q => q)
      show zGo X l 2 0 0 331 19 [(0, .ref 336), (1, .int a), (2, .int b), (3, .int c)] [.int (0 : Int32)] M _
      refine zs_if_eqT (pc := 19) t331_19 li0 (by decide) ?_
      refine zs_iconst (pc := 45) t331_45 (v := -1) (by decide) ?_
      have w36 := ib336_5 hI
      have w37 : (zI M 336 5).toInt = (zI M 336 5).toInt := (congrArg Int32.toInt rfl).trans rfl
      have w38 := lin1
      exact zs_iret (pc := 46) t331_46 mr331 (by decide) (hQ _ _ hs hI (zFr.refl) pR pC pF (by omega))
  · refine zs_invS (pc := 12) (as := [.long a.toInt64, .long (0 : Int64), .long w2v.toInt64]) (st := []) t306_12 (by decide) mf228 rfl rfl ⟨by decide, by decide, Nat.le_of_ble_eq_true rfl, Nat.le_of_ble_eq_true rfl⟩ (K228F (zi2l rfl) ll0 (zi2l w2) (by omega) ?_) (fun _ _ q => q)
    show zGo X l 1 0 0 306 15 [(0, .ref 336), (1, .int a)] [.int (0 : Int32)] M _
    refine zs_iret (pc := 15) t306_15 mr306 (by decide) ?_
    show zGo X l 2 0 0 331 5 [(0, .ref 336), (1, .int a), (2, .int b), (3, .int c)] [.int (0 : Int32)] M _
    refine zs_if_eqT (pc := 5) t331_5 li0 (by decide) ?_
    refine zs_iconst (pc := 45) t331_45 (v := -1) (by decide) ?_
    have w39 := ib336_5 hI
    have w40 : (zI M 336 5).toInt = (zI M 336 5).toInt := (congrArg Int32.toInt rfl).trans rfl
    have w41 := lin1
    exact zs_iret (pc := 46) t331_46 mr331 (by decide) (hQ _ _ hs hI (zFr.refl) pR pC pF (by omega))
theorem T332 {X : zX} {l : Launch} {M : zM} {Q : Option Value → zM → Prop} {a : Int32} (hs : zSk zMm M) (hI : zIv mLo mHi M) (pR : zPR M) (pC : zPC M) (pF : zPF M) (hQ : ∀ (M' : zM) (v : Int32), zSk zMm M' → zIv mLo mHi M' → zFr [(336, 338, none), (340, 363, none)] M M' → zPR M' → zPC M' → zPF M' → ((zI M' 336 5).toInt = (zI M 336 5).toInt) → Q (some (.int v)) M') : zCall X l 3 0 0 332 [.ref 336, .int a] M Q := by
  have ga := zrg a
  refine zs_in (by decide) mf332 (Nat.le_of_ble_eq_true rfl) ?_
  show zGo X l 3 0 0 332 0 [(0, .ref 336), (1, .int a)] [] M _
  refine zs_aload_n (pc := 0) t332_0 rfl ?_
  refine zs_iload_n (pc := 1) t332_1 rfl ?_
  refine zs_invV (pc := 2) (k := 336) (as' := [.int a]) (st := []) t332_2 mf308 rfl rfl (Or.inl ⟨by decide, (zk1 (hs.k fk_zMm_336))⟩) ⟨by decide, by decide, Nat.le_of_ble_eq_true rfl, Nat.le_of_ble_eq_true rfl⟩ (zs_in (by decide) mf308 (Nat.le_of_ble_eq_true rfl) ?_) (fun _ _ q => q)
  show zGo X l 1 0 0 308 0 [(0, .ref 336), (1, .int a)] [] M _
  refine zs_iload_n (pc := 0) t308_0 rfl ?_
  refine zs_i2l (pc := 1) t308_1 rfl ?_
  refine zs_lconst (pc := 2) t308_2 (v := 0) (by decide) ?_
  refine zs_aload_n (pc := 3) t308_3 rfl ?_
  refine zs_get (pc := 4) t308_4 (by decide) (zk1 (hs.k fk_zMm_336)) (hs.p rfl fv_zMm_336_0) ?_
  refine zs_iconst (pc := 7) t308_7 (v := 1) (by decide) ?_
  have w1 := ibA1 hI
  refine zs_iald (pc := 8) t308_8 (j := 1) (by decide) (zk1 (hs.k fk_zMm_337)) li1 (zk2 (hs.k fk_zMm_337) (by decide)) rfl ?_
  refine zs_iconst (pc := 9) t308_9 (v := 1) (by decide) ?_
  obtain ⟨w2v, w2e, w2⟩ := zisub (a := (zI M 337 1)) (b := (1 : Int32)) rfl li1 (by omega) (by omega)
  refine zs_isub (pc := 10) t308_10 (c := w2v) w2e ?_
  refine zs_i2l (pc := 11) t308_11 rfl ?_
  by_cases w3 : 0 ≤ a.toInt ∧ a.toInt ≤ ((zI M 337 1).toInt - 1)
  · refine zs_invS (pc := 12) (as := [.long a.toInt64, .long (0 : Int64), .long w2v.toInt64]) (st := []) t308_12 (by decide) mf228 rfl rfl ⟨by decide, by decide, Nat.le_of_ble_eq_true rfl, Nat.le_of_ble_eq_true rfl⟩ (K228T (zi2l rfl) ll0 (zi2l w2) (by omega) ?_) (fun _ _ q => q)
    show zGo X l 1 0 0 308 15 [(0, .ref 336), (1, .int a)] [.int (1 : Int32)] M _
    refine zs_iret (pc := 15) t308_15 mr308 (by decide) ?_
    show zGo X l 3 0 0 332 5 [(0, .ref 336), (1, .int a)] [.int (1 : Int32)] M _
    refine zs_if_eqF (pc := 5) t332_5 li1 (by decide) ?_
    refine zs_aload_n (pc := 8) t332_8 rfl ?_
    refine zs_iload_n (pc := 9) t332_9 rfl ?_
    refine zs_iconst (pc := 10) t332_10 (v := 2) (by decide) ?_
    refine zs_invV (pc := 11) (k := 336) (as' := [.int a, .int (2 : Int32)]) (st := []) t332_11 mf272 rfl rfl (Or.inl ⟨by decide, (zk1 (hs.k fk_zMm_336))⟩) ⟨by decide, by decide, Nat.le_of_ble_eq_true rfl, Nat.le_of_ble_eq_true rfl⟩ (zs_in (by decide) mf272 (Nat.le_of_ble_eq_true rfl) ?_) (fun _ _ q => q)
    show zGo X l 0 0 0 272 0 [(0, .ref 336), (1, .int a), (2, .int (2 : Int32))] [] M _
    refine zs_aload_n (pc := 0) t272_0 rfl ?_
    refine zs_get (pc := 1) t272_1 (by decide) (zk1 (hs.k fk_zMm_336)) (hs.p rfl fv_zMm_336_0) ?_
    refine zs_bipush (pc := 4) t272_4 (v := 30) (by decide) ?_
    refine zs_iconst (pc := 6) t272_6 (v := 4) (by decide) ?_
    refine zs_iload_n (pc := 7) t272_7 rfl ?_
    obtain ⟨w4v, w4⟩ : ∃ v, (4 : Int32) * a = v := ⟨_, rfl⟩
    have w4g : w4v.toInt = 4 * a.toInt := by rw [← w4]; exact zmulc li4 rfl (by omega) (by omega)
    refine zs_imul (pc := 8) t272_8 (c := w4v) w4 ?_
    obtain ⟨w5v, w5e, w5⟩ := ziadd (a := (30 : Int32)) (b := w4v) li30 w4g (by omega) (by omega)
    refine zs_iadd (pc := 9) t272_9 (c := w5v) w5e ?_
    refine zs_iload_n (pc := 10) t272_10 rfl ?_
    obtain ⟨w6v, w6e, w6⟩ := ziadd (a := w5v) (b := (2 : Int32)) w5 li2 (by omega) (by omega)
    refine zs_iadd (pc := 11) t272_11 (c := w6v) w6e ?_
    obtain ⟨w7n, w7⟩ : ∃ n : Nat, a.toInt = (n : Int) := ⟨(a.toInt).toNat, by omega⟩
    have w8 := zrg (zI M 337 (32 + 4 * w7n))
    refine zs_iald (pc := 12) t272_12 (j := (32 + 4 * w7n)) (by decide) (zk1 (hs.k fk_zMm_337)) (show w6v.toInt = (((32 + 4 * w7n) : Nat) : Int) by omega) (zk2 (hs.k fk_zMm_337) (by omega)) rfl ?_
    refine zs_iret (pc := 13) t272_13 mr272 rfl ?_
    show zGo X l 3 0 0 332 14 [(0, .ref 336), (1, .int a)] [.int (zI M 337 (32 + 4 * w7n))] M _
    refine zs_iconst (pc := 14) t332_14 (v := -1) (by decide) ?_
    by_cases w9 : (zI M 337 (32 + 4 * w7n)).toInt ≠ (-1)
    · refine zs_icmp_neT (pc := 15) t332_15 rfl lin1 (by omega) ?_
      refine zs_aload_n (pc := 20) t332_20 rfl ?_
      refine zs_iconst (pc := 21) t332_21 (v := 0) (by decide) ?_
      have w10 := ibA0 hI
      have w11 : (zI M 337 0).toInt = (zI M 337 0).toInt := (congrArg Int32.toInt rfl).trans rfl
      have w12 := ibA2 hI
      have w13 : (zI M 337 2).toInt = (zI M 337 2).toInt := (congrArg Int32.toInt rfl).trans rfl
      have w14 : (zI M 337 1).toInt = (zI M 337 1).toInt := (congrArg Int32.toInt rfl).trans rfl
      refine zs_invV (pc := 22) (k := 336) (as' := [.int (0 : Int32)]) (st := []) t332_22 mf230 rfl rfl (Or.inl ⟨by decide, (zk1 (hs.k fk_zMm_336))⟩) ⟨by decide, by decide, Nat.le_of_ble_eq_true rfl, Nat.le_of_ble_eq_true rfl⟩ (K230_0 hs hI pR pC ?_) (fun _ _ q => q)
      intro w15M w15s w15I w15F w15J w15PR w15PC w15PF w15t0 w15t1 w15t2
      have w16 := ibA0 w15I
      have w17 := ibA2 w15I
      have w18 := ibA1 w15I
      show zGo X l 3 0 0 332 25 [(0, .ref 336), (1, .int a)] [] w15M _
      refine zs_aload_n (pc := 25) t332_25 rfl ?_
      refine zs_get (pc := 26) t332_26 (by decide) (zk1 (w15s.k fk_zMm_336)) (w15s.p rfl fv_zMm_336_0) ?_
      refine zs_bipush (pc := 29) t332_29 (v := 30) (by decide) ?_
      refine zs_iconst (pc := 31) t332_31 (v := 4) (by decide) ?_
      refine zs_iload_n (pc := 32) t332_32 rfl ?_
      obtain ⟨w19v, w19⟩ : ∃ v, (4 : Int32) * a = v := ⟨_, rfl⟩
      have w19g : w19v.toInt = 4 * a.toInt := by rw [← w19]; exact zmulc li4 rfl (by omega) (by omega)
      refine zs_imul (pc := 33) t332_33 (c := w19v) w19 ?_
      obtain ⟨w20v, w20e, w20⟩ := ziadd (a := (30 : Int32)) (b := w19v) li30 w19g (by omega) (by omega)
      refine zs_iadd (pc := 34) t332_34 (c := w20v) w20e ?_
      refine zs_iconst (pc := 35) t332_35 (v := 2) (by decide) ?_
      obtain ⟨w21v, w21e, w21⟩ := ziadd (a := w20v) (b := (2 : Int32)) w20 li2 (by omega) (by omega)
      refine zs_iadd (pc := 36) t332_36 (c := w21v) w21e ?_
      refine zs_iconst (pc := 37) t332_37 (v := -1) (by decide) ?_
      have w22a := aN (p := (32 + 4 * w7n)) (by omega)
      have w22 : zIv mLo mHi (zsI w15M 337 (32 + 4 * w7n) (-1 : Int32)) := zIv.putA w15I (by omega) (by rw [w22a.1, w22a.2]; exact zrg (-1 : Int32))
      have w23 : (zI w15M 337 0).toInt = (zI w15M 337 0).toInt := (congrArg Int32.toInt rfl).trans rfl
      have w24 : (zI w15M 337 1).toInt = (zI w15M 337 1).toInt := (congrArg Int32.toInt rfl).trans rfl
      have w25 : zPR (zsI w15M 337 (32 + 4 * w7n) (-1 : Int32)) := zPR.put w15PR (by omega) (by omega) (by omega) (by omega)
      have w26 : zPC (zsI w15M 337 (32 + 4 * w7n) (-1 : Int32)) := zPC.put w15PC (by omega) (by omega)
      refine zs_iast (pc := 38) t332_38 (j := (32 + 4 * w7n)) (by decide) (zk1 (w15s.k fk_zMm_337)) (show w21v.toInt = (((32 + 4 * w7n) : Nat) : Int) by omega) (zk2 (w15s.k fk_zMm_337) (by omega)) ?_
      refine zs_aload_n (pc := 39) t332_39 rfl ?_
      refine zs_iconst (pc := 40) t332_40 (v := -1) (by decide) ?_
      refine zs_invV (pc := 41) (k := 336) (as' := [.int (-1 : Int32)]) (st := []) t332_41 mf290 rfl rfl (Or.inl ⟨by decide, (zk1 (w15s.k fk_zMm_336))⟩) ⟨by decide, by decide, Nat.le_of_ble_eq_true rfl, Nat.le_of_ble_eq_true rfl⟩ (K290 w15s w22 ?_) (fun _ _ q => q)
      intro w27v
      have w27g := zrg w27v
      show zGo X l 3 0 0 332 44 [(0, .ref 336), (1, .int a)] [.int w27v] (zsI w15M 337 (32 + 4 * w7n) (-1 : Int32)) _
      have w28 := ib336_5 hI
      have w29 : (zI (zsI w15M 337 (32 + 4 * w7n) (-1 : Int32)) 336 5).toInt = (zI M 336 5).toInt := (congrArg Int32.toInt ((zIo (by decide)).trans ((w15F 336 5 rfl).trans rfl))).trans rfl
      exact zs_iret (pc := 44) t332_44 mr332 rfl (hQ _ _ w15s w22 (((zFr.refl).trans (w15F.mono rfl)).put rfl) w25 w26 (zPF.fr (M' := (zsI w15M 337 (32 + 4 * w7n) (-1 : Int32))) w15PF (zEq.put rfl) rfl) (by omega))
    · refine zs_icmp_neF (pc := 15) t332_15 rfl lin1 (by omega) ?_
      refine zs_iconst (pc := 18) t332_18 (v := -1) (by decide) ?_
      have w30 := ib336_5 hI
      have w31 : (zI M 336 5).toInt = (zI M 336 5).toInt := (congrArg Int32.toInt rfl).trans rfl
      have w32 := lin1
      exact zs_iret (pc := 19) t332_19 mr332 (by decide) (hQ _ _ hs hI (zFr.refl) pR pC pF (by omega))
  · refine zs_invS (pc := 12) (as := [.long a.toInt64, .long (0 : Int64), .long w2v.toInt64]) (st := []) t308_12 (by decide) mf228 rfl rfl ⟨by decide, by decide, Nat.le_of_ble_eq_true rfl, Nat.le_of_ble_eq_true rfl⟩ (K228F (zi2l rfl) ll0 (zi2l w2) (by omega) ?_) (fun _ _ q => q)
    show zGo X l 1 0 0 308 15 [(0, .ref 336), (1, .int a)] [.int (0 : Int32)] M _
    refine zs_iret (pc := 15) t308_15 mr308 (by decide) ?_
    show zGo X l 3 0 0 332 5 [(0, .ref 336), (1, .int a)] [.int (0 : Int32)] M _
    refine zs_if_eqT (pc := 5) t332_5 li0 (by decide) ?_
    refine zs_iconst (pc := 18) t332_18 (v := -1) (by decide) ?_
    have w33 := ib336_5 hI
    have w34 : (zI M 336 5).toInt = (zI M 336 5).toInt := (congrArg Int32.toInt rfl).trans rfl
    have w35 := lin1
    exact zs_iret (pc := 19) t332_19 mr332 (by decide) (hQ _ _ hs hI (zFr.refl) pR pC pF (by omega))
theorem T333 {X : zX} {l : Launch} {M : zM} {Q : Option Value → zM → Prop} {a : Int32} (hs : zSk zMm M) (hI : zIv mLo mHi M) (pR : zPR M) (pC : zPC M) (pF : zPF M) (hQ : ∀ (M' : zM) (v : Int32), zSk zMm M' → zIv mLo mHi M' → zFr [(336, 338, none), (340, 363, none)] M M' → zPR M' → zPC M' → zPF M' → ((zI M' 336 5).toInt = (zI M 336 5).toInt) → Q (some (.int v)) M') : zCall X l 2 0 0 333 [.ref 336, .int a] M Q := by
  have ga := zrg a
  refine zs_in (by decide) mf333 (Nat.le_of_ble_eq_true rfl) ?_
  show zGo X l 2 0 0 333 0 [(0, .ref 336), (1, .int a)] [] M _
  refine zs_aload_n (pc := 0) t333_0 rfl ?_
  refine zs_iload_n (pc := 1) t333_1 rfl ?_
  refine zs_invV (pc := 2) (k := 336) (as' := [.int a]) (st := []) t333_2 mf306 rfl rfl (Or.inl ⟨by decide, (zk1 (hs.k fk_zMm_336))⟩) ⟨by decide, by decide, Nat.le_of_ble_eq_true rfl, Nat.le_of_ble_eq_true rfl⟩ (zs_in (by decide) mf306 (Nat.le_of_ble_eq_true rfl) ?_) (fun _ _ q => q)
  show zGo X l 1 0 0 306 0 [(0, .ref 336), (1, .int a)] [] M _
  refine zs_iload_n (pc := 0) t306_0 rfl ?_
  refine zs_i2l (pc := 1) t306_1 rfl ?_
  refine zs_lconst (pc := 2) t306_2 (v := 0) (by decide) ?_
  refine zs_aload_n (pc := 3) t306_3 rfl ?_
  refine zs_get (pc := 4) t306_4 (by decide) (zk1 (hs.k fk_zMm_336)) (hs.p rfl fv_zMm_336_0) ?_
  refine zs_iconst (pc := 7) t306_7 (v := 0) (by decide) ?_
  have w1 := ibA0 hI
  refine zs_iald (pc := 8) t306_8 (j := 0) (by decide) (zk1 (hs.k fk_zMm_337)) li0 (zk2 (hs.k fk_zMm_337) (by decide)) rfl ?_
  refine zs_iconst (pc := 9) t306_9 (v := 1) (by decide) ?_
  obtain ⟨w2v, w2e, w2⟩ := zisub (a := (zI M 337 0)) (b := (1 : Int32)) rfl li1 (by omega) (by omega)
  refine zs_isub (pc := 10) t306_10 (c := w2v) w2e ?_
  refine zs_i2l (pc := 11) t306_11 rfl ?_
  by_cases w3 : 0 ≤ a.toInt ∧ a.toInt ≤ ((zI M 337 0).toInt - 1)
  · refine zs_invS (pc := 12) (as := [.long a.toInt64, .long (0 : Int64), .long w2v.toInt64]) (st := []) t306_12 (by decide) mf228 rfl rfl ⟨by decide, by decide, Nat.le_of_ble_eq_true rfl, Nat.le_of_ble_eq_true rfl⟩ (K228T (zi2l rfl) ll0 (zi2l w2) (by omega) ?_) (fun _ _ q => q)
    show zGo X l 1 0 0 306 15 [(0, .ref 336), (1, .int a)] [.int (1 : Int32)] M _
    refine zs_iret (pc := 15) t306_15 mr306 (by decide) ?_
    show zGo X l 2 0 0 333 5 [(0, .ref 336), (1, .int a)] [.int (1 : Int32)] M _
    refine zs_if_neT (pc := 5) t333_5 li1 (by decide) ?_
    refine zs_aload_n (pc := 10) t333_10 rfl ?_
    refine zs_iconst (pc := 11) t333_11 (v := 0) (by decide) ?_
    have w4 : (zI M 337 0).toInt = (zI M 337 0).toInt := (congrArg Int32.toInt rfl).trans rfl
    have w5 := ibA2 hI
    have w6 : (zI M 337 2).toInt = (zI M 337 2).toInt := (congrArg Int32.toInt rfl).trans rfl
    have w7 := ibA1 hI
    have w8 : (zI M 337 1).toInt = (zI M 337 1).toInt := (congrArg Int32.toInt rfl).trans rfl
    refine zs_invV (pc := 12) (k := 336) (as' := [.int (0 : Int32)]) (st := []) t333_12 mf230 rfl rfl (Or.inl ⟨by decide, (zk1 (hs.k fk_zMm_336))⟩) ⟨by decide, by decide, Nat.le_of_ble_eq_true rfl, Nat.le_of_ble_eq_true rfl⟩ (K230_0 hs hI pR pC ?_) (fun _ _ q => q)
    intro w9M w9s w9I w9F w9J w9PR w9PC w9PF w9t0 w9t1 w9t2
    have w10 := ibA0 w9I
    have w11 := ibA2 w9I
    have w12 := ibA1 w9I
    show zGo X l 2 0 0 333 15 [(0, .ref 336), (1, .int a)] [] w9M _
    refine zs_aload_n (pc := 15) t333_15 rfl ?_
    refine zs_get (pc := 16) t333_16 (by decide) (zk1 (w9s.k fk_zMm_336)) (w9s.p rfl fv_zMm_336_0) ?_
    refine zs_bipush (pc := 19) t333_19 (v := 14) (by decide) ?_
    refine zs_iconst (pc := 21) t333_21 (v := 2) (by decide) ?_
    refine zs_iload_n (pc := 22) t333_22 rfl ?_
    obtain ⟨w13v, w13⟩ : ∃ v, (2 : Int32) * a = v := ⟨_, rfl⟩
    have w13g : w13v.toInt = 2 * a.toInt := by rw [← w13]; exact zmulc li2 rfl (by omega) (by omega)
    refine zs_imul (pc := 23) t333_23 (c := w13v) w13 ?_
    obtain ⟨w14v, w14e, w14⟩ := ziadd (a := (14 : Int32)) (b := w13v) li14 w13g (by omega) (by omega)
    refine zs_iadd (pc := 24) t333_24 (c := w14v) w14e ?_
    refine zs_iconst (pc := 25) t333_25 (v := 1) (by decide) ?_
    obtain ⟨w15v, w15e, w15⟩ := ziadd (a := w14v) (b := (1 : Int32)) w14 li1 (by omega) (by omega)
    refine zs_iadd (pc := 26) t333_26 (c := w15v) w15e ?_
    refine zs_dup2 (pc := 27) t333_27 ⟨rfl, rfl⟩ ?_
    obtain ⟨w16n, w16⟩ : ∃ n : Nat, a.toInt = (n : Int) := ⟨(a.toInt).toNat, by omega⟩
    have w17 := zrg (zI w9M 337 (15 + 2 * w16n))
    refine zs_iald (pc := 28) t333_28 (j := (15 + 2 * w16n)) (by decide) (zk1 (w9s.k fk_zMm_337)) (show w15v.toInt = (((15 + 2 * w16n) : Nat) : Int) by omega) (zk2 (w9s.k fk_zMm_337) (by omega)) rfl ?_
    refine zs_iconst (pc := 29) t333_29 (v := 1) (by decide) ?_
    obtain ⟨w18v, w18⟩ : ∃ v, (zI w9M 337 (15 + 2 * w16n)) ^^^ (1 : Int32) = v := ⟨_, rfl⟩
    have w18g := zrg w18v
    refine zs_ixor (pc := 30) t333_30 (c := w18v) w18 ?_
    have w19a := aN (p := (15 + 2 * w16n)) (by omega)
    have w19 : zIv mLo mHi (zsI w9M 337 (15 + 2 * w16n) w18v) := zIv.putA w9I (by omega) (by rw [w19a.1, w19a.2]; exact zrg w18v)
    have w20 : (zI w9M 337 0).toInt = (zI w9M 337 0).toInt := (congrArg Int32.toInt rfl).trans rfl
    have w21 : (zI w9M 337 1).toInt = (zI w9M 337 1).toInt := (congrArg Int32.toInt rfl).trans rfl
    have w22 : zPR (zsI w9M 337 (15 + 2 * w16n) w18v) := zPR.put w9PR (by omega) (by omega) (by omega) (by omega)
    have w23 : zPC (zsI w9M 337 (15 + 2 * w16n) w18v) := zPC.put w9PC (by omega) (by omega)
    refine zs_iast (pc := 31) t333_31 (j := (15 + 2 * w16n)) (by decide) (zk1 (w9s.k fk_zMm_337)) (show w15v.toInt = (((15 + 2 * w16n) : Nat) : Int) by omega) (zk2 (w9s.k fk_zMm_337) (by omega)) ?_
    refine zs_aload_n (pc := 32) t333_32 rfl ?_
    refine zs_get (pc := 33) t333_33 (by decide) (zk1 (w9s.k fk_zMm_336)) (w9s.p rfl fv_zMm_336_0) ?_
    refine zs_bipush (pc := 36) t333_36 (v := 14) (by decide) ?_
    refine zs_iconst (pc := 38) t333_38 (v := 2) (by decide) ?_
    refine zs_iload_n (pc := 39) t333_39 rfl ?_
    obtain ⟨w24v, w24⟩ : ∃ v, (2 : Int32) * a = v := ⟨_, rfl⟩
    have w24g : w24v.toInt = 2 * a.toInt := by rw [← w24]; exact zmulc li2 rfl (by omega) (by omega)
    refine zs_imul (pc := 40) t333_40 (c := w24v) w24 ?_
    obtain ⟨w25v, w25e, w25⟩ := ziadd (a := (14 : Int32)) (b := w24v) li14 w24g (by omega) (by omega)
    refine zs_iadd (pc := 41) t333_41 (c := w25v) w25e ?_
    refine zs_iconst (pc := 42) t333_42 (v := 1) (by decide) ?_
    obtain ⟨w26v, w26e, w26⟩ := ziadd (a := w25v) (b := (1 : Int32)) w25 li1 (by omega) (by omega)
    refine zs_iadd (pc := 43) t333_43 (c := w26v) w26e ?_
    refine zs_iald (pc := 44) t333_44 (j := (15 + 2 * w16n)) (by decide) (zk1 (w9s.k fk_zMm_337)) (show w26v.toInt = (((15 + 2 * w16n) : Nat) : Int) by omega) (zk2 (w9s.k fk_zMm_337) (by omega)) zIs ?_
    have w27 := ib336_5 hI
    have w28 : (zI (zsI w9M 337 (15 + 2 * w16n) w18v) 336 5).toInt = (zI M 336 5).toInt := (congrArg Int32.toInt ((zIo (by decide)).trans ((w9F 336 5 rfl).trans rfl))).trans rfl
    exact zs_iret (pc := 45) t333_45 mr333 rfl (hQ _ _ w9s w19 (((zFr.refl).trans (w9F.mono rfl)).put rfl) w22 w23 (zPF.fr (M' := (zsI w9M 337 (15 + 2 * w16n) w18v)) w9PF (zEq.put rfl) rfl) (by omega))
  · refine zs_invS (pc := 12) (as := [.long a.toInt64, .long (0 : Int64), .long w2v.toInt64]) (st := []) t306_12 (by decide) mf228 rfl rfl ⟨by decide, by decide, Nat.le_of_ble_eq_true rfl, Nat.le_of_ble_eq_true rfl⟩ (K228F (zi2l rfl) ll0 (zi2l w2) (by omega) ?_) (fun _ _ q => q)
    show zGo X l 1 0 0 306 15 [(0, .ref 336), (1, .int a)] [.int (0 : Int32)] M _
    refine zs_iret (pc := 15) t306_15 mr306 (by decide) ?_
    show zGo X l 2 0 0 333 5 [(0, .ref 336), (1, .int a)] [.int (0 : Int32)] M _
    refine zs_if_neF (pc := 5) t333_5 li0 (by decide) ?_
    refine zs_iconst (pc := 8) t333_8 (v := -1) (by decide) ?_
    have w29 := ib336_5 hI
    have w30 : (zI M 336 5).toInt = (zI M 336 5).toInt := (congrArg Int32.toInt rfl).trans rfl
    have w31 := lin1
    exact zs_iret (pc := 9) t333_9 mr333 (by decide) (hQ _ _ hs hI (zFr.refl) pR pC pF (by omega))
theorem T334 {X : zX} {l : Launch} {M : zM} {Q : Option Value → zM → Prop} {a : Int32} (hs : zSk zMm M) (hI : zIv mLo mHi M) (pR : zPR M) (pC : zPC M) (pF : zPF M) (hQ : ∀ (M' : zM) (v : Int32), zSk zMm M' → zIv mLo mHi M' → zFr [(336, 338, none), (340, 363, none)] M M' → zPR M' → zPC M' → zPF M' → ((zI M' 336 5).toInt = (zI M 336 5).toInt) → Q (some (.int v)) M') : zCall X l 2 0 0 334 [.ref 336, .int a] M Q := by
  have ga := zrg a
  refine zs_in (by decide) mf334 (Nat.le_of_ble_eq_true rfl) ?_
  show zGo X l 2 0 0 334 0 [(0, .ref 336), (1, .int a)] [] M _
  refine zs_iload_n (pc := 0) t334_0 rfl ?_
  refine zs_i2l (pc := 1) t334_1 rfl ?_
  refine zs_ldc2_w (pc := 2) t334_2 (v := 2) (by decide) ?_
  refine zs_ldc2_w (pc := 5) t334_5 (v := 8) (by decide) ?_
  by_cases w1 : 2 ≤ a.toInt ∧ a.toInt ≤ 8
  · refine zs_invS (pc := 8) (as := [.long a.toInt64, .long (2 : Int64), .long (8 : Int64)]) (st := []) t334_8 (by decide) mf228 rfl rfl ⟨by decide, by decide, Nat.le_of_ble_eq_true rfl, Nat.le_of_ble_eq_true rfl⟩ (K228T (zi2l rfl) ll2 ll8 (by omega) ?_) (fun _ _ q => q)
    show zGo X l 2 0 0 334 11 [(0, .ref 336), (1, .int a)] [.int (1 : Int32)] M _
    refine zs_if_neT (pc := 11) t334_11 li1 (by decide) ?_
    refine zs_aload_n (pc := 16) t334_16 rfl ?_
    refine zs_iconst (pc := 17) t334_17 (v := 0) (by decide) ?_
    have w2 := ibA0 hI
    have w3 : (zI M 337 0).toInt = (zI M 337 0).toInt := (congrArg Int32.toInt rfl).trans rfl
    have w4 := ibA2 hI
    have w5 : (zI M 337 2).toInt = (zI M 337 2).toInt := (congrArg Int32.toInt rfl).trans rfl
    have w6 := ibA1 hI
    have w7 : (zI M 337 1).toInt = (zI M 337 1).toInt := (congrArg Int32.toInt rfl).trans rfl
    refine zs_invV (pc := 18) (k := 336) (as' := [.int (0 : Int32)]) (st := []) t334_18 mf230 rfl rfl (Or.inl ⟨by decide, (zk1 (hs.k fk_zMm_336))⟩) ⟨by decide, by decide, Nat.le_of_ble_eq_true rfl, Nat.le_of_ble_eq_true rfl⟩ (K230_0 hs hI pR pC ?_) (fun _ _ q => q)
    intro w8M w8s w8I w8F w8J w8PR w8PC w8PF w8t0 w8t1 w8t2
    have w9 := ibA0 w8I
    have w10 := ibA2 w8I
    have w11 := ibA1 w8I
    show zGo X l 2 0 0 334 21 [(0, .ref 336), (1, .int a)] [] w8M _
    refine zs_aload_n (pc := 21) t334_21 rfl ?_
    refine zs_get (pc := 22) t334_22 (by decide) (zk1 (w8s.k fk_zMm_336)) (w8s.p rfl fv_zMm_336_0) ?_
    refine zs_bipush (pc := 25) t334_25 (v := 8) (by decide) ?_
    have w12 := ibA8 w8I
    refine zs_iald (pc := 27) t334_27 (j := 8) (by decide) (zk1 (w8s.k fk_zMm_337)) li8 (zk2 (w8s.k fk_zMm_337) (by decide)) rfl ?_
    refine zs_istore_n (pc := 28) t334_28 (ls' := [(2, .int (zI w8M 337 8)), (0, .ref 336), (1, .int a)]) (zml mf334 (by decide)) rfl ?_
    refine zs_aload_n (pc := 29) t334_29 rfl ?_
    refine zs_get (pc := 30) t334_30 (by decide) (zk1 (w8s.k fk_zMm_336)) (w8s.p rfl fv_zMm_336_0) ?_
    refine zs_bipush (pc := 33) t334_33 (v := 8) (by decide) ?_
    refine zs_iload_n (pc := 35) t334_35 rfl ?_
    have w13 : zIv mLo mHi (zsI w8M 337 8 a) := zIv.putA w8I (by decide) (show 2 ≤ a.toInt ∧ a.toInt ≤ 8 from ⟨by omega, by omega⟩)
    have w14 : (zI w8M 337 0).toInt = (zI w8M 337 0).toInt := (congrArg Int32.toInt rfl).trans rfl
    have w15 : (zI w8M 337 1).toInt = (zI w8M 337 1).toInt := (congrArg Int32.toInt rfl).trans rfl
    have w16 : zPR (zsI w8M 337 8 a) := zPR.put w8PR (by omega) (by omega) (by omega) (by omega)
    have w17 : zPC (zsI w8M 337 8 a) := zPC.put w8PC (by decide) (by decide)
    refine zs_iast (pc := 36) t334_36 (j := 8) (by decide) (zk1 (w8s.k fk_zMm_337)) li8 (zk2 (w8s.k fk_zMm_337) (by decide)) ?_
    refine zs_iload_n (pc := 37) t334_37 rfl ?_
    have w18 := ib336_5 hI
    have w19 : (zI (zsI w8M 337 8 a) 336 5).toInt = (zI M 336 5).toInt := (congrArg Int32.toInt ((zIo (by decide)).trans ((w8F 336 5 rfl).trans rfl))).trans rfl
    exact zs_iret (pc := 38) t334_38 mr334 rfl (hQ _ _ w8s w13 (((zFr.refl).trans (w8F.mono rfl)).put rfl) w16 w17 (zPF.fr (M' := (zsI w8M 337 8 a)) w8PF (zEq.put rfl) rfl) (by omega))
  · refine zs_invS (pc := 8) (as := [.long a.toInt64, .long (2 : Int64), .long (8 : Int64)]) (st := []) t334_8 (by decide) mf228 rfl rfl ⟨by decide, by decide, Nat.le_of_ble_eq_true rfl, Nat.le_of_ble_eq_true rfl⟩ (K228F (zi2l rfl) ll2 ll8 (by omega) ?_) (fun _ _ q => q)
    show zGo X l 2 0 0 334 11 [(0, .ref 336), (1, .int a)] [.int (0 : Int32)] M _
    refine zs_if_neF (pc := 11) t334_11 li0 (by decide) ?_
    refine zs_iconst (pc := 14) t334_14 (v := -1) (by decide) ?_
    have w20 := ib336_5 hI
    have w21 : (zI M 336 5).toInt = (zI M 336 5).toInt := (congrArg Int32.toInt rfl).trans rfl
    have w22 := lin1
    exact zs_iret (pc := 15) t334_15 mr334 (by decide) (hQ _ _ hs hI (zFr.refl) pR pC pF (by omega))
theorem T344 {X : zX} {l : Launch} {M : zM} {Q : Option Value → zM → Prop} {a : Int32} (hs : zSk zMm M) (hI : zIv mLo mHi M) (pR : zPR M) (pC : zPC M) (pF : zPF M) (ha : 0 ≤ a.toInt ∧ a.toInt ≤ 76) (hQ : ∀ (M' : zM) (v : Int32), zSk zMm M' → zIv mLo mHi M' → zFr [(336, 338, none), (340, 363, none)] M M' → zPR M' → zPC M' → zPF M' → ((zI M' 336 5).toInt = (zI M 336 5).toInt) → Q (some (.int v)) M') : zCall X l 4 0 0 344 [.ref 336, .int a] M Q := by
  have ga := zrg a
  refine zs_in (by decide) mf344 (Nat.le_of_ble_eq_true rfl) ?_
  show zGo X l 4 0 0 344 0 [(0, .ref 336), (1, .int a)] [] M _
  refine zs_aload_n (pc := 0) t344_0 rfl ?_
  refine zs_get (pc := 1) t344_1 (by decide) (zk1 (hs.k fk_zMm_336)) (hs.p rfl fv_zMm_336_46) ?_
  refine zs_iload_n (pc := 4) t344_4 rfl ?_
  obtain ⟨w1n, w1⟩ : ∃ n : Nat, a.toInt = (n : Int) := ⟨(a.toInt).toNat, by omega⟩
  have w2 := zrg (zI M 362 w1n)
  refine zs_iald (pc := 5) t344_5 (j := w1n) (by decide) (zk1 (hs.k fk_zMm_362)) (show a.toInt = ((w1n : Nat) : Int) by omega) (zk2 (hs.k fk_zMm_362) (by omega)) rfl ?_
  by_cases w3 : (zI M 362 w1n).toInt = 100
  · refine zs_lsw (pc := 6) t344_6 (off := 76) ((rfl : (zI M 362 w1n).toInt = (zI M 362 w1n).toInt).trans w3) rfl (pc2 := 82) rfl ?_
    refine zs_aload_n (pc := 82) t344_82 rfl ?_
    refine zs_aload_n (pc := 83) t344_83 rfl ?_
    refine zs_get (pc := 84) t344_84 (by decide) (zk1 (hs.k fk_zMm_336)) (hs.p rfl fv_zMm_336_46) ?_
    refine zs_iload_n (pc := 87) t344_87 rfl ?_
    refine zs_iconst (pc := 88) t344_88 (v := 1) (by decide) ?_
    obtain ⟨w4v, w4e, w4⟩ := ziadd (a := a) (b := (1 : Int32)) rfl li1 (by omega) (by omega)
    refine zs_iadd (pc := 89) t344_89 (c := w4v) w4e ?_
    have w5 := zrg (zI M 362 (1 + w1n))
    refine zs_iald (pc := 90) t344_90 (j := (1 + w1n)) (by decide) (zk1 (hs.k fk_zMm_362)) (show w4v.toInt = (((1 + w1n) : Nat) : Int) by omega) (zk2 (hs.k fk_zMm_362) (by omega)) rfl ?_
    have w6 := ib336_5 hI
    have w7 : (zI M 336 5).toInt = (zI M 336 5).toInt := (congrArg Int32.toInt rfl).trans rfl
    refine zs_invV (pc := 91) (k := 336) (as' := [.int (zI M 362 (1 + w1n))]) (st := []) t344_91 mf333 rfl rfl (Or.inl ⟨by decide, (zk1 (hs.k fk_zMm_336))⟩) ⟨by decide, by decide, Nat.le_of_ble_eq_true rfl, Nat.le_of_ble_eq_true rfl⟩ (T333 hs hI pR pC pF ?_) (fun _ _ q => q)
    intro w8M w8v w8s w8I w8F w8PR w8PC w8PF w8t0
    have w8g := zrg w8v
    have w9 := ib336_5 w8I
    show zGo X l 4 0 0 344 94 [(0, .ref 336), (1, .int a)] [.int w8v] w8M _
    have w10 : (zI w8M 336 5).toInt = (zI w8M 336 5).toInt := (congrArg Int32.toInt rfl).trans rfl
    exact zs_iret (pc := 94) t344_94 mr344 rfl (hQ _ _ w8s w8I ((zFr.refl).trans (w8F.mono rfl)) w8PR w8PC w8PF (by omega))
  by_cases w11 : (zI M 362 w1n).toInt = 104
  · refine zs_lsw (pc := 6) t344_6 (off := 34) ((rfl : (zI M 362 w1n).toInt = (zI M 362 w1n).toInt).trans w11) rfl (pc2 := 40) rfl ?_
    refine zs_aload_n (pc := 40) t344_40 rfl ?_
    refine zs_aload_n (pc := 41) t344_41 rfl ?_
    refine zs_get (pc := 42) t344_42 (by decide) (zk1 (hs.k fk_zMm_336)) (hs.p rfl fv_zMm_336_46) ?_
    refine zs_iload_n (pc := 45) t344_45 rfl ?_
    refine zs_iconst (pc := 46) t344_46 (v := 1) (by decide) ?_
    obtain ⟨w12v, w12e, w12⟩ := ziadd (a := a) (b := (1 : Int32)) rfl li1 (by omega) (by omega)
    refine zs_iadd (pc := 47) t344_47 (c := w12v) w12e ?_
    have w13 := zrg (zI M 362 (1 + w1n))
    refine zs_iald (pc := 48) t344_48 (j := (1 + w1n)) (by decide) (zk1 (hs.k fk_zMm_362)) (show w12v.toInt = (((1 + w1n) : Nat) : Int) by omega) (zk2 (hs.k fk_zMm_362) (by omega)) rfl ?_
    refine zs_aload_n (pc := 49) t344_49 rfl ?_
    refine zs_get (pc := 50) t344_50 (by decide) (zk1 (hs.k fk_zMm_336)) (hs.p rfl fv_zMm_336_46) ?_
    refine zs_iload_n (pc := 53) t344_53 rfl ?_
    refine zs_iconst (pc := 54) t344_54 (v := 2) (by decide) ?_
    obtain ⟨w14v, w14e, w14⟩ := ziadd (a := a) (b := (2 : Int32)) rfl li2 (by omega) (by omega)
    refine zs_iadd (pc := 55) t344_55 (c := w14v) w14e ?_
    have w15 := zrg (zI M 362 (2 + w1n))
    refine zs_iald (pc := 56) t344_56 (j := (2 + w1n)) (by decide) (zk1 (hs.k fk_zMm_362)) (show w14v.toInt = (((2 + w1n) : Nat) : Int) by omega) (zk2 (hs.k fk_zMm_362) (by omega)) rfl ?_
    refine zs_aload_n (pc := 57) t344_57 rfl ?_
    refine zs_get (pc := 58) t344_58 (by decide) (zk1 (hs.k fk_zMm_336)) (hs.p rfl fv_zMm_336_46) ?_
    refine zs_iload_n (pc := 61) t344_61 rfl ?_
    refine zs_iconst (pc := 62) t344_62 (v := 3) (by decide) ?_
    obtain ⟨w16v, w16e, w16⟩ := ziadd (a := a) (b := (3 : Int32)) rfl li3 (by omega) (by omega)
    refine zs_iadd (pc := 63) t344_63 (c := w16v) w16e ?_
    have w17 := zrg (zI M 362 (3 + w1n))
    refine zs_iald (pc := 64) t344_64 (j := (3 + w1n)) (by decide) (zk1 (hs.k fk_zMm_362)) (show w16v.toInt = (((3 + w1n) : Nat) : Int) by omega) (zk2 (hs.k fk_zMm_362) (by omega)) rfl ?_
    have w18 := ib336_5 hI
    have w19 : (zI M 336 5).toInt = (zI M 336 5).toInt := (congrArg Int32.toInt rfl).trans rfl
    refine zs_invV (pc := 65) (k := 336) (as' := [.int (zI M 362 (1 + w1n)), .int (zI M 362 (2 + w1n)), .int (zI M 362 (3 + w1n))]) (st := []) t344_65 mf331 rfl rfl (Or.inl ⟨by decide, (zk1 (hs.k fk_zMm_336))⟩) ⟨by decide, by decide, Nat.le_of_ble_eq_true rfl, Nat.le_of_ble_eq_true rfl⟩ (T331 hs hI pR pC pF ?_) (fun _ _ q => q)
    intro w20M w20v w20s w20I w20F w20PR w20PC w20PF w20t0
    have w20g := zrg w20v
    have w21 := ib336_5 w20I
    show zGo X l 4 0 0 344 68 [(0, .ref 336), (1, .int a)] [.int w20v] w20M _
    have w22 : (zI w20M 336 5).toInt = (zI w20M 336 5).toInt := (congrArg Int32.toInt rfl).trans rfl
    exact zs_iret (pc := 68) t344_68 mr344 rfl (hQ _ _ w20s w20I ((zFr.refl).trans (w20F.mono rfl)) w20PR w20PC w20PF (by omega))
  by_cases w23 : (zI M 362 w1n).toInt = 120
  · refine zs_lsw (pc := 6) t344_6 (off := 63) ((rfl : (zI M 362 w1n).toInt = (zI M 362 w1n).toInt).trans w23) rfl (pc2 := 69) rfl ?_
    refine zs_aload_n (pc := 69) t344_69 rfl ?_
    refine zs_aload_n (pc := 70) t344_70 rfl ?_
    refine zs_get (pc := 71) t344_71 (by decide) (zk1 (hs.k fk_zMm_336)) (hs.p rfl fv_zMm_336_46) ?_
    refine zs_iload_n (pc := 74) t344_74 rfl ?_
    refine zs_iconst (pc := 75) t344_75 (v := 1) (by decide) ?_
    obtain ⟨w24v, w24e, w24⟩ := ziadd (a := a) (b := (1 : Int32)) rfl li1 (by omega) (by omega)
    refine zs_iadd (pc := 76) t344_76 (c := w24v) w24e ?_
    have w25 := zrg (zI M 362 (1 + w1n))
    refine zs_iald (pc := 77) t344_77 (j := (1 + w1n)) (by decide) (zk1 (hs.k fk_zMm_362)) (show w24v.toInt = (((1 + w1n) : Nat) : Int) by omega) (zk2 (hs.k fk_zMm_362) (by omega)) rfl ?_
    have w26 := ib336_5 hI
    have w27 : (zI M 336 5).toInt = (zI M 336 5).toInt := (congrArg Int32.toInt rfl).trans rfl
    refine zs_invV (pc := 78) (k := 336) (as' := [.int (zI M 362 (1 + w1n))]) (st := []) t344_78 mf332 rfl rfl (Or.inl ⟨by decide, (zk1 (hs.k fk_zMm_336))⟩) ⟨by decide, by decide, Nat.le_of_ble_eq_true rfl, Nat.le_of_ble_eq_true rfl⟩ (T332 hs hI pR pC pF ?_) (fun _ _ q => q)
    intro w28M w28v w28s w28I w28F w28PR w28PC w28PF w28t0
    have w28g := zrg w28v
    have w29 := ib336_5 w28I
    show zGo X l 4 0 0 344 81 [(0, .ref 336), (1, .int a)] [.int w28v] w28M _
    have w30 : (zI w28M 336 5).toInt = (zI w28M 336 5).toInt := (congrArg Int32.toInt rfl).trans rfl
    exact zs_iret (pc := 81) t344_81 mr344 rfl (hQ _ _ w28s w28I ((zFr.refl).trans (w28F.mono rfl)) w28PR w28PC w28PF (by omega))
  refine zs_lsw (pc := 6) t344_6 (off := 89) rfl (by unfold zlsel; repeat (first | rfl | (rw [if_neg (by omega)]; unfold zlsel))) (pc2 := 95) rfl ?_
  refine zs_aload_n (pc := 95) t344_95 rfl ?_
  refine zs_aload_n (pc := 96) t344_96 rfl ?_
  refine zs_get (pc := 97) t344_97 (by decide) (zk1 (hs.k fk_zMm_336)) (hs.p rfl fv_zMm_336_46) ?_
  refine zs_iload_n (pc := 100) t344_100 rfl ?_
  refine zs_iconst (pc := 101) t344_101 (v := 1) (by decide) ?_
  obtain ⟨w31v, w31e, w31⟩ := ziadd (a := a) (b := (1 : Int32)) rfl li1 (by omega) (by omega)
  refine zs_iadd (pc := 102) t344_102 (c := w31v) w31e ?_
  have w32 := zrg (zI M 362 (1 + w1n))
  refine zs_iald (pc := 103) t344_103 (j := (1 + w1n)) (by decide) (zk1 (hs.k fk_zMm_362)) (show w31v.toInt = (((1 + w1n) : Nat) : Int) by omega) (zk2 (hs.k fk_zMm_362) (by omega)) rfl ?_
  have w33 := ib336_5 hI
  have w34 : (zI M 336 5).toInt = (zI M 336 5).toInt := (congrArg Int32.toInt rfl).trans rfl
  refine zs_invV (pc := 104) (k := 336) (as' := [.int (zI M 362 (1 + w1n))]) (st := []) t344_104 mf334 rfl rfl (Or.inl ⟨by decide, (zk1 (hs.k fk_zMm_336))⟩) ⟨by decide, by decide, Nat.le_of_ble_eq_true rfl, Nat.le_of_ble_eq_true rfl⟩ (T334 hs hI pR pC pF ?_) (fun _ _ q => q)
  intro w35M w35v w35s w35I w35F w35PR w35PC w35PF w35t0
  have w35g := zrg w35v
  have w36 := ib336_5 w35I
  show zGo X l 4 0 0 344 107 [(0, .ref 336), (1, .int a)] [.int w35v] w35M _
  have w37 : (zI w35M 336 5).toInt = (zI w35M 336 5).toInt := (congrArg Int32.toInt rfl).trans rfl
  exact zs_iret (pc := 107) t344_107 mr344 rfl (hQ _ _ w35s w35I ((zFr.refl).trans (w35F.mono rfl)) w35PR w35PC w35PF (by omega))
theorem T342 {X : zX} {l : Launch} {M : zM} {Q : Option Value → zM → Prop} (hs : zSk zMm M) (hI : zIv mLo mHi M) (pR : zPR M) (pC : zPC M) (pF : zPF M) (hQ : ∀ (M' : zM) (v : Int32), zSk zMm M' → zIv mLo mHi M' → zFr [(336, 338, none), (340, 363, none)] M M' → zPR M' → zPC M' → zPF M' → ((zI M' 336 5).toInt = 0) → Q (some (.int v)) M') : zCall X l 5 0 0 342 [.ref 336] M Q := by
  refine zs_in (by decide) mf342 (Nat.le_of_ble_eq_true rfl) ?_
  show zGo X l 5 0 0 342 0 [(0, .ref 336)] [] M _
  refine zs_aload_n (pc := 0) t342_0 rfl ?_
  refine zs_invV (pc := 1) (k := 336) (as' := []) (st := []) t342_1 mf236 rfl rfl (Or.inl ⟨by decide, (zk1 (hs.k fk_zMm_336))⟩) ⟨by decide, by decide, Nat.le_of_ble_eq_true rfl, Nat.le_of_ble_eq_true rfl⟩ (zs_in (by decide) mf236 (Nat.le_of_ble_eq_true rfl) ?_) (fun _ _ q => q)
  show zGo X l 0 0 0 236 0 [(0, .ref 336)] [] M _
  refine zs_aload_n (pc := 0) t236_0 rfl ?_
  refine zs_iconst (pc := 1) t236_1 (v := 0) (by decide) ?_
  have w1 : zIv mLo mHi (zsI M 336 6 (0 : Int32)) := zIv.put hI (show 0 ≤ (0 : Int32).toInt ∧ (0 : Int32).toInt ≤ 500 from ⟨by decide, by decide⟩)
  refine zs_putI (pc := 2) t236_2 (zk1 (hs.k fk_zMm_336)) rfl ?_
  refine zs_aload_n (pc := 5) t236_5 rfl ?_
  refine zs_iconst (pc := 6) t236_6 (v := -1) (by decide) ?_
  have w2 : zIv mLo mHi (zsI (zsI M 336 6 (0 : Int32)) 336 7 (-1 : Int32)) := zIv.put w1 (show (-1) ≤ (-1 : Int32).toInt ∧ (-1 : Int32).toInt ≤ 500 from ⟨by decide, by decide⟩)
  refine zs_putI (pc := 7) t236_7 (zk1 (hs.k fk_zMm_336)) rfl ?_
  refine zs_vret (pc := 10) t236_10 mr236 ?_
  show zGo X l 5 0 0 342 4 [(0, .ref 336)] [] (zsI (zsI M 336 6 (0 : Int32)) 336 7 (-1 : Int32)) _
  refine zs_aload_n (pc := 4) t342_4 rfl ?_
  refine zs_iconst (pc := 5) t342_5 (v := 0) (by decide) ?_
  have w3 : zIv mLo mHi (zsI (zsI (zsI M 336 6 (0 : Int32)) 336 7 (-1 : Int32)) 336 47 (0 : Int32)) := zIv.put w2 (show 0 ≤ (0 : Int32).toInt ∧ (0 : Int32).toInt ≤ 20 from ⟨by decide, by decide⟩)
  refine zs_putI (pc := 6) t342_6 (zk1 (hs.k fk_zMm_336)) rfl ?_
  have w4L : ∀ (m : Nat) (w4M : zM), zSk zMm w4M → zIv mLo mHi w4M → zFr [(336, 336, some 6), (336, 336, some 7), (336, 336, some 8), (362, 362, none), (336, 336, some 47)] (zsI (zsI (zsI M 336 6 (0 : Int32)) 336 7 (-1 : Int32)) 336 47 (0 : Int32)) w4M → zJ w4M 351 = zJ (zsI (zsI (zsI M 336 6 (0 : Int32)) 336 7 (-1 : Int32)) 336 47 (0 : Int32)) 351 → 501 - (zI w4M 336 6).toInt - 501 * (min (zI w4M 336 7).toInt 0) ≤ (m : Int) → zGo X l 5 0 0 342 9 [(0, .ref 336)] [] w4M Q := by
    intro m
    induction m using Nat.strongRecOn with
    | ind w4m w4ih =>
      intro w4M w4s w4I w4F w4J w4q
      have w5 := ib336_7 w4I
      have w6 := ib336_6 w4I
      refine zs_aload_n (pc := 9) t342_9 rfl ?_
      refine zs_get (pc := 10) t342_10 (by decide) (zk1 (w4s.k fk_zMm_336)) (zfvi rfl rfl) ?_
      refine zs_iconst (pc := 13) t342_13 (v := -1) (by decide) ?_
      by_cases w7 : (zI w4M 336 7).toInt ≠ (-1)
      · refine zs_icmp_neT (pc := 14) t342_14 rfl lin1 (by omega) ?_
        refine zs_aload_n (pc := 46) t342_46 rfl ?_
        refine zs_invV (pc := 47) (k := 336) (as' := []) (st := []) t342_47 mf253 rfl rfl (Or.inl ⟨by decide, (zk1 (w4s.k fk_zMm_336))⟩) ⟨by decide, by decide, Nat.le_of_ble_eq_true rfl, Nat.le_of_ble_eq_true rfl⟩ (zs_in (by decide) mf253 (Nat.le_of_ble_eq_true rfl) ?_) (fun _ _ q => q)
        show zGo X l 0 0 0 253 0 [(0, .ref 336)] [] w4M _
        refine zs_aload_n (pc := 0) t253_0 rfl ?_
        refine zs_iconst (pc := 1) t253_1 (v := 0) (by decide) ?_
        have w8 : zIv mLo mHi (zsI w4M 336 5 (0 : Int32)) := zIv.put w4I (show 0 ≤ (0 : Int32).toInt ∧ (0 : Int32).toInt ≤ 500 from ⟨by decide, by decide⟩)
        refine zs_putI (pc := 2) t253_2 (zk1 (w4s.k fk_zMm_336)) rfl ?_
        refine zs_aload_n (pc := 5) t253_5 rfl ?_
        refine zs_get (pc := 6) t253_6 (by decide) (zk1 (w4s.k fk_zMm_336)) (zfvi rfl ((zIoj (by decide)).trans rfl)) ?_
        refine zs_iconst (pc := 9) t253_9 (v := -1) (by decide) ?_
        refine zs_icmp_neT (pc := 10) t253_10 rfl lin1 (by omega) ?_
        refine zs_iconst (pc := 17) t253_17 (v := 0) (by decide) ?_
        refine zs_iret (pc := 18) t253_18 mr253 (by decide) ?_
        show zGo X l 5 0 0 342 50 [(0, .ref 336)] [.int (0 : Int32)] (zsI w4M 336 5 (0 : Int32)) _
        refine zs_if_neF (pc := 50) t342_50 li0 (by decide) ?_
        refine zs_iconst (pc := 53) t342_53 (v := -1) (by decide) ?_
        have w9 : (zI (zsI w4M 336 5 (0 : Int32)) 336 5).toInt = 0 := (congrArg Int32.toInt zIs).trans li0
        have w10 := lin1
        exact zs_iret (pc := 54) t342_54 mr342 (by decide) (hQ _ _ w4s w8 ((((((zFr.refl).put rfl).put rfl).put rfl).trans (w4F.mono rfl)).put rfl) (zPR.fr (M' := (zsI w4M 336 5 (0 : Int32))) (zPR.fr (zPR.fr (M' := (zsI (zsI (zsI M 336 6 (0 : Int32)) 336 7 (-1 : Int32)) 336 47 (0 : Int32))) (zPR.fr (M' := (zsI (zsI M 336 6 (0 : Int32)) 336 7 (-1 : Int32))) (zPR.fr (M' := (zsI M 336 6 (0 : Int32))) pR (zEq.put rfl)) (zEq.put rfl)) (zEq.put rfl)) (w4F.eq rfl)) (zEq.put rfl)) (zPC.fr (M' := (zsI w4M 336 5 (0 : Int32))) (zPC.fr (zPC.fr (M' := (zsI (zsI (zsI M 336 6 (0 : Int32)) 336 7 (-1 : Int32)) 336 47 (0 : Int32))) (zPC.fr (M' := (zsI (zsI M 336 6 (0 : Int32)) 336 7 (-1 : Int32))) (zPC.fr (M' := (zsI M 336 6 (0 : Int32))) pC (zEq.put rfl)) (zEq.put rfl)) (zEq.put rfl)) (w4F.eq rfl)) (zEq.put rfl)) (zPF.fr (M' := (zsI w4M 336 5 (0 : Int32))) (zPF.fr (zPF.fr (M' := (zsI (zsI (zsI M 336 6 (0 : Int32)) 336 7 (-1 : Int32)) 336 47 (0 : Int32))) (zPF.fr (M' := (zsI (zsI M 336 6 (0 : Int32)) 336 7 (-1 : Int32))) (zPF.fr (M' := (zsI M 336 6 (0 : Int32))) pF (zEq.put rfl) rfl) (zEq.put rfl) rfl) (zEq.put rfl) rfl) (w4F.eq rfl) w4J) (zEq.put rfl) rfl) (by omega))
      · refine zs_icmp_neF (pc := 14) t342_14 rfl lin1 (by omega) ?_
        refine zs_aload_n (pc := 17) t342_17 rfl ?_
        refine zs_get (pc := 18) t342_18 (by decide) (zk1 (w4s.k fk_zMm_336)) (zfvi rfl rfl) ?_
        refine zs_aload_n (pc := 21) t342_21 rfl ?_
        have w11 := ib336_5 hI
        refine zs_get (pc := 22) t342_22 (by decide) (zk1 (w4s.k fk_zMm_336)) (zfvi rfl ((w4F 336 5 rfl).trans ((zIoj (by decide)).trans ((zIoj (by decide)).trans ((zIoj (by decide)).trans rfl))))) ?_
        by_cases w12 : (zI M 336 5).toInt ≤ (zI w4M 336 6).toInt
        · refine zs_icmp_geT (pc := 25) t342_25 rfl rfl (by omega) ?_
          refine zs_aload_n (pc := 46) t342_46 rfl ?_
          refine zs_invV (pc := 47) (k := 336) (as' := []) (st := []) t342_47 mf253 rfl rfl (Or.inl ⟨by decide, (zk1 (w4s.k fk_zMm_336))⟩) ⟨by decide, by decide, Nat.le_of_ble_eq_true rfl, Nat.le_of_ble_eq_true rfl⟩ (zs_in (by decide) mf253 (Nat.le_of_ble_eq_true rfl) ?_) (fun _ _ q => q)
          show zGo X l 0 0 0 253 0 [(0, .ref 336)] [] w4M _
          refine zs_aload_n (pc := 0) t253_0 rfl ?_
          refine zs_iconst (pc := 1) t253_1 (v := 0) (by decide) ?_
          have w13 : zIv mLo mHi (zsI w4M 336 5 (0 : Int32)) := zIv.put w4I (show 0 ≤ (0 : Int32).toInt ∧ (0 : Int32).toInt ≤ 500 from ⟨by decide, by decide⟩)
          refine zs_putI (pc := 2) t253_2 (zk1 (w4s.k fk_zMm_336)) rfl ?_
          refine zs_aload_n (pc := 5) t253_5 rfl ?_
          refine zs_get (pc := 6) t253_6 (by decide) (zk1 (w4s.k fk_zMm_336)) (zfvi rfl ((zIoj (by decide)).trans rfl)) ?_
          refine zs_iconst (pc := 9) t253_9 (v := -1) (by decide) ?_
          refine zs_icmp_neF (pc := 10) t253_10 rfl lin1 (by omega) ?_
          refine zs_iconst (pc := 13) t253_13 (v := 1) (by decide) ?_
          refine zs_goto (pc := 14) t253_14 ?_
          refine zs_iret (pc := 18) t253_18 mr253 (by decide) ?_
          show zGo X l 5 0 0 342 50 [(0, .ref 336)] [.int (1 : Int32)] (zsI w4M 336 5 (0 : Int32)) _
          refine zs_if_neT (pc := 50) t342_50 li1 (by decide) ?_
          refine zs_iconst (pc := 55) t342_55 (v := 0) (by decide) ?_
          refine zs_istore_n (pc := 56) t342_56 (ls' := [(1, .int (0 : Int32)), (0, .ref 336)]) (zml mf342 (by decide)) rfl ?_
          have w14L : ∀ (m : Nat) (w14x1 : Int32) (w14M : zM), (0 ≤ w14x1.toInt ∧ w14x1.toInt ≤ 20) → zSk zMm w14M → zIv mLo mHi w14M → zFr [(336, 338, none), (340, 363, none)] (zsI w4M 336 5 (0 : Int32)) w14M → zPR w14M → zPC w14M → zPF w14M → ((zI w14M 336 5).toInt = 0) → 20 - w14x1.toInt ≤ (m : Int) → zGo X l 5 0 0 342 57 [(0, .ref 336), (1, .int w14x1)] [] w14M Q := by
            intro m
            induction m using Nat.strongRecOn with
            | ind w14m w14ih =>
              intro w14x1 w14M w14b1 w14s w14I w14F w14PR w14PC w14PF w14r0 w14q
              have w15 := ib336_5 w14I
              refine zs_iload_n (pc := 57) t342_57 rfl ?_
              refine zs_aload_n (pc := 58) t342_58 rfl ?_
              have w16 := ib336_47 w14I
              refine zs_get (pc := 59) t342_59 (by decide) (zk1 (w14s.k fk_zMm_336)) (zfvi rfl rfl) ?_
              by_cases w17 : (zI w14M 336 47).toInt ≤ w14x1.toInt
              · refine zs_icmp_geT (pc := 62) t342_62 rfl rfl (by omega) ?_
                refine zs_aload_n (pc := 82) t342_82 rfl ?_
                refine zs_iload_n (pc := 83) t342_83 rfl ?_
                refine zs_aload_n (pc := 84) t342_84 rfl ?_
                refine zs_get (pc := 85) t342_85 (by decide) (zk1 (w14s.k fk_zMm_336)) (zfvi rfl rfl) ?_
                by_cases w18 : (zI w14M 336 47).toInt ≤ w14x1.toInt
                · refine zs_icmp_geT (pc := 88) t342_88 rfl rfl (by omega) ?_
                  refine zs_iconst (pc := 95) t342_95 (v := -1) (by decide) ?_
                  have w19 : zIv mLo mHi (zsI w14M 336 48 (-1 : Int32)) := zIv.put w14I (show (-2147483648) ≤ (-1 : Int32).toInt ∧ (-1 : Int32).toInt ≤ 2147483647 from zrg (-1 : Int32))
                  refine zs_putI (pc := 96) t342_96 (zk1 (w14s.k fk_zMm_336)) rfl ?_
                  refine zs_iload_n (pc := 99) t342_99 rfl ?_
                  have w20 : (zI (zsI w14M 336 48 (-1 : Int32)) 336 5).toInt = (zI w14M 336 5).toInt := (congrArg Int32.toInt ((zIoj (by decide)).trans rfl)).trans rfl
                  exact zs_iret (pc := 100) t342_100 mr342 rfl (hQ _ _ w14s w19 ((((((((zFr.refl).put rfl).put rfl).put rfl).trans (w4F.mono rfl)).put rfl).trans (w14F.mono rfl)).put rfl) (zPR.fr (M' := (zsI w14M 336 48 (-1 : Int32))) w14PR (zEq.put rfl)) (zPC.fr (M' := (zsI w14M 336 48 (-1 : Int32))) w14PC (zEq.put rfl)) (zPF.fr (M' := (zsI w14M 336 48 (-1 : Int32))) w14PF (zEq.put rfl) rfl) (by omega))
                · refine zs_icmp_geF (pc := 88) t342_88 rfl rfl (by omega) ?_
                  refine zs_iload_n (pc := 91) t342_91 rfl ?_
                  refine zs_goto (pc := 92) t342_92 ?_
                  have w21 : zIv mLo mHi (zsI w14M 336 48 w14x1) := zIv.put w14I (show (-2147483648) ≤ w14x1.toInt ∧ w14x1.toInt ≤ 2147483647 from zrg w14x1)
                  refine zs_putI (pc := 96) t342_96 (zk1 (w14s.k fk_zMm_336)) rfl ?_
                  refine zs_iload_n (pc := 99) t342_99 rfl ?_
                  have w22 : (zI (zsI w14M 336 48 w14x1) 336 5).toInt = (zI w14M 336 5).toInt := (congrArg Int32.toInt ((zIoj (by decide)).trans rfl)).trans rfl
                  exact zs_iret (pc := 100) t342_100 mr342 rfl (hQ _ _ w14s w21 ((((((((zFr.refl).put rfl).put rfl).put rfl).trans (w4F.mono rfl)).put rfl).trans (w14F.mono rfl)).put rfl) (zPR.fr (M' := (zsI w14M 336 48 w14x1)) w14PR (zEq.put rfl)) (zPC.fr (M' := (zsI w14M 336 48 w14x1)) w14PC (zEq.put rfl)) (zPF.fr (M' := (zsI w14M 336 48 w14x1)) w14PF (zEq.put rfl) rfl) (by omega))
              · refine zs_icmp_geF (pc := 62) t342_62 rfl rfl (by omega) ?_
                refine zs_aload_n (pc := 65) t342_65 rfl ?_
                refine zs_iconst (pc := 66) t342_66 (v := 4) (by decide) ?_
                refine zs_iload_n (pc := 67) t342_67 rfl ?_
                obtain ⟨w23v, w23⟩ : ∃ v, (4 : Int32) * w14x1 = v := ⟨_, rfl⟩
                have w23g : w23v.toInt = 4 * w14x1.toInt := by rw [← w23]; exact zmulc li4 rfl (by omega) (by omega)
                refine zs_imul (pc := 68) t342_68 (c := w23v) w23 ?_
                have w24 : w23v.toInt = (4 * w14x1.toInt) := w23g
                have w25 : (zI w14M 336 5).toInt = (zI w14M 336 5).toInt := (congrArg Int32.toInt rfl).trans rfl
                refine zs_invV (pc := 69) (k := 336) (as' := [.int w23v]) (st := []) t342_69 mf344 rfl rfl (Or.inl ⟨by decide, (zk1 (w14s.k fk_zMm_336))⟩) ⟨by decide, by decide, Nat.le_of_ble_eq_true rfl, Nat.le_of_ble_eq_true rfl⟩ (T344 w14s w14I w14PR w14PC w14PF ⟨by omega, by omega⟩ ?_) (fun _ _ q => q)
                intro w26M w26v w26s w26I w26F w26PR w26PC w26PF w26t0
                have w26g := zrg w26v
                have w27 := ib336_5 w26I
                show zGo X l 5 0 0 342 72 [(0, .ref 336), (1, .int w14x1)] [.int w26v] w26M _
                refine zs_iconst (pc := 72) t342_72 (v := -1) (by decide) ?_
                by_cases w28 : w26v.toInt = (-1)
                · refine zs_icmp_eqT (pc := 73) t342_73 rfl lin1 (by omega) ?_
                  refine zs_aload_n (pc := 82) t342_82 rfl ?_
                  refine zs_iload_n (pc := 83) t342_83 rfl ?_
                  refine zs_aload_n (pc := 84) t342_84 rfl ?_
                  have w29 := ib336_47 w26I
                  refine zs_get (pc := 85) t342_85 (by decide) (zk1 (w26s.k fk_zMm_336)) (zfvi rfl rfl) ?_
                  by_cases w30 : (zI w26M 336 47).toInt ≤ w14x1.toInt
                  · refine zs_icmp_geT (pc := 88) t342_88 rfl rfl (by omega) ?_
                    refine zs_iconst (pc := 95) t342_95 (v := -1) (by decide) ?_
                    have w31 : zIv mLo mHi (zsI w26M 336 48 (-1 : Int32)) := zIv.put w26I (show (-2147483648) ≤ (-1 : Int32).toInt ∧ (-1 : Int32).toInt ≤ 2147483647 from zrg (-1 : Int32))
                    refine zs_putI (pc := 96) t342_96 (zk1 (w26s.k fk_zMm_336)) rfl ?_
                    refine zs_iload_n (pc := 99) t342_99 rfl ?_
                    have w32 : (zI (zsI w26M 336 48 (-1 : Int32)) 336 5).toInt = (zI w26M 336 5).toInt := (congrArg Int32.toInt ((zIoj (by decide)).trans rfl)).trans rfl
                    exact zs_iret (pc := 100) t342_100 mr342 rfl (hQ _ _ w26s w31 (((((((((zFr.refl).put rfl).put rfl).put rfl).trans (w4F.mono rfl)).put rfl).trans (w14F.mono rfl)).trans (w26F.mono rfl)).put rfl) (zPR.fr (M' := (zsI w26M 336 48 (-1 : Int32))) w26PR (zEq.put rfl)) (zPC.fr (M' := (zsI w26M 336 48 (-1 : Int32))) w26PC (zEq.put rfl)) (zPF.fr (M' := (zsI w26M 336 48 (-1 : Int32))) w26PF (zEq.put rfl) rfl) (by omega))
                  · refine zs_icmp_geF (pc := 88) t342_88 rfl rfl (by omega) ?_
                    refine zs_iload_n (pc := 91) t342_91 rfl ?_
                    refine zs_goto (pc := 92) t342_92 ?_
                    have w33 : zIv mLo mHi (zsI w26M 336 48 w14x1) := zIv.put w26I (show (-2147483648) ≤ w14x1.toInt ∧ w14x1.toInt ≤ 2147483647 from zrg w14x1)
                    refine zs_putI (pc := 96) t342_96 (zk1 (w26s.k fk_zMm_336)) rfl ?_
                    refine zs_iload_n (pc := 99) t342_99 rfl ?_
                    have w34 : (zI (zsI w26M 336 48 w14x1) 336 5).toInt = (zI w26M 336 5).toInt := (congrArg Int32.toInt ((zIoj (by decide)).trans rfl)).trans rfl
                    exact zs_iret (pc := 100) t342_100 mr342 rfl (hQ _ _ w26s w33 (((((((((zFr.refl).put rfl).put rfl).put rfl).trans (w4F.mono rfl)).put rfl).trans (w14F.mono rfl)).trans (w26F.mono rfl)).put rfl) (zPR.fr (M' := (zsI w26M 336 48 w14x1)) w26PR (zEq.put rfl)) (zPC.fr (M' := (zsI w26M 336 48 w14x1)) w26PC (zEq.put rfl)) (zPF.fr (M' := (zsI w26M 336 48 w14x1)) w26PF (zEq.put rfl) rfl) (by omega))
                · refine zs_icmp_eqF (pc := 73) t342_73 rfl lin1 (by omega) ?_
                  obtain ⟨w35v, w35e, w35⟩ := ziadd (a := w14x1) (b := Int32.ofInt 1) rfl (show (Int32.ofInt 1).toInt = 1 by decide) (by omega) (by omega)
                  refine zs_iinc (pc := 76) t342_76 (ls' := [(1, .int w35v), (0, .ref 336)]) (zml mf342 (by decide)) rfl (c := w35v) w35e rfl ?_
                  refine zs_goto (pc := 79) t342_79 ?_
                  refine zGo.locals (ls' := [(0, .ref 336), (1, .int w35v)]) (by simp) ?_
                  have w36 := w35
                  have w37 : (zI w26M 336 5).toInt = (zI w26M 336 5).toInt := (congrArg Int32.toInt rfl).trans rfl
                  exact w14ih (w14m - 1) (by omega) w35v w26M ⟨by omega, by omega⟩ w26s w26I (((zFr.refl).trans (w14F.mono rfl)).trans (w26F.mono rfl)) w26PR w26PC w26PF (by omega) (by omega)
          refine zGo.locals (ls' := [(0, .ref 336), (1, .int (0 : Int32))]) (by simp) ?_
          have w38 := li0
          have w39 : (zI (zsI w4M 336 5 (0 : Int32)) 336 5).toInt = 0 := (congrArg Int32.toInt zIs).trans li0
          exact w14L ((20 - 0 : Int).toNat) (0 : Int32) (zsI w4M 336 5 (0 : Int32)) ⟨by decide, by decide⟩ w4s w13 zFr.refl (zPR.fr (M' := (zsI w4M 336 5 (0 : Int32))) (zPR.fr (zPR.fr (M' := (zsI (zsI (zsI M 336 6 (0 : Int32)) 336 7 (-1 : Int32)) 336 47 (0 : Int32))) (zPR.fr (M' := (zsI (zsI M 336 6 (0 : Int32)) 336 7 (-1 : Int32))) (zPR.fr (M' := (zsI M 336 6 (0 : Int32))) pR (zEq.put rfl)) (zEq.put rfl)) (zEq.put rfl)) (w4F.eq rfl)) (zEq.put rfl)) (zPC.fr (M' := (zsI w4M 336 5 (0 : Int32))) (zPC.fr (zPC.fr (M' := (zsI (zsI (zsI M 336 6 (0 : Int32)) 336 7 (-1 : Int32)) 336 47 (0 : Int32))) (zPC.fr (M' := (zsI (zsI M 336 6 (0 : Int32)) 336 7 (-1 : Int32))) (zPC.fr (M' := (zsI M 336 6 (0 : Int32))) pC (zEq.put rfl)) (zEq.put rfl)) (zEq.put rfl)) (w4F.eq rfl)) (zEq.put rfl)) (zPF.fr (M' := (zsI w4M 336 5 (0 : Int32))) (zPF.fr (zPF.fr (M' := (zsI (zsI (zsI M 336 6 (0 : Int32)) 336 7 (-1 : Int32)) 336 47 (0 : Int32))) (zPF.fr (M' := (zsI (zsI M 336 6 (0 : Int32)) 336 7 (-1 : Int32))) (zPF.fr (M' := (zsI M 336 6 (0 : Int32))) pF (zEq.put rfl) rfl) (zEq.put rfl) rfl) (zEq.put rfl) rfl) (w4F.eq rfl) w4J) (zEq.put rfl) rfl) (by omega) (by omega)
        · refine zs_icmp_geF (pc := 25) t342_25 rfl rfl (by omega) ?_
          refine zs_aload_n (pc := 28) t342_28 rfl ?_
          have w40 : (zI w4M 336 7).toInt = (zI w4M 336 7).toInt := (congrArg Int32.toInt rfl).trans rfl
          have w41 : (zI w4M 336 6).toInt = (zI w4M 336 6).toInt := (congrArg Int32.toInt rfl).trans rfl
          have w42 : (zI w4M 336 5).toInt = (zI M 336 5).toInt := (congrArg Int32.toInt ((w4F 336 5 rfl).trans ((zIoj (by decide)).trans ((zIoj (by decide)).trans ((zIoj (by decide)).trans rfl))))).trans rfl
          have w43 : (zI w4M 336 6).toInt = (zI w4M 336 6).toInt := (congrArg Int32.toInt rfl).trans rfl
          refine zs_invV (pc := 29) (k := 336) (as' := []) (st := []) t342_29 mf343 rfl rfl (Or.inl ⟨by decide, (zk1 (w4s.k fk_zMm_336))⟩) ⟨by decide, by decide, Nat.le_of_ble_eq_true rfl, Nat.le_of_ble_eq_true rfl⟩ (K343 w4s w4I (by omega) (by omega) ?_) (fun _ _ q => q)
          intro w44M w44v w44s w44I w44F w44J w44t0 w44a w44b
          have w45 := ib336_7 w44I
          have w46 := ib336_6 w44I
          show zGo X l 5 0 0 342 32 [(0, .ref 336)] [.int w44v] w44M _
          by_cases w47 : w44v.toInt ≠ 0
          · refine zs_if_neT (pc := 32) t342_32 rfl (by omega) ?_
            refine zGo.locals (ls' := [(0, .ref 336)]) (by simp) ?_
            have w48 : (zI w44M 336 7).toInt = (zI w44M 336 7).toInt := (congrArg Int32.toInt rfl).trans rfl
            have w49 : (zI w44M 336 6).toInt = (zI w44M 336 6).toInt := (congrArg Int32.toInt rfl).trans rfl
            exact w4ih (w4m - 1) (by omega) w44M w44s w44I (((zFr.refl).trans (w4F.mono rfl)).trans (w44F.mono rfl)) (w44J.trans w4J) (by omega)
          · refine zs_if_neF (pc := 32) t342_32 rfl (by omega) ?_
            refine zs_aload_n (pc := 35) t342_35 rfl ?_
            refine zs_aload_n (pc := 36) t342_36 rfl ?_
            refine zs_get (pc := 37) t342_37 (by decide) (zk1 (w44s.k fk_zMm_336)) (zfvi rfl ((w44F 336 5 rfl).trans ((w4F 336 5 rfl).trans ((zIoj (by decide)).trans ((zIoj (by decide)).trans ((zIoj (by decide)).trans rfl)))))) ?_
            have w50 : zIv mLo mHi (zsI w44M 336 6 (zI M 336 5)) := zIv.put w44I (show 0 ≤ (zI M 336 5).toInt ∧ (zI M 336 5).toInt ≤ 500 from ⟨by omega, by omega⟩)
            refine zs_putI (pc := 40) t342_40 (zk1 (w44s.k fk_zMm_336)) rfl ?_
            refine zs_goto (pc := 43) t342_43 ?_
            refine zGo.locals (ls' := [(0, .ref 336)]) (by simp) ?_
            have w51 : (zI (zsI w44M 336 6 (zI M 336 5)) 336 7).toInt = (zI w44M 336 7).toInt := (congrArg Int32.toInt ((zIoj (by decide)).trans rfl)).trans rfl
            have w52 : (zI (zsI w44M 336 6 (zI M 336 5)) 336 6).toInt = (zI M 336 5).toInt := (congrArg Int32.toInt zIs).trans rfl
            exact w4ih (w4m - 1) (by omega) (zsI w44M 336 6 (zI M 336 5)) w44s w50 ((((zFr.refl).trans (w4F.mono rfl)).trans (w44F.mono rfl)).put rfl) (w44J.trans w4J) (by omega)
  refine zGo.locals (ls' := [(0, .ref 336)]) (by simp) ?_
  have w53 : (zI (zsI (zsI (zsI M 336 6 (0 : Int32)) 336 7 (-1 : Int32)) 336 47 (0 : Int32)) 336 7).toInt = (-1) := (congrArg Int32.toInt ((zIoj (by decide)).trans zIs)).trans lin1
  have w54 : (zI (zsI (zsI (zsI M 336 6 (0 : Int32)) 336 7 (-1 : Int32)) 336 47 (0 : Int32)) 336 6).toInt = 0 := (congrArg Int32.toInt ((zIoj (by decide)).trans ((zIoj (by decide)).trans zIs))).trans li0
  exact w4L ((501 - (zI (zsI (zsI (zsI M 336 6 (0 : Int32)) 336 7 (-1 : Int32)) 336 47 (0 : Int32)) 336 6).toInt - 501 * (min (zI (zsI (zsI (zsI M 336 6 (0 : Int32)) 336 7 (-1 : Int32)) 336 47 (0 : Int32)) 336 7).toInt 0) : Int).toNat) (zsI (zsI (zsI M 336 6 (0 : Int32)) 336 7 (-1 : Int32)) 336 47 (0 : Int32)) hs w3 zFr.refl rfl (by omega)
