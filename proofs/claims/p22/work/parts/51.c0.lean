theorem T233 {X : zX} {l : Launch} {M : zM} {Q : Option Value → zM → Prop} {a : Int32} (hs : zSk zMm M) (hI : zIv mLo mHi M) (pR : zPR M) (pC : zPC M) (pF : zPF M) (hQ : ∀ (M' : zM) (v : Int32), zSk zMm M' → zIv mLo mHi M' → zFr [(336, 336, some 5)] M M' → zJ M' 351 = zJ M 351 → zPR M' → zPC M' → zPF M' → ((v.toInt = a.toInt ∧ 0 ≤ a.toInt ∧ a.toInt ≤ (zI M 336 5).toInt ∧ (zI M' 336 5).toInt = a.toInt) ∨ (v.toInt = -1 ∧ (a.toInt < 0 ∨ (zI M 336 5).toInt < a.toInt) ∧ (zI M' 336 5).toInt = (zI M 336 5).toInt)) → Q (some (.int v)) M') : zCall X l 1 0 0 233 [.ref 336, .int a] M Q := by
  have ga := zrg a
  refine zs_in (by decide) mf233 (Nat.le_of_ble_eq_true rfl) ?_
  show zGo X l 1 0 0 233 0 [(0, .ref 336), (1, .int a)] [] M _
  refine zs_iload_n (pc := 0) t233_0 rfl ?_
  refine zs_i2l (pc := 1) t233_1 rfl ?_
  refine zs_lconst (pc := 2) t233_2 (v := 0) (by decide) ?_
  refine zs_aload_n (pc := 3) t233_3 rfl ?_
  have w1 := ib336_5 hI
  refine zs_get (pc := 4) t233_4 (by decide) (zk1 (hs.k fk_zMm_336)) (zfvi rfl rfl) ?_
  refine zs_i2l (pc := 7) t233_7 rfl ?_
  by_cases w2 : 0 ≤ a.toInt ∧ a.toInt ≤ (zI M 336 5).toInt
  · refine zs_invS (pc := 8) (as := [.long a.toInt64, .long (0 : Int64), .long (zI M 336 5).toInt64]) (st := []) t233_8 (by decide) mf228 rfl rfl ⟨by decide, by decide, Nat.le_of_ble_eq_true rfl, Nat.le_of_ble_eq_true rfl⟩ (K228T (zi2l rfl) ll0 (zi2l rfl) (by omega) ?_) (fun _ _ q => q)
    show zGo X l 1 0 0 233 11 [(0, .ref 336), (1, .int a)] [.int (1 : Int32)] M _
    refine zs_if_neT (pc := 11) t233_11 li1 (by decide) ?_
    refine zs_aload_n (pc := 16) t233_16 rfl ?_
    refine zs_iload_n (pc := 17) t233_17 rfl ?_
    have w3 : zIv mLo mHi (zsI M 336 5 a) := zIv.put hI (show 0 ≤ a.toInt ∧ a.toInt ≤ 500 from ⟨by omega, by omega⟩)
    refine zs_putI (pc := 18) t233_18 (zk1 (hs.k fk_zMm_336)) rfl ?_
    refine zs_iload_n (pc := 21) t233_21 rfl ?_
    have w4 : (zI (zsI M 336 5 a) 336 5).toInt = a.toInt := (congrArg Int32.toInt zIs).trans rfl
    exact zs_iret (pc := 22) t233_22 mr233 rfl (hQ _ _ hs w3 ((zFr.refl).put rfl) rfl (zPR.fr (M' := (zsI M 336 5 a)) pR (zEq.put rfl)) (zPC.fr (M' := (zsI M 336 5 a)) pC (zEq.put rfl)) (zPF.fr (M' := (zsI M 336 5 a)) pF (zEq.put rfl) rfl) (by omega))
  · refine zs_invS (pc := 8) (as := [.long a.toInt64, .long (0 : Int64), .long (zI M 336 5).toInt64]) (st := []) t233_8 (by decide) mf228 rfl rfl ⟨by decide, by decide, Nat.le_of_ble_eq_true rfl, Nat.le_of_ble_eq_true rfl⟩ (K228F (zi2l rfl) ll0 (zi2l rfl) (by omega) ?_) (fun _ _ q => q)
    show zGo X l 1 0 0 233 11 [(0, .ref 336), (1, .int a)] [.int (0 : Int32)] M _
    refine zs_if_neF (pc := 11) t233_11 li0 (by decide) ?_
    refine zs_iconst (pc := 14) t233_14 (v := -1) (by decide) ?_
    have w5 : (zI M 336 5).toInt = (zI M 336 5).toInt := (congrArg Int32.toInt rfl).trans rfl
    have w6 := lin1
    exact zs_iret (pc := 15) t233_15 mr233 (by decide) (hQ _ _ hs hI (zFr.refl) rfl pR pC pF (by omega))
