theorem T225 {X : zX} {l : Launch} {M : zM} {Q : Option Value → zM → Prop} (hs : zSk zMm M) (hI : zIv mLo mHi M) (pR : zPR M) (pC : zPC M) (pF : zPF M) (hQ : ∀ (M' : zM) (v : Int32), zSk zMm M' → zIv mLo mHi M' → zFr [(336, 338, none), (340, 363, none)] M M' → zPR M' → zPC M' → zPF M' → ((zI M' 336 5).toInt = (zI M 336 5).toInt) → Q (some (.int v)) M') : zCall X l 1 0 0 225 [.ref 336] M Q := by
  refine zs_in (by decide) mf225 (Nat.le_of_ble_eq_true rfl) ?_
  show zGo X l 1 0 0 225 0 [(0, .ref 336)] [] M _
  refine zs_aload_n (pc := 0) t225_0 rfl ?_
  have w1 := ib336_1 hI
  refine zs_get (pc := 1) t225_1 (by decide) (zk1 (hs.k fk_zMm_336)) (zfvi rfl rfl) ?_
  by_cases w2 : (zI M 336 1).toInt ≠ 0
  · refine zs_if_neT (pc := 4) t225_4 rfl (by omega) ?_
    refine zs_aload_n (pc := 9) t225_9 rfl ?_
    refine zs_dup (pc := 10) t225_10 rfl ?_
    refine zs_get (pc := 11) t225_11 (by decide) (zk1 (hs.k fk_zMm_336)) (zfvi rfl rfl) ?_
    refine zs_iconst (pc := 14) t225_14 (v := 1) (by decide) ?_
    obtain ⟨w3v, w3e, w3⟩ := zisub (a := (zI M 336 1)) (b := (1 : Int32)) rfl li1 (by omega) (by omega)
    refine zs_isub (pc := 15) t225_15 (c := w3v) w3e ?_
    have w4 : zIv mLo mHi (zsI M 336 1 w3v) := zIv.put hI (show 0 ≤ w3v.toInt ∧ w3v.toInt ≤ 8 from ⟨by omega, by omega⟩)
    have w5 : (zI M 336 1).toInt = (zI M 336 1).toInt := (congrArg Int32.toInt rfl).trans rfl
    have w6 : w3v.toInt = ((zI M 336 1).toInt - 1) := w3
    have w7 : zPR (zsI M 336 1 w3v) := zPR.less pR (by omega)
    refine zs_putI (pc := 16) t225_16 (zk1 (hs.k fk_zMm_336)) rfl ?_
    refine zs_aload_n (pc := 19) t225_19 rfl ?_
    refine zs_iconst (pc := 20) t225_20 (v := 3) (by decide) ?_
    refine zs_aload_n (pc := 21) t225_21 rfl ?_
    refine zs_get (pc := 22) t225_22 (by decide) (zk1 (hs.k fk_zMm_336)) (zfvi rfl zIs) ?_
    obtain ⟨w8v, w8e, w8⟩ := ziadd (a := (3 : Int32)) (b := w3v) li3 w3 (by omega) (by omega)
    refine zs_iadd (pc := 25) t225_25 (c := w8v) w8e ?_
    refine zs_iconst (pc := 26) t225_26 (v := 0) (by decide) ?_
    obtain ⟨w9n, w9⟩ : ∃ n : Nat, (zI M 336 1).toInt = (n : Int) := ⟨((zI M 336 1).toInt).toNat, by omega⟩
    have w10 : (zI M 336 1).toInt = (zI M 336 1).toInt := (congrArg Int32.toInt rfl).trans rfl
    have w11k : zRk (zrow (zsI M 336 1 w3v) (2 + w9n)) := (by rw [zrowN (by decide), show (2 + w9n) = 3 + (w9n - 1) by omega]; exact pR.2.2 (w9n - 1) (by omega))
    refine zs_invV (pc := 27) (k := 336) (as' := [.int w8v, .int (0 : Int32)]) (st := []) t225_27 mf226 rfl rfl (Or.inl ⟨by decide, (zk1 (hs.k fk_zMm_336))⟩) ⟨by decide, by decide, Nat.le_of_ble_eq_true rfl, Nat.le_of_ble_eq_true rfl⟩ (K226 (na := (2 + w9n)) (nb := 0) hs w4 (by omega) (by decide) (by omega) (by omega) (by omega) w11k ?_) (fun _ _ q => q)
    intro w11M w11s w11I w11F w11J w11c
    have w11R : zPR w11M := zPR.cp w7 w4 w11k w11c (w11F.eq rfl)
    have w11C : zPC w11M := zPC.cp (zPC.fr (M' := (zsI M 336 1 w3v)) pC (zEq.put rfl)) w4 w7 w11k w11c
    show zGo X l 1 0 0 225 30 [(0, .ref 336)] [] w11M _
    refine zs_aload_n (pc := 30) t225_30 rfl ?_
    refine zs_iconst (pc := 31) t225_31 (v := 0) (by decide) ?_
    have w12 : zIv mLo mHi (zsI w11M 336 3 (0 : Int32)) := zIv.put w11I (show 0 ≤ (0 : Int32).toInt ∧ (0 : Int32).toInt ≤ 1 from ⟨by decide, by decide⟩)
    have w13 : zPF (zsI w11M 336 3 (0 : Int32)) := zPF.off
    refine zs_putI (pc := 32) t225_32 (zk1 (w11s.k fk_zMm_336)) (by decide) ?_
    refine zs_aload_n (pc := 35) t225_35 rfl ?_
    refine zs_get (pc := 36) t225_36 (by decide) (zk1 (w11s.k fk_zMm_336)) (zfvi rfl ((zIoj (by decide)).trans ((w11F 336 1 rfl).trans zIs))) ?_
    have w14 := ib336_5 hI
    have w15 : (zI (zsI w11M 336 3 (0 : Int32)) 336 5).toInt = (zI M 336 5).toInt := (congrArg Int32.toInt ((zIoj (by decide)).trans ((w11F 336 5 rfl).trans ((zIoj (by decide)).trans rfl)))).trans rfl
    have w16 := w3
    exact zs_iret (pc := 39) t225_39 mr225 rfl (hQ _ _ w11s w12 ((((zFr.refl).put rfl).trans (w11F.mono rfl)).put rfl) (zPR.fr (M' := (zsI w11M 336 3 (0 : Int32))) w11R (zEq.put rfl)) (zPC.fr (M' := (zsI w11M 336 3 (0 : Int32))) w11C (zEq.put rfl)) w13 (by omega))
  · refine zs_if_neF (pc := 4) t225_4 rfl (by omega) ?_
    refine zs_iconst (pc := 7) t225_7 (v := -1) (by decide) ?_
    have w17 := ib336_5 hI
    have w18 : (zI M 336 5).toInt = (zI M 336 5).toInt := (congrArg Int32.toInt rfl).trans rfl
    have w19 := lin1
    exact zs_iret (pc := 8) t225_8 mr225 (by decide) (hQ _ _ hs hI (zFr.refl) pR pC pF (by omega))
theorem T227 {X : zX} {l : Launch} {M : zM} {Q : Option Value → zM → Prop} {a : Int32} (hs : zSk zMm M) (hI : zIv mLo mHi M) (pR : zPR M) (pC : zPC M) (pF : zPF M) (hQ : ∀ (M' : zM) (v : Int32), zSk zMm M' → zIv mLo mHi M' → zFr [(336, 338, none), (340, 363, none)] M M' → zPR M' → zPC M' → zPF M' → ((zI M' 336 5).toInt = (zI M 336 5).toInt) → 0 ≤ v.toInt → v.toInt ≤ 1 → Q (some (.int v)) M') : zCall X l 1 0 0 227 [.ref 336, .int a] M Q := by
  have ga := zrg a
  refine zs_in (by decide) mf227 (Nat.le_of_ble_eq_true rfl) ?_
  show zGo X l 1 0 0 227 0 [(0, .ref 336), (1, .int a)] [] M _
  refine zs_iload_n (pc := 0) t227_0 rfl ?_
  refine zs_i2l (pc := 1) t227_1 rfl ?_
  refine zs_lconst (pc := 2) t227_2 (v := 0) (by decide) ?_
  refine zs_lconst (pc := 3) t227_3 (v := 1) (by decide) ?_
  by_cases w1 : 0 ≤ a.toInt ∧ a.toInt ≤ 1
  · refine zs_invS (pc := 4) (as := [.long a.toInt64, .long (0 : Int64), .long (1 : Int64)]) (st := []) t227_4 (by decide) mf228 rfl rfl ⟨by decide, by decide, Nat.le_of_ble_eq_true rfl, Nat.le_of_ble_eq_true rfl⟩ (K228T (zi2l rfl) ll0 ll1 (by omega) ?_) (fun _ _ q => q)
    show zGo X l 1 0 0 227 7 [(0, .ref 336), (1, .int a)] [.int (1 : Int32)] M _
    refine zs_if_neT (pc := 7) t227_7 li1 (by decide) ?_
    refine zs_aload_n (pc := 12) t227_12 rfl ?_
    refine zs_iconst (pc := 13) t227_13 (v := 0) (by decide) ?_
    refine zs_iconst (pc := 14) t227_14 (v := 1) (by decide) ?_
    refine zs_iload_n (pc := 15) t227_15 rfl ?_
    obtain ⟨w2v, w2e, w2⟩ := ziadd (a := (1 : Int32)) (b := a) li1 rfl (by omega) (by omega)
    refine zs_iadd (pc := 16) t227_16 (c := w2v) w2e ?_
    obtain ⟨w3n, w3⟩ : ∃ n : Nat, a.toInt = (n : Int) := ⟨(a.toInt).toNat, by omega⟩
    have w4k : zRk (zrow M 0) := (zRk0 hI pR pC)
    refine zs_invV (pc := 17) (k := 336) (as' := [.int (0 : Int32), .int w2v]) (st := []) t227_17 mf226 rfl rfl (Or.inl ⟨by decide, (zk1 (hs.k fk_zMm_336))⟩) ⟨by decide, by decide, Nat.le_of_ble_eq_true rfl, Nat.le_of_ble_eq_true rfl⟩ (K226 (na := 0) (nb := (1 + w3n)) hs hI (by decide) (by omega) (by omega) (by omega) (by omega) w4k ?_) (fun _ _ q => q)
    intro w4M w4s w4I w4F w4J w4c
    have w4R : zPR w4M := zPR.cp pR hI w4k w4c (w4F.eq rfl)
    have w4C : zPC w4M := zPC.cp pC hI pR w4k w4c
    have w5 := ibA0 hI
    have w4r0 : zI w4M 337 0 = (zI M 337 0) := (w4c.1 0 (Or.inl (by omega))).trans rfl
    have w6 := ibA1 hI
    have w4r1 : zI w4M 337 1 = (zI M 337 1) := (w4c.1 1 (Or.inl (by omega))).trans rfl
    have w7 := ibA2 hI
    have w4r2 : zI w4M 337 2 = (zI M 337 2) := (w4c.1 2 (Or.inl (by omega))).trans rfl
    show zGo X l 1 0 0 227 20 [(0, .ref 336), (1, .int a)] [] w4M _
    refine zs_aload_n (pc := 20) t227_20 rfl ?_
    refine zs_get (pc := 21) t227_21 (by decide) (zk1 (w4s.k fk_zMm_336)) (w4s.p rfl fv_zMm_336_2) ?_
    refine zs_iload_n (pc := 24) t227_24 rfl ?_
    refine zs_iconst (pc := 25) t227_25 (v := 1) (by decide) ?_
    have w8e : vp_nar .boolean (1 : Int32) = (1 : Int32) := by decide
    have w9 : zIv mLo mHi (zsI w4M 338 w3n (1 : Int32)) := zIv.put w4I (show 0 ≤ (1 : Int32).toInt ∧ (1 : Int32).toInt ≤ 1 from ⟨by decide, by decide⟩)
    have w10 : zPR (zsI w4M 338 w3n (1 : Int32)) := zPR.keep (n := w3n) w4R (zCp.k w4c w4k (Or.inl (by omega)))
    refine zs_bastZ (pc := 26) t227_26 (j := w3n) (by decide) (zk1 (w4s.k fk_zMm_338)) (show a.toInt = ((w3n : Nat) : Int) by omega) (zk2 (w4s.k fk_zMm_338) (by omega)) w8e ?_
    refine zs_iconst (pc := 27) t227_27 (v := 1) (by decide) ?_
    have w11 := ib336_5 hI
    have w12 : (zI (zsI w4M 338 w3n (1 : Int32)) 336 5).toInt = (zI M 336 5).toInt := (congrArg Int32.toInt ((zIo (by decide)).trans ((w4F 336 5 rfl).trans rfl))).trans rfl
    have w13 := li1
    exact zs_iret (pc := 28) t227_28 mr227 (by decide) (hQ _ _ w4s w9 (((zFr.refl).trans (w4F.mono rfl)).put rfl) w10 (zPC.fr (M' := (zsI w4M 338 w3n (1 : Int32))) w4C (zEq.put rfl)) (zPF.fr (M' := (zsI w4M 338 w3n (1 : Int32))) (zPF.fr pF (w4F.eq rfl) w4J) (zEq.put rfl) rfl) (by omega) (by decide) (by decide))
  · refine zs_invS (pc := 4) (as := [.long a.toInt64, .long (0 : Int64), .long (1 : Int64)]) (st := []) t227_4 (by decide) mf228 rfl rfl ⟨by decide, by decide, Nat.le_of_ble_eq_true rfl, Nat.le_of_ble_eq_true rfl⟩ (K228F (zi2l rfl) ll0 ll1 (by omega) ?_) (fun _ _ q => q)
    show zGo X l 1 0 0 227 7 [(0, .ref 336), (1, .int a)] [.int (0 : Int32)] M _
    refine zs_if_neF (pc := 7) t227_7 li0 (by decide) ?_
    refine zs_iconst (pc := 10) t227_10 (v := 0) (by decide) ?_
    have w14 := ib336_5 hI
    have w15 : (zI M 336 5).toInt = (zI M 336 5).toInt := (congrArg Int32.toInt rfl).trans rfl
    have w16 := li0
    exact zs_iret (pc := 11) t227_11 mr227 (by decide) (hQ _ _ hs hI (zFr.refl) pR pC pF (by omega) (by decide) (by decide))
theorem T229 {X : zX} {l : Launch} {M : zM} {Q : Option Value → zM → Prop} {a : Int32} (hs : zSk zMm M) (hI : zIv mLo mHi M) (pR : zPR M) (pC : zPC M) (pF : zPF M) (hQ : ∀ (M' : zM) (v : Int32), zSk zMm M' → zIv mLo mHi M' → zFr [(336, 338, none), (340, 363, none)] M M' → zPR M' → zPC M' → zPF M' → ((zI M' 336 5).toInt = (zI M 336 5).toInt) → 0 ≤ v.toInt → v.toInt ≤ 1 → Q (some (.int v)) M') : zCall X l 2 0 0 229 [.ref 336, .int a] M Q := by
  have ga := zrg a
  refine zs_in (by decide) mf229 (Nat.le_of_ble_eq_true rfl) ?_
  show zGo X l 2 0 0 229 0 [(0, .ref 336), (1, .int a)] [] M _
  refine zs_iload_n (pc := 0) t229_0 rfl ?_
  refine zs_i2l (pc := 1) t229_1 rfl ?_
  refine zs_lconst (pc := 2) t229_2 (v := 0) (by decide) ?_
  refine zs_lconst (pc := 3) t229_3 (v := 1) (by decide) ?_
  by_cases w1 : 0 ≤ a.toInt ∧ a.toInt ≤ 1
  · refine zs_invS (pc := 4) (as := [.long a.toInt64, .long (0 : Int64), .long (1 : Int64)]) (st := []) t229_4 (by decide) mf228 rfl rfl ⟨by decide, by decide, Nat.le_of_ble_eq_true rfl, Nat.le_of_ble_eq_true rfl⟩ (K228T (zi2l rfl) ll0 ll1 (by omega) ?_) (fun _ _ q => q)
    show zGo X l 2 0 0 229 7 [(0, .ref 336), (1, .int a)] [.int (1 : Int32)] M _
    refine zs_if_eqF (pc := 7) t229_7 li1 (by decide) ?_
    refine zs_aload_n (pc := 10) t229_10 rfl ?_
    refine zs_get (pc := 11) t229_11 (by decide) (zk1 (hs.k fk_zMm_336)) (hs.p rfl fv_zMm_336_2) ?_
    refine zs_iload_n (pc := 14) t229_14 rfl ?_
    obtain ⟨w2n, w2⟩ : ∃ n : Nat, a.toInt = (n : Int) := ⟨(a.toInt).toNat, by omega⟩
    have w3 := ib338 hI w2n
    refine zs_bald (pc := 15) t229_15 (j := w2n) (Or.inr (zk1 (hs.k fk_zMm_338))) (show a.toInt = ((w2n : Nat) : Int) by omega) (zk2 (hs.k fk_zMm_338) (by omega)) rfl ?_
    by_cases w4 : (zI M 338 w2n).toInt ≠ 0
    · refine zs_if_neT (pc := 16) t229_16 rfl (by omega) ?_
      refine zs_aload_n (pc := 21) t229_21 rfl ?_
      refine zs_iconst (pc := 22) t229_22 (v := 0) (by decide) ?_
      have w5 := ibA0 hI
      have w6 : (zI M 337 0).toInt = (zI M 337 0).toInt := (congrArg Int32.toInt rfl).trans rfl
      have w7 := ibA2 hI
      have w8 : (zI M 337 2).toInt = (zI M 337 2).toInt := (congrArg Int32.toInt rfl).trans rfl
      have w9 := ibA1 hI
      have w10 : (zI M 337 1).toInt = (zI M 337 1).toInt := (congrArg Int32.toInt rfl).trans rfl
      refine zs_invV (pc := 23) (k := 336) (as' := [.int (0 : Int32)]) (st := []) t229_23 mf230 rfl rfl (Or.inl ⟨by decide, (zk1 (hs.k fk_zMm_336))⟩) ⟨by decide, by decide, Nat.le_of_ble_eq_true rfl, Nat.le_of_ble_eq_true rfl⟩ (K230_0 hs hI pR pC ?_) (fun _ _ q => q)
      intro w11M w11s w11I w11F w11J w11PR w11PC w11PF w11t0 w11t1 w11t2
      have w12 := ibA0 w11I
      have w13 := ibA2 w11I
      have w14 := ibA1 w11I
      show zGo X l 2 0 0 229 26 [(0, .ref 336), (1, .int a)] [] w11M _
      refine zs_aload_n (pc := 26) t229_26 rfl ?_
      refine zs_iconst (pc := 27) t229_27 (v := 1) (by decide) ?_
      refine zs_iload_n (pc := 28) t229_28 rfl ?_
      obtain ⟨w15v, w15e, w15⟩ := ziadd (a := (1 : Int32)) (b := a) li1 rfl (by omega) (by omega)
      refine zs_iadd (pc := 29) t229_29 (c := w15v) w15e ?_
      refine zs_iconst (pc := 30) t229_30 (v := 0) (by decide) ?_
      have w16 : (zI w11M 338 w2n).toInt = (zI M 338 w2n).toInt := (congrArg Int32.toInt ((w11F 338 w2n rfl).trans rfl)).trans rfl
      have w17k : zRk (zrow w11M (1 + w2n)) := (w11PR.2.1 w2n (by omega) (by omega))
      refine zs_invV (pc := 31) (k := 336) (as' := [.int w15v, .int (0 : Int32)]) (st := []) t229_31 mf226 rfl rfl (Or.inl ⟨by decide, (zk1 (w11s.k fk_zMm_336))⟩) ⟨by decide, by decide, Nat.le_of_ble_eq_true rfl, Nat.le_of_ble_eq_true rfl⟩ (K226 (na := (1 + w2n)) (nb := 0) w11s w11I (by omega) (by decide) (by omega) (by omega) (by omega) w17k ?_) (fun _ _ q => q)
      intro w17M w17s w17I w17F w17J w17c
      have w17R : zPR w17M := zPR.cp w11PR w11I w17k w17c (w17F.eq rfl)
      have w17C : zPC w17M := zPC.cp w11PC w11I w11PR w17k w17c
      show zGo X l 2 0 0 229 34 [(0, .ref 336), (1, .int a)] [] w17M _
      refine zs_iconst (pc := 34) t229_34 (v := 1) (by decide) ?_
      have w18 := ib336_5 hI
      have w19 : (zI w17M 336 5).toInt = (zI M 336 5).toInt := (congrArg Int32.toInt ((w17F 336 5 rfl).trans ((w11F 336 5 rfl).trans rfl))).trans rfl
      have w20 := li1
      exact zs_iret (pc := 35) t229_35 mr229 (by decide) (hQ _ _ w17s w17I (((zFr.refl).trans (w11F.mono rfl)).trans (w17F.mono rfl)) w17R w17C (zPF.fr w11PF (w17F.eq rfl) w17J) (by omega) (by decide) (by decide))
    · refine zs_if_neF (pc := 16) t229_16 rfl (by omega) ?_
      refine zs_iconst (pc := 19) t229_19 (v := 0) (by decide) ?_
      have w21 := ib336_5 hI
      have w22 : (zI M 336 5).toInt = (zI M 336 5).toInt := (congrArg Int32.toInt rfl).trans rfl
      have w23 := li0
      exact zs_iret (pc := 20) t229_20 mr229 (by decide) (hQ _ _ hs hI (zFr.refl) pR pC pF (by omega) (by decide) (by decide))
  · refine zs_invS (pc := 4) (as := [.long a.toInt64, .long (0 : Int64), .long (1 : Int64)]) (st := []) t229_4 (by decide) mf228 rfl rfl ⟨by decide, by decide, Nat.le_of_ble_eq_true rfl, Nat.le_of_ble_eq_true rfl⟩ (K228F (zi2l rfl) ll0 ll1 (by omega) ?_) (fun _ _ q => q)
    show zGo X l 2 0 0 229 7 [(0, .ref 336), (1, .int a)] [.int (0 : Int32)] M _
    refine zs_if_eqT (pc := 7) t229_7 li0 (by decide) ?_
    refine zs_iconst (pc := 19) t229_19 (v := 0) (by decide) ?_
    have w24 := ib336_5 hI
    have w25 : (zI M 336 5).toInt = (zI M 336 5).toInt := (congrArg Int32.toInt rfl).trans rfl
    have w26 := li0
    exact zs_iret (pc := 20) t229_20 mr229 (by decide) (hQ _ _ hs hI (zFr.refl) pR pC pF (by omega) (by decide) (by decide))
theorem T346 {X : zX} {l : Launch} {M : zM} {Q : Option Value → zM → Prop} (hs : zSk zMm M) (hI : zIv mLo mHi M) (pR : zPR M) (pC : zPC M) (pF : zPF M) (hQ : ∀ (M' : zM) (v : Int32), zSk zMm M' → zIv mLo mHi M' → zFr [(336, 338, none), (340, 363, none)] M M' → zPR M' → zPC M' → zPF M' → ((zI M' 336 5).toInt = (zI M 336 5).toInt) → Q (some (.int v)) M') : zCall X l 2 0 0 346 [.ref 336] M Q := by
  refine zs_in (by decide) mf346 (Nat.le_of_ble_eq_true rfl) ?_
  show zGo X l 2 0 0 346 0 [(0, .ref 336)] [] M _
  refine zs_aload_n (pc := 0) t346_0 rfl ?_
  refine zs_iconst (pc := 1) t346_1 (v := 0) (by decide) ?_
  have w1 : zIv mLo mHi (zsI M 336 50 (0 : Int32)) := zIv.put hI (show 0 ≤ (0 : Int32).toInt ∧ (0 : Int32).toInt ≤ 150 from ⟨by decide, by decide⟩)
  refine zs_putI (pc := 2) t346_2 (zk1 (hs.k fk_zMm_336)) rfl ?_
  refine zs_iconst (pc := 5) t346_5 (v := 0) (by decide) ?_
  refine zs_istore_n (pc := 6) t346_6 (ls' := [(1, .int (0 : Int32)), (0, .ref 336)]) (zml mf346 (by decide)) rfl ?_
  have w2L : ∀ (m : Nat) (w2x1 : Int32) (w2M : zM), (0 ≤ w2x1.toInt ∧ w2x1.toInt ≤ 8) → zSk zMm w2M → zIv mLo mHi w2M → zFr [(363, 363, none), (336, 336, some 50)] (zsI M 336 50 (0 : Int32)) w2M → zJ w2M 351 = zJ (zsI M 336 50 (0 : Int32)) 351 → ((zI w2M 336 50).toInt ≤ 6 * w2x1.toInt) → 8 - w2x1.toInt ≤ (m : Int) → zGo X l 2 0 0 346 7 [(0, .ref 336), (1, .int w2x1)] [] w2M Q := by
    intro m
    induction m using Nat.strongRecOn with
    | ind w2m w2ih =>
      intro w2x1 w2M w2b1 w2s w2I w2F w2J w2r0 w2q
      have w3 := ib336_50 w2I
      refine zs_iload_n (pc := 7) t346_7 rfl ?_
      refine zs_aload_n (pc := 8) t346_8 rfl ?_
      refine zs_get (pc := 9) t346_9 (by decide) (zk1 (w2s.k fk_zMm_336)) (w2s.p rfl fv_zMm_336_0) ?_
      refine zs_iconst (pc := 12) t346_12 (v := 0) (by decide) ?_
      have w4 := ibA0 hI
      refine zs_iald (pc := 13) t346_13 (j := 0) (by decide) (zk1 (w2s.k fk_zMm_337)) li0 (zk2 (w2s.k fk_zMm_337) (by decide)) ((w2F 337 0 rfl).trans ((zIo (by decide)).trans rfl)) ?_
      by_cases w5 : (zI M 337 0).toInt ≤ w2x1.toInt
      · refine zs_icmp_geT (pc := 14) t346_14 rfl rfl (by omega) ?_
        refine zs_aload_n (pc := 40) t346_40 rfl ?_
        refine zs_bipush (pc := 41) t346_41 (v := 115) (by decide) ?_
        have w6 : (115 : Int32).toInt = 115 := li115
        have w7 : (zI w2M 336 50).toInt = (zI w2M 336 50).toInt := (congrArg Int32.toInt rfl).trans rfl
        have w8 : (zI w2M 336 50).toInt = (zI w2M 336 50).toInt := (congrArg Int32.toInt rfl).trans rfl
        refine zs_invV (pc := 43) (k := 336) (as' := [.int (115 : Int32)]) (st := []) t346_43 mf347 rfl rfl (Or.inl ⟨by decide, (zk1 (w2s.k fk_zMm_336))⟩) ⟨by decide, by decide, Nat.le_of_ble_eq_true rfl, Nat.le_of_ble_eq_true rfl⟩ (K347 w2s w2I (by omega) ?_) (fun _ _ q => q)
        intro w9M w9s w9I w9F w9J w9t0
        have w10 := ib336_50 w9I
        show zGo X l 2 0 0 346 46 [(0, .ref 336), (1, .int w2x1)] [] w9M _
        refine zs_iconst (pc := 46) t346_46 (v := 5) (by decide) ?_
        refine zs_istore_n (pc := 47) t346_47 (ls' := [(1, .int (5 : Int32)), (0, .ref 336)]) (zml mf346 (by decide)) rfl ?_
        refine zs_iload_n (pc := 48) t346_48 rfl ?_
        refine zs_bipush (pc := 49) t346_49 (v := 8) (by decide) ?_
        refine zs_icmp_gtF (pc := 51) t346_51 li5 li8 (by decide) ?_
        refine zs_aload_n (pc := 54) t346_54 rfl ?_
        refine zs_aload_n (pc := 55) t346_55 rfl ?_
        refine zs_get (pc := 56) t346_56 (by decide) (zk1 (w9s.k fk_zMm_336)) (w9s.p rfl fv_zMm_336_0) ?_
        refine zs_iload_n (pc := 59) t346_59 rfl ?_
        have w11 := ibA5 hI
        refine zs_iald (pc := 60) t346_60 (j := 5) (by decide) (zk1 (w9s.k fk_zMm_337)) li5 (zk2 (w9s.k fk_zMm_337) (by decide)) ((w9F 337 5 rfl).trans ((w2F 337 5 rfl).trans ((zIo (by decide)).trans rfl))) ?_
        refine zs_iload_n (pc := 61) t346_61 rfl ?_
        refine zs_bipush (pc := 62) t346_62 (v := 8) (by decide) ?_
        refine zs_icmp_neT (pc := 64) t346_64 li5 li8 (by decide) ?_
        refine zs_bipush (pc := 72) t346_72 (v := 44) (by decide) ?_
        have w12 : (44 : Int32).toInt = 44 := li44
        have w13 : (zI w9M 336 50).toInt = (zI w9M 336 50).toInt := (congrArg Int32.toInt rfl).trans rfl
        have w14 : (zI w9M 336 50).toInt = (zI w9M 336 50).toInt := (congrArg Int32.toInt rfl).trans rfl
        refine zs_invV (pc := 74) (k := 336) (as' := [.int (zI M 337 5), .int (44 : Int32)]) (st := []) t346_74 mf348 rfl rfl (Or.inl ⟨by decide, (zk1 (w9s.k fk_zMm_336))⟩) ⟨by decide, by decide, Nat.le_of_ble_eq_true rfl, Nat.le_of_ble_eq_true rfl⟩ (K348 w9s w9I ⟨by omega, by omega⟩ (by omega) ?_) (fun _ _ q => q)
        intro w15M w15s w15I w15F w15J w15t0
        have w16 := ib336_50 w15I
        show zGo X l 2 0 0 346 77 [(1, .int (5 : Int32)), (0, .ref 336)] [] w15M _
        refine zs_iinc (pc := 77) t346_77 (ls' := [(1, .int (6 : Int32)), (0, .ref 336)]) (zml mf346 (by decide)) rfl (c := 6) (by decide) rfl ?_
        refine zs_goto (pc := 80) t346_80 ?_
        refine zs_iload_n (pc := 48) t346_48 rfl ?_
        refine zs_bipush (pc := 49) t346_49 (v := 8) (by decide) ?_
        refine zs_icmp_gtF (pc := 51) t346_51 li6 li8 (by decide) ?_
        refine zs_aload_n (pc := 54) t346_54 rfl ?_
        refine zs_aload_n (pc := 55) t346_55 rfl ?_
        refine zs_get (pc := 56) t346_56 (by decide) (zk1 (w15s.k fk_zMm_336)) (w15s.p rfl fv_zMm_336_0) ?_
        refine zs_iload_n (pc := 59) t346_59 rfl ?_
        have w17 := ibA6 hI
        refine zs_iald (pc := 60) t346_60 (j := 6) (by decide) (zk1 (w15s.k fk_zMm_337)) li6 (zk2 (w15s.k fk_zMm_337) (by decide)) ((w15F 337 6 rfl).trans ((w9F 337 6 rfl).trans ((w2F 337 6 rfl).trans ((zIo (by decide)).trans rfl)))) ?_
        refine zs_iload_n (pc := 61) t346_61 rfl ?_
        refine zs_bipush (pc := 62) t346_62 (v := 8) (by decide) ?_
        refine zs_icmp_neT (pc := 64) t346_64 li6 li8 (by decide) ?_
        refine zs_bipush (pc := 72) t346_72 (v := 44) (by decide) ?_
        have w18 : (44 : Int32).toInt = 44 := li44
        have w19 : (zI w15M 336 50).toInt = (zI w15M 336 50).toInt := (congrArg Int32.toInt rfl).trans rfl
        have w20 : (zI w15M 336 50).toInt = (zI w15M 336 50).toInt := (congrArg Int32.toInt rfl).trans rfl
        refine zs_invV (pc := 74) (k := 336) (as' := [.int (zI M 337 6), .int (44 : Int32)]) (st := []) t346_74 mf348 rfl rfl (Or.inl ⟨by decide, (zk1 (w15s.k fk_zMm_336))⟩) ⟨by decide, by decide, Nat.le_of_ble_eq_true rfl, Nat.le_of_ble_eq_true rfl⟩ (K348 w15s w15I ⟨by omega, by omega⟩ (by omega) ?_) (fun _ _ q => q)
        intro w21M w21s w21I w21F w21J w21t0
        have w22 := ib336_50 w21I
        show zGo X l 2 0 0 346 77 [(1, .int (6 : Int32)), (0, .ref 336)] [] w21M _
        refine zs_iinc (pc := 77) t346_77 (ls' := [(1, .int (7 : Int32)), (0, .ref 336)]) (zml mf346 (by decide)) rfl (c := 7) (by decide) rfl ?_
        refine zs_goto (pc := 80) t346_80 ?_
        refine zs_iload_n (pc := 48) t346_48 rfl ?_
        refine zs_bipush (pc := 49) t346_49 (v := 8) (by decide) ?_
        refine zs_icmp_gtF (pc := 51) t346_51 li7 li8 (by decide) ?_
        refine zs_aload_n (pc := 54) t346_54 rfl ?_
        refine zs_aload_n (pc := 55) t346_55 rfl ?_
        refine zs_get (pc := 56) t346_56 (by decide) (zk1 (w21s.k fk_zMm_336)) (w21s.p rfl fv_zMm_336_0) ?_
        refine zs_iload_n (pc := 59) t346_59 rfl ?_
        have w23 := ibA7 hI
        refine zs_iald (pc := 60) t346_60 (j := 7) (by decide) (zk1 (w21s.k fk_zMm_337)) li7 (zk2 (w21s.k fk_zMm_337) (by decide)) ((w21F 337 7 rfl).trans ((w15F 337 7 rfl).trans ((w9F 337 7 rfl).trans ((w2F 337 7 rfl).trans ((zIo (by decide)).trans rfl))))) ?_
        refine zs_iload_n (pc := 61) t346_61 rfl ?_
        refine zs_bipush (pc := 62) t346_62 (v := 8) (by decide) ?_
        refine zs_icmp_neT (pc := 64) t346_64 li7 li8 (by decide) ?_
        refine zs_bipush (pc := 72) t346_72 (v := 44) (by decide) ?_
        have w24 : (44 : Int32).toInt = 44 := li44
        have w25 : (zI w21M 336 50).toInt = (zI w21M 336 50).toInt := (congrArg Int32.toInt rfl).trans rfl
        have w26 : (zI w21M 336 50).toInt = (zI w21M 336 50).toInt := (congrArg Int32.toInt rfl).trans rfl
        refine zs_invV (pc := 74) (k := 336) (as' := [.int (zI M 337 7), .int (44 : Int32)]) (st := []) t346_74 mf348 rfl rfl (Or.inl ⟨by decide, (zk1 (w21s.k fk_zMm_336))⟩) ⟨by decide, by decide, Nat.le_of_ble_eq_true rfl, Nat.le_of_ble_eq_true rfl⟩ (K348 w21s w21I ⟨by omega, by omega⟩ (by omega) ?_) (fun _ _ q => q)
        intro w27M w27s w27I w27F w27J w27t0
        have w28 := ib336_50 w27I
        show zGo X l 2 0 0 346 77 [(1, .int (7 : Int32)), (0, .ref 336)] [] w27M _
        refine zs_iinc (pc := 77) t346_77 (ls' := [(1, .int (8 : Int32)), (0, .ref 336)]) (zml mf346 (by decide)) rfl (c := 8) (by decide) rfl ?_
        refine zs_goto (pc := 80) t346_80 ?_
        refine zs_iload_n (pc := 48) t346_48 rfl ?_
        refine zs_bipush (pc := 49) t346_49 (v := 8) (by decide) ?_
        refine zs_icmp_gtF (pc := 51) t346_51 li8 li8 (by decide) ?_
        refine zs_aload_n (pc := 54) t346_54 rfl ?_
        refine zs_aload_n (pc := 55) t346_55 rfl ?_
        refine zs_get (pc := 56) t346_56 (by decide) (zk1 (w27s.k fk_zMm_336)) (w27s.p rfl fv_zMm_336_0) ?_
        refine zs_iload_n (pc := 59) t346_59 rfl ?_
        have w29 := ibA8 hI
        refine zs_iald (pc := 60) t346_60 (j := 8) (by decide) (zk1 (w27s.k fk_zMm_337)) li8 (zk2 (w27s.k fk_zMm_337) (by decide)) ((w27F 337 8 rfl).trans ((w21F 337 8 rfl).trans ((w15F 337 8 rfl).trans ((w9F 337 8 rfl).trans ((w2F 337 8 rfl).trans ((zIo (by decide)).trans rfl)))))) ?_
        refine zs_iload_n (pc := 61) t346_61 rfl ?_
        refine zs_bipush (pc := 62) t346_62 (v := 8) (by decide) ?_
        refine zs_icmp_neF (pc := 64) t346_64 li8 li8 (by decide) ?_
        refine zs_bipush (pc := 67) t346_67 (v := 59) (by decide) ?_
        refine zs_goto (pc := 69) t346_69 ?_
        have w30 : (59 : Int32).toInt = 59 := li59
        have w31 : (zI w27M 336 50).toInt = (zI w27M 336 50).toInt := (congrArg Int32.toInt rfl).trans rfl
        have w32 : (zI w27M 336 50).toInt = (zI w27M 336 50).toInt := (congrArg Int32.toInt rfl).trans rfl
        refine zs_invV (pc := 74) (k := 336) (as' := [.int (zI M 337 8), .int (59 : Int32)]) (st := []) t346_74 mf348 rfl rfl (Or.inl ⟨by decide, (zk1 (w27s.k fk_zMm_336))⟩) ⟨by decide, by decide, Nat.le_of_ble_eq_true rfl, Nat.le_of_ble_eq_true rfl⟩ (K348 w27s w27I ⟨by omega, by omega⟩ (by omega) ?_) (fun _ _ q => q)
        intro w33M w33s w33I w33F w33J w33t0
        have w34 := ib336_50 w33I
        show zGo X l 2 0 0 346 77 [(1, .int (8 : Int32)), (0, .ref 336)] [] w33M _
        refine zs_iinc (pc := 77) t346_77 (ls' := [(1, .int (9 : Int32)), (0, .ref 336)]) (zml mf346 (by decide)) rfl (c := 9) (by decide) rfl ?_
        refine zs_goto (pc := 80) t346_80 ?_
        refine zs_iload_n (pc := 48) t346_48 rfl ?_
        refine zs_bipush (pc := 49) t346_49 (v := 8) (by decide) ?_
        refine zs_icmp_gtT (pc := 51) t346_51 li9 li8 (by decide) ?_
        refine zs_aload_n (pc := 83) t346_83 rfl ?_
        refine zs_bipush (pc := 84) t346_84 (v := 103) (by decide) ?_
        have w35 : (103 : Int32).toInt = 103 := li103
        have w36 : (zI w33M 336 50).toInt = (zI w33M 336 50).toInt := (congrArg Int32.toInt rfl).trans rfl
        have w37 : (zI w33M 336 50).toInt = (zI w33M 336 50).toInt := (congrArg Int32.toInt rfl).trans rfl
        refine zs_invV (pc := 86) (k := 336) (as' := [.int (103 : Int32)]) (st := []) t346_86 mf347 rfl rfl (Or.inl ⟨by decide, (zk1 (w33s.k fk_zMm_336))⟩) ⟨by decide, by decide, Nat.le_of_ble_eq_true rfl, Nat.le_of_ble_eq_true rfl⟩ (K347 w33s w33I (by omega) ?_) (fun _ _ q => q)
        intro w38M w38s w38I w38F w38J w38t0
        have w39 := ib336_50 w38I
        show zGo X l 2 0 0 346 89 [(1, .int (9 : Int32)), (0, .ref 336)] [] w38M _
        refine zs_aload_n (pc := 89) t346_89 rfl ?_
        refine zs_aload_n (pc := 90) t346_90 rfl ?_
        refine zs_get (pc := 91) t346_91 (by decide) (zk1 (w38s.k fk_zMm_336)) (w38s.p rfl fv_zMm_336_0) ?_
        refine zs_bipush (pc := 94) t346_94 (v := 9) (by decide) ?_
        have w40 := ibA9 hI
        refine zs_iald (pc := 96) t346_96 (j := 9) (by decide) (zk1 (w38s.k fk_zMm_337)) li9 (zk2 (w38s.k fk_zMm_337) (by decide)) ((w38F 337 9 rfl).trans ((w33F 337 9 rfl).trans ((w27F 337 9 rfl).trans ((w21F 337 9 rfl).trans ((w15F 337 9 rfl).trans ((w9F 337 9 rfl).trans ((w2F 337 9 rfl).trans ((zIo (by decide)).trans rfl)))))))) ?_
        refine zs_bipush (pc := 97) t346_97 (v := 59) (by decide) ?_
        have w41 : (59 : Int32).toInt = 59 := li59
        have w42 : (zI w38M 336 50).toInt = (zI w38M 336 50).toInt := (congrArg Int32.toInt rfl).trans rfl
        have w43 : (zI w38M 336 50).toInt = (zI w38M 336 50).toInt := (congrArg Int32.toInt rfl).trans rfl
        refine zs_invV (pc := 99) (k := 336) (as' := [.int (zI M 337 9), .int (59 : Int32)]) (st := []) t346_99 mf348 rfl rfl (Or.inl ⟨by decide, (zk1 (w38s.k fk_zMm_336))⟩) ⟨by decide, by decide, Nat.le_of_ble_eq_true rfl, Nat.le_of_ble_eq_true rfl⟩ (K348 w38s w38I ⟨by omega, by omega⟩ (by omega) ?_) (fun _ _ q => q)
        intro w44M w44s w44I w44F w44J w44t0
        have w45 := ib336_50 w44I
        show zGo X l 2 0 0 346 102 [(1, .int (9 : Int32)), (0, .ref 336)] [] w44M _
        refine zs_aload_n (pc := 102) t346_102 rfl ?_
        refine zs_bipush (pc := 103) t346_103 (v := 119) (by decide) ?_
        have w46 : (119 : Int32).toInt = 119 := li119
        have w47 : (zI w44M 336 50).toInt = (zI w44M 336 50).toInt := (congrArg Int32.toInt rfl).trans rfl
        have w48 : (zI w44M 336 50).toInt = (zI w44M 336 50).toInt := (congrArg Int32.toInt rfl).trans rfl
        refine zs_invV (pc := 105) (k := 336) (as' := [.int (119 : Int32)]) (st := []) t346_105 mf347 rfl rfl (Or.inl ⟨by decide, (zk1 (w44s.k fk_zMm_336))⟩) ⟨by decide, by decide, Nat.le_of_ble_eq_true rfl, Nat.le_of_ble_eq_true rfl⟩ (K347 w44s w44I (by omega) ?_) (fun _ _ q => q)
        intro w49M w49s w49I w49F w49J w49t0
        have w50 := ib336_50 w49I
        show zGo X l 2 0 0 346 108 [(1, .int (9 : Int32)), (0, .ref 336)] [] w49M _
        refine zs_aload_n (pc := 108) t346_108 rfl ?_
        refine zs_aload_n (pc := 109) t346_109 rfl ?_
        refine zs_get (pc := 110) t346_110 (by decide) (zk1 (w49s.k fk_zMm_336)) (w49s.p rfl fv_zMm_336_0) ?_
        refine zs_bipush (pc := 113) t346_113 (v := 10) (by decide) ?_
        have w51 := ibA10 hI
        refine zs_iald (pc := 115) t346_115 (j := 10) (by decide) (zk1 (w49s.k fk_zMm_337)) li10 (zk2 (w49s.k fk_zMm_337) (by decide)) ((w49F 337 10 rfl).trans ((w44F 337 10 rfl).trans ((w38F 337 10 rfl).trans ((w33F 337 10 rfl).trans ((w27F 337 10 rfl).trans ((w21F 337 10 rfl).trans ((w15F 337 10 rfl).trans ((w9F 337 10 rfl).trans ((w2F 337 10 rfl).trans ((zIo (by decide)).trans rfl)))))))))) ?_
        refine zs_bipush (pc := 116) t346_116 (v := 44) (by decide) ?_
        have w52 : (44 : Int32).toInt = 44 := li44
        have w53 : (zI w49M 336 50).toInt = (zI w49M 336 50).toInt := (congrArg Int32.toInt rfl).trans rfl
        have w54 : (zI w49M 336 50).toInt = (zI w49M 336 50).toInt := (congrArg Int32.toInt rfl).trans rfl
        refine zs_invV (pc := 118) (k := 336) (as' := [.int (zI M 337 10), .int (44 : Int32)]) (st := []) t346_118 mf348 rfl rfl (Or.inl ⟨by decide, (zk1 (w49s.k fk_zMm_336))⟩) ⟨by decide, by decide, Nat.le_of_ble_eq_true rfl, Nat.le_of_ble_eq_true rfl⟩ (K348 w49s w49I ⟨by omega, by omega⟩ (by omega) ?_) (fun _ _ q => q)
        intro w55M w55s w55I w55F w55J w55t0
        have w56 := ib336_50 w55I
        show zGo X l 2 0 0 346 121 [(1, .int (9 : Int32)), (0, .ref 336)] [] w55M _
        refine zs_aload_n (pc := 121) t346_121 rfl ?_
        refine zs_aload_n (pc := 122) t346_122 rfl ?_
        refine zs_get (pc := 123) t346_123 (by decide) (zk1 (w55s.k fk_zMm_336)) (w55s.p rfl fv_zMm_336_0) ?_
        refine zs_bipush (pc := 126) t346_126 (v := 11) (by decide) ?_
        have w57 := ibA11 hI
        refine zs_iald (pc := 128) t346_128 (j := 11) (by decide) (zk1 (w55s.k fk_zMm_337)) li11 (zk2 (w55s.k fk_zMm_337) (by decide)) ((w55F 337 11 rfl).trans ((w49F 337 11 rfl).trans ((w44F 337 11 rfl).trans ((w38F 337 11 rfl).trans ((w33F 337 11 rfl).trans ((w27F 337 11 rfl).trans ((w21F 337 11 rfl).trans ((w15F 337 11 rfl).trans ((w9F 337 11 rfl).trans ((w2F 337 11 rfl).trans ((zIo (by decide)).trans rfl))))))))))) ?_
        refine zs_bipush (pc := 129) t346_129 (v := 59) (by decide) ?_
        have w58 : (59 : Int32).toInt = 59 := li59
        have w59 : (zI w55M 336 50).toInt = (zI w55M 336 50).toInt := (congrArg Int32.toInt rfl).trans rfl
        have w60 : (zI w55M 336 50).toInt = (zI w55M 336 50).toInt := (congrArg Int32.toInt rfl).trans rfl
        refine zs_invV (pc := 131) (k := 336) (as' := [.int (zI M 337 11), .int (59 : Int32)]) (st := []) t346_131 mf348 rfl rfl (Or.inl ⟨by decide, (zk1 (w55s.k fk_zMm_336))⟩) ⟨by decide, by decide, Nat.le_of_ble_eq_true rfl, Nat.le_of_ble_eq_true rfl⟩ (K348 w55s w55I ⟨by omega, by omega⟩ (by omega) ?_) (fun _ _ q => q)
        intro w61M w61s w61I w61F w61J w61t0
        have w62 := ib336_50 w61I
        show zGo X l 2 0 0 346 134 [(1, .int (9 : Int32)), (0, .ref 336)] [] w61M _
        refine zs_aload_n (pc := 134) t346_134 rfl ?_
        refine zs_bipush (pc := 135) t346_135 (v := 113) (by decide) ?_
        have w63 : (113 : Int32).toInt = 113 := li113
        have w64 : (zI w61M 336 50).toInt = (zI w61M 336 50).toInt := (congrArg Int32.toInt rfl).trans rfl
        have w65 : (zI w61M 336 50).toInt = (zI w61M 336 50).toInt := (congrArg Int32.toInt rfl).trans rfl
        refine zs_invV (pc := 137) (k := 336) (as' := [.int (113 : Int32)]) (st := []) t346_137 mf347 rfl rfl (Or.inl ⟨by decide, (zk1 (w61s.k fk_zMm_336))⟩) ⟨by decide, by decide, Nat.le_of_ble_eq_true rfl, Nat.le_of_ble_eq_true rfl⟩ (K347 w61s w61I (by omega) ?_) (fun _ _ q => q)
        intro w66M w66s w66I w66F w66J w66t0
        have w67 := ib336_50 w66I
        show zGo X l 2 0 0 346 140 [(1, .int (9 : Int32)), (0, .ref 336)] [] w66M _
        refine zs_aload_n (pc := 140) t346_140 rfl ?_
        refine zs_aload_n (pc := 141) t346_141 rfl ?_
        refine zs_get (pc := 142) t346_142 (by decide) (zk1 (w66s.k fk_zMm_336)) (w66s.p rfl fv_zMm_336_0) ?_
        refine zs_bipush (pc := 145) t346_145 (v := 12) (by decide) ?_
        have w68 := ibA12 hI
        refine zs_iald (pc := 147) t346_147 (j := 12) (by decide) (zk1 (w66s.k fk_zMm_337)) li12 (zk2 (w66s.k fk_zMm_337) (by decide)) ((w66F 337 12 rfl).trans ((w61F 337 12 rfl).trans ((w55F 337 12 rfl).trans ((w49F 337 12 rfl).trans ((w44F 337 12 rfl).trans ((w38F 337 12 rfl).trans ((w33F 337 12 rfl).trans ((w27F 337 12 rfl).trans ((w21F 337 12 rfl).trans ((w15F 337 12 rfl).trans ((w9F 337 12 rfl).trans ((w2F 337 12 rfl).trans ((zIo (by decide)).trans rfl))))))))))))) ?_
        refine zs_bipush (pc := 148) t346_148 (v := 44) (by decide) ?_
        have w69 : (44 : Int32).toInt = 44 := li44
        have w70 : (zI w66M 336 50).toInt = (zI w66M 336 50).toInt := (congrArg Int32.toInt rfl).trans rfl
        have w71 : (zI w66M 336 50).toInt = (zI w66M 336 50).toInt := (congrArg Int32.toInt rfl).trans rfl
        refine zs_invV (pc := 150) (k := 336) (as' := [.int (zI M 337 12), .int (44 : Int32)]) (st := []) t346_150 mf348 rfl rfl (Or.inl ⟨by decide, (zk1 (w66s.k fk_zMm_336))⟩) ⟨by decide, by decide, Nat.le_of_ble_eq_true rfl, Nat.le_of_ble_eq_true rfl⟩ (K348 w66s w66I ⟨by omega, by omega⟩ (by omega) ?_) (fun _ _ q => q)
        intro w72M w72s w72I w72F w72J w72t0
        have w73 := ib336_50 w72I
        show zGo X l 2 0 0 346 153 [(1, .int (9 : Int32)), (0, .ref 336)] [] w72M _
        refine zs_aload_n (pc := 153) t346_153 rfl ?_
        refine zs_aload_n (pc := 154) t346_154 rfl ?_
        refine zs_get (pc := 155) t346_155 (by decide) (zk1 (w72s.k fk_zMm_336)) (w72s.p rfl fv_zMm_336_0) ?_
        refine zs_bipush (pc := 158) t346_158 (v := 13) (by decide) ?_
        have w74 := ibA13 hI
        refine zs_iald (pc := 160) t346_160 (j := 13) (by decide) (zk1 (w72s.k fk_zMm_337)) li13 (zk2 (w72s.k fk_zMm_337) (by decide)) ((w72F 337 13 rfl).trans ((w66F 337 13 rfl).trans ((w61F 337 13 rfl).trans ((w55F 337 13 rfl).trans ((w49F 337 13 rfl).trans ((w44F 337 13 rfl).trans ((w38F 337 13 rfl).trans ((w33F 337 13 rfl).trans ((w27F 337 13 rfl).trans ((w21F 337 13 rfl).trans ((w15F 337 13 rfl).trans ((w9F 337 13 rfl).trans ((w2F 337 13 rfl).trans ((zIo (by decide)).trans rfl)))))))))))))) ?_
        refine zs_bipush (pc := 161) t346_161 (v := 59) (by decide) ?_
        have w75 : (59 : Int32).toInt = 59 := li59
        have w76 : (zI w72M 336 50).toInt = (zI w72M 336 50).toInt := (congrArg Int32.toInt rfl).trans rfl
        have w77 : (zI w72M 336 50).toInt = (zI w72M 336 50).toInt := (congrArg Int32.toInt rfl).trans rfl
        refine zs_invV (pc := 163) (k := 336) (as' := [.int (zI M 337 13), .int (59 : Int32)]) (st := []) t346_163 mf348 rfl rfl (Or.inl ⟨by decide, (zk1 (w72s.k fk_zMm_336))⟩) ⟨by decide, by decide, Nat.le_of_ble_eq_true rfl, Nat.le_of_ble_eq_true rfl⟩ (K348 w72s w72I ⟨by omega, by omega⟩ (by omega) ?_) (fun _ _ q => q)
        intro w78M w78s w78I w78F w78J w78t0
        have w79 := ib336_50 w78I
        show zGo X l 2 0 0 346 166 [(1, .int (9 : Int32)), (0, .ref 336)] [] w78M _
        refine zs_aload_n (pc := 166) t346_166 rfl ?_
        refine zs_get (pc := 167) t346_167 (by decide) (zk1 (w78s.k fk_zMm_336)) (zfvi rfl rfl) ?_
        have w80 := ib336_5 hI
        have w81 : (zI w78M 336 5).toInt = (zI M 336 5).toInt := (congrArg Int32.toInt ((w78F 336 5 rfl).trans ((w72F 336 5 rfl).trans ((w66F 336 5 rfl).trans ((w61F 336 5 rfl).trans ((w55F 336 5 rfl).trans ((w49F 336 5 rfl).trans ((w44F 336 5 rfl).trans ((w38F 336 5 rfl).trans ((w33F 336 5 rfl).trans ((w27F 336 5 rfl).trans ((w21F 336 5 rfl).trans ((w15F 336 5 rfl).trans ((w9F 336 5 rfl).trans ((w2F 336 5 rfl).trans ((zIoj (by decide)).trans rfl)))))))))))))))).trans rfl
        exact zs_iret (pc := 170) t346_170 mr346 rfl (hQ _ _ w78s w78I ((((((((((((((((zFr.refl).put rfl).trans (w2F.mono rfl)).trans (w9F.mono rfl)).trans (w15F.mono rfl)).trans (w21F.mono rfl)).trans (w27F.mono rfl)).trans (w33F.mono rfl)).trans (w38F.mono rfl)).trans (w44F.mono rfl)).trans (w49F.mono rfl)).trans (w55F.mono rfl)).trans (w61F.mono rfl)).trans (w66F.mono rfl)).trans (w72F.mono rfl)).trans (w78F.mono rfl)) (zPR.fr (zPR.fr (zPR.fr (zPR.fr (zPR.fr (zPR.fr (zPR.fr (zPR.fr (zPR.fr (zPR.fr (zPR.fr (zPR.fr (zPR.fr (zPR.fr (zPR.fr (M' := (zsI M 336 50 (0 : Int32))) pR (zEq.put rfl)) (w2F.eq rfl)) (w9F.eq rfl)) (w15F.eq rfl)) (w21F.eq rfl)) (w27F.eq rfl)) (w33F.eq rfl)) (w38F.eq rfl)) (w44F.eq rfl)) (w49F.eq rfl)) (w55F.eq rfl)) (w61F.eq rfl)) (w66F.eq rfl)) (w72F.eq rfl)) (w78F.eq rfl)) (zPC.fr (zPC.fr (zPC.fr (zPC.fr (zPC.fr (zPC.fr (zPC.fr (zPC.fr (zPC.fr (zPC.fr (zPC.fr (zPC.fr (zPC.fr (zPC.fr (zPC.fr (M' := (zsI M 336 50 (0 : Int32))) pC (zEq.put rfl)) (w2F.eq rfl)) (w9F.eq rfl)) (w15F.eq rfl)) (w21F.eq rfl)) (w27F.eq rfl)) (w33F.eq rfl)) (w38F.eq rfl)) (w44F.eq rfl)) (w49F.eq rfl)) (w55F.eq rfl)) (w61F.eq rfl)) (w66F.eq rfl)) (w72F.eq rfl)) (w78F.eq rfl)) (zPF.fr (zPF.fr (zPF.fr (zPF.fr (zPF.fr (zPF.fr (zPF.fr (zPF.fr (zPF.fr (zPF.fr (zPF.fr (zPF.fr (zPF.fr (zPF.fr (zPF.fr (M' := (zsI M 336 50 (0 : Int32))) pF (zEq.put rfl) rfl) (w2F.eq rfl) w2J) (w9F.eq rfl) w9J) (w15F.eq rfl) w15J) (w21F.eq rfl) w21J) (w27F.eq rfl) w27J) (w33F.eq rfl) w33J) (w38F.eq rfl) w38J) (w44F.eq rfl) w44J) (w49F.eq rfl) w49J) (w55F.eq rfl) w55J) (w61F.eq rfl) w61J) (w66F.eq rfl) w66J) (w72F.eq rfl) w72J) (w78F.eq rfl) w78J) (by omega))
      · refine zs_icmp_geF (pc := 14) t346_14 rfl rfl (by omega) ?_
        refine zs_aload_n (pc := 17) t346_17 rfl ?_
        refine zs_bipush (pc := 18) t346_18 (v := 114) (by decide) ?_
        have w82 : (114 : Int32).toInt = 114 := li114
        have w83 : (zI w2M 336 50).toInt = (zI w2M 336 50).toInt := (congrArg Int32.toInt rfl).trans rfl
        have w84 : (zI w2M 336 50).toInt = (zI w2M 336 50).toInt := (congrArg Int32.toInt rfl).trans rfl
        refine zs_invV (pc := 20) (k := 336) (as' := [.int (114 : Int32)]) (st := []) t346_20 mf347 rfl rfl (Or.inl ⟨by decide, (zk1 (w2s.k fk_zMm_336))⟩) ⟨by decide, by decide, Nat.le_of_ble_eq_true rfl, Nat.le_of_ble_eq_true rfl⟩ (K347 w2s w2I (by omega) ?_) (fun _ _ q => q)
        intro w85M w85s w85I w85F w85J w85t0
        have w86 := ib336_50 w85I
        show zGo X l 2 0 0 346 23 [(0, .ref 336), (1, .int w2x1)] [] w85M _
        refine zs_aload_n (pc := 23) t346_23 rfl ?_
        refine zs_aload_n (pc := 24) t346_24 rfl ?_
        refine zs_iload_n (pc := 25) t346_25 rfl ?_
        refine zs_invV (pc := 26) (k := 336) (as' := [.int w2x1]) (st := [.ref 336]) t346_26 mf241 rfl rfl (Or.inl ⟨by decide, (zk1 (w85s.k fk_zMm_336))⟩) ⟨by decide, by decide, Nat.le_of_ble_eq_true rfl, Nat.le_of_ble_eq_true rfl⟩ (zs_in (by decide) mf241 (Nat.le_of_ble_eq_true rfl) ?_) (fun _ _ q => q)
        show zGo X l 0 0 0 241 0 [(0, .ref 336), (1, .int w2x1)] [] w85M _
        refine zs_aload_n (pc := 0) t241_0 rfl ?_
        refine zs_get (pc := 1) t241_1 (by decide) (zk1 (w85s.k fk_zMm_336)) (w85s.p rfl fv_zMm_336_0) ?_
        refine zs_bipush (pc := 4) t241_4 (v := 14) (by decide) ?_
        refine zs_iconst (pc := 6) t241_6 (v := 2) (by decide) ?_
        refine zs_iload_n (pc := 7) t241_7 rfl ?_
        obtain ⟨w87v, w87⟩ : ∃ v, (2 : Int32) * w2x1 = v := ⟨_, rfl⟩
        have w87g : w87v.toInt = 2 * w2x1.toInt := by rw [← w87]; exact zmulc li2 rfl (by omega) (by omega)
        refine zs_imul (pc := 8) t241_8 (c := w87v) w87 ?_
        obtain ⟨w88v, w88e, w88⟩ := ziadd (a := (14 : Int32)) (b := w87v) li14 w87g (by omega) (by omega)
        refine zs_iadd (pc := 9) t241_9 (c := w88v) w88e ?_
        obtain ⟨w89n, w89⟩ : ∃ n : Nat, w2x1.toInt = (n : Int) := ⟨(w2x1.toInt).toNat, by omega⟩
        have w90 := ibX (j := (14 + 2 * w89n)) hI (by omega) (by omega) (by omega)
        refine zs_iald (pc := 10) t241_10 (j := (14 + 2 * w89n)) (by decide) (zk1 (w85s.k fk_zMm_337)) (show w88v.toInt = (((14 + 2 * w89n) : Nat) : Int) by omega) (zk2 (w85s.k fk_zMm_337) (by omega)) ((w85F 337 (14 + 2 * w89n) rfl).trans ((w2F 337 (14 + 2 * w89n) rfl).trans ((zIo (by decide)).trans rfl))) ?_
        refine zs_iret (pc := 11) t241_11 mr241 rfl ?_
        show zGo X l 2 0 0 346 29 [(0, .ref 336), (1, .int w2x1)] [.int (zI M 337 (14 + 2 * w89n)), .ref 336] w85M _
        refine zs_bipush (pc := 29) t346_29 (v := 59) (by decide) ?_
        have w91 : (59 : Int32).toInt = 59 := li59
        have w92 : (zI w85M 336 50).toInt = (zI w85M 336 50).toInt := (congrArg Int32.toInt rfl).trans rfl
        have w93 : (zI w85M 336 50).toInt = (zI w85M 336 50).toInt := (congrArg Int32.toInt rfl).trans rfl
        refine zs_invV (pc := 31) (k := 336) (as' := [.int (zI M 337 (14 + 2 * w89n)), .int (59 : Int32)]) (st := []) t346_31 mf348 rfl rfl (Or.inl ⟨by decide, (zk1 (w85s.k fk_zMm_336))⟩) ⟨by decide, by decide, Nat.le_of_ble_eq_true rfl, Nat.le_of_ble_eq_true rfl⟩ (K348 w85s w85I ⟨by omega, by omega⟩ (by omega) ?_) (fun _ _ q => q)
        intro w94M w94s w94I w94F w94J w94t0
        have w95 := ib336_50 w94I
        show zGo X l 2 0 0 346 34 [(0, .ref 336), (1, .int w2x1)] [] w94M _
        obtain ⟨w96v, w96e, w96⟩ := ziadd (a := w2x1) (b := Int32.ofInt 1) rfl (show (Int32.ofInt 1).toInt = 1 by decide) (by omega) (by omega)
        refine zs_iinc (pc := 34) t346_34 (ls' := [(1, .int w96v), (0, .ref 336)]) (zml mf346 (by decide)) rfl (c := w96v) w96e rfl ?_
        refine zs_goto (pc := 37) t346_37 ?_
        refine zGo.locals (ls' := [(0, .ref 336), (1, .int w96v)]) (by simp) ?_
        have w97 := w96
        have w98 : (zI w94M 336 50).toInt = (zI w94M 336 50).toInt := (congrArg Int32.toInt rfl).trans rfl
        exact w2ih (w2m - 1) (by omega) w96v w94M ⟨by omega, by omega⟩ w94s w94I ((((zFr.refl).trans (w2F.mono rfl)).trans (w85F.mono rfl)).trans (w94F.mono rfl)) (w94J.trans (w85J.trans w2J)) (by omega) (by omega)
  refine zGo.locals (ls' := [(0, .ref 336), (1, .int (0 : Int32))]) (by simp) ?_
  have w99 := li0
  have w100 : (zI (zsI M 336 50 (0 : Int32)) 336 50).toInt = 0 := (congrArg Int32.toInt zIs).trans li0
  exact w2L ((8 - 0 : Int).toNat) (0 : Int32) (zsI M 336 50 (0 : Int32)) ⟨by decide, by decide⟩ hs w1 zFr.refl rfl (by omega) (by omega)
theorem T349 {X : zX} {l : Launch} {M : zM} {Q : Option Value → zM → Prop} {a : Int32} (hs : zSk zMm M) (hI : zIv mLo mHi M) (pR : zPR M) (pC : zPC M) (pF : zPF M) (hQ : ∀ (M' : zM) (v : Int32), zSk zMm M' → zIv mLo mHi M' → zFr [(336, 338, none), (340, 363, none)] M M' → zPR M' → zPC M' → zPF M' → ((zI M' 336 5).toInt = (zI M 336 5).toInt) → Q (some (.int v)) M') : zCall X l 1 0 0 349 [.ref 336, .int a] M Q := by
  have ga := zrg a
  refine zs_in (by decide) mf349 (Nat.le_of_ble_eq_true rfl) ?_
  show zGo X l 1 0 0 349 0 [(0, .ref 336), (1, .int a)] [] M _
  refine zs_iload_n (pc := 0) t349_0 rfl ?_
  refine zs_i2l (pc := 1) t349_1 rfl ?_
  refine zs_lconst (pc := 2) t349_2 (v := 0) (by decide) ?_
  refine zs_aload_n (pc := 3) t349_3 rfl ?_
  have w1 := ib336_50 hI
  refine zs_get (pc := 4) t349_4 (by decide) (zk1 (hs.k fk_zMm_336)) (zfvi rfl rfl) ?_
  refine zs_iconst (pc := 7) t349_7 (v := 1) (by decide) ?_
  obtain ⟨w2v, w2e, w2⟩ := zisub (a := (zI M 336 50)) (b := (1 : Int32)) rfl li1 (by omega) (by omega)
  refine zs_isub (pc := 8) t349_8 (c := w2v) w2e ?_
  refine zs_i2l (pc := 9) t349_9 rfl ?_
  by_cases w3 : 0 ≤ a.toInt ∧ a.toInt ≤ ((zI M 336 50).toInt - 1)
  · refine zs_invS (pc := 10) (as := [.long a.toInt64, .long (0 : Int64), .long w2v.toInt64]) (st := []) t349_10 (by decide) mf228 rfl rfl ⟨by decide, by decide, Nat.le_of_ble_eq_true rfl, Nat.le_of_ble_eq_true rfl⟩ (K228T (zi2l rfl) ll0 (zi2l w2) (by omega) ?_) (fun _ _ q => q)
    show zGo X l 1 0 0 349 13 [(0, .ref 336), (1, .int a)] [.int (1 : Int32)] M _
    refine zs_if_eqF (pc := 13) t349_13 li1 (by decide) ?_
    refine zs_aload_n (pc := 16) t349_16 rfl ?_
    refine zs_get (pc := 17) t349_17 (by decide) (zk1 (hs.k fk_zMm_336)) (hs.p rfl fv_zMm_336_49) ?_
    refine zs_iload_n (pc := 20) t349_20 rfl ?_
    obtain ⟨w4n, w4⟩ : ∃ n : Nat, a.toInt = (n : Int) := ⟨(a.toInt).toNat, by omega⟩
    have w5 := ib363 hI w4n
    refine zs_bald (pc := 21) t349_21 (j := w4n) (Or.inl (zk1 (hs.k fk_zMm_363))) (show a.toInt = ((w4n : Nat) : Int) by omega) (zk2 (hs.k fk_zMm_363) (by omega)) rfl ?_
    refine zs_goto (pc := 22) t349_22 ?_
    have w6 := ib336_5 hI
    have w7 : (zI M 336 5).toInt = (zI M 336 5).toInt := (congrArg Int32.toInt rfl).trans rfl
    exact zs_iret (pc := 26) t349_26 mr349 rfl (hQ _ _ hs hI (zFr.refl) pR pC pF (by omega))
  · refine zs_invS (pc := 10) (as := [.long a.toInt64, .long (0 : Int64), .long w2v.toInt64]) (st := []) t349_10 (by decide) mf228 rfl rfl ⟨by decide, by decide, Nat.le_of_ble_eq_true rfl, Nat.le_of_ble_eq_true rfl⟩ (K228F (zi2l rfl) ll0 (zi2l w2) (by omega) ?_) (fun _ _ q => q)
    show zGo X l 1 0 0 349 13 [(0, .ref 336), (1, .int a)] [.int (0 : Int32)] M _
    refine zs_if_eqT (pc := 13) t349_13 li0 (by decide) ?_
    refine zs_iconst (pc := 25) t349_25 (v := -1) (by decide) ?_
    have w8 := ib336_5 hI
    have w9 : (zI M 336 5).toInt = (zI M 336 5).toInt := (congrArg Int32.toInt rfl).trans rfl
    have w10 := lin1
    exact zs_iret (pc := 26) t349_26 mr349 (by decide) (hQ _ _ hs hI (zFr.refl) pR pC pF (by omega))
theorem T322 {X : zX} {l : Launch} {M : zM} {Q : Option Value → zM → Prop} (hs : zSk zMm M) (hI : zIv mLo mHi M) (pR : zPR M) (pC : zPC M) (pF : zPF M) (hQ : ∀ (M' : zM) (v : Int32), zSk zMm M' → zIv mLo mHi M' → zFr [(336, 338, none), (340, 363, none)] M M' → zPR M' → zPC M' → zPF M' → ((zI M' 336 5).toInt = (zI M 336 5).toInt) → Q (some (.int v)) M') : zCall X l 7 0 0 322 [.ref 336] M Q := by
  refine zs_in (by decide) mf322 (Nat.le_of_ble_eq_true rfl) ?_
  show zGo X l 7 0 0 322 0 [(0, .ref 336)] [] M _
  refine zs_aload_n (pc := 0) t322_0 rfl ?_
  refine zs_invV (pc := 1) (k := 336) (as' := []) (st := []) t322_1 mf268 rfl rfl (Or.inl ⟨by decide, (zk1 (hs.k fk_zMm_336))⟩) ⟨by decide, by decide, Nat.le_of_ble_eq_true rfl, Nat.le_of_ble_eq_true rfl⟩ (K268 hs hI pR pF ?_) (fun _ _ q => q)
  intro w1M w1s w1I w1F w1PF w1PD w1PV
  show zGo X l 7 0 0 322 4 [(0, .ref 336)] [] w1M _
  refine zs_aload_n (pc := 4) t322_4 rfl ?_
  refine zs_iconst (pc := 5) t322_5 (v := -1) (by decide) ?_
  refine zs_invV (pc := 6) (k := 336) (as' := [.int (-1 : Int32)]) (st := []) t322_6 mf290 rfl rfl (Or.inl ⟨by decide, (zk1 (w1s.k fk_zMm_336))⟩) ⟨by decide, by decide, Nat.le_of_ble_eq_true rfl, Nat.le_of_ble_eq_true rfl⟩ (K290 w1s w1I ?_) (fun _ _ q => q)
  intro w2v
  have w2g := zrg w2v
  show zGo X l 7 0 0 322 9 [(0, .ref 336)] [.int w2v] w1M _
  refine zs_iconst (pc := 9) t322_9 (v := 2) (by decide) ?_
  refine zs_aload_n (pc := 10) t322_10 rfl ?_
  refine zs_get (pc := 11) t322_11 (by decide) (zk1 (w1s.k fk_zMm_336)) (w1s.p rfl fv_zMm_336_0) ?_
  refine zs_iconst (pc := 14) t322_14 (v := 5) (by decide) ?_
  have w3 := ibA5 hI
  refine zs_iald (pc := 15) t322_15 (j := 5) (by decide) (zk1 (w1s.k fk_zMm_337)) li5 (zk2 (w1s.k fk_zMm_337) (by decide)) ((w1F 337 5 rfl).trans rfl) ?_
  obtain ⟨w4v, w4⟩ : ∃ v, (2 : Int32) * (zI M 337 5) = v := ⟨_, rfl⟩
  have w4g : w4v.toInt = 2 * (zI M 337 5).toInt := by rw [← w4]; exact zmulc li2 rfl (by omega) (by omega)
  refine zs_imul (pc := 16) t322_16 (c := w4v) w4 ?_
  refine zs_iconst (pc := 17) t322_17 (v := 1) (by decide) ?_
  obtain ⟨w5v, w5e, w5⟩ := ziadd (a := w4v) (b := (1 : Int32)) w4g li1 (by omega) (by omega)
  refine zs_iadd (pc := 18) t322_18 (c := w5v) w5e ?_
  obtain ⟨w6v, w6⟩ : ∃ v, w2v * w5v = v := ⟨_, rfl⟩
  have w6g := zrg w6v
  refine zs_imul (pc := 19) t322_19 (c := w6v) w6 ?_
  refine zs_iconst (pc := 20) t322_20 (v := 2) (by decide) ?_
  refine zs_aload_n (pc := 21) t322_21 rfl ?_
  refine zs_get (pc := 22) t322_22 (by decide) (zk1 (w1s.k fk_zMm_336)) (w1s.p rfl fv_zMm_336_0) ?_
  refine zs_bipush (pc := 25) t322_25 (v := 6) (by decide) ?_
  have w7 := ibA6 hI
  refine zs_iald (pc := 27) t322_27 (j := 6) (by decide) (zk1 (w1s.k fk_zMm_337)) li6 (zk2 (w1s.k fk_zMm_337) (by decide)) ((w1F 337 6 rfl).trans rfl) ?_
  obtain ⟨w8v, w8⟩ : ∃ v, (2 : Int32) * (zI M 337 6) = v := ⟨_, rfl⟩
  have w8g : w8v.toInt = 2 * (zI M 337 6).toInt := by rw [← w8]; exact zmulc li2 rfl (by omega) (by omega)
  refine zs_imul (pc := 28) t322_28 (c := w8v) w8 ?_
  refine zs_iconst (pc := 29) t322_29 (v := 1) (by decide) ?_
  obtain ⟨w9v, w9e, w9⟩ := ziadd (a := w8v) (b := (1 : Int32)) w8g li1 (by omega) (by omega)
  refine zs_iadd (pc := 30) t322_30 (c := w9v) w9e ?_
  obtain ⟨w10v, w10⟩ : ∃ v, w6v * w9v = v := ⟨_, rfl⟩
  have w10g := zrg w10v
  refine zs_imul (pc := 31) t322_31 (c := w10v) w10 ?_
  refine zs_bipush (pc := 32) t322_32 (v := 10) (by decide) ?_
  refine zs_aload_n (pc := 34) t322_34 rfl ?_
  have w11 := ib336_22 w1I
  refine zs_get (pc := 35) t322_35 (by decide) (zk1 (w1s.k fk_zMm_336)) (zfvi rfl rfl) ?_
  obtain ⟨w12v, w12⟩ : ∃ v, (10 : Int32) * (zI w1M 336 22) = v := ⟨_, rfl⟩
  have w12g : w12v.toInt = 10 * (zI w1M 336 22).toInt := by rw [← w12]; exact zmulc li10 rfl (by omega) (by omega)
  refine zs_imul (pc := 38) t322_38 (c := w12v) w12 ?_
  obtain ⟨w13v, w13⟩ : ∃ v, v = w10v + w12v := ⟨_, rfl⟩
  have w13g := zrg w13v
  refine zs_iadd (pc := 39) t322_39 (c := w13v) w13.symm ?_
  have w14 := ib336_5 hI
  have w15 : (zI w1M 336 5).toInt = (zI M 336 5).toInt := (congrArg Int32.toInt ((w1F 336 5 rfl).trans rfl)).trans rfl
  exact zs_iret (pc := 40) t322_40 mr322 rfl (hQ _ _ w1s w1I ((zFr.refl).trans (w1F.mono rfl)) (zPR.fr pR (w1F.eq rfl)) (zPC.fr pC (w1F.eq rfl)) w1PF (by omega))
