theorem R342 {X : zX} {l : Launch} {M : zM} {Q : Option Value → zM → Prop} (hs : zSk zMm M) (hI : zIv mLo mHi M) {F : Nat → Int} {H : Nat → Nat → Int} {n : Int} {K : Nat → Nat → Int} {T : Nat → Int} {gg : Nat → Int} {nn : Int} (pR : zPR M) (pC : zPC M) (pF : zPF M) (x0 : zRw M 0 F) (x1 : zHM M H n) (x2 : zKM M K T) (x3 : zWF F) (x4 : zTm M gg nn) (hQ : ∀ (M' : zM) (v : Int32), zSk zMm M' → zIv mLo mHi M' → zFr [(337, 337, none), (336, 336, some 6), (336, 336, some 7), (336, 336, some 8), (362, 362, none), (336, 336, some 47), (336, 336, some 5), (336, 336, some 1), (336, 336, some 3), (336, 336, some 48)] M M' → zJ M' 351 = zJ M 351 → zPR M' → zPC M' → zPF M' → ((zI M' 336 5).toInt = 0) → ((v.toInt = -1 ∧ gR (aSt gg nn) (0, 0, aZ) none ∧ zSM M' F H n K T ∧ (zI M' 336 48).toInt = (zI M 336 48).toInt) ∨ (0 ≤ v.toInt ∧ ∃ (k : Nat) (L : Nat → aT) (F2 : Nat → Int) (H2 : Nat → Nat → Int) (n2 : Int), gR (aSt gg nn) (0, 0, aZ) (some (k, L)) ∧ gR (dSt L k) (0, F, H, n) (v.toInt, (zI M' 336 48).toInt, F2, H2, n2) ∧ zWF F2 ∧ zSM M' F2 H2 n2 K T)) → Q (some (.int v)) M') : zCall X l 5 0 0 342 [.ref 336] M Q := by
  refine zs_in (by decide) mf342 (Nat.le_of_ble_eq_true rfl) ?_
  show zGo X l 5 0 0 342 0 [(0, .ref 336)] [] M _
  have f1 := x3.1
  have f3 := x3.2.2.2
  have w1 := ibA0 hI
  have w2 : (zI M 337 0).toInt = (zI M 337 0).toInt := (congrArg Int32.toInt rfl).trans rfl
  have e0 : (zI M 337 0).toInt = F 0 := x0.at (by decide) (by decide) (by decide)
  have w3 := ibA1 hI
  have w4 : (zI M 337 1).toInt = (zI M 337 1).toInt := (congrArg Int32.toInt rfl).trans rfl
  have e1 : (zI M 337 1).toInt = F 1 := x0.at (by decide) (by decide) (by decide)
  have w5 := ibA2 hI
  have w6 : (zI M 337 2).toInt = (zI M 337 2).toInt := (congrArg Int32.toInt rfl).trans rfl
  have e2 : (zI M 337 2).toInt = F 2 := x0.at (by decide) (by decide) (by decide)
  have hn := x4.2
  have w7 := ib336_5 hI
  have w8 : (zI M 336 5).toInt = (zI M 336 5).toInt := (congrArg Int32.toInt rfl).trans rfl
  refine zs_aload_n (pc := 0) t342_0 rfl ?_
  refine zs_invV (pc := 1) (k := 336) (as' := []) (st := []) t342_1 mf236 rfl rfl (Or.inl ⟨by decide, (zk1 (hs.k fk_zMm_336))⟩) ⟨by decide, by decide, Nat.le_of_ble_eq_true rfl, Nat.le_of_ble_eq_true rfl⟩ (zs_in (by decide) mf236 (Nat.le_of_ble_eq_true rfl) ?_) (fun _ _ q => q)
  show zGo X l 0 0 0 236 0 [(0, .ref 336)] [] M _
  refine zs_aload_n (pc := 0) t236_0 rfl ?_
  refine zs_iconst (pc := 1) t236_1 (v := 0) (by decide) ?_
  have w9 : zIv mLo mHi (zsI M 336 6 (0 : Int32)) := zIv.put hI (show 0 ≤ (0 : Int32).toInt ∧ (0 : Int32).toInt ≤ 500 from ⟨by decide, by decide⟩)
  refine zs_putI (pc := 2) t236_2 (zk1 (hs.k fk_zMm_336)) rfl ?_
  refine zs_aload_n (pc := 5) t236_5 rfl ?_
  refine zs_iconst (pc := 6) t236_6 (v := -1) (by decide) ?_
  have w10 : zIv mLo mHi (zsI (zsI M 336 6 (0 : Int32)) 336 7 (-1 : Int32)) := zIv.put w9 (show (-1) ≤ (-1 : Int32).toInt ∧ (-1 : Int32).toInt ≤ 500 from ⟨by decide, by decide⟩)
  refine zs_putI (pc := 7) t236_7 (zk1 (hs.k fk_zMm_336)) rfl ?_
  refine zs_vret (pc := 10) t236_10 mr236 ?_
  show zGo X l 5 0 0 342 4 [(0, .ref 336)] [] (zsI (zsI M 336 6 (0 : Int32)) 336 7 (-1 : Int32)) _
  refine zs_aload_n (pc := 4) t342_4 rfl ?_
  refine zs_iconst (pc := 5) t342_5 (v := 0) (by decide) ?_
  have w11 : zIv mLo mHi (zsI (zsI (zsI M 336 6 (0 : Int32)) 336 7 (-1 : Int32)) 336 47 (0 : Int32)) := zIv.put w10 (show 0 ≤ (0 : Int32).toInt ∧ (0 : Int32).toInt ≤ 20 from ⟨by decide, by decide⟩)
  refine zs_putI (pc := 6) t342_6 (zk1 (hs.k fk_zMm_336)) rfl ?_
  have w12L : ∀ (m : Nat) (w12M : zM), zSk zMm w12M → zIv mLo mHi w12M → zFr [(336, 336, some 6), (336, 336, some 7), (336, 336, some 8), (362, 362, none), (336, 336, some 47)] (zsI (zsI (zsI M 336 6 (0 : Int32)) 336 7 (-1 : Int32)) 336 47 (0 : Int32)) w12M → zJ w12M 351 = zJ (zsI (zsI (zsI M 336 6 (0 : Int32)) 336 7 (-1 : Int32)) 336 47 (0 : Int32)) 351 → (0 ≤ (zI w12M 336 47).toInt ∧ (zI w12M 336 47).toInt ≤ 20) → ((zI w12M 336 7).toInt ≠ -1 ∨ (0 ≤ (zI w12M 336 6).toInt ∧ (zI w12M 336 6).toInt ≤ (zI w12M 336 5).toInt)) → ((zI w12M 336 5).toInt = (zI (zsI (zsI (zsI M 336 6 (0 : Int32)) 336 7 (-1 : Int32)) 336 47 (0 : Int32)) 336 5).toInt) → ((zI w12M 336 7).toInt = -1 → ∀ p k : Nat, (p : Int) = (zI w12M 336 6).toInt → (k : Int) = (zI w12M 336 47).toInt → ∃ L, gEq (aSt gg nn) (0, 0, aZ) (p, k, L) ∧ zBl w12M 362 k L) → ((zI w12M 336 7).toInt ≠ -1 → gR (aSt gg nn) (0, 0, aZ) none) → 501 - (zI w12M 336 6).toInt - 501 * (min (zI w12M 336 7).toInt 0) ≤ (m : Int) → zGo X l 5 0 0 342 9 [(0, .ref 336)] [] w12M Q := by
    intro m
    induction m using Nat.strongRecOn with
    | ind w12m w12ih =>
      intro w12M w12s w12I w12F w12J w12r0 w12r1 w12r2 w12t0 w12t1 w12q
      have w13 := ib336_47 w12I
      have w14 := ib336_6 w12I
      have w15 := ib336_7 w12I
      have w16 : (zI (zsI (zsI (zsI M 336 6 (0 : Int32)) 336 7 (-1 : Int32)) 336 47 (0 : Int32)) 336 5).toInt = (zI M 336 5).toInt := (congrArg Int32.toInt ((zIoj (by decide)).trans ((zIoj (by decide)).trans ((zIoj (by decide)).trans rfl)))).trans rfl
      refine zs_aload_n (pc := 9) t342_9 rfl ?_
      refine zs_get (pc := 10) t342_10 (by decide) (zk1 (w12s.k fk_zMm_336)) (zfvi rfl rfl) ?_
      refine zs_iconst (pc := 13) t342_13 (v := -1) (by decide) ?_
      by_cases w17 : (zI w12M 336 7).toInt ≠ (-1)
      · refine zs_icmp_neT (pc := 14) t342_14 rfl lin1 (by omega) ?_
        refine zs_aload_n (pc := 46) t342_46 rfl ?_
        refine zs_invV (pc := 47) (k := 336) (as' := []) (st := []) t342_47 mf253 rfl rfl (Or.inl ⟨by decide, (zk1 (w12s.k fk_zMm_336))⟩) ⟨by decide, by decide, Nat.le_of_ble_eq_true rfl, Nat.le_of_ble_eq_true rfl⟩ (zs_in (by decide) mf253 (Nat.le_of_ble_eq_true rfl) ?_) (fun _ _ q => q)
        show zGo X l 0 0 0 253 0 [(0, .ref 336)] [] w12M _
        refine zs_aload_n (pc := 0) t253_0 rfl ?_
        refine zs_iconst (pc := 1) t253_1 (v := 0) (by decide) ?_
        have w18 : zIv mLo mHi (zsI w12M 336 5 (0 : Int32)) := zIv.put w12I (show 0 ≤ (0 : Int32).toInt ∧ (0 : Int32).toInt ≤ 500 from ⟨by decide, by decide⟩)
        refine zs_putI (pc := 2) t253_2 (zk1 (w12s.k fk_zMm_336)) rfl ?_
        refine zs_aload_n (pc := 5) t253_5 rfl ?_
        refine zs_get (pc := 6) t253_6 (by decide) (zk1 (w12s.k fk_zMm_336)) (zfvi rfl ((zIoj (by decide)).trans rfl)) ?_
        refine zs_iconst (pc := 9) t253_9 (v := -1) (by decide) ?_
        refine zs_icmp_neT (pc := 10) t253_10 rfl lin1 (by omega) ?_
        refine zs_iconst (pc := 17) t253_17 (v := 0) (by decide) ?_
        refine zs_iret (pc := 18) t253_18 mr253 (by decide) ?_
        show zGo X l 5 0 0 342 50 [(0, .ref 336)] [.int (0 : Int32)] (zsI w12M 336 5 (0 : Int32)) _
        refine zs_if_neF (pc := 50) t342_50 li0 (by decide) ?_
        refine zs_iconst (pc := 53) t342_53 (v := -1) (by decide) ?_
        have w19 : (-1 : Int32).toInt = (-1) := lin1
        have w20 : (zI (zsI w12M 336 5 (0 : Int32)) 336 5).toInt = 0 := (congrArg Int32.toInt zIs).trans li0
        have w21 := lin1
        have w22 : (-1 : Int32).toInt = (-1) := lin1
        have w23 := zrg (zI M 336 48)
        have w24 : (zI (zsI w12M 336 5 (0 : Int32)) 336 48).toInt = (zI M 336 48).toInt := (congrArg Int32.toInt ((zIoj (by decide)).trans ((w12F 336 48 rfl).trans ((zIoj (by decide)).trans ((zIoj (by decide)).trans ((zIoj (by decide)).trans rfl)))))).trans rfl
        have w25 : (zI (zsI w12M 336 5 (0 : Int32)) 336 7).toInt = (zI w12M 336 7).toInt := (congrArg Int32.toInt ((zIoj (by decide)).trans rfl)).trans rfl
        exact zs_iret (pc := 54) t342_54 mr342 (by decide) (hQ _ _ w12s w18 ((((((zFr.refl).put rfl).put rfl).put rfl).trans (w12F.mono rfl)).put rfl) w12J (zPR.fr (M' := (zsI w12M 336 5 (0 : Int32))) (zPR.fr (zPR.fr (M' := (zsI (zsI (zsI M 336 6 (0 : Int32)) 336 7 (-1 : Int32)) 336 47 (0 : Int32))) (zPR.fr (M' := (zsI (zsI M 336 6 (0 : Int32)) 336 7 (-1 : Int32))) (zPR.fr (M' := (zsI M 336 6 (0 : Int32))) pR (zEq.put rfl)) (zEq.put rfl)) (zEq.put rfl)) (w12F.eq rfl)) (zEq.put rfl)) (zPC.fr (M' := (zsI w12M 336 5 (0 : Int32))) (zPC.fr (zPC.fr (M' := (zsI (zsI (zsI M 336 6 (0 : Int32)) 336 7 (-1 : Int32)) 336 47 (0 : Int32))) (zPC.fr (M' := (zsI (zsI M 336 6 (0 : Int32)) 336 7 (-1 : Int32))) (zPC.fr (M' := (zsI M 336 6 (0 : Int32))) pC (zEq.put rfl)) (zEq.put rfl)) (zEq.put rfl)) (w12F.eq rfl)) (zEq.put rfl)) (zPF.fr (M' := (zsI w12M 336 5 (0 : Int32))) (zPF.fr (zPF.fr (M' := (zsI (zsI (zsI M 336 6 (0 : Int32)) 336 7 (-1 : Int32)) 336 47 (0 : Int32))) (zPF.fr (M' := (zsI (zsI M 336 6 (0 : Int32)) 336 7 (-1 : Int32))) (zPF.fr (M' := (zsI M 336 6 (0 : Int32))) pF (zEq.put rfl) rfl) (zEq.put rfl) rfl) (zEq.put rfl) rfl) (w12F.eq rfl) w12J) (zEq.put rfl) rfl) (by omega) (Or.inl ⟨by decide, w12t1 (by omega), ⟨(zRw.fr' (zRw.fr' x0 (fun j hj => ((w12F 337 j rfl).trans ((zIo (by decide)).trans ((zIo (by decide)).trans (zIo (by decide))))))) (fun j hj => (zIo (by decide)))), (zHM.fr (zHM.fr x1 (fun j hj => ((w12F 337 j rfl).trans ((zIo (by decide)).trans ((zIo (by decide)).trans (zIo (by decide)))))) ((w12F 336 1 rfl).trans ((zIoj (by decide)).trans ((zIoj (by decide)).trans (zIoj (by decide)))))) (fun j hj => (zIo (by decide))) (zIoj (by decide))), (zKM.fr (zKM.fr x2 (fun j hj => ((w12F 337 j rfl).trans ((zIo (by decide)).trans ((zIo (by decide)).trans (zIo (by decide)))))) (fun k => ((w12F 338 k rfl).trans ((zIo (by decide)).trans ((zIo (by decide)).trans (zIo (by decide))))))) (fun j hj => (zIo (by decide))) (fun k => (zIo (by decide))))⟩, by omega⟩))
      · refine zs_icmp_neF (pc := 14) t342_14 rfl lin1 (by omega) ?_
        refine zs_aload_n (pc := 17) t342_17 rfl ?_
        refine zs_get (pc := 18) t342_18 (by decide) (zk1 (w12s.k fk_zMm_336)) (zfvi rfl rfl) ?_
        refine zs_aload_n (pc := 21) t342_21 rfl ?_
        refine zs_get (pc := 22) t342_22 (by decide) (zk1 (w12s.k fk_zMm_336)) (zfvi rfl ((w12F 336 5 rfl).trans ((zIoj (by decide)).trans ((zIoj (by decide)).trans ((zIoj (by decide)).trans rfl))))) ?_
        by_cases w26 : (zI M 336 5).toInt ≤ (zI w12M 336 6).toInt
        · refine zs_icmp_geT (pc := 25) t342_25 rfl rfl (by omega) ?_
          refine zs_aload_n (pc := 46) t342_46 rfl ?_
          refine zs_invV (pc := 47) (k := 336) (as' := []) (st := []) t342_47 mf253 rfl rfl (Or.inl ⟨by decide, (zk1 (w12s.k fk_zMm_336))⟩) ⟨by decide, by decide, Nat.le_of_ble_eq_true rfl, Nat.le_of_ble_eq_true rfl⟩ (zs_in (by decide) mf253 (Nat.le_of_ble_eq_true rfl) ?_) (fun _ _ q => q)
          show zGo X l 0 0 0 253 0 [(0, .ref 336)] [] w12M _
          refine zs_aload_n (pc := 0) t253_0 rfl ?_
          refine zs_iconst (pc := 1) t253_1 (v := 0) (by decide) ?_
          have w27 : zIv mLo mHi (zsI w12M 336 5 (0 : Int32)) := zIv.put w12I (show 0 ≤ (0 : Int32).toInt ∧ (0 : Int32).toInt ≤ 500 from ⟨by decide, by decide⟩)
          refine zs_putI (pc := 2) t253_2 (zk1 (w12s.k fk_zMm_336)) rfl ?_
          refine zs_aload_n (pc := 5) t253_5 rfl ?_
          refine zs_get (pc := 6) t253_6 (by decide) (zk1 (w12s.k fk_zMm_336)) (zfvi rfl ((zIoj (by decide)).trans rfl)) ?_
          refine zs_iconst (pc := 9) t253_9 (v := -1) (by decide) ?_
          refine zs_icmp_neF (pc := 10) t253_10 rfl lin1 (by omega) ?_
          refine zs_iconst (pc := 13) t253_13 (v := 1) (by decide) ?_
          refine zs_goto (pc := 14) t253_14 ?_
          refine zs_iret (pc := 18) t253_18 mr253 (by decide) ?_
          show zGo X l 5 0 0 342 50 [(0, .ref 336)] [.int (1 : Int32)] (zsI w12M 336 5 (0 : Int32)) _
          refine zs_if_neT (pc := 50) t342_50 li1 (by decide) ?_
          refine zs_iconst (pc := 55) t342_55 (v := 0) (by decide) ?_
          refine zs_istore_n (pc := 56) t342_56 (ls' := [(1, .int (0 : Int32)), (0, .ref 336)]) (zml mf342 (by decide)) rfl ?_
          have w28 : (zI (zsI w12M 336 5 (0 : Int32)) 336 6).toInt = (zI w12M 336 6).toInt := (congrArg Int32.toInt ((zIoj (by decide)).trans rfl)).trans rfl
          have w29 : (zI (zsI w12M 336 5 (0 : Int32)) 336 7).toInt = (zI w12M 336 7).toInt := (congrArg Int32.toInt ((zIoj (by decide)).trans rfl)).trans rfl
          have w30 : (zI (zsI w12M 336 5 (0 : Int32)) 336 47).toInt = (zI w12M 336 47).toInt := (congrArg Int32.toInt ((zIoj (by decide)).trans rfl)).trans rfl
          obtain ⟨w31n, w31⟩ : ∃ n : Nat, (zI w12M 336 6).toInt = (n : Int) := ⟨((zI w12M 336 6).toInt).toNat, by omega⟩
          obtain ⟨w32n, w32⟩ : ∃ n : Nat, (zI w12M 336 47).toInt = (n : Int) := ⟨((zI w12M 336 47).toInt).toNat, by omega⟩
          obtain ⟨w33A, w33d, w33g⟩ := w12t0 (by omega) w31n w32n (by omega) (by omega)
          have w33r := w33d.fin (aSt.end (by omega))
          have w34L : ∀ (m : Nat) (w34x1 : Int32) (w34M : zM), (0 ≤ w34x1.toInt ∧ w34x1.toInt ≤ 20) → zSk zMm w34M → zIv mLo mHi w34M → zFr [(337, 337, none), (336, 336, some 1), (336, 336, some 3)] (zsI w12M 336 5 (0 : Int32)) w34M → zJ w34M 351 = zJ (zsI w12M 336 5 (0 : Int32)) 351 → zPR w34M → zPC w34M → zPF w34M → (w34x1.toInt ≤ (zI w34M 336 47).toInt) → ((zI w34M 336 5).toInt = 0) → (∀ i : Nat, (i : Int) = w34x1.toInt → ∃ (F2 : Nat → Int) (H2 : Nat → Nat → Int) (n2 : Int), gEq (dSt w33A w32n) (0, F, H, n) (i, F2, H2, n2) ∧ zWF F2 ∧ zSM w34M F2 H2 n2 K T) → 20 - w34x1.toInt ≤ (m : Int) → zGo X l 5 0 0 342 57 [(0, .ref 336), (1, .int w34x1)] [] w34M Q := by
            intro m
            induction m using Nat.strongRecOn with
            | ind w34m w34ih =>
              intro w34x1 w34M w34b1 w34s w34I w34F w34J w34PR w34PC w34PF w34r0 w34r1 w34t0 w34q
              obtain ⟨w35n, w35⟩ : ∃ n : Nat, w34x1.toInt = (n : Int) := ⟨(w34x1.toInt).toNat, by omega⟩
              obtain ⟨w34G, w34E, w34nn, w34d, w34wf, w34g⟩ := w34t0 w35n (by omega)
              refine zs_iload_n (pc := 57) t342_57 rfl ?_
              refine zs_aload_n (pc := 58) t342_58 rfl ?_
              refine zs_get (pc := 59) t342_59 (by decide) (zk1 (w34s.k fk_zMm_336)) (zfvi rfl ((w34F 336 47 rfl).trans ((zIoj (by decide)).trans rfl))) ?_
              by_cases w36 : (zI w12M 336 47).toInt ≤ w34x1.toInt
              · refine zs_icmp_geT (pc := 62) t342_62 rfl rfl (by omega) ?_
                refine zs_aload_n (pc := 82) t342_82 rfl ?_
                refine zs_iload_n (pc := 83) t342_83 rfl ?_
                refine zs_aload_n (pc := 84) t342_84 rfl ?_
                refine zs_get (pc := 85) t342_85 (by decide) (zk1 (w34s.k fk_zMm_336)) (zfvi rfl ((w34F 336 47 rfl).trans ((zIoj (by decide)).trans rfl))) ?_
                by_cases w37 : (zI w12M 336 47).toInt ≤ w34x1.toInt
                · refine zs_icmp_geT (pc := 88) t342_88 rfl rfl (by omega) ?_
                  refine zs_iconst (pc := 95) t342_95 (v := -1) (by decide) ?_
                  have w38 : zIv mLo mHi (zsI w34M 336 48 (-1 : Int32)) := zIv.put w34I (show (-2147483648) ≤ (-1 : Int32).toInt ∧ (-1 : Int32).toInt ≤ 2147483647 from zrg (-1 : Int32))
                  refine zs_putI (pc := 96) t342_96 (zk1 (w34s.k fk_zMm_336)) rfl ?_
                  refine zs_iload_n (pc := 99) t342_99 rfl ?_
                  have w39 : (zI (zsI w34M 336 48 (-1 : Int32)) 336 5).toInt = 0 := (congrArg Int32.toInt ((zIoj (by decide)).trans ((w34F 336 5 rfl).trans zIs))).trans li0
                  have w40 : (zI (zsI w34M 336 48 (-1 : Int32)) 336 48).toInt = (-1) := (congrArg Int32.toInt zIs).trans lin1
                  have w41 : (zI (zsI w34M 336 48 (-1 : Int32)) 336 7).toInt = (zI w12M 336 7).toInt := (congrArg Int32.toInt ((zIoj (by decide)).trans ((w34F 336 7 rfl).trans ((zIoj (by decide)).trans rfl)))).trans rfl
                  have w42 : (zI w34M 336 47).toInt = (zI w12M 336 47).toInt := (congrArg Int32.toInt ((w34F 336 47 rfl).trans ((zIoj (by decide)).trans rfl))).trans rfl
                  have w43 := w34d.fin (dSt.end (by omega))
                  exact zs_iret (pc := 100) t342_100 mr342 rfl (hQ _ _ w34s w38 ((((((((zFr.refl).put rfl).put rfl).put rfl).trans (w12F.mono rfl)).put rfl).trans (w34F.mono rfl)).put rfl) (w34J.trans w12J) (zPR.fr (M' := (zsI w34M 336 48 (-1 : Int32))) w34PR (zEq.put rfl)) (zPC.fr (M' := (zsI w34M 336 48 (-1 : Int32))) w34PC (zEq.put rfl)) (zPF.fr (M' := (zsI w34M 336 48 (-1 : Int32))) w34PF (zEq.put rfl) rfl) (by omega) (Or.inr ⟨by omega, w32n, w33A, _, _, _, w33r, by rw [show w34x1.toInt = (w32n : Int) by omega, show (zI (zsI w34M 336 48 (-1 : Int32)) 336 48).toInt = (-1) by omega]; exact w43, w34wf, (zRw.fr' w34g.1 (fun j hj => (zIo (by decide)))), (zHM.fr w34g.2.1 (fun j hj => (zIo (by decide))) (zIoj (by decide))), (zKM.fr w34g.2.2 (fun j hj => (zIo (by decide))) (fun k => (zIo (by decide))))⟩))
                · refine zs_icmp_geF (pc := 88) t342_88 rfl rfl (by omega) ?_
                  refine zs_iload_n (pc := 91) t342_91 rfl ?_
                  refine zs_goto (pc := 92) t342_92 ?_
                  have w44 : zIv mLo mHi (zsI w34M 336 48 w34x1) := zIv.put w34I (show (-2147483648) ≤ w34x1.toInt ∧ w34x1.toInt ≤ 2147483647 from zrg w34x1)
                  refine zs_putI (pc := 96) t342_96 (zk1 (w34s.k fk_zMm_336)) rfl ?_
                  refine zs_iload_n (pc := 99) t342_99 rfl ?_
                  have w45 : (zI (zsI w34M 336 48 w34x1) 336 5).toInt = 0 := (congrArg Int32.toInt ((zIoj (by decide)).trans ((w34F 336 5 rfl).trans zIs))).trans li0
                  have w46 : (zI (zsI w34M 336 48 w34x1) 336 48).toInt = w34x1.toInt := (congrArg Int32.toInt zIs).trans rfl
                  have w47 : (zI (zsI w34M 336 48 w34x1) 336 7).toInt = (zI w12M 336 7).toInt := (congrArg Int32.toInt ((zIoj (by decide)).trans ((w34F 336 7 rfl).trans ((zIoj (by decide)).trans rfl)))).trans rfl
                  have w48 : (zI w34M 336 47).toInt = (zI w12M 336 47).toInt := (congrArg Int32.toInt ((w34F 336 47 rfl).trans ((zIoj (by decide)).trans rfl))).trans rfl
                  have w49 := w34d.fin (dSt.end (by omega))
                  exact zs_iret (pc := 100) t342_100 mr342 rfl (hQ _ _ w34s w44 ((((((((zFr.refl).put rfl).put rfl).put rfl).trans (w12F.mono rfl)).put rfl).trans (w34F.mono rfl)).put rfl) (w34J.trans w12J) (zPR.fr (M' := (zsI w34M 336 48 w34x1)) w34PR (zEq.put rfl)) (zPC.fr (M' := (zsI w34M 336 48 w34x1)) w34PC (zEq.put rfl)) (zPF.fr (M' := (zsI w34M 336 48 w34x1)) w34PF (zEq.put rfl) rfl) (by omega) (Or.inr ⟨by omega, w32n, w33A, _, _, _, w33r, by rw [show w34x1.toInt = (w32n : Int) by omega, show (zI (zsI w34M 336 48 w34x1) 336 48).toInt = (-1) by omega]; exact w49, w34wf, (zRw.fr' w34g.1 (fun j hj => (zIo (by decide)))), (zHM.fr w34g.2.1 (fun j hj => (zIo (by decide))) (zIoj (by decide))), (zKM.fr w34g.2.2 (fun j hj => (zIo (by decide))) (fun k => (zIo (by decide))))⟩))
              · refine zs_icmp_geF (pc := 62) t342_62 rfl rfl (by omega) ?_
                refine zs_aload_n (pc := 65) t342_65 rfl ?_
                refine zs_iconst (pc := 66) t342_66 (v := 4) (by decide) ?_
                refine zs_iload_n (pc := 67) t342_67 rfl ?_
                obtain ⟨w50v, w50⟩ : ∃ v, (4 : Int32) * w34x1 = v := ⟨_, rfl⟩
                have w50g : w50v.toInt = 4 * w34x1.toInt := by rw [← w50]; exact zmulc li4 rfl (by omega) (by omega)
                refine zs_imul (pc := 68) t342_68 (c := w50v) w50 ?_
                have w51 : w50v.toInt = (4 * w34x1.toInt) := w50g
                have w52 : w50v.toInt = (4 * w34x1.toInt) := w50g
                refine zs_invV (pc := 69) (k := 336) (as' := [.int w50v]) (st := []) t342_69 mf344 rfl rfl (Or.inl ⟨by decide, (zk1 (w34s.k fk_zMm_336))⟩) ⟨by decide, by decide, Nat.le_of_ble_eq_true rfl, Nat.le_of_ble_eq_true rfl⟩ (R344 w34s w34I w34PR w34PC w34PF ⟨by omega, by omega⟩ w34g.1 w34g.2.1 w34g.2.2 w34wf ((zBl.fr w33g (fun j => ((w34F 362 j rfl).trans (zIo (by decide))))) w35n (by omega)) (by omega) ?_) (fun _ _ q => q)
                intro w53M w53v w53s w53I w53F w53J w53PR w53PC w53PF w53x0
                have w53g := zrg w53v
                show zGo X l 5 0 0 342 72 [(0, .ref 336), (1, .int w34x1)] [.int w53v] w53M _
                rcases w53x0 with ⟨w54v, w54e, w54g⟩ | ⟨w54v, w54G, w54e, w54g⟩
                · skip
                  refine zs_iconst (pc := 72) t342_72 (v := -1) (by decide) ?_
                  refine zs_icmp_eqT (pc := 73) t342_73 rfl lin1 (by omega) ?_
                  refine zs_aload_n (pc := 82) t342_82 rfl ?_
                  refine zs_iload_n (pc := 83) t342_83 rfl ?_
                  refine zs_aload_n (pc := 84) t342_84 rfl ?_
                  refine zs_get (pc := 85) t342_85 (by decide) (zk1 (w53s.k fk_zMm_336)) (zfvi rfl ((w53F 336 47 rfl).trans ((w34F 336 47 rfl).trans ((zIoj (by decide)).trans rfl)))) ?_
                  by_cases w55 : (zI w12M 336 47).toInt ≤ w34x1.toInt
                  · refine zs_icmp_geT (pc := 88) t342_88 rfl rfl (by omega) ?_
                    refine zs_iconst (pc := 95) t342_95 (v := -1) (by decide) ?_
                    have w56 : zIv mLo mHi (zsI w53M 336 48 (-1 : Int32)) := zIv.put w53I (show (-2147483648) ≤ (-1 : Int32).toInt ∧ (-1 : Int32).toInt ≤ 2147483647 from zrg (-1 : Int32))
                    refine zs_putI (pc := 96) t342_96 (zk1 (w53s.k fk_zMm_336)) rfl ?_
                    refine zs_iload_n (pc := 99) t342_99 rfl ?_
                    have w57 : (zI (zsI w53M 336 48 (-1 : Int32)) 336 5).toInt = 0 := (congrArg Int32.toInt ((zIoj (by decide)).trans ((w53F 336 5 rfl).trans ((w34F 336 5 rfl).trans zIs)))).trans li0
                    have w58 : (zI (zsI w53M 336 48 (-1 : Int32)) 336 48).toInt = (-1) := (congrArg Int32.toInt zIs).trans lin1
                    have w59 : (zI (zsI w53M 336 48 (-1 : Int32)) 336 7).toInt = (zI w12M 336 7).toInt := (congrArg Int32.toInt ((zIoj (by decide)).trans ((w53F 336 7 rfl).trans ((w34F 336 7 rfl).trans ((zIoj (by decide)).trans rfl))))).trans rfl
                    have w60 : (zI w34M 336 47).toInt = (zI w12M 336 47).toInt := (congrArg Int32.toInt ((w34F 336 47 rfl).trans ((zIoj (by decide)).trans rfl))).trans rfl
                    have w61 := w34d.fin (dSt.no (by omega) w54e)
                    exact zs_iret (pc := 100) t342_100 mr342 rfl (hQ _ _ w53s w56 (((((((((zFr.refl).put rfl).put rfl).put rfl).trans (w12F.mono rfl)).put rfl).trans (w34F.mono rfl)).trans (w53F.mono rfl)).put rfl) (w53J.trans (w34J.trans w12J)) (zPR.fr (M' := (zsI w53M 336 48 (-1 : Int32))) w53PR (zEq.put rfl)) (zPC.fr (M' := (zsI w53M 336 48 (-1 : Int32))) w53PC (zEq.put rfl)) (zPF.fr (M' := (zsI w53M 336 48 (-1 : Int32))) w53PF (zEq.put rfl) rfl) (by omega) (Or.inr ⟨by omega, w32n, w33A, _, _, _, w33r, by rw [show w34x1.toInt = (w35n : Int) by omega, show (zI (zsI w53M 336 48 (-1 : Int32)) 336 48).toInt = (w35n : Int) by omega]; exact w61, w34wf, (zRw.fr' w54g.1 (fun j hj => (zIo (by decide)))), (zHM.fr w54g.2.1 (fun j hj => (zIo (by decide))) (zIoj (by decide))), (zKM.fr w54g.2.2 (fun j hj => (zIo (by decide))) (fun k => (zIo (by decide))))⟩))
                  · refine zs_icmp_geF (pc := 88) t342_88 rfl rfl (by omega) ?_
                    refine zs_iload_n (pc := 91) t342_91 rfl ?_
                    refine zs_goto (pc := 92) t342_92 ?_
                    have w62 : zIv mLo mHi (zsI w53M 336 48 w34x1) := zIv.put w53I (show (-2147483648) ≤ w34x1.toInt ∧ w34x1.toInt ≤ 2147483647 from zrg w34x1)
                    refine zs_putI (pc := 96) t342_96 (zk1 (w53s.k fk_zMm_336)) rfl ?_
                    refine zs_iload_n (pc := 99) t342_99 rfl ?_
                    have w63 : (zI (zsI w53M 336 48 w34x1) 336 5).toInt = 0 := (congrArg Int32.toInt ((zIoj (by decide)).trans ((w53F 336 5 rfl).trans ((w34F 336 5 rfl).trans zIs)))).trans li0
                    have w64 : (zI (zsI w53M 336 48 w34x1) 336 48).toInt = w34x1.toInt := (congrArg Int32.toInt zIs).trans rfl
                    have w65 : (zI (zsI w53M 336 48 w34x1) 336 7).toInt = (zI w12M 336 7).toInt := (congrArg Int32.toInt ((zIoj (by decide)).trans ((w53F 336 7 rfl).trans ((w34F 336 7 rfl).trans ((zIoj (by decide)).trans rfl))))).trans rfl
                    have w66 : (zI w34M 336 47).toInt = (zI w12M 336 47).toInt := (congrArg Int32.toInt ((w34F 336 47 rfl).trans ((zIoj (by decide)).trans rfl))).trans rfl
                    have w67 := w34d.fin (dSt.no (by omega) w54e)
                    exact zs_iret (pc := 100) t342_100 mr342 rfl (hQ _ _ w53s w62 (((((((((zFr.refl).put rfl).put rfl).put rfl).trans (w12F.mono rfl)).put rfl).trans (w34F.mono rfl)).trans (w53F.mono rfl)).put rfl) (w53J.trans (w34J.trans w12J)) (zPR.fr (M' := (zsI w53M 336 48 w34x1)) w53PR (zEq.put rfl)) (zPC.fr (M' := (zsI w53M 336 48 w34x1)) w53PC (zEq.put rfl)) (zPF.fr (M' := (zsI w53M 336 48 w34x1)) w53PF (zEq.put rfl) rfl) (by omega) (Or.inr ⟨by omega, w32n, w33A, _, _, _, w33r, by rw [show w34x1.toInt = (w35n : Int) by omega, show (zI (zsI w53M 336 48 w34x1) 336 48).toInt = (w35n : Int) by omega]; exact w67, w34wf, (zRw.fr' w54g.1 (fun j hj => (zIo (by decide)))), (zHM.fr w54g.2.1 (fun j hj => (zIo (by decide))) (zIoj (by decide))), (zKM.fr w54g.2.2 (fun j hj => (zIo (by decide))) (fun k => (zIo (by decide))))⟩))
                · skip
                  refine zs_iconst (pc := 72) t342_72 (v := -1) (by decide) ?_
                  by_cases w68 : w53v.toInt = (-1)
                  · refine zs_icmp_eqT (pc := 73) t342_73 rfl lin1 (by omega) ?_
                    refine zs_aload_n (pc := 82) t342_82 rfl ?_
                    refine zs_iload_n (pc := 83) t342_83 rfl ?_
                    refine zs_aload_n (pc := 84) t342_84 rfl ?_
                    refine zs_get (pc := 85) t342_85 (by decide) (zk1 (w53s.k fk_zMm_336)) (zfvi rfl ((w53F 336 47 rfl).trans ((w34F 336 47 rfl).trans ((zIoj (by decide)).trans rfl)))) ?_
                    by_cases w69 : (zI w12M 336 47).toInt ≤ w34x1.toInt
                    · refine zs_icmp_geT (pc := 88) t342_88 rfl rfl (by omega) ?_
                      refine zs_iconst (pc := 95) t342_95 (v := -1) (by decide) ?_
                      have w70 : zIv mLo mHi (zsI w53M 336 48 (-1 : Int32)) := zIv.put w53I (show (-2147483648) ≤ (-1 : Int32).toInt ∧ (-1 : Int32).toInt ≤ 2147483647 from zrg (-1 : Int32))
                      refine zs_putI (pc := 96) t342_96 (zk1 (w53s.k fk_zMm_336)) rfl ?_
                      refine zs_iload_n (pc := 99) t342_99 rfl ?_
                      have w71 : (zI (zsI w53M 336 48 (-1 : Int32)) 336 5).toInt = 0 := (congrArg Int32.toInt ((zIoj (by decide)).trans ((w53F 336 5 rfl).trans ((w34F 336 5 rfl).trans zIs)))).trans li0
                      have w72 : (zI (zsI w53M 336 48 (-1 : Int32)) 336 48).toInt = (-1) := (congrArg Int32.toInt zIs).trans lin1
                      have w73 : (zI (zsI w53M 336 48 (-1 : Int32)) 336 7).toInt = (zI w12M 336 7).toInt := (congrArg Int32.toInt ((zIoj (by decide)).trans ((w53F 336 7 rfl).trans ((w34F 336 7 rfl).trans ((zIoj (by decide)).trans rfl))))).trans rfl
                      exact zs_iret (pc := 100) t342_100 mr342 rfl (hQ _ _ w53s w70 (((((((((zFr.refl).put rfl).put rfl).put rfl).trans (w12F.mono rfl)).put rfl).trans (w34F.mono rfl)).trans (w53F.mono rfl)).put rfl) (w53J.trans (w34J.trans w12J)) (zPR.fr (M' := (zsI w53M 336 48 (-1 : Int32))) w53PR (zEq.put rfl)) (zPC.fr (M' := (zsI w53M 336 48 (-1 : Int32))) w53PC (zEq.put rfl)) (zPF.fr (M' := (zsI w53M 336 48 (-1 : Int32))) w53PF (zEq.put rfl) rfl) (by omega) (absurd (show w53v.toInt = -1 by omega) w54v))
                    · refine zs_icmp_geF (pc := 88) t342_88 rfl rfl (by omega) ?_
                      refine zs_iload_n (pc := 91) t342_91 rfl ?_
                      refine zs_goto (pc := 92) t342_92 ?_
                      have w74 : zIv mLo mHi (zsI w53M 336 48 w34x1) := zIv.put w53I (show (-2147483648) ≤ w34x1.toInt ∧ w34x1.toInt ≤ 2147483647 from zrg w34x1)
                      refine zs_putI (pc := 96) t342_96 (zk1 (w53s.k fk_zMm_336)) rfl ?_
                      refine zs_iload_n (pc := 99) t342_99 rfl ?_
                      have w75 : (zI (zsI w53M 336 48 w34x1) 336 5).toInt = 0 := (congrArg Int32.toInt ((zIoj (by decide)).trans ((w53F 336 5 rfl).trans ((w34F 336 5 rfl).trans zIs)))).trans li0
                      have w76 : (zI (zsI w53M 336 48 w34x1) 336 48).toInt = w34x1.toInt := (congrArg Int32.toInt zIs).trans rfl
                      have w77 : (zI (zsI w53M 336 48 w34x1) 336 7).toInt = (zI w12M 336 7).toInt := (congrArg Int32.toInt ((zIoj (by decide)).trans ((w53F 336 7 rfl).trans ((w34F 336 7 rfl).trans ((zIoj (by decide)).trans rfl))))).trans rfl
                      exact zs_iret (pc := 100) t342_100 mr342 rfl (hQ _ _ w53s w74 (((((((((zFr.refl).put rfl).put rfl).put rfl).trans (w12F.mono rfl)).put rfl).trans (w34F.mono rfl)).trans (w53F.mono rfl)).put rfl) (w53J.trans (w34J.trans w12J)) (zPR.fr (M' := (zsI w53M 336 48 w34x1)) w53PR (zEq.put rfl)) (zPC.fr (M' := (zsI w53M 336 48 w34x1)) w53PC (zEq.put rfl)) (zPF.fr (M' := (zsI w53M 336 48 w34x1)) w53PF (zEq.put rfl) rfl) (by omega) (absurd (show w53v.toInt = -1 by omega) w54v))
                  · refine zs_icmp_eqF (pc := 73) t342_73 rfl lin1 (by omega) ?_
                    obtain ⟨w78v, w78e, w78⟩ := ziadd (a := w34x1) (b := Int32.ofInt 1) rfl (show (Int32.ofInt 1).toInt = 1 by decide) (by omega) (by omega)
                    refine zs_iinc (pc := 76) t342_76 (ls' := [(1, .int w78v), (0, .ref 336)]) (zml mf342 (by decide)) rfl (c := w78v) w78e rfl ?_
                    refine zs_goto (pc := 79) t342_79 ?_
                    refine zGo.locals (ls' := [(0, .ref 336), (1, .int w78v)]) (by simp) ?_
                    have w79 := w78
                    have w80 : (zI w53M 336 47).toInt = (zI w12M 336 47).toInt := (congrArg Int32.toInt ((w53F 336 47 rfl).trans ((w34F 336 47 rfl).trans ((zIoj (by decide)).trans rfl)))).trans rfl
                    have w81 : (zI w53M 336 5).toInt = 0 := (congrArg Int32.toInt ((w53F 336 5 rfl).trans ((w34F 336 5 rfl).trans zIs))).trans li0
                    have w82 : w78v.toInt = (w34x1.toInt + 1) := w78
                    exact w34ih (w34m - 1) (by omega) w78v w53M ⟨by omega, by omega⟩ w53s w53I (((zFr.refl).trans (w34F.mono rfl)).trans (w53F.mono rfl)) (w53J.trans w34J) w53PR w53PC w53PF (by omega) (by omega) (fun i hi => by obtain rfl : w35n + 1 = i := (by omega); exact ⟨_, _, _, w34d.go (dSt.go (by omega) w54e), aDo.wf w34wf w54e, w54g.1, w54g.2.1, w54g.2.2⟩) (by omega)
          refine zGo.locals (ls' := [(0, .ref 336), (1, .int (0 : Int32))]) (by simp) ?_
          have w83 := li0
          have w84 : (zI (zsI w12M 336 5 (0 : Int32)) 336 47).toInt = (zI w12M 336 47).toInt := (congrArg Int32.toInt ((zIoj (by decide)).trans rfl)).trans rfl
          have w85 : (zI (zsI w12M 336 5 (0 : Int32)) 336 5).toInt = 0 := (congrArg Int32.toInt zIs).trans li0
          exact w34L ((20 - 0 : Int).toNat) (0 : Int32) (zsI w12M 336 5 (0 : Int32)) ⟨by decide, by decide⟩ w12s w27 zFr.refl rfl (zPR.fr (M' := (zsI w12M 336 5 (0 : Int32))) (zPR.fr (zPR.fr (M' := (zsI (zsI (zsI M 336 6 (0 : Int32)) 336 7 (-1 : Int32)) 336 47 (0 : Int32))) (zPR.fr (M' := (zsI (zsI M 336 6 (0 : Int32)) 336 7 (-1 : Int32))) (zPR.fr (M' := (zsI M 336 6 (0 : Int32))) pR (zEq.put rfl)) (zEq.put rfl)) (zEq.put rfl)) (w12F.eq rfl)) (zEq.put rfl)) (zPC.fr (M' := (zsI w12M 336 5 (0 : Int32))) (zPC.fr (zPC.fr (M' := (zsI (zsI (zsI M 336 6 (0 : Int32)) 336 7 (-1 : Int32)) 336 47 (0 : Int32))) (zPC.fr (M' := (zsI (zsI M 336 6 (0 : Int32)) 336 7 (-1 : Int32))) (zPC.fr (M' := (zsI M 336 6 (0 : Int32))) pC (zEq.put rfl)) (zEq.put rfl)) (zEq.put rfl)) (w12F.eq rfl)) (zEq.put rfl)) (zPF.fr (M' := (zsI w12M 336 5 (0 : Int32))) (zPF.fr (zPF.fr (M' := (zsI (zsI (zsI M 336 6 (0 : Int32)) 336 7 (-1 : Int32)) 336 47 (0 : Int32))) (zPF.fr (M' := (zsI (zsI M 336 6 (0 : Int32)) 336 7 (-1 : Int32))) (zPF.fr (M' := (zsI M 336 6 (0 : Int32))) pF (zEq.put rfl) rfl) (zEq.put rfl) rfl) (zEq.put rfl) rfl) (w12F.eq rfl) w12J) (zEq.put rfl) rfl) (by omega) (by omega) (fun i hi => by obtain rfl : i = 0 := (by omega); exact ⟨F, H, n, gEq.refl, x3, (zRw.fr' (zRw.fr' x0 (fun j hj => ((w12F 337 j rfl).trans ((zIo (by decide)).trans ((zIo (by decide)).trans (zIo (by decide))))))) (fun j hj => (zIo (by decide)))), (zHM.fr (zHM.fr x1 (fun j hj => ((w12F 337 j rfl).trans ((zIo (by decide)).trans ((zIo (by decide)).trans (zIo (by decide)))))) ((w12F 336 1 rfl).trans ((zIoj (by decide)).trans ((zIoj (by decide)).trans (zIoj (by decide)))))) (fun j hj => (zIo (by decide))) (zIoj (by decide))), (zKM.fr (zKM.fr x2 (fun j hj => ((w12F 337 j rfl).trans ((zIo (by decide)).trans ((zIo (by decide)).trans (zIo (by decide)))))) (fun k => ((w12F 338 k rfl).trans ((zIo (by decide)).trans ((zIo (by decide)).trans (zIo (by decide))))))) (fun j hj => (zIo (by decide))) (fun k => (zIo (by decide))))⟩) (by omega)
        · refine zs_icmp_geF (pc := 25) t342_25 rfl rfl (by omega) ?_
          refine zs_aload_n (pc := 28) t342_28 rfl ?_
          have w86 : (zI w12M 336 6).toInt = (zI w12M 336 6).toInt := (congrArg Int32.toInt rfl).trans rfl
          have w87 : (zI w12M 336 7).toInt = (zI w12M 336 7).toInt := (congrArg Int32.toInt rfl).trans rfl
          have w88 : (zI w12M 336 47).toInt = (zI w12M 336 47).toInt := (congrArg Int32.toInt rfl).trans rfl
          obtain ⟨w89n, w89⟩ : ∃ n : Nat, (zI w12M 336 6).toInt = (n : Int) := ⟨((zI w12M 336 6).toInt).toNat, by omega⟩
          obtain ⟨w90n, w90⟩ : ∃ n : Nat, (zI w12M 336 47).toInt = (n : Int) := ⟨((zI w12M 336 47).toInt).toNat, by omega⟩
          obtain ⟨w91A, w91d, w91g⟩ := w12t0 (by omega) w89n w90n (by omega) (by omega)
          have w92 : (zI w12M 336 6).toInt = (zI w12M 336 6).toInt := (congrArg Int32.toInt rfl).trans rfl
          have w93 : (zI w12M 336 5).toInt = (zI M 336 5).toInt := (congrArg Int32.toInt ((w12F 336 5 rfl).trans ((zIoj (by decide)).trans ((zIoj (by decide)).trans ((zIoj (by decide)).trans rfl))))).trans rfl
          have w94 : (zI w12M 336 7).toInt = (zI w12M 336 7).toInt := (congrArg Int32.toInt rfl).trans rfl
          have w95 : (zI w12M 336 47).toInt = (zI w12M 336 47).toInt := (congrArg Int32.toInt rfl).trans rfl
          refine zs_invV (pc := 29) (k := 336) (as' := []) (st := []) t342_29 mf343 rfl rfl (Or.inl ⟨by decide, (zk1 (w12s.k fk_zMm_336))⟩) ⟨by decide, by decide, Nat.le_of_ble_eq_true rfl, Nat.le_of_ble_eq_true rfl⟩ (R343 w12s w12I (by omega) (by omega) (by omega) (by omega) (zTm.mk x4 (fun j => ((w12F 339 j rfl).trans ((zIo (by decide)).trans ((zIo (by decide)).trans (zIo (by decide)))))) ((w12F 336 5 rfl).trans ((zIoj (by decide)).trans ((zIoj (by decide)).trans (zIoj (by decide)))))) ?_) (fun _ _ q => q)
          intro w96M w96v w96s w96I w96F w96J w96x0 w96a w96b
          show zGo X l 5 0 0 342 32 [(0, .ref 336)] [.int w96v] w96M _
          rcases w96x0.1 w89n w90n (by omega) (by omega) with ⟨w91v, w91_0, w91q, w91B, w91_1, w91_2, w91_3, w91_4, w91_5, w91_6, w91t⟩ | ⟨w91v, w91_5, w91z⟩
          · skip
            refine zs_if_neT (pc := 32) t342_32 rfl (by omega) ?_
            refine zGo.locals (ls' := [(0, .ref 336)]) (by simp) ?_
            have w97 := ib336_47 w96I
            have w98 : (zI w96M 336 47).toInt = (zI w96M 336 47).toInt := (congrArg Int32.toInt rfl).trans rfl
            have w99 := ib336_6 w96I
            have w100 : (zI w96M 336 6).toInt = (zI w96M 336 6).toInt := (congrArg Int32.toInt rfl).trans rfl
            have w101 : (zI w96M 336 5).toInt = (zI M 336 5).toInt := (congrArg Int32.toInt ((w96F 336 5 rfl).trans ((w12F 336 5 rfl).trans ((zIoj (by decide)).trans ((zIoj (by decide)).trans ((zIoj (by decide)).trans rfl)))))).trans rfl
            have w102 := ib336_7 w96I
            have w103 : (zI w96M 336 7).toInt = (zI w96M 336 7).toInt := (congrArg Int32.toInt rfl).trans rfl
            have w104 : (zI w96M 336 5).toInt = (zI M 336 5).toInt := (congrArg Int32.toInt ((w96F 336 5 rfl).trans ((w12F 336 5 rfl).trans ((zIoj (by decide)).trans ((zIoj (by decide)).trans ((zIoj (by decide)).trans rfl)))))).trans rfl
            have w105 : (zI w96M 336 6).toInt = (zI w96M 336 6).toInt := (congrArg Int32.toInt rfl).trans rfl
            have w106 : (zI w96M 336 7).toInt = (zI w96M 336 7).toInt := (congrArg Int32.toInt rfl).trans rfl
            exact w12ih (w12m - 1) (by omega) w96M w96s w96I (((zFr.refl).trans (w12F.mono rfl)).trans (w96F.mono rfl)) (w96J.trans w12J) (by omega) (by omega) (by omega) (fun q p k hp hk => by obtain rfl : w91q = p := (by omega); obtain rfl : w90n + 1 = k := (by omega); exact ⟨_, w91d.go (aSt.go (by omega) (by omega) w91_1), w91g.up w91t (fun j hj => w96x0.2 j (by omega))⟩) (fun q => absurd (by omega) q) (by omega)
          · skip
            refine zs_if_neF (pc := 32) t342_32 rfl (by omega) ?_
            refine zs_aload_n (pc := 35) t342_35 rfl ?_
            refine zs_aload_n (pc := 36) t342_36 rfl ?_
            refine zs_get (pc := 37) t342_37 (by decide) (zk1 (w96s.k fk_zMm_336)) (zfvi rfl ((w96F 336 5 rfl).trans ((w12F 336 5 rfl).trans ((zIoj (by decide)).trans ((zIoj (by decide)).trans ((zIoj (by decide)).trans rfl)))))) ?_
            have w107 : zIv mLo mHi (zsI w96M 336 6 (zI M 336 5)) := zIv.put w96I (show 0 ≤ (zI M 336 5).toInt ∧ (zI M 336 5).toInt ≤ 500 from ⟨by omega, by omega⟩)
            refine zs_putI (pc := 40) t342_40 (zk1 (w96s.k fk_zMm_336)) rfl ?_
            refine zs_goto (pc := 43) t342_43 ?_
            refine zGo.locals (ls' := [(0, .ref 336)]) (by simp) ?_
            have w108 := ib336_47 w96I
            have w109 : (zI (zsI w96M 336 6 (zI M 336 5)) 336 47).toInt = (zI w96M 336 47).toInt := (congrArg Int32.toInt ((zIoj (by decide)).trans rfl)).trans rfl
            have w110 : (zI (zsI w96M 336 6 (zI M 336 5)) 336 6).toInt = (zI M 336 5).toInt := (congrArg Int32.toInt zIs).trans rfl
            have w111 : (zI (zsI w96M 336 6 (zI M 336 5)) 336 5).toInt = (zI M 336 5).toInt := (congrArg Int32.toInt ((zIoj (by decide)).trans ((w96F 336 5 rfl).trans ((w12F 336 5 rfl).trans ((zIoj (by decide)).trans ((zIoj (by decide)).trans ((zIoj (by decide)).trans rfl))))))).trans rfl
            have w112 := ib336_7 w96I
            have w113 : (zI (zsI w96M 336 6 (zI M 336 5)) 336 7).toInt = (zI w96M 336 7).toInt := (congrArg Int32.toInt ((zIoj (by decide)).trans rfl)).trans rfl
            have w114 : (zI (zsI w96M 336 6 (zI M 336 5)) 336 5).toInt = (zI M 336 5).toInt := (congrArg Int32.toInt ((zIoj (by decide)).trans ((w96F 336 5 rfl).trans ((w12F 336 5 rfl).trans ((zIoj (by decide)).trans ((zIoj (by decide)).trans ((zIoj (by decide)).trans rfl))))))).trans rfl
            have w115 : (zI (zsI w96M 336 6 (zI M 336 5)) 336 6).toInt = (zI M 336 5).toInt := (congrArg Int32.toInt zIs).trans rfl
            have w116 : (zI (zsI w96M 336 6 (zI M 336 5)) 336 7).toInt = (zI w96M 336 7).toInt := (congrArg Int32.toInt ((zIoj (by decide)).trans rfl)).trans rfl
            exact w12ih (w12m - 1) (by omega) (zsI w96M 336 6 (zI M 336 5)) w96s w107 ((((zFr.refl).trans (w12F.mono rfl)).trans (w96F.mono rfl)).put rfl) (w96J.trans w12J) (by omega) (by omega) (by omega) (fun q => absurd q (by omega)) (fun q => w91z.elim (fun z => w91d.fin (aSt.full (by omega) z)) (fun z => w91d.fin (aSt.no (by omega) z))) (by omega)
  refine zGo.locals (ls' := [(0, .ref 336)]) (by simp) ?_
  have w117 : (zI (zsI (zsI (zsI M 336 6 (0 : Int32)) 336 7 (-1 : Int32)) 336 47 (0 : Int32)) 336 47).toInt = 0 := (congrArg Int32.toInt zIs).trans li0
  have w118 : (zI (zsI (zsI (zsI M 336 6 (0 : Int32)) 336 7 (-1 : Int32)) 336 47 (0 : Int32)) 336 6).toInt = 0 := (congrArg Int32.toInt ((zIoj (by decide)).trans ((zIoj (by decide)).trans zIs))).trans li0
  have w119 : (zI (zsI (zsI (zsI M 336 6 (0 : Int32)) 336 7 (-1 : Int32)) 336 47 (0 : Int32)) 336 5).toInt = (zI M 336 5).toInt := (congrArg Int32.toInt ((zIoj (by decide)).trans ((zIoj (by decide)).trans ((zIoj (by decide)).trans rfl)))).trans rfl
  have w120 : (zI (zsI (zsI (zsI M 336 6 (0 : Int32)) 336 7 (-1 : Int32)) 336 47 (0 : Int32)) 336 7).toInt = (-1) := (congrArg Int32.toInt ((zIoj (by decide)).trans zIs)).trans lin1
  have w121 : (zI (zsI (zsI (zsI M 336 6 (0 : Int32)) 336 7 (-1 : Int32)) 336 47 (0 : Int32)) 336 5).toInt = (zI M 336 5).toInt := (congrArg Int32.toInt ((zIoj (by decide)).trans ((zIoj (by decide)).trans ((zIoj (by decide)).trans rfl)))).trans rfl
  have w122 : (zI (zsI (zsI (zsI M 336 6 (0 : Int32)) 336 7 (-1 : Int32)) 336 47 (0 : Int32)) 336 6).toInt = 0 := (congrArg Int32.toInt ((zIoj (by decide)).trans ((zIoj (by decide)).trans zIs))).trans li0
  have w123 : (zI (zsI (zsI (zsI M 336 6 (0 : Int32)) 336 7 (-1 : Int32)) 336 47 (0 : Int32)) 336 7).toInt = (-1) := (congrArg Int32.toInt ((zIoj (by decide)).trans zIs)).trans lin1
  exact w12L ((501 - (zI (zsI (zsI (zsI M 336 6 (0 : Int32)) 336 7 (-1 : Int32)) 336 47 (0 : Int32)) 336 6).toInt - 501 * (min (zI (zsI (zsI (zsI M 336 6 (0 : Int32)) 336 7 (-1 : Int32)) 336 47 (0 : Int32)) 336 7).toInt 0) : Int).toNat) (zsI (zsI (zsI M 336 6 (0 : Int32)) 336 7 (-1 : Int32)) 336 47 (0 : Int32)) hs w11 zFr.refl rfl (by omega) (by omega) (by omega) (fun q p k hp hk => by obtain rfl : p = 0 := (by omega); obtain rfl : k = 0 := (by omega); exact ⟨aZ, gEq.refl, zBl.z⟩) (fun q => absurd q (by omega)) (by omega)
