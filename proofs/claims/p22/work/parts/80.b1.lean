theorem R342 {X : zX} {l : Launch} {M : zM} {Q : Option Value → zM → Prop} (hs : zSk zMm M) (hI : zIv mLo mHi M) {F : Nat → Int} {H : Nat → Nat → Int} {n : Int} {K : Nat → Nat → Int} {T : Nat → Int} {gg : Nat → Int} {nn : Int} (pR : zPR M) (pC : zPC M) (pF : zPF M) (x0 : zRw M 0 F) (x1 : zHM M H n) (x2 : zKM M K T) (x3 : zWF F) (x4 : zTm M gg nn) (hQ : ∀ (M' : zM) (v : Int32), zSk zMm M' → zIv mLo mHi M' → zFr [(337, 337, none), (336, 336, some 6), (336, 336, some 7), (336, 336, some 8), (362, 362, none), (336, 336, some 47), (336, 336, some 5), (336, 336, some 1), (336, 336, some 3), (336, 336, some 48)] M M' → zJ M' 351 = zJ M 351 → zPR M' → zPC M' → zPF M' → ((zI M' 336 5).toInt = 0) → ((zI M' 336 3).toInt = 0 ∨ (v.toInt ≤ 0 ∧ (zI M' 336 3).toInt = (zI M 336 3).toInt)) → ((v.toInt = -1 ∧ gR (aSt gg nn) (0, 0, aZ) none ∧ zSM M' F H n K T ∧ (zI M' 336 48).toInt = (zI M 336 48).toInt) ∨ (0 ≤ v.toInt ∧ ∃ (k : Nat) (L : Nat → aT) (F2 : Nat → Int) (H2 : Nat → Nat → Int) (n2 : Int), gR (aSt gg nn) (0, 0, aZ) (some (k, L)) ∧ gR (dSt L k) (0, F, H, n) (v.toInt, (zI M' 336 48).toInt, F2, H2, n2) ∧ zWF F2 ∧ zSM M' F2 H2 n2 K T)) → Q (some (.int v)) M') : zCall X l 5 0 0 342 [.ref 336] M Q := by
  refine zs_in (by decide) mf342 (Nat.le_of_ble_eq_true rfl) ?_
  show zGo X l 5 0 0 342 0 [(0, .ref 336)] [] M _
  have f1 := x3.1
  have f3 := x3.2.2.2
  have w1 := ibA0 hI
  have w2 : (zI M 337 0).toInt = (zI M 337 0).toInt := (congrArg Int32.toInt rfl).trans rfl
  have e0 : (zI M 337 0).toInt = F 0 := x0.at (by decide) (by decide) (by decide)
  have w3 := ibA1 hI
  have w4 : (zI M 337 1).toInt = (zI M 337 1).toInt := (congrArg Int32.toInt rfl).trans rfl
  have e1 : (zI M 337 1).toInt = F 1 := x0.at (by decide) (by decide) (by decide)
  have w5 := ibA2 hI
  have w6 : (zI M 337 2).toInt = (zI M 337 2).toInt := (congrArg Int32.toInt rfl).trans rfl
  have e2 : (zI M 337 2).toInt = F 2 := x0.at (by decide) (by decide) (by decide)
  have hn := x4.2
  have w7 := ib336_5 hI
  have w8 : (zI M 336 5).toInt = (zI M 336 5).toInt := (congrArg Int32.toInt rfl).trans rfl
  refine zs_aload_n (pc := 0) t342_0 rfl ?_
  refine zs_invV (pc := 1) (k := 336) (as' := []) (st := []) t342_1 mf236 rfl rfl (Or.inl ⟨by decide, (zk1 (hs.k fk_zMm_336))⟩) ⟨by decide, by decide, Nat.le_of_ble_eq_true rfl, Nat.le_of_ble_eq_true rfl⟩ (zs_in (by decide) mf236 (Nat.le_of_ble_eq_true rfl) ?_) (fun _ _ q => q)
  show zGo X l 0 0 0 236 0 [(0, .ref 336)] [] M _
  refine zs_aload_n (pc := 0) t236_0 rfl ?_
  refine zs_iconst (pc := 1) t236_1 (v := 0) (by decide) ?_
  have w9 : zIv mLo mHi (zsI M 336 6 (0 : Int32)) := zIv.put hI (show 0 ≤ (0 : Int32).toInt ∧ (0 : Int32).toInt ≤ 500 from ⟨by decide, by decide⟩)
  refine zs_putI (pc := 2) t236_2 (zk1 (hs.k fk_zMm_336)) rfl ?_
  refine zs_aload_n (pc := 5) t236_5 rfl ?_
  refine zs_iconst (pc := 6) t236_6 (v := -1) (by decide) ?_
  have w10 : zIv mLo mHi (zsI (zsI M 336 6 (0 : Int32)) 336 7 (-1 : Int32)) := zIv.put w9 (show (-1) ≤ (-1 : Int32).toInt ∧ (-1 : Int32).toInt ≤ 500 from ⟨by decide, by decide⟩)
  refine zs_putI (pc := 7) t236_7 (zk1 (hs.k fk_zMm_336)) rfl ?_
  refine zs_vret (pc := 10) t236_10 mr236 ?_
  show zGo X l 5 0 0 342 4 [(0, .ref 336)] [] (zsI (zsI M 336 6 (0 : Int32)) 336 7 (-1 : Int32)) _
  refine zs_aload_n (pc := 4) t342_4 rfl ?_
  refine zs_iconst (pc := 5) t342_5 (v := 0) (by decide) ?_
  have w11 : zIv mLo mHi (zsI (zsI (zsI M 336 6 (0 : Int32)) 336 7 (-1 : Int32)) 336 47 (0 : Int32)) := zIv.put w10 (show 0 ≤ (0 : Int32).toInt ∧ (0 : Int32).toInt ≤ 20 from ⟨by decide, by decide⟩)
  refine zs_putI (pc := 6) t342_6 (zk1 (hs.k fk_zMm_336)) rfl ?_
  have w12L : ∀ (m : Nat) (w12M : zM), zSk zMm w12M → zIv mLo mHi w12M → zFr [(336, 336, some 6), (336, 336, some 7), (336, 336, some 8), (362, 362, none), (336, 336, some 47)] (zsI (zsI (zsI M 336 6 (0 : Int32)) 336 7 (-1 : Int32)) 336 47 (0 : Int32)) w12M → zJ w12M 351 = zJ (zsI (zsI (zsI M 336 6 (0 : Int32)) 336 7 (-1 : Int32)) 336 47 (0 : Int32)) 351 → (0 ≤ (zI w12M 336 47).toInt ∧ (zI w12M 336 47).toInt ≤ 20) → ((zI w12M 336 7).toInt ≠ -1 ∨ (0 ≤ (zI w12M 336 6).toInt ∧ (zI w12M 336 6).toInt ≤ (zI w12M 336 5).toInt)) → ((zI w12M 336 5).toInt = (zI (zsI (zsI (zsI M 336 6 (0 : Int32)) 336 7 (-1 : Int32)) 336 47 (0 : Int32)) 336 5).toInt) → ((zI w12M 336 7).toInt = -1 → ∀ p k : Nat, (p : Int) = (zI w12M 336 6).toInt → (k : Int) = (zI w12M 336 47).toInt → ∃ L, gEq (aSt gg nn) (0, 0, aZ) (p, k, L) ∧ zBl w12M 362 k L) → ((zI w12M 336 7).toInt ≠ -1 → gR (aSt gg nn) (0, 0, aZ) none) → 501 - (zI w12M 336 6).toInt - 501 * (min (zI w12M 336 7).toInt 0) ≤ (m : Int) → zGo X l 5 0 0 342 9 [(0, .ref 336)] [] w12M Q := by
    intro m
    induction m using Nat.strongRecOn with
    | ind w12m w12ih =>
      intro w12M w12s w12I w12F w12J w12r0 w12r1 w12r2 w12t0 w12t1 w12q
      have w13 := ib336_47 w12I
      have w14 := ib336_6 w12I
      have w15 := ib336_7 w12I
      have w16 : (zI (zsI (zsI (zsI M 336 6 (0 : Int32)) 336 7 (-1 : Int32)) 336 47 (0 : Int32)) 336 5).toInt = (zI M 336 5).toInt := (congrArg Int32.toInt ((zIoj (by decide)).trans ((zIoj (by decide)).trans ((zIoj (by decide)).trans rfl)))).trans rfl
      refine zs_aload_n (pc := 9) t342_9 rfl ?_
      refine zs_get (pc := 10) t342_10 (by decide) (zk1 (w12s.k fk_zMm_336)) (zfvi rfl rfl) ?_
      refine zs_iconst (pc := 13) t342_13 (v := -1) (by decide) ?_
      by_cases w17 : (zI w12M 336 7).toInt ≠ (-1)
      · refine zs_icmp_neT (pc := 14) t342_14 rfl lin1 (by omega) ?_
        refine zs_aload_n (pc := 46) t342_46 rfl ?_
        refine zs_invV (pc := 47) (k := 336) (as' := []) (st := []) t342_47 mf253 rfl rfl (Or.inl ⟨by decide, (zk1 (w12s.k fk_zMm_336))⟩) ⟨by decide, by decide, Nat.le_of_ble_eq_true rfl, Nat.le_of_ble_eq_true rfl⟩ (zs_in (by decide) mf253 (Nat.le_of_ble_eq_true rfl) ?_) (fun _ _ q => q)
        show zGo X l 0 0 0 253 0 [(0, .ref 336)] [] w12M _
        refine zs_aload_n (pc := 0) t253_0 rfl ?_
        refine zs_iconst (pc := 1) t253_1 (v := 0) (by decide) ?_
        have w18 : zIv mLo mHi (zsI w12M 336 5 (0 : Int32)) := zIv.put w12I (show 0 ≤ (0 : Int32).toInt ∧ (0 : Int32).toInt ≤ 500 from ⟨by decide, by decide⟩)
        refine zs_putI (pc := 2) t253_2 (zk1 (w12s.k fk_zMm_336)) rfl ?_
        refine zs_aload_n (pc := 5) t253_5 rfl ?_
        refine zs_get (pc := 6) t253_6 (by decide) (zk1 (w12s.k fk_zMm_336)) (zfvi rfl ((zIoj (by decide)).trans rfl)) ?_
        refine zs_iconst (pc := 9) t253_9 (v := -1) (by decide) ?_
        refine zs_icmp_neT (pc := 10) t253_10 rfl lin1 (by omega) ?_
        refine zs_iconst (pc := 17) t253_17 (v := 0) (by decide) ?_
        refine zs_iret (pc := 18) t253_18 mr253 (by decide) ?_
        show zGo X l 5 0 0 342 50 [(0, .ref 336)] [.int (0 : Int32)] (zsI w12M 336 5 (0 : Int32)) _
        refine zs_if_neF (pc := 50) t342_50 li0 (by decide) ?_
        refine zs_iconst (pc := 53) t342_53 (v := -1) (by decide) ?_
        have w19 : (-1 : Int32).toInt = (-1) := lin1
        have w20 : (zI (zsI w12M 336 5 (0 : Int32)) 336 5).toInt = 0 := (congrArg Int32.toInt zIs).trans li0
        have w21 := ib336_3 hI
        have w22 : (zI (zsI w12M 336 5 (0 : Int32)) 336 3).toInt = (zI M 336 3).toInt := (congrArg Int32.toInt ((zIoj (by decide)).trans ((w12F 336 3 rfl).trans ((zIoj (by decide)).trans ((zIoj (by decide)).trans ((zIoj (by decide)).trans rfl)))))).trans rfl
        have w23 := lin1
        have w24 : (-1 : Int32).toInt = (-1) := lin1
        have w25 := zrg (zI M 336 48)
        have w26 : (zI (zsI w12M 336 5 (0 : Int32)) 336 48).toInt = (zI M 336 48).toInt := (congrArg Int32.toInt ((zIoj (by decide)).trans ((w12F 336 48 rfl).trans ((zIoj (by decide)).trans ((zIoj (by decide)).trans ((zIoj (by decide)).trans rfl)))))).trans rfl
        have w27 : (zI (zsI w12M 336 5 (0 : Int32)) 336 7).toInt = (zI w12M 336 7).toInt := (congrArg Int32.toInt ((zIoj (by decide)).trans rfl)).trans rfl
        exact zs_iret (pc := 54) t342_54 mr342 (by decide) (hQ _ _ w12s w18 ((((((zFr.refl).put rfl).put rfl).put rfl).trans (w12F.mono rfl)).put rfl) w12J (zPR.fr (M' := (zsI w12M 336 5 (0 : Int32))) (zPR.fr (zPR.fr (M' := (zsI (zsI (zsI M 336 6 (0 : Int32)) 336 7 (-1 : Int32)) 336 47 (0 : Int32))) (zPR.fr (M' := (zsI (zsI M 336 6 (0 : Int32)) 336 7 (-1 : Int32))) (zPR.fr (M' := (zsI M 336 6 (0 : Int32))) pR (zEq.put rfl)) (zEq.put rfl)) (zEq.put rfl)) (w12F.eq rfl)) (zEq.put rfl)) (zPC.fr (M' := (zsI w12M 336 5 (0 : Int32))) (zPC.fr (zPC.fr (M' := (zsI (zsI (zsI M 336 6 (0 : Int32)) 336 7 (-1 : Int32)) 336 47 (0 : Int32))) (zPC.fr (M' := (zsI (zsI M 336 6 (0 : Int32)) 336 7 (-1 : Int32))) (zPC.fr (M' := (zsI M 336 6 (0 : Int32))) pC (zEq.put rfl)) (zEq.put rfl)) (zEq.put rfl)) (w12F.eq rfl)) (zEq.put rfl)) (zPF.fr (M' := (zsI w12M 336 5 (0 : Int32))) (zPF.fr (zPF.fr (M' := (zsI (zsI (zsI M 336 6 (0 : Int32)) 336 7 (-1 : Int32)) 336 47 (0 : Int32))) (zPF.fr (M' := (zsI (zsI M 336 6 (0 : Int32)) 336 7 (-1 : Int32))) (zPF.fr (M' := (zsI M 336 6 (0 : Int32))) pF (zEq.put rfl) rfl) (zEq.put rfl) rfl) (zEq.put rfl) rfl) (w12F.eq rfl) w12J) (zEq.put rfl) rfl) (by omega) (by omega) (Or.inl ⟨by decide, w12t1 (by omega), ⟨(zRw.fr' (zRw.fr' x0 (fun j hj => ((w12F 337 j rfl).trans ((zIo (by decide)).trans ((zIo (by decide)).trans (zIo (by decide))))))) (fun j hj => (zIo (by decide)))), (zHM.fr (zHM.fr x1 (fun j hj => ((w12F 337 j rfl).trans ((zIo (by decide)).trans ((zIo (by decide)).trans (zIo (by decide)))))) ((w12F 336 1 rfl).trans ((zIoj (by decide)).trans ((zIoj (by decide)).trans (zIoj (by decide)))))) (fun j hj => (zIo (by decide))) (zIoj (by decide))), (zKM.fr (zKM.fr x2 (fun j hj => ((w12F 337 j rfl).trans ((zIo (by decide)).trans ((zIo (by decide)).trans (zIo (by decide)))))) (fun k => ((w12F 338 k rfl).trans ((zIo (by decide)).trans ((zIo (by decide)).trans (zIo (by decide))))))) (fun j hj => (zIo (by decide))) (fun k => (zIo (by decide))))⟩, by omega⟩))
      · refine zs_icmp_neF (pc := 14) t342_14 rfl lin1 (by omega) ?_
        refine zs_aload_n (pc := 17) t342_17 rfl ?_
        refine zs_get (pc := 18) t342_18 (by decide) (zk1 (w12s.k fk_zMm_336)) (zfvi rfl rfl) ?_
        refine zs_aload_n (pc := 21) t342_21 rfl ?_
        refine zs_get (pc := 22) t342_22 (by decide) (zk1 (w12s.k fk_zMm_336)) (zfvi rfl ((w12F 336 5 rfl).trans ((zIoj (by decide)).trans ((zIoj (by decide)).trans ((zIoj (by decide)).trans rfl))))) ?_
        by_cases w28 : (zI M 336 5).toInt ≤ (zI w12M 336 6).toInt
        · refine zs_icmp_geT (pc := 25) t342_25 rfl rfl (by omega) ?_
          refine zs_aload_n (pc := 46) t342_46 rfl ?_
          refine zs_invV (pc := 47) (k := 336) (as' := []) (st := []) t342_47 mf253 rfl rfl (Or.inl ⟨by decide, (zk1 (w12s.k fk_zMm_336))⟩) ⟨by decide, by decide, Nat.le_of_ble_eq_true rfl, Nat.le_of_ble_eq_true rfl⟩ (zs_in (by decide) mf253 (Nat.le_of_ble_eq_true rfl) ?_) (fun _ _ q => q)
          show zGo X l 0 0 0 253 0 [(0, .ref 336)] [] w12M _
          refine zs_aload_n (pc := 0) t253_0 rfl ?_
          refine zs_iconst (pc := 1) t253_1 (v := 0) (by decide) ?_
          have w29 : zIv mLo mHi (zsI w12M 336 5 (0 : Int32)) := zIv.put w12I (show 0 ≤ (0 : Int32).toInt ∧ (0 : Int32).toInt ≤ 500 from ⟨by decide, by decide⟩)
          refine zs_putI (pc := 2) t253_2 (zk1 (w12s.k fk_zMm_336)) rfl ?_
          refine zs_aload_n (pc := 5) t253_5 rfl ?_
          refine zs_get (pc := 6) t253_6 (by decide) (zk1 (w12s.k fk_zMm_336)) (zfvi rfl ((zIoj (by decide)).trans rfl)) ?_
          refine zs_iconst (pc := 9) t253_9 (v := -1) (by decide) ?_
          refine zs_icmp_neF (pc := 10) t253_10 rfl lin1 (by omega) ?_
          refine zs_iconst (pc := 13) t253_13 (v := 1) (by decide) ?_
          refine zs_goto (pc := 14) t253_14 ?_
          refine zs_iret (pc := 18) t253_18 mr253 (by decide) ?_
          show zGo X l 5 0 0 342 50 [(0, .ref 336)] [.int (1 : Int32)] (zsI w12M 336 5 (0 : Int32)) _
          refine zs_if_neT (pc := 50) t342_50 li1 (by decide) ?_
          refine zs_iconst (pc := 55) t342_55 (v := 0) (by decide) ?_
          refine zs_istore_n (pc := 56) t342_56 (ls' := [(1, .int (0 : Int32)), (0, .ref 336)]) (zml mf342 (by decide)) rfl ?_
          have w30 : (zI (zsI w12M 336 5 (0 : Int32)) 336 6).toInt = (zI w12M 336 6).toInt := (congrArg Int32.toInt ((zIoj (by decide)).trans rfl)).trans rfl
          have w31 : (zI (zsI w12M 336 5 (0 : Int32)) 336 7).toInt = (zI w12M 336 7).toInt := (congrArg Int32.toInt ((zIoj (by decide)).trans rfl)).trans rfl
          have w32 : (zI (zsI w12M 336 5 (0 : Int32)) 336 47).toInt = (zI w12M 336 47).toInt := (congrArg Int32.toInt ((zIoj (by decide)).trans rfl)).trans rfl
          obtain ⟨w33n, w33⟩ : ∃ n : Nat, (zI w12M 336 6).toInt = (n : Int) := ⟨((zI w12M 336 6).toInt).toNat, by omega⟩
          obtain ⟨w34n, w34⟩ : ∃ n : Nat, (zI w12M 336 47).toInt = (n : Int) := ⟨((zI w12M 336 47).toInt).toNat, by omega⟩
          obtain ⟨w35A, w35d, w35g⟩ := w12t0 (by omega) w33n w34n (by omega) (by omega)
          have w35r := w35d.fin (aSt.end (by omega))
          have w36L : ∀ (m : Nat) (w36x1 : Int32) (w36M : zM), (0 ≤ w36x1.toInt ∧ w36x1.toInt ≤ 20) → zSk zMm w36M → zIv mLo mHi w36M → zFr [(337, 337, none), (336, 336, some 1), (336, 336, some 3)] (zsI w12M 336 5 (0 : Int32)) w36M → zJ w36M 351 = zJ (zsI w12M 336 5 (0 : Int32)) 351 → zPR w36M → zPC w36M → zPF w36M → (w36x1.toInt ≤ (zI w36M 336 47).toInt) → ((zI w36M 336 5).toInt = 0) → ((zI w36M 336 3).toInt = 0 ∨ (w36x1.toInt = 0 ∧ (zI w36M 336 3).toInt = (zI (zsI w12M 336 5 (0 : Int32)) 336 3).toInt)) → (∀ i : Nat, (i : Int) = w36x1.toInt → ∃ (F2 : Nat → Int) (H2 : Nat → Nat → Int) (n2 : Int), gEq (dSt w35A w34n) (0, F, H, n) (i, F2, H2, n2) ∧ zWF F2 ∧ zSM w36M F2 H2 n2 K T) → 20 - w36x1.toInt ≤ (m : Int) → zGo X l 5 0 0 342 57 [(0, .ref 336), (1, .int w36x1)] [] w36M Q := by
            intro m
            induction m using Nat.strongRecOn with
            | ind w36m w36ih =>
              intro w36x1 w36M w36b1 w36s w36I w36F w36J w36PR w36PC w36PF w36r0 w36r1 w36r2 w36t0 w36q
              obtain ⟨w37n, w37⟩ : ∃ n : Nat, w36x1.toInt = (n : Int) := ⟨(w36x1.toInt).toNat, by omega⟩
              obtain ⟨w36G, w36E, w36nn, w36d, w36wf, w36g⟩ := w36t0 w37n (by omega)
              have w38 := ib336_3 w36I
              have w39 : (zI (zsI w12M 336 5 (0 : Int32)) 336 3).toInt = (zI M 336 3).toInt := (congrArg Int32.toInt ((zIoj (by decide)).trans ((w12F 336 3 rfl).trans ((zIoj (by decide)).trans ((zIoj (by decide)).trans ((zIoj (by decide)).trans rfl)))))).trans rfl
              refine zs_iload_n (pc := 57) t342_57 rfl ?_
              refine zs_aload_n (pc := 58) t342_58 rfl ?_
              refine zs_get (pc := 59) t342_59 (by decide) (zk1 (w36s.k fk_zMm_336)) (zfvi rfl ((w36F 336 47 rfl).trans ((zIoj (by decide)).trans rfl))) ?_
              by_cases w40 : (zI w12M 336 47).toInt ≤ w36x1.toInt
              · refine zs_icmp_geT (pc := 62) t342_62 rfl rfl (by omega) ?_
                refine zs_aload_n (pc := 82) t342_82 rfl ?_
                refine zs_iload_n (pc := 83) t342_83 rfl ?_
                refine zs_aload_n (pc := 84) t342_84 rfl ?_
                refine zs_get (pc := 85) t342_85 (by decide) (zk1 (w36s.k fk_zMm_336)) (zfvi rfl ((w36F 336 47 rfl).trans ((zIoj (by decide)).trans rfl))) ?_
                by_cases w41 : (zI w12M 336 47).toInt ≤ w36x1.toInt
                · refine zs_icmp_geT (pc := 88) t342_88 rfl rfl (by omega) ?_
                  refine zs_iconst (pc := 95) t342_95 (v := -1) (by decide) ?_
                  have w42 : zIv mLo mHi (zsI w36M 336 48 (-1 : Int32)) := zIv.put w36I (show (-2147483648) ≤ (-1 : Int32).toInt ∧ (-1 : Int32).toInt ≤ 2147483647 from zrg (-1 : Int32))
                  refine zs_putI (pc := 96) t342_96 (zk1 (w36s.k fk_zMm_336)) rfl ?_
                  refine zs_iload_n (pc := 99) t342_99 rfl ?_
                  have w43 : (zI (zsI w36M 336 48 (-1 : Int32)) 336 5).toInt = 0 := (congrArg Int32.toInt ((zIoj (by decide)).trans ((w36F 336 5 rfl).trans zIs))).trans li0
                  have w44 : (zI (zsI w36M 336 48 (-1 : Int32)) 336 3).toInt = (zI w36M 336 3).toInt := (congrArg Int32.toInt ((zIoj (by decide)).trans rfl)).trans rfl
                  have w45 : (zI (zsI w36M 336 48 (-1 : Int32)) 336 48).toInt = (-1) := (congrArg Int32.toInt zIs).trans lin1
                  have w46 : (zI (zsI w36M 336 48 (-1 : Int32)) 336 7).toInt = (zI w12M 336 7).toInt := (congrArg Int32.toInt ((zIoj (by decide)).trans ((w36F 336 7 rfl).trans ((zIoj (by decide)).trans rfl)))).trans rfl
                  have w47 : (zI w36M 336 47).toInt = (zI w12M 336 47).toInt := (congrArg Int32.toInt ((w36F 336 47 rfl).trans ((zIoj (by decide)).trans rfl))).trans rfl
                  have w48 := w36d.fin (dSt.end (by omega))
                  exact zs_iret (pc := 100) t342_100 mr342 rfl (hQ _ _ w36s w42 ((((((((zFr.refl).put rfl).put rfl).put rfl).trans (w12F.mono rfl)).put rfl).trans (w36F.mono rfl)).put rfl) (w36J.trans w12J) (zPR.fr (M' := (zsI w36M 336 48 (-1 : Int32))) w36PR (zEq.put rfl)) (zPC.fr (M' := (zsI w36M 336 48 (-1 : Int32))) w36PC (zEq.put rfl)) (zPF.fr (M' := (zsI w36M 336 48 (-1 : Int32))) w36PF (zEq.put rfl) rfl) (by omega) (by omega) (Or.inr ⟨by omega, w34n, w35A, _, _, _, w35r, by rw [show w36x1.toInt = (w34n : Int) by omega, show (zI (zsI w36M 336 48 (-1 : Int32)) 336 48).toInt = (-1) by omega]; exact w48, w36wf, (zRw.fr' w36g.1 (fun j hj => (zIo (by decide)))), (zHM.fr w36g.2.1 (fun j hj => (zIo (by decide))) (zIoj (by decide))), (zKM.fr w36g.2.2 (fun j hj => (zIo (by decide))) (fun k => (zIo (by decide))))⟩))
                · refine zs_icmp_geF (pc := 88) t342_88 rfl rfl (by omega) ?_
                  refine zs_iload_n (pc := 91) t342_91 rfl ?_
                  refine zs_goto (pc := 92) t342_92 ?_
                  have w49 : zIv mLo mHi (zsI w36M 336 48 w36x1) := zIv.put w36I (show (-2147483648) ≤ w36x1.toInt ∧ w36x1.toInt ≤ 2147483647 from zrg w36x1)
                  refine zs_putI (pc := 96) t342_96 (zk1 (w36s.k fk_zMm_336)) rfl ?_
                  refine zs_iload_n (pc := 99) t342_99 rfl ?_
                  have w50 : (zI (zsI w36M 336 48 w36x1) 336 5).toInt = 0 := (congrArg Int32.toInt ((zIoj (by decide)).trans ((w36F 336 5 rfl).trans zIs))).trans li0
                  have w51 : (zI (zsI w36M 336 48 w36x1) 336 3).toInt = (zI w36M 336 3).toInt := (congrArg Int32.toInt ((zIoj (by decide)).trans rfl)).trans rfl
                  have w52 : (zI (zsI w36M 336 48 w36x1) 336 48).toInt = w36x1.toInt := (congrArg Int32.toInt zIs).trans rfl
                  have w53 : (zI (zsI w36M 336 48 w36x1) 336 7).toInt = (zI w12M 336 7).toInt := (congrArg Int32.toInt ((zIoj (by decide)).trans ((w36F 336 7 rfl).trans ((zIoj (by decide)).trans rfl)))).trans rfl
                  have w54 : (zI w36M 336 47).toInt = (zI w12M 336 47).toInt := (congrArg Int32.toInt ((w36F 336 47 rfl).trans ((zIoj (by decide)).trans rfl))).trans rfl
                  have w55 := w36d.fin (dSt.end (by omega))
                  exact zs_iret (pc := 100) t342_100 mr342 rfl (hQ _ _ w36s w49 ((((((((zFr.refl).put rfl).put rfl).put rfl).trans (w12F.mono rfl)).put rfl).trans (w36F.mono rfl)).put rfl) (w36J.trans w12J) (zPR.fr (M' := (zsI w36M 336 48 w36x1)) w36PR (zEq.put rfl)) (zPC.fr (M' := (zsI w36M 336 48 w36x1)) w36PC (zEq.put rfl)) (zPF.fr (M' := (zsI w36M 336 48 w36x1)) w36PF (zEq.put rfl) rfl) (by omega) (by omega) (Or.inr ⟨by omega, w34n, w35A, _, _, _, w35r, by rw [show w36x1.toInt = (w34n : Int) by omega, show (zI (zsI w36M 336 48 w36x1) 336 48).toInt = (-1) by omega]; exact w55, w36wf, (zRw.fr' w36g.1 (fun j hj => (zIo (by decide)))), (zHM.fr w36g.2.1 (fun j hj => (zIo (by decide))) (zIoj (by decide))), (zKM.fr w36g.2.2 (fun j hj => (zIo (by decide))) (fun k => (zIo (by decide))))⟩))
              · refine zs_icmp_geF (pc := 62) t342_62 rfl rfl (by omega) ?_
                refine zs_aload_n (pc := 65) t342_65 rfl ?_
                refine zs_iconst (pc := 66) t342_66 (v := 4) (by decide) ?_
                refine zs_iload_n (pc := 67) t342_67 rfl ?_
                obtain ⟨w56v, w56⟩ : ∃ v, (4 : Int32) * w36x1 = v := ⟨_, rfl⟩
                have w56g : w56v.toInt = 4 * w36x1.toInt := by rw [← w56]; exact zmulc li4 rfl (by omega) (by omega)
                refine zs_imul (pc := 68) t342_68 (c := w56v) w56 ?_
                have w57 : w56v.toInt = (4 * w36x1.toInt) := w56g
                have w58 : w56v.toInt = (4 * w36x1.toInt) := w56g
                have w59 : (zI w36M 336 3).toInt = (zI w36M 336 3).toInt := (congrArg Int32.toInt rfl).trans rfl
                refine zs_invV (pc := 69) (k := 336) (as' := [.int w56v]) (st := []) t342_69 mf344 rfl rfl (Or.inl ⟨by decide, (zk1 (w36s.k fk_zMm_336))⟩) ⟨by decide, by decide, Nat.le_of_ble_eq_true rfl, Nat.le_of_ble_eq_true rfl⟩ (R344 w36s w36I w36PR w36PC w36PF ⟨by omega, by omega⟩ w36g.1 w36g.2.1 w36g.2.2 w36wf ((zBl.fr w35g (fun j => ((w36F 362 j rfl).trans (zIo (by decide))))) w37n (by omega)) (by omega) ?_) (fun _ _ q => q)
                intro w60M w60v w60s w60I w60F w60J w60PR w60PC w60PF w60t0 w60x0
                have w60g := zrg w60v
                have w61 := ib336_3 w60I
                show zGo X l 5 0 0 342 72 [(0, .ref 336), (1, .int w36x1)] [.int w60v] w60M _
                rcases w60x0 with ⟨w62v, w62e, w62g⟩ | ⟨w62v, w62G, w62e, w62g⟩
                · skip
                  refine zs_iconst (pc := 72) t342_72 (v := -1) (by decide) ?_
                  refine zs_icmp_eqT (pc := 73) t342_73 rfl lin1 (by omega) ?_
                  refine zs_aload_n (pc := 82) t342_82 rfl ?_
                  refine zs_iload_n (pc := 83) t342_83 rfl ?_
                  refine zs_aload_n (pc := 84) t342_84 rfl ?_
                  refine zs_get (pc := 85) t342_85 (by decide) (zk1 (w60s.k fk_zMm_336)) (zfvi rfl ((w60F 336 47 rfl).trans ((w36F 336 47 rfl).trans ((zIoj (by decide)).trans rfl)))) ?_
                  by_cases w63 : (zI w12M 336 47).toInt ≤ w36x1.toInt
                  · refine zs_icmp_geT (pc := 88) t342_88 rfl rfl (by omega) ?_
                    refine zs_iconst (pc := 95) t342_95 (v := -1) (by decide) ?_
                    have w64 : zIv mLo mHi (zsI w60M 336 48 (-1 : Int32)) := zIv.put w60I (show (-2147483648) ≤ (-1 : Int32).toInt ∧ (-1 : Int32).toInt ≤ 2147483647 from zrg (-1 : Int32))
                    refine zs_putI (pc := 96) t342_96 (zk1 (w60s.k fk_zMm_336)) rfl ?_
                    refine zs_iload_n (pc := 99) t342_99 rfl ?_
                    have w65 : (zI (zsI w60M 336 48 (-1 : Int32)) 336 5).toInt = 0 := (congrArg Int32.toInt ((zIoj (by decide)).trans ((w60F 336 5 rfl).trans ((w36F 336 5 rfl).trans zIs)))).trans li0
                    have w66 : (zI (zsI w60M 336 48 (-1 : Int32)) 336 3).toInt = (zI w60M 336 3).toInt := (congrArg Int32.toInt ((zIoj (by decide)).trans rfl)).trans rfl
                    have w67 : (zI (zsI w60M 336 48 (-1 : Int32)) 336 48).toInt = (-1) := (congrArg Int32.toInt zIs).trans lin1
                    have w68 : (zI (zsI w60M 336 48 (-1 : Int32)) 336 7).toInt = (zI w12M 336 7).toInt := (congrArg Int32.toInt ((zIoj (by decide)).trans ((w60F 336 7 rfl).trans ((w36F 336 7 rfl).trans ((zIoj (by decide)).trans rfl))))).trans rfl
                    have w69 : (zI w36M 336 47).toInt = (zI w12M 336 47).toInt := (congrArg Int32.toInt ((w36F 336 47 rfl).trans ((zIoj (by decide)).trans rfl))).trans rfl
                    have w70 := w36d.fin (dSt.no (by omega) w62e)
                    exact zs_iret (pc := 100) t342_100 mr342 rfl (hQ _ _ w60s w64 (((((((((zFr.refl).put rfl).put rfl).put rfl).trans (w12F.mono rfl)).put rfl).trans (w36F.mono rfl)).trans (w60F.mono rfl)).put rfl) (w60J.trans (w36J.trans w12J)) (zPR.fr (M' := (zsI w60M 336 48 (-1 : Int32))) w60PR (zEq.put rfl)) (zPC.fr (M' := (zsI w60M 336 48 (-1 : Int32))) w60PC (zEq.put rfl)) (zPF.fr (M' := (zsI w60M 336 48 (-1 : Int32))) w60PF (zEq.put rfl) rfl) (by omega) (by omega) (Or.inr ⟨by omega, w34n, w35A, _, _, _, w35r, by rw [show w36x1.toInt = (w37n : Int) by omega, show (zI (zsI w60M 336 48 (-1 : Int32)) 336 48).toInt = (w37n : Int) by omega]; exact w70, w36wf, (zRw.fr' w62g.1 (fun j hj => (zIo (by decide)))), (zHM.fr w62g.2.1 (fun j hj => (zIo (by decide))) (zIoj (by decide))), (zKM.fr w62g.2.2 (fun j hj => (zIo (by decide))) (fun k => (zIo (by decide))))⟩))
                  · refine zs_icmp_geF (pc := 88) t342_88 rfl rfl (by omega) ?_
                    refine zs_iload_n (pc := 91) t342_91 rfl ?_
                    refine zs_goto (pc := 92) t342_92 ?_
                    have w71 : zIv mLo mHi (zsI w60M 336 48 w36x1) := zIv.put w60I (show (-2147483648) ≤ w36x1.toInt ∧ w36x1.toInt ≤ 2147483647 from zrg w36x1)
                    refine zs_putI (pc := 96) t342_96 (zk1 (w60s.k fk_zMm_336)) rfl ?_
                    refine zs_iload_n (pc := 99) t342_99 rfl ?_
                    have w72 : (zI (zsI w60M 336 48 w36x1) 336 5).toInt = 0 := (congrArg Int32.toInt ((zIoj (by decide)).trans ((w60F 336 5 rfl).trans ((w36F 336 5 rfl).trans zIs)))).trans li0
                    have w73 : (zI (zsI w60M 336 48 w36x1) 336 3).toInt = (zI w60M 336 3).toInt := (congrArg Int32.toInt ((zIoj (by decide)).trans rfl)).trans rfl
                    have w74 : (zI (zsI w60M 336 48 w36x1) 336 48).toInt = w36x1.toInt := (congrArg Int32.toInt zIs).trans rfl
                    have w75 : (zI (zsI w60M 336 48 w36x1) 336 7).toInt = (zI w12M 336 7).toInt := (congrArg Int32.toInt ((zIoj (by decide)).trans ((w60F 336 7 rfl).trans ((w36F 336 7 rfl).trans ((zIoj (by decide)).trans rfl))))).trans rfl
                    have w76 : (zI w36M 336 47).toInt = (zI w12M 336 47).toInt := (congrArg Int32.toInt ((w36F 336 47 rfl).trans ((zIoj (by decide)).trans rfl))).trans rfl
                    have w77 := w36d.fin (dSt.no (by omega) w62e)
                    exact zs_iret (pc := 100) t342_100 mr342 rfl (hQ _ _ w60s w71 (((((((((zFr.refl).put rfl).put rfl).put rfl).trans (w12F.mono rfl)).put rfl).trans (w36F.mono rfl)).trans (w60F.mono rfl)).put rfl) (w60J.trans (w36J.trans w12J)) (zPR.fr (M' := (zsI w60M 336 48 w36x1)) w60PR (zEq.put rfl)) (zPC.fr (M' := (zsI w60M 336 48 w36x1)) w60PC (zEq.put rfl)) (zPF.fr (M' := (zsI w60M 336 48 w36x1)) w60PF (zEq.put rfl) rfl) (by omega) (by omega) (Or.inr ⟨by omega, w34n, w35A, _, _, _, w35r, by rw [show w36x1.toInt = (w37n : Int) by omega, show (zI (zsI w60M 336 48 w36x1) 336 48).toInt = (w37n : Int) by omega]; exact w77, w36wf, (zRw.fr' w62g.1 (fun j hj => (zIo (by decide)))), (zHM.fr w62g.2.1 (fun j hj => (zIo (by decide))) (zIoj (by decide))), (zKM.fr w62g.2.2 (fun j hj => (zIo (by decide))) (fun k => (zIo (by decide))))⟩))
                · skip
                  refine zs_iconst (pc := 72) t342_72 (v := -1) (by decide) ?_
                  by_cases w78 : w60v.toInt = (-1)
                  · refine zs_icmp_eqT (pc := 73) t342_73 rfl lin1 (by omega) ?_
                    refine zs_aload_n (pc := 82) t342_82 rfl ?_
                    refine zs_iload_n (pc := 83) t342_83 rfl ?_
                    refine zs_aload_n (pc := 84) t342_84 rfl ?_
                    refine zs_get (pc := 85) t342_85 (by decide) (zk1 (w60s.k fk_zMm_336)) (zfvi rfl ((w60F 336 47 rfl).trans ((w36F 336 47 rfl).trans ((zIoj (by decide)).trans rfl)))) ?_
                    by_cases w79 : (zI w12M 336 47).toInt ≤ w36x1.toInt
                    · refine zs_icmp_geT (pc := 88) t342_88 rfl rfl (by omega) ?_
                      refine zs_iconst (pc := 95) t342_95 (v := -1) (by decide) ?_
                      have w80 : zIv mLo mHi (zsI w60M 336 48 (-1 : Int32)) := zIv.put w60I (show (-2147483648) ≤ (-1 : Int32).toInt ∧ (-1 : Int32).toInt ≤ 2147483647 from zrg (-1 : Int32))
                      refine zs_putI (pc := 96) t342_96 (zk1 (w60s.k fk_zMm_336)) rfl ?_
                      refine zs_iload_n (pc := 99) t342_99 rfl ?_
                      have w81 : (zI (zsI w60M 336 48 (-1 : Int32)) 336 5).toInt = 0 := (congrArg Int32.toInt ((zIoj (by decide)).trans ((w60F 336 5 rfl).trans ((w36F 336 5 rfl).trans zIs)))).trans li0
                      have w82 : (zI (zsI w60M 336 48 (-1 : Int32)) 336 3).toInt = (zI w60M 336 3).toInt := (congrArg Int32.toInt ((zIoj (by decide)).trans rfl)).trans rfl
                      have w83 : (zI (zsI w60M 336 48 (-1 : Int32)) 336 48).toInt = (-1) := (congrArg Int32.toInt zIs).trans lin1
                      have w84 : (zI (zsI w60M 336 48 (-1 : Int32)) 336 7).toInt = (zI w12M 336 7).toInt := (congrArg Int32.toInt ((zIoj (by decide)).trans ((w60F 336 7 rfl).trans ((w36F 336 7 rfl).trans ((zIoj (by decide)).trans rfl))))).trans rfl
                      exact zs_iret (pc := 100) t342_100 mr342 rfl (hQ _ _ w60s w80 (((((((((zFr.refl).put rfl).put rfl).put rfl).trans (w12F.mono rfl)).put rfl).trans (w36F.mono rfl)).trans (w60F.mono rfl)).put rfl) (w60J.trans (w36J.trans w12J)) (zPR.fr (M' := (zsI w60M 336 48 (-1 : Int32))) w60PR (zEq.put rfl)) (zPC.fr (M' := (zsI w60M 336 48 (-1 : Int32))) w60PC (zEq.put rfl)) (zPF.fr (M' := (zsI w60M 336 48 (-1 : Int32))) w60PF (zEq.put rfl) rfl) (by omega) (by omega) (absurd (show w60v.toInt = -1 by omega) w62v))
                    · refine zs_icmp_geF (pc := 88) t342_88 rfl rfl (by omega) ?_
                      refine zs_iload_n (pc := 91) t342_91 rfl ?_
                      refine zs_goto (pc := 92) t342_92 ?_
                      have w85 : zIv mLo mHi (zsI w60M 336 48 w36x1) := zIv.put w60I (show (-2147483648) ≤ w36x1.toInt ∧ w36x1.toInt ≤ 2147483647 from zrg w36x1)
                      refine zs_putI (pc := 96) t342_96 (zk1 (w60s.k fk_zMm_336)) rfl ?_
                      refine zs_iload_n (pc := 99) t342_99 rfl ?_
                      have w86 : (zI (zsI w60M 336 48 w36x1) 336 5).toInt = 0 := (congrArg Int32.toInt ((zIoj (by decide)).trans ((w60F 336 5 rfl).trans ((w36F 336 5 rfl).trans zIs)))).trans li0
                      have w87 : (zI (zsI w60M 336 48 w36x1) 336 3).toInt = (zI w60M 336 3).toInt := (congrArg Int32.toInt ((zIoj (by decide)).trans rfl)).trans rfl
                      have w88 : (zI (zsI w60M 336 48 w36x1) 336 48).toInt = w36x1.toInt := (congrArg Int32.toInt zIs).trans rfl
                      have w89 : (zI (zsI w60M 336 48 w36x1) 336 7).toInt = (zI w12M 336 7).toInt := (congrArg Int32.toInt ((zIoj (by decide)).trans ((w60F 336 7 rfl).trans ((w36F 336 7 rfl).trans ((zIoj (by decide)).trans rfl))))).trans rfl
                      exact zs_iret (pc := 100) t342_100 mr342 rfl (hQ _ _ w60s w85 (((((((((zFr.refl).put rfl).put rfl).put rfl).trans (w12F.mono rfl)).put rfl).trans (w36F.mono rfl)).trans (w60F.mono rfl)).put rfl) (w60J.trans (w36J.trans w12J)) (zPR.fr (M' := (zsI w60M 336 48 w36x1)) w60PR (zEq.put rfl)) (zPC.fr (M' := (zsI w60M 336 48 w36x1)) w60PC (zEq.put rfl)) (zPF.fr (M' := (zsI w60M 336 48 w36x1)) w60PF (zEq.put rfl) rfl) (by omega) (by omega) (absurd (show w60v.toInt = -1 by omega) w62v))
                  · refine zs_icmp_eqF (pc := 73) t342_73 rfl lin1 (by omega) ?_
                    obtain ⟨w90v, w90e, w90⟩ := ziadd (a := w36x1) (b := Int32.ofInt 1) rfl (show (Int32.ofInt 1).toInt = 1 by decide) (by omega) (by omega)
                    refine zs_iinc (pc := 76) t342_76 (ls' := [(1, .int w90v), (0, .ref 336)]) (zml mf342 (by decide)) rfl (c := w90v) w90e rfl ?_
                    refine zs_goto (pc := 79) t342_79 ?_
                    refine zGo.locals (ls' := [(0, .ref 336), (1, .int w90v)]) (by simp) ?_
                    have w91 := w90
                    have w92 : (zI w60M 336 47).toInt = (zI w12M 336 47).toInt := (congrArg Int32.toInt ((w60F 336 47 rfl).trans ((w36F 336 47 rfl).trans ((zIoj (by decide)).trans rfl)))).trans rfl
                    have w93 : (zI w60M 336 5).toInt = 0 := (congrArg Int32.toInt ((w60F 336 5 rfl).trans ((w36F 336 5 rfl).trans zIs))).trans li0
                    have w94 : (zI w60M 336 3).toInt = (zI w60M 336 3).toInt := (congrArg Int32.toInt rfl).trans rfl
                    have w95 : w90v.toInt = (w36x1.toInt + 1) := w90
                    exact w36ih (w36m - 1) (by omega) w90v w60M ⟨by omega, by omega⟩ w60s w60I (((zFr.refl).trans (w36F.mono rfl)).trans (w60F.mono rfl)) (w60J.trans w36J) w60PR w60PC w60PF (by omega) (by omega) (by omega) (fun i hi => by obtain rfl : w37n + 1 = i := (by omega); exact ⟨_, _, _, w36d.go (dSt.go (by omega) w62e), aDo.wf w36wf w62e, w62g.1, w62g.2.1, w62g.2.2⟩) (by omega)
          refine zGo.locals (ls' := [(0, .ref 336), (1, .int (0 : Int32))]) (by simp) ?_
          have w96 := li0
          have w97 : (zI (zsI w12M 336 5 (0 : Int32)) 336 47).toInt = (zI w12M 336 47).toInt := (congrArg Int32.toInt ((zIoj (by decide)).trans rfl)).trans rfl
          have w98 : (zI (zsI w12M 336 5 (0 : Int32)) 336 5).toInt = 0 := (congrArg Int32.toInt zIs).trans li0
          have w99 : (zI (zsI w12M 336 5 (0 : Int32)) 336 3).toInt = (zI M 336 3).toInt := (congrArg Int32.toInt ((zIoj (by decide)).trans ((w12F 336 3 rfl).trans ((zIoj (by decide)).trans ((zIoj (by decide)).trans ((zIoj (by decide)).trans rfl)))))).trans rfl
          exact w36L ((20 - 0 : Int).toNat) (0 : Int32) (zsI w12M 336 5 (0 : Int32)) ⟨by decide, by decide⟩ w12s w29 zFr.refl rfl (zPR.fr (M' := (zsI w12M 336 5 (0 : Int32))) (zPR.fr (zPR.fr (M' := (zsI (zsI (zsI M 336 6 (0 : Int32)) 336 7 (-1 : Int32)) 336 47 (0 : Int32))) (zPR.fr (M' := (zsI (zsI M 336 6 (0 : Int32)) 336 7 (-1 : Int32))) (zPR.fr (M' := (zsI M 336 6 (0 : Int32))) pR (zEq.put rfl)) (zEq.put rfl)) (zEq.put rfl)) (w12F.eq rfl)) (zEq.put rfl)) (zPC.fr (M' := (zsI w12M 336 5 (0 : Int32))) (zPC.fr (zPC.fr (M' := (zsI (zsI (zsI M 336 6 (0 : Int32)) 336 7 (-1 : Int32)) 336 47 (0 : Int32))) (zPC.fr (M' := (zsI (zsI M 336 6 (0 : Int32)) 336 7 (-1 : Int32))) (zPC.fr (M' := (zsI M 336 6 (0 : Int32))) pC (zEq.put rfl)) (zEq.put rfl)) (zEq.put rfl)) (w12F.eq rfl)) (zEq.put rfl)) (zPF.fr (M' := (zsI w12M 336 5 (0 : Int32))) (zPF.fr (zPF.fr (M' := (zsI (zsI (zsI M 336 6 (0 : Int32)) 336 7 (-1 : Int32)) 336 47 (0 : Int32))) (zPF.fr (M' := (zsI (zsI M 336 6 (0 : Int32)) 336 7 (-1 : Int32))) (zPF.fr (M' := (zsI M 336 6 (0 : Int32))) pF (zEq.put rfl) rfl) (zEq.put rfl) rfl) (zEq.put rfl) rfl) (w12F.eq rfl) w12J) (zEq.put rfl) rfl) (by omega) (by omega) (by omega) (fun i hi => by obtain rfl : i = 0 := (by omega); exact ⟨F, H, n, gEq.refl, x3, (zRw.fr' (zRw.fr' x0 (fun j hj => ((w12F 337 j rfl).trans ((zIo (by decide)).trans ((zIo (by decide)).trans (zIo (by decide))))))) (fun j hj => (zIo (by decide)))), (zHM.fr (zHM.fr x1 (fun j hj => ((w12F 337 j rfl).trans ((zIo (by decide)).trans ((zIo (by decide)).trans (zIo (by decide)))))) ((w12F 336 1 rfl).trans ((zIoj (by decide)).trans ((zIoj (by decide)).trans (zIoj (by decide)))))) (fun j hj => (zIo (by decide))) (zIoj (by decide))), (zKM.fr (zKM.fr x2 (fun j hj => ((w12F 337 j rfl).trans ((zIo (by decide)).trans ((zIo (by decide)).trans (zIo (by decide)))))) (fun k => ((w12F 338 k rfl).trans ((zIo (by decide)).trans ((zIo (by decide)).trans (zIo (by decide))))))) (fun j hj => (zIo (by decide))) (fun k => (zIo (by decide))))⟩) (by omega)
        · refine zs_icmp_geF (pc := 25) t342_25 rfl rfl (by omega) ?_
          refine zs_aload_n (pc := 28) t342_28 rfl ?_
          have w100 : (zI w12M 336 6).toInt = (zI w12M 336 6).toInt := (congrArg Int32.toInt rfl).trans rfl
          have w101 : (zI w12M 336 7).toInt = (zI w12M 336 7).toInt := (congrArg Int32.toInt rfl).trans rfl
          have w102 : (zI w12M 336 47).toInt = (zI w12M 336 47).toInt := (congrArg Int32.toInt rfl).trans rfl
          obtain ⟨w103n, w103⟩ : ∃ n : Nat, (zI w12M 336 6).toInt = (n : Int) := ⟨((zI w12M 336 6).toInt).toNat, by omega⟩
          obtain ⟨w104n, w104⟩ : ∃ n : Nat, (zI w12M 336 47).toInt = (n : Int) := ⟨((zI w12M 336 47).toInt).toNat, by omega⟩
          obtain ⟨w105A, w105d, w105g⟩ := w12t0 (by omega) w103n w104n (by omega) (by omega)
          have w106 : (zI w12M 336 6).toInt = (zI w12M 336 6).toInt := (congrArg Int32.toInt rfl).trans rfl
          have w107 : (zI w12M 336 5).toInt = (zI M 336 5).toInt := (congrArg Int32.toInt ((w12F 336 5 rfl).trans ((zIoj (by decide)).trans ((zIoj (by decide)).trans ((zIoj (by decide)).trans rfl))))).trans rfl
          have w108 : (zI w12M 336 7).toInt = (zI w12M 336 7).toInt := (congrArg Int32.toInt rfl).trans rfl
          have w109 : (zI w12M 336 47).toInt = (zI w12M 336 47).toInt := (congrArg Int32.toInt rfl).trans rfl
          refine zs_invV (pc := 29) (k := 336) (as' := []) (st := []) t342_29 mf343 rfl rfl (Or.inl ⟨by decide, (zk1 (w12s.k fk_zMm_336))⟩) ⟨by decide, by decide, Nat.le_of_ble_eq_true rfl, Nat.le_of_ble_eq_true rfl⟩ (R343 w12s w12I (by omega) (by omega) (by omega) (by omega) (zTm.mk x4 (fun j => ((w12F 339 j rfl).trans ((zIo (by decide)).trans ((zIo (by decide)).trans (zIo (by decide)))))) ((w12F 336 5 rfl).trans ((zIoj (by decide)).trans ((zIoj (by decide)).trans (zIoj (by decide)))))) ?_) (fun _ _ q => q)
          intro w110M w110v w110s w110I w110F w110J w110x0 w110a w110b
          show zGo X l 5 0 0 342 32 [(0, .ref 336)] [.int w110v] w110M _
          rcases w110x0.1 w103n w104n (by omega) (by omega) with ⟨w105v, w105_0, w105q, w105B, w105_1, w105_2, w105_3, w105_4, w105_5, w105_6, w105t⟩ | ⟨w105v, w105_5, w105z⟩
          · skip
            refine zs_if_neT (pc := 32) t342_32 rfl (by omega) ?_
            refine zGo.locals (ls' := [(0, .ref 336)]) (by simp) ?_
            have w111 := ib336_47 w110I
            have w112 : (zI w110M 336 47).toInt = (zI w110M 336 47).toInt := (congrArg Int32.toInt rfl).trans rfl
            have w113 := ib336_6 w110I
            have w114 : (zI w110M 336 6).toInt = (zI w110M 336 6).toInt := (congrArg Int32.toInt rfl).trans rfl
            have w115 : (zI w110M 336 5).toInt = (zI M 336 5).toInt := (congrArg Int32.toInt ((w110F 336 5 rfl).trans ((w12F 336 5 rfl).trans ((zIoj (by decide)).trans ((zIoj (by decide)).trans ((zIoj (by decide)).trans rfl)))))).trans rfl
            have w116 := ib336_7 w110I
            have w117 : (zI w110M 336 7).toInt = (zI w110M 336 7).toInt := (congrArg Int32.toInt rfl).trans rfl
            have w118 : (zI w110M 336 5).toInt = (zI M 336 5).toInt := (congrArg Int32.toInt ((w110F 336 5 rfl).trans ((w12F 336 5 rfl).trans ((zIoj (by decide)).trans ((zIoj (by decide)).trans ((zIoj (by decide)).trans rfl)))))).trans rfl
            have w119 : (zI w110M 336 6).toInt = (zI w110M 336 6).toInt := (congrArg Int32.toInt rfl).trans rfl
            have w120 : (zI w110M 336 7).toInt = (zI w110M 336 7).toInt := (congrArg Int32.toInt rfl).trans rfl
            exact w12ih (w12m - 1) (by omega) w110M w110s w110I (((zFr.refl).trans (w12F.mono rfl)).trans (w110F.mono rfl)) (w110J.trans w12J) (by omega) (by omega) (by omega) (fun q p k hp hk => by obtain rfl : w105q = p := (by omega); obtain rfl : w104n + 1 = k := (by omega); exact ⟨_, w105d.go (aSt.go (by omega) (by omega) w105_1), w105g.up w105t (fun j hj => w110x0.2 j (by omega))⟩) (fun q => absurd (by omega) q) (by omega)
          · skip
            refine zs_if_neF (pc := 32) t342_32 rfl (by omega) ?_
            refine zs_aload_n (pc := 35) t342_35 rfl ?_
            refine zs_aload_n (pc := 36) t342_36 rfl ?_
            refine zs_get (pc := 37) t342_37 (by decide) (zk1 (w110s.k fk_zMm_336)) (zfvi rfl ((w110F 336 5 rfl).trans ((w12F 336 5 rfl).trans ((zIoj (by decide)).trans ((zIoj (by decide)).trans ((zIoj (by decide)).trans rfl)))))) ?_
            have w121 : zIv mLo mHi (zsI w110M 336 6 (zI M 336 5)) := zIv.put w110I (show 0 ≤ (zI M 336 5).toInt ∧ (zI M 336 5).toInt ≤ 500 from ⟨by omega, by omega⟩)
            refine zs_putI (pc := 40) t342_40 (zk1 (w110s.k fk_zMm_336)) rfl ?_
            refine zs_goto (pc := 43) t342_43 ?_
            refine zGo.locals (ls' := [(0, .ref 336)]) (by simp) ?_
            have w122 := ib336_47 w110I
            have w123 : (zI (zsI w110M 336 6 (zI M 336 5)) 336 47).toInt = (zI w110M 336 47).toInt := (congrArg Int32.toInt ((zIoj (by decide)).trans rfl)).trans rfl
            have w124 : (zI (zsI w110M 336 6 (zI M 336 5)) 336 6).toInt = (zI M 336 5).toInt := (congrArg Int32.toInt zIs).trans rfl
            have w125 : (zI (zsI w110M 336 6 (zI M 336 5)) 336 5).toInt = (zI M 336 5).toInt := (congrArg Int32.toInt ((zIoj (by decide)).trans ((w110F 336 5 rfl).trans ((w12F 336 5 rfl).trans ((zIoj (by decide)).trans ((zIoj (by decide)).trans ((zIoj (by decide)).trans rfl))))))).trans rfl
            have w126 := ib336_7 w110I
            have w127 : (zI (zsI w110M 336 6 (zI M 336 5)) 336 7).toInt = (zI w110M 336 7).toInt := (congrArg Int32.toInt ((zIoj (by decide)).trans rfl)).trans rfl
            have w128 : (zI (zsI w110M 336 6 (zI M 336 5)) 336 5).toInt = (zI M 336 5).toInt := (congrArg Int32.toInt ((zIoj (by decide)).trans ((w110F 336 5 rfl).trans ((w12F 336 5 rfl).trans ((zIoj (by decide)).trans ((zIoj (by decide)).trans ((zIoj (by decide)).trans rfl))))))).trans rfl
            have w129 : (zI (zsI w110M 336 6 (zI M 336 5)) 336 6).toInt = (zI M 336 5).toInt := (congrArg Int32.toInt zIs).trans rfl
            have w130 : (zI (zsI w110M 336 6 (zI M 336 5)) 336 7).toInt = (zI w110M 336 7).toInt := (congrArg Int32.toInt ((zIoj (by decide)).trans rfl)).trans rfl
            exact w12ih (w12m - 1) (by omega) (zsI w110M 336 6 (zI M 336 5)) w110s w121 ((((zFr.refl).trans (w12F.mono rfl)).trans (w110F.mono rfl)).put rfl) (w110J.trans w12J) (by omega) (by omega) (by omega) (fun q => absurd q (by omega)) (fun q => w105z.elim (fun z => w105d.fin (aSt.full (by omega) z)) (fun z => w105d.fin (aSt.no (by omega) z))) (by omega)
  refine zGo.locals (ls' := [(0, .ref 336)]) (by simp) ?_
  have w131 : (zI (zsI (zsI (zsI M 336 6 (0 : Int32)) 336 7 (-1 : Int32)) 336 47 (0 : Int32)) 336 47).toInt = 0 := (congrArg Int32.toInt zIs).trans li0
  have w132 : (zI (zsI (zsI (zsI M 336 6 (0 : Int32)) 336 7 (-1 : Int32)) 336 47 (0 : Int32)) 336 6).toInt = 0 := (congrArg Int32.toInt ((zIoj (by decide)).trans ((zIoj (by decide)).trans zIs))).trans li0
  have w133 : (zI (zsI (zsI (zsI M 336 6 (0 : Int32)) 336 7 (-1 : Int32)) 336 47 (0 : Int32)) 336 5).toInt = (zI M 336 5).toInt := (congrArg Int32.toInt ((zIoj (by decide)).trans ((zIoj (by decide)).trans ((zIoj (by decide)).trans rfl)))).trans rfl
  have w134 : (zI (zsI (zsI (zsI M 336 6 (0 : Int32)) 336 7 (-1 : Int32)) 336 47 (0 : Int32)) 336 7).toInt = (-1) := (congrArg Int32.toInt ((zIoj (by decide)).trans zIs)).trans lin1
  have w135 : (zI (zsI (zsI (zsI M 336 6 (0 : Int32)) 336 7 (-1 : Int32)) 336 47 (0 : Int32)) 336 5).toInt = (zI M 336 5).toInt := (congrArg Int32.toInt ((zIoj (by decide)).trans ((zIoj (by decide)).trans ((zIoj (by decide)).trans rfl)))).trans rfl
  have w136 : (zI (zsI (zsI (zsI M 336 6 (0 : Int32)) 336 7 (-1 : Int32)) 336 47 (0 : Int32)) 336 6).toInt = 0 := (congrArg Int32.toInt ((zIoj (by decide)).trans ((zIoj (by decide)).trans zIs))).trans li0
  have w137 : (zI (zsI (zsI (zsI M 336 6 (0 : Int32)) 336 7 (-1 : Int32)) 336 47 (0 : Int32)) 336 7).toInt = (-1) := (congrArg Int32.toInt ((zIoj (by decide)).trans zIs)).trans lin1
  exact w12L ((501 - (zI (zsI (zsI (zsI M 336 6 (0 : Int32)) 336 7 (-1 : Int32)) 336 47 (0 : Int32)) 336 6).toInt - 501 * (min (zI (zsI (zsI (zsI M 336 6 (0 : Int32)) 336 7 (-1 : Int32)) 336 47 (0 : Int32)) 336 7).toInt 0) : Int).toNat) (zsI (zsI (zsI M 336 6 (0 : Int32)) 336 7 (-1 : Int32)) 336 47 (0 : Int32)) hs w11 zFr.refl rfl (by omega) (by omega) (by omega) (fun q p k hp hk => by obtain rfl : p = 0 := (by omega); obtain rfl : k = 0 := (by omega); exact ⟨aZ, gEq.refl, zBl.z⟩) (fun q => absurd q (by omega)) (by omega)
