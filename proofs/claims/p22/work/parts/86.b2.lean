theorem U269 {X : zX} {l : Launch} {M : zM} {Q : Option Value → zM → Prop} {a b : Int32} (hs : zSk zMm M) (hI : zIv mLo mHi M) {F : Nat → Int} (pR : zPR M) (ha : 2 ≤ a.toInt ∧ a.toInt ≤ 8) (x0 : zRw M 0 F) (x1 : zWF F) (hQ : ∀ M', zSk zMm M' → zIv mLo mHi M' → zFr [(344, 344, none), (349, 349, none), (350, 350, none), (343, 343, none), (345, 345, none), (346, 346, none), (347, 347, none), (348, 348, none), (336, 336, some 22), (336, 336, some 18), (336, 336, some 19), (336, 336, some 20), (336, 336, some 21)] M M' → zJ M' 351 = zJ M 351 → zPT M' → (zFd M' F b.toInt a.toInt) → Q none M') : zCall X l 5 0 0 269 [.ref 336, .int a, .int b] M Q := by
  have ga := zrg a
  have gb := zrg b
  refine zs_in (by decide) mf269 (Nat.le_of_ble_eq_true rfl) ?_
  show zGo X l 5 0 0 269 0 [(0, .ref 336), (1, .int a), (2, .int b)] [] M _
  have f1 := x1.1
  have f3 := x1.2.2.2
  have w1 := ibA0 hI
  have w2 : (zI M 337 0).toInt = (zI M 337 0).toInt := (congrArg Int32.toInt rfl).trans rfl
  have e0 : (zI M 337 0).toInt = F 0 := x0.at (by decide) (by decide) (by decide)
  have w3 := ibA1 hI
  have w4 : (zI M 337 1).toInt = (zI M 337 1).toInt := (congrArg Int32.toInt rfl).trans rfl
  have e1 : (zI M 337 1).toInt = F 1 := x0.at (by decide) (by decide) (by decide)
  have w5 := ibA2 hI
  have w6 : (zI M 337 2).toInt = (zI M 337 2).toInt := (congrArg Int32.toInt rfl).trans rfl
  have e2 : (zI M 337 2).toInt = F 2 := x0.at (by decide) (by decide) (by decide)
  have e5 : (zI M 337 5).toInt = F 5 := x0.at (by decide) (by decide) (by decide)
  have e6 : (zI M 337 6).toInt = F 6 := x0.at (by decide) (by decide) (by decide)
  refine zs_aload_n (pc := 0) t269_0 rfl ?_
  refine zs_iload_n (pc := 1) t269_1 rfl ?_
  refine zs_invV (pc := 2) (k := 336) (as' := [.int b]) (st := []) t269_2 mf270 rfl rfl (Or.inl ⟨by decide, (zk1 (hs.k fk_zMm_336))⟩) ⟨by decide, by decide, Nat.le_of_ble_eq_true rfl, Nat.le_of_ble_eq_true rfl⟩ (U270 hs hI x0 x1 ?_) (fun _ _ q => q)
  intro w7M w7s w7I w7F w7J w7x0 w7x1
  show zGo X l 5 0 0 269 5 [(0, .ref 336), (1, .int a), (2, .int b)] [] w7M _
  refine zs_aload_n (pc := 5) t269_5 rfl ?_
  refine zs_iconst (pc := 6) t269_6 (v := 0) (by decide) ?_
  have w8 : zIv mLo mHi (zsI w7M 336 22 (0 : Int32)) := zIv.put w7I (show 0 ≤ (0 : Int32).toInt ∧ (0 : Int32).toInt ≤ 20 from ⟨by decide, by decide⟩)
  have w9 : zPT (zsI w7M 336 22 (0 : Int32)) := zPT.zero (by decide)
  refine zs_putI (pc := 7) t269_7 (zk1 (w7s.k fk_zMm_336)) rfl ?_
  refine zs_iconst (pc := 10) t269_10 (v := 1) (by decide) ?_
  refine zs_istore_n (pc := 11) t269_11 (ls' := [(3, .int (1 : Int32)), (0, .ref 336), (1, .int a), (2, .int b)]) (zml mf269 (by decide)) rfl ?_
  have w10L : ∀ (m : Nat) (w10x3 : Int32) (w10M : zM), (0 ≤ w10x3.toInt ∧ w10x3.toInt ≤ 1) → zSk zMm w10M → zIv mLo mHi w10M → zFr [(344, 344, none), (349, 349, none), (350, 350, none), (343, 343, none), (345, 345, none), (346, 346, none), (347, 347, none), (348, 348, none), (336, 336, some 22), (336, 336, some 18), (336, 336, some 19), (336, 336, some 20), (336, 336, some 21)] (zsI w7M 336 22 (0 : Int32)) w10M → zJ w10M 351 = zJ (zsI w7M 336 22 (0 : Int32)) 351 → zPT w10M → (∃ n τ Λ, zFq w10M F b.toInt a.toInt w10x3.toInt n τ Λ) → 2 * (20 - (zI w10M 336 22).toInt) + w10x3.toInt ≤ (m : Int) → zGo X l 5 0 0 269 12 [(0, .ref 336), (1, .int a), (2, .int b), (3, .int w10x3)] [] w10M Q := by
    intro m
    induction m using Nat.strongRecOn with
    | ind w10m w10ih =>
      intro w10x3 w10M w10b3 w10s w10I w10F w10J w10PT w10t0 w10q
      obtain ⟨w10k, w10T, w10V, w10c⟩ := w10t0
      have w10d := w10c
      obtain ⟨w10c1, w10c2, w10c3, w10c4, w10c5, w10c6, w10c7⟩ := w10d
      have w11 := ib336_22 w10I
      refine zs_iload_n (pc := 12) t269_12 rfl ?_
      by_cases w12 : w10x3.toInt = 0
      · refine zs_if_eqT (pc := 13) t269_13 rfl (by omega) ?_
        have w13 : (zI w10M 336 22).toInt = (zI w10M 336 22).toInt := (congrArg Int32.toInt rfl).trans rfl
        exact zs_vret (pc := 124) t269_124 mr269 (hQ _ w10s w10I ((((zFr.refl).trans (w7F.mono rfl)).put rfl).trans (w10F.mono rfl)) (w10J.trans w7J) w10PT (zFd.mk w10c (by omega)))
      · refine zs_if_eqF (pc := 13) t269_13 rfl (by omega) ?_
        refine zs_aload_n (pc := 16) t269_16 rfl ?_
        refine zs_get (pc := 17) t269_17 (by decide) (zk1 (w10s.k fk_zMm_336)) (zfvi rfl rfl) ?_
        refine zs_bipush (pc := 20) t269_20 (v := 20) (by decide) ?_
        by_cases w14 : 20 ≤ (zI w10M 336 22).toInt
        · refine zs_icmp_geT (pc := 22) t269_22 rfl li20 (by omega) ?_
          have w15 : (zI w10M 336 22).toInt = (zI w10M 336 22).toInt := (congrArg Int32.toInt rfl).trans rfl
          exact zs_vret (pc := 124) t269_124 mr269 (hQ _ w10s w10I ((((zFr.refl).trans (w7F.mono rfl)).put rfl).trans (w10F.mono rfl)) (w10J.trans w7J) w10PT (zFd.mk w10c (by omega)))
        · refine zs_icmp_geF (pc := 22) t269_22 rfl li20 (by omega) ?_
          refine zs_aload_n (pc := 25) t269_25 rfl ?_
          refine zs_iconst (pc := 26) t269_26 (v := 0) (by decide) ?_
          have w16 : zIv mLo mHi (zsI w10M 336 18 (0 : Int32)) := zIv.put w10I (show (-2147483648) ≤ (0 : Int32).toInt ∧ (0 : Int32).toInt ≤ 2147483647 from zrg (0 : Int32))
          have w17 : zPB (zsI w10M 336 18 (0 : Int32)) := zPB.zero (by decide)
          refine zs_putI (pc := 27) t269_27 (zk1 (w10s.k fk_zMm_336)) rfl ?_
          refine zs_aload_n (pc := 30) t269_30 rfl ?_
          refine zs_get (pc := 31) t269_31 (by decide) (zk1 (w10s.k fk_zMm_336)) (w10s.p rfl fv_zMm_336_0) ?_
          refine zs_iconst (pc := 34) t269_34 (v := 5) (by decide) ?_
          have w18 := ibA5 hI
          have w19 : (zI M 337 5).toInt = F 5 := x0.at (by decide) (by decide) (by decide)
          refine zs_iald (pc := 35) t269_35 (j := 5) (by decide) (zk1 (w10s.k fk_zMm_337)) li5 (zk2 (w10s.k fk_zMm_337) (by decide)) ((zIo (by decide)).trans ((w10F 337 5 rfl).trans ((zIo (by decide)).trans ((w7F 337 5 rfl).trans rfl)))) ?_
          obtain ⟨w20v, w20e⟩ : ∃ v, -(zI M 337 5) = v := ⟨_, rfl⟩
          have w20 : w20v.toInt = -(zI M 337 5).toInt := by rw [← w20e]; exact zneg rfl (by omega)
          refine zs_ineg (pc := 36) t269_36 (c := w20v) w20e ?_
          refine zs_istore (pc := 37) t269_37 (ls' := [(4, .int w20v), (0, .ref 336), (1, .int a), (2, .int b), (3, .int w10x3)]) (zml mf269 (by decide)) rfl ?_
          have w21L : ∀ (m : Nat) (w21x4 : Int32) (w21M : zM), ((-3) ≤ w21x4.toInt ∧ w21x4.toInt ≤ 4) → zSk zMm w21M → zIv mLo mHi w21M → zFr [(344, 344, none), (336, 336, some 18), (336, 336, some 19), (336, 336, some 20), (336, 336, some 21)] (zsI w10M 336 18 (0 : Int32)) w21M → zJ w21M 351 = zJ (zsI w10M 336 18 (0 : Int32)) 351 → zPB w21M → (w21x4.toInt ≤ F 5 + 1) → (-F 5 ≤ w21x4.toInt) → (zBm w21M F (w10V w10k) (zSe F w21x4.toInt (-F 6))) → 4 - w21x4.toInt ≤ (m : Int) → zGo X l 5 0 0 269 39 [(0, .ref 336), (1, .int a), (2, .int b), (3, .int w10x3), (4, .int w21x4)] [] w21M Q := by
            intro m
            induction m using Nat.strongRecOn with
            | ind w21m w21ih =>
              intro w21x4 w21M w21b4 w21s w21I w21F w21J w21PB w21r0 w21r1 w21t0 w21q
              refine zs_iload (pc := 39) t269_39 rfl ?_
              refine zs_aload_n (pc := 41) t269_41 rfl ?_
              refine zs_get (pc := 42) t269_42 (by decide) (zk1 (w21s.k fk_zMm_336)) (w21s.p rfl fv_zMm_336_0) ?_
              refine zs_iconst (pc := 45) t269_45 (v := 5) (by decide) ?_
              have w22 : (zI M 337 5).toInt = F 5 := x0.at (by decide) (by decide) (by decide)
              refine zs_iald (pc := 46) t269_46 (j := 5) (by decide) (zk1 (w21s.k fk_zMm_337)) li5 (zk2 (w21s.k fk_zMm_337) (by decide)) ((w21F 337 5 rfl).trans ((zIo (by decide)).trans ((w10F 337 5 rfl).trans ((zIo (by decide)).trans ((w7F 337 5 rfl).trans rfl))))) ?_
              by_cases w23 : (zI M 337 5).toInt < w21x4.toInt
              · refine zs_icmp_gtT (pc := 47) t269_47 rfl rfl (by omega) ?_
                refine zs_aload_n (pc := 92) t269_92 rfl ?_
                have w24 := zrg (zI w21M 336 18)
                refine zs_get (pc := 93) t269_93 (by decide) (zk1 (w21s.k fk_zMm_336)) (zfvi rfl rfl) ?_
                refine zs_iload_n (pc := 96) t269_96 rfl ?_
                by_cases w25 : (zI w21M 336 18).toInt < a.toInt
                · refine zs_icmp_ltT (pc := 97) t269_97 rfl rfl (by omega) ?_
                  refine zs_iconst (pc := 111) t269_111 (v := 0) (by decide) ?_
                  refine zs_istore_n (pc := 112) t269_112 (ls' := [(3, .int (0 : Int32)), (0, .ref 336), (1, .int a), (2, .int b), (4, .int w21x4)]) (zml mf269 (by decide)) rfl ?_
                  refine zs_iload_n (pc := 113) t269_113 rfl ?_
                  refine zs_if_eqT (pc := 114) t269_114 li0 (by decide) ?_
                  refine zGo.locals (ls' := [(0, .ref 336), (1, .int a), (2, .int b), (3, .int (0 : Int32))]) (by simp) ?_
                  have w26 := li0
                  have w27 : (zI w21M 336 22).toInt = (zI w10M 336 22).toInt := (congrArg Int32.toInt ((w21F 336 22 rfl).trans ((zIoj (by decide)).trans rfl))).trans rfl
                  have w28 : (zI w21M 336 22).toInt = (zI w10M 336 22).toInt := (congrArg Int32.toInt ((w21F 336 22 rfl).trans ((zIoj (by decide)).trans rfl))).trans rfl
                  exact w10ih (w10m - 1) (by omega) (0 : Int32) w21M ⟨by decide, by decide⟩ w21s w21I ((((zFr.refl).trans (w10F.mono rfl)).put rfl).trans (w21F.mono rfl)) (w21J.trans w10J) (zPT.fr (zPT.fr (M' := (zsI w10M 336 18 (0 : Int32))) w10PT (zEq.put rfl)) (w21F.eq rfl)) (w10c.stop (by omega) (zTms.fr w10c5 ((((zFr.refl).put rfl).trans (w21F.mono rfl)).eq (W := [(344, 344, none), (336, 336, some 18), (336, 336, some 19), (336, 336, some 20), (336, 336, some 21)]) rfl)) (zLf.fr w10c6 (fun j => ((w21F 343 j rfl).trans (zIo (by decide))))) ((zBz.e3 w21t0 (by omega)).none (by omega) (by omega))) (by omega)
                · refine zs_icmp_ltF (pc := 97) t269_97 rfl rfl (by omega) ?_
                  refine zs_aload_n (pc := 100) t269_100 rfl ?_
                  refine zs_get (pc := 101) t269_101 (by decide) (zk1 (w21s.k fk_zMm_336)) (zfvi rfl rfl) ?_
                  refine zs_if_leF (pc := 104) t269_104 rfl (by omega) ?_
                  refine zs_iconst (pc := 107) t269_107 (v := 1) (by decide) ?_
                  refine zs_goto (pc := 108) t269_108 ?_
                  refine zs_istore_n (pc := 112) t269_112 (ls' := [(3, .int (1 : Int32)), (0, .ref 336), (1, .int a), (2, .int b), (4, .int w21x4)]) (zml mf269 (by decide)) rfl ?_
                  refine zs_iload_n (pc := 113) t269_113 rfl ?_
                  refine zs_if_eqF (pc := 114) t269_114 li1 (by decide) ?_
                  refine zs_aload_n (pc := 117) t269_117 rfl ?_
                  have w29 := zBz.be (zBz.e3 w21t0 (by omega)) (by omega)
                  have w30 : (zI w21M 336 18).toInt = (zI w21M 336 18).toInt := (congrArg Int32.toInt rfl).trans rfl
                  have w31 : (zI w21M 336 22).toInt = (zI w10M 336 22).toInt := (congrArg Int32.toInt ((w21F 336 22 rfl).trans ((zIoj (by decide)).trans rfl))).trans rfl
                  have w32 : (zI w21M 336 22).toInt = (zI w10M 336 22).toInt := (congrArg Int32.toInt ((w21F 336 22 rfl).trans ((zIoj (by decide)).trans rfl))).trans rfl
                  have w33 : (zI w21M 336 22).toInt = (zI w10M 336 22).toInt := (congrArg Int32.toInt ((w21F 336 22 rfl).trans ((zIoj (by decide)).trans rfl))).trans rfl
                  refine zs_invV (pc := 118) (k := 336) (as' := []) (st := []) t269_118 mf281 rfl rfl (Or.inl ⟨by decide, (zk1 (w21s.k fk_zMm_336))⟩) ⟨by decide, by decide, Nat.le_of_ble_eq_true rfl, Nat.le_of_ble_eq_true rfl⟩ (U281 w21s w21I (zPR.fr (zPR.fr (M' := (zsI w10M 336 18 (0 : Int32))) (zPR.fr (zPR.fr (M' := (zsI w7M 336 22 (0 : Int32))) (zPR.fr pR (w7F.eq rfl)) (zEq.put rfl)) (w10F.eq rfl)) (zEq.put rfl)) (w21F.eq rfl)) w21PB (zPT.fr (zPT.fr (M' := (zsI w10M 336 18 (0 : Int32))) w10PT (zEq.put rfl)) (w21F.eq rfl)) (by omega) (by omega) (zRw.fr' x0 (fun j hj => ((w21F 337 j rfl).trans ((zIo (by decide)).trans ((w10F 337 j rfl).trans ((zIo (by decide)).trans (w7F 337 j rfl))))))) x1 (zLf.fr w10c6 (fun j => ((w21F 343 j rfl).trans (zIo (by decide))))) (zBz.be (zBz.e3 w21t0 (by omega)) (by omega)) ⟨zTms.fr w10c5 ((((zFr.refl).put rfl).trans (w21F.mono rfl)).eq (W := [(344, 344, none), (336, 336, some 18), (336, 336, some 19), (336, 336, some 20), (336, 336, some 21)]) rfl), by omega⟩ ?_) (fun _ _ q => q)
                  intro w34M w34s w34I w34F w34J w34PT w34t0 w34x0
                  have w35 := ib336_22 w34I
                  show zGo X l 5 0 0 269 121 [(3, .int (1 : Int32)), (0, .ref 336), (1, .int a), (2, .int b), (4, .int w21x4)] [] w34M _
                  refine zs_goto (pc := 121) t269_121 ?_
                  refine zGo.locals (ls' := [(0, .ref 336), (1, .int a), (2, .int b), (3, .int (1 : Int32))]) (by simp) ?_
                  have w36 := li1
                  have w37 : (zI w34M 336 22).toInt = (zI w34M 336 22).toInt := (congrArg Int32.toInt rfl).trans rfl
                  have w38 : (zI w34M 336 22).toInt = (zI w34M 336 22).toInt := (congrArg Int32.toInt rfl).trans rfl
                  exact w10ih (w10m - 1) (by omega) (1 : Int32) w34M ⟨by decide, by decide⟩ w34s w34I (((((zFr.refl).trans (w10F.mono rfl)).put rfl).trans (w21F.mono rfl)).trans (w34F.mono rfl)) (w34J.trans (w21J.trans w10J)) w34PT (w10c.more (by omega) (by omega) w29 (by omega) w34x0 (by first | decide | omega)) (by omega)
              · refine zs_icmp_gtF (pc := 47) t269_47 rfl rfl (by omega) ?_
                refine zs_aload_n (pc := 50) t269_50 rfl ?_
                refine zs_get (pc := 51) t269_51 (by decide) (zk1 (w21s.k fk_zMm_336)) (w21s.p rfl fv_zMm_336_0) ?_
                refine zs_bipush (pc := 54) t269_54 (v := 6) (by decide) ?_
                have w39 := ibA6 hI
                have w40 : (zI M 337 6).toInt = F 6 := x0.at (by decide) (by decide) (by decide)
                refine zs_iald (pc := 56) t269_56 (j := 6) (by decide) (zk1 (w21s.k fk_zMm_337)) li6 (zk2 (w21s.k fk_zMm_337) (by decide)) ((w21F 337 6 rfl).trans ((zIo (by decide)).trans ((w10F 337 6 rfl).trans ((zIo (by decide)).trans ((w7F 337 6 rfl).trans rfl))))) ?_
                obtain ⟨w41v, w41e⟩ : ∃ v, -(zI M 337 6) = v := ⟨_, rfl⟩
                have w41 : w41v.toInt = -(zI M 337 6).toInt := by rw [← w41e]; exact zneg rfl (by omega)
                refine zs_ineg (pc := 57) t269_57 (c := w41v) w41e ?_
                refine zs_istore (pc := 58) t269_58 (ls' := [(5, .int w41v), (0, .ref 336), (1, .int a), (2, .int b), (3, .int w10x3), (4, .int w21x4)]) (zml mf269 (by decide)) rfl ?_
                have w42L : ∀ (m : Nat) (w42x5 : Int32) (w42M : zM), ((-20) ≤ w42x5.toInt ∧ w42x5.toInt ≤ 21) → zSk zMm w42M → zIv mLo mHi w42M → zFr [(344, 344, none), (336, 336, some 18), (336, 336, some 19), (336, 336, some 20), (336, 336, some 21)] w21M w42M → zJ w42M 351 = zJ w21M 351 → zPB w42M → (w42x5.toInt ≤ F 6 + 1) → (-F 6 ≤ w42x5.toInt) → (zBm w42M F (w10V w10k) (zSe F w21x4.toInt w42x5.toInt)) → 21 - w42x5.toInt ≤ (m : Int) → zGo X l 5 0 0 269 60 [(0, .ref 336), (1, .int a), (2, .int b), (3, .int w10x3), (4, .int w21x4), (5, .int w42x5)] [] w42M Q := by
                  intro m
                  induction m using Nat.strongRecOn with
                  | ind w42m w42ih =>
                    intro w42x5 w42M w42b5 w42s w42I w42F w42J w42PB w42r0 w42r1 w42t0 w42q
                    refine zs_iload (pc := 60) t269_60 rfl ?_
                    refine zs_aload_n (pc := 62) t269_62 rfl ?_
                    refine zs_get (pc := 63) t269_63 (by decide) (zk1 (w42s.k fk_zMm_336)) (w42s.p rfl fv_zMm_336_0) ?_
                    refine zs_bipush (pc := 66) t269_66 (v := 6) (by decide) ?_
                    have w43 : (zI M 337 6).toInt = F 6 := x0.at (by decide) (by decide) (by decide)
                    refine zs_iald (pc := 68) t269_68 (j := 6) (by decide) (zk1 (w42s.k fk_zMm_337)) li6 (zk2 (w42s.k fk_zMm_337) (by decide)) ((w42F 337 6 rfl).trans ((w21F 337 6 rfl).trans ((zIo (by decide)).trans ((w10F 337 6 rfl).trans ((zIo (by decide)).trans ((w7F 337 6 rfl).trans rfl)))))) ?_
                    by_cases w44 : (zI M 337 6).toInt < w42x5.toInt
                    · refine zs_icmp_gtT (pc := 69) t269_69 rfl rfl (by omega) ?_
                      obtain ⟨w45v, w45e, w45⟩ := ziadd (a := w21x4) (b := Int32.ofInt 1) rfl (show (Int32.ofInt 1).toInt = 1 by decide) (by omega) (by omega)
                      refine zs_iinc (pc := 86) t269_86 (ls' := [(4, .int w45v), (0, .ref 336), (1, .int a), (2, .int b), (3, .int w10x3), (5, .int w42x5)]) (zml mf269 (by decide)) rfl (c := w45v) w45e rfl ?_
                      refine zs_goto (pc := 89) t269_89 ?_
                      refine zGo.locals (ls' := [(0, .ref 336), (1, .int a), (2, .int b), (3, .int w10x3), (4, .int w45v)]) (by simp) ?_
                      have w46 := w45
                      exact w21ih (w21m - 1) (by omega) w45v w42M ⟨by omega, by omega⟩ w42s w42I (((zFr.refl).trans (w21F.mono rfl)).trans (w42F.mono rfl)) (w42J.trans w21J) w42PB (by omega) (by omega) (zBz.e2 w42t0 (by omega) (by omega) (by omega)) (by omega)
                    · refine zs_icmp_gtF (pc := 69) t269_69 rfl rfl (by omega) ?_
                      refine zs_aload_n (pc := 72) t269_72 rfl ?_
                      refine zs_iload (pc := 73) t269_73 rfl ?_
                      refine zs_iload (pc := 75) t269_75 rfl ?_
                      have w47 : (zI w42M 337 6).toInt = (zI M 337 6).toInt := (congrArg Int32.toInt ((w42F 337 6 rfl).trans ((w21F 337 6 rfl).trans ((zIo (by decide)).trans ((w10F 337 6 rfl).trans ((zIo (by decide)).trans ((w7F 337 6 rfl).trans rfl))))))).trans rfl
                      have w48 : (zI w42M 337 5).toInt = (zI M 337 5).toInt := (congrArg Int32.toInt ((w42F 337 5 rfl).trans ((w21F 337 5 rfl).trans ((zIo (by decide)).trans ((w10F 337 5 rfl).trans ((zIo (by decide)).trans ((w7F 337 5 rfl).trans rfl))))))).trans rfl
                      have w49 := zrg (zI w42M 336 18)
                      have w50 : (zI w42M 336 18).toInt = (zI w42M 336 18).toInt := (congrArg Int32.toInt rfl).trans rfl
                      have w51 := zrg (zI w42M 336 19)
                      have w52 : (zI w42M 336 19).toInt = (zI w42M 336 19).toInt := (congrArg Int32.toInt rfl).trans rfl
                      have w53 := zrg (zI w42M 336 20)
                      have w54 : (zI w42M 336 20).toInt = (zI w42M 336 20).toInt := (congrArg Int32.toInt rfl).trans rfl
                      have w55 := zrg (zI w42M 336 21)
                      have w56 : (zI w42M 336 21).toInt = (zI w42M 336 21).toInt := (congrArg Int32.toInt rfl).trans rfl
                      refine zs_invV (pc := 77) (k := 336) (as' := [.int w42x5, .int w21x4]) (st := []) t269_77 mf274 rfl rfl (Or.inl ⟨by decide, (zk1 (w42s.k fk_zMm_336))⟩) ⟨by decide, by decide, Nat.le_of_ble_eq_true rfl, Nat.le_of_ble_eq_true rfl⟩ (U274 w42s w42I w42PB ⟨by omega, by omega⟩ ⟨by omega, by omega⟩ (by omega) (by omega) (by omega) (by omega) (zRw.fr' x0 (fun j hj => ((w42F 337 j rfl).trans ((w21F 337 j rfl).trans ((zIo (by decide)).trans ((w10F 337 j rfl).trans ((zIo (by decide)).trans (w7F 337 j rfl)))))))) x1 (zLf.fr w10c6 (fun j => ((w42F 343 j rfl).trans ((w21F 343 j rfl).trans (zIo (by decide)))))) w42t0 ?_) (fun _ _ q => q)
                      intro w57M w57s w57I w57F w57J w57PB w57x0
                      show zGo X l 5 0 0 269 80 [(0, .ref 336), (1, .int a), (2, .int b), (3, .int w10x3), (4, .int w21x4), (5, .int w42x5)] [] w57M _
                      obtain ⟨w58v, w58e, w58⟩ := ziadd (a := w42x5) (b := Int32.ofInt 1) rfl (show (Int32.ofInt 1).toInt = 1 by decide) (by omega) (by omega)
                      refine zs_iinc (pc := 80) t269_80 (ls' := [(5, .int w58v), (0, .ref 336), (1, .int a), (2, .int b), (3, .int w10x3), (4, .int w21x4)]) (zml mf269 (by decide)) rfl (c := w58v) w58e rfl ?_
                      refine zs_goto (pc := 83) t269_83 ?_
                      refine zGo.locals (ls' := [(0, .ref 336), (1, .int a), (2, .int b), (3, .int w10x3), (4, .int w21x4), (5, .int w58v)]) (by simp) ?_
                      have w59 := w58
                      exact w42ih (w42m - 1) (by omega) w58v w57M ⟨by omega, by omega⟩ w57s w57I (((zFr.refl).trans (w42F.mono rfl)).trans (w57F.mono rfl)) (w57J.trans w42J) w57PB (by omega) (by omega) (zBz.e1 w57x0 (by omega)) (by omega)
                refine zGo.locals (ls' := [(0, .ref 336), (1, .int a), (2, .int b), (3, .int w10x3), (4, .int w21x4), (5, .int w41v)]) (by simp) ?_
                have w60 := w41
                exact w42L ((21 - (-(zI M 337 6).toInt) : Int).toNat) w41v w21M ⟨by omega, by omega⟩ w21s w21I zFr.refl rfl w21PB (by omega) (by omega) (zBz.e5 w21t0 rfl (by omega)) (by omega)
          refine zGo.locals (ls' := [(0, .ref 336), (1, .int a), (2, .int b), (3, .int w10x3), (4, .int w20v)]) (by simp) ?_
          have w61 := w20
          have w62 : (zI (zsI w10M 336 18 (0 : Int32)) 336 18).toInt = 0 := (congrArg Int32.toInt zIs).trans li0
          exact w21L ((4 - (-(zI M 337 5).toInt) : Int).toNat) w20v (zsI w10M 336 18 (0 : Int32)) ⟨by omega, by omega⟩ w10s w16 zFr.refl rfl w17 (by omega) (by omega) (zBz.e0 (by omega) (by omega) rfl) (by omega)
  refine zGo.locals (ls' := [(0, .ref 336), (1, .int a), (2, .int b), (3, .int (1 : Int32))]) (by simp) ?_
  have w63 := li1
  have w64 : (zI (zsI w7M 336 22 (0 : Int32)) 336 22).toInt = 0 := (congrArg Int32.toInt zIs).trans li0
  have w65 : (zI (zsI w7M 336 22 (0 : Int32)) 336 22).toInt = 0 := (congrArg Int32.toInt zIs).trans li0
  exact w10L ((2 * (20 - (zI (zsI w7M 336 22 (0 : Int32)) 336 22).toInt) + 1 : Int).toNat) (1 : Int32) (zsI w7M 336 22 (0 : Int32)) ⟨by decide, by decide⟩ w7s w8 zFr.refl rfl w9 (zFq.start (by omega) (zLf.fr w7x0 (fun j => (zIo (by decide)))) (fun h hh => by rw [show zI (zsI w7M 336 22 (0 : Int32)) 350 h = zI w7M 350 h from (zIo (by decide))]; exact w7x1 h hh) (by first | decide | omega)) (by omega)
