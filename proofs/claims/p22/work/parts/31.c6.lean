theorem K270 {X : zX} {l : Launch} {M : zM} {Q : Option Value → zM → Prop} {a : Int32} (hs : zSk zMm M) (hI : zIv mLo mHi M) (hQ : ∀ M', zSk zMm M' → zIv mLo mHi M' → zFr [(343, 343, none), (350, 350, none)] M M' → zJ M' 351 = zJ M 351 → Q none M') : zCall X l 2 0 0 270 [.ref 336, .int a] M Q := by
  have ga := zrg a
  refine zs_in (by decide) mf270 (Nat.le_of_ble_eq_true rfl) ?_
  show zGo X l 2 0 0 270 0 [(0, .ref 336), (1, .int a)] [] M _
  refine zs_iconst (pc := 0) t270_0 (v := 0) (by decide) ?_
  refine zs_istore_n (pc := 1) t270_1 (ls' := [(2, .int (0 : Int32)), (0, .ref 336), (1, .int a)]) (zml mf270 (by decide)) rfl ?_
  have w1L : ∀ (m : Nat) (w1x2 : Int32) (w1M : zM), (0 ≤ w1x2.toInt ∧ w1x2.toInt ≤ 60) → zSk zMm w1M → zIv mLo mHi w1M → zFr [(343, 343, none), (350, 350, none)] M w1M → zJ w1M 351 = zJ M 351 → 60 - w1x2.toInt ≤ (m : Int) → zGo X l 2 0 0 270 2 [(0, .ref 336), (1, .int a), (2, .int w1x2)] [] w1M Q := by
    intro m
    induction m using Nat.strongRecOn with
    | ind w1m w1ih =>
      intro w1x2 w1M w1b2 w1s w1I w1F w1J w1q
      refine zs_iload_n (pc := 2) t270_2 rfl ?_
      refine zs_aload_n (pc := 3) t270_3 rfl ?_
      refine zs_get (pc := 4) t270_4 (by decide) (zk1 (w1s.k fk_zMm_336)) (w1s.p rfl fv_zMm_336_0) ?_
      refine zs_iconst (pc := 7) t270_7 (v := 1) (by decide) ?_
      have w2 := ibA1 hI
      refine zs_iald (pc := 8) t270_8 (j := 1) (by decide) (zk1 (w1s.k fk_zMm_337)) li1 (zk2 (w1s.k fk_zMm_337) (by decide)) ((w1F 337 1 rfl).trans rfl) ?_
      by_cases w3 : (zI M 337 1).toInt ≤ w1x2.toInt
      · refine zs_icmp_geT (pc := 9) t270_9 rfl rfl (by omega) ?_
        exact zs_vret (pc := 38) t270_38 mr270 (hQ _ w1s w1I ((zFr.refl).trans (w1F.mono rfl)) w1J)
      · refine zs_icmp_geF (pc := 9) t270_9 rfl rfl (by omega) ?_
        refine zs_aload_n (pc := 12) t270_12 rfl ?_
        refine zs_get (pc := 13) t270_13 (by decide) (zk1 (w1s.k fk_zMm_336)) (w1s.p rfl fv_zMm_336_16) ?_
        refine zs_iload_n (pc := 16) t270_16 rfl ?_
        refine zs_aload_n (pc := 17) t270_17 rfl ?_
        refine zs_iload_n (pc := 18) t270_18 rfl ?_
        refine zs_iload_n (pc := 19) t270_19 rfl ?_
        refine zs_invV (pc := 20) (k := 336) (as' := [.int w1x2, .int a]) (st := [.int w1x2, .ref 343]) t270_20 mf271 rfl rfl (Or.inl ⟨by decide, (zk1 (w1s.k fk_zMm_336))⟩) ⟨by decide, by decide, Nat.le_of_ble_eq_true rfl, Nat.le_of_ble_eq_true rfl⟩ (K271 w1s w1I ⟨by omega, by omega⟩ ?_) (fun _ _ q => q)
        intro w4v  w4a w4b
        show zGo X l 2 0 0 270 23 [(0, .ref 336), (1, .int a), (2, .int w1x2)] [.int w4v, .int w1x2, .ref 343] w1M _
        obtain ⟨w5n, w5⟩ : ∃ n : Nat, w1x2.toInt = (n : Int) := ⟨(w1x2.toInt).toNat, by omega⟩
        have w6e : vp_nar .boolean w4v = w4v := zb01 (by omega)
        have w7 : zIv mLo mHi (zsI w1M 343 w5n w4v) := zIv.put w1I (show 0 ≤ w4v.toInt ∧ w4v.toInt ≤ 1 from ⟨by omega, by omega⟩)
        refine zs_bastZ (pc := 23) t270_23 (j := w5n) (by decide) (zk1 (w1s.k fk_zMm_343)) (show w1x2.toInt = ((w5n : Nat) : Int) by omega) (zk2 (w1s.k fk_zMm_343) (by omega)) w6e ?_
        refine zs_aload_n (pc := 24) t270_24 rfl ?_
        refine zs_get (pc := 25) t270_25 (by decide) (zk1 (w1s.k fk_zMm_336)) (w1s.p rfl fv_zMm_336_28) ?_
        refine zs_iload_n (pc := 28) t270_28 rfl ?_
        refine zs_bipush (pc := 29) t270_29 (v := -2) (by decide) ?_
        have w8 : zIv mLo mHi (zsI (zsI w1M 343 w5n w4v) 350 w5n (-2 : Int32)) := zIv.put w7 (show (-2147483648) ≤ (-2 : Int32).toInt ∧ (-2 : Int32).toInt ≤ 2147483647 from zrg (-2 : Int32))
        refine zs_iast (pc := 31) t270_31 (j := w5n) (by decide) (zk1 (w1s.k fk_zMm_350)) (show w1x2.toInt = ((w5n : Nat) : Int) by omega) (zk2 (w1s.k fk_zMm_350) (by omega)) ?_
        obtain ⟨w9v, w9e, w9⟩ := ziadd (a := w1x2) (b := Int32.ofInt 1) rfl (show (Int32.ofInt 1).toInt = 1 by decide) (by omega) (by omega)
        refine zs_iinc (pc := 32) t270_32 (ls' := [(2, .int w9v), (0, .ref 336), (1, .int a)]) (zml mf270 (by decide)) rfl (c := w9v) w9e rfl ?_
        refine zs_goto (pc := 35) t270_35 ?_
        refine zGo.locals (ls' := [(0, .ref 336), (1, .int a), (2, .int w9v)]) (by simp) ?_
        have w10 := w9
        exact w1ih (w1m - 1) (by omega) w9v (zsI (zsI w1M 343 w5n w4v) 350 w5n (-2 : Int32)) ⟨by omega, by omega⟩ w1s w8 ((((zFr.refl).trans (w1F.mono rfl)).put rfl).put rfl) w1J (by omega)
  refine zGo.locals (ls' := [(0, .ref 336), (1, .int a), (2, .int (0 : Int32))]) (by simp) ?_
  have w11 := li0
  exact w1L ((60 - 0 : Int).toNat) (0 : Int32) M ⟨by decide, by decide⟩ hs hI zFr.refl rfl (by omega)
theorem K269 {X : zX} {l : Launch} {M : zM} {Q : Option Value → zM → Prop} {a b : Int32} (hs : zSk zMm M) (hI : zIv mLo mHi M) (pR : zPR M) (ha : 2 ≤ a.toInt ∧ a.toInt ≤ 8) (hQ : ∀ M', zSk zMm M' → zIv mLo mHi M' → zFr [(344, 344, none), (349, 349, none), (350, 350, none), (343, 343, none), (345, 345, none), (346, 346, none), (347, 347, none), (348, 348, none), (336, 336, some 22), (336, 336, some 18), (336, 336, some 19), (336, 336, some 20), (336, 336, some 21)] M M' → zJ M' 351 = zJ M 351 → zPT M' → Q none M') : zCall X l 5 0 0 269 [.ref 336, .int a, .int b] M Q := by
  have ga := zrg a
  have gb := zrg b
  refine zs_in (by decide) mf269 (Nat.le_of_ble_eq_true rfl) ?_
  show zGo X l 5 0 0 269 0 [(0, .ref 336), (1, .int a), (2, .int b)] [] M _
  refine zs_aload_n (pc := 0) t269_0 rfl ?_
  refine zs_iload_n (pc := 1) t269_1 rfl ?_
  refine zs_invV (pc := 2) (k := 336) (as' := [.int b]) (st := []) t269_2 mf270 rfl rfl (Or.inl ⟨by decide, (zk1 (hs.k fk_zMm_336))⟩) ⟨by decide, by decide, Nat.le_of_ble_eq_true rfl, Nat.le_of_ble_eq_true rfl⟩ (K270 hs hI ?_) (fun _ _ q => q)
  intro w1M w1s w1I w1F w1J
  show zGo X l 5 0 0 269 5 [(0, .ref 336), (1, .int a), (2, .int b)] [] w1M _
  refine zs_aload_n (pc := 5) t269_5 rfl ?_
  refine zs_iconst (pc := 6) t269_6 (v := 0) (by decide) ?_
  have w2 : zIv mLo mHi (zsI w1M 336 22 (0 : Int32)) := zIv.put w1I (show 0 ≤ (0 : Int32).toInt ∧ (0 : Int32).toInt ≤ 20 from ⟨by decide, by decide⟩)
  have w3 : zPT (zsI w1M 336 22 (0 : Int32)) := zPT.zero (by decide)
  refine zs_putI (pc := 7) t269_7 (zk1 (w1s.k fk_zMm_336)) rfl ?_
  refine zs_iconst (pc := 10) t269_10 (v := 1) (by decide) ?_
  refine zs_istore_n (pc := 11) t269_11 (ls' := [(3, .int (1 : Int32)), (0, .ref 336), (1, .int a), (2, .int b)]) (zml mf269 (by decide)) rfl ?_
  have w4L : ∀ (m : Nat) (w4x3 : Int32) (w4M : zM), (0 ≤ w4x3.toInt ∧ w4x3.toInt ≤ 1) → zSk zMm w4M → zIv mLo mHi w4M → zFr [(344, 344, none), (349, 349, none), (350, 350, none), (343, 343, none), (345, 345, none), (346, 346, none), (347, 347, none), (348, 348, none), (336, 336, some 22), (336, 336, some 18), (336, 336, some 19), (336, 336, some 20), (336, 336, some 21)] (zsI w1M 336 22 (0 : Int32)) w4M → zJ w4M 351 = zJ (zsI w1M 336 22 (0 : Int32)) 351 → zPT w4M → 2 * (20 - (zI w4M 336 22).toInt) + w4x3.toInt ≤ (m : Int) → zGo X l 5 0 0 269 12 [(0, .ref 336), (1, .int a), (2, .int b), (3, .int w4x3)] [] w4M Q := by
    intro m
    induction m using Nat.strongRecOn with
    | ind w4m w4ih =>
      intro w4x3 w4M w4b3 w4s w4I w4F w4J w4PT w4q
      have w5 := ib336_22 w4I
      refine zs_iload_n (pc := 12) t269_12 rfl ?_
      by_cases w6 : w4x3.toInt = 0
      · refine zs_if_eqT (pc := 13) t269_13 rfl (by omega) ?_
        exact zs_vret (pc := 124) t269_124 mr269 (hQ _ w4s w4I ((((zFr.refl).trans (w1F.mono rfl)).put rfl).trans (w4F.mono rfl)) (w4J.trans w1J) w4PT)
      · refine zs_if_eqF (pc := 13) t269_13 rfl (by omega) ?_
        refine zs_aload_n (pc := 16) t269_16 rfl ?_
        refine zs_get (pc := 17) t269_17 (by decide) (zk1 (w4s.k fk_zMm_336)) (zfvi rfl rfl) ?_
        refine zs_bipush (pc := 20) t269_20 (v := 20) (by decide) ?_
        by_cases w7 : 20 ≤ (zI w4M 336 22).toInt
        · refine zs_icmp_geT (pc := 22) t269_22 rfl li20 (by omega) ?_
          exact zs_vret (pc := 124) t269_124 mr269 (hQ _ w4s w4I ((((zFr.refl).trans (w1F.mono rfl)).put rfl).trans (w4F.mono rfl)) (w4J.trans w1J) w4PT)
        · refine zs_icmp_geF (pc := 22) t269_22 rfl li20 (by omega) ?_
          refine zs_aload_n (pc := 25) t269_25 rfl ?_
          refine zs_iconst (pc := 26) t269_26 (v := 0) (by decide) ?_
          have w8 : zIv mLo mHi (zsI w4M 336 18 (0 : Int32)) := zIv.put w4I (show (-2147483648) ≤ (0 : Int32).toInt ∧ (0 : Int32).toInt ≤ 2147483647 from zrg (0 : Int32))
          have w9 : zPB (zsI w4M 336 18 (0 : Int32)) := zPB.zero (by decide)
          refine zs_putI (pc := 27) t269_27 (zk1 (w4s.k fk_zMm_336)) rfl ?_
          refine zs_aload_n (pc := 30) t269_30 rfl ?_
          refine zs_get (pc := 31) t269_31 (by decide) (zk1 (w4s.k fk_zMm_336)) (w4s.p rfl fv_zMm_336_0) ?_
          refine zs_iconst (pc := 34) t269_34 (v := 5) (by decide) ?_
          have w10 := ibA5 hI
          refine zs_iald (pc := 35) t269_35 (j := 5) (by decide) (zk1 (w4s.k fk_zMm_337)) li5 (zk2 (w4s.k fk_zMm_337) (by decide)) ((zIo (by decide)).trans ((w4F 337 5 rfl).trans ((zIo (by decide)).trans ((w1F 337 5 rfl).trans rfl)))) ?_
          obtain ⟨w11v, w11e⟩ : ∃ v, -(zI M 337 5) = v := ⟨_, rfl⟩
          have w11 : w11v.toInt = -(zI M 337 5).toInt := by rw [← w11e]; exact zneg rfl (by omega)
          refine zs_ineg (pc := 36) t269_36 (c := w11v) w11e ?_
          refine zs_istore (pc := 37) t269_37 (ls' := [(4, .int w11v), (0, .ref 336), (1, .int a), (2, .int b), (3, .int w4x3)]) (zml mf269 (by decide)) rfl ?_
          have w12L : ∀ (m : Nat) (w12x4 : Int32) (w12M : zM), ((-3) ≤ w12x4.toInt ∧ w12x4.toInt ≤ 4) → zSk zMm w12M → zIv mLo mHi w12M → zFr [(344, 344, none), (336, 336, some 18), (336, 336, some 19), (336, 336, some 20), (336, 336, some 21)] (zsI w4M 336 18 (0 : Int32)) w12M → zJ w12M 351 = zJ (zsI w4M 336 18 (0 : Int32)) 351 → zPB w12M → 4 - w12x4.toInt ≤ (m : Int) → zGo X l 5 0 0 269 39 [(0, .ref 336), (1, .int a), (2, .int b), (3, .int w4x3), (4, .int w12x4)] [] w12M Q := by
            intro m
            induction m using Nat.strongRecOn with
            | ind w12m w12ih =>
              intro w12x4 w12M w12b4 w12s w12I w12F w12J w12PB w12q
              refine zs_iload (pc := 39) t269_39 rfl ?_
              refine zs_aload_n (pc := 41) t269_41 rfl ?_
              refine zs_get (pc := 42) t269_42 (by decide) (zk1 (w12s.k fk_zMm_336)) (w12s.p rfl fv_zMm_336_0) ?_
              refine zs_iconst (pc := 45) t269_45 (v := 5) (by decide) ?_
              refine zs_iald (pc := 46) t269_46 (j := 5) (by decide) (zk1 (w12s.k fk_zMm_337)) li5 (zk2 (w12s.k fk_zMm_337) (by decide)) ((w12F 337 5 rfl).trans ((zIo (by decide)).trans ((w4F 337 5 rfl).trans ((zIo (by decide)).trans ((w1F 337 5 rfl).trans rfl))))) ?_
              by_cases w13 : (zI M 337 5).toInt < w12x4.toInt
              · refine zs_icmp_gtT (pc := 47) t269_47 rfl rfl (by omega) ?_
                refine zs_aload_n (pc := 92) t269_92 rfl ?_
                have w14 := zrg (zI w12M 336 18)
                refine zs_get (pc := 93) t269_93 (by decide) (zk1 (w12s.k fk_zMm_336)) (zfvi rfl rfl) ?_
                refine zs_iload_n (pc := 96) t269_96 rfl ?_
                by_cases w15 : (zI w12M 336 18).toInt < a.toInt
                · refine zs_icmp_ltT (pc := 97) t269_97 rfl rfl (by omega) ?_
                  refine zs_iconst (pc := 111) t269_111 (v := 0) (by decide) ?_
                  refine zs_istore_n (pc := 112) t269_112 (ls' := [(3, .int (0 : Int32)), (0, .ref 336), (1, .int a), (2, .int b), (4, .int w12x4)]) (zml mf269 (by decide)) rfl ?_
                  refine zs_iload_n (pc := 113) t269_113 rfl ?_
                  refine zs_if_eqT (pc := 114) t269_114 li0 (by decide) ?_
                  refine zGo.locals (ls' := [(0, .ref 336), (1, .int a), (2, .int b), (3, .int (0 : Int32))]) (by simp) ?_
                  have w16 := li0
                  have w17 : (zI w12M 336 22).toInt = (zI w4M 336 22).toInt := (congrArg Int32.toInt ((w12F 336 22 rfl).trans ((zIoj (by decide)).trans rfl))).trans rfl
                  exact w4ih (w4m - 1) (by omega) (0 : Int32) w12M ⟨by decide, by decide⟩ w12s w12I ((((zFr.refl).trans (w4F.mono rfl)).put rfl).trans (w12F.mono rfl)) (w12J.trans w4J) (zPT.fr (zPT.fr (M' := (zsI w4M 336 18 (0 : Int32))) w4PT (zEq.put rfl)) (w12F.eq rfl)) (by omega)
                · refine zs_icmp_ltF (pc := 97) t269_97 rfl rfl (by omega) ?_
                  refine zs_aload_n (pc := 100) t269_100 rfl ?_
                  refine zs_get (pc := 101) t269_101 (by decide) (zk1 (w12s.k fk_zMm_336)) (zfvi rfl rfl) ?_
                  refine zs_if_leF (pc := 104) t269_104 rfl (by omega) ?_
                  refine zs_iconst (pc := 107) t269_107 (v := 1) (by decide) ?_
                  refine zs_goto (pc := 108) t269_108 ?_
                  refine zs_istore_n (pc := 112) t269_112 (ls' := [(3, .int (1 : Int32)), (0, .ref 336), (1, .int a), (2, .int b), (4, .int w12x4)]) (zml mf269 (by decide)) rfl ?_
                  refine zs_iload_n (pc := 113) t269_113 rfl ?_
                  refine zs_if_eqF (pc := 114) t269_114 li1 (by decide) ?_
                  refine zs_aload_n (pc := 117) t269_117 rfl ?_
                  have w18 : (zI w12M 336 18).toInt = (zI w12M 336 18).toInt := (congrArg Int32.toInt rfl).trans rfl
                  have w19 : (zI w12M 336 22).toInt = (zI w4M 336 22).toInt := (congrArg Int32.toInt ((w12F 336 22 rfl).trans ((zIoj (by decide)).trans rfl))).trans rfl
                  have w20 : (zI w12M 336 22).toInt = (zI w4M 336 22).toInt := (congrArg Int32.toInt ((w12F 336 22 rfl).trans ((zIoj (by decide)).trans rfl))).trans rfl
                  refine zs_invV (pc := 118) (k := 336) (as' := []) (st := []) t269_118 mf281 rfl rfl (Or.inl ⟨by decide, (zk1 (w12s.k fk_zMm_336))⟩) ⟨by decide, by decide, Nat.le_of_ble_eq_true rfl, Nat.le_of_ble_eq_true rfl⟩ (K281 w12s w12I (zPR.fr (zPR.fr (M' := (zsI w4M 336 18 (0 : Int32))) (zPR.fr (zPR.fr (M' := (zsI w1M 336 22 (0 : Int32))) (zPR.fr pR (w1F.eq rfl)) (zEq.put rfl)) (w4F.eq rfl)) (zEq.put rfl)) (w12F.eq rfl)) w12PB (zPT.fr (zPT.fr (M' := (zsI w4M 336 18 (0 : Int32))) w4PT (zEq.put rfl)) (w12F.eq rfl)) (by omega) (by omega) ?_) (fun _ _ q => q)
                  intro w21M w21s w21I w21F w21J w21PT w21t0
                  have w22 := ib336_22 w21I
                  show zGo X l 5 0 0 269 121 [(3, .int (1 : Int32)), (0, .ref 336), (1, .int a), (2, .int b), (4, .int w12x4)] [] w21M _
                  refine zs_goto (pc := 121) t269_121 ?_
                  refine zGo.locals (ls' := [(0, .ref 336), (1, .int a), (2, .int b), (3, .int (1 : Int32))]) (by simp) ?_
                  have w23 := li1
                  have w24 : (zI w21M 336 22).toInt = (zI w21M 336 22).toInt := (congrArg Int32.toInt rfl).trans rfl
                  exact w4ih (w4m - 1) (by omega) (1 : Int32) w21M ⟨by decide, by decide⟩ w21s w21I (((((zFr.refl).trans (w4F.mono rfl)).put rfl).trans (w12F.mono rfl)).trans (w21F.mono rfl)) (w21J.trans (w12J.trans w4J)) w21PT (by omega)
              · refine zs_icmp_gtF (pc := 47) t269_47 rfl rfl (by omega) ?_
                refine zs_aload_n (pc := 50) t269_50 rfl ?_
                refine zs_get (pc := 51) t269_51 (by decide) (zk1 (w12s.k fk_zMm_336)) (w12s.p rfl fv_zMm_336_0) ?_
                refine zs_bipush (pc := 54) t269_54 (v := 6) (by decide) ?_
                have w25 := ibA6 hI
                refine zs_iald (pc := 56) t269_56 (j := 6) (by decide) (zk1 (w12s.k fk_zMm_337)) li6 (zk2 (w12s.k fk_zMm_337) (by decide)) ((w12F 337 6 rfl).trans ((zIo (by decide)).trans ((w4F 337 6 rfl).trans ((zIo (by decide)).trans ((w1F 337 6 rfl).trans rfl))))) ?_
                obtain ⟨w26v, w26e⟩ : ∃ v, -(zI M 337 6) = v := ⟨_, rfl⟩
                have w26 : w26v.toInt = -(zI M 337 6).toInt := by rw [← w26e]; exact zneg rfl (by omega)
                refine zs_ineg (pc := 57) t269_57 (c := w26v) w26e ?_
                refine zs_istore (pc := 58) t269_58 (ls' := [(5, .int w26v), (0, .ref 336), (1, .int a), (2, .int b), (3, .int w4x3), (4, .int w12x4)]) (zml mf269 (by decide)) rfl ?_
                have w27L : ∀ (m : Nat) (w27x5 : Int32) (w27M : zM), ((-20) ≤ w27x5.toInt ∧ w27x5.toInt ≤ 21) → zSk zMm w27M → zIv mLo mHi w27M → zFr [(344, 344, none), (336, 336, some 18), (336, 336, some 19), (336, 336, some 20), (336, 336, some 21)] w12M w27M → zJ w27M 351 = zJ w12M 351 → zPB w27M → 21 - w27x5.toInt ≤ (m : Int) → zGo X l 5 0 0 269 60 [(0, .ref 336), (1, .int a), (2, .int b), (3, .int w4x3), (4, .int w12x4), (5, .int w27x5)] [] w27M Q := by
                  intro m
                  induction m using Nat.strongRecOn with
                  | ind w27m w27ih =>
                    intro w27x5 w27M w27b5 w27s w27I w27F w27J w27PB w27q
                    refine zs_iload (pc := 60) t269_60 rfl ?_
                    refine zs_aload_n (pc := 62) t269_62 rfl ?_
                    refine zs_get (pc := 63) t269_63 (by decide) (zk1 (w27s.k fk_zMm_336)) (w27s.p rfl fv_zMm_336_0) ?_
                    refine zs_bipush (pc := 66) t269_66 (v := 6) (by decide) ?_
                    refine zs_iald (pc := 68) t269_68 (j := 6) (by decide) (zk1 (w27s.k fk_zMm_337)) li6 (zk2 (w27s.k fk_zMm_337) (by decide)) ((w27F 337 6 rfl).trans ((w12F 337 6 rfl).trans ((zIo (by decide)).trans ((w4F 337 6 rfl).trans ((zIo (by decide)).trans ((w1F 337 6 rfl).trans rfl)))))) ?_
                    by_cases w28 : (zI M 337 6).toInt < w27x5.toInt
                    · refine zs_icmp_gtT (pc := 69) t269_69 rfl rfl (by omega) ?_
                      obtain ⟨w29v, w29e, w29⟩ := ziadd (a := w12x4) (b := Int32.ofInt 1) rfl (show (Int32.ofInt 1).toInt = 1 by decide) (by omega) (by omega)
                      refine zs_iinc (pc := 86) t269_86 (ls' := [(4, .int w29v), (0, .ref 336), (1, .int a), (2, .int b), (3, .int w4x3), (5, .int w27x5)]) (zml mf269 (by decide)) rfl (c := w29v) w29e rfl ?_
                      refine zs_goto (pc := 89) t269_89 ?_
                      refine zGo.locals (ls' := [(0, .ref 336), (1, .int a), (2, .int b), (3, .int w4x3), (4, .int w29v)]) (by simp) ?_
                      have w30 := w29
                      exact w12ih (w12m - 1) (by omega) w29v w27M ⟨by omega, by omega⟩ w27s w27I (((zFr.refl).trans (w12F.mono rfl)).trans (w27F.mono rfl)) (w27J.trans w12J) w27PB (by omega)
                    · refine zs_icmp_gtF (pc := 69) t269_69 rfl rfl (by omega) ?_
                      refine zs_aload_n (pc := 72) t269_72 rfl ?_
                      refine zs_iload (pc := 73) t269_73 rfl ?_
                      refine zs_iload (pc := 75) t269_75 rfl ?_
                      refine zs_invV (pc := 77) (k := 336) (as' := [.int w27x5, .int w12x4]) (st := []) t269_77 mf274 rfl rfl (Or.inl ⟨by decide, (zk1 (w27s.k fk_zMm_336))⟩) ⟨by decide, by decide, Nat.le_of_ble_eq_true rfl, Nat.le_of_ble_eq_true rfl⟩ (K274 w27s w27I w27PB ?_) (fun _ _ q => q)
                      intro w31M w31s w31I w31F w31J w31PB
                      show zGo X l 5 0 0 269 80 [(0, .ref 336), (1, .int a), (2, .int b), (3, .int w4x3), (4, .int w12x4), (5, .int w27x5)] [] w31M _
                      obtain ⟨w32v, w32e, w32⟩ := ziadd (a := w27x5) (b := Int32.ofInt 1) rfl (show (Int32.ofInt 1).toInt = 1 by decide) (by omega) (by omega)
                      refine zs_iinc (pc := 80) t269_80 (ls' := [(5, .int w32v), (0, .ref 336), (1, .int a), (2, .int b), (3, .int w4x3), (4, .int w12x4)]) (zml mf269 (by decide)) rfl (c := w32v) w32e rfl ?_
                      refine zs_goto (pc := 83) t269_83 ?_
                      refine zGo.locals (ls' := [(0, .ref 336), (1, .int a), (2, .int b), (3, .int w4x3), (4, .int w12x4), (5, .int w32v)]) (by simp) ?_
                      have w33 := w32
                      exact w27ih (w27m - 1) (by omega) w32v w31M ⟨by omega, by omega⟩ w31s w31I (((zFr.refl).trans (w27F.mono rfl)).trans (w31F.mono rfl)) (w31J.trans w27J) w31PB (by omega)
                refine zGo.locals (ls' := [(0, .ref 336), (1, .int a), (2, .int b), (3, .int w4x3), (4, .int w12x4), (5, .int w26v)]) (by simp) ?_
                have w34 := w26
                exact w27L ((21 - (-(zI M 337 6).toInt) : Int).toNat) w26v w12M ⟨by omega, by omega⟩ w12s w12I zFr.refl rfl w12PB (by omega)
          refine zGo.locals (ls' := [(0, .ref 336), (1, .int a), (2, .int b), (3, .int w4x3), (4, .int w11v)]) (by simp) ?_
          have w35 := w11
          exact w12L ((4 - (-(zI M 337 5).toInt) : Int).toNat) w11v (zsI w4M 336 18 (0 : Int32)) ⟨by omega, by omega⟩ w4s w8 zFr.refl rfl w9 (by omega)
  refine zGo.locals (ls' := [(0, .ref 336), (1, .int a), (2, .int b), (3, .int (1 : Int32))]) (by simp) ?_
  have w36 := li1
  have w37 : (zI (zsI w1M 336 22 (0 : Int32)) 336 22).toInt = 0 := (congrArg Int32.toInt zIs).trans li0
  exact w4L ((2 * (20 - (zI (zsI w1M 336 22 (0 : Int32)) 336 22).toInt) + 1 : Int).toNat) (1 : Int32) (zsI w1M 336 22 (0 : Int32)) ⟨by decide, by decide⟩ w1s w2 zFr.refl rfl w3 (by omega)
theorem zIJ {M : zM} {k j k' j' : Nat} {v : Int64} : zI (zsJ M k j v) k' j' = zI M k' j' := rfl
theorem K282 {X : zX} {l : Launch} {M : zM} {Q : Option Value → zM → Prop} (hs : zSk zMm M) (hI : zIv mLo mHi M) (pR : zPR M) (pT : zPT M) (hQ : ∀ M', zSk zMm M' → zIv mLo mHi M' → zFr [(351, 354, none)] M M' → zPD M' → Q none M') : zCall X l 3 0 0 282 [.ref 336] M Q := by
  refine zs_in (by decide) mf282 (Nat.le_of_ble_eq_true rfl) ?_
  show zGo X l 3 0 0 282 0 [(0, .ref 336)] [] M _
  refine zs_iconst (pc := 0) t282_0 (v := 0) (by decide) ?_
  refine zs_istore_n (pc := 1) t282_1 (ls' := [(1, .int (0 : Int32)), (0, .ref 336)]) (zml mf282 (by decide)) rfl ?_
  have w1L : ∀ (m : Nat) (w1x1 : Int32) (w1M : zM), (0 ≤ w1x1.toInt ∧ w1x1.toInt ≤ 20) → zSk zMm w1M → zIv mLo mHi w1M → zFr [(351, 354, none)] M w1M → (zDs w1M w1x1.toInt) → 20 - w1x1.toInt ≤ (m : Int) → zGo X l 3 0 0 282 2 [(0, .ref 336), (1, .int w1x1)] [] w1M Q := by
    intro m
    induction m using Nat.strongRecOn with
    | ind w1m w1ih =>
      intro w1x1 w1M w1b1 w1s w1I w1F w1t0 w1q
      refine zs_iload_n (pc := 2) t282_2 rfl ?_
      refine zs_aload_n (pc := 3) t282_3 rfl ?_
      have w2 := ib336_22 hI
      refine zs_get (pc := 4) t282_4 (by decide) (zk1 (w1s.k fk_zMm_336)) (zfvi rfl ((w1F 336 22 rfl).trans rfl)) ?_
      by_cases w3 : (zI M 336 22).toInt ≤ w1x1.toInt
      · refine zs_icmp_geT (pc := 7) t282_7 rfl rfl (by omega) ?_
        have w4 : (zI w1M 336 22).toInt = (zI M 336 22).toInt := (congrArg Int32.toInt ((w1F 336 22 rfl).trans rfl)).trans rfl
        exact zs_vret (pc := 234) t282_234 mr282 (hQ _ w1s w1I ((zFr.refl).trans (w1F.mono rfl)) (zPD.of w1t0 (by omega)))
      · refine zs_icmp_geF (pc := 7) t282_7 rfl rfl (by omega) ?_
        refine zs_lconst (pc := 10) t282_10 (v := 0) (by decide) ?_
        refine zs_lstore_n (pc := 11) t282_11 (ls' := [(2, .long (0 : Int64)), (0, .ref 336), (1, .int w1x1)]) (zml mf282 (by decide)) rfl ?_
        refine zs_lconst (pc := 12) t282_12 (v := 0) (by decide) ?_
        refine zs_lstore (pc := 13) t282_13 (ls' := [(4, .long (0 : Int64)), (2, .long (0 : Int64)), (0, .ref 336), (1, .int w1x1)]) (zml mf282 (by decide)) rfl ?_
        refine zs_lconst (pc := 15) t282_15 (v := 0) (by decide) ?_
        refine zs_lstore (pc := 16) t282_16 (ls' := [(6, .long (0 : Int64)), (4, .long (0 : Int64)), (2, .long (0 : Int64)), (0, .ref 336), (1, .int w1x1)]) (zml mf282 (by decide)) rfl ?_
        refine zs_lconst (pc := 18) t282_18 (v := 0) (by decide) ?_
        refine zs_lstore (pc := 19) t282_19 (ls' := [(8, .long (0 : Int64)), (6, .long (0 : Int64)), (4, .long (0 : Int64)), (2, .long (0 : Int64)), (0, .ref 336), (1, .int w1x1)]) (zml mf282 (by decide)) rfl ?_
        refine zs_lconst (pc := 21) t282_21 (v := 0) (by decide) ?_
        refine zs_lstore (pc := 22) t282_22 (ls' := [(10, .long (0 : Int64)), (8, .long (0 : Int64)), (6, .long (0 : Int64)), (4, .long (0 : Int64)), (2, .long (0 : Int64)), (0, .ref 336), (1, .int w1x1)]) (zml mf282 (by decide)) rfl ?_
        refine zs_lconst (pc := 24) t282_24 (v := 0) (by decide) ?_
        refine zs_lstore (pc := 25) t282_25 (ls' := [(12, .long (0 : Int64)), (10, .long (0 : Int64)), (8, .long (0 : Int64)), (6, .long (0 : Int64)), (4, .long (0 : Int64)), (2, .long (0 : Int64)), (0, .ref 336), (1, .int w1x1)]) (zml mf282 (by decide)) rfl ?_
        refine zs_iconst (pc := 27) t282_27 (v := 0) (by decide) ?_
        refine zs_istore (pc := 28) t282_28 (ls' := [(14, .int (0 : Int32)), (12, .long (0 : Int64)), (10, .long (0 : Int64)), (8, .long (0 : Int64)), (6, .long (0 : Int64)), (4, .long (0 : Int64)), (2, .long (0 : Int64)), (0, .ref 336), (1, .int w1x1)]) (zml mf282 (by decide)) rfl ?_
        obtain ⟨w5n, w5⟩ : ∃ n : Nat, w1x1.toInt = (n : Int) := ⟨(w1x1.toInt).toNat, by omega⟩
        have w6L : ∀ (m : Nat) (w6x2 : Int64) (w6x4 : Int64) (w6x6 : Int64) (w6x8 : Int64) (w6x10 : Int64) (w6x12 : Int64) (w6x14 : Int32), (0 ≤ w6x14.toInt ∧ w6x14.toInt ≤ 8) → (zSu M w5n w6x14.toInt w6x2.toInt w6x4.toInt w6x8.toInt) → 8 - w6x14.toInt ≤ (m : Int) → zGo X l 3 0 0 282 30 [(0, .ref 336), (1, .int w1x1), (2, .long w6x2), (4, .long w6x4), (6, .long w6x6), (8, .long w6x8), (10, .long w6x10), (12, .long w6x12), (14, .int w6x14)] [] w1M Q := by
          intro m
          induction m using Nat.strongRecOn with
          | ind w6m w6ih =>
            intro w6x2 w6x4 w6x6 w6x8 w6x10 w6x12 w6x14 w6b14 w6t0 w6q
            have w6g2 := zrg64 w6x2
            have w6g4 := zrg64 w6x4
            have w6g6 := zrg64 w6x6
            have w6g8 := zrg64 w6x8
            have w6g10 := zrg64 w6x10
            have w6g12 := zrg64 w6x12
            refine zs_iload (pc := 30) t282_30 rfl ?_
            refine zs_aload_n (pc := 32) t282_32 rfl ?_
            refine zs_get (pc := 33) t282_33 (by decide) (zk1 (w1s.k fk_zMm_336)) (w1s.p rfl fv_zMm_336_0) ?_
            refine zs_iconst (pc := 36) t282_36 (v := 0) (by decide) ?_
            have w7 := ibA0 hI
            refine zs_iald (pc := 37) t282_37 (j := 0) (by decide) (zk1 (w1s.k fk_zMm_337)) li0 (zk2 (w1s.k fk_zMm_337) (by decide)) ((w1F 337 0 rfl).trans rfl) ?_
            by_cases w8 : (zI M 337 0).toInt ≤ w6x14.toInt
            · refine zs_icmp_geT (pc := 38) t282_38 rfl rfl (by omega) ?_
              refine zs_aload_n (pc := 134) t282_134 rfl ?_
              refine zs_get (pc := 135) t282_135 (by decide) (zk1 (w1s.k fk_zMm_336)) (w1s.p rfl fv_zMm_336_29) ?_
              refine zs_iload_n (pc := 138) t282_138 rfl ?_
              refine zs_lload_n (pc := 139) t282_139 rfl ?_
              refine zs_lload (pc := 140) t282_140 rfl ?_
              obtain ⟨w9v, w9⟩ : ∃ v, w6x2 * w6x8 = v := ⟨_, rfl⟩
              have w9g := zrg64 w9v
              refine zs_lmul (pc := 142) t282_142 (c := w9v) w9 ?_
              refine zs_lload (pc := 143) t282_143 rfl ?_
              refine zs_lload (pc := 145) t282_145 rfl ?_
              obtain ⟨w10v, w10⟩ : ∃ v, w6x4 * w6x4 = v := ⟨_, rfl⟩
              have w10g := zrg64 w10v
              refine zs_lmul (pc := 147) t282_147 (c := w10v) w10 ?_
              obtain ⟨w11v, w11⟩ : ∃ v, w9v - w10v = v := ⟨_, rfl⟩
              have w11g := zrg64 w11v
              refine zs_lsub (pc := 148) t282_148 (c := w11v) w11 ?_
              have w12 : zIv mLo mHi (zsJ w1M 351 w5n w11v) := w1I
              refine zs_last (pc := 149) t282_149 (j := w5n) (zk1 (w1s.k fk_zMm_351)) (show w1x1.toInt = ((w5n : Nat) : Int) by omega) (zk2 (w1s.k fk_zMm_351) (by omega)) ?_
              refine zs_aload_n (pc := 150) t282_150 rfl ?_
              refine zs_get (pc := 151) t282_151 (by decide) (zk1 (w1s.k fk_zMm_336)) (w1s.p rfl fv_zMm_336_30) ?_
              refine zs_iload_n (pc := 154) t282_154 rfl ?_
              refine zs_lload (pc := 155) t282_155 rfl ?_
              refine zs_lload (pc := 157) t282_157 rfl ?_
              obtain ⟨w13v, w13⟩ : ∃ v, w6x8 * w6x6 = v := ⟨_, rfl⟩
              have w13g := zrg64 w13v
              refine zs_lmul (pc := 159) t282_159 (c := w13v) w13 ?_
              refine zs_lload (pc := 160) t282_160 rfl ?_
              refine zs_lload (pc := 162) t282_162 rfl ?_
              obtain ⟨w14v, w14⟩ : ∃ v, w6x4 * w6x10 = v := ⟨_, rfl⟩
              have w14g := zrg64 w14v
              refine zs_lmul (pc := 164) t282_164 (c := w14v) w14 ?_
              obtain ⟨w15v, w15⟩ : ∃ v, w13v - w14v = v := ⟨_, rfl⟩
              have w15g := zrg64 w15v
              refine zs_lsub (pc := 165) t282_165 (c := w15v) w15 ?_
              have w16 : zIv mLo mHi (zsJ (zsJ w1M 351 w5n w11v) 352 w5n w15v) := w12
              refine zs_last (pc := 166) t282_166 (j := w5n) (zk1 (w1s.k fk_zMm_352)) (show w1x1.toInt = ((w5n : Nat) : Int) by omega) (zk2 (w1s.k fk_zMm_352) (by omega)) ?_
              refine zs_aload_n (pc := 167) t282_167 rfl ?_
              refine zs_get (pc := 168) t282_168 (by decide) (zk1 (w1s.k fk_zMm_336)) (w1s.p rfl fv_zMm_336_31) ?_
              refine zs_iload_n (pc := 171) t282_171 rfl ?_
              refine zs_lload_n (pc := 172) t282_172 rfl ?_
              refine zs_lload (pc := 173) t282_173 rfl ?_
              obtain ⟨w17v, w17⟩ : ∃ v, w6x2 * w6x10 = v := ⟨_, rfl⟩
              have w17g := zrg64 w17v
              refine zs_lmul (pc := 175) t282_175 (c := w17v) w17 ?_
              refine zs_lload (pc := 176) t282_176 rfl ?_
              refine zs_lload (pc := 178) t282_178 rfl ?_
              obtain ⟨w18v, w18⟩ : ∃ v, w6x4 * w6x6 = v := ⟨_, rfl⟩
              have w18g := zrg64 w18v
              refine zs_lmul (pc := 180) t282_180 (c := w18v) w18 ?_
              obtain ⟨w19v, w19⟩ : ∃ v, w17v - w18v = v := ⟨_, rfl⟩
              have w19g := zrg64 w19v
              refine zs_lsub (pc := 181) t282_181 (c := w19v) w19 ?_
              have w20 : zIv mLo mHi (zsJ (zsJ (zsJ w1M 351 w5n w11v) 352 w5n w15v) 353 w5n w19v) := w16
              refine zs_last (pc := 182) t282_182 (j := w5n) (zk1 (w1s.k fk_zMm_353)) (show w1x1.toInt = ((w5n : Nat) : Int) by omega) (zk2 (w1s.k fk_zMm_353) (by omega)) ?_
              refine zs_aload_n (pc := 183) t282_183 rfl ?_
              refine zs_get (pc := 184) t282_184 (by decide) (zk1 (w1s.k fk_zMm_336)) (w1s.p rfl fv_zMm_336_32) ?_
              refine zs_iload_n (pc := 187) t282_187 rfl ?_
              refine zs_lload (pc := 188) t282_188 rfl ?_
              refine zs_aload_n (pc := 190) t282_190 rfl ?_
              refine zs_get (pc := 191) t282_191 (by decide) (zk1 (w1s.k fk_zMm_336)) (w1s.p rfl fv_zMm_336_29) ?_
              refine zs_iload_n (pc := 194) t282_194 rfl ?_
              refine zs_lald (pc := 195) t282_195 (j := w5n) (zk1 (w1s.k fk_zMm_351)) (show w1x1.toInt = ((w5n : Nat) : Int) by omega) (zk2 (w1s.k fk_zMm_351) (by omega)) ((congrFun (zJo (by decide)) _).trans ((congrFun (zJo (by decide)) _).trans zJs)) ?_
              obtain ⟨w21v, w21⟩ : ∃ v, w6x12 * w11v = v := ⟨_, rfl⟩
              have w21g := zrg64 w21v
              refine zs_lmul (pc := 196) t282_196 (c := w21v) w21 ?_
              refine zs_lload (pc := 197) t282_197 rfl ?_
              refine zs_lload (pc := 199) t282_199 rfl ?_
              obtain ⟨w22v, w22⟩ : ∃ v, w6x8 * w6x6 = v := ⟨_, rfl⟩
              have w22g := zrg64 w22v
              refine zs_lmul (pc := 201) t282_201 (c := w22v) w22 ?_
              refine zs_lload (pc := 202) t282_202 rfl ?_
              obtain ⟨w23v, w23⟩ : ∃ v, w22v * w6x6 = v := ⟨_, rfl⟩
              have w23g := zrg64 w23v
              refine zs_lmul (pc := 204) t282_204 (c := w23v) w23 ?_
              obtain ⟨w24v, w24⟩ : ∃ v, w21v - w23v = v := ⟨_, rfl⟩
              have w24g := zrg64 w24v
              refine zs_lsub (pc := 205) t282_205 (c := w24v) w24 ?_
              refine zs_ldc2_w (pc := 206) t282_206 (v := 2) (by decide) ?_
              refine zs_lload (pc := 209) t282_209 rfl ?_
              obtain ⟨w25v, w25⟩ : ∃ v, (2 : Int64) * w6x4 = v := ⟨_, rfl⟩
              have w25g := zrg64 w25v
              refine zs_lmul (pc := 211) t282_211 (c := w25v) w25 ?_
              refine zs_lload (pc := 212) t282_212 rfl ?_
              obtain ⟨w26v, w26⟩ : ∃ v, w25v * w6x6 = v := ⟨_, rfl⟩
              have w26g := zrg64 w26v
              refine zs_lmul (pc := 214) t282_214 (c := w26v) w26 ?_
              refine zs_lload (pc := 215) t282_215 rfl ?_
              obtain ⟨w27v, w27⟩ : ∃ v, w26v * w6x10 = v := ⟨_, rfl⟩
              have w27g := zrg64 w27v
              refine zs_lmul (pc := 217) t282_217 (c := w27v) w27 ?_
              obtain ⟨w28v, w28⟩ : ∃ v, w24v + w27v = v := ⟨_, rfl⟩
              have w28g := zrg64 w28v
              refine zs_ladd (pc := 218) t282_218 (c := w28v) w28 ?_
              refine zs_lload_n (pc := 219) t282_219 rfl ?_
              refine zs_lload (pc := 220) t282_220 rfl ?_
              obtain ⟨w29v, w29⟩ : ∃ v, w6x2 * w6x10 = v := ⟨_, rfl⟩
              have w29g := zrg64 w29v
              refine zs_lmul (pc := 222) t282_222 (c := w29v) w29 ?_
              refine zs_lload (pc := 223) t282_223 rfl ?_
              obtain ⟨w30v, w30⟩ : ∃ v, w29v * w6x10 = v := ⟨_, rfl⟩
              have w30g := zrg64 w30v
              refine zs_lmul (pc := 225) t282_225 (c := w30v) w30 ?_
              obtain ⟨w31v, w31⟩ : ∃ v, w28v - w30v = v := ⟨_, rfl⟩
              have w31g := zrg64 w31v
              refine zs_lsub (pc := 226) t282_226 (c := w31v) w31 ?_
              have w32 : zIv mLo mHi (zsJ (zsJ (zsJ (zsJ w1M 351 w5n w11v) 352 w5n w15v) 353 w5n w19v) 354 w5n w31v) := w20
              refine zs_last (pc := 227) t282_227 (j := w5n) (zk1 (w1s.k fk_zMm_354)) (show w1x1.toInt = ((w5n : Nat) : Int) by omega) (zk2 (w1s.k fk_zMm_354) (by omega)) ?_
              obtain ⟨w33v, w33e, w33⟩ := ziadd (a := w1x1) (b := Int32.ofInt 1) rfl (show (Int32.ofInt 1).toInt = 1 by decide) (by omega) (by omega)
              refine zs_iinc (pc := 228) t282_228 (ls' := [(1, .int w33v), (0, .ref 336), (2, .long w6x2), (4, .long w6x4), (6, .long w6x6), (8, .long w6x8), (10, .long w6x10), (12, .long w6x12), (14, .int w6x14)]) (zml mf282 (by decide)) rfl (c := w33v) w33e rfl ?_
              refine zs_goto (pc := 231) t282_231 ?_
              refine zGo.locals (ls' := [(0, .ref 336), (1, .int w33v)]) (by simp) ?_
              have w34 := w33
              have w35 := zSu.pos w6t0 (pT w5n (by omega)) (by omega)
              have w35z0 := w6t0.1
              have w35z1 := w6t0.2.1
              have w35z2 := w6t0.2.2.1
              have w35d := zDv (by omega) (by omega) (by omega) w9 w10 w11
              exact w1ih (w1m - 1) (by omega) w33v (zsJ (zsJ (zsJ (zsJ w1M 351 w5n w11v) 352 w5n w15v) 353 w5n w19v) 354 w5n w31v) ⟨by omega, by omega⟩ w1s w32 ((((((zFr.refl).trans (w1F.mono rfl)).J).J).J).J) (zDs.step (k := w5n) w1t0 (by omega) (by omega) (by omega)) (by omega)
            · refine zs_icmp_geF (pc := 38) t282_38 rfl rfl (by omega) ?_
              refine zs_aload_n (pc := 41) t282_41 rfl ?_
              refine zs_get (pc := 42) t282_42 (by decide) (zk1 (w1s.k fk_zMm_336)) (w1s.p rfl fv_zMm_336_27) ?_
              refine zs_bipush (pc := 45) t282_45 (v := 8) (by decide) ?_
              refine zs_iload_n (pc := 47) t282_47 rfl ?_
              obtain ⟨w36v, w36⟩ : ∃ v, (8 : Int32) * w1x1 = v := ⟨_, rfl⟩
              have w36g : w36v.toInt = 8 * w1x1.toInt := by rw [← w36]; exact zmulc li8 rfl (by omega) (by omega)
              refine zs_imul (pc := 48) t282_48 (c := w36v) w36 ?_
              refine zs_iload (pc := 49) t282_49 rfl ?_
              obtain ⟨w37v, w37e, w37⟩ := ziadd (a := w36v) (b := w6x14) w36g rfl (by omega) (by omega)
              refine zs_iadd (pc := 51) t282_51 (c := w37v) w37e ?_
              obtain ⟨w38n, w38⟩ : ∃ n : Nat, w6x14.toInt = (n : Int) := ⟨(w6x14.toInt).toNat, by omega⟩
              have w39 := ib349 hI (8 * w5n + w38n)
              refine zs_iald (pc := 52) t282_52 (j := (8 * w5n + w38n)) (by decide) (zk1 (w1s.k fk_zMm_349)) (show w37v.toInt = (((8 * w5n + w38n) : Nat) : Int) by omega) (zk2 (w1s.k fk_zMm_349) (by omega)) ((w1F 349 (8 * w5n + w38n) rfl).trans rfl) ?_
              refine zs_bipush (pc := 53) t282_53 (v := -2) (by decide) ?_
              by_cases w40 : (zI M 349 (8 * w5n + w38n)).toInt ≠ (-2)
              · refine zs_icmp_neT (pc := 55) t282_55 rfl lin2 (by omega) ?_
                refine zs_aload_n (pc := 61) t282_61 rfl ?_
                refine zs_iload (pc := 62) t282_62 rfl ?_
                refine zs_invV (pc := 64) (k := 336) (as' := [.int w6x14]) (st := []) t282_64 mf241 rfl rfl (Or.inl ⟨by decide, (zk1 (w1s.k fk_zMm_336))⟩) ⟨by decide, by decide, Nat.le_of_ble_eq_true rfl, Nat.le_of_ble_eq_true rfl⟩ (zs_in (by decide) mf241 (Nat.le_of_ble_eq_true rfl) ?_) (fun _ _ q => q)
                show zGo X l 0 0 0 241 0 [(0, .ref 336), (1, .int w6x14)] [] w1M _
                refine zs_aload_n (pc := 0) t241_0 rfl ?_
                refine zs_get (pc := 1) t241_1 (by decide) (zk1 (w1s.k fk_zMm_336)) (w1s.p rfl fv_zMm_336_0) ?_
                refine zs_bipush (pc := 4) t241_4 (v := 14) (by decide) ?_
                refine zs_iconst (pc := 6) t241_6 (v := 2) (by decide) ?_
                refine zs_iload_n (pc := 7) t241_7 rfl ?_
                obtain ⟨w41v, w41⟩ : ∃ v, (2 : Int32) * w6x14 = v := ⟨_, rfl⟩
                have w41g : w41v.toInt = 2 * w6x14.toInt := by rw [← w41]; exact zmulc li2 rfl (by omega) (by omega)
                refine zs_imul (pc := 8) t241_8 (c := w41v) w41 ?_
                obtain ⟨w42v, w42e, w42⟩ := ziadd (a := (14 : Int32)) (b := w41v) li14 w41g (by omega) (by omega)
                refine zs_iadd (pc := 9) t241_9 (c := w42v) w42e ?_
                have w43 := ibX (j := (14 + 2 * w38n)) hI (by omega) (by omega) (by omega)
                refine zs_iald (pc := 10) t241_10 (j := (14 + 2 * w38n)) (by decide) (zk1 (w1s.k fk_zMm_337)) (show w42v.toInt = (((14 + 2 * w38n) : Nat) : Int) by omega) (zk2 (w1s.k fk_zMm_337) (by omega)) ((w1F 337 (14 + 2 * w38n) rfl).trans rfl) ?_
                refine zs_iret (pc := 11) t241_11 mr241 rfl ?_
                show zGo X l 3 0 0 282 67 [(0, .ref 336), (1, .int w1x1), (2, .long w6x2), (4, .long w6x4), (6, .long w6x6), (8, .long w6x8), (10, .long w6x10), (12, .long w6x12), (14, .int w6x14)] [.int (zI M 337 (14 + 2 * w38n))] w1M _
                refine zs_i2l (pc := 67) t282_67 rfl ?_
                refine zs_lstore (pc := 68) t282_68 (ls' := [(15, .long (zI M 337 (14 + 2 * w38n)).toInt64), (0, .ref 336), (1, .int w1x1), (2, .long w6x2), (4, .long w6x4), (6, .long w6x6), (8, .long w6x8), (10, .long w6x10), (12, .long w6x12), (14, .int w6x14)]) (zml mf282 (by decide)) rfl ?_
                refine zs_aload_n (pc := 70) t282_70 rfl ?_
                refine zs_iload_n (pc := 71) t282_71 rfl ?_
                refine zs_iload (pc := 72) t282_72 rfl ?_
                refine zs_invV (pc := 74) (k := 336) (as' := [.int w1x1, .int w6x14]) (st := []) t282_74 mf283 rfl rfl (Or.inl ⟨by decide, (zk1 (w1s.k fk_zMm_336))⟩) ⟨by decide, by decide, Nat.le_of_ble_eq_true rfl, Nat.le_of_ble_eq_true rfl⟩ (K283 w1s w1I ⟨by omega, by omega⟩ ⟨by omega, by omega⟩ ?_) (fun _ _ q => q)
                intro w44v
                have w44g := zrg w44v
                show zGo X l 3 0 0 282 77 [(15, .long (zI M 337 (14 + 2 * w38n)).toInt64), (0, .ref 336), (1, .int w1x1), (2, .long w6x2), (4, .long w6x4), (6, .long w6x6), (8, .long w6x8), (10, .long w6x10), (12, .long w6x12), (14, .int w6x14)] [.int w44v] w1M _
                refine zs_i2l (pc := 77) t282_77 rfl ?_
                refine zs_lstore (pc := 78) t282_78 (ls' := [(17, .long w44v.toInt64), (15, .long (zI M 337 (14 + 2 * w38n)).toInt64), (0, .ref 336), (1, .int w1x1), (2, .long w6x2), (4, .long w6x4), (6, .long w6x6), (8, .long w6x8), (10, .long w6x10), (12, .long w6x12), (14, .int w6x14)]) (zml mf282 (by decide)) rfl ?_
                refine zs_lload_n (pc := 80) t282_80 rfl ?_
                refine zs_lconst (pc := 81) t282_81 (v := 1) (by decide) ?_
                obtain ⟨w45v, w45⟩ : ∃ v, w6x2 + (1 : Int64) = v := ⟨_, rfl⟩
                have w45g := zrg64 w45v
                refine zs_ladd (pc := 82) t282_82 (c := w45v) w45 ?_
                refine zs_lstore_n (pc := 83) t282_83 (ls' := [(2, .long w45v), (17, .long w44v.toInt64), (15, .long (zI M 337 (14 + 2 * w38n)).toInt64), (0, .ref 336), (1, .int w1x1), (4, .long w6x4), (6, .long w6x6), (8, .long w6x8), (10, .long w6x10), (12, .long w6x12), (14, .int w6x14)]) (zml mf282 (by decide)) rfl ?_
                refine zs_lload (pc := 84) t282_84 rfl ?_
                refine zs_lload (pc := 86) t282_86 rfl ?_
                obtain ⟨w46v, w46⟩ : ∃ v, w6x4 + (zI M 337 (14 + 2 * w38n)).toInt64 = v := ⟨_, rfl⟩
                have w46g := zrg64 w46v
                refine zs_ladd (pc := 88) t282_88 (c := w46v) w46 ?_
                refine zs_lstore (pc := 89) t282_89 (ls' := [(4, .long w46v), (2, .long w45v), (17, .long w44v.toInt64), (15, .long (zI M 337 (14 + 2 * w38n)).toInt64), (0, .ref 336), (1, .int w1x1), (6, .long w6x6), (8, .long w6x8), (10, .long w6x10), (12, .long w6x12), (14, .int w6x14)]) (zml mf282 (by decide)) rfl ?_
                refine zs_lload (pc := 91) t282_91 rfl ?_
                refine zs_lload (pc := 93) t282_93 rfl ?_
                obtain ⟨w47v, w47⟩ : ∃ v, w6x6 + w44v.toInt64 = v := ⟨_, rfl⟩
                have w47g := zrg64 w47v
                refine zs_ladd (pc := 95) t282_95 (c := w47v) w47 ?_
                refine zs_lstore (pc := 96) t282_96 (ls' := [(6, .long w47v), (4, .long w46v), (2, .long w45v), (17, .long w44v.toInt64), (15, .long (zI M 337 (14 + 2 * w38n)).toInt64), (0, .ref 336), (1, .int w1x1), (8, .long w6x8), (10, .long w6x10), (12, .long w6x12), (14, .int w6x14)]) (zml mf282 (by decide)) rfl ?_
                refine zs_lload (pc := 98) t282_98 rfl ?_
                refine zs_lload (pc := 100) t282_100 rfl ?_
                refine zs_lload (pc := 102) t282_102 rfl ?_
                obtain ⟨w48v, w48⟩ : ∃ v, (zI M 337 (14 + 2 * w38n)).toInt64 * (zI M 337 (14 + 2 * w38n)).toInt64 = v := ⟨_, rfl⟩
                have w48g := zrg64 w48v
                refine zs_lmul (pc := 104) t282_104 (c := w48v) w48 ?_
                obtain ⟨w49v, w49⟩ : ∃ v, w6x8 + w48v = v := ⟨_, rfl⟩
                have w49g := zrg64 w49v
                refine zs_ladd (pc := 105) t282_105 (c := w49v) w49 ?_
                refine zs_lstore (pc := 106) t282_106 (ls' := [(8, .long w49v), (6, .long w47v), (4, .long w46v), (2, .long w45v), (17, .long w44v.toInt64), (15, .long (zI M 337 (14 + 2 * w38n)).toInt64), (0, .ref 336), (1, .int w1x1), (10, .long w6x10), (12, .long w6x12), (14, .int w6x14)]) (zml mf282 (by decide)) rfl ?_
                refine zs_lload (pc := 108) t282_108 rfl ?_
                refine zs_lload (pc := 110) t282_110 rfl ?_
                refine zs_lload (pc := 112) t282_112 rfl ?_
                obtain ⟨w50v, w50⟩ : ∃ v, (zI M 337 (14 + 2 * w38n)).toInt64 * w44v.toInt64 = v := ⟨_, rfl⟩
                have w50g := zrg64 w50v
                refine zs_lmul (pc := 114) t282_114 (c := w50v) w50 ?_
                obtain ⟨w51v, w51⟩ : ∃ v, w6x10 + w50v = v := ⟨_, rfl⟩
                have w51g := zrg64 w51v
                refine zs_ladd (pc := 115) t282_115 (c := w51v) w51 ?_
                refine zs_lstore (pc := 116) t282_116 (ls' := [(10, .long w51v), (8, .long w49v), (6, .long w47v), (4, .long w46v), (2, .long w45v), (17, .long w44v.toInt64), (15, .long (zI M 337 (14 + 2 * w38n)).toInt64), (0, .ref 336), (1, .int w1x1), (12, .long w6x12), (14, .int w6x14)]) (zml mf282 (by decide)) rfl ?_
                refine zs_lload (pc := 118) t282_118 rfl ?_
                refine zs_lload (pc := 120) t282_120 rfl ?_
                refine zs_lload (pc := 122) t282_122 rfl ?_
                obtain ⟨w52v, w52⟩ : ∃ v, w44v.toInt64 * w44v.toInt64 = v := ⟨_, rfl⟩
                have w52g := zrg64 w52v
                refine zs_lmul (pc := 124) t282_124 (c := w52v) w52 ?_
                obtain ⟨w53v, w53⟩ : ∃ v, w6x12 + w52v = v := ⟨_, rfl⟩
                have w53g := zrg64 w53v
                refine zs_ladd (pc := 125) t282_125 (c := w53v) w53 ?_
                refine zs_lstore (pc := 126) t282_126 (ls' := [(12, .long w53v), (10, .long w51v), (8, .long w49v), (6, .long w47v), (4, .long w46v), (2, .long w45v), (17, .long w44v.toInt64), (15, .long (zI M 337 (14 + 2 * w38n)).toInt64), (0, .ref 336), (1, .int w1x1), (14, .int w6x14)]) (zml mf282 (by decide)) rfl ?_
                obtain ⟨w54v, w54e, w54⟩ := ziadd (a := w6x14) (b := Int32.ofInt 1) rfl (show (Int32.ofInt 1).toInt = 1 by decide) (by omega) (by omega)
                refine zs_iinc (pc := 128) t282_128 (ls' := [(14, .int w54v), (12, .long w53v), (10, .long w51v), (8, .long w49v), (6, .long w47v), (4, .long w46v), (2, .long w45v), (17, .long w44v.toInt64), (15, .long (zI M 337 (14 + 2 * w38n)).toInt64), (0, .ref 336), (1, .int w1x1)]) (zml mf282 (by decide)) rfl (c := w54v) w54e rfl ?_
                refine zs_goto (pc := 131) t282_131 ?_
                refine zGo.locals (ls' := [(0, .ref 336), (1, .int w1x1), (2, .long w45v), (4, .long w46v), (6, .long w47v), (8, .long w49v), (10, .long w51v), (12, .long w53v), (14, .int w54v)]) (by simp) ?_
                have w55 := w54
                have w6z0 := w6t0.1
                have w6z1 := w6t0.2.1
                have w6z2 := w6t0.2.2.1
                have w56 : w45v.toInt = w6x2.toInt + 1 := by rw [← w45]; exact zladd rfl ll1 (by omega) (by omega)
                have w57 : w46v.toInt = w6x4.toInt + (zI M 337 (14 + 2 * w38n)).toInt := by rw [← w46]; exact zladd rfl (zi2l rfl) (by omega) (by omega)
                have w59b := zml2 (show 0 ≤ (zI M 337 (14 + 2 * w38n)).toInt by omega) (show (zI M 337 (14 + 2 * w38n)).toInt ≤ 999 by omega) (show 0 ≤ (zI M 337 (14 + 2 * w38n)).toInt by omega) (show (zI M 337 (14 + 2 * w38n)).toInt ≤ 999 by omega)
                have w59 : w48v.toInt = (zI M 337 (14 + 2 * w38n)).toInt * (zI M 337 (14 + 2 * w38n)).toInt := by rw [← w48]; exact zlmul (zi2l rfl) (zi2l rfl) (by omega) (by omega)
                have w58 : w49v.toInt = w6x8.toInt + (zI M 337 (14 + 2 * w38n)).toInt * (zI M 337 (14 + 2 * w38n)).toInt := by rw [← w49]; exact zladd rfl w59 (by omega) (by omega)
                exact w6ih (w6m - 1) (by omega) w45v w46v w47v w49v w51v w53v w54v ⟨by omega, by omega⟩ (zSu.add (k := w38n) (x := (zI M 337 (14 + 2 * w38n)).toInt) w6t0 (by omega) (by omega) rfl (by omega) (fun a ha => zPR.up pR (by omega) a (by omega)) w56 w57 w58) (by omega)
              · refine zs_icmp_neF (pc := 55) t282_55 rfl lin2 (by omega) ?_
                refine zs_goto (pc := 58) t282_58 ?_
                obtain ⟨w60v, w60e, w60⟩ := ziadd (a := w6x14) (b := Int32.ofInt 1) rfl (show (Int32.ofInt 1).toInt = 1 by decide) (by omega) (by omega)
                refine zs_iinc (pc := 128) t282_128 (ls' := [(14, .int w60v), (0, .ref 336), (1, .int w1x1), (2, .long w6x2), (4, .long w6x4), (6, .long w6x6), (8, .long w6x8), (10, .long w6x10), (12, .long w6x12)]) (zml mf282 (by decide)) rfl (c := w60v) w60e rfl ?_
                refine zs_goto (pc := 131) t282_131 ?_
                refine zGo.locals (ls' := [(0, .ref 336), (1, .int w1x1), (2, .long w6x2), (4, .long w6x4), (6, .long w6x6), (8, .long w6x8), (10, .long w6x10), (12, .long w6x12), (14, .int w60v)]) (by simp) ?_
                have w61 := w60
                exact w6ih (w6m - 1) (by omega) w6x2 w6x4 w6x6 w6x8 w6x10 w6x12 w60v ⟨by omega, by omega⟩ (zSu.skip (k := w38n) w6t0 (by omega) (by omega) (by omega)) (by omega)
        refine zGo.locals (ls' := [(0, .ref 336), (1, .int w1x1), (2, .long (0 : Int64)), (4, .long (0 : Int64)), (6, .long (0 : Int64)), (8, .long (0 : Int64)), (10, .long (0 : Int64)), (12, .long (0 : Int64)), (14, .int (0 : Int32))]) (by simp) ?_
        have w62 := ll0
        have w63 := ll0
        have w64 := ll0
        have w65 := ll0
        have w66 := ll0
        have w67 := ll0
        have w68 := li0
        exact w6L ((8 - 0 : Int).toNat) (0 : Int64) (0 : Int64) (0 : Int64) (0 : Int64) (0 : Int64) (0 : Int64) (0 : Int32) ⟨by decide, by decide⟩ (zSu.nil (by decide) (by decide) (by decide) (by decide)) (by omega)
  refine zGo.locals (ls' := [(0, .ref 336), (1, .int (0 : Int32))]) (by simp) ?_
  have w69 := li0
  exact w1L ((20 - 0 : Int).toNat) (0 : Int32) M ⟨by decide, by decide⟩ hs hI zFr.refl (fun i hi => absurd hi (by omega)) (by omega)
theorem K284 {X : zX} {l : Launch} {M : zM} {Q : Option Value → zM → Prop} (hs : zSk zMm M) (hI : zIv mLo mHi M) (pD : zPD M) (hQ : ∀ M', zSk zMm M' → zIv mLo mHi M' → zFr [(358, 358, none), (336, 336, some 37), (356, 356, none), (355, 355, none)] M M' → zJ M' 351 = zJ M 351 → zPV M' → Q none M') : zCall X l 2 0 0 284 [.ref 336] M Q := by
  refine zs_in (by decide) mf284 (Nat.le_of_ble_eq_true rfl) ?_
  show zGo X l 2 0 0 284 0 [(0, .ref 336)] [] M _
  refine zs_iconst (pc := 0) t284_0 (v := 0) (by decide) ?_
  refine zs_istore_n (pc := 1) t284_1 (ls' := [(1, .int (0 : Int32)), (0, .ref 336)]) (zml mf284 (by decide)) rfl ?_
  have w1L : ∀ (m : Nat) (w1x1 : Int32) (w1M : zM), (0 ≤ w1x1.toInt ∧ w1x1.toInt ≤ 20) → zSk zMm w1M → zIv mLo mHi w1M → zFr [(358, 358, none)] M w1M → zJ w1M 351 = zJ M 351 → (zBs w1M w1x1.toInt (zI M 336 22).toInt) → 20 - w1x1.toInt ≤ (m : Int) → zGo X l 2 0 0 284 2 [(0, .ref 336), (1, .int w1x1)] [] w1M Q := by
    intro m
    induction m using Nat.strongRecOn with
    | ind w1m w1ih =>
      intro w1x1 w1M w1b1 w1s w1I w1F w1J w1t0 w1q
      refine zs_iload_n (pc := 2) t284_2 rfl ?_
      refine zs_aload_n (pc := 3) t284_3 rfl ?_
      have w2 := ib336_22 hI
      refine zs_get (pc := 4) t284_4 (by decide) (zk1 (w1s.k fk_zMm_336)) (zfvi rfl ((w1F 336 22 rfl).trans rfl)) ?_
      by_cases w3 : (zI M 336 22).toInt ≤ w1x1.toInt
      · refine zs_icmp_geT (pc := 7) t284_7 rfl rfl (by omega) ?_
        refine zs_aload_n (pc := 69) t284_69 rfl ?_
        refine zs_iconst (pc := 70) t284_70 (v := 0) (by decide) ?_
        have w4 : zIv mLo mHi (zsI w1M 336 37 (0 : Int32)) := zIv.put w1I (show 0 ≤ (0 : Int32).toInt ∧ (0 : Int32).toInt ≤ 20 from ⟨by decide, by decide⟩)
        refine zs_putI (pc := 71) t284_71 (zk1 (w1s.k fk_zMm_336)) rfl ?_
        refine zs_iconst (pc := 74) t284_74 (v := 0) (by decide) ?_
        refine zs_istore_n (pc := 75) t284_75 (ls' := [(1, .int (0 : Int32)), (0, .ref 336)]) (zml mf284 (by decide)) rfl ?_
        have w5L : ∀ (m : Nat) (w5x1 : Int32) (w5M : zM), (0 ≤ w5x1.toInt ∧ w5x1.toInt ≤ 20) → zSk zMm w5M → zIv mLo mHi w5M → zFr [(336, 336, some 37), (356, 356, none), (355, 355, none)] (zsI w1M 336 37 (0 : Int32)) w5M → zJ w5M 351 = zJ (zsI w1M 336 37 (0 : Int32)) 351 → ((zI w5M 336 37).toInt ≤ w5x1.toInt) → (w5x1.toInt ≤ 20 * (zI w5M 336 37).toInt) → (zVm w5M w5x1.toInt) → 20 - w5x1.toInt ≤ (m : Int) → zGo X l 2 0 0 284 76 [(0, .ref 336), (1, .int w5x1)] [] w5M Q := by
          intro m
          induction m using Nat.strongRecOn with
          | ind w5m w5ih =>
            intro w5x1 w5M w5b1 w5s w5I w5F w5J w5r0 w5r1 w5t0 w5q
            have w6 := ib336_37 w5I
            refine zs_iload_n (pc := 76) t284_76 rfl ?_
            refine zs_aload_n (pc := 77) t284_77 rfl ?_
            refine zs_get (pc := 78) t284_78 (by decide) (zk1 (w5s.k fk_zMm_336)) (zfvi rfl ((w5F 336 22 rfl).trans ((zIoj (by decide)).trans ((w1F 336 22 rfl).trans rfl)))) ?_
            by_cases w7 : (zI M 336 22).toInt ≤ w5x1.toInt
            · refine zs_icmp_geT (pc := 81) t284_81 rfl rfl (by omega) ?_
              exact zs_vret (pc := 214) t284_214 mr284 (hQ _ w5s w5I ((((zFr.refl).trans (w1F.mono rfl)).put rfl).trans (w5F.mono rfl)) (w5J.trans w1J) (zPV.of w5t0))
            · refine zs_icmp_geF (pc := 81) t284_81 rfl rfl (by omega) ?_
              refine zs_iload_n (pc := 84) t284_84 rfl ?_
              by_cases w8 : w5x1.toInt = 0
              · refine zs_if_eqT (pc := 85) t284_85 rfl (by omega) ?_
                refine zs_aload_n (pc := 121) t284_121 rfl ?_
                refine zs_get (pc := 122) t284_122 (by decide) (zk1 (w5s.k fk_zMm_336)) (w5s.p rfl fv_zMm_336_34) ?_
                refine zs_aload_n (pc := 125) t284_125 rfl ?_
                refine zs_get (pc := 126) t284_126 (by decide) (zk1 (w5s.k fk_zMm_336)) (zfvi rfl rfl) ?_
                refine zs_iconst (pc := 129) t284_129 (v := 0) (by decide) ?_
                obtain ⟨w9n, w9⟩ : ∃ n : Nat, (zI w5M 336 37).toInt = (n : Int) := ⟨((zI w5M 336 37).toInt).toNat, by omega⟩
                have w10 : zIv mLo mHi (zsI w5M 356 w9n (0 : Int32)) := zIv.put w5I (show (-2147483648) ≤ (0 : Int32).toInt ∧ (0 : Int32).toInt ≤ 2147483647 from zrg (0 : Int32))
                refine zs_iast (pc := 130) t284_130 (j := w9n) (by decide) (zk1 (w5s.k fk_zMm_356)) (show (zI w5M 336 37).toInt = ((w9n : Nat) : Int) by omega) (zk2 (w5s.k fk_zMm_356) (by omega)) ?_
                refine zs_aload_n (pc := 131) t284_131 rfl ?_
                refine zs_get (pc := 132) t284_132 (by decide) (zk1 (w5s.k fk_zMm_336)) (w5s.p rfl fv_zMm_336_35) ?_
                refine zs_aload_n (pc := 135) t284_135 rfl ?_
                refine zs_get (pc := 136) t284_136 (by decide) (zk1 (w5s.k fk_zMm_336)) (zfvi rfl ((zIo (by decide)).trans rfl)) ?_
                refine zs_lconst (pc := 139) t284_139 (v := 0) (by decide) ?_
                have w11 : zIv mLo mHi (zsJ (zsI w5M 356 w9n (0 : Int32)) 357 w9n (0 : Int64)) := w10
                refine zs_last (pc := 140) t284_140 (j := w9n) (zk1 (w5s.k fk_zMm_357)) (show (zI w5M 336 37).toInt = ((w9n : Nat) : Int) by omega) (zk2 (w5s.k fk_zMm_357) (by omega)) ?_
                refine zs_aload_n (pc := 141) t284_141 rfl ?_
                refine zs_dup (pc := 142) t284_142 rfl ?_
                refine zs_get (pc := 143) t284_143 (by decide) (zk1 (w5s.k fk_zMm_336)) (zfvi rfl (zIJ.trans ((zIo (by decide)).trans rfl))) ?_
                refine zs_iconst (pc := 146) t284_146 (v := 1) (by decide) ?_
                obtain ⟨w12v, w12e, w12⟩ := ziadd (a := (zI w5M 336 37)) (b := (1 : Int32)) rfl li1 (by omega) (by omega)
                refine zs_iadd (pc := 147) t284_147 (c := w12v) w12e ?_
                have w13 : zIv mLo mHi (zsI (zsJ (zsI w5M 356 w9n (0 : Int32)) 357 w9n (0 : Int64)) 336 37 w12v) := zIv.put w11 (show 0 ≤ w12v.toInt ∧ w12v.toInt ≤ 20 from ⟨by omega, by omega⟩)
                refine zs_putI (pc := 148) t284_148 (zk1 (w5s.k fk_zMm_336)) rfl ?_
                refine zs_aload_n (pc := 151) t284_151 rfl ?_
                refine zs_get (pc := 152) t284_152 (by decide) (zk1 (w5s.k fk_zMm_336)) (w5s.p rfl fv_zMm_336_33) ?_
                refine zs_aload_n (pc := 155) t284_155 rfl ?_
                refine zs_get (pc := 156) t284_156 (by decide) (zk1 (w5s.k fk_zMm_336)) (w5s.p rfl fv_zMm_336_36) ?_
                refine zs_iload_n (pc := 159) t284_159 rfl ?_
                obtain ⟨w14n, w14⟩ : ∃ n : Nat, w5x1.toInt = (n : Int) := ⟨(w5x1.toInt).toNat, by omega⟩
                have w15 := ib358 w1I w14n
                have w16 := w1t0 (w14n) (by omega)
                refine zs_iald (pc := 160) t284_160 (j := w14n) (by decide) (zk1 (w5s.k fk_zMm_358)) (show w5x1.toInt = ((w14n : Nat) : Int) by omega) (zk2 (w5s.k fk_zMm_358) (by omega)) ((zIo (by decide)).trans (zIJ.trans ((zIo (by decide)).trans ((w5F 358 w14n rfl).trans ((zIo (by decide)).trans rfl))))) ?_
                refine zs_aload_n (pc := 161) t284_161 rfl ?_
                refine zs_get (pc := 162) t284_162 (by decide) (zk1 (w5s.k fk_zMm_336)) (zfvi rfl zIs) ?_
                refine zs_iconst (pc := 165) t284_165 (v := 1) (by decide) ?_
                obtain ⟨w17v, w17e, w17⟩ := zisub (a := w12v) (b := (1 : Int32)) w12 li1 (by omega) (by omega)
                refine zs_isub (pc := 166) t284_166 (c := w17v) w17e ?_
                obtain ⟨w18n, w18⟩ : ∃ n : Nat, (zI w1M 358 w14n).toInt = (n : Int) := ⟨((zI w1M 358 w14n).toInt).toNat, by omega⟩
                have w19 : zIv mLo mHi (zsI (zsI (zsJ (zsI w5M 356 w9n (0 : Int32)) 357 w9n (0 : Int64)) 336 37 w12v) 355 w18n w17v) := zIv.put w13 (show (-2147483648) ≤ w17v.toInt ∧ w17v.toInt ≤ 2147483647 from zrg w17v)
                refine zs_iast (pc := 167) t284_167 (j := w18n) (by decide) (zk1 (w5s.k fk_zMm_355)) (show (zI w1M 358 w14n).toInt = ((w18n : Nat) : Int) by omega) (zk2 (w5s.k fk_zMm_355) (by omega)) ?_
                refine zs_aload_n (pc := 168) t284_168 rfl ?_
                refine zs_get (pc := 169) t284_169 (by decide) (zk1 (w5s.k fk_zMm_336)) (w5s.p rfl fv_zMm_336_34) ?_
                refine zs_aload_n (pc := 172) t284_172 rfl ?_
                refine zs_get (pc := 173) t284_173 (by decide) (zk1 (w5s.k fk_zMm_336)) (zfvi rfl ((zIo (by decide)).trans zIs)) ?_
                refine zs_iconst (pc := 176) t284_176 (v := 1) (by decide) ?_
                obtain ⟨w20v, w20e, w20⟩ := zisub (a := w12v) (b := (1 : Int32)) w12 li1 (by omega) (by omega)
                refine zs_isub (pc := 177) t284_177 (c := w20v) w20e ?_
                refine zs_dup2 (pc := 178) t284_178 ⟨rfl, rfl⟩ ?_
                refine zs_iald (pc := 179) t284_179 (j := w9n) (by decide) (zk1 (w5s.k fk_zMm_356)) (show w20v.toInt = ((w9n : Nat) : Int) by omega) (zk2 (w5s.k fk_zMm_356) (by omega)) ((zIo (by decide)).trans ((zIo (by decide)).trans (zIJ.trans zIs))) ?_
                refine zs_iconst (pc := 180) t284_180 (v := 1) (by decide) ?_
                refine zs_iadd (pc := 181) t284_181 (c := 1) (by decide) ?_
                have w21 : zIv mLo mHi (zsI (zsI (zsI (zsJ (zsI w5M 356 w9n (0 : Int32)) 357 w9n (0 : Int64)) 336 37 w12v) 355 w18n w17v) 356 w9n (1 : Int32)) := zIv.put w19 (show (-2147483648) ≤ (1 : Int32).toInt ∧ (1 : Int32).toInt ≤ 2147483647 from zrg (1 : Int32))
                refine zs_iast (pc := 182) t284_182 (j := w9n) (by decide) (zk1 (w5s.k fk_zMm_356)) (show w20v.toInt = ((w9n : Nat) : Int) by omega) (zk2 (w5s.k fk_zMm_356) (by omega)) ?_
                refine zs_aload_n (pc := 183) t284_183 rfl ?_
                refine zs_get (pc := 184) t284_184 (by decide) (zk1 (w5s.k fk_zMm_336)) (w5s.p rfl fv_zMm_336_35) ?_
                refine zs_aload_n (pc := 187) t284_187 rfl ?_
                refine zs_get (pc := 188) t284_188 (by decide) (zk1 (w5s.k fk_zMm_336)) (zfvi rfl ((zIo (by decide)).trans ((zIo (by decide)).trans zIs))) ?_
                refine zs_iconst (pc := 191) t284_191 (v := 1) (by decide) ?_
                obtain ⟨w22v, w22e, w22⟩ := zisub (a := w12v) (b := (1 : Int32)) w12 li1 (by omega) (by omega)
                refine zs_isub (pc := 192) t284_192 (c := w22v) w22e ?_
                refine zs_dup2 (pc := 193) t284_193 ⟨rfl, rfl⟩ ?_
                refine zs_lald (pc := 194) t284_194 (j := w9n) (zk1 (w5s.k fk_zMm_357)) (show w22v.toInt = ((w9n : Nat) : Int) by omega) (zk2 (w5s.k fk_zMm_357) (by omega)) zJs ?_
                refine zs_aload_n (pc := 195) t284_195 rfl ?_
                refine zs_aload_n (pc := 196) t284_196 rfl ?_
                refine zs_get (pc := 197) t284_197 (by decide) (zk1 (w5s.k fk_zMm_336)) (w5s.p rfl fv_zMm_336_36) ?_
                refine zs_iload_n (pc := 200) t284_200 rfl ?_
                have w23 := w1t0 (w14n) (by omega)
                refine zs_iald (pc := 201) t284_201 (j := w14n) (by decide) (zk1 (w5s.k fk_zMm_358)) (show w5x1.toInt = ((w14n : Nat) : Int) by omega) (zk2 (w5s.k fk_zMm_358) (by omega)) ((zIo (by decide)).trans ((zIo (by decide)).trans ((zIo (by decide)).trans (zIJ.trans ((zIo (by decide)).trans ((w5F 358 w14n rfl).trans ((zIo (by decide)).trans rfl))))))) ?_
                have w24 : (zI (zsI (zsI (zsI (zsJ (zsI w5M 356 w9n (0 : Int32)) 357 w9n (0 : Int64)) 336 37 w12v) 355 w18n w17v) 356 w9n (1 : Int32)) 336 22).toInt = (zI M 336 22).toInt := (congrArg Int32.toInt ((zIo (by decide)).trans ((zIo (by decide)).trans ((zIoj (by decide)).trans (zIJ.trans ((zIo (by decide)).trans ((w5F 336 22 rfl).trans ((zIoj (by decide)).trans ((w1F 336 22 rfl).trans rfl))))))))).trans rfl
                refine zs_invV (pc := 202) (k := 336) (as' := [.int (zI w1M 358 w14n)]) (st := [.long (0 : Int64), .int w22v, .ref 357]) t284_202 mf285 rfl rfl (Or.inl ⟨by decide, (zk1 (w5s.k fk_zMm_336))⟩) ⟨by decide, by decide, Nat.le_of_ble_eq_true rfl, Nat.le_of_ble_eq_true rfl⟩ (K285 w5s w21 (zPD.fr (M' := (zsI (zsI (zsI (zsJ (zsI w5M 356 w9n (0 : Int32)) 357 w9n (0 : Int64)) 336 37 w12v) 355 w18n w17v) 356 w9n (1 : Int32))) (zPD.fr (M' := (zsI (zsI (zsJ (zsI w5M 356 w9n (0 : Int32)) 357 w9n (0 : Int64)) 336 37 w12v) 355 w18n w17v)) (zPD.fr (M' := (zsI (zsJ (zsI w5M 356 w9n (0 : Int32)) 357 w9n (0 : Int64)) 336 37 w12v)) (zPD.fr (M' := (zsJ (zsI w5M 356 w9n (0 : Int32)) 357 w9n (0 : Int64))) (zPD.fr (M' := (zsI w5M 356 w9n (0 : Int32))) (zPD.fr (zPD.fr (M' := (zsI w1M 336 37 (0 : Int32))) (zPD.fr pD (w1F.eq rfl) w1J) (zEq.put rfl) rfl) (w5F.eq rfl) w5J) (zEq.put rfl) rfl) zEq.J (zJo (by decide))) (zEq.put rfl) rfl) (zEq.put rfl) rfl) (zEq.put rfl) rfl) ⟨by omega, by omega⟩ (by omega) ?_) (fun _ _ q => q)
                intro w25v
                have w25g := zrg w25v
                show zGo X l 2 0 0 284 205 [(0, .ref 336), (1, .int w5x1)] [.int w25v, .long (0 : Int64), .int w22v, .ref 357] (zsI (zsI (zsI (zsJ (zsI w5M 356 w9n (0 : Int32)) 357 w9n (0 : Int64)) 336 37 w12v) 355 w18n w17v) 356 w9n (1 : Int32)) _
                refine zs_i2l (pc := 205) t284_205 rfl ?_
                obtain ⟨w26v, w26⟩ : ∃ v, (0 : Int64) + w25v.toInt64 = v := ⟨_, rfl⟩
                have w26g := zrg64 w26v
                refine zs_ladd (pc := 206) t284_206 (c := w26v) w26 ?_
                have w27 : zIv mLo mHi (zsJ (zsI (zsI (zsI (zsJ (zsI w5M 356 w9n (0 : Int32)) 357 w9n (0 : Int64)) 336 37 w12v) 355 w18n w17v) 356 w9n (1 : Int32)) 357 w9n w26v) := w21
                refine zs_last (pc := 207) t284_207 (j := w9n) (zk1 (w5s.k fk_zMm_357)) (show w22v.toInt = ((w9n : Nat) : Int) by omega) (zk2 (w5s.k fk_zMm_357) (by omega)) ?_
                obtain ⟨w28v, w28e, w28⟩ := ziadd (a := w5x1) (b := Int32.ofInt 1) rfl (show (Int32.ofInt 1).toInt = 1 by decide) (by omega) (by omega)
                refine zs_iinc (pc := 208) t284_208 (ls' := [(1, .int w28v), (0, .ref 336)]) (zml mf284 (by decide)) rfl (c := w28v) w28e rfl ?_
                refine zs_goto (pc := 211) t284_211 ?_
                refine zGo.locals (ls' := [(0, .ref 336), (1, .int w28v)]) (by simp) ?_
                have w29 := w28
                have w30 : (zI (zsJ (zsI (zsI (zsI (zsJ (zsI w5M 356 w9n (0 : Int32)) 357 w9n (0 : Int64)) 336 37 w12v) 355 w18n w17v) 356 w9n (1 : Int32)) 357 w9n w26v) 336 37).toInt = ((zI w5M 336 37).toInt + 1) := (congrArg Int32.toInt (zIJ.trans ((zIo (by decide)).trans ((zIo (by decide)).trans zIs)))).trans w12
                have w31 : (zI (zsJ (zsI (zsI (zsI (zsJ (zsI w5M 356 w9n (0 : Int32)) 357 w9n (0 : Int64)) 336 37 w12v) 355 w18n w17v) 356 w9n (1 : Int32)) 357 w9n w26v) 336 37).toInt = ((zI w5M 336 37).toInt + 1) := (congrArg Int32.toInt (zIJ.trans ((zIo (by decide)).trans ((zIo (by decide)).trans zIs)))).trans w12
                have w32 : (zI (zsJ (zsI (zsI (zsI (zsJ (zsI w5M 356 w9n (0 : Int32)) 357 w9n (0 : Int64)) 336 37 w12v) 355 w18n w17v) 356 w9n (1 : Int32)) 357 w9n w26v) 336 37).toInt = ((zI w5M 336 37).toInt + 1) := (congrArg Int32.toInt (zIJ.trans ((zIo (by decide)).trans ((zIo (by decide)).trans zIs)))).trans w12
                have w33 : (1 : Int32).toInt = 1 := li1
                exact w5ih (w5m - 1) (by omega) w28v (zsJ (zsI (zsI (zsI (zsJ (zsI w5M 356 w9n (0 : Int32)) 357 w9n (0 : Int64)) 336 37 w12v) 355 w18n w17v) 356 w9n (1 : Int32)) 357 w9n w26v) ⟨by omega, by omega⟩ w5s w27 ((((((((zFr.refl).trans (w5F.mono rfl)).put rfl).J).put rfl).put rfl).put rfl).J) ((zJo (by decide)).trans ((zJo (by decide)).trans w5J)) (by omega) (by omega) (zVm.of (k := w9n) w5t0 (by omega) (fun v hv => (zIJ.trans ((zIoj (by omega)).trans ((zIo (by decide)).trans ((zIo (by decide)).trans (zIJ.trans ((zIoj (by omega)).trans rfl))))))) (by rw [show zI (zsJ (zsI (zsI (zsI (zsJ (zsI w5M 356 w9n (0 : Int32)) 357 w9n (0 : Int64)) 336 37 w12v) 355 w18n w17v) 356 w9n (1 : Int32)) 357 w9n w26v) 356 w9n = (1 : Int32) from (zIJ.trans zIs)]; omega) (fun v hv hk => by omega)) (by omega)
              · refine zs_if_eqF (pc := 85) t284_85 rfl (by omega) ?_
                refine zs_aload_n (pc := 88) t284_88 rfl ?_
                refine zs_aload_n (pc := 89) t284_89 rfl ?_
                refine zs_get (pc := 90) t284_90 (by decide) (zk1 (w5s.k fk_zMm_336)) (w5s.p rfl fv_zMm_336_36) ?_
                refine zs_iload_n (pc := 93) t284_93 rfl ?_
                obtain ⟨w34n, w34⟩ : ∃ n : Nat, w5x1.toInt = (n : Int) := ⟨(w5x1.toInt).toNat, by omega⟩
                have w35 := ib358 w1I w34n
                have w36 := w1t0 (w34n) (by omega)
                refine zs_iald (pc := 94) t284_94 (j := w34n) (by decide) (zk1 (w5s.k fk_zMm_358)) (show w5x1.toInt = ((w34n : Nat) : Int) by omega) (zk2 (w5s.k fk_zMm_358) (by omega)) ((w5F 358 w34n rfl).trans ((zIo (by decide)).trans rfl)) ?_
                have w37 : (zI w5M 336 22).toInt = (zI M 336 22).toInt := (congrArg Int32.toInt ((w5F 336 22 rfl).trans ((zIoj (by decide)).trans ((w1F 336 22 rfl).trans rfl)))).trans rfl
                refine zs_invV (pc := 95) (k := 336) (as' := [.int (zI w1M 358 w34n)]) (st := []) t284_95 mf285 rfl rfl (Or.inl ⟨by decide, (zk1 (w5s.k fk_zMm_336))⟩) ⟨by decide, by decide, Nat.le_of_ble_eq_true rfl, Nat.le_of_ble_eq_true rfl⟩ (K285 w5s w5I (zPD.fr (zPD.fr (M' := (zsI w1M 336 37 (0 : Int32))) (zPD.fr pD (w1F.eq rfl) w1J) (zEq.put rfl) rfl) (w5F.eq rfl) w5J) ⟨by omega, by omega⟩ (by omega) ?_) (fun _ _ q => q)
                intro w38v
                have w38g := zrg w38v
                show zGo X l 2 0 0 284 98 [(0, .ref 336), (1, .int w5x1)] [.int w38v] w5M _
                refine zs_aload_n (pc := 98) t284_98 rfl ?_
                refine zs_aload_n (pc := 99) t284_99 rfl ?_
                refine zs_get (pc := 100) t284_100 (by decide) (zk1 (w5s.k fk_zMm_336)) (w5s.p rfl fv_zMm_336_36) ?_
                refine zs_iload_n (pc := 103) t284_103 rfl ?_
                refine zs_iconst (pc := 104) t284_104 (v := 1) (by decide) ?_
                obtain ⟨w39v, w39e, w39⟩ := zisub (a := w5x1) (b := (1 : Int32)) rfl li1 (by omega) (by omega)
                refine zs_isub (pc := 105) t284_105 (c := w39v) w39e ?_
                obtain ⟨w40n, w40⟩ : ∃ n : Nat, w39v.toInt = (n : Int) := ⟨w39v.toInt.toNat, by omega⟩
                have w41 := ib358 w1I w40n
                have w42 := w1t0 (w40n) (by omega)
                refine zs_iald (pc := 106) t284_106 (j := w40n) (by decide) (zk1 (w5s.k fk_zMm_358)) w40 (zk2 (w5s.k fk_zMm_358) (by omega)) ((w5F 358 w40n rfl).trans ((zIo (by decide)).trans rfl)) ?_
                have w43 : (zI w5M 336 22).toInt = (zI M 336 22).toInt := (congrArg Int32.toInt ((w5F 336 22 rfl).trans ((zIoj (by decide)).trans ((w1F 336 22 rfl).trans rfl)))).trans rfl
                refine zs_invV (pc := 107) (k := 336) (as' := [.int (zI w1M 358 w40n)]) (st := [.int w38v]) t284_107 mf285 rfl rfl (Or.inl ⟨by decide, (zk1 (w5s.k fk_zMm_336))⟩) ⟨by decide, by decide, Nat.le_of_ble_eq_true rfl, Nat.le_of_ble_eq_true rfl⟩ (K285 w5s w5I (zPD.fr (zPD.fr (M' := (zsI w1M 336 37 (0 : Int32))) (zPD.fr pD (w1F.eq rfl) w1J) (zEq.put rfl) rfl) (w5F.eq rfl) w5J) ⟨by omega, by omega⟩ (by omega) ?_) (fun _ _ q => q)
                intro w44v
                have w44g := zrg w44v
                show zGo X l 2 0 0 284 110 [(0, .ref 336), (1, .int w5x1)] [.int w44v, .int w38v] w5M _
                obtain ⟨w45v, w45⟩ : ∃ v, v = w38v - w44v := ⟨_, rfl⟩
                have w45g := zrg w45v
                refine zs_isub (pc := 110) t284_110 (c := w45v) w45.symm ?_
                refine zs_aload_n (pc := 111) t284_111 rfl ?_
                refine zs_get (pc := 112) t284_112 (by decide) (zk1 (w5s.k fk_zMm_336)) (w5s.p rfl fv_zMm_336_0) ?_
                refine zs_bipush (pc := 115) t284_115 (v := 9) (by decide) ?_
                have w46 := ibA9 hI
                refine zs_iald (pc := 117) t284_117 (j := 9) (by decide) (zk1 (w5s.k fk_zMm_337)) li9 (zk2 (w5s.k fk_zMm_337) (by decide)) ((w5F 337 9 rfl).trans ((zIo (by decide)).trans ((w1F 337 9 rfl).trans rfl))) ?_
                by_cases w47 : w45v.toInt ≤ (zI M 337 9).toInt
                · refine zs_icmp_leT (pc := 118) t284_118 rfl rfl (by omega) ?_
                  refine zs_aload_n (pc := 151) t284_151 rfl ?_
                  refine zs_get (pc := 152) t284_152 (by decide) (zk1 (w5s.k fk_zMm_336)) (w5s.p rfl fv_zMm_336_33) ?_
                  refine zs_aload_n (pc := 155) t284_155 rfl ?_
                  refine zs_get (pc := 156) t284_156 (by decide) (zk1 (w5s.k fk_zMm_336)) (w5s.p rfl fv_zMm_336_36) ?_
                  refine zs_iload_n (pc := 159) t284_159 rfl ?_
                  have w48 := w1t0 (w34n) (by omega)
                  refine zs_iald (pc := 160) t284_160 (j := w34n) (by decide) (zk1 (w5s.k fk_zMm_358)) (show w5x1.toInt = ((w34n : Nat) : Int) by omega) (zk2 (w5s.k fk_zMm_358) (by omega)) ((w5F 358 w34n rfl).trans ((zIo (by decide)).trans rfl)) ?_
                  refine zs_aload_n (pc := 161) t284_161 rfl ?_
                  refine zs_get (pc := 162) t284_162 (by decide) (zk1 (w5s.k fk_zMm_336)) (zfvi rfl rfl) ?_
                  refine zs_iconst (pc := 165) t284_165 (v := 1) (by decide) ?_
                  obtain ⟨w49v, w49e, w49⟩ := zisub (a := (zI w5M 336 37)) (b := (1 : Int32)) rfl li1 (by omega) (by omega)
                  refine zs_isub (pc := 166) t284_166 (c := w49v) w49e ?_
                  obtain ⟨w50n, w50⟩ : ∃ n : Nat, (zI w1M 358 w34n).toInt = (n : Int) := ⟨((zI w1M 358 w34n).toInt).toNat, by omega⟩
                  have w51 : zIv mLo mHi (zsI w5M 355 w50n w49v) := zIv.put w5I (show (-2147483648) ≤ w49v.toInt ∧ w49v.toInt ≤ 2147483647 from zrg w49v)
                  refine zs_iast (pc := 167) t284_167 (j := w50n) (by decide) (zk1 (w5s.k fk_zMm_355)) (show (zI w1M 358 w34n).toInt = ((w50n : Nat) : Int) by omega) (zk2 (w5s.k fk_zMm_355) (by omega)) ?_
                  refine zs_aload_n (pc := 168) t284_168 rfl ?_
                  refine zs_get (pc := 169) t284_169 (by decide) (zk1 (w5s.k fk_zMm_336)) (w5s.p rfl fv_zMm_336_34) ?_
                  refine zs_aload_n (pc := 172) t284_172 rfl ?_
                  refine zs_get (pc := 173) t284_173 (by decide) (zk1 (w5s.k fk_zMm_336)) (zfvi rfl ((zIo (by decide)).trans rfl)) ?_
                  refine zs_iconst (pc := 176) t284_176 (v := 1) (by decide) ?_
                  obtain ⟨w52v, w52e, w52⟩ := zisub (a := (zI w5M 336 37)) (b := (1 : Int32)) rfl li1 (by omega) (by omega)
                  refine zs_isub (pc := 177) t284_177 (c := w52v) w52e ?_
                  refine zs_dup2 (pc := 178) t284_178 ⟨rfl, rfl⟩ ?_
                  obtain ⟨w53n, w53⟩ : ∃ n : Nat, w52v.toInt = (n : Int) := ⟨w52v.toInt.toNat, by omega⟩
                  have w54 := zrg (zI w5M 356 w53n)
                  have w55 := w5t0 w53n (by omega)
                  refine zs_iald (pc := 179) t284_179 (j := w53n) (by decide) (zk1 (w5s.k fk_zMm_356)) w53 (zk2 (w5s.k fk_zMm_356) (by omega)) ((zIo (by decide)).trans rfl) ?_
                  refine zs_iconst (pc := 180) t284_180 (v := 1) (by decide) ?_
                  obtain ⟨w56v, w56e, w56⟩ := ziadd (a := (zI w5M 356 w53n)) (b := (1 : Int32)) rfl li1 (by omega) (by omega)
                  refine zs_iadd (pc := 181) t284_181 (c := w56v) w56e ?_
                  have w57 : zIv mLo mHi (zsI (zsI w5M 355 w50n w49v) 356 w53n w56v) := zIv.put w51 (show (-2147483648) ≤ w56v.toInt ∧ w56v.toInt ≤ 2147483647 from zrg w56v)
                  refine zs_iast (pc := 182) t284_182 (j := w53n) (by decide) (zk1 (w5s.k fk_zMm_356)) w53 (zk2 (w5s.k fk_zMm_356) (by omega)) ?_
                  refine zs_aload_n (pc := 183) t284_183 rfl ?_
                  refine zs_get (pc := 184) t284_184 (by decide) (zk1 (w5s.k fk_zMm_336)) (w5s.p rfl fv_zMm_336_35) ?_
                  refine zs_aload_n (pc := 187) t284_187 rfl ?_
                  refine zs_get (pc := 188) t284_188 (by decide) (zk1 (w5s.k fk_zMm_336)) (zfvi rfl ((zIo (by decide)).trans ((zIo (by decide)).trans rfl))) ?_
                  refine zs_iconst (pc := 191) t284_191 (v := 1) (by decide) ?_
                  obtain ⟨w58v, w58e, w58⟩ := zisub (a := (zI w5M 336 37)) (b := (1 : Int32)) rfl li1 (by omega) (by omega)
                  refine zs_isub (pc := 192) t284_192 (c := w58v) w58e ?_
                  refine zs_dup2 (pc := 193) t284_193 ⟨rfl, rfl⟩ ?_
                  obtain ⟨w59n, w59⟩ : ∃ n : Nat, w58v.toInt = (n : Int) := ⟨w58v.toInt.toNat, by omega⟩
                  have w60 := zrg64 (zJ (zsI (zsI w5M 355 w50n w49v) 356 w53n w56v) 357 w59n)
                  refine zs_lald (pc := 194) t284_194 (j := w59n) (zk1 (w5s.k fk_zMm_357)) w59 (zk2 (w5s.k fk_zMm_357) (by omega)) rfl ?_
                  refine zs_aload_n (pc := 195) t284_195 rfl ?_
                  refine zs_aload_n (pc := 196) t284_196 rfl ?_
                  refine zs_get (pc := 197) t284_197 (by decide) (zk1 (w5s.k fk_zMm_336)) (w5s.p rfl fv_zMm_336_36) ?_
                  refine zs_iload_n (pc := 200) t284_200 rfl ?_
                  have w61 := w1t0 (w34n) (by omega)
                  refine zs_iald (pc := 201) t284_201 (j := w34n) (by decide) (zk1 (w5s.k fk_zMm_358)) (show w5x1.toInt = ((w34n : Nat) : Int) by omega) (zk2 (w5s.k fk_zMm_358) (by omega)) ((zIo (by decide)).trans ((zIo (by decide)).trans ((w5F 358 w34n rfl).trans ((zIo (by decide)).trans rfl)))) ?_
                  have w62 : (zI (zsI (zsI w5M 355 w50n w49v) 356 w53n w56v) 336 22).toInt = (zI M 336 22).toInt := (congrArg Int32.toInt ((zIo (by decide)).trans ((zIo (by decide)).trans ((w5F 336 22 rfl).trans ((zIoj (by decide)).trans ((w1F 336 22 rfl).trans rfl)))))).trans rfl
                  refine zs_invV (pc := 202) (k := 336) (as' := [.int (zI w1M 358 w34n)]) (st := [.long (zJ (zsI (zsI w5M 355 w50n w49v) 356 w53n w56v) 357 w59n), .int w58v, .ref 357]) t284_202 mf285 rfl rfl (Or.inl ⟨by decide, (zk1 (w5s.k fk_zMm_336))⟩) ⟨by decide, by decide, Nat.le_of_ble_eq_true rfl, Nat.le_of_ble_eq_true rfl⟩ (K285 w5s w57 (zPD.fr (M' := (zsI (zsI w5M 355 w50n w49v) 356 w53n w56v)) (zPD.fr (M' := (zsI w5M 355 w50n w49v)) (zPD.fr (zPD.fr (M' := (zsI w1M 336 37 (0 : Int32))) (zPD.fr pD (w1F.eq rfl) w1J) (zEq.put rfl) rfl) (w5F.eq rfl) w5J) (zEq.put rfl) rfl) (zEq.put rfl) rfl) ⟨by omega, by omega⟩ (by omega) ?_) (fun _ _ q => q)
                  intro w63v
                  have w63g := zrg w63v
                  show zGo X l 2 0 0 284 205 [(0, .ref 336), (1, .int w5x1)] [.int w63v, .long (zJ (zsI (zsI w5M 355 w50n w49v) 356 w53n w56v) 357 w59n), .int w58v, .ref 357] (zsI (zsI w5M 355 w50n w49v) 356 w53n w56v) _
                  refine zs_i2l (pc := 205) t284_205 rfl ?_
                  obtain ⟨w64v, w64⟩ : ∃ v, (zJ (zsI (zsI w5M 355 w50n w49v) 356 w53n w56v) 357 w59n) + w63v.toInt64 = v := ⟨_, rfl⟩
                  have w64g := zrg64 w64v
                  refine zs_ladd (pc := 206) t284_206 (c := w64v) w64 ?_
                  have w65 : zIv mLo mHi (zsJ (zsI (zsI w5M 355 w50n w49v) 356 w53n w56v) 357 w59n w64v) := w57
                  refine zs_last (pc := 207) t284_207 (j := w59n) (zk1 (w5s.k fk_zMm_357)) w59 (zk2 (w5s.k fk_zMm_357) (by omega)) ?_
                  obtain ⟨w66v, w66e, w66⟩ := ziadd (a := w5x1) (b := Int32.ofInt 1) rfl (show (Int32.ofInt 1).toInt = 1 by decide) (by omega) (by omega)
                  refine zs_iinc (pc := 208) t284_208 (ls' := [(1, .int w66v), (0, .ref 336)]) (zml mf284 (by decide)) rfl (c := w66v) w66e rfl ?_
                  refine zs_goto (pc := 211) t284_211 ?_
                  refine zGo.locals (ls' := [(0, .ref 336), (1, .int w66v)]) (by simp) ?_
                  have w67 := w66
                  have w68 : (zI (zsJ (zsI (zsI w5M 355 w50n w49v) 356 w53n w56v) 357 w59n w64v) 336 37).toInt = (zI w5M 336 37).toInt := (congrArg Int32.toInt (zIJ.trans ((zIo (by decide)).trans ((zIo (by decide)).trans rfl)))).trans rfl
                  have w69 : (zI (zsJ (zsI (zsI w5M 355 w50n w49v) 356 w53n w56v) 357 w59n w64v) 336 37).toInt = (zI w5M 336 37).toInt := (congrArg Int32.toInt (zIJ.trans ((zIo (by decide)).trans ((zIo (by decide)).trans rfl)))).trans rfl
                  have w70 : (zI (zsJ (zsI (zsI w5M 355 w50n w49v) 356 w53n w56v) 357 w59n w64v) 336 37).toInt = (zI w5M 336 37).toInt := (congrArg Int32.toInt (zIJ.trans ((zIo (by decide)).trans ((zIo (by decide)).trans rfl)))).trans rfl
                  have w71 : w56v.toInt = ((zI w5M 356 w53n).toInt + 1) := w56
                  exact w5ih (w5m - 1) (by omega) w66v (zsJ (zsI (zsI w5M 355 w50n w49v) 356 w53n w56v) 357 w59n w64v) ⟨by omega, by omega⟩ w5s w65 (((((zFr.refl).trans (w5F.mono rfl)).put rfl).put rfl).J) ((zJo (by decide)).trans w5J) (by omega) (by omega) (zVm.of (k := w53n) w5t0 (by omega) (fun v hv => (zIJ.trans ((zIoj (by omega)).trans ((zIo (by decide)).trans rfl)))) (by rw [show zI (zsJ (zsI (zsI w5M 355 w50n w49v) 356 w53n w56v) 357 w59n w64v) 356 w53n = w56v from (zIJ.trans zIs)]; omega) (fun v hv hk => by omega)) (by omega)
                · refine zs_icmp_leF (pc := 118) t284_118 rfl rfl (by omega) ?_
                  refine zs_aload_n (pc := 121) t284_121 rfl ?_
                  refine zs_get (pc := 122) t284_122 (by decide) (zk1 (w5s.k fk_zMm_336)) (w5s.p rfl fv_zMm_336_34) ?_
                  refine zs_aload_n (pc := 125) t284_125 rfl ?_
                  refine zs_get (pc := 126) t284_126 (by decide) (zk1 (w5s.k fk_zMm_336)) (zfvi rfl rfl) ?_
                  refine zs_iconst (pc := 129) t284_129 (v := 0) (by decide) ?_
                  obtain ⟨w72n, w72⟩ : ∃ n : Nat, (zI w5M 336 37).toInt = (n : Int) := ⟨((zI w5M 336 37).toInt).toNat, by omega⟩
                  have w73 : zIv mLo mHi (zsI w5M 356 w72n (0 : Int32)) := zIv.put w5I (show (-2147483648) ≤ (0 : Int32).toInt ∧ (0 : Int32).toInt ≤ 2147483647 from zrg (0 : Int32))
                  refine zs_iast (pc := 130) t284_130 (j := w72n) (by decide) (zk1 (w5s.k fk_zMm_356)) (show (zI w5M 336 37).toInt = ((w72n : Nat) : Int) by omega) (zk2 (w5s.k fk_zMm_356) (by omega)) ?_
                  refine zs_aload_n (pc := 131) t284_131 rfl ?_
                  refine zs_get (pc := 132) t284_132 (by decide) (zk1 (w5s.k fk_zMm_336)) (w5s.p rfl fv_zMm_336_35) ?_
                  refine zs_aload_n (pc := 135) t284_135 rfl ?_
                  refine zs_get (pc := 136) t284_136 (by decide) (zk1 (w5s.k fk_zMm_336)) (zfvi rfl ((zIo (by decide)).trans rfl)) ?_
                  refine zs_lconst (pc := 139) t284_139 (v := 0) (by decide) ?_
                  have w74 : zIv mLo mHi (zsJ (zsI w5M 356 w72n (0 : Int32)) 357 w72n (0 : Int64)) := w73
                  refine zs_last (pc := 140) t284_140 (j := w72n) (zk1 (w5s.k fk_zMm_357)) (show (zI w5M 336 37).toInt = ((w72n : Nat) : Int) by omega) (zk2 (w5s.k fk_zMm_357) (by omega)) ?_
                  refine zs_aload_n (pc := 141) t284_141 rfl ?_
                  refine zs_dup (pc := 142) t284_142 rfl ?_
                  refine zs_get (pc := 143) t284_143 (by decide) (zk1 (w5s.k fk_zMm_336)) (zfvi rfl (zIJ.trans ((zIo (by decide)).trans rfl))) ?_
                  refine zs_iconst (pc := 146) t284_146 (v := 1) (by decide) ?_
                  obtain ⟨w75v, w75e, w75⟩ := ziadd (a := (zI w5M 336 37)) (b := (1 : Int32)) rfl li1 (by omega) (by omega)
                  refine zs_iadd (pc := 147) t284_147 (c := w75v) w75e ?_
                  have w76 : zIv mLo mHi (zsI (zsJ (zsI w5M 356 w72n (0 : Int32)) 357 w72n (0 : Int64)) 336 37 w75v) := zIv.put w74 (show 0 ≤ w75v.toInt ∧ w75v.toInt ≤ 20 from ⟨by omega, by omega⟩)
                  refine zs_putI (pc := 148) t284_148 (zk1 (w5s.k fk_zMm_336)) rfl ?_
                  refine zs_aload_n (pc := 151) t284_151 rfl ?_
                  refine zs_get (pc := 152) t284_152 (by decide) (zk1 (w5s.k fk_zMm_336)) (w5s.p rfl fv_zMm_336_33) ?_
                  refine zs_aload_n (pc := 155) t284_155 rfl ?_
                  refine zs_get (pc := 156) t284_156 (by decide) (zk1 (w5s.k fk_zMm_336)) (w5s.p rfl fv_zMm_336_36) ?_
                  refine zs_iload_n (pc := 159) t284_159 rfl ?_
                  have w77 := w1t0 (w34n) (by omega)
                  refine zs_iald (pc := 160) t284_160 (j := w34n) (by decide) (zk1 (w5s.k fk_zMm_358)) (show w5x1.toInt = ((w34n : Nat) : Int) by omega) (zk2 (w5s.k fk_zMm_358) (by omega)) ((zIo (by decide)).trans (zIJ.trans ((zIo (by decide)).trans ((w5F 358 w34n rfl).trans ((zIo (by decide)).trans rfl))))) ?_
                  refine zs_aload_n (pc := 161) t284_161 rfl ?_
                  refine zs_get (pc := 162) t284_162 (by decide) (zk1 (w5s.k fk_zMm_336)) (zfvi rfl zIs) ?_
                  refine zs_iconst (pc := 165) t284_165 (v := 1) (by decide) ?_
                  obtain ⟨w78v, w78e, w78⟩ := zisub (a := w75v) (b := (1 : Int32)) w75 li1 (by omega) (by omega)
                  refine zs_isub (pc := 166) t284_166 (c := w78v) w78e ?_
                  obtain ⟨w79n, w79⟩ : ∃ n : Nat, (zI w1M 358 w34n).toInt = (n : Int) := ⟨((zI w1M 358 w34n).toInt).toNat, by omega⟩
                  have w80 : zIv mLo mHi (zsI (zsI (zsJ (zsI w5M 356 w72n (0 : Int32)) 357 w72n (0 : Int64)) 336 37 w75v) 355 w79n w78v) := zIv.put w76 (show (-2147483648) ≤ w78v.toInt ∧ w78v.toInt ≤ 2147483647 from zrg w78v)
                  refine zs_iast (pc := 167) t284_167 (j := w79n) (by decide) (zk1 (w5s.k fk_zMm_355)) (show (zI w1M 358 w34n).toInt = ((w79n : Nat) : Int) by omega) (zk2 (w5s.k fk_zMm_355) (by omega)) ?_
                  refine zs_aload_n (pc := 168) t284_168 rfl ?_
                  refine zs_get (pc := 169) t284_169 (by decide) (zk1 (w5s.k fk_zMm_336)) (w5s.p rfl fv_zMm_336_34) ?_
                  refine zs_aload_n (pc := 172) t284_172 rfl ?_
                  refine zs_get (pc := 173) t284_173 (by decide) (zk1 (w5s.k fk_zMm_336)) (zfvi rfl ((zIo (by decide)).trans zIs)) ?_
                  refine zs_iconst (pc := 176) t284_176 (v := 1) (by decide) ?_
                  obtain ⟨w81v, w81e, w81⟩ := zisub (a := w75v) (b := (1 : Int32)) w75 li1 (by omega) (by omega)
                  refine zs_isub (pc := 177) t284_177 (c := w81v) w81e ?_
                  refine zs_dup2 (pc := 178) t284_178 ⟨rfl, rfl⟩ ?_
                  refine zs_iald (pc := 179) t284_179 (j := w72n) (by decide) (zk1 (w5s.k fk_zMm_356)) (show w81v.toInt = ((w72n : Nat) : Int) by omega) (zk2 (w5s.k fk_zMm_356) (by omega)) ((zIo (by decide)).trans ((zIo (by decide)).trans (zIJ.trans zIs))) ?_
                  refine zs_iconst (pc := 180) t284_180 (v := 1) (by decide) ?_
                  refine zs_iadd (pc := 181) t284_181 (c := 1) (by decide) ?_
                  have w82 : zIv mLo mHi (zsI (zsI (zsI (zsJ (zsI w5M 356 w72n (0 : Int32)) 357 w72n (0 : Int64)) 336 37 w75v) 355 w79n w78v) 356 w72n (1 : Int32)) := zIv.put w80 (show (-2147483648) ≤ (1 : Int32).toInt ∧ (1 : Int32).toInt ≤ 2147483647 from zrg (1 : Int32))
                  refine zs_iast (pc := 182) t284_182 (j := w72n) (by decide) (zk1 (w5s.k fk_zMm_356)) (show w81v.toInt = ((w72n : Nat) : Int) by omega) (zk2 (w5s.k fk_zMm_356) (by omega)) ?_
                  refine zs_aload_n (pc := 183) t284_183 rfl ?_
                  refine zs_get (pc := 184) t284_184 (by decide) (zk1 (w5s.k fk_zMm_336)) (w5s.p rfl fv_zMm_336_35) ?_
                  refine zs_aload_n (pc := 187) t284_187 rfl ?_
                  refine zs_get (pc := 188) t284_188 (by decide) (zk1 (w5s.k fk_zMm_336)) (zfvi rfl ((zIo (by decide)).trans ((zIo (by decide)).trans zIs))) ?_
                  refine zs_iconst (pc := 191) t284_191 (v := 1) (by decide) ?_
                  obtain ⟨w83v, w83e, w83⟩ := zisub (a := w75v) (b := (1 : Int32)) w75 li1 (by omega) (by omega)
                  refine zs_isub (pc := 192) t284_192 (c := w83v) w83e ?_
                  refine zs_dup2 (pc := 193) t284_193 ⟨rfl, rfl⟩ ?_
                  refine zs_lald (pc := 194) t284_194 (j := w72n) (zk1 (w5s.k fk_zMm_357)) (show w83v.toInt = ((w72n : Nat) : Int) by omega) (zk2 (w5s.k fk_zMm_357) (by omega)) zJs ?_
                  refine zs_aload_n (pc := 195) t284_195 rfl ?_
                  refine zs_aload_n (pc := 196) t284_196 rfl ?_
                  refine zs_get (pc := 197) t284_197 (by decide) (zk1 (w5s.k fk_zMm_336)) (w5s.p rfl fv_zMm_336_36) ?_
                  refine zs_iload_n (pc := 200) t284_200 rfl ?_
                  have w84 := w1t0 (w34n) (by omega)
                  refine zs_iald (pc := 201) t284_201 (j := w34n) (by decide) (zk1 (w5s.k fk_zMm_358)) (show w5x1.toInt = ((w34n : Nat) : Int) by omega) (zk2 (w5s.k fk_zMm_358) (by omega)) ((zIo (by decide)).trans ((zIo (by decide)).trans ((zIo (by decide)).trans (zIJ.trans ((zIo (by decide)).trans ((w5F 358 w34n rfl).trans ((zIo (by decide)).trans rfl))))))) ?_
                  have w85 : (zI (zsI (zsI (zsI (zsJ (zsI w5M 356 w72n (0 : Int32)) 357 w72n (0 : Int64)) 336 37 w75v) 355 w79n w78v) 356 w72n (1 : Int32)) 336 22).toInt = (zI M 336 22).toInt := (congrArg Int32.toInt ((zIo (by decide)).trans ((zIo (by decide)).trans ((zIoj (by decide)).trans (zIJ.trans ((zIo (by decide)).trans ((w5F 336 22 rfl).trans ((zIoj (by decide)).trans ((w1F 336 22 rfl).trans rfl))))))))).trans rfl
                  refine zs_invV (pc := 202) (k := 336) (as' := [.int (zI w1M 358 w34n)]) (st := [.long (0 : Int64), .int w83v, .ref 357]) t284_202 mf285 rfl rfl (Or.inl ⟨by decide, (zk1 (w5s.k fk_zMm_336))⟩) ⟨by decide, by decide, Nat.le_of_ble_eq_true rfl, Nat.le_of_ble_eq_true rfl⟩ (K285 w5s w82 (zPD.fr (M' := (zsI (zsI (zsI (zsJ (zsI w5M 356 w72n (0 : Int32)) 357 w72n (0 : Int64)) 336 37 w75v) 355 w79n w78v) 356 w72n (1 : Int32))) (zPD.fr (M' := (zsI (zsI (zsJ (zsI w5M 356 w72n (0 : Int32)) 357 w72n (0 : Int64)) 336 37 w75v) 355 w79n w78v)) (zPD.fr (M' := (zsI (zsJ (zsI w5M 356 w72n (0 : Int32)) 357 w72n (0 : Int64)) 336 37 w75v)) (zPD.fr (M' := (zsJ (zsI w5M 356 w72n (0 : Int32)) 357 w72n (0 : Int64))) (zPD.fr (M' := (zsI w5M 356 w72n (0 : Int32))) (zPD.fr (zPD.fr (M' := (zsI w1M 336 37 (0 : Int32))) (zPD.fr pD (w1F.eq rfl) w1J) (zEq.put rfl) rfl) (w5F.eq rfl) w5J) (zEq.put rfl) rfl) zEq.J (zJo (by decide))) (zEq.put rfl) rfl) (zEq.put rfl) rfl) (zEq.put rfl) rfl) ⟨by omega, by omega⟩ (by omega) ?_) (fun _ _ q => q)
                  intro w86v
                  have w86g := zrg w86v
                  show zGo X l 2 0 0 284 205 [(0, .ref 336), (1, .int w5x1)] [.int w86v, .long (0 : Int64), .int w83v, .ref 357] (zsI (zsI (zsI (zsJ (zsI w5M 356 w72n (0 : Int32)) 357 w72n (0 : Int64)) 336 37 w75v) 355 w79n w78v) 356 w72n (1 : Int32)) _
                  refine zs_i2l (pc := 205) t284_205 rfl ?_
                  obtain ⟨w87v, w87⟩ : ∃ v, (0 : Int64) + w86v.toInt64 = v := ⟨_, rfl⟩
                  have w87g := zrg64 w87v
                  refine zs_ladd (pc := 206) t284_206 (c := w87v) w87 ?_
                  have w88 : zIv mLo mHi (zsJ (zsI (zsI (zsI (zsJ (zsI w5M 356 w72n (0 : Int32)) 357 w72n (0 : Int64)) 336 37 w75v) 355 w79n w78v) 356 w72n (1 : Int32)) 357 w72n w87v) := w82
                  refine zs_last (pc := 207) t284_207 (j := w72n) (zk1 (w5s.k fk_zMm_357)) (show w83v.toInt = ((w72n : Nat) : Int) by omega) (zk2 (w5s.k fk_zMm_357) (by omega)) ?_
                  obtain ⟨w89v, w89e, w89⟩ := ziadd (a := w5x1) (b := Int32.ofInt 1) rfl (show (Int32.ofInt 1).toInt = 1 by decide) (by omega) (by omega)
                  refine zs_iinc (pc := 208) t284_208 (ls' := [(1, .int w89v), (0, .ref 336)]) (zml mf284 (by decide)) rfl (c := w89v) w89e rfl ?_
                  refine zs_goto (pc := 211) t284_211 ?_
                  refine zGo.locals (ls' := [(0, .ref 336), (1, .int w89v)]) (by simp) ?_
                  have w90 := w89
                  have w91 : (zI (zsJ (zsI (zsI (zsI (zsJ (zsI w5M 356 w72n (0 : Int32)) 357 w72n (0 : Int64)) 336 37 w75v) 355 w79n w78v) 356 w72n (1 : Int32)) 357 w72n w87v) 336 37).toInt = ((zI w5M 336 37).toInt + 1) := (congrArg Int32.toInt (zIJ.trans ((zIo (by decide)).trans ((zIo (by decide)).trans zIs)))).trans w75
                  have w92 : (zI (zsJ (zsI (zsI (zsI (zsJ (zsI w5M 356 w72n (0 : Int32)) 357 w72n (0 : Int64)) 336 37 w75v) 355 w79n w78v) 356 w72n (1 : Int32)) 357 w72n w87v) 336 37).toInt = ((zI w5M 336 37).toInt + 1) := (congrArg Int32.toInt (zIJ.trans ((zIo (by decide)).trans ((zIo (by decide)).trans zIs)))).trans w75
                  have w93 : (zI (zsJ (zsI (zsI (zsI (zsJ (zsI w5M 356 w72n (0 : Int32)) 357 w72n (0 : Int64)) 336 37 w75v) 355 w79n w78v) 356 w72n (1 : Int32)) 357 w72n w87v) 336 37).toInt = ((zI w5M 336 37).toInt + 1) := (congrArg Int32.toInt (zIJ.trans ((zIo (by decide)).trans ((zIo (by decide)).trans zIs)))).trans w75
                  have w94 : (1 : Int32).toInt = 1 := li1
                  exact w5ih (w5m - 1) (by omega) w89v (zsJ (zsI (zsI (zsI (zsJ (zsI w5M 356 w72n (0 : Int32)) 357 w72n (0 : Int64)) 336 37 w75v) 355 w79n w78v) 356 w72n (1 : Int32)) 357 w72n w87v) ⟨by omega, by omega⟩ w5s w88 ((((((((zFr.refl).trans (w5F.mono rfl)).put rfl).J).put rfl).put rfl).put rfl).J) ((zJo (by decide)).trans ((zJo (by decide)).trans w5J)) (by omega) (by omega) (zVm.of (k := w72n) w5t0 (by omega) (fun v hv => (zIJ.trans ((zIoj (by omega)).trans ((zIo (by decide)).trans ((zIo (by decide)).trans (zIJ.trans ((zIoj (by omega)).trans rfl))))))) (by rw [show zI (zsJ (zsI (zsI (zsI (zsJ (zsI w5M 356 w72n (0 : Int32)) 357 w72n (0 : Int64)) 336 37 w75v) 355 w79n w78v) 356 w72n (1 : Int32)) 357 w72n w87v) 356 w72n = (1 : Int32) from (zIJ.trans zIs)]; omega) (fun v hv hk => by omega)) (by omega)
        refine zGo.locals (ls' := [(0, .ref 336), (1, .int (0 : Int32))]) (by simp) ?_
        have w95 := li0
        have w96 : (zI (zsI w1M 336 37 (0 : Int32)) 336 37).toInt = 0 := (congrArg Int32.toInt zIs).trans li0
        have w97 : (zI (zsI w1M 336 37 (0 : Int32)) 336 37).toInt = 0 := (congrArg Int32.toInt zIs).trans li0
        have w98 : (zI (zsI w1M 336 37 (0 : Int32)) 336 37).toInt = 0 := (congrArg Int32.toInt zIs).trans li0
        exact w5L ((20 - 0 : Int).toNat) (0 : Int32) (zsI w1M 336 37 (0 : Int32)) ⟨by decide, by decide⟩ w1s w4 zFr.refl rfl (by omega) (by omega) (fun v hv => absurd hv (by omega)) (by omega)
      · refine zs_icmp_geF (pc := 7) t284_7 rfl rfl (by omega) ?_
        refine zs_iload_n (pc := 10) t284_10 rfl ?_
        refine zs_istore_n (pc := 11) t284_11 (ls' := [(2, .int w1x1), (0, .ref 336), (1, .int w1x1)]) (zml mf284 (by decide)) rfl ?_
        have w99L : ∀ (m : Nat) (w99x2 : Int32) (w99M : zM), (0 ≤ w99x2.toInt ∧ w99x2.toInt ≤ 19) → zSk zMm w99M → zIv mLo mHi w99M → zFr [(358, 358, none)] w1M w99M → zJ w99M 351 = zJ w1M 351 → (w99x2.toInt ≤ w1x1.toInt) → (zBs w99M w1x1.toInt (zI M 336 22).toInt) → (w99x2.toInt = w1x1.toInt ∨ (zI w99M 358 (w1x1.toInt).toNat).toInt < (zI M 336 22).toInt) → w99x2.toInt ≤ (m : Int) → zGo X l 2 0 0 284 12 [(0, .ref 336), (1, .int w1x1), (2, .int w99x2)] [] w99M Q := by
          intro m
          induction m using Nat.strongRecOn with
          | ind w99m w99ih =>
            intro w99x2 w99M w99b2 w99s w99I w99F w99J w99r0 w99t0 w99t1 w99q
            refine zs_iload_n (pc := 12) t284_12 rfl ?_
            by_cases w100 : w99x2.toInt ≤ 0
            · refine zs_if_leT (pc := 13) t284_13 rfl (by omega) ?_
              refine zs_aload_n (pc := 56) t284_56 rfl ?_
              refine zs_get (pc := 57) t284_57 (by decide) (zk1 (w99s.k fk_zMm_336)) (w99s.p rfl fv_zMm_336_36) ?_
              refine zs_iload_n (pc := 60) t284_60 rfl ?_
              refine zs_iload_n (pc := 61) t284_61 rfl ?_
              obtain ⟨w101n, w101⟩ : ∃ n : Nat, w99x2.toInt = (n : Int) := ⟨(w99x2.toInt).toNat, by omega⟩
              have w102 : zIv mLo mHi (zsI w99M 358 w101n w1x1) := zIv.put w99I (show 0 ≤ w1x1.toInt ∧ w1x1.toInt ≤ 19 from ⟨by omega, by omega⟩)
              refine zs_iast (pc := 62) t284_62 (j := w101n) (by decide) (zk1 (w99s.k fk_zMm_358)) (show w99x2.toInt = ((w101n : Nat) : Int) by omega) (zk2 (w99s.k fk_zMm_358) (by omega)) ?_
              obtain ⟨w103v, w103e, w103⟩ := ziadd (a := w1x1) (b := Int32.ofInt 1) rfl (show (Int32.ofInt 1).toInt = 1 by decide) (by omega) (by omega)
              refine zs_iinc (pc := 63) t284_63 (ls' := [(1, .int w103v), (0, .ref 336), (2, .int w99x2)]) (zml mf284 (by decide)) rfl (c := w103v) w103e rfl ?_
              refine zs_goto (pc := 66) t284_66 ?_
              refine zGo.locals (ls' := [(0, .ref 336), (1, .int w103v)]) (by simp) ?_
              have w104 := w103
              obtain ⟨w105n, w105⟩ : ∃ n : Nat, w1x1.toInt = (n : Int) := ⟨(w1x1.toInt).toNat, by omega⟩
              exact w1ih (w1m - 1) (by omega) w103v (zsI w99M 358 w101n w1x1) ⟨by omega, by omega⟩ w99s w102 ((((zFr.refl).trans (w1F.mono rfl)).trans (w99F.mono rfl)).put rfl) (w99J.trans w1J) (zBs.more (k := w105n) (zBs.put w99t0 (by omega)) (by omega) (by omega) (by
                    by_cases z : w105n = w101n
                    · rw [z, zIs]; omega
                    · rw [zIoj z]; rcases w99t1 with y | y
                      · omega
                      · rw [show w1x1.toInt.toNat = w105n by omega] at y; exact y)) (by omega)
            · refine zs_if_leF (pc := 13) t284_13 rfl (by omega) ?_
              refine zs_aload_n (pc := 16) t284_16 rfl ?_
              refine zs_aload_n (pc := 17) t284_17 rfl ?_
              refine zs_get (pc := 18) t284_18 (by decide) (zk1 (w99s.k fk_zMm_336)) (w99s.p rfl fv_zMm_336_36) ?_
              refine zs_iload_n (pc := 21) t284_21 rfl ?_
              refine zs_iconst (pc := 22) t284_22 (v := 1) (by decide) ?_
              obtain ⟨w106v, w106e, w106⟩ := zisub (a := w99x2) (b := (1 : Int32)) rfl li1 (by omega) (by omega)
              refine zs_isub (pc := 23) t284_23 (c := w106v) w106e ?_
              obtain ⟨w107n, w107⟩ : ∃ n : Nat, w106v.toInt = (n : Int) := ⟨w106v.toInt.toNat, by omega⟩
              have w108 := ib358 w99I w107n
              have w109 := w99t0 (w107n) (by omega)
              refine zs_iald (pc := 24) t284_24 (j := w107n) (by decide) (zk1 (w99s.k fk_zMm_358)) w107 (zk2 (w99s.k fk_zMm_358) (by omega)) rfl ?_
              have w110 : (zI w99M 336 22).toInt = (zI M 336 22).toInt := (congrArg Int32.toInt ((w99F 336 22 rfl).trans ((w1F 336 22 rfl).trans rfl))).trans rfl
              refine zs_invV (pc := 25) (k := 336) (as' := [.int (zI w99M 358 w107n)]) (st := []) t284_25 mf285 rfl rfl (Or.inl ⟨by decide, (zk1 (w99s.k fk_zMm_336))⟩) ⟨by decide, by decide, Nat.le_of_ble_eq_true rfl, Nat.le_of_ble_eq_true rfl⟩ (K285 w99s w99I (zPD.fr (zPD.fr pD (w1F.eq rfl) w1J) (w99F.eq rfl) w99J) ⟨by omega, by omega⟩ (by omega) ?_) (fun _ _ q => q)
              intro w111v
              have w111g := zrg w111v
              show zGo X l 2 0 0 284 28 [(0, .ref 336), (1, .int w1x1), (2, .int w99x2)] [.int w111v] w99M _
              refine zs_aload_n (pc := 28) t284_28 rfl ?_
              refine zs_iload_n (pc := 29) t284_29 rfl ?_
              have w112 : (zI w99M 336 22).toInt = (zI M 336 22).toInt := (congrArg Int32.toInt ((w99F 336 22 rfl).trans ((w1F 336 22 rfl).trans rfl))).trans rfl
              refine zs_invV (pc := 30) (k := 336) (as' := [.int w1x1]) (st := [.int w111v]) t284_30 mf285 rfl rfl (Or.inl ⟨by decide, (zk1 (w99s.k fk_zMm_336))⟩) ⟨by decide, by decide, Nat.le_of_ble_eq_true rfl, Nat.le_of_ble_eq_true rfl⟩ (K285 w99s w99I (zPD.fr (zPD.fr pD (w1F.eq rfl) w1J) (w99F.eq rfl) w99J) ⟨by omega, by omega⟩ (by omega) ?_) (fun _ _ q => q)
              intro w113v
              have w113g := zrg w113v
              show zGo X l 2 0 0 284 33 [(0, .ref 336), (1, .int w1x1), (2, .int w99x2)] [.int w113v, .int w111v] w99M _
              by_cases w114 : w111v.toInt ≤ w113v.toInt
              · refine zs_icmp_leT (pc := 33) t284_33 rfl rfl (by omega) ?_
                refine zs_aload_n (pc := 56) t284_56 rfl ?_
                refine zs_get (pc := 57) t284_57 (by decide) (zk1 (w99s.k fk_zMm_336)) (w99s.p rfl fv_zMm_336_36) ?_
                refine zs_iload_n (pc := 60) t284_60 rfl ?_
                refine zs_iload_n (pc := 61) t284_61 rfl ?_
                obtain ⟨w115n, w115⟩ : ∃ n : Nat, w99x2.toInt = (n : Int) := ⟨(w99x2.toInt).toNat, by omega⟩
                have w116 : zIv mLo mHi (zsI w99M 358 w115n w1x1) := zIv.put w99I (show 0 ≤ w1x1.toInt ∧ w1x1.toInt ≤ 19 from ⟨by omega, by omega⟩)
                refine zs_iast (pc := 62) t284_62 (j := w115n) (by decide) (zk1 (w99s.k fk_zMm_358)) (show w99x2.toInt = ((w115n : Nat) : Int) by omega) (zk2 (w99s.k fk_zMm_358) (by omega)) ?_
                obtain ⟨w117v, w117e, w117⟩ := ziadd (a := w1x1) (b := Int32.ofInt 1) rfl (show (Int32.ofInt 1).toInt = 1 by decide) (by omega) (by omega)
                refine zs_iinc (pc := 63) t284_63 (ls' := [(1, .int w117v), (0, .ref 336), (2, .int w99x2)]) (zml mf284 (by decide)) rfl (c := w117v) w117e rfl ?_
                refine zs_goto (pc := 66) t284_66 ?_
                refine zGo.locals (ls' := [(0, .ref 336), (1, .int w117v)]) (by simp) ?_
                have w118 := w117
                obtain ⟨w119n, w119⟩ : ∃ n : Nat, w1x1.toInt = (n : Int) := ⟨(w1x1.toInt).toNat, by omega⟩
                exact w1ih (w1m - 1) (by omega) w117v (zsI w99M 358 w115n w1x1) ⟨by omega, by omega⟩ w99s w116 ((((zFr.refl).trans (w1F.mono rfl)).trans (w99F.mono rfl)).put rfl) (w99J.trans w1J) (zBs.more (k := w119n) (zBs.put w99t0 (by omega)) (by omega) (by omega) (by
                      by_cases z : w119n = w115n
                      · rw [z, zIs]; omega
                      · rw [zIoj z]; rcases w99t1 with y | y
                        · omega
                        · rw [show w1x1.toInt.toNat = w119n by omega] at y; exact y)) (by omega)
              · refine zs_icmp_leF (pc := 33) t284_33 rfl rfl (by omega) ?_
                refine zs_aload_n (pc := 36) t284_36 rfl ?_
                refine zs_get (pc := 37) t284_37 (by decide) (zk1 (w99s.k fk_zMm_336)) (w99s.p rfl fv_zMm_336_36) ?_
                refine zs_iload_n (pc := 40) t284_40 rfl ?_
                refine zs_aload_n (pc := 41) t284_41 rfl ?_
                refine zs_get (pc := 42) t284_42 (by decide) (zk1 (w99s.k fk_zMm_336)) (w99s.p rfl fv_zMm_336_36) ?_
                refine zs_iload_n (pc := 45) t284_45 rfl ?_
                refine zs_iconst (pc := 46) t284_46 (v := 1) (by decide) ?_
                obtain ⟨w120v, w120e, w120⟩ := zisub (a := w99x2) (b := (1 : Int32)) rfl li1 (by omega) (by omega)
                refine zs_isub (pc := 47) t284_47 (c := w120v) w120e ?_
                obtain ⟨w121n, w121⟩ : ∃ n : Nat, w120v.toInt = (n : Int) := ⟨w120v.toInt.toNat, by omega⟩
                have w122 := ib358 w99I w121n
                have w123 := w99t0 (w121n) (by omega)
                refine zs_iald (pc := 48) t284_48 (j := w121n) (by decide) (zk1 (w99s.k fk_zMm_358)) w121 (zk2 (w99s.k fk_zMm_358) (by omega)) rfl ?_
                obtain ⟨w124n, w124⟩ : ∃ n : Nat, w99x2.toInt = (n : Int) := ⟨(w99x2.toInt).toNat, by omega⟩
                have w125 : zIv mLo mHi (zsI w99M 358 w124n (zI w99M 358 w121n)) := zIv.put w99I (show 0 ≤ (zI w99M 358 w121n).toInt ∧ (zI w99M 358 w121n).toInt ≤ 19 from ⟨by omega, by omega⟩)
                refine zs_iast (pc := 49) t284_49 (j := w124n) (by decide) (zk1 (w99s.k fk_zMm_358)) (show w99x2.toInt = ((w124n : Nat) : Int) by omega) (zk2 (w99s.k fk_zMm_358) (by omega)) ?_
                obtain ⟨w126v, w126e, w126⟩ := ziadd (a := w99x2) (b := Int32.ofInt (-1)) rfl (show (Int32.ofInt (-1)).toInt = (-1) by decide) (by omega) (by omega)
                refine zs_iinc (pc := 50) t284_50 (ls' := [(2, .int w126v), (0, .ref 336), (1, .int w1x1)]) (zml mf284 (by decide)) rfl (c := w126v) w126e rfl ?_
                refine zs_goto (pc := 53) t284_53 ?_
                refine zGo.locals (ls' := [(0, .ref 336), (1, .int w1x1), (2, .int w126v)]) (by simp) ?_
                have w127 := w126
                exact w99ih (w99m - 1) (by omega) w126v (zsI w99M 358 w124n (zI w99M 358 w121n)) ⟨by omega, by omega⟩ w99s w125 (((zFr.refl).trans (w99F.mono rfl)).put rfl) w99J (by omega) (zBs.put w99t0 (by omega)) (Or.inr (by
                      by_cases z : w1x1.toInt.toNat = w124n
                      · rw [z, zIs]; omega
                      · rw [zIoj z]; rcases w99t1 with y | y
                        · omega
                        · exact y)) (by omega)
        refine zGo.locals (ls' := [(0, .ref 336), (1, .int w1x1), (2, .int w1x1)]) (by simp) ?_
        exact w99L ((w1x1.toInt : Int).toNat) w1x1 w1M ⟨by omega, by omega⟩ w1s w1I zFr.refl rfl (by omega) w1t0 (Or.inl rfl) (by omega)
  refine zGo.locals (ls' := [(0, .ref 336), (1, .int (0 : Int32))]) (by simp) ?_
  have w128 := li0
  exact w1L ((20 - 0 : Int).toNat) (0 : Int32) M ⟨by decide, by decide⟩ hs hI zFr.refl rfl (fun q hq => absurd hq (by omega)) (by omega)
