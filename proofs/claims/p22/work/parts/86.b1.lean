theorem U274 {X : zX} {l : Launch} {M : zM} {Q : Option Value → zM → Prop} {a b : Int32} (hs : zSk zMm M) (hI : zIv mLo mHi M) {F : Nat → Int} {L : Nat → Bool} {P : Int → Int → Int → Prop} (pB : zPB M) (ha : (-20) ≤ a.toInt ∧ a.toInt ≤ 20) (hb : (-3) ≤ b.toInt ∧ b.toInt ≤ 3) (u0 : -(zI M 337 6).toInt ≤ a.toInt) (u1 : a.toInt ≤ (zI M 337 6).toInt) (u2 : -(zI M 337 5).toInt ≤ b.toInt) (u3 : b.toInt ≤ (zI M 337 5).toInt) (x0 : zRw M 0 F) (x1 : zWF F) (x2 : zLf M F L) (x3 : zBm M F L P) (hQ : ∀ M', zSk zMm M' → zIv mLo mHi M' → zFr [(344, 344, none), (336, 336, some 18), (336, 336, some 19), (336, 336, some 20), (336, 336, some 21)] M M' → zJ M' 351 = zJ M 351 → zPB M' → (zBm M' F L (fun x y z => P x y z ∨ (x = b.toInt ∧ y = a.toInt))) → Q none M') : zCall X l 4 0 0 274 [.ref 336, .int a, .int b] M Q := by
  have ga := zrg a
  have gb := zrg b
  refine zs_in (by decide) mf274 (Nat.le_of_ble_eq_true rfl) ?_
  show zGo X l 4 0 0 274 0 [(0, .ref 336), (1, .int a), (2, .int b)] [] M _
  have f1 := x1.1
  have f3 := x1.2.2.2
  have w1 := ibA0 hI
  have w2 : (zI M 337 0).toInt = (zI M 337 0).toInt := (congrArg Int32.toInt rfl).trans rfl
  have e0 : (zI M 337 0).toInt = F 0 := x0.at (by decide) (by decide) (by decide)
  have w3 := ibA1 hI
  have w4 : (zI M 337 1).toInt = (zI M 337 1).toInt := (congrArg Int32.toInt rfl).trans rfl
  have e1 : (zI M 337 1).toInt = F 1 := x0.at (by decide) (by decide) (by decide)
  have w5 := ibA2 hI
  have w6 : (zI M 337 2).toInt = (zI M 337 2).toInt := (congrArg Int32.toInt rfl).trans rfl
  have e2 : (zI M 337 2).toInt = F 2 := x0.at (by decide) (by decide) (by decide)
  have e5 : (zI M 337 5).toInt = F 5 := x0.at (by decide) (by decide) (by decide)
  have e6 : (zI M 337 6).toInt = F 6 := x0.at (by decide) (by decide) (by decide)
  refine zs_aload_n (pc := 0) t274_0 rfl ?_
  refine zs_iload_n (pc := 1) t274_1 rfl ?_
  refine zs_iload_n (pc := 2) t274_2 rfl ?_
  refine zs_invV (pc := 3) (k := 336) (as' := [.int a, .int b]) (st := []) t274_3 mf275 rfl rfl (Or.inl ⟨by decide, (zk1 (hs.k fk_zMm_336))⟩) ⟨by decide, by decide, Nat.le_of_ble_eq_true rfl, Nat.le_of_ble_eq_true rfl⟩ (K275 hs hI ?_) (fun _ _ q => q)
  intro w7M w7s w7I w7F w7J w7x0
  have hLy := w7x0
  show zGo X l 4 0 0 274 6 [(0, .ref 336), (1, .int a), (2, .int b)] [] w7M _
  have hLy := w7x0
  have w8 : zCo w7M F L b.toInt a.toInt := zCo.mk x0 x1 x2 w7x0 (fun j => w7F 337 j rfl) (fun j => w7F 343 j rfl) (by omega) (by omega) (by omega) (by omega)
  refine zs_iconst (pc := 6) t274_6 (v := 0) (by decide) ?_
  refine zs_istore_n (pc := 7) t274_7 (ls' := [(3, .int (0 : Int32)), (0, .ref 336), (1, .int a), (2, .int b)]) (zml mf274 (by decide)) rfl ?_
  have w9L : ∀ (m : Nat) (w9x3 : Int32) (w9M : zM), (0 ≤ w9x3.toInt ∧ w9x3.toInt ≤ 60) → zSk zMm w9M → zIv mLo mHi w9M → zFr [(336, 336, some 18), (336, 336, some 19), (336, 336, some 20), (336, 336, some 21)] w7M w9M → zJ w9M 351 = zJ w7M 351 → zPB w9M → (w9x3.toInt ≤ F 1) → (∀ n : Nat, (n : Int) = w9x3.toInt → zBm w9M F L (zPq P b.toInt a.toInt F L n)) → 60 - w9x3.toInt ≤ (m : Int) → zGo X l 4 0 0 274 8 [(0, .ref 336), (1, .int a), (2, .int b), (3, .int w9x3)] [] w9M Q := by
    intro m
    induction m using Nat.strongRecOn with
    | ind w9m w9ih =>
      intro w9x3 w9M w9b3 w9s w9I w9F w9J w9PB w9r0 w9t0 w9q
      refine zs_iload_n (pc := 8) t274_8 rfl ?_
      refine zs_aload_n (pc := 9) t274_9 rfl ?_
      refine zs_get (pc := 10) t274_10 (by decide) (zk1 (w9s.k fk_zMm_336)) (w9s.p rfl fv_zMm_336_0) ?_
      refine zs_iconst (pc := 13) t274_13 (v := 1) (by decide) ?_
      have w10 : (zI M 337 1).toInt = F 1 := x0.at (by decide) (by decide) (by decide)
      refine zs_iald (pc := 14) t274_14 (j := 1) (by decide) (zk1 (w9s.k fk_zMm_337)) li1 (zk2 (w9s.k fk_zMm_337) (by decide)) ((w9F 337 1 rfl).trans ((w7F 337 1 rfl).trans rfl)) ?_
      by_cases w11 : (zI M 337 1).toInt ≤ w9x3.toInt
      · refine zs_icmp_geT (pc := 15) t274_15 rfl rfl (by omega) ?_
        obtain ⟨w12n, w12⟩ : ∃ n : Nat, w9x3.toInt = (n : Int) := ⟨(w9x3.toInt).toNat, by omega⟩
        exact zs_vret (pc := 124) t274_124 mr274 (hQ _ w9s w9I (((zFr.refl).trans (w7F.mono rfl)).trans (w9F.mono rfl)) (w9J.trans w7J) w9PB ((w9t0 w12n (by omega)).s6 (by omega)))
      · refine zs_icmp_geF (pc := 15) t274_15 rfl rfl (by omega) ?_
        refine zs_aload_n (pc := 18) t274_18 rfl ?_
        refine zs_get (pc := 19) t274_19 (by decide) (zk1 (w9s.k fk_zMm_336)) (w9s.p rfl fv_zMm_336_16) ?_
        refine zs_iload_n (pc := 22) t274_22 rfl ?_
        obtain ⟨w13n, w13⟩ : ∃ n : Nat, w9x3.toInt = (n : Int) := ⟨(w9x3.toInt).toNat, by omega⟩
        have w14 := ib343 hI w13n
        refine zs_bald (pc := 23) t274_23 (j := w13n) (Or.inr (zk1 (w9s.k fk_zMm_343))) (show w9x3.toInt = ((w13n : Nat) : Int) by omega) (zk2 (w9s.k fk_zMm_343) (by omega)) ((w9F 343 w13n rfl).trans ((w7F 343 w13n rfl).trans rfl)) ?_
        by_cases w15 : (zI M 343 w13n).toInt = 0
        · refine zs_if_eqT (pc := 24) t274_24 rfl (by omega) ?_
          obtain ⟨w16v, w16e, w16⟩ := ziadd (a := w9x3) (b := Int32.ofInt 1) rfl (show (Int32.ofInt 1).toInt = 1 by decide) (by omega) (by omega)
          refine zs_iinc (pc := 118) t274_118 (ls' := [(3, .int w16v), (0, .ref 336), (1, .int a), (2, .int b)]) (zml mf274 (by decide)) rfl (c := w16v) w16e rfl ?_
          refine zs_goto (pc := 121) t274_121 ?_
          refine zGo.locals (ls' := [(0, .ref 336), (1, .int a), (2, .int b), (3, .int w16v)]) (by simp) ?_
          have w17 := w16
          exact w9ih (w9m - 1) (by omega) w16v w9M ⟨by omega, by omega⟩ w9s w9I ((zFr.refl).trans (w9F.mono rfl)) w9J w9PB (by omega) (fun n hq => by obtain rfl : n = w13n + 1 := (by omega); exact (w9t0 w13n (by omega)).s1 (x2.n (by omega) (by omega))) (by omega)
        · refine zs_if_eqF (pc := 24) t274_24 rfl (by omega) ?_
          refine zs_aload_n (pc := 27) t274_27 rfl ?_
          refine zs_iload_n (pc := 28) t274_28 rfl ?_
          have w18 : (zI w9M 337 1).toInt = (zI M 337 1).toInt := (congrArg Int32.toInt ((w9F 337 1 rfl).trans ((w7F 337 1 rfl).trans rfl))).trans rfl
          refine zs_invV (pc := 29) (k := 336) (as' := [.int w9x3]) (st := []) t274_29 mf276 rfl rfl (Or.inl ⟨by decide, (zk1 (w9s.k fk_zMm_336))⟩) ⟨by decide, by decide, Nat.le_of_ble_eq_true rfl, Nat.le_of_ble_eq_true rfl⟩ (U276 w9s w9I ⟨by omega, by omega⟩ (by omega) (zRw.fr' x0 (fun j hj => ((w9F 337 j rfl).trans (w7F 337 j rfl)))) x1 (zLf.fr x2 (fun j => ((w9F 343 j rfl).trans (w7F 343 j rfl)))) (zCo.fr w8 (fun j => (w9F 344 j rfl))) ?_) (fun _ _ q => q)
          intro w19v w19x0 w19a w19b
          show zGo X l 4 0 0 274 32 [(0, .ref 336), (1, .int a), (2, .int b), (3, .int w9x3)] [.int w19v] w9M _
          by_cases w20 : w19v.toInt ≠ 0
          · refine zs_if_neT (pc := 32) t274_32 rfl (by omega) ?_
            refine zs_aload_n (pc := 38) t274_38 rfl ?_
            refine zs_aload_n (pc := 39) t274_39 rfl ?_
            refine zs_get (pc := 40) t274_40 (by decide) (zk1 (w9s.k fk_zMm_336)) (w9s.p rfl fv_zMm_336_17) ?_
            refine zs_iload_n (pc := 43) t274_43 rfl ?_
            have w21 := zrg (zI w7M 344 w13n)
            refine zs_iald (pc := 44) t274_44 (j := w13n) (by decide) (zk1 (w9s.k fk_zMm_344)) (show w9x3.toInt = ((w13n : Nat) : Int) by omega) (zk2 (w9s.k fk_zMm_344) (by omega)) ((w9F 344 w13n rfl).trans rfl) ?_
            refine zs_invV (pc := 45) (k := 336) (as' := [.int (zI w7M 344 w13n)]) (st := []) t274_45 mf277 rfl rfl (Or.inl ⟨by decide, (zk1 (w9s.k fk_zMm_336))⟩) ⟨by decide, by decide, Nat.le_of_ble_eq_true rfl, Nat.le_of_ble_eq_true rfl⟩ (U277 w9s w9I (zRw.fr' x0 (fun j hj => ((w9F 337 j rfl).trans (w7F 337 j rfl)))) x1 (zLf.fr x2 (fun j => ((w9F 343 j rfl).trans (w7F 343 j rfl)))) (zCo.fr w8 (fun j => (w9F 344 j rfl))) ?_) (fun _ _ q => q)
            intro w22v w22x0 w22x1
            have w22g := zrg w22v
            show zGo X l 4 0 0 274 48 [(0, .ref 336), (1, .int a), (2, .int b), (3, .int w9x3)] [.int w22v] w9M _
            have w23 := vot.rg (F := F) (L := L) (k := b.toInt) (t := a.toInt) (b := (zI w7M 344 w13n).toInt)
            refine zs_istore (pc := 48) t274_48 (ls' := [(4, .int w22v), (0, .ref 336), (1, .int a), (2, .int b), (3, .int w9x3)]) (zml mf274 (by decide)) rfl ?_
            refine zs_aload_n (pc := 50) t274_50 rfl ?_
            have w24 := zrg (zI w9M 336 18)
            refine zs_get (pc := 51) t274_51 (by decide) (zk1 (w9s.k fk_zMm_336)) (zfvi rfl rfl) ?_
            by_cases w25 : (zI w9M 336 18).toInt ≤ 0
            · refine zs_if_leT (pc := 54) t274_54 rfl (by omega) ?_
              refine zs_aload_n (pc := 92) t274_92 rfl ?_
              refine zs_iload (pc := 93) t274_93 rfl ?_
              have w26 : zIv mLo mHi (zsI w9M 336 18 w22v) := zIv.put w9I (show (-2147483648) ≤ w22v.toInt ∧ w22v.toInt ≤ 2147483647 from zrg w22v)
              refine zs_putI (pc := 95) t274_95 (zk1 (w9s.k fk_zMm_336)) rfl ?_
              refine zs_aload_n (pc := 98) t274_98 rfl ?_
              refine zs_iload_n (pc := 99) t274_99 rfl ?_
              have w27 : zIv mLo mHi (zsI (zsI w9M 336 18 w22v) 336 19 b) := zIv.put w26 (show (-2147483648) ≤ b.toInt ∧ b.toInt ≤ 2147483647 from zrg b)
              refine zs_putI (pc := 100) t274_100 (zk1 (w9s.k fk_zMm_336)) rfl ?_
              refine zs_aload_n (pc := 103) t274_103 rfl ?_
              refine zs_iload_n (pc := 104) t274_104 rfl ?_
              have w28 : zIv mLo mHi (zsI (zsI (zsI w9M 336 18 w22v) 336 19 b) 336 20 a) := zIv.put w27 (show (-2147483648) ≤ a.toInt ∧ a.toInt ≤ 2147483647 from zrg a)
              refine zs_putI (pc := 105) t274_105 (zk1 (w9s.k fk_zMm_336)) rfl ?_
              refine zs_aload_n (pc := 108) t274_108 rfl ?_
              refine zs_aload_n (pc := 109) t274_109 rfl ?_
              refine zs_get (pc := 110) t274_110 (by decide) (zk1 (w9s.k fk_zMm_336)) (w9s.p rfl fv_zMm_336_17) ?_
              refine zs_iload_n (pc := 113) t274_113 rfl ?_
              refine zs_iald (pc := 114) t274_114 (j := w13n) (by decide) (zk1 (w9s.k fk_zMm_344)) (show w9x3.toInt = ((w13n : Nat) : Int) by omega) (zk2 (w9s.k fk_zMm_344) (by omega)) ((zIo (by decide)).trans ((zIo (by decide)).trans ((zIo (by decide)).trans ((w9F 344 w13n rfl).trans rfl)))) ?_
              have w29 : zIv mLo mHi (zsI (zsI (zsI (zsI w9M 336 18 w22v) 336 19 b) 336 20 a) 336 21 (zI w7M 344 w13n)) := zIv.put w28 (show (-2147483648) ≤ (zI w7M 344 w13n).toInt ∧ (zI w7M 344 w13n).toInt ≤ 2147483647 from zrg (zI w7M 344 w13n))
              have w30 : zPB (zsI (zsI (zsI (zsI w9M 336 18 w22v) 336 19 b) 336 20 a) 336 21 (zI w7M 344 w13n)) := zPB.mk w22x0 (zLy.fr hLy (w9F.eq rfl))
              refine zs_putI (pc := 115) t274_115 (zk1 (w9s.k fk_zMm_336)) rfl ?_
              obtain ⟨w31v, w31e, w31⟩ := ziadd (a := w9x3) (b := Int32.ofInt 1) rfl (show (Int32.ofInt 1).toInt = 1 by decide) (by omega) (by omega)
              refine zs_iinc (pc := 118) t274_118 (ls' := [(3, .int w31v), (4, .int w22v), (0, .ref 336), (1, .int a), (2, .int b)]) (zml mf274 (by decide)) rfl (c := w31v) w31e rfl ?_
              refine zs_goto (pc := 121) t274_121 ?_
              refine zGo.locals (ls' := [(0, .ref 336), (1, .int a), (2, .int b), (3, .int w31v)]) (by simp) ?_
              have w32 := w31
              have w33 : (zI (zsI (zsI (zsI (zsI w9M 336 18 w22v) 336 19 b) 336 20 a) 336 21 (zI w7M 344 w13n)) 336 18).toInt = w22v.toInt := (congrArg Int32.toInt ((zIoj (by decide)).trans ((zIoj (by decide)).trans ((zIoj (by decide)).trans zIs)))).trans rfl
              have w34 : (zI (zsI (zsI (zsI (zsI w9M 336 18 w22v) 336 19 b) 336 20 a) 336 21 (zI w7M 344 w13n)) 336 19).toInt = b.toInt := (congrArg Int32.toInt ((zIoj (by decide)).trans ((zIoj (by decide)).trans zIs))).trans rfl
              have w35 : (zI (zsI (zsI (zsI (zsI w9M 336 18 w22v) 336 19 b) 336 20 a) 336 21 (zI w7M 344 w13n)) 336 20).toInt = a.toInt := (congrArg Int32.toInt ((zIoj (by decide)).trans zIs)).trans rfl
              have w36 : (zI (zsI (zsI (zsI (zsI w9M 336 18 w22v) 336 19 b) 336 20 a) 336 21 (zI w7M 344 w13n)) 336 21).toInt = (zI w7M 344 w13n).toInt := (congrArg Int32.toInt zIs).trans rfl
              exact w9ih (w9m - 1) (by omega) w31v (zsI (zsI (zsI (zsI w9M 336 18 w22v) 336 19 b) 336 20 a) 336 21 (zI w7M 344 w13n)) ⟨by omega, by omega⟩ w9s w29 ((((((zFr.refl).trans (w9F.mono rfl)).put rfl).put rfl).put rfl).put rfl) w9J w30 (by omega) (fun n hq => by obtain rfl : n = w13n + 1 := (by omega); have hL := x2.y (h := w13n) (by omega) (by omega); have hc := w8 w13n (by omega) hL; have hw := x1.2.2.1 w13n (by omega); have hv := vot.one (l := (F (30 + 4 * w13n)).toNat) (n := w13n) (by omega) hL hc.symm (by omega) (by omega); exact zBz.cs ((w9t0 w13n (by omega)).s4 hc.symm w22x1 (by unfold zIr; omega) (by have z := w22x1; omega) (Or.inl (by omega))) (by omega) (by omega) (by omega) (by omega)) (by omega)
            · refine zs_if_leF (pc := 54) t274_54 rfl (by omega) ?_
              refine zs_iload (pc := 57) t274_57 rfl ?_
              refine zs_iload_n (pc := 59) t274_59 rfl ?_
              refine zs_iload_n (pc := 60) t274_60 rfl ?_
              refine zs_aload_n (pc := 61) t274_61 rfl ?_
              refine zs_get (pc := 62) t274_62 (by decide) (zk1 (w9s.k fk_zMm_336)) (w9s.p rfl fv_zMm_336_17) ?_
              refine zs_iload_n (pc := 65) t274_65 rfl ?_
              refine zs_iald (pc := 66) t274_66 (j := w13n) (by decide) (zk1 (w9s.k fk_zMm_344)) (show w9x3.toInt = ((w13n : Nat) : Int) by omega) (zk2 (w9s.k fk_zMm_344) (by omega)) ((w9F 344 w13n rfl).trans rfl) ?_
              refine zs_aload_n (pc := 67) t274_67 rfl ?_
              refine zs_get (pc := 68) t274_68 (by decide) (zk1 (w9s.k fk_zMm_336)) (zfvi rfl rfl) ?_
              refine zs_aload_n (pc := 71) t274_71 rfl ?_
              have w37 := zrg (zI w9M 336 19)
              refine zs_get (pc := 72) t274_72 (by decide) (zk1 (w9s.k fk_zMm_336)) (zfvi rfl rfl) ?_
              refine zs_aload_n (pc := 75) t274_75 rfl ?_
              have w38 := zrg (zI w9M 336 20)
              refine zs_get (pc := 76) t274_76 (by decide) (zk1 (w9s.k fk_zMm_336)) (zfvi rfl rfl) ?_
              refine zs_aload_n (pc := 79) t274_79 rfl ?_
              have w39 := zrg (zI w9M 336 21)
              refine zs_get (pc := 80) t274_80 (by decide) (zk1 (w9s.k fk_zMm_336)) (zfvi rfl rfl) ?_
              have w40 := (w9t0 w13n (by omega)).rg x1
              have w40r := w40.2.2 (by omega)
              refine zs_invS (pc := 83) (as := [.int w22v, .int b, .int a, .int (zI w7M 344 w13n), .int (zI w9M 336 18), .int (zI w9M 336 19), .int (zI w9M 336 20), .int (zI w9M 336 21)]) (st := []) t274_83 (by decide) mf279 rfl rfl ⟨by decide, by decide, Nat.le_of_ble_eq_true rfl, Nat.le_of_ble_eq_true rfl⟩ (U279 w9s w9I ⟨by omega, by omega⟩ ⟨by omega, by omega⟩ ⟨by omega, by omega⟩ ⟨by omega, by omega⟩ ⟨by omega, by omega⟩ ⟨by omega, by omega⟩ ?_) (fun _ _ q => q)
              intro w41v w41x0 w41a w41b
              show zGo X l 4 0 0 274 86 [(4, .int w22v), (0, .ref 336), (1, .int a), (2, .int b), (3, .int w9x3)] [.int w41v] w9M _
              by_cases w42 : w41v.toInt ≠ 0
              · refine zs_if_neT (pc := 86) t274_86 rfl (by omega) ?_
                refine zs_aload_n (pc := 92) t274_92 rfl ?_
                refine zs_iload (pc := 93) t274_93 rfl ?_
                have w43 : zIv mLo mHi (zsI w9M 336 18 w22v) := zIv.put w9I (show (-2147483648) ≤ w22v.toInt ∧ w22v.toInt ≤ 2147483647 from zrg w22v)
                refine zs_putI (pc := 95) t274_95 (zk1 (w9s.k fk_zMm_336)) rfl ?_
                refine zs_aload_n (pc := 98) t274_98 rfl ?_
                refine zs_iload_n (pc := 99) t274_99 rfl ?_
                have w44 : zIv mLo mHi (zsI (zsI w9M 336 18 w22v) 336 19 b) := zIv.put w43 (show (-2147483648) ≤ b.toInt ∧ b.toInt ≤ 2147483647 from zrg b)
                refine zs_putI (pc := 100) t274_100 (zk1 (w9s.k fk_zMm_336)) rfl ?_
                refine zs_aload_n (pc := 103) t274_103 rfl ?_
                refine zs_iload_n (pc := 104) t274_104 rfl ?_
                have w45 : zIv mLo mHi (zsI (zsI (zsI w9M 336 18 w22v) 336 19 b) 336 20 a) := zIv.put w44 (show (-2147483648) ≤ a.toInt ∧ a.toInt ≤ 2147483647 from zrg a)
                refine zs_putI (pc := 105) t274_105 (zk1 (w9s.k fk_zMm_336)) rfl ?_
                refine zs_aload_n (pc := 108) t274_108 rfl ?_
                refine zs_aload_n (pc := 109) t274_109 rfl ?_
                refine zs_get (pc := 110) t274_110 (by decide) (zk1 (w9s.k fk_zMm_336)) (w9s.p rfl fv_zMm_336_17) ?_
                refine zs_iload_n (pc := 113) t274_113 rfl ?_
                refine zs_iald (pc := 114) t274_114 (j := w13n) (by decide) (zk1 (w9s.k fk_zMm_344)) (show w9x3.toInt = ((w13n : Nat) : Int) by omega) (zk2 (w9s.k fk_zMm_344) (by omega)) ((zIo (by decide)).trans ((zIo (by decide)).trans ((zIo (by decide)).trans ((w9F 344 w13n rfl).trans rfl)))) ?_
                have w46 : zIv mLo mHi (zsI (zsI (zsI (zsI w9M 336 18 w22v) 336 19 b) 336 20 a) 336 21 (zI w7M 344 w13n)) := zIv.put w45 (show (-2147483648) ≤ (zI w7M 344 w13n).toInt ∧ (zI w7M 344 w13n).toInt ≤ 2147483647 from zrg (zI w7M 344 w13n))
                have w47 : zPB (zsI (zsI (zsI (zsI w9M 336 18 w22v) 336 19 b) 336 20 a) 336 21 (zI w7M 344 w13n)) := zPB.mk w22x0 (zLy.fr hLy (w9F.eq rfl))
                refine zs_putI (pc := 115) t274_115 (zk1 (w9s.k fk_zMm_336)) rfl ?_
                obtain ⟨w48v, w48e, w48⟩ := ziadd (a := w9x3) (b := Int32.ofInt 1) rfl (show (Int32.ofInt 1).toInt = 1 by decide) (by omega) (by omega)
                refine zs_iinc (pc := 118) t274_118 (ls' := [(3, .int w48v), (4, .int w22v), (0, .ref 336), (1, .int a), (2, .int b)]) (zml mf274 (by decide)) rfl (c := w48v) w48e rfl ?_
                refine zs_goto (pc := 121) t274_121 ?_
                refine zGo.locals (ls' := [(0, .ref 336), (1, .int a), (2, .int b), (3, .int w48v)]) (by simp) ?_
                have w49 := w48
                have w50 : (zI (zsI (zsI (zsI (zsI w9M 336 18 w22v) 336 19 b) 336 20 a) 336 21 (zI w7M 344 w13n)) 336 18).toInt = w22v.toInt := (congrArg Int32.toInt ((zIoj (by decide)).trans ((zIoj (by decide)).trans ((zIoj (by decide)).trans zIs)))).trans rfl
                have w51 : (zI (zsI (zsI (zsI (zsI w9M 336 18 w22v) 336 19 b) 336 20 a) 336 21 (zI w7M 344 w13n)) 336 19).toInt = b.toInt := (congrArg Int32.toInt ((zIoj (by decide)).trans ((zIoj (by decide)).trans zIs))).trans rfl
                have w52 : (zI (zsI (zsI (zsI (zsI w9M 336 18 w22v) 336 19 b) 336 20 a) 336 21 (zI w7M 344 w13n)) 336 20).toInt = a.toInt := (congrArg Int32.toInt ((zIoj (by decide)).trans zIs)).trans rfl
                have w53 : (zI (zsI (zsI (zsI (zsI w9M 336 18 w22v) 336 19 b) 336 20 a) 336 21 (zI w7M 344 w13n)) 336 21).toInt = (zI w7M 344 w13n).toInt := (congrArg Int32.toInt zIs).trans rfl
                exact w9ih (w9m - 1) (by omega) w48v (zsI (zsI (zsI (zsI w9M 336 18 w22v) 336 19 b) 336 20 a) 336 21 (zI w7M 344 w13n)) ⟨by omega, by omega⟩ w9s w46 ((((((zFr.refl).trans (w9F.mono rfl)).put rfl).put rfl).put rfl).put rfl) w9J w47 (by omega) (fun n hq => by obtain rfl : n = w13n + 1 := (by omega); have hL := x2.y (h := w13n) (by omega) (by omega); have hc := w8 w13n (by omega) hL; have hw := x1.2.2.1 w13n (by omega); have hv := vot.one (l := (F (30 + 4 * w13n)).toNat) (n := w13n) (by omega) hL hc.symm (by omega) (by omega); exact zBz.cs ((w9t0 w13n (by omega)).s4 hc.symm w22x1 (by unfold zIr; omega) (by have z := w22x1; omega) (Or.inr (w41x0.elim (fun q => q.2) (fun q => absurd q.1 (by omega))))) (by omega) (by omega) (by omega) (by omega)) (by omega)
              · refine zs_if_neF (pc := 86) t274_86 rfl (by omega) ?_
                refine zs_goto (pc := 89) t274_89 ?_
                obtain ⟨w54v, w54e, w54⟩ := ziadd (a := w9x3) (b := Int32.ofInt 1) rfl (show (Int32.ofInt 1).toInt = 1 by decide) (by omega) (by omega)
                refine zs_iinc (pc := 118) t274_118 (ls' := [(3, .int w54v), (4, .int w22v), (0, .ref 336), (1, .int a), (2, .int b)]) (zml mf274 (by decide)) rfl (c := w54v) w54e rfl ?_
                refine zs_goto (pc := 121) t274_121 ?_
                refine zGo.locals (ls' := [(0, .ref 336), (1, .int a), (2, .int b), (3, .int w54v)]) (by simp) ?_
                have w55 := w54
                exact w9ih (w9m - 1) (by omega) w54v w9M ⟨by omega, by omega⟩ w9s w9I ((zFr.refl).trans (w9F.mono rfl)) w9J w9PB (by omega) (fun n hq => by obtain rfl : n = w13n + 1 := (by omega); have hL := x2.y (h := w13n) (by omega) (by omega); have hc := w8 w13n (by omega) hL; exact (w9t0 w13n (by omega)).s3 hc.symm w22x1 (by omega) (w41x0.elim (fun q => absurd q.1 (by omega)) (fun q => q.2))) (by omega)
          · refine zs_if_neF (pc := 32) t274_32 rfl (by omega) ?_
            refine zs_goto (pc := 35) t274_35 ?_
            obtain ⟨w56v, w56e, w56⟩ := ziadd (a := w9x3) (b := Int32.ofInt 1) rfl (show (Int32.ofInt 1).toInt = 1 by decide) (by omega) (by omega)
            refine zs_iinc (pc := 118) t274_118 (ls' := [(3, .int w56v), (0, .ref 336), (1, .int a), (2, .int b)]) (zml mf274 (by decide)) rfl (c := w56v) w56e rfl ?_
            refine zs_goto (pc := 121) t274_121 ?_
            refine zGo.locals (ls' := [(0, .ref 336), (1, .int a), (2, .int b), (3, .int w56v)]) (by simp) ?_
            have w57 := w56
            exact w9ih (w9m - 1) (by omega) w56v w9M ⟨by omega, by omega⟩ w9s w9I ((zFr.refl).trans (w9F.mono rfl)) w9J w9PB (by omega) (fun n hq => by obtain rfl : n = w13n + 1 := (by omega); have hL := x2.y (h := w13n) (by omega) (by omega); have hc := w8 w13n (by omega) hL; obtain ⟨j, j1, j2, j3⟩ := w19x0.resolve_left (by omega); exact (w9t0 w13n (by omega)).s2 (j := j) (by omega) j2 ((j3 w13n (by omega)).trans ((congrArg Int32.toInt (w9F 344 w13n rfl)).trans hc))) (by omega)
  refine zGo.locals (ls' := [(0, .ref 336), (1, .int a), (2, .int b), (3, .int (0 : Int32))]) (by simp) ?_
  have w58 := li0
  have w59 := zrg (zI M 336 18)
  have w60 : (zI w7M 336 18).toInt = (zI M 336 18).toInt := (congrArg Int32.toInt ((w7F 336 18 rfl).trans rfl)).trans rfl
  have w61 := zrg (zI M 336 19)
  have w62 : (zI w7M 336 19).toInt = (zI M 336 19).toInt := (congrArg Int32.toInt ((w7F 336 19 rfl).trans rfl)).trans rfl
  have w63 := zrg (zI M 336 20)
  have w64 : (zI w7M 336 20).toInt = (zI M 336 20).toInt := (congrArg Int32.toInt ((w7F 336 20 rfl).trans rfl)).trans rfl
  have w65 := zrg (zI M 336 21)
  have w66 : (zI w7M 336 21).toInt = (zI M 336 21).toInt := (congrArg Int32.toInt ((w7F 336 21 rfl).trans rfl)).trans rfl
  exact w9L ((60 - 0 : Int).toNat) (0 : Int32) w7M ⟨by decide, by decide⟩ w7s w7I zFr.refl rfl (zPB.fr pB (w7F.eq rfl)) (by omega) (fun n hq => (zBz.cs x3 (by omega) (by omega) (by omega) (by omega)).s0 (by omega)) (by omega)
theorem U270 {X : zX} {l : Launch} {M : zM} {Q : Option Value → zM → Prop} {a : Int32} (hs : zSk zMm M) (hI : zIv mLo mHi M) {F : Nat → Int} (x0 : zRw M 0 F) (x1 : zWF F) (hQ : ∀ M', zSk zMm M' → zIv mLo mHi M' → zFr [(343, 343, none), (350, 350, none)] M M' → zJ M' 351 = zJ M 351 → (zLf M' F (zL0 F a.toInt)) → (∀ h : Nat, (h : Int) < F 1 → (zI M' 350 h).toInt = -2) → Q none M') : zCall X l 2 0 0 270 [.ref 336, .int a] M Q := by
  have ga := zrg a
  refine zs_in (by decide) mf270 (Nat.le_of_ble_eq_true rfl) ?_
  show zGo X l 2 0 0 270 0 [(0, .ref 336), (1, .int a)] [] M _
  have f1 := x1.1
  have f3 := x1.2.2.2
  have w1 := ibA0 hI
  have w2 : (zI M 337 0).toInt = (zI M 337 0).toInt := (congrArg Int32.toInt rfl).trans rfl
  have e0 : (zI M 337 0).toInt = F 0 := x0.at (by decide) (by decide) (by decide)
  have w3 := ibA1 hI
  have w4 : (zI M 337 1).toInt = (zI M 337 1).toInt := (congrArg Int32.toInt rfl).trans rfl
  have e1 : (zI M 337 1).toInt = F 1 := x0.at (by decide) (by decide) (by decide)
  have w5 := ibA2 hI
  have w6 : (zI M 337 2).toInt = (zI M 337 2).toInt := (congrArg Int32.toInt rfl).trans rfl
  have e2 : (zI M 337 2).toInt = F 2 := x0.at (by decide) (by decide) (by decide)
  refine zs_iconst (pc := 0) t270_0 (v := 0) (by decide) ?_
  refine zs_istore_n (pc := 1) t270_1 (ls' := [(2, .int (0 : Int32)), (0, .ref 336), (1, .int a)]) (zml mf270 (by decide)) rfl ?_
  have w7L : ∀ (m : Nat) (w7x2 : Int32) (w7M : zM), (0 ≤ w7x2.toInt ∧ w7x2.toInt ≤ 60) → zSk zMm w7M → zIv mLo mHi w7M → zFr [(343, 343, none), (350, 350, none)] M w7M → zJ w7M 351 = zJ M 351 → (w7x2.toInt ≤ F 1) → (∀ n : Nat, (n : Int) = w7x2.toInt → zLz w7M F a.toInt n) → 60 - w7x2.toInt ≤ (m : Int) → zGo X l 2 0 0 270 2 [(0, .ref 336), (1, .int a), (2, .int w7x2)] [] w7M Q := by
    intro m
    induction m using Nat.strongRecOn with
    | ind w7m w7ih =>
      intro w7x2 w7M w7b2 w7s w7I w7F w7J w7r0 w7t0 w7q
      refine zs_iload_n (pc := 2) t270_2 rfl ?_
      refine zs_aload_n (pc := 3) t270_3 rfl ?_
      refine zs_get (pc := 4) t270_4 (by decide) (zk1 (w7s.k fk_zMm_336)) (w7s.p rfl fv_zMm_336_0) ?_
      refine zs_iconst (pc := 7) t270_7 (v := 1) (by decide) ?_
      have w8 : (zI M 337 1).toInt = F 1 := x0.at (by decide) (by decide) (by decide)
      refine zs_iald (pc := 8) t270_8 (j := 1) (by decide) (zk1 (w7s.k fk_zMm_337)) li1 (zk2 (w7s.k fk_zMm_337) (by decide)) ((w7F 337 1 rfl).trans rfl) ?_
      by_cases w9 : (zI M 337 1).toInt ≤ w7x2.toInt
      · refine zs_icmp_geT (pc := 9) t270_9 rfl rfl (by omega) ?_
        obtain ⟨w10n, w10⟩ : ∃ n : Nat, w7x2.toInt = (n : Int) := ⟨(w7x2.toInt).toNat, by omega⟩
        exact zs_vret (pc := 38) t270_38 mr270 (hQ _ w7s w7I ((zFr.refl).trans (w7F.mono rfl)) w7J ((w7t0 w10n (by omega)).lf (by omega)) (fun h hh => ((w7t0 w10n (by omega)) h (by omega)).2))
      · refine zs_icmp_geF (pc := 9) t270_9 rfl rfl (by omega) ?_
        refine zs_aload_n (pc := 12) t270_12 rfl ?_
        refine zs_get (pc := 13) t270_13 (by decide) (zk1 (w7s.k fk_zMm_336)) (w7s.p rfl fv_zMm_336_16) ?_
        refine zs_iload_n (pc := 16) t270_16 rfl ?_
        refine zs_aload_n (pc := 17) t270_17 rfl ?_
        refine zs_iload_n (pc := 18) t270_18 rfl ?_
        refine zs_iload_n (pc := 19) t270_19 rfl ?_
        have w11 : (zI w7M 337 1).toInt = (zI M 337 1).toInt := (congrArg Int32.toInt ((w7F 337 1 rfl).trans rfl)).trans rfl
        refine zs_invV (pc := 20) (k := 336) (as' := [.int w7x2, .int a]) (st := [.int w7x2, .ref 343]) t270_20 mf271 rfl rfl (Or.inl ⟨by decide, (zk1 (w7s.k fk_zMm_336))⟩) ⟨by decide, by decide, Nat.le_of_ble_eq_true rfl, Nat.le_of_ble_eq_true rfl⟩ (R271 w7s w7I ⟨by omega, by omega⟩ (by omega) (zRw.fr' x0 (fun j hj => (w7F 337 j rfl))) x1 ?_) (fun _ _ q => q)
        intro w12v w12x0 w12a w12b
        show zGo X l 2 0 0 270 23 [(0, .ref 336), (1, .int a), (2, .int w7x2)] [.int w12v, .int w7x2, .ref 343] w7M _
        obtain ⟨w13n, w13⟩ : ∃ n : Nat, w7x2.toInt = (n : Int) := ⟨(w7x2.toInt).toNat, by omega⟩
        have w14e : vp_nar .boolean w12v = w12v := zb01 (by omega)
        have w15 : zIv mLo mHi (zsI w7M 343 w13n w12v) := zIv.put w7I (show 0 ≤ w12v.toInt ∧ w12v.toInt ≤ 1 from ⟨by omega, by omega⟩)
        refine zs_bastZ (pc := 23) t270_23 (j := w13n) (by decide) (zk1 (w7s.k fk_zMm_343)) (show w7x2.toInt = ((w13n : Nat) : Int) by omega) (zk2 (w7s.k fk_zMm_343) (by omega)) w14e ?_
        refine zs_aload_n (pc := 24) t270_24 rfl ?_
        refine zs_get (pc := 25) t270_25 (by decide) (zk1 (w7s.k fk_zMm_336)) (w7s.p rfl fv_zMm_336_28) ?_
        refine zs_iload_n (pc := 28) t270_28 rfl ?_
        refine zs_bipush (pc := 29) t270_29 (v := -2) (by decide) ?_
        have w16 : zIv mLo mHi (zsI (zsI w7M 343 w13n w12v) 350 w13n (-2 : Int32)) := zIv.put w15 (show (-2147483648) ≤ (-2 : Int32).toInt ∧ (-2 : Int32).toInt ≤ 2147483647 from zrg (-2 : Int32))
        refine zs_iast (pc := 31) t270_31 (j := w13n) (by decide) (zk1 (w7s.k fk_zMm_350)) (show w7x2.toInt = ((w13n : Nat) : Int) by omega) (zk2 (w7s.k fk_zMm_350) (by omega)) ?_
        obtain ⟨w17v, w17e, w17⟩ := ziadd (a := w7x2) (b := Int32.ofInt 1) rfl (show (Int32.ofInt 1).toInt = 1 by decide) (by omega) (by omega)
        refine zs_iinc (pc := 32) t270_32 (ls' := [(2, .int w17v), (0, .ref 336), (1, .int a)]) (zml mf270 (by decide)) rfl (c := w17v) w17e rfl ?_
        refine zs_goto (pc := 35) t270_35 ?_
        refine zGo.locals (ls' := [(0, .ref 336), (1, .int a), (2, .int w17v)]) (by simp) ?_
        have w18 := w17
        exact w7ih (w7m - 1) (by omega) w17v (zsI (zsI w7M 343 w13n w12v) 350 w13n (-2 : Int32)) ⟨by omega, by omega⟩ w7s w16 ((((zFr.refl).trans (w7F.mono rfl)).put rfl).put rfl) w7J (by omega) (fun n hq => by obtain rfl : n = w13n + 1 := (by omega); exact (w7t0 w13n (by omega)).put (w12x0 w13n (by omega) (by omega)) (by decide)) (by omega)
  refine zGo.locals (ls' := [(0, .ref 336), (1, .int a), (2, .int (0 : Int32))]) (by simp) ?_
  have w19 := li0
  exact w7L ((60 - 0 : Int).toNat) (0 : Int32) M ⟨by decide, by decide⟩ hs hI zFr.refl rfl (by omega) (fun n hq => by obtain rfl : n = 0 := (by omega); exact fun h z => absurd z (by omega)) (by omega)
set_option maxHeartbeats 8000000 in
theorem U281 {X : zX} {l : Launch} {M : zM} {Q : Option Value → zM → Prop} (hs : zSk zMm M) (hI : zIv mLo mHi M) {F : Nat → Int} {L : Nat → Bool} {n : Nat} {τ : Nat → zTkk} (pR : zPR M) (pB : zPB M) (pT : zPT M) (u0 : 2 ≤ (zI M 336 18).toInt) (u1 : (zI M 336 22).toInt < 20) (x0 : zRw M 0 F) (x1 : zWF F) (x2 : zLf M F L) (x3 : zBe F L ((zI M 336 19).toInt, (zI M 336 20).toInt, (zI M 336 21).toInt) (zI M 336 18).toInt) (x4 : zTms M F n τ ∧ (zI M 336 22).toInt = (n : Int)) (hQ : ∀ M', zSk zMm M' → zIv mLo mHi M' → zFr [(344, 344, none), (349, 349, none), (350, 350, none), (343, 343, none), (345, 345, none), (346, 346, none), (347, 347, none), (348, 348, none), (336, 336, some 22)] M M' → zJ M' 351 = zJ M 351 → zPT M' → ((zI M' 336 22).toInt = (zI M 336 22).toInt + 1) → (∃ q : zTkk, zTq F L q ∧ zLf M' F (zrmv F L q.2.2) ∧ zTms M' F (n + 1) (uT τ n q)) → Q none M') : zCall X l 4 0 0 281 [.ref 336] M Q := by
  refine zs_in (by decide) mf281 (Nat.le_of_ble_eq_true rfl) ?_
  show zGo X l 4 0 0 281 0 [(0, .ref 336)] [] M _
  have f1 := x1.1
  have f3 := x1.2.2.2
  have w1 := ibA0 hI
  have w2 : (zI M 337 0).toInt = (zI M 337 0).toInt := (congrArg Int32.toInt rfl).trans rfl
  have e0 : (zI M 337 0).toInt = F 0 := x0.at (by decide) (by decide) (by decide)
  have w3 := ibA1 hI
  have w4 : (zI M 337 1).toInt = (zI M 337 1).toInt := (congrArg Int32.toInt rfl).trans rfl
  have e1 : (zI M 337 1).toInt = F 1 := x0.at (by decide) (by decide) (by decide)
  have w5 := ibA2 hI
  have w6 : (zI M 337 2).toInt = (zI M 337 2).toInt := (congrArg Int32.toInt rfl).trans rfl
  have e2 : (zI M 337 2).toInt = F 2 := x0.at (by decide) (by decide) (by decide)
  obtain ⟨g1, g2, a1, a2, b1, b2, nl, d1, d2⟩ := pB u0
  have w7 : (zI M 337 0).toInt = (zI M 337 0).toInt := (congrArg Int32.toInt rfl).trans rfl
  have w8 : (zI M 337 1).toInt = (zI M 337 1).toInt := (congrArg Int32.toInt rfl).trans rfl
  have l1 : zly M g1 < (zI M 337 0).toInt := by
    have z := pR.1.2 g1 a1
    unfold zrow at z
    rw [show 506 * 0 + (30 + 4 * g1) = 30 + 4 * g1 by omega] at z
    exact z
  have k1 : 0 ≤ zly M g1 ∧ zly M g1 ≤ 7 := ibL (j := 30 + 4 * g1) hI (by omega) (by omega) (by omega)
  have l2 : zly M g2 < (zI M 337 0).toInt := by
    have z := pR.1.2 g2 a2
    unfold zrow at z
    rw [show 506 * 0 + (30 + 4 * g2) = 30 + 4 * g2 by omega] at z
    exact z
  have k2 : 0 ≤ zly M g2 ∧ zly M g2 ≤ 7 := ibL (j := 30 + 4 * g2) hI (by omega) (by omega) (by omega)
  have nl : zly M g1 ≠ zly M g2 := nl
  have w9 := ib336_22 hI
  have w10 : (zI M 336 22).toInt = (zI M 336 22).toInt := (congrArg Int32.toInt rfl).trans rfl
  obtain ⟨w11n, w11⟩ : ∃ n : Nat, (zI M 336 22).toInt = (n : Int) := ⟨((zI M 336 22).toInt).toNat, by omega⟩
  have hz : -F 5 ≤ (zI M 336 19).toInt ∧ (zI M 336 19).toInt ≤ F 5 ∧ -F 6 ≤ (zI M 336 20).toInt ∧ (zI M 336 20).toInt ≤ F 6 := x3.1
  have e7 : (zI M 337 7).toInt = F 7 := x0.at (by decide) (by decide) (by decide)
  have hb : -150000000 ≤ (zI M 336 21).toInt * F 7 ∧ (zI M 336 21).toInt * F 7 ≤ 150000000 := x3.b x1
  refine zs_aload_n (pc := 0) t281_0 rfl ?_
  refine zs_get (pc := 1) t281_1 (by decide) (zk1 (hs.k fk_zMm_336)) (zfvi rfl rfl) ?_
  refine zs_istore_n (pc := 4) t281_4 (ls' := [(1, .int (zI M 336 22)), (0, .ref 336)]) (zml mf281 (by decide)) rfl ?_
  refine zs_aload_n (pc := 5) t281_5 rfl ?_
  have w12 := zrg (zI M 336 21)
  refine zs_get (pc := 6) t281_6 (by decide) (zk1 (hs.k fk_zMm_336)) (zfvi rfl rfl) ?_
  refine zs_aload_n (pc := 9) t281_9 rfl ?_
  refine zs_get (pc := 10) t281_10 (by decide) (zk1 (hs.k fk_zMm_336)) (hs.p rfl fv_zMm_336_0) ?_
  refine zs_bipush (pc := 13) t281_13 (v := 7) (by decide) ?_
  have w13 := ibA7 hI
  have w14 : (zI M 337 7).toInt = F 7 := x0.at (by decide) (by decide) (by decide)
  refine zs_iald (pc := 15) t281_15 (j := 7) (by decide) (zk1 (hs.k fk_zMm_337)) li7 (zk2 (hs.k fk_zMm_337) (by decide)) rfl ?_
  obtain ⟨w15v, w15⟩ : ∃ v, (zI M 336 21) * (zI M 337 7) = v := ⟨_, rfl⟩
  have w15g := zrg w15v
  refine zs_imul (pc := 16) t281_16 (c := w15v) w15 ?_
  refine zs_aload_n (pc := 17) t281_17 rfl ?_
  refine zs_get (pc := 18) t281_18 (by decide) (zk1 (hs.k fk_zMm_336)) (hs.p rfl fv_zMm_336_0) ?_
  refine zs_bipush (pc := 21) t281_21 (v := 7) (by decide) ?_
  have w16 : (zI M 337 7).toInt = F 7 := x0.at (by decide) (by decide) (by decide)
  refine zs_iald (pc := 23) t281_23 (j := 7) (by decide) (zk1 (hs.k fk_zMm_337)) li7 (zk2 (hs.k fk_zMm_337) (by decide)) rfl ?_
  refine zs_iconst (pc := 24) t281_24 (v := 2) (by decide) ?_
  obtain ⟨w17v, w17⟩ : ∃ v, (zI M 337 7) / (2 : Int32) = v := ⟨_, rfl⟩
  have w17g : w17v.toInt = (zI M 337 7).toInt / 2 := by rw [← w17]; exact zdivp rfl li2 (by omega) (by decide)
  refine zs_idiv (pc := 25) t281_25 (by decide) (c := w17v) w17 ?_
  obtain ⟨w18v, w18⟩ : ∃ v, v = w15v + w17v := ⟨_, rfl⟩
  have w18g := zrg w18v
  refine zs_iadd (pc := 26) t281_26 (c := w18v) w18.symm ?_
  refine zs_istore_n (pc := 27) t281_27 (ls' := [(2, .int w18v), (1, .int (zI M 336 22)), (0, .ref 336)]) (zml mf281 (by decide)) rfl ?_
  refine zs_aload_n (pc := 28) t281_28 rfl ?_
  refine zs_aload_n (pc := 29) t281_29 rfl ?_
  have w19 := zrg (zI M 336 20)
  refine zs_get (pc := 30) t281_30 (by decide) (zk1 (hs.k fk_zMm_336)) (zfvi rfl rfl) ?_
  refine zs_aload_n (pc := 33) t281_33 rfl ?_
  have w20 := zrg (zI M 336 19)
  refine zs_get (pc := 34) t281_34 (by decide) (zk1 (hs.k fk_zMm_336)) (zfvi rfl rfl) ?_
  have hmid : w18v.toInt = (zI M 336 21).toInt * F 7 + F 7 / 2 := mid.mk w15 w17g w18 rfl e7 hb.1 hb.2 (by omega) (by omega)
  have hmb : -150001000 ≤ w18v.toInt ∧ w18v.toInt ≤ 150001000 := by omega
  refine zs_invV (pc := 37) (k := 336) (as' := [.int (zI M 336 20), .int (zI M 336 19)]) (st := []) t281_37 mf275 rfl rfl (Or.inl ⟨by decide, (zk1 (hs.k fk_zMm_336))⟩) ⟨by decide, by decide, Nat.le_of_ble_eq_true rfl, Nat.le_of_ble_eq_true rfl⟩ (K275 hs hI ?_) (fun _ _ q => q)
  intro w21M w21s w21I w21F w21J w21x0
  have hLy := w21x0
  have c1 : (zI w21M 344 g1).toInt = (zI M 336 21).toInt := by
    rw [hLy g1 (by rw [w21F 337 1 rfl]; exact a1) (by rw [w21F 343 g1 rfl]; exact b1), zcell.fr (fun j => w21F 337 j rfl), d1]
  have c2 : (zI w21M 344 g2).toInt = (zI M 336 21).toInt := by
    rw [hLy g2 (by rw [w21F 337 1 rfl]; exact a2) (by rw [w21F 343 g2 rfl]; exact b2), zcell.fr (fun j => w21F 337 j rfl), d2]
  show zGo X l 4 0 0 281 40 [(2, .int w18v), (1, .int (zI M 336 22)), (0, .ref 336)] [] w21M _
  have w22 : zCo w21M F L (zI M 336 19).toInt (zI M 336 20).toInt := zCo.mk x0 x1 x2 w21x0 (fun j => w21F 337 j rfl) (fun j => w21F 343 j rfl) (by omega) (by omega) (by omega) (by omega)
  refine zs_iconst (pc := 40) t281_40 (v := 0) (by decide) ?_
  refine zs_istore_n (pc := 41) t281_41 (ls' := [(3, .int (0 : Int32)), (2, .int w18v), (1, .int (zI M 336 22)), (0, .ref 336)]) (zml mf281 (by decide)) rfl ?_
  have w23L : ∀ (m : Nat) (w23x3 : Int32) (w23M : zM), (0 ≤ w23x3.toInt ∧ w23x3.toInt ≤ 8) → zSk zMm w23M → zIv mLo mHi w23M → zFr [(349, 349, none), (350, 350, none), (343, 343, none)] w21M w23M → zJ w23M 351 = zJ w21M 351 → zPT w23M → (w23x3.toInt ≤ F 0) → (zOu M w23M w11n w23x3.toInt g1) → (zOu M w23M w11n w23x3.toInt g2) → (∀ i l : Nat, (zI M 336 22).toInt = (i : Int) → (l : Int) = w23x3.toInt → zTw M w23M F L ((zI M 336 19).toInt, (zI M 336 20).toInt, (zI M 336 21).toInt) i l) → 8 - w23x3.toInt ≤ (m : Int) → zGo X l 4 0 0 281 42 [(0, .ref 336), (1, .int (zI M 336 22)), (2, .int w18v), (3, .int w23x3)] [] w23M Q := by
    intro m
    induction m using Nat.strongRecOn with
    | ind w23m w23ih =>
      intro w23x3 w23M w23b3 w23s w23I w23F w23J w23PT w23r0 w23t0 w23t1 w23t2 w23q
      refine zs_iload_n (pc := 42) t281_42 rfl ?_
      refine zs_aload_n (pc := 43) t281_43 rfl ?_
      refine zs_get (pc := 44) t281_44 (by decide) (zk1 (w23s.k fk_zMm_336)) (w23s.p rfl fv_zMm_336_0) ?_
      refine zs_iconst (pc := 47) t281_47 (v := 0) (by decide) ?_
      have w24 : (zI M 337 0).toInt = F 0 := x0.at (by decide) (by decide) (by decide)
      refine zs_iald (pc := 48) t281_48 (j := 0) (by decide) (zk1 (w23s.k fk_zMm_337)) li0 (zk2 (w23s.k fk_zMm_337) (by decide)) ((w23F 337 0 rfl).trans ((w21F 337 0 rfl).trans rfl)) ?_
      by_cases w25 : (zI M 337 0).toInt ≤ w23x3.toInt
      · refine zs_icmp_geT (pc := 49) t281_49 rfl rfl (by omega) ?_
        refine zs_aload_n (pc := 215) t281_215 rfl ?_
        refine zs_get (pc := 216) t281_216 (by decide) (zk1 (w23s.k fk_zMm_336)) (w23s.p rfl fv_zMm_336_23) ?_
        refine zs_iload_n (pc := 219) t281_219 rfl ?_
        refine zs_aload_n (pc := 220) t281_220 rfl ?_
        refine zs_get (pc := 221) t281_221 (by decide) (zk1 (w23s.k fk_zMm_336)) (zfvi rfl ((w23F 336 19 rfl).trans ((w21F 336 19 rfl).trans rfl))) ?_
        have w26 : zIv mLo mHi (zsI w23M 345 w11n (zI M 336 19)) := zIv.put w23I (show (-2147483648) ≤ (zI M 336 19).toInt ∧ (zI M 336 19).toInt ≤ 2147483647 from zrg (zI M 336 19))
        refine zs_iast (pc := 224) t281_224 (j := w11n) (by decide) (zk1 (w23s.k fk_zMm_345)) (show (zI M 336 22).toInt = ((w11n : Nat) : Int) by omega) (zk2 (w23s.k fk_zMm_345) (by omega)) ?_
        refine zs_aload_n (pc := 225) t281_225 rfl ?_
        refine zs_get (pc := 226) t281_226 (by decide) (zk1 (w23s.k fk_zMm_336)) (w23s.p rfl fv_zMm_336_24) ?_
        refine zs_iload_n (pc := 229) t281_229 rfl ?_
        refine zs_aload_n (pc := 230) t281_230 rfl ?_
        refine zs_get (pc := 231) t281_231 (by decide) (zk1 (w23s.k fk_zMm_336)) (zfvi rfl ((zIo (by decide)).trans ((w23F 336 20 rfl).trans ((w21F 336 20 rfl).trans rfl)))) ?_
        have w27 : zIv mLo mHi (zsI (zsI w23M 345 w11n (zI M 336 19)) 346 w11n (zI M 336 20)) := zIv.put w26 (show (-2147483648) ≤ (zI M 336 20).toInt ∧ (zI M 336 20).toInt ≤ 2147483647 from zrg (zI M 336 20))
        refine zs_iast (pc := 234) t281_234 (j := w11n) (by decide) (zk1 (w23s.k fk_zMm_346)) (show (zI M 336 22).toInt = ((w11n : Nat) : Int) by omega) (zk2 (w23s.k fk_zMm_346) (by omega)) ?_
        refine zs_aload_n (pc := 235) t281_235 rfl ?_
        refine zs_get (pc := 236) t281_236 (by decide) (zk1 (w23s.k fk_zMm_336)) (w23s.p rfl fv_zMm_336_25) ?_
        refine zs_iload_n (pc := 239) t281_239 rfl ?_
        refine zs_aload_n (pc := 240) t281_240 rfl ?_
        refine zs_get (pc := 241) t281_241 (by decide) (zk1 (w23s.k fk_zMm_336)) (zfvi rfl ((zIo (by decide)).trans ((zIo (by decide)).trans ((w23F 336 21 rfl).trans ((w21F 336 21 rfl).trans rfl))))) ?_
        have w28 : zIv mLo mHi (zsI (zsI (zsI w23M 345 w11n (zI M 336 19)) 346 w11n (zI M 336 20)) 347 w11n (zI M 336 21)) := zIv.put w27 (show (-2147483648) ≤ (zI M 336 21).toInt ∧ (zI M 336 21).toInt ≤ 2147483647 from zrg (zI M 336 21))
        refine zs_iast (pc := 244) t281_244 (j := w11n) (by decide) (zk1 (w23s.k fk_zMm_347)) (show (zI M 336 22).toInt = ((w11n : Nat) : Int) by omega) (zk2 (w23s.k fk_zMm_347) (by omega)) ?_
        refine zs_aload_n (pc := 245) t281_245 rfl ?_
        refine zs_get (pc := 246) t281_246 (by decide) (zk1 (w23s.k fk_zMm_336)) (w23s.p rfl fv_zMm_336_26) ?_
        refine zs_iload_n (pc := 249) t281_249 rfl ?_
        refine zs_aload_n (pc := 250) t281_250 rfl ?_
        have w29 := zrg (zI M 336 18)
        refine zs_get (pc := 251) t281_251 (by decide) (zk1 (w23s.k fk_zMm_336)) (zfvi rfl ((zIo (by decide)).trans ((zIo (by decide)).trans ((zIo (by decide)).trans ((w23F 336 18 rfl).trans ((w21F 336 18 rfl).trans rfl)))))) ?_
        have w30 : zIv mLo mHi (zsI (zsI (zsI (zsI w23M 345 w11n (zI M 336 19)) 346 w11n (zI M 336 20)) 347 w11n (zI M 336 21)) 348 w11n (zI M 336 18)) := zIv.put w28 (show (-2147483648) ≤ (zI M 336 18).toInt ∧ (zI M 336 18).toInt ≤ 2147483647 from zrg (zI M 336 18))
        refine zs_iast (pc := 254) t281_254 (j := w11n) (by decide) (zk1 (w23s.k fk_zMm_348)) (show (zI M 336 22).toInt = ((w11n : Nat) : Int) by omega) (zk2 (w23s.k fk_zMm_348) (by omega)) ?_
        refine zs_aload_n (pc := 255) t281_255 rfl ?_
        refine zs_dup (pc := 256) t281_256 rfl ?_
        refine zs_get (pc := 257) t281_257 (by decide) (zk1 (w23s.k fk_zMm_336)) (zfvi rfl ((zIo (by decide)).trans ((zIo (by decide)).trans ((zIo (by decide)).trans ((zIo (by decide)).trans ((w23F 336 22 rfl).trans ((w21F 336 22 rfl).trans rfl))))))) ?_
        refine zs_iconst (pc := 260) t281_260 (v := 1) (by decide) ?_
        obtain ⟨w31v, w31e, w31⟩ := ziadd (a := (zI M 336 22)) (b := (1 : Int32)) rfl li1 (by omega) (by omega)
        refine zs_iadd (pc := 261) t281_261 (c := w31v) w31e ?_
        have w32 : zIv mLo mHi (zsI (zsI (zsI (zsI (zsI w23M 345 w11n (zI M 336 19)) 346 w11n (zI M 336 20)) 347 w11n (zI M 336 21)) 348 w11n (zI M 336 18)) 336 22 w31v) := zIv.put w30 (show 0 ≤ w31v.toInt ∧ w31v.toInt ≤ 20 from ⟨by omega, by omega⟩)
        have w33 : (zI (zsI (zsI (zsI (zsI w23M 345 w11n (zI M 336 19)) 346 w11n (zI M 336 20)) 347 w11n (zI M 336 21)) 348 w11n (zI M 336 18)) 336 22).toInt = (zI M 336 22).toInt := (congrArg Int32.toInt ((zIo (by decide)).trans ((zIo (by decide)).trans ((zIo (by decide)).trans ((zIo (by decide)).trans ((w23F 336 22 rfl).trans ((w21F 336 22 rfl).trans rfl))))))).trans rfl
        have w34 : (zI (zsI (zsI (zsI (zsI w23M 345 w11n (zI M 336 19)) 346 w11n (zI M 336 20)) 347 w11n (zI M 336 21)) 348 w11n (zI M 336 18)) 337 0).toInt = (zI M 337 0).toInt := (congrArg Int32.toInt ((zIo (by decide)).trans ((zIo (by decide)).trans ((zIo (by decide)).trans ((zIo (by decide)).trans ((w23F 337 0 rfl).trans ((w21F 337 0 rfl).trans rfl))))))).trans rfl
        have w35 : w31v.toInt = ((zI M 336 22).toInt + 1) := w31
        have w36 : (zI w23M 337 0).toInt = (zI M 337 0).toInt := (congrArg Int32.toInt ((w23F 337 0 rfl).trans ((w21F 337 0 rfl).trans rfl))).trans rfl
        have w37 : zPT (zsI (zsI (zsI (zsI (zsI w23M 345 w11n (zI M 336 19)) 346 w11n (zI M 336 20)) 347 w11n (zI M 336 21)) 348 w11n (zI M 336 18)) 336 22 w31v) := zPT.more (n := w11n) (zPT.fr (M' := (zsI (zsI (zsI (zsI w23M 345 w11n (zI M 336 19)) 346 w11n (zI M 336 20)) 347 w11n (zI M 336 21)) 348 w11n (zI M 336 18))) (zPT.fr (M' := (zsI (zsI (zsI w23M 345 w11n (zI M 336 19)) 346 w11n (zI M 336 20)) 347 w11n (zI M 336 21))) (zPT.fr (M' := (zsI (zsI w23M 345 w11n (zI M 336 19)) 346 w11n (zI M 336 20))) (zPT.fr (M' := (zsI w23M 345 w11n (zI M 336 19))) w23PT (zEq.put rfl)) (zEq.put rfl)) (zEq.put rfl)) (zEq.put rfl)) (by omega) (by omega) (zTk.fr (M' := (zsI (zsI (zsI (zsI w23M 345 w11n (zI M 336 19)) 346 w11n (zI M 336 20)) 347 w11n (zI M 336 21)) 348 w11n (zI M 336 18))) (zTk.fr (M' := (zsI (zsI (zsI w23M 345 w11n (zI M 336 19)) 346 w11n (zI M 336 20)) 347 w11n (zI M 336 21))) (zTk.fr (M' := (zsI (zsI w23M 345 w11n (zI M 336 19)) 346 w11n (zI M 336 20))) (zTk.fr (M' := (zsI w23M 345 w11n (zI M 336 19))) (zTk.mk w23t0 w23t1 (by omega) (by omega) (by omega) nl (by omega) (by omega)) (zEq.put rfl)) (zEq.put rfl)) (zEq.put rfl)) (zEq.put rfl))
        refine zs_putI (pc := 262) t281_262 (zk1 (w23s.k fk_zMm_336)) rfl ?_
        have w38 : (zI (zsI (zsI (zsI (zsI (zsI w23M 345 w11n (zI M 336 19)) 346 w11n (zI M 336 20)) 347 w11n (zI M 336 21)) 348 w11n (zI M 336 18)) 336 22 w31v) 336 22).toInt = ((zI M 336 22).toInt + 1) := (congrArg Int32.toInt zIs).trans w31
        obtain ⟨w39n, w39⟩ : ∃ n : Nat, w23x3.toInt = (n : Int) := ⟨(w23x3.toInt).toNat, by omega⟩
        exact zs_vret (pc := 265) t281_265 mr281 (hQ _ w23s w32 ((((((((zFr.refl).trans (w21F.mono rfl)).trans (w23F.mono rfl)).put rfl).put rfl).put rfl).put rfl).put rfl) (w23J.trans w21J) w37 (by omega) (by obtain rfl : w11n = n := (by omega); exact zTw.fin (M := M) (Mn := w23M) (N := (zsI (zsI (zsI (zsI (zsI w23M 345 w11n (zI M 336 19)) 346 w11n (zI M 336 20)) 347 w11n (zI M 336 21)) 348 w11n (zI M 336 18)) 336 22 w31v)) (w23t2 w11n w39n (by omega) (by omega)) x1 (by omega) x3 x4.1 ((((zFr.refl).trans (w21F.mono rfl)).trans (w23F.mono rfl)).eq (W := [(344, 344, none), (349, 349, none), (350, 350, none), (343, 343, none)]) rfl) (congrArg Int32.toInt ((zIo (by decide)).trans ((zIo (by decide)).trans ((zIo (by decide)).trans ((zIo (by decide)).trans zIs))))) (congrArg Int32.toInt ((zIo (by decide)).trans ((zIo (by decide)).trans ((zIo (by decide)).trans zIs)))) (congrArg Int32.toInt ((zIo (by decide)).trans ((zIo (by decide)).trans zIs))) (congrArg Int32.toInt ((zIo (by decide)).trans zIs)) (fun k j hj h1 h2 => by rcases (show k = 345 ∨ k = 346 ∨ k = 347 ∨ k = 348 by omega) with rfl | rfl | rfl | rfl <;> first | exact ((zIo (by decide)).trans ((zIo (by decide)).trans ((zIo (by decide)).trans ((zIo (by decide)).trans ((zIoj hj).trans rfl))))) | exact ((zIo (by decide)).trans ((zIo (by decide)).trans ((zIo (by decide)).trans ((zIoj hj).trans ((zIo (by decide)).trans rfl))))) | exact ((zIo (by decide)).trans ((zIo (by decide)).trans ((zIoj hj).trans ((zIo (by decide)).trans ((zIo (by decide)).trans rfl))))) | exact ((zIo (by decide)).trans ((zIoj hj).trans ((zIo (by decide)).trans ((zIo (by decide)).trans ((zIo (by decide)).trans rfl)))))) (fun j => ((zIo (by decide)).trans ((zIo (by decide)).trans ((zIo (by decide)).trans ((zIo (by decide)).trans ((zIo (by decide)).trans rfl)))))) (fun j => ((zIo (by decide)).trans ((zIo (by decide)).trans ((zIo (by decide)).trans ((zIo (by decide)).trans ((zIo (by decide)).trans rfl)))))) (fun j => ((zIo (by decide)).trans ((zIo (by decide)).trans ((zIo (by decide)).trans ((zIo (by decide)).trans ((zIo (by decide)).trans rfl))))))))
      · refine zs_icmp_geF (pc := 49) t281_49 rfl rfl (by omega) ?_
        refine zs_bipush (pc := 52) t281_52 (v := -2) (by decide) ?_
        refine zs_istore (pc := 54) t281_54 (ls' := [(4, .int (-2 : Int32)), (0, .ref 336), (1, .int (zI M 336 22)), (2, .int w18v), (3, .int w23x3)]) (zml mf281 (by decide)) rfl ?_
        refine zs_iconst (pc := 56) t281_56 (v := 0) (by decide) ?_
        refine zs_istore (pc := 57) t281_57 (ls' := [(5, .int (0 : Int32)), (4, .int (-2 : Int32)), (0, .ref 336), (1, .int (zI M 336 22)), (2, .int w18v), (3, .int w23x3)]) (zml mf281 (by decide)) rfl ?_
        refine zs_iconst (pc := 59) t281_59 (v := 0) (by decide) ?_
        refine zs_istore (pc := 60) t281_60 (ls' := [(6, .int (0 : Int32)), (5, .int (0 : Int32)), (4, .int (-2 : Int32)), (0, .ref 336), (1, .int (zI M 336 22)), (2, .int w18v), (3, .int w23x3)]) (zml mf281 (by decide)) rfl ?_
        have w40L : ∀ (m : Nat) (w40x4 : Int32) (w40x5 : Int32) (w40x6 : Int32), ((-2) ≤ w40x4.toInt ∧ w40x4.toInt ≤ 59) → (0 ≤ w40x6.toInt ∧ w40x6.toInt ≤ 60) → (w40x6.toInt ≤ F 1) → (zIn M g1 w23x3.toInt w40x6.toInt w40x4.toInt) → (zIn M g2 w23x3.toInt w40x6.toInt w40x4.toInt) → (w40x4.toInt = -2 ∨ (0 ≤ w40x4.toInt ∧ zly M (w40x4.toInt).toNat = w23x3.toInt)) → (∀ l n : Nat, (l : Int) = w23x3.toInt → (n : Int) = w40x6.toInt → zNs F L ((zI M 336 19).toInt, (zI M 336 20).toInt, (zI M 336 21).toInt) l n w40x4.toInt w40x5.toInt) → 60 - w40x6.toInt ≤ (m : Int) → zGo X l 4 0 0 281 62 [(0, .ref 336), (1, .int (zI M 336 22)), (2, .int w18v), (3, .int w23x3), (4, .int w40x4), (5, .int w40x5), (6, .int w40x6)] [] w23M Q := by
          intro m
          induction m using Nat.strongRecOn with
          | ind w40m w40ih =>
            intro w40x4 w40x5 w40x6 w40b4 w40b6 w40r0 w40t0 w40t1 w40t2 w40t3 w40q
            have w40g5 := zrg w40x5
            refine zs_iload (pc := 62) t281_62 rfl ?_
            refine zs_aload_n (pc := 64) t281_64 rfl ?_
            refine zs_get (pc := 65) t281_65 (by decide) (zk1 (w23s.k fk_zMm_336)) (w23s.p rfl fv_zMm_336_0) ?_
            refine zs_iconst (pc := 68) t281_68 (v := 1) (by decide) ?_
            have w41 : (zI M 337 1).toInt = F 1 := x0.at (by decide) (by decide) (by decide)
            refine zs_iald (pc := 69) t281_69 (j := 1) (by decide) (zk1 (w23s.k fk_zMm_337)) li1 (zk2 (w23s.k fk_zMm_337) (by decide)) ((w23F 337 1 rfl).trans ((w21F 337 1 rfl).trans rfl)) ?_
            by_cases w42 : (zI M 337 1).toInt ≤ w40x6.toInt
            · refine zs_icmp_geT (pc := 70) t281_70 rfl rfl (by omega) ?_
              refine zs_aload_n (pc := 170) t281_170 rfl ?_
              refine zs_get (pc := 171) t281_171 (by decide) (zk1 (w23s.k fk_zMm_336)) (w23s.p rfl fv_zMm_336_27) ?_
              refine zs_bipush (pc := 174) t281_174 (v := 8) (by decide) ?_
              refine zs_iload_n (pc := 176) t281_176 rfl ?_
              obtain ⟨w43v, w43⟩ : ∃ v, (8 : Int32) * (zI M 336 22) = v := ⟨_, rfl⟩
              have w43g : w43v.toInt = 8 * (zI M 336 22).toInt := by rw [← w43]; exact zmulc li8 rfl (by omega) (by omega)
              refine zs_imul (pc := 177) t281_177 (c := w43v) w43 ?_
              refine zs_iload_n (pc := 178) t281_178 rfl ?_
              obtain ⟨w44v, w44e, w44⟩ := ziadd (a := w43v) (b := w23x3) w43g rfl (by omega) (by omega)
              refine zs_iadd (pc := 179) t281_179 (c := w44v) w44e ?_
              refine zs_iload (pc := 180) t281_180 rfl ?_
              obtain ⟨w45n, w45⟩ : ∃ n : Nat, w23x3.toInt = (n : Int) := ⟨(w23x3.toInt).toNat, by omega⟩
              have w46 : zIv mLo mHi (zsI w23M 349 (8 * w11n + w45n) w40x4) := zIv.put w23I (show (-2) ≤ w40x4.toInt ∧ w40x4.toInt ≤ 59 from ⟨by omega, by omega⟩)
              have w47 : (zI w23M 337 0).toInt = (zI M 337 0).toInt := (congrArg Int32.toInt ((w23F 337 0 rfl).trans ((w21F 337 0 rfl).trans rfl))).trans rfl
              have w48 : (zI w23M 336 22).toInt = (zI M 336 22).toInt := (congrArg Int32.toInt ((w23F 336 22 rfl).trans ((w21F 336 22 rfl).trans rfl))).trans rfl
              have w49 : zPT (zsI w23M 349 (8 * w11n + w45n) w40x4) := zPT.put w23PT (by omega) (by omega)
              refine zs_iast (pc := 182) t281_182 (j := (8 * w11n + w45n)) (by decide) (zk1 (w23s.k fk_zMm_349)) (show w44v.toInt = (((8 * w11n + w45n) : Nat) : Int) by omega) (zk2 (w23s.k fk_zMm_349) (by omega)) ?_
              refine zs_iload (pc := 183) t281_183 rfl ?_
              refine zs_bipush (pc := 185) t281_185 (v := -2) (by decide) ?_
              by_cases w50 : w40x4.toInt ≠ (-2)
              · refine zs_icmp_neT (pc := 187) t281_187 rfl lin2 (by omega) ?_
                refine zs_aload_n (pc := 193) t281_193 rfl ?_
                refine zs_get (pc := 194) t281_194 (by decide) (zk1 (w23s.k fk_zMm_336)) (w23s.p rfl fv_zMm_336_28) ?_
                refine zs_iload (pc := 197) t281_197 rfl ?_
                refine zs_iload_n (pc := 199) t281_199 rfl ?_
                obtain ⟨w51n, w51⟩ : ∃ n : Nat, w40x4.toInt = (n : Int) := ⟨w40x4.toInt.toNat, by omega⟩
                have w52 : zIv mLo mHi (zsI (zsI w23M 349 (8 * w11n + w45n) w40x4) 350 w51n (zI M 336 22)) := zIv.put w46 (show (-2147483648) ≤ (zI M 336 22).toInt ∧ (zI M 336 22).toInt ≤ 2147483647 from zrg (zI M 336 22))
                refine zs_iast (pc := 200) t281_200 (j := w51n) (by decide) (zk1 (w23s.k fk_zMm_350)) w51 (zk2 (w23s.k fk_zMm_350) (by omega)) ?_
                refine zs_aload_n (pc := 201) t281_201 rfl ?_
                refine zs_get (pc := 202) t281_202 (by decide) (zk1 (w23s.k fk_zMm_336)) (w23s.p rfl fv_zMm_336_16) ?_
                refine zs_iload (pc := 205) t281_205 rfl ?_
                refine zs_iconst (pc := 207) t281_207 (v := 0) (by decide) ?_
                have w53e : vp_nar .boolean (0 : Int32) = (0 : Int32) := by decide
                have w54 : zIv mLo mHi (zsI (zsI (zsI w23M 349 (8 * w11n + w45n) w40x4) 350 w51n (zI M 336 22)) 343 w51n (0 : Int32)) := zIv.put w52 (show 0 ≤ (0 : Int32).toInt ∧ (0 : Int32).toInt ≤ 1 from ⟨by decide, by decide⟩)
                refine zs_bastZ (pc := 208) t281_208 (j := w51n) (by decide) (zk1 (w23s.k fk_zMm_343)) w51 (zk2 (w23s.k fk_zMm_343) (by omega)) w53e ?_
                obtain ⟨w55v, w55e, w55⟩ := ziadd (a := w23x3) (b := Int32.ofInt 1) rfl (show (Int32.ofInt 1).toInt = 1 by decide) (by omega) (by omega)
                refine zs_iinc (pc := 209) t281_209 (ls' := [(3, .int w55v), (0, .ref 336), (1, .int (zI M 336 22)), (2, .int w18v), (4, .int w40x4), (5, .int w40x5), (6, .int w40x6)]) (zml mf281 (by decide)) rfl (c := w55v) w55e rfl ?_
                refine zs_goto (pc := 212) t281_212 ?_
                refine zGo.locals (ls' := [(0, .ref 336), (1, .int (zI M 336 22)), (2, .int w18v), (3, .int w55v)]) (by simp) ?_
                have w56 := w55
                obtain ⟨w57n, w57⟩ : ∃ n : Nat, w40x6.toInt = (n : Int) := ⟨(w40x6.toInt).toNat, by omega⟩
                exact w23ih (w23m - 1) (by omega) w55v (zsI (zsI (zsI w23M 349 (8 * w11n + w45n) w40x4) 350 w51n (zI M 336 22)) 343 w51n (0 : Int32)) ⟨by omega, by omega⟩ w23s w54 (((((zFr.refl).trans (w23F.mono rfl)).put rfl).put rfl).put rfl) w23J (zPT.fr (M' := (zsI (zsI (zsI w23M 349 (8 * w11n + w45n) w40x4) 350 w51n (zI M 336 22)) 343 w51n (0 : Int32))) (zPT.fr (M' := (zsI (zsI w23M 349 (8 * w11n + w45n) w40x4) 350 w51n (zI M 336 22))) w49 (zEq.put rfl)) (zEq.put rfl)) (by omega) (zOu.take w23t0 (by omega) (show zly M w51n = w23x3.toInt from by
                      rcases w40t2 with z | z
                      · omega
                      · rw [show w40x4.toInt.toNat = w51n by omega] at z
                        exact z.2) (by omega) (by omega) (by omega)) (zOu.take w23t1 (by omega) (show zly M w51n = w23x3.toInt from by
                      rcases w40t2 with z | z
                      · omega
                      · rw [show w40x4.toInt.toNat = w51n by omega] at z
                        exact z.2) (by omega) (by omega) (by omega)) (fun i l q1 q2 => by obtain rfl : w11n = i := (by omega); obtain rfl : l = w45n + 1 := (by omega); have hx := w23t2 w11n w45n (by omega) (by omega); have hn := (w40t3 w45n w57n (by omega) (by omega)).nr (by omega); rw [show w40x4.toInt = (w51n : Int) by omega] at hn; exact hx.hit (b := w51n) (v := w40x4) (w := (zI M 336 22)) (z := (0 : Int32)) hn.l hn (by omega) (by omega) (by decide)) (by omega)
              · refine zs_icmp_neF (pc := 187) t281_187 rfl lin2 (by omega) ?_
                refine zs_goto (pc := 190) t281_190 ?_
                obtain ⟨w58v, w58e, w58⟩ := ziadd (a := w23x3) (b := Int32.ofInt 1) rfl (show (Int32.ofInt 1).toInt = 1 by decide) (by omega) (by omega)
                refine zs_iinc (pc := 209) t281_209 (ls' := [(3, .int w58v), (0, .ref 336), (1, .int (zI M 336 22)), (2, .int w18v), (4, .int w40x4), (5, .int w40x5), (6, .int w40x6)]) (zml mf281 (by decide)) rfl (c := w58v) w58e rfl ?_
                refine zs_goto (pc := 212) t281_212 ?_
                refine zGo.locals (ls' := [(0, .ref 336), (1, .int (zI M 336 22)), (2, .int w18v), (3, .int w58v)]) (by simp) ?_
                have w59 := w58
                obtain ⟨w60n, w60⟩ : ∃ n : Nat, w40x6.toInt = (n : Int) := ⟨(w40x6.toInt).toNat, by omega⟩
                exact w23ih (w23m - 1) (by omega) w58v (zsI w23M 349 (8 * w11n + w45n) w40x4) ⟨by omega, by omega⟩ w23s w46 (((zFr.refl).trans (w23F.mono rfl)).put rfl) w23J w49 (by omega) (zOu.miss w23t0 (fun z => absurd (by omega) (w40t0 z (by omega))) (by omega) (by omega) (by omega)) (zOu.miss w23t1 (fun z => absurd (by omega) (w40t1 z (by omega))) (by omega) (by omega) (by omega)) (fun i l q1 q2 => by obtain rfl : w11n = i := (by omega); obtain rfl : l = w45n + 1 := (by omega); have hx := w23t2 w11n w45n (by omega) (by omega); have hn := (w40t3 w45n w60n (by omega) (by omega)).nr (by omega); rw [show w40x4.toInt = -2 by omega] at hn; exact hx.miss hn (by omega)) (by omega)
            · refine zs_icmp_geF (pc := 70) t281_70 rfl rfl (by omega) ?_
              refine zs_aload_n (pc := 73) t281_73 rfl ?_
              refine zs_get (pc := 74) t281_74 (by decide) (zk1 (w23s.k fk_zMm_336)) (w23s.p rfl fv_zMm_336_16) ?_
              refine zs_iload (pc := 77) t281_77 rfl ?_
              obtain ⟨w61n, w61⟩ : ∃ n : Nat, w40x6.toInt = (n : Int) := ⟨(w40x6.toInt).toNat, by omega⟩
              have w62 := ib343 w23I w61n
              refine zs_bald (pc := 79) t281_79 (j := w61n) (Or.inr (zk1 (w23s.k fk_zMm_343))) (show w40x6.toInt = ((w61n : Nat) : Int) by omega) (zk2 (w23s.k fk_zMm_343) (by omega)) rfl ?_
              by_cases w63 : (zI w23M 343 w61n).toInt = 0
              · refine zs_if_eqT (pc := 80) t281_80 rfl (by omega) ?_
                obtain ⟨w64v, w64e, w64⟩ := ziadd (a := w40x6) (b := Int32.ofInt 1) rfl (show (Int32.ofInt 1).toInt = 1 by decide) (by omega) (by omega)
                refine zs_iinc (pc := 164) t281_164 (ls' := [(6, .int w64v), (0, .ref 336), (1, .int (zI M 336 22)), (2, .int w18v), (3, .int w23x3), (4, .int w40x4), (5, .int w40x5)]) (zml mf281 (by decide)) rfl (c := w64v) w64e rfl ?_
                refine zs_goto (pc := 167) t281_167 ?_
                refine zGo.locals (ls' := [(0, .ref 336), (1, .int (zI M 336 22)), (2, .int w18v), (3, .int w23x3), (4, .int w40x4), (5, .int w40x5), (6, .int w64v)]) (by simp) ?_
                have w65 := w64
                obtain ⟨w66n, w66⟩ : ∃ n : Nat, w23x3.toInt = (n : Int) := ⟨(w23x3.toInt).toNat, by omega⟩
                exact w40ih (w40m - 1) (by omega) w40x4 w40x5 w64v ⟨by omega, by omega⟩ ⟨by omega, by omega⟩ (by omega) (fun q1 q2 => by
                      by_cases hh : (g1 : Int) < w40x6.toInt
                      · exact w40t0 q1 hh
                      · obtain rfl : g1 = w61n := by omega
                        have z1 := w23t0.2 (by omega)
                        unfold zly at q1
                        omega) (fun q1 q2 => by
                      by_cases hh : (g2 : Int) < w40x6.toInt
                      · exact w40t1 q1 hh
                      · obtain rfl : g2 = w61n := by omega
                        have z1 := w23t1.2 (by omega)
                        unfold zly at q1
                        omega) w40t2 (fun l n q1 q2 => by obtain rfl : w66n = l := (by omega); obtain rfl : n = w61n + 1 := (by omega); have hx := w23t2 w11n w66n (by omega) (by omega); have hp := w40t3 w66n w61n (by omega) (by omega); first | exact hp.skip (hx.c0 (by omega) (by omega)) | exact hp.skip (zcd.l (by omega)) | exact hp.skip (zcd.o (b := (zI M 336 21).toInt) (fun hL => by have z : (_ : Int) = cel F ((zI M 336 19).toInt, (zI M 336 20).toInt, (zI M 336 21).toInt).1 ((zI M 336 19).toInt, (zI M 336 20).toInt, (zI M 336 21).toInt).2.1 w61n := w22 w61n (by omega) hL; omega))) (by omega)
              · refine zs_if_eqF (pc := 80) t281_80 rfl (by omega) ?_
                refine zs_aload_n (pc := 83) t281_83 rfl ?_
                refine zs_iload (pc := 84) t281_84 rfl ?_
                refine zs_iconst (pc := 86) t281_86 (v := 0) (by decide) ?_
                refine zs_invV (pc := 87) (k := 336) (as' := [.int w40x6, .int (0 : Int32)]) (st := []) t281_87 mf272 rfl rfl (Or.inl ⟨by decide, (zk1 (w23s.k fk_zMm_336))⟩) ⟨by decide, by decide, Nat.le_of_ble_eq_true rfl, Nat.le_of_ble_eq_true rfl⟩ (zs_in (by decide) mf272 (Nat.le_of_ble_eq_true rfl) ?_) (fun _ _ q => q)
                show zGo X l 0 0 0 272 0 [(0, .ref 336), (1, .int w40x6), (2, .int (0 : Int32))] [] w23M _
                refine zs_aload_n (pc := 0) t272_0 rfl ?_
                refine zs_get (pc := 1) t272_1 (by decide) (zk1 (w23s.k fk_zMm_336)) (w23s.p rfl fv_zMm_336_0) ?_
                refine zs_bipush (pc := 4) t272_4 (v := 30) (by decide) ?_
                refine zs_iconst (pc := 6) t272_6 (v := 4) (by decide) ?_
                refine zs_iload_n (pc := 7) t272_7 rfl ?_
                obtain ⟨w67v, w67⟩ : ∃ v, (4 : Int32) * w40x6 = v := ⟨_, rfl⟩
                have w67g : w67v.toInt = 4 * w40x6.toInt := by rw [← w67]; exact zmulc li4 rfl (by omega) (by omega)
                refine zs_imul (pc := 8) t272_8 (c := w67v) w67 ?_
                obtain ⟨w68v, w68e, w68⟩ := ziadd (a := (30 : Int32)) (b := w67v) li30 w67g (by omega) (by omega)
                refine zs_iadd (pc := 9) t272_9 (c := w68v) w68e ?_
                refine zs_iload_n (pc := 10) t272_10 rfl ?_
                obtain ⟨w69v, w69e, w69⟩ := ziadd (a := w68v) (b := (0 : Int32)) w68 li0 (by omega) (by omega)
                refine zs_iadd (pc := 11) t272_11 (c := w69v) w69e ?_
                have w70 := ibL (j := (30 + 4 * w61n)) hI (by omega) (by omega) (by omega)
                have w71 : (zI M 337 (30 + 4 * w61n)).toInt = F (30 + 4 * w61n) := x0.at (by omega) (by omega) (by omega)
                have w72 := x1.2.2.1 w61n (by omega)
                refine zs_iald (pc := 12) t272_12 (j := (30 + 4 * w61n)) (by decide) (zk1 (w23s.k fk_zMm_337)) (show w69v.toInt = (((30 + 4 * w61n) : Nat) : Int) by omega) (zk2 (w23s.k fk_zMm_337) (by omega)) ((w23F 337 (30 + 4 * w61n) rfl).trans ((w21F 337 (30 + 4 * w61n) rfl).trans rfl)) ?_
                refine zs_iret (pc := 13) t272_13 mr272 rfl ?_
                show zGo X l 4 0 0 281 90 [(0, .ref 336), (1, .int (zI M 336 22)), (2, .int w18v), (3, .int w23x3), (4, .int w40x4), (5, .int w40x5), (6, .int w40x6)] [.int (zI M 337 (30 + 4 * w61n))] w23M _
                refine zs_iload_n (pc := 90) t281_90 rfl ?_
                by_cases w73 : (zI M 337 (30 + 4 * w61n)).toInt ≠ w23x3.toInt
                · refine zs_icmp_neT (pc := 91) t281_91 rfl rfl (by omega) ?_
                  obtain ⟨w74v, w74e, w74⟩ := ziadd (a := w40x6) (b := Int32.ofInt 1) rfl (show (Int32.ofInt 1).toInt = 1 by decide) (by omega) (by omega)
                  refine zs_iinc (pc := 164) t281_164 (ls' := [(6, .int w74v), (0, .ref 336), (1, .int (zI M 336 22)), (2, .int w18v), (3, .int w23x3), (4, .int w40x4), (5, .int w40x5)]) (zml mf281 (by decide)) rfl (c := w74v) w74e rfl ?_
                  refine zs_goto (pc := 167) t281_167 ?_
                  refine zGo.locals (ls' := [(0, .ref 336), (1, .int (zI M 336 22)), (2, .int w18v), (3, .int w23x3), (4, .int w40x4), (5, .int w40x5), (6, .int w74v)]) (by simp) ?_
                  have w75 := w74
                  obtain ⟨w76n, w76⟩ : ∃ n : Nat, w23x3.toInt = (n : Int) := ⟨(w23x3.toInt).toNat, by omega⟩
                  exact w40ih (w40m - 1) (by omega) w40x4 w40x5 w74v ⟨by omega, by omega⟩ ⟨by omega, by omega⟩ (by omega) (fun q1 q2 => by
                        by_cases hh : (g1 : Int) < w40x6.toInt
                        · exact w40t0 q1 hh
                        · obtain rfl : g1 = w61n := by omega
                          have z1 := w23t0.2 (by omega)
                          unfold zly at q1
                          omega) (fun q1 q2 => by
                        by_cases hh : (g2 : Int) < w40x6.toInt
                        · exact w40t1 q1 hh
                        · obtain rfl : g2 = w61n := by omega
                          have z1 := w23t1.2 (by omega)
                          unfold zly at q1
                          omega) w40t2 (fun l n q1 q2 => by obtain rfl : w76n = l := (by omega); obtain rfl : n = w61n + 1 := (by omega); have hx := w23t2 w11n w76n (by omega) (by omega); have hp := w40t3 w76n w61n (by omega) (by omega); first | exact hp.skip (hx.c0 (by omega) (by omega)) | exact hp.skip (zcd.l (by omega)) | exact hp.skip (zcd.o (b := (zI M 336 21).toInt) (fun hL => by have z : (_ : Int) = cel F ((zI M 336 19).toInt, (zI M 336 20).toInt, (zI M 336 21).toInt).1 ((zI M 336 19).toInt, (zI M 336 20).toInt, (zI M 336 21).toInt).2.1 w61n := w22 w61n (by omega) hL; omega))) (by omega)
                · refine zs_icmp_neF (pc := 91) t281_91 rfl rfl (by omega) ?_
                  refine zs_aload_n (pc := 94) t281_94 rfl ?_
                  refine zs_get (pc := 95) t281_95 (by decide) (zk1 (w23s.k fk_zMm_336)) (w23s.p rfl fv_zMm_336_17) ?_
                  refine zs_iload (pc := 98) t281_98 rfl ?_
                  have w77 := zrg (zI w21M 344 w61n)
                  refine zs_iald (pc := 100) t281_100 (j := w61n) (by decide) (zk1 (w23s.k fk_zMm_344)) (show w40x6.toInt = ((w61n : Nat) : Int) by omega) (zk2 (w23s.k fk_zMm_344) (by omega)) ((w23F 344 w61n rfl).trans rfl) ?_
                  refine zs_aload_n (pc := 101) t281_101 rfl ?_
                  refine zs_get (pc := 102) t281_102 (by decide) (zk1 (w23s.k fk_zMm_336)) (zfvi rfl ((w23F 336 21 rfl).trans ((w21F 336 21 rfl).trans rfl))) ?_
                  by_cases w78 : (zI w21M 344 w61n).toInt = (zI M 336 21).toInt
                  · refine zs_icmp_eqT (pc := 105) t281_105 rfl rfl (by omega) ?_
                    refine zs_aload_n (pc := 111) t281_111 rfl ?_
                    refine zs_iload (pc := 112) t281_112 rfl ?_
                    refine zs_iconst (pc := 114) t281_114 (v := 1) (by decide) ?_
                    refine zs_invV (pc := 115) (k := 336) (as' := [.int w40x6, .int (1 : Int32)]) (st := []) t281_115 mf272 rfl rfl (Or.inl ⟨by decide, (zk1 (w23s.k fk_zMm_336))⟩) ⟨by decide, by decide, Nat.le_of_ble_eq_true rfl, Nat.le_of_ble_eq_true rfl⟩ (zs_in (by decide) mf272 (Nat.le_of_ble_eq_true rfl) ?_) (fun _ _ q => q)
                    show zGo X l 0 0 0 272 0 [(0, .ref 336), (1, .int w40x6), (2, .int (1 : Int32))] [] w23M _
                    refine zs_aload_n (pc := 0) t272_0 rfl ?_
                    refine zs_get (pc := 1) t272_1 (by decide) (zk1 (w23s.k fk_zMm_336)) (w23s.p rfl fv_zMm_336_0) ?_
                    refine zs_bipush (pc := 4) t272_4 (v := 30) (by decide) ?_
                    refine zs_iconst (pc := 6) t272_6 (v := 4) (by decide) ?_
                    refine zs_iload_n (pc := 7) t272_7 rfl ?_
                    obtain ⟨w79v, w79⟩ : ∃ v, (4 : Int32) * w40x6 = v := ⟨_, rfl⟩
                    have w79g : w79v.toInt = 4 * w40x6.toInt := by rw [← w79]; exact zmulc li4 rfl (by omega) (by omega)
                    refine zs_imul (pc := 8) t272_8 (c := w79v) w79 ?_
                    obtain ⟨w80v, w80e, w80⟩ := ziadd (a := (30 : Int32)) (b := w79v) li30 w79g (by omega) (by omega)
                    refine zs_iadd (pc := 9) t272_9 (c := w80v) w80e ?_
                    refine zs_iload_n (pc := 10) t272_10 rfl ?_
                    obtain ⟨w81v, w81e, w81⟩ := ziadd (a := w80v) (b := (1 : Int32)) w80 li1 (by omega) (by omega)
                    refine zs_iadd (pc := 11) t272_11 (c := w81v) w81e ?_
                    have w82 := zrg (zI M 337 (31 + 4 * w61n))
                    have w83 : (zI M 337 (31 + 4 * w61n)).toInt = F (31 + 4 * w61n) := x0.at (by omega) (by omega) (by omega)
                    have w84 := x1.2.2.1 w61n (by omega)
                    refine zs_iald (pc := 12) t272_12 (j := (31 + 4 * w61n)) (by decide) (zk1 (w23s.k fk_zMm_337)) (show w81v.toInt = (((31 + 4 * w61n) : Nat) : Int) by omega) (zk2 (w23s.k fk_zMm_337) (by omega)) ((w23F 337 (31 + 4 * w61n) rfl).trans ((w21F 337 (31 + 4 * w61n) rfl).trans rfl)) ?_
                    refine zs_iret (pc := 13) t272_13 mr272 rfl ?_
                    show zGo X l 4 0 0 281 118 [(0, .ref 336), (1, .int (zI M 336 22)), (2, .int w18v), (3, .int w23x3), (4, .int w40x4), (5, .int w40x5), (6, .int w40x6)] [.int (zI M 337 (31 + 4 * w61n))] w23M _
                    refine zs_aload_n (pc := 118) t281_118 rfl ?_
                    refine zs_iload_n (pc := 119) t281_119 rfl ?_
                    refine zs_aload_n (pc := 120) t281_120 rfl ?_
                    refine zs_get (pc := 121) t281_121 (by decide) (zk1 (w23s.k fk_zMm_336)) (zfvi rfl ((w23F 336 20 rfl).trans ((w21F 336 20 rfl).trans rfl))) ?_
                    refine zs_aload_n (pc := 124) t281_124 rfl ?_
                    refine zs_get (pc := 125) t281_125 (by decide) (zk1 (w23s.k fk_zMm_336)) (zfvi rfl ((w23F 336 19 rfl).trans ((w21F 336 19 rfl).trans rfl))) ?_
                    obtain ⟨w85n, w85⟩ : ∃ n : Nat, w23x3.toInt = (n : Int) := ⟨(w23x3.toInt).toNat, by omega⟩
                    refine zs_invV (pc := 128) (k := 336) (as' := [.int w23x3, .int (zI M 336 20), .int (zI M 336 19)]) (st := [.int (zI M 337 (31 + 4 * w61n))]) t281_128 mf249 rfl rfl (Or.inl ⟨by decide, (zk1 (w23s.k fk_zMm_336))⟩) ⟨by decide, by decide, Nat.le_of_ble_eq_true rfl, Nat.le_of_ble_eq_true rfl⟩ (K249 w23s w23I ⟨by omega, by omega⟩ ?_) (fun _ _ q => q)
                    have w86 := zrg (zlift w23M w23x3 (zI M 336 20) (zI M 336 19))
                    have w88 := zrg (zI M 337 (14 + 2 * w85n))
                    have w87w := x1.2.1 w85n (by omega)
                    have w87 : (zlift w23M w23x3 (zI M 336 20) (zI M 336 19)).toInt = pLf F w85n (zI M 336 20).toInt (zI M 336 19).toInt := zliftE (F := F) (n := w85n) (by omega) rfl rfl (by omega) (by omega) (by omega) (by omega) ((zRw.fr' x0 (fun j hj => ((w23F 337 j rfl).trans (w21F 337 j rfl)))).at (by omega) (by omega) (by omega)) w87w.1 w87w.2.1
                    have w87e : -98901000 ≤ (zlift w23M w23x3 (zI M 336 20) (zI M 336 19)).toInt ∧ (zlift w23M w23x3 (zI M 336 20) (zI M 336 19)).toInt ≤ 98901000 := by
                      have q := pLf.b (F := F) (l := w85n) (t := (zI M 336 20).toInt) (k := (zI M 336 19).toInt) w87w.1 w87w.2.1 (by omega) (by omega) (by omega) (by omega)
                      rw [w87]
                      unfold pLf
                      omega
                    show zGo X l 4 0 0 281 131 [(0, .ref 336), (1, .int (zI M 336 22)), (2, .int w18v), (3, .int w23x3), (4, .int w40x4), (5, .int w40x5), (6, .int w40x6)] [.int (zlift w23M w23x3 (zI M 336 20) (zI M 336 19)), .int (zI M 337 (31 + 4 * w61n))] w23M _
                    obtain ⟨w89v, w89e, w89⟩ := zisub (a := (zI M 337 (31 + 4 * w61n))) (b := (zlift w23M w23x3 (zI M 336 20) (zI M 336 19))) rfl rfl (by omega) (by omega)
                    refine zs_isub (pc := 131) t281_131 (c := w89v) w89e ?_
                    refine zs_iload_n (pc := 132) t281_132 rfl ?_
                    obtain ⟨w90v, w90e, w90⟩ := zisub (a := w89v) (b := w18v) w89 rfl (by omega) (by omega)
                    refine zs_isub (pc := 133) t281_133 (c := w90v) w90e ?_
                    refine zs_invS (pc := 134) (as := [.int w90v]) (st := []) t281_134 (by decide) mf280 rfl rfl ⟨by decide, by decide, Nat.le_of_ble_eq_true rfl, Nat.le_of_ble_eq_true rfl⟩ (zs_in (by decide) mf280 (Nat.le_of_ble_eq_true rfl) ?_) (fun _ _ q => q)
                    show zGo X l 0 0 0 280 0 [(0, .int w90v)] [] w23M _
                    refine zs_iload_n (pc := 0) t280_0 rfl ?_
                    by_cases w91 : 0 ≤ (((zI M 337 (31 + 4 * w61n)).toInt - (zlift w23M w23x3 (zI M 336 20) (zI M 336 19)).toInt) - w18v.toInt)
                    · refine zs_if_geT (pc := 1) t280_1 w90 (by omega) ?_
                      refine zs_iload_n (pc := 9) t280_9 rfl ?_
                      refine zs_iret (pc := 10) t280_10 mr280 rfl ?_
                      show zGo X l 4 0 0 281 137 [(0, .ref 336), (1, .int (zI M 336 22)), (2, .int w18v), (3, .int w23x3), (4, .int w40x4), (5, .int w40x5), (6, .int w40x6)] [.int w90v] w23M _
                      refine zs_istore (pc := 137) t281_137 (ls' := [(7, .int w90v), (0, .ref 336), (1, .int (zI M 336 22)), (2, .int w18v), (3, .int w23x3), (4, .int w40x4), (5, .int w40x5), (6, .int w40x6)]) (zml mf281 (by decide)) rfl ?_
                      refine zs_iload (pc := 139) t281_139 rfl ?_
                      refine zs_bipush (pc := 141) t281_141 (v := -2) (by decide) ?_
                      by_cases w92 : w40x4.toInt = (-2)
                      · refine zs_icmp_eqT (pc := 143) t281_143 rfl lin2 (by omega) ?_
                        refine zs_iload (pc := 156) t281_156 rfl ?_
                        refine zs_istore (pc := 158) t281_158 (ls' := [(4, .int w40x6), (7, .int w90v), (0, .ref 336), (1, .int (zI M 336 22)), (2, .int w18v), (3, .int w23x3), (5, .int w40x5), (6, .int w40x6)]) (zml mf281 (by decide)) rfl ?_
                        refine zs_iload (pc := 160) t281_160 rfl ?_
                        refine zs_istore (pc := 162) t281_162 (ls' := [(5, .int w90v), (4, .int w40x6), (7, .int w90v), (0, .ref 336), (1, .int (zI M 336 22)), (2, .int w18v), (3, .int w23x3), (6, .int w40x6)]) (zml mf281 (by decide)) rfl ?_
                        obtain ⟨w93v, w93e, w93⟩ := ziadd (a := w40x6) (b := Int32.ofInt 1) rfl (show (Int32.ofInt 1).toInt = 1 by decide) (by omega) (by omega)
                        refine zs_iinc (pc := 164) t281_164 (ls' := [(6, .int w93v), (5, .int w90v), (4, .int w40x6), (7, .int w90v), (0, .ref 336), (1, .int (zI M 336 22)), (2, .int w18v), (3, .int w23x3)]) (zml mf281 (by decide)) rfl (c := w93v) w93e rfl ?_
                        refine zs_goto (pc := 167) t281_167 ?_
                        refine zGo.locals (ls' := [(0, .ref 336), (1, .int (zI M 336 22)), (2, .int w18v), (3, .int w23x3), (4, .int w40x6), (5, .int w90v), (6, .int w93v)]) (by simp) ?_
                        have w94 := w90
                        have w95 := w93
                        exact w40ih (w40m - 1) (by omega) w40x6 w90v w93v ⟨by omega, by omega⟩ ⟨by omega, by omega⟩ (by omega) (fun _ _ => by omega) (fun _ _ => by omega) (Or.inr (by rw [show w40x6.toInt.toNat = w61n by omega]; unfold zly; omega)) (fun l n q1 q2 => by obtain rfl : w85n = l := (by omega); obtain rfl : n = w61n + 1 := (by omega); have hx := w23t2 w11n w85n (by omega) (by omega); have hp := w40t3 w85n w61n (by omega) (by omega); have hL := (hx.lv (h := w61n) (by omega) (by omega)).mp (by omega); have hc := zcd.y (l := w85n) (b := (zI M 336 21).toInt) hL ((w22 w61n (by omega) hL).symm.trans (by omega)) (by omega); have ha : aw F (zI M 336 19).toInt (zI M 336 20).toInt (zI M 336 21).toInt w85n w61n = (((zI M 337 (31 + 4 * w61n)).toInt - (zlift w23M w23x3 (zI M 336 20) (zI M 336 19)).toInt) - w18v.toInt) := (by unfold aw; omega); have ha2 : aw F ((zI M 336 19).toInt, (zI M 336 20).toInt, (zI M 336 21).toInt).1 ((zI M 336 19).toInt, (zI M 336 20).toInt, (zI M 336 21).toInt).2.1 ((zI M 336 19).toInt, (zI M 336 20).toInt, (zI M 336 21).toInt).2.2 w85n w61n = (((zI M 337 (31 + 4 * w61n)).toInt - (zlift w23M w23x3 (zI M 336 20) (zI M 336 19)).toInt) - w18v.toInt) := ha; exact hp.new hc (by omega) (by omega) (by omega)) (by omega)
                      · refine zs_icmp_eqF (pc := 143) t281_143 rfl lin2 (by omega) ?_
                        refine zs_iload (pc := 146) t281_146 rfl ?_
                        refine zs_iload (pc := 148) t281_148 rfl ?_
                        by_cases w96 : (((zI M 337 (31 + 4 * w61n)).toInt - (zlift w23M w23x3 (zI M 336 20) (zI M 336 19)).toInt) - w18v.toInt) < w40x5.toInt
                        · refine zs_icmp_ltT (pc := 150) t281_150 w90 rfl (by omega) ?_
                          refine zs_iload (pc := 156) t281_156 rfl ?_
                          refine zs_istore (pc := 158) t281_158 (ls' := [(4, .int w40x6), (7, .int w90v), (0, .ref 336), (1, .int (zI M 336 22)), (2, .int w18v), (3, .int w23x3), (5, .int w40x5), (6, .int w40x6)]) (zml mf281 (by decide)) rfl ?_
                          refine zs_iload (pc := 160) t281_160 rfl ?_
                          refine zs_istore (pc := 162) t281_162 (ls' := [(5, .int w90v), (4, .int w40x6), (7, .int w90v), (0, .ref 336), (1, .int (zI M 336 22)), (2, .int w18v), (3, .int w23x3), (6, .int w40x6)]) (zml mf281 (by decide)) rfl ?_
                          obtain ⟨w97v, w97e, w97⟩ := ziadd (a := w40x6) (b := Int32.ofInt 1) rfl (show (Int32.ofInt 1).toInt = 1 by decide) (by omega) (by omega)
                          refine zs_iinc (pc := 164) t281_164 (ls' := [(6, .int w97v), (5, .int w90v), (4, .int w40x6), (7, .int w90v), (0, .ref 336), (1, .int (zI M 336 22)), (2, .int w18v), (3, .int w23x3)]) (zml mf281 (by decide)) rfl (c := w97v) w97e rfl ?_
                          refine zs_goto (pc := 167) t281_167 ?_
                          refine zGo.locals (ls' := [(0, .ref 336), (1, .int (zI M 336 22)), (2, .int w18v), (3, .int w23x3), (4, .int w40x6), (5, .int w90v), (6, .int w97v)]) (by simp) ?_
                          have w98 := w90
                          have w99 := w97
                          exact w40ih (w40m - 1) (by omega) w40x6 w90v w97v ⟨by omega, by omega⟩ ⟨by omega, by omega⟩ (by omega) (fun _ _ => by omega) (fun _ _ => by omega) (Or.inr (by rw [show w40x6.toInt.toNat = w61n by omega]; unfold zly; omega)) (fun l n q1 q2 => by obtain rfl : w85n = l := (by omega); obtain rfl : n = w61n + 1 := (by omega); have hx := w23t2 w11n w85n (by omega) (by omega); have hp := w40t3 w85n w61n (by omega) (by omega); have hL := (hx.lv (h := w61n) (by omega) (by omega)).mp (by omega); have hc := zcd.y (l := w85n) (b := (zI M 336 21).toInt) hL ((w22 w61n (by omega) hL).symm.trans (by omega)) (by omega); have ha : aw F (zI M 336 19).toInt (zI M 336 20).toInt (zI M 336 21).toInt w85n w61n = (((zI M 337 (31 + 4 * w61n)).toInt - (zlift w23M w23x3 (zI M 336 20) (zI M 336 19)).toInt) - w18v.toInt) := (by unfold aw; omega); have ha2 : aw F ((zI M 336 19).toInt, (zI M 336 20).toInt, (zI M 336 21).toInt).1 ((zI M 336 19).toInt, (zI M 336 20).toInt, (zI M 336 21).toInt).2.1 ((zI M 336 19).toInt, (zI M 336 20).toInt, (zI M 336 21).toInt).2.2 w85n w61n = (((zI M 337 (31 + 4 * w61n)).toInt - (zlift w23M w23x3 (zI M 336 20) (zI M 336 19)).toInt) - w18v.toInt) := ha; exact hp.new hc (by omega) (by omega) (by omega)) (by omega)
                        · refine zs_icmp_ltF (pc := 150) t281_150 w90 rfl (by omega) ?_
                          refine zs_goto (pc := 153) t281_153 ?_
                          obtain ⟨w100v, w100e, w100⟩ := ziadd (a := w40x6) (b := Int32.ofInt 1) rfl (show (Int32.ofInt 1).toInt = 1 by decide) (by omega) (by omega)
                          refine zs_iinc (pc := 164) t281_164 (ls' := [(6, .int w100v), (7, .int w90v), (0, .ref 336), (1, .int (zI M 336 22)), (2, .int w18v), (3, .int w23x3), (4, .int w40x4), (5, .int w40x5)]) (zml mf281 (by decide)) rfl (c := w100v) w100e rfl ?_
                          refine zs_goto (pc := 167) t281_167 ?_
                          refine zGo.locals (ls' := [(0, .ref 336), (1, .int (zI M 336 22)), (2, .int w18v), (3, .int w23x3), (4, .int w40x4), (5, .int w40x5), (6, .int w100v)]) (by simp) ?_
                          have w101 := w100
                          exact w40ih (w40m - 1) (by omega) w40x4 w40x5 w100v ⟨by omega, by omega⟩ ⟨by omega, by omega⟩ (by omega) (fun q1 q2 => by
                                by_cases hh : (g1 : Int) < w40x6.toInt
                                · exact w40t0 q1 hh
                                · obtain rfl : g1 = w61n := by omega
                                  have z1 := w23t0.2 (by omega)
                                  unfold zly at q1
                                  omega) (fun q1 q2 => by
                                by_cases hh : (g2 : Int) < w40x6.toInt
                                · exact w40t1 q1 hh
                                · obtain rfl : g2 = w61n := by omega
                                  have z1 := w23t1.2 (by omega)
                                  unfold zly at q1
                                  omega) w40t2 (fun l n q1 q2 => by obtain rfl : w85n = l := (by omega); obtain rfl : n = w61n + 1 := (by omega); have hx := w23t2 w11n w85n (by omega) (by omega); have hp := w40t3 w85n w61n (by omega) (by omega); have hL := (hx.lv (h := w61n) (by omega) (by omega)).mp (by omega); have hc := zcd.y (l := w85n) (b := (zI M 336 21).toInt) hL ((w22 w61n (by omega) hL).symm.trans (by omega)) (by omega); have ha : aw F (zI M 336 19).toInt (zI M 336 20).toInt (zI M 336 21).toInt w85n w61n = (((zI M 337 (31 + 4 * w61n)).toInt - (zlift w23M w23x3 (zI M 336 20) (zI M 336 19)).toInt) - w18v.toInt) := (by unfold aw; omega); have ha2 : aw F ((zI M 336 19).toInt, (zI M 336 20).toInt, (zI M 336 21).toInt).1 ((zI M 336 19).toInt, (zI M 336 20).toInt, (zI M 336 21).toInt).2.1 ((zI M 336 19).toInt, (zI M 336 20).toInt, (zI M 336 21).toInt).2.2 w85n w61n = (((zI M 337 (31 + 4 * w61n)).toInt - (zlift w23M w23x3 (zI M 336 20) (zI M 336 19)).toInt) - w18v.toInt) := ha; exact hp.keep ha2.symm (by omega) (by omega)) (by omega)
                    · refine zs_if_geF (pc := 1) t280_1 w90 (by omega) ?_
                      refine zs_iload_n (pc := 4) t280_4 rfl ?_
                      obtain ⟨w102v, w102e⟩ : ∃ v, -w90v = v := ⟨_, rfl⟩
                      have w102 : w102v.toInt = -(((zI M 337 (31 + 4 * w61n)).toInt - (zlift w23M w23x3 (zI M 336 20) (zI M 336 19)).toInt) - w18v.toInt) := by rw [← w102e]; exact zneg w90 (by omega)
                      refine zs_ineg (pc := 5) t280_5 (c := w102v) w102e ?_
                      refine zs_goto (pc := 6) t280_6 ?_
                      refine zs_iret (pc := 10) t280_10 mr280 rfl ?_
                      show zGo X l 4 0 0 281 137 [(0, .ref 336), (1, .int (zI M 336 22)), (2, .int w18v), (3, .int w23x3), (4, .int w40x4), (5, .int w40x5), (6, .int w40x6)] [.int w102v] w23M _
                      refine zs_istore (pc := 137) t281_137 (ls' := [(7, .int w102v), (0, .ref 336), (1, .int (zI M 336 22)), (2, .int w18v), (3, .int w23x3), (4, .int w40x4), (5, .int w40x5), (6, .int w40x6)]) (zml mf281 (by decide)) rfl ?_
                      refine zs_iload (pc := 139) t281_139 rfl ?_
                      refine zs_bipush (pc := 141) t281_141 (v := -2) (by decide) ?_
                      by_cases w103 : w40x4.toInt = (-2)
                      · refine zs_icmp_eqT (pc := 143) t281_143 rfl lin2 (by omega) ?_
                        refine zs_iload (pc := 156) t281_156 rfl ?_
                        refine zs_istore (pc := 158) t281_158 (ls' := [(4, .int w40x6), (7, .int w102v), (0, .ref 336), (1, .int (zI M 336 22)), (2, .int w18v), (3, .int w23x3), (5, .int w40x5), (6, .int w40x6)]) (zml mf281 (by decide)) rfl ?_
                        refine zs_iload (pc := 160) t281_160 rfl ?_
                        refine zs_istore (pc := 162) t281_162 (ls' := [(5, .int w102v), (4, .int w40x6), (7, .int w102v), (0, .ref 336), (1, .int (zI M 336 22)), (2, .int w18v), (3, .int w23x3), (6, .int w40x6)]) (zml mf281 (by decide)) rfl ?_
                        obtain ⟨w104v, w104e, w104⟩ := ziadd (a := w40x6) (b := Int32.ofInt 1) rfl (show (Int32.ofInt 1).toInt = 1 by decide) (by omega) (by omega)
                        refine zs_iinc (pc := 164) t281_164 (ls' := [(6, .int w104v), (5, .int w102v), (4, .int w40x6), (7, .int w102v), (0, .ref 336), (1, .int (zI M 336 22)), (2, .int w18v), (3, .int w23x3)]) (zml mf281 (by decide)) rfl (c := w104v) w104e rfl ?_
                        refine zs_goto (pc := 167) t281_167 ?_
                        refine zGo.locals (ls' := [(0, .ref 336), (1, .int (zI M 336 22)), (2, .int w18v), (3, .int w23x3), (4, .int w40x6), (5, .int w102v), (6, .int w104v)]) (by simp) ?_
                        have w105 := w102
                        have w106 := w104
                        exact w40ih (w40m - 1) (by omega) w40x6 w102v w104v ⟨by omega, by omega⟩ ⟨by omega, by omega⟩ (by omega) (fun _ _ => by omega) (fun _ _ => by omega) (Or.inr (by rw [show w40x6.toInt.toNat = w61n by omega]; unfold zly; omega)) (fun l n q1 q2 => by obtain rfl : w85n = l := (by omega); obtain rfl : n = w61n + 1 := (by omega); have hx := w23t2 w11n w85n (by omega) (by omega); have hp := w40t3 w85n w61n (by omega) (by omega); have hL := (hx.lv (h := w61n) (by omega) (by omega)).mp (by omega); have hc := zcd.y (l := w85n) (b := (zI M 336 21).toInt) hL ((w22 w61n (by omega) hL).symm.trans (by omega)) (by omega); have ha : aw F (zI M 336 19).toInt (zI M 336 20).toInt (zI M 336 21).toInt w85n w61n = (-(((zI M 337 (31 + 4 * w61n)).toInt - (zlift w23M w23x3 (zI M 336 20) (zI M 336 19)).toInt) - w18v.toInt)) := (by unfold aw; omega); have ha2 : aw F ((zI M 336 19).toInt, (zI M 336 20).toInt, (zI M 336 21).toInt).1 ((zI M 336 19).toInt, (zI M 336 20).toInt, (zI M 336 21).toInt).2.1 ((zI M 336 19).toInt, (zI M 336 20).toInt, (zI M 336 21).toInt).2.2 w85n w61n = (-(((zI M 337 (31 + 4 * w61n)).toInt - (zlift w23M w23x3 (zI M 336 20) (zI M 336 19)).toInt) - w18v.toInt)) := ha; exact hp.new hc (by omega) (by omega) (by omega)) (by omega)
                      · refine zs_icmp_eqF (pc := 143) t281_143 rfl lin2 (by omega) ?_
                        refine zs_iload (pc := 146) t281_146 rfl ?_
                        refine zs_iload (pc := 148) t281_148 rfl ?_
                        by_cases w107 : (-(((zI M 337 (31 + 4 * w61n)).toInt - (zlift w23M w23x3 (zI M 336 20) (zI M 336 19)).toInt) - w18v.toInt)) < w40x5.toInt
                        · refine zs_icmp_ltT (pc := 150) t281_150 w102 rfl (by omega) ?_
                          refine zs_iload (pc := 156) t281_156 rfl ?_
                          refine zs_istore (pc := 158) t281_158 (ls' := [(4, .int w40x6), (7, .int w102v), (0, .ref 336), (1, .int (zI M 336 22)), (2, .int w18v), (3, .int w23x3), (5, .int w40x5), (6, .int w40x6)]) (zml mf281 (by decide)) rfl ?_
                          refine zs_iload (pc := 160) t281_160 rfl ?_
                          refine zs_istore (pc := 162) t281_162 (ls' := [(5, .int w102v), (4, .int w40x6), (7, .int w102v), (0, .ref 336), (1, .int (zI M 336 22)), (2, .int w18v), (3, .int w23x3), (6, .int w40x6)]) (zml mf281 (by decide)) rfl ?_
                          obtain ⟨w108v, w108e, w108⟩ := ziadd (a := w40x6) (b := Int32.ofInt 1) rfl (show (Int32.ofInt 1).toInt = 1 by decide) (by omega) (by omega)
                          refine zs_iinc (pc := 164) t281_164 (ls' := [(6, .int w108v), (5, .int w102v), (4, .int w40x6), (7, .int w102v), (0, .ref 336), (1, .int (zI M 336 22)), (2, .int w18v), (3, .int w23x3)]) (zml mf281 (by decide)) rfl (c := w108v) w108e rfl ?_
                          refine zs_goto (pc := 167) t281_167 ?_
                          refine zGo.locals (ls' := [(0, .ref 336), (1, .int (zI M 336 22)), (2, .int w18v), (3, .int w23x3), (4, .int w40x6), (5, .int w102v), (6, .int w108v)]) (by simp) ?_
                          have w109 := w102
                          have w110 := w108
                          exact w40ih (w40m - 1) (by omega) w40x6 w102v w108v ⟨by omega, by omega⟩ ⟨by omega, by omega⟩ (by omega) (fun _ _ => by omega) (fun _ _ => by omega) (Or.inr (by rw [show w40x6.toInt.toNat = w61n by omega]; unfold zly; omega)) (fun l n q1 q2 => by obtain rfl : w85n = l := (by omega); obtain rfl : n = w61n + 1 := (by omega); have hx := w23t2 w11n w85n (by omega) (by omega); have hp := w40t3 w85n w61n (by omega) (by omega); have hL := (hx.lv (h := w61n) (by omega) (by omega)).mp (by omega); have hc := zcd.y (l := w85n) (b := (zI M 336 21).toInt) hL ((w22 w61n (by omega) hL).symm.trans (by omega)) (by omega); have ha : aw F (zI M 336 19).toInt (zI M 336 20).toInt (zI M 336 21).toInt w85n w61n = (-(((zI M 337 (31 + 4 * w61n)).toInt - (zlift w23M w23x3 (zI M 336 20) (zI M 336 19)).toInt) - w18v.toInt)) := (by unfold aw; omega); have ha2 : aw F ((zI M 336 19).toInt, (zI M 336 20).toInt, (zI M 336 21).toInt).1 ((zI M 336 19).toInt, (zI M 336 20).toInt, (zI M 336 21).toInt).2.1 ((zI M 336 19).toInt, (zI M 336 20).toInt, (zI M 336 21).toInt).2.2 w85n w61n = (-(((zI M 337 (31 + 4 * w61n)).toInt - (zlift w23M w23x3 (zI M 336 20) (zI M 336 19)).toInt) - w18v.toInt)) := ha; exact hp.new hc (by omega) (by omega) (by omega)) (by omega)
                        · refine zs_icmp_ltF (pc := 150) t281_150 w102 rfl (by omega) ?_
                          refine zs_goto (pc := 153) t281_153 ?_
                          obtain ⟨w111v, w111e, w111⟩ := ziadd (a := w40x6) (b := Int32.ofInt 1) rfl (show (Int32.ofInt 1).toInt = 1 by decide) (by omega) (by omega)
                          refine zs_iinc (pc := 164) t281_164 (ls' := [(6, .int w111v), (7, .int w102v), (0, .ref 336), (1, .int (zI M 336 22)), (2, .int w18v), (3, .int w23x3), (4, .int w40x4), (5, .int w40x5)]) (zml mf281 (by decide)) rfl (c := w111v) w111e rfl ?_
                          refine zs_goto (pc := 167) t281_167 ?_
                          refine zGo.locals (ls' := [(0, .ref 336), (1, .int (zI M 336 22)), (2, .int w18v), (3, .int w23x3), (4, .int w40x4), (5, .int w40x5), (6, .int w111v)]) (by simp) ?_
                          have w112 := w111
                          exact w40ih (w40m - 1) (by omega) w40x4 w40x5 w111v ⟨by omega, by omega⟩ ⟨by omega, by omega⟩ (by omega) (fun q1 q2 => by
                                by_cases hh : (g1 : Int) < w40x6.toInt
                                · exact w40t0 q1 hh
                                · obtain rfl : g1 = w61n := by omega
                                  have z1 := w23t0.2 (by omega)
                                  unfold zly at q1
                                  omega) (fun q1 q2 => by
                                by_cases hh : (g2 : Int) < w40x6.toInt
                                · exact w40t1 q1 hh
                                · obtain rfl : g2 = w61n := by omega
                                  have z1 := w23t1.2 (by omega)
                                  unfold zly at q1
                                  omega) w40t2 (fun l n q1 q2 => by obtain rfl : w85n = l := (by omega); obtain rfl : n = w61n + 1 := (by omega); have hx := w23t2 w11n w85n (by omega) (by omega); have hp := w40t3 w85n w61n (by omega) (by omega); have hL := (hx.lv (h := w61n) (by omega) (by omega)).mp (by omega); have hc := zcd.y (l := w85n) (b := (zI M 336 21).toInt) hL ((w22 w61n (by omega) hL).symm.trans (by omega)) (by omega); have ha : aw F (zI M 336 19).toInt (zI M 336 20).toInt (zI M 336 21).toInt w85n w61n = (-(((zI M 337 (31 + 4 * w61n)).toInt - (zlift w23M w23x3 (zI M 336 20) (zI M 336 19)).toInt) - w18v.toInt)) := (by unfold aw; omega); have ha2 : aw F ((zI M 336 19).toInt, (zI M 336 20).toInt, (zI M 336 21).toInt).1 ((zI M 336 19).toInt, (zI M 336 20).toInt, (zI M 336 21).toInt).2.1 ((zI M 336 19).toInt, (zI M 336 20).toInt, (zI M 336 21).toInt).2.2 w85n w61n = (-(((zI M 337 (31 + 4 * w61n)).toInt - (zlift w23M w23x3 (zI M 336 20) (zI M 336 19)).toInt) - w18v.toInt)) := ha; exact hp.keep ha2.symm (by omega) (by omega)) (by omega)
                  · refine zs_icmp_eqF (pc := 105) t281_105 rfl rfl (by omega) ?_
                    refine zs_goto (pc := 108) t281_108 ?_
                    obtain ⟨w113v, w113e, w113⟩ := ziadd (a := w40x6) (b := Int32.ofInt 1) rfl (show (Int32.ofInt 1).toInt = 1 by decide) (by omega) (by omega)
                    refine zs_iinc (pc := 164) t281_164 (ls' := [(6, .int w113v), (0, .ref 336), (1, .int (zI M 336 22)), (2, .int w18v), (3, .int w23x3), (4, .int w40x4), (5, .int w40x5)]) (zml mf281 (by decide)) rfl (c := w113v) w113e rfl ?_
                    refine zs_goto (pc := 167) t281_167 ?_
                    refine zGo.locals (ls' := [(0, .ref 336), (1, .int (zI M 336 22)), (2, .int w18v), (3, .int w23x3), (4, .int w40x4), (5, .int w40x5), (6, .int w113v)]) (by simp) ?_
                    have w114 := w113
                    obtain ⟨w115n, w115⟩ : ∃ n : Nat, w23x3.toInt = (n : Int) := ⟨(w23x3.toInt).toNat, by omega⟩
                    exact w40ih (w40m - 1) (by omega) w40x4 w40x5 w113v ⟨by omega, by omega⟩ ⟨by omega, by omega⟩ (by omega) (fun q1 q2 => by
                          by_cases hh : (g1 : Int) < w40x6.toInt
                          · exact w40t0 q1 hh
                          · obtain rfl : g1 = w61n := by omega
                            have z1 := w23t0.2 (by omega)
                            unfold zly at q1
                            omega) (fun q1 q2 => by
                          by_cases hh : (g2 : Int) < w40x6.toInt
                          · exact w40t1 q1 hh
                          · obtain rfl : g2 = w61n := by omega
                            have z1 := w23t1.2 (by omega)
                            unfold zly at q1
                            omega) w40t2 (fun l n q1 q2 => by obtain rfl : w115n = l := (by omega); obtain rfl : n = w61n + 1 := (by omega); have hx := w23t2 w11n w115n (by omega) (by omega); have hp := w40t3 w115n w61n (by omega) (by omega); first | exact hp.skip (hx.c0 (by omega) (by omega)) | exact hp.skip (zcd.l (by omega)) | exact hp.skip (zcd.o (b := (zI M 336 21).toInt) (fun hL => by have z : (_ : Int) = cel F ((zI M 336 19).toInt, (zI M 336 20).toInt, (zI M 336 21).toInt).1 ((zI M 336 19).toInt, (zI M 336 20).toInt, (zI M 336 21).toInt).2.1 w61n := w22 w61n (by omega) hL; omega))) (by omega)
        refine zGo.locals (ls' := [(0, .ref 336), (1, .int (zI M 336 22)), (2, .int w18v), (3, .int w23x3), (4, .int (-2 : Int32)), (5, .int (0 : Int32)), (6, .int (0 : Int32))]) (by simp) ?_
        have w116 := lin2
        have w117 := li0
        have w118 := li0
        exact w40L ((60 - 0 : Int).toNat) (-2 : Int32) (0 : Int32) (0 : Int32) ⟨by decide, by decide⟩ ⟨by decide, by decide⟩ (by omega) (fun _ z => absurd z (by omega)) (fun _ z => absurd z (by omega)) (Or.inl (by omega)) (fun l n q1 q2 => zNs.zero (by omega) (by first | decide | omega)) (by omega)
  refine zGo.locals (ls' := [(0, .ref 336), (1, .int (zI M 336 22)), (2, .int w18v), (3, .int (0 : Int32))]) (by simp) ?_
  have w119 := li0
  exact w23L ((8 - 0 : Int).toNat) (0 : Int32) w21M ⟨by decide, by decide⟩ w21s w21I zFr.refl rfl (zPT.fr pT (w21F.eq rfl)) (by omega) ⟨fun z => absurd z (by omega), fun _ => by rw [show zI w21M 343 g1 = zI M 343 g1 from (w21F 343 g1 rfl)]; exact b1⟩ ⟨fun z => absurd z (by omega), fun _ => by rw [show zI w21M 343 g2 = zI M 343 g2 from (w21F 343 g2 rfl)]; exact b2⟩ (fun i l q1 q2 => zTw.zero (by omega) x2 (fun j => (w21F 343 j rfl)) (fun j => (w21F 349 j rfl)) (fun j => (w21F 350 j rfl))) (by omega)
