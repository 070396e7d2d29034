theorem U274 {X : zX} {l : Launch} {M : zM} {Q : Option Value → zM → Prop} {a b : Int32} (hs : zSk zMm M) (hI : zIv mLo mHi M) {F : Nat → Int} {L : Nat → Bool} {P : Int → Int → Int → Prop} (pB : zPB M) (ha : (-20) ≤ a.toInt ∧ a.toInt ≤ 20) (hb : (-3) ≤ b.toInt ∧ b.toInt ≤ 3) (u0 : -(zI M 337 6).toInt ≤ a.toInt) (u1 : a.toInt ≤ (zI M 337 6).toInt) (u2 : -(zI M 337 5).toInt ≤ b.toInt) (u3 : b.toInt ≤ (zI M 337 5).toInt) (x0 : zRw M 0 F) (x1 : zWF F) (x2 : zLf M F L) (x3 : zBm M F L P) (hQ : ∀ M', zSk zMm M' → zIv mLo mHi M' → zFr [(344, 344, none), (336, 336, some 18), (336, 336, some 19), (336, 336, some 20), (336, 336, some 21)] M M' → zJ M' 351 = zJ M 351 → zPB M' → (zBm M' F L (fun x y z => P x y z ∨ (x = b.toInt ∧ y = a.toInt))) → Q none M') : zCall X l 4 0 0 274 [.ref 336, .int a, .int b] M Q := by
  have ga := zrg a
  have gb := zrg b
  refine zs_in (by decide) mf274 (Nat.le_of_ble_eq_true rfl) ?_
  show zGo X l 4 0 0 274 0 [(0, .ref 336), (1, .int a), (2, .int b)] [] M _
  have f1 := x1.1
  have f3 := x1.2.2.2
  have w1 := ibA0 hI
  have w2 : (zI M 337 0).toInt = (zI M 337 0).toInt := (congrArg Int32.toInt rfl).trans rfl
  have e0 : (zI M 337 0).toInt = F 0 := x0.at (by decide) (by decide) (by decide)
  have w3 := ibA1 hI
  have w4 : (zI M 337 1).toInt = (zI M 337 1).toInt := (congrArg Int32.toInt rfl).trans rfl
  have e1 : (zI M 337 1).toInt = F 1 := x0.at (by decide) (by decide) (by decide)
  have w5 := ibA2 hI
  have w6 : (zI M 337 2).toInt = (zI M 337 2).toInt := (congrArg Int32.toInt rfl).trans rfl
  have e2 : (zI M 337 2).toInt = F 2 := x0.at (by decide) (by decide) (by decide)
  have e5 : (zI M 337 5).toInt = F 5 := x0.at (by decide) (by decide) (by decide)
  have e6 : (zI M 337 6).toInt = F 6 := x0.at (by decide) (by decide) (by decide)
  refine zs_aload_n (pc := 0) t274_0 rfl ?_
  refine zs_iload_n (pc := 1) t274_1 rfl ?_
  refine zs_iload_n (pc := 2) t274_2 rfl ?_
  refine zs_invV (pc := 3) (k := 336) (as' := [.int a, .int b]) (st := []) t274_3 mf275 rfl rfl (Or.inl ⟨by decide, (zk1 (hs.k fk_zMm_336))⟩) ⟨by decide, by decide, Nat.le_of_ble_eq_true rfl, Nat.le_of_ble_eq_true rfl⟩ (K275 hs hI ?_) (fun _ _ q => q)
  intro w7M w7s w7I w7F w7J w7x0
  have hLy := w7x0
  show zGo X l 4 0 0 274 6 [(0, .ref 336), (1, .int a), (2, .int b)] [] w7M _
  have hLy := w7x0
  have w8 : zCo w7M F L b.toInt a.toInt := zCo.mk x0 x1 x2 w7x0 (fun j => w7F 337 j rfl) (fun j => w7F 343 j rfl) (by omega) (by omega) (by omega) (by omega)
  refine zs_iconst (pc := 6) t274_6 (v := 0) (by decide) ?_
  refine zs_istore_n (pc := 7) t274_7 (ls' := [(3, .int (0 : Int32)), (0, .ref 336), (1, .int a), (2, .int b)]) (zml mf274 (by decide)) rfl ?_
  have w9L : ∀ (m : Nat) (w9x3 : Int32) (w9M : zM), (0 ≤ w9x3.toInt ∧ w9x3.toInt ≤ 60) → zSk zMm w9M → zIv mLo mHi w9M → zFr [(336, 336, some 18), (336, 336, some 19), (336, 336, some 20), (336, 336, some 21)] w7M w9M → zJ w9M 351 = zJ w7M 351 → zPB w9M → (w9x3.toInt ≤ F 1) → (∀ n : Nat, (n : Int) = w9x3.toInt → zBm w9M F L (zPq P b.toInt a.toInt F L n)) → 60 - w9x3.toInt ≤ (m : Int) → zGo X l 4 0 0 274 8 [(0, .ref 336), (1, .int a), (2, .int b), (3, .int w9x3)] [] w9M Q := by
    intro m
    induction m using Nat.strongRecOn with
    | ind w9m w9ih =>
      intro w9x3 w9M w9b3 w9s w9I w9F w9J w9PB w9r0 w9t0 w9q
      refine zs_iload_n (pc := 8) t274_8 rfl ?_
      refine zs_aload_n (pc := 9) t274_9 rfl ?_
      refine zs_get (pc := 10) t274_10 (by decide) (zk1 (w9s.k fk_zMm_336)) (w9s.p rfl fv_zMm_336_0) ?_
      refine zs_iconst (pc := 13) t274_13 (v := 1) (by decide) ?_
      have w10 : (zI M 337 1).toInt = F 1 := x0.at (by decide) (by decide) (by decide)
      refine zs_iald (pc := 14) t274_14 (j := 1) (by decide) (zk1 (w9s.k fk_zMm_337)) li1 (zk2 (w9s.k fk_zMm_337) (by decide)) ((w9F 337 1 rfl).trans ((w7F 337 1 rfl).trans rfl)) ?_
      by_cases w11 : (zI M 337 1).toInt ≤ w9x3.toInt
      · refine zs_icmp_geT (pc := 15) t274_15 rfl rfl (by omega) ?_
        obtain ⟨w12n, w12⟩ : ∃ n : Nat, w9x3.toInt = (n : Int) := ⟨(w9x3.toInt).toNat, by omega⟩
        exact zs_vret (pc := 124) t274_124 mr274 (hQ _ w9s w9I (((zFr.refl).trans (w7F.mono rfl)).trans (w9F.mono rfl)) (w9J.trans w7J) w9PB ((w9t0 w12n (by omega)).s6 (by omega)))
      · refine zs_icmp_geF (pc := 15) t274_15 rfl rfl (by omega) ?_
        refine zs_aload_n (pc := 18) t274_18 rfl ?_
        refine zs_get (pc := 19) t274_19 (by decide) (zk1 (w9s.k fk_zMm_336)) (w9s.p rfl fv_zMm_336_16) ?_
        refine zs_iload_n (pc := 22) t274_22 rfl ?_
        obtain ⟨w13n, w13⟩ : ∃ n : Nat, w9x3.toInt = (n : Int) := ⟨(w9x3.toInt).toNat, by omega⟩
        have w14 := ib343 hI w13n
        refine zs_bald (pc := 23) t274_23 (j := w13n) (Or.inr (zk1 (w9s.k fk_zMm_343))) (show w9x3.toInt = ((w13n : Nat) : Int) by omega) (zk2 (w9s.k fk_zMm_343) (by omega)) ((w9F 343 w13n rfl).trans ((w7F 343 w13n rfl).trans rfl)) ?_
        by_cases w15 : (zI M 343 w13n).toInt = 0
        · refine zs_if_eqT (pc := 24) t274_24 rfl (by omega) ?_
          obtain ⟨w16v, w16e, w16⟩ := ziadd (a := w9x3) (b := Int32.ofInt 1) rfl (show (Int32.ofInt 1).toInt = 1 by decide) (by omega) (by omega)
          refine zs_iinc (pc := 118) t274_118 (ls' := [(3, .int w16v), (0, .ref 336), (1, .int a), (2, .int b)]) (zml mf274 (by decide)) rfl (c := w16v) w16e rfl ?_
          refine zs_goto (pc := 121) t274_121 ?_
          refine zGo.locals (ls' := [(0, .ref 336), (1, .int a), (2, .int b), (3, .int w16v)]) (by simp) ?_
          have w17 := w16
          exact w9ih (w9m - 1) (by omega) w16v w9M ⟨by omega, by omega⟩ w9s w9I ((zFr.refl).trans (w9F.mono rfl)) w9J w9PB (by omega) (fun n hq => by obtain rfl : n = w13n + 1 := (by omega); exact (w9t0 w13n (by omega)).s1 (x2.n (by omega) (by omega))) (by omega)
        · refine zs_if_eqF (pc := 24) t274_24 rfl (by omega) ?_
          refine zs_aload_n (pc := 27) t274_27 rfl ?_
          refine zs_iload_n (pc := 28) t274_28 rfl ?_
          have w18 : (zI w9M 337 1).toInt = (zI M 337 1).toInt := (congrArg Int32.toInt ((w9F 337 1 rfl).trans ((w7F 337 1 rfl).trans rfl))).trans rfl
          refine zs_invV (pc := 29) (k := 336) (as' := [.int w9x3]) (st := []) t274_29 mf276 rfl rfl (Or.inl ⟨by decide, (zk1 (w9s.k fk_zMm_336))⟩) ⟨by decide, by decide, Nat.le_of_ble_eq_true rfl, Nat.le_of_ble_eq_true rfl⟩ (U276 w9s w9I ⟨by omega, by omega⟩ (by omega) (zRw.fr' x0 (fun j hj => ((w9F 337 j rfl).trans (w7F 337 j rfl)))) x1 (zLf.fr x2 (fun j => ((w9F 343 j rfl).trans (w7F 343 j rfl)))) (zCo.fr w8 (fun j => (w9F 344 j rfl))) ?_) (fun _ _ q => q)
          intro w19v w19x0 w19a w19b
          show zGo X l 4 0 0 274 32 [(0, .ref 336), (1, .int a), (2, .int b), (3, .int w9x3)] [.int w19v] w9M _
          by_cases w20 : w19v.toInt ≠ 0
          · refine zs_if_neT (pc := 32) t274_32 rfl (by omega) ?_
            refine zs_aload_n (pc := 38) t274_38 rfl ?_
            refine zs_aload_n (pc := 39) t274_39 rfl ?_
            refine zs_get (pc := 40) t274_40 (by decide) (zk1 (w9s.k fk_zMm_336)) (w9s.p rfl fv_zMm_336_17) ?_
            refine zs_iload_n (pc := 43) t274_43 rfl ?_
            have w21 := zrg (zI w7M 344 w13n)
            refine zs_iald (pc := 44) t274_44 (j := w13n) (by decide) (zk1 (w9s.k fk_zMm_344)) (show w9x3.toInt = ((w13n : Nat) : Int) by omega) (zk2 (w9s.k fk_zMm_344) (by omega)) ((w9F 344 w13n rfl).trans rfl) ?_
            refine zs_invV (pc := 45) (k := 336) (as' := [.int (zI w7M 344 w13n)]) (st := []) t274_45 mf277 rfl rfl (Or.inl ⟨by decide, (zk1 (w9s.k fk_zMm_336))⟩) ⟨by decide, by decide, Nat.le_of_ble_eq_true rfl, Nat.le_of_ble_eq_true rfl⟩ (U277 w9s w9I (zRw.fr' x0 (fun j hj => ((w9F 337 j rfl).trans (w7F 337 j rfl)))) x1 (zLf.fr x2 (fun j => ((w9F 343 j rfl).trans (w7F 343 j rfl)))) (zCo.fr w8 (fun j => (w9F 344 j rfl))) ?_) (fun _ _ q => q)
            intro w22v w22x0 w22x1
            have w22g := zrg w22v
            show zGo X l 4 0 0 274 48 [(0, .ref 336), (1, .int a), (2, .int b), (3, .int w9x3)] [.int w22v] w9M _
            have w23 := vot.rg (F := F) (L := L) (k := b.toInt) (t := a.toInt) (b := (zI w7M 344 w13n).toInt)
            refine zs_istore (pc := 48) t274_48 (ls' := [(4, .int w22v), (0, .ref 336), (1, .int a), (2, .int b), (3, .int w9x3)]) (zml mf274 (by decide)) rfl ?_
            refine zs_aload_n (pc := 50) t274_50 rfl ?_
            have w24 := zrg (zI w9M 336 18)
            refine zs_get (pc := 51) t274_51 (by decide) (zk1 (w9s.k fk_zMm_336)) (zfvi rfl rfl) ?_
            by_cases w25 : (zI w9M 336 18).toInt ≤ 0
            · refine zs_if_leT (pc := 54) t274_54 rfl (by omega) ?_
              refine zs_aload_n (pc := 92) t274_92 rfl ?_
              refine zs_iload (pc := 93) t274_93 rfl ?_
              have w26 : zIv mLo mHi (zsI w9M 336 18 w22v) := zIv.put w9I (show (-2147483648) ≤ w22v.toInt ∧ w22v.toInt ≤ 2147483647 from zrg w22v)
              refine zs_putI (pc := 95) t274_95 (zk1 (w9s.k fk_zMm_336)) rfl ?_
              refine zs_aload_n (pc := 98) t274_98 rfl ?_
              refine zs_iload_n (pc := 99) t274_99 rfl ?_
              have w27 : zIv mLo mHi (zsI (zsI w9M 336 18 w22v) 336 19 b) := zIv.put w26 (show (-2147483648) ≤ b.toInt ∧ b.toInt ≤ 2147483647 from zrg b)
              refine zs_putI (pc := 100) t274_100 (zk1 (w9s.k fk_zMm_336)) rfl ?_
              refine zs_aload_n (pc := 103) t274_103 rfl ?_
              refine zs_iload_n (pc := 104) t274_104 rfl ?_
              have w28 : zIv mLo mHi (zsI (zsI (zsI w9M 336 18 w22v) 336 19 b) 336 20 a) := zIv.put w27 (show (-2147483648) ≤ a.toInt ∧ a.toInt ≤ 2147483647 from zrg a)
              refine zs_putI (pc := 105) t274_105 (zk1 (w9s.k fk_zMm_336)) rfl ?_
              refine zs_aload_n (pc := 108) t274_108 rfl ?_
              refine zs_aload_n (pc := 109) t274_109 rfl ?_
              refine zs_get (pc := 110) t274_110 (by decide) (zk1 (w9s.k fk_zMm_336)) (w9s.p rfl fv_zMm_336_17) ?_
              refine zs_iload_n (pc := 113) t274_113 rfl ?_
              refine zs_iald (pc := 114) t274_114 (j := w13n) (by decide) (zk1 (w9s.k fk_zMm_344)) (show w9x3.toInt = ((w13n : Nat) : Int) by omega) (zk2 (w9s.k fk_zMm_344) (by omega)) ((zIo (by decide)).trans ((zIo (by decide)).trans ((zIo (by decide)).trans ((w9F 344 w13n rfl).trans rfl)))) ?_
              have w29 : zIv mLo mHi (zsI (zsI (zsI (zsI w9M 336 18 w22v) 336 19 b) 336 20 a) 336 21 (zI w7M 344 w13n)) := zIv.put w28 (show (-2147483648) ≤ (zI w7M 344 w13n).toInt ∧ (zI w7M 344 w13n).toInt ≤ 2147483647 from zrg (zI w7M 344 w13n))
              have w30 : zPB (zsI (zsI (zsI (zsI w9M 336 18 w22v) 336 19 b) 336 20 a) 336 21 (zI w7M 344 w13n)) := zPB.mk w22x0 (zLy.fr hLy (w9F.eq rfl))
              refine zs_putI (pc := 115) t274_115 (zk1 (w9s.k fk_zMm_336)) rfl ?_
              obtain ⟨w31v, w31e, w31⟩ := ziadd (a := w9x3) (b := Int32.ofInt 1) rfl (show (Int32.ofInt 1).toInt = 1 by decide) (by omega) (by omega)
              refine zs_iinc (pc := 118) t274_118 (ls' := [(3, .int w31v), (4, .int w22v), (0, .ref 336), (1, .int a), (2, .int b)]) (zml mf274 (by decide)) rfl (c := w31v) w31e rfl ?_
              refine zs_goto (pc := 121) t274_121 ?_
              refine zGo.locals (ls' := [(0, .ref 336), (1, .int a), (2, .int b), (3, .int w31v)]) (by simp) ?_
              have w32 := w31
              have w33 : (zI (zsI (zsI (zsI (zsI w9M 336 18 w22v) 336 19 b) 336 20 a) 336 21 (zI w7M 344 w13n)) 336 18).toInt = w22v.toInt := (congrArg Int32.toInt ((zIoj (by decide)).trans ((zIoj (by decide)).trans ((zIoj (by decide)).trans zIs)))).trans rfl
              have w34 : (zI (zsI (zsI (zsI (zsI w9M 336 18 w22v) 336 19 b) 336 20 a) 336 21 (zI w7M 344 w13n)) 336 19).toInt = b.toInt := (congrArg Int32.toInt ((zIoj (by decide)).trans ((zIoj (by decide)).trans zIs))).trans rfl
              have w35 : (zI (zsI (zsI (zsI (zsI w9M 336 18 w22v) 336 19 b) 336 20 a) 336 21 (zI w7M 344 w13n)) 336 20).toInt = a.toInt := (congrArg Int32.toInt ((zIoj (by decide)).trans zIs)).trans rfl
              have w36 : (zI (zsI (zsI (zsI (zsI w9M 336 18 w22v) 336 19 b) 336 20 a) 336 21 (zI w7M 344 w13n)) 336 21).toInt = (zI w7M 344 w13n).toInt := (congrArg Int32.toInt zIs).trans rfl
              exact w9ih (w9m - 1) (by omega) w31v (zsI (zsI (zsI (zsI w9M 336 18 w22v) 336 19 b) 336 20 a) 336 21 (zI w7M 344 w13n)) ⟨by omega, by omega⟩ w9s w29 ((((((zFr.refl).trans (w9F.mono rfl)).put rfl).put rfl).put rfl).put rfl) w9J w30 (by omega) (fun n hq => by obtain rfl : n = w13n + 1 := (by omega); have hL := x2.y (h := w13n) (by omega) (by omega); have hc := w8 w13n (by omega) hL; have hw := x1.2.2.1 w13n (by omega); have hv := vot.one (l := (F (30 + 4 * w13n)).toNat) (n := w13n) (by omega) hL hc.symm (by omega) (by omega); exact zBz.cs ((w9t0 w13n (by omega)).s4 hc.symm w22x1 (by unfold zIr; omega) (by have z := w22x1; omega) (Or.inl (by omega))) (by omega) (by omega) (by omega) (by omega)) (by omega)
            · refine zs_if_leF (pc := 54) t274_54 rfl (by omega) ?_
              refine zs_iload (pc := 57) t274_57 rfl ?_
              refine zs_iload_n (pc := 59) t274_59 rfl ?_
              refine zs_iload_n (pc := 60) t274_60 rfl ?_
              refine zs_aload_n (pc := 61) t274_61 rfl ?_
              refine zs_get (pc := 62) t274_62 (by decide) (zk1 (w9s.k fk_zMm_336)) (w9s.p rfl fv_zMm_336_17) ?_
              refine zs_iload_n (pc := 65) t274_65 rfl ?_
              refine zs_iald (pc := 66) t274_66 (j := w13n) (by decide) (zk1 (w9s.k fk_zMm_344)) (show w9x3.toInt = ((w13n : Nat) : Int) by omega) (zk2 (w9s.k fk_zMm_344) (by omega)) ((w9F 344 w13n rfl).trans rfl) ?_
              refine zs_aload_n (pc := 67) t274_67 rfl ?_
              refine zs_get (pc := 68) t274_68 (by decide) (zk1 (w9s.k fk_zMm_336)) (zfvi rfl rfl) ?_
              refine zs_aload_n (pc := 71) t274_71 rfl ?_
              have w37 := zrg (zI w9M 336 19)
              refine zs_get (pc := 72) t274_72 (by decide) (zk1 (w9s.k fk_zMm_336)) (zfvi rfl rfl) ?_
              refine zs_aload_n (pc := 75) t274_75 rfl ?_
              have w38 := zrg (zI w9M 336 20)
              refine zs_get (pc := 76) t274_76 (by decide) (zk1 (w9s.k fk_zMm_336)) (zfvi rfl rfl) ?_
              refine zs_aload_n (pc := 79) t274_79 rfl ?_
              have w39 := zrg (zI w9M 336 21)
              refine zs_get (pc := 80) t274_80 (by decide) (zk1 (w9s.k fk_zMm_336)) (zfvi rfl rfl) ?_
              have w40 := (w9t0 w13n (by omega)).rg x1
              have w40r := w40.2.2 (by omega)
              refine zs_invS (pc := 83) (as := [.int w22v, .int b, .int a, .int (zI w7M 344 w13n), .int (zI w9M 336 18), .int (zI w9M 336 19), .int (zI w9M 336 20), .int (zI w9M 336 21)]) (st := []) t274_83 (by decide) mf279 rfl rfl ⟨by decide, by decide, Nat.le_of_ble_eq_true rfl, Nat.le_of_ble_eq_true rfl⟩ (U279 w9s w9I ⟨by omega, by omega⟩ ⟨by omega, by omega⟩ ⟨by omega, by omega⟩ ⟨by omega, by omega⟩ ⟨by omega, by omega⟩ ⟨by omega, by omega⟩ ?_) (fun _ _ q => q)
              intro w41v w41x0 w41a w41b
              show zGo X l 4 0 0 274 86 [(4, .int w22v), (0, .ref 336), (1, .int a), (2, .int b), (3, .int w9x3)] [.int w41v] w9M _
              by_cases w42 : w41v.toInt ≠ 0
              · refine zs_if_neT (pc := 86) t274_86 rfl (by omega) ?_
                refine zs_aload_n (pc := 92) t274_92 rfl ?_
                refine zs_iload (pc := 93) t274_93 rfl ?_
                have w43 : zIv mLo mHi (zsI w9M 336 18 w22v) := zIv.put w9I (show (-2147483648) ≤ w22v.toInt ∧ w22v.toInt ≤ 2147483647 from zrg w22v)
                refine zs_putI (pc := 95) t274_95 (zk1 (w9s.k fk_zMm_336)) rfl ?_
                refine zs_aload_n (pc := 98) t274_98 rfl ?_
                refine zs_iload_n (pc := 99) t274_99 rfl ?_
                have w44 : zIv mLo mHi (zsI (zsI w9M 336 18 w22v) 336 19 b) := zIv.put w43 (show (-2147483648) ≤ b.toInt ∧ b.toInt ≤ 2147483647 from zrg b)
                refine zs_putI (pc := 100) t274_100 (zk1 (w9s.k fk_zMm_336)) rfl ?_
                refine zs_aload_n (pc := 103) t274_103 rfl ?_
                refine zs_iload_n (pc := 104) t274_104 rfl ?_
                have w45 : zIv mLo mHi (zsI (zsI (zsI w9M 336 18 w22v) 336 19 b) 336 20 a) := zIv.put w44 (show (-2147483648) ≤ a.toInt ∧ a.toInt ≤ 2147483647 from zrg a)
                refine zs_putI (pc := 105) t274_105 (zk1 (w9s.k fk_zMm_336)) rfl ?_
                refine zs_aload_n (pc := 108) t274_108 rfl ?_
                refine zs_aload_n (pc := 109) t274_109 rfl ?_
                refine zs_get (pc := 110) t274_110 (by decide) (zk1 (w9s.k fk_zMm_336)) (w9s.p rfl fv_zMm_336_17) ?_
                refine zs_iload_n (pc := 113) t274_113 rfl ?_
                refine zs_iald (pc := 114) t274_114 (j := w13n) (by decide) (zk1 (w9s.k fk_zMm_344)) (show w9x3.toInt = ((w13n : Nat) : Int) by omega) (zk2 (w9s.k fk_zMm_344) (by omega)) ((zIo (by decide)).trans ((zIo (by decide)).trans ((zIo (by decide)).trans ((w9F 344 w13n rfl).trans rfl)))) ?_
                have w46 : zIv mLo mHi (zsI (zsI (zsI (zsI w9M 336 18 w22v) 336 19 b) 336 20 a) 336 21 (zI w7M 344 w13n)) := zIv.put w45 (show (-2147483648) ≤ (zI w7M 344 w13n).toInt ∧ (zI w7M 344 w13n).toInt ≤ 2147483647 from zrg (zI w7M 344 w13n))
                have w47 : zPB (zsI (zsI (zsI (zsI w9M 336 18 w22v) 336 19 b) 336 20 a) 336 21 (zI w7M 344 w13n)) := zPB.mk w22x0 (zLy.fr hLy (w9F.eq rfl))
                refine zs_putI (pc := 115) t274_115 (zk1 (w9s.k fk_zMm_336)) rfl ?_
                obtain ⟨w48v, w48e, w48⟩ := ziadd (a := w9x3) (b := Int32.ofInt 1) rfl (show (Int32.ofInt 1).toInt = 1 by decide) (by omega) (by omega)
                refine zs_iinc (pc := 118) t274_118 (ls' := [(3, .int w48v), (4, .int w22v), (0, .ref 336), (1, .int a), (2, .int b)]) (zml mf274 (by decide)) rfl (c := w48v) w48e rfl ?_
                refine zs_goto (pc := 121) t274_121 ?_
                refine zGo.locals (ls' := [(0, .ref 336), (1, .int a), (2, .int b), (3, .int w48v)]) (by simp) ?_
                have w49 := w48
                have w50 : (zI (zsI (zsI (zsI (zsI w9M 336 18 w22v) 336 19 b) 336 20 a) 336 21 (zI w7M 344 w13n)) 336 18).toInt = w22v.toInt := (congrArg Int32.toInt ((zIoj (by decide)).trans ((zIoj (by decide)).trans ((zIoj (by decide)).trans zIs)))).trans rfl
                have w51 : (zI (zsI (zsI (zsI (zsI w9M 336 18 w22v) 336 19 b) 336 20 a) 336 21 (zI w7M 344 w13n)) 336 19).toInt = b.toInt := (congrArg Int32.toInt ((zIoj (by decide)).trans ((zIoj (by decide)).trans zIs))).trans rfl
                have w52 : (zI (zsI (zsI (zsI (zsI w9M 336 18 w22v) 336 19 b) 336 20 a) 336 21 (zI w7M 344 w13n)) 336 20).toInt = a.toInt := (congrArg Int32.toInt ((zIoj (by decide)).trans zIs)).trans rfl
                have w53 : (zI (zsI (zsI (zsI (zsI w9M 336 18 w22v) 336 19 b) 336 20 a) 336 21 (zI w7M 344 w13n)) 336 21).toInt = (zI w7M 344 w13n).toInt := (congrArg Int32.toInt zIs).trans rfl
                exact w9ih (w9m - 1) (by omega) w48v (zsI (zsI (zsI (zsI w9M 336 18 w22v) 336 19 b) 336 20 a) 336 21 (zI w7M 344 w13n)) ⟨by omega, by omega⟩ w9s w46 ((((((zFr.refl).trans (w9F.mono rfl)).put rfl).put rfl).put rfl).put rfl) w9J w47 (by omega) (fun n hq => by obtain rfl : n = w13n + 1 := (by omega); have hL := x2.y (h := w13n) (by omega) (by omega); have hc := w8 w13n (by omega) hL; have hw := x1.2.2.1 w13n (by omega); have hv := vot.one (l := (F (30 + 4 * w13n)).toNat) (n := w13n) (by omega) hL hc.symm (by omega) (by omega); exact zBz.cs ((w9t0 w13n (by omega)).s4 hc.symm w22x1 (by unfold zIr; omega) (by have z := w22x1; omega) (Or.inr (w41x0.elim (fun q => q.2) (fun q => absurd q.1 (by omega))))) (by omega) (by omega) (by omega) (by omega)) (by omega)
              · refine zs_if_neF (pc := 86) t274_86 rfl (by omega) ?_
                refine zs_goto (pc := 89) t274_89 ?_
                obtain ⟨w54v, w54e, w54⟩ := ziadd (a := w9x3) (b := Int32.ofInt 1) rfl (show (Int32.ofInt 1).toInt = 1 by decide) (by omega) (by omega)
                refine zs_iinc (pc := 118) t274_118 (ls' := [(3, .int w54v), (4, .int w22v), (0, .ref 336), (1, .int a), (2, .int b)]) (zml mf274 (by decide)) rfl (c := w54v) w54e rfl ?_
                refine zs_goto (pc := 121) t274_121 ?_
                refine zGo.locals (ls' := [(0, .ref 336), (1, .int a), (2, .int b), (3, .int w54v)]) (by simp) ?_
                have w55 := w54
                exact w9ih (w9m - 1) (by omega) w54v w9M ⟨by omega, by omega⟩ w9s w9I ((zFr.refl).trans (w9F.mono rfl)) w9J w9PB (by omega) (fun n hq => by obtain rfl : n = w13n + 1 := (by omega); have hL := x2.y (h := w13n) (by omega) (by omega); have hc := w8 w13n (by omega) hL; exact (w9t0 w13n (by omega)).s3 hc.symm w22x1 (by omega) (w41x0.elim (fun q => absurd q.1 (by omega)) (fun q => q.2))) (by omega)
          · refine zs_if_neF (pc := 32) t274_32 rfl (by omega) ?_
            refine zs_goto (pc := 35) t274_35 ?_
            obtain ⟨w56v, w56e, w56⟩ := ziadd (a := w9x3) (b := Int32.ofInt 1) rfl (show (Int32.ofInt 1).toInt = 1 by decide) (by omega) (by omega)
            refine zs_iinc (pc := 118) t274_118 (ls' := [(3, .int w56v), (0, .ref 336), (1, .int a), (2, .int b)]) (zml mf274 (by decide)) rfl (c := w56v) w56e rfl ?_
            refine zs_goto (pc := 121) t274_121 ?_
            refine zGo.locals (ls' := [(0, .ref 336), (1, .int a), (2, .int b), (3, .int w56v)]) (by simp) ?_
            have w57 := w56
            exact w9ih (w9m - 1) (by omega) w56v w9M ⟨by omega, by omega⟩ w9s w9I ((zFr.refl).trans (w9F.mono rfl)) w9J w9PB (by omega) (fun n hq => by obtain rfl : n = w13n + 1 := (by omega); have hL := x2.y (h := w13n) (by omega) (by omega); have hc := w8 w13n (by omega) hL; obtain ⟨j, j1, j2, j3⟩ := w19x0.resolve_left (by omega); exact (w9t0 w13n (by omega)).s2 (j := j) (by omega) j2 ((j3 w13n (by omega)).trans ((congrArg Int32.toInt (w9F 344 w13n rfl)).trans hc))) (by omega)
  refine zGo.locals (ls' := [(0, .ref 336), (1, .int a), (2, .int b), (3, .int (0 : Int32))]) (by simp) ?_
  have w58 := li0
  have w59 := zrg (zI M 336 18)
  have w60 : (zI w7M 336 18).toInt = (zI M 336 18).toInt := (congrArg Int32.toInt ((w7F 336 18 rfl).trans rfl)).trans rfl
  have w61 := zrg (zI M 336 19)
  have w62 : (zI w7M 336 19).toInt = (zI M 336 19).toInt := (congrArg Int32.toInt ((w7F 336 19 rfl).trans rfl)).trans rfl
  have w63 := zrg (zI M 336 20)
  have w64 : (zI w7M 336 20).toInt = (zI M 336 20).toInt := (congrArg Int32.toInt ((w7F 336 20 rfl).trans rfl)).trans rfl
  have w65 := zrg (zI M 336 21)
  have w66 : (zI w7M 336 21).toInt = (zI M 336 21).toInt := (congrArg Int32.toInt ((w7F 336 21 rfl).trans rfl)).trans rfl
  exact w9L ((60 - 0 : Int).toNat) (0 : Int32) w7M ⟨by decide, by decide⟩ w7s w7I zFr.refl rfl (zPB.fr pB (w7F.eq rfl)) (by omega) (fun n hq => (zBz.cs x3 (by omega) (by omega) (by omega) (by omega)).s0 (by omega)) (by omega)
theorem U270 {X : zX} {l : Launch} {M : zM} {Q : Option Value → zM → Prop} {a : Int32} (hs : zSk zMm M) (hI : zIv mLo mHi M) {F : Nat → Int} (x0 : zRw M 0 F) (x1 : zWF F) (hQ : ∀ M', zSk zMm M' → zIv mLo mHi M' → zFr [(343, 343, none), (350, 350, none)] M M' → zJ M' 351 = zJ M 351 → (zLf M' F (zL0 F a.toInt)) → (∀ h : Nat, (h : Int) < F 1 → (zI M' 350 h).toInt = -2) → Q none M') : zCall X l 2 0 0 270 [.ref 336, .int a] M Q := by
  have ga := zrg a
  refine zs_in (by decide) mf270 (Nat.le_of_ble_eq_true rfl) ?_
  show zGo X l 2 0 0 270 0 [(0, .ref 336), (1, .int a)] [] M _
  have f1 := x1.1
  have f3 := x1.2.2.2
  have w1 := ibA0 hI
  have w2 : (zI M 337 0).toInt = (zI M 337 0).toInt := (congrArg Int32.toInt rfl).trans rfl
  have e0 : (zI M 337 0).toInt = F 0 := x0.at (by decide) (by decide) (by decide)
  have w3 := ibA1 hI
  have w4 : (zI M 337 1).toInt = (zI M 337 1).toInt := (congrArg Int32.toInt rfl).trans rfl
  have e1 : (zI M 337 1).toInt = F 1 := x0.at (by decide) (by decide) (by decide)
  have w5 := ibA2 hI
  have w6 : (zI M 337 2).toInt = (zI M 337 2).toInt := (congrArg Int32.toInt rfl).trans rfl
  have e2 : (zI M 337 2).toInt = F 2 := x0.at (by decide) (by decide) (by decide)
  refine zs_iconst (pc := 0) t270_0 (v := 0) (by decide) ?_
  refine zs_istore_n (pc := 1) t270_1 (ls' := [(2, .int (0 : Int32)), (0, .ref 336), (1, .int a)]) (zml mf270 (by decide)) rfl ?_
  have w7L : ∀ (m : Nat) (w7x2 : Int32) (w7M : zM), (0 ≤ w7x2.toInt ∧ w7x2.toInt ≤ 60) → zSk zMm w7M → zIv mLo mHi w7M → zFr [(343, 343, none), (350, 350, none)] M w7M → zJ w7M 351 = zJ M 351 → (w7x2.toInt ≤ F 1) → (∀ n : Nat, (n : Int) = w7x2.toInt → zLz w7M F a.toInt n) → 60 - w7x2.toInt ≤ (m : Int) → zGo X l 2 0 0 270 2 [(0, .ref 336), (1, .int a), (2, .int w7x2)] [] w7M Q := by
    intro m
    induction m using Nat.strongRecOn with
    | ind w7m w7ih =>
      intro w7x2 w7M w7b2 w7s w7I w7F w7J w7r0 w7t0 w7q
      refine zs_iload_n (pc := 2) t270_2 rfl ?_
      refine zs_aload_n (pc := 3) t270_3 rfl ?_
      refine zs_get (pc := 4) t270_4 (by decide) (zk1 (w7s.k fk_zMm_336)) (w7s.p rfl fv_zMm_336_0) ?_
      refine zs_iconst (pc := 7) t270_7 (v := 1) (by decide) ?_
      have w8 : (zI M 337 1).toInt = F 1 := x0.at (by decide) (by decide) (by decide)
      refine zs_iald (pc := 8) t270_8 (j := 1) (by decide) (zk1 (w7s.k fk_zMm_337)) li1 (zk2 (w7s.k fk_zMm_337) (by decide)) ((w7F 337 1 rfl).trans rfl) ?_
      by_cases w9 : (zI M 337 1).toInt ≤ w7x2.toInt
      · refine zs_icmp_geT (pc := 9) t270_9 rfl rfl (by omega) ?_
        obtain ⟨w10n, w10⟩ : ∃ n : Nat, w7x2.toInt = (n : Int) := ⟨(w7x2.toInt).toNat, by omega⟩
        exact zs_vret (pc := 38) t270_38 mr270 (hQ _ w7s w7I ((zFr.refl).trans (w7F.mono rfl)) w7J ((w7t0 w10n (by omega)).lf (by omega)) (fun h hh => ((w7t0 w10n (by omega)) h (by omega)).2))
      · refine zs_icmp_geF (pc := 9) t270_9 rfl rfl (by omega) ?_
        refine zs_aload_n (pc := 12) t270_12 rfl ?_
        refine zs_get (pc := 13) t270_13 (by decide) (zk1 (w7s.k fk_zMm_336)) (w7s.p rfl fv_zMm_336_16) ?_
        refine zs_iload_n (pc := 16) t270_16 rfl ?_
        refine zs_aload_n (pc := 17) t270_17 rfl ?_
        refine zs_iload_n (pc := 18) t270_18 rfl ?_
        refine zs_iload_n (pc := 19) t270_19 rfl ?_
        have w11 : (zI w7M 337 1).toInt = (zI M 337 1).toInt := (congrArg Int32.toInt ((w7F 337 1 rfl).trans rfl)).trans rfl
        refine zs_invV (pc := 20) (k := 336) (as' := [.int w7x2, .int a]) (st := [.int w7x2, .ref 343]) t270_20 mf271 rfl rfl (Or.inl ⟨by decide, (zk1 (w7s.k fk_zMm_336))⟩) ⟨by decide, by decide, Nat.le_of_ble_eq_true rfl, Nat.le_of_ble_eq_true rfl⟩ (R271 w7s w7I ⟨by omega, by omega⟩ (by omega) (zRw.fr' x0 (fun j hj => (w7F 337 j rfl))) x1 ?_) (fun _ _ q => q)
        intro w12v w12x0 w12a w12b
        show zGo X l 2 0 0 270 23 [(0, .ref 336), (1, .int a), (2, .int w7x2)] [.int w12v, .int w7x2, .ref 343] w7M _
        obtain ⟨w13n, w13⟩ : ∃ n : Nat, w7x2.toInt = (n : Int) := ⟨(w7x2.toInt).toNat, by omega⟩
        have w14e : vp_nar .boolean w12v = w12v := zb01 (by omega)
        have w15 : zIv mLo mHi (zsI w7M 343 w13n w12v) := zIv.put w7I (show 0 ≤ w12v.toInt ∧ w12v.toInt ≤ 1 from ⟨by omega, by omega⟩)
        refine zs_bastZ (pc := 23) t270_23 (j := w13n) (by decide) (zk1 (w7s.k fk_zMm_343)) (show w7x2.toInt = ((w13n : Nat) : Int) by omega) (zk2 (w7s.k fk_zMm_343) (by omega)) w14e ?_
        refine zs_aload_n (pc := 24) t270_24 rfl ?_
        refine zs_get (pc := 25) t270_25 (by decide) (zk1 (w7s.k fk_zMm_336)) (w7s.p rfl fv_zMm_336_28) ?_
        refine zs_iload_n (pc := 28) t270_28 rfl ?_
        refine zs_bipush (pc := 29) t270_29 (v := -2) (by decide) ?_
        have w16 : zIv mLo mHi (zsI (zsI w7M 343 w13n w12v) 350 w13n (-2 : Int32)) := zIv.put w15 (show (-2147483648) ≤ (-2 : Int32).toInt ∧ (-2 : Int32).toInt ≤ 2147483647 from zrg (-2 : Int32))
        refine zs_iast (pc := 31) t270_31 (j := w13n) (by decide) (zk1 (w7s.k fk_zMm_350)) (show w7x2.toInt = ((w13n : Nat) : Int) by omega) (zk2 (w7s.k fk_zMm_350) (by omega)) ?_
        obtain ⟨w17v, w17e, w17⟩ := ziadd (a := w7x2) (b := Int32.ofInt 1) rfl (show (Int32.ofInt 1).toInt = 1 by decide) (by omega) (by omega)
        refine zs_iinc (pc := 32) t270_32 (ls' := [(2, .int w17v), (0, .ref 336), (1, .int a)]) (zml mf270 (by decide)) rfl (c := w17v) w17e rfl ?_
        refine zs_goto (pc := 35) t270_35 ?_
        refine zGo.locals (ls' := [(0, .ref 336), (1, .int a), (2, .int w17v)]) (by simp) ?_
        have w18 := w17
        exact w7ih (w7m - 1) (by omega) w17v (zsI (zsI w7M 343 w13n w12v) 350 w13n (-2 : Int32)) ⟨by omega, by omega⟩ w7s w16 ((((zFr.refl).trans (w7F.mono rfl)).put rfl).put rfl) w7J (by omega) (fun n hq => by obtain rfl : n = w13n + 1 := (by omega); exact (w7t0 w13n (by omega)).put (w12x0 w13n (by omega) (by omega)) (by decide)) (by omega)
  refine zGo.locals (ls' := [(0, .ref 336), (1, .int a), (2, .int (0 : Int32))]) (by simp) ?_
  have w19 := li0
  exact w7L ((60 - 0 : Int).toNat) (0 : Int32) M ⟨by decide, by decide⟩ hs hI zFr.refl rfl (by omega) (fun n hq => by obtain rfl : n = 0 := (by omega); exact fun h z => absurd z (by omega)) (by omega)
set_option maxHeartbeats 8000000 in
theorem U281 {X : zX} {l : Launch} {M : zM} {Q : Option Value → zM → Prop} (hs : zSk zMm M) (hI : zIv mLo mHi M) {F : Nat → Int} {L : Nat → Bool} {n : Nat} {τ : Nat → zTkk} (pR : zPR M) (pB : zPB M) (pT : zPT M) (u0 : 2 ≤ (zI M 336 18).toInt) (u1 : (zI M 336 22).toInt < 20) (x0 : zRw M 0 F) (x1 : zWF F) (x2 : zLf M F L) (x3 : zBe F L ((zI M 336 19).toInt, (zI M 336 20).toInt, (zI M 336 21).toInt) (zI M 336 18).toInt) (x4 : zTms M F n τ ∧ (zI M 336 22).toInt = (n : Int)) (hQ : ∀ M', zSk zMm M' → zIv mLo mHi M' → zFr [(344, 344, none), (349, 349, none), (350, 350, none), (343, 343, none), (345, 345, none), (346, 346, none), (347, 347, none), (348, 348, none), (336, 336, some 22)] M M' → zJ M' 351 = zJ M 351 → zPT M' → ((zI M' 336 22).toInt = (zI M 336 22).toInt + 1) → (∃ q : zTkk, zTq F L q ∧ zLf M' F (zrmv F L q.2.2) ∧ zTms M' F (n + 1) (uT τ n q)) → Q none M') : zCall X l 4 0 0 281 [.ref 336] M Q := by
  sorry
