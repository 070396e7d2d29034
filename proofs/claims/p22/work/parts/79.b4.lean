theorem R237 {X : zX} {l : Launch} {M : zM} {Q : Option Value → zM → Prop} (hs : zSk zMm M) (hI : zIv mLo mHi M) {F : Nat → Int} {gg : Nat → Int} {nn : Int} (pR : zPR M) (pC : zPC M) (u0 : (zI M 336 7).toInt = -1) (u1 : (zI M 336 6).toInt < (zI M 336 5).toInt) (u2 : (zI M 336 6).toInt ≤ (zI M 336 5).toInt) (u3 : 0 ≤ (zI M 336 6).toInt) (u4 : (zI M 336 7).toInt = -1) (x0 : zRw M 0 F) (x1 : zTm M gg nn) (x2 : zWF F) (hQ : ∀ (M' : zM) (v : Int32), zSk zMm M' → zIv mLo mHi M' → zFr [(336, 336, some 6), (336, 336, some 7), (336, 336, some 8), (337, 337, none)] M M' → zJ M' 351 = zJ M 351 → zUp M M' → zPR M' → zPC M' → ((0 ≤ (zI M' 336 7).toInt) ∨ ((zI M' 336 7).toInt = -1 ∧ (zI M 336 6).toInt < (zI M' 336 6).toInt)) → (∀ p : Nat, (zI M 336 6).toInt = (p : Int) → (v.toInt = 1 ∧ ∃ (q : Nat) (F2 : Nat → Int), (pIt gg F p) = some (q, F2) ∧ (zI M' 336 6).toInt = (q : Int) ∧ p < q ∧ (q : Int) ≤ nn ∧ (zI M' 336 7).toInt = -1 ∧ zRw M' 0 F2 ∧ zWF F2) ∨ (v.toInt = 0 ∧ (zI M' 336 7).toInt ≠ -1 ∧ (pIt gg F p) = none)) → 0 ≤ v.toInt → v.toInt ≤ 1 → Q (some (.int v)) M') : zCall X l 5 0 0 237 [.ref 336] M Q := by
  refine zs_in (by decide) mf237 (Nat.le_of_ble_eq_true rfl) ?_
  show zGo X l 5 0 0 237 0 [(0, .ref 336)] [] M _
  have hn := x1.2
  have w1 := ib336_5 hI
  have w2 : (zI M 336 5).toInt = (zI M 336 5).toInt := (congrArg Int32.toInt rfl).trans rfl
  have w3 := ib336_6 hI
  have w4 : (zI M 336 6).toInt = (zI M 336 6).toInt := (congrArg Int32.toInt rfl).trans rfl
  have w5 := ib336_7 hI
  have w6 : (zI M 336 7).toInt = (zI M 336 7).toInt := (congrArg Int32.toInt rfl).trans rfl
  obtain ⟨w7n, w7⟩ : ∃ n : Nat, (zI M 336 6).toInt = (n : Int) := ⟨((zI M 336 6).toInt).toNat, by omega⟩
  have f1 := x2.1
  have f3 := x2.2.2.2
  have w8 := ibA0 hI
  have w9 : (zI M 337 0).toInt = (zI M 337 0).toInt := (congrArg Int32.toInt rfl).trans rfl
  have e0 : (zI M 337 0).toInt = F 0 := x0.at (by decide) (by decide) (by decide)
  have w10 := ibA1 hI
  have w11 : (zI M 337 1).toInt = (zI M 337 1).toInt := (congrArg Int32.toInt rfl).trans rfl
  have e1 : (zI M 337 1).toInt = F 1 := x0.at (by decide) (by decide) (by decide)
  have w12 := ibA2 hI
  have w13 : (zI M 337 2).toInt = (zI M 337 2).toInt := (congrArg Int32.toInt rfl).trans rfl
  have e2 : (zI M 337 2).toInt = F 2 := x0.at (by decide) (by decide) (by decide)
  refine zs_aload_n (pc := 0) t237_0 rfl ?_
  refine zs_invV (pc := 1) (k := 336) (as' := []) (st := []) t237_1 mf238 rfl rfl (Or.inl ⟨by decide, (zk1 (hs.k fk_zMm_336))⟩) ⟨by decide, by decide, Nat.le_of_ble_eq_true rfl, Nat.le_of_ble_eq_true rfl⟩ (H238 hs hI ?_) (fun _ _ q => q)
  have w14 := zhere.rg (M := M)
  have w15 : (zI M 336 6).toInt = (zI M 336 6).toInt := (congrArg Int32.toInt rfl).trans rfl
  have w16 : (zI M 336 5).toInt = (zI M 336 5).toInt := (congrArg Int32.toInt rfl).trans rfl
  have w17 : (zI M 336 6).toInt = (zI M 336 6).toInt := (congrArg Int32.toInt rfl).trans rfl
  have w18 : (zI M 336 5).toInt = (zI M 336 5).toInt := (congrArg Int32.toInt rfl).trans rfl
  have w19 : (zhere M).toInt = gg w7n := zhere.tr x1 (by omega)
  have w20 := zTm.rg x1 w7n
  show zGo X l 5 0 0 237 4 [(0, .ref 336)] [.int (zhere M)] M _
  refine zs_istore_n (pc := 4) t237_4 (ls' := [(1, .int (zhere M)), (0, .ref 336)]) (zml mf237 (by decide)) rfl ?_
  refine zs_iload_n (pc := 5) t237_5 rfl ?_
  refine zs_bipush (pc := 6) t237_6 (v := 114) (by decide) ?_
  by_cases w21 : (zhere M).toInt ≠ 114
  · refine zs_icmp_neT (pc := 8) t237_8 rfl li114 (by omega) ?_
    refine zs_iload_n (pc := 22) t237_22 rfl ?_
    refine zs_bipush (pc := 23) t237_23 (v := 104) (by decide) ?_
    by_cases w22 : (zhere M).toInt ≠ 104
    · refine zs_icmp_neT (pc := 25) t237_25 rfl li104 (by omega) ?_
      refine zs_iload_n (pc := 39) t237_39 rfl ?_
      refine zs_bipush (pc := 40) t237_40 (v := 112) (by decide) ?_
      by_cases w23 : (zhere M).toInt ≠ 112
      · refine zs_icmp_neT (pc := 42) t237_42 rfl li112 (by omega) ?_
        refine zs_aload_n (pc := 65) t237_65 rfl ?_
        refine zs_dup (pc := 66) t237_66 rfl ?_
        refine zs_get (pc := 67) t237_67 (by decide) (zk1 (hs.k fk_zMm_336)) (zfvi rfl rfl) ?_
        refine zs_iconst (pc := 70) t237_70 (v := 1) (by decide) ?_
        obtain ⟨w24v, w24e, w24⟩ := ziadd (a := (zI M 336 6)) (b := (1 : Int32)) rfl li1 (by omega) (by omega)
        refine zs_iadd (pc := 71) t237_71 (c := w24v) w24e ?_
        have w25 : zIv mLo mHi (zsI M 336 6 w24v) := zIv.put hI (show 0 ≤ w24v.toInt ∧ w24v.toInt ≤ 500 from ⟨by omega, by omega⟩)
        refine zs_putI (pc := 72) t237_72 (zk1 (hs.k fk_zMm_336)) rfl ?_
        refine zs_iload_n (pc := 75) t237_75 rfl ?_
        by_cases w26 : (zhere M).toInt = 103
        · refine zs_tswI (pc := 76) t237_76 ((rfl : (zhere M).toInt = (zhere M).toInt).trans w26) (by decide) rfl (pc2 := 242) rfl ?_
          refine zs_aload_n (pc := 242) t237_242 rfl ?_
          refine zs_bipush (pc := 243) t237_243 (v := 9) (by decide) ?_
          refine zs_iconst (pc := 245) t237_245 (v := 0) (by decide) ?_
          refine zs_sipush (pc := 246) t237_246 (v := 999) (by decide) ?_
          refine zs_bipush (pc := 249) t237_249 (v := 59) (by decide) ?_
          have w27 : (zI (zsI M 336 6 w24v) 336 6).toInt = ((zI M 336 6).toInt + 1) := (congrArg Int32.toInt zIs).trans w24
          have w28 : (9 : Int32).toInt = 9 := li9
          have w29 : (0 : Int32).toInt = 0 := li0
          have w30 : (999 : Int32).toInt = 999 := li999
          have w31 : (59 : Int32).toInt = 59 := li59
          have w32 : (zI (zsI M 336 6 w24v) 337 0).toInt = (zI M 337 0).toInt := (congrArg Int32.toInt ((zIo (by decide)).trans rfl)).trans rfl
          have w33 : (zI (zsI M 336 6 w24v) 336 6).toInt = ((zI M 336 6).toInt + 1) := (congrArg Int32.toInt zIs).trans w24
          have w34 : (zI (zsI M 336 6 w24v) 336 5).toInt = (zI M 336 5).toInt := (congrArg Int32.toInt ((zIoj (by decide)).trans rfl)).trans rfl
          have w35 : (zI (zsI M 336 6 w24v) 337 1).toInt = (zI M 337 1).toInt := (congrArg Int32.toInt ((zIo (by decide)).trans rfl)).trans rfl
          have w36 : (zI (zsI M 336 6 w24v) 336 7).toInt = (zI M 336 7).toInt := (congrArg Int32.toInt ((zIoj (by decide)).trans rfl)).trans rfl
          have w37 : (zI (zsI M 336 6 w24v) 337 1).toInt = (zI M 337 1).toInt := (congrArg Int32.toInt ((zIo (by decide)).trans rfl)).trans rfl
          have w38 : (zI (zsI M 336 6 w24v) 336 7).toInt = (zI M 336 7).toInt := (congrArg Int32.toInt ((zIoj (by decide)).trans rfl)).trans rfl
          have w39 : (zI (zsI M 336 6 w24v) 337 0).toInt = (zI M 337 0).toInt := (congrArg Int32.toInt ((zIo (by decide)).trans rfl)).trans rfl
          have w40 : (zI (zsI M 336 6 w24v) 336 6).toInt = ((zI M 336 6).toInt + 1) := (congrArg Int32.toInt zIs).trans w24
          have w41 : (zI (zsI M 336 6 w24v) 337 2).toInt = (zI M 337 2).toInt := (congrArg Int32.toInt ((zIo (by decide)).trans rfl)).trans rfl
          refine zs_invV (pc := 251) (k := 336) (as' := [.int (9 : Int32), .int (0 : Int32), .int (999 : Int32), .int (59 : Int32)]) (st := []) t237_251 mf242 rfl rfl (Or.inl ⟨by decide, (zk1 (hs.k fk_zMm_336))⟩) ⟨by decide, by decide, Nat.le_of_ble_eq_true rfl, Nat.le_of_ble_eq_true rfl⟩ (R242 hs w25 (zPR.fr (M' := (zsI M 336 6 w24v)) pR (zEq.put rfl)) (zPC.fr (M' := (zsI M 336 6 w24v)) pC (zEq.put rfl)) ⟨by decide, by decide⟩ ⟨by decide, by decide⟩ (by omega) (by omega) (by omega) (by omega) (by omega) (show 0 ≤ (0 : Int32).toInt ∧ (999 : Int32).toInt ≤ 999 from ⟨by omega, by omega⟩) (zRw.fr' x0 (fun j hj => (zIo (by decide)))) (zTm.mk x1 (fun j => (zIo (by decide))) (zIoj (by decide))) ?_) (fun _ _ q => q)
          intro w42M w42v w42s w42I w42F w42J w42U w42PR w42PC w42t0 w42t1 w42t2 w42t3 w42t4 w42x0 w42x1 w42x2 w42a w42b
          have w43 := ibA0 w42I
          have w44 := ib336_6 w42I
          have w45 := ibA2 w42I
          have w46 := ibA1 w42I
          have w47 := ib336_7 w42I
          show zGo X l 5 0 0 237 254 [(1, .int (zhere M)), (0, .ref 336)] [.int w42v] w42M _
          have w49 : (9 : Int32).toInt = 9 := li9
          have w50 : (0 : Int32).toInt = 0 := li0
          have w51 : (999 : Int32).toInt = 999 := li999
          have w52 : (59 : Int32).toInt = 59 := li59
          rcases w42x2 (w7n + 1) (by omega) with ⟨w48v, w48q, w48x, w48_1, w48_2, w48_3, w48_4, w48_5, w48_6, w48_7, w48r⟩ | ⟨w48v, w48_5, w48z⟩
          · skip
            rw [show (9 : Int32).toInt.toNat = 9 by decide] at w48r
            have w53 : (zI w42M 336 6).toInt = (zI w42M 336 6).toInt := (congrArg Int32.toInt rfl).trans rfl
            have w54 : (zI w42M 336 7).toInt = (zI w42M 336 7).toInt := (congrArg Int32.toInt rfl).trans rfl
            have w55 : (zI w42M 336 6).toInt = (zI w42M 336 6).toInt := (congrArg Int32.toInt rfl).trans rfl
            have w56 : (zI w42M 336 7).toInt = (zI w42M 336 7).toInt := (congrArg Int32.toInt rfl).trans rfl
            exact zs_iret (pc := 254) t237_254 mr237 (zfb01 (by omega)) (hQ _ _ w42s w42I (((zFr.refl).put rfl).trans (w42F.mono rfl)) w42J (((zUp.refl).put (Or.inl (by decide))).trans w42U) w42PR w42PC (by omega) (fun p hp => by
                obtain rfl : w7n = p := (by omega)
                exact Or.inl ⟨by first | decide | omega, w48q, _, ((pIt.g (by omega)).trans (pB.y (by have z := w48_1; rw [show (0 : Int32).toInt = 0 by first | decide | omega, show (999 : Int32).toInt = 999 by first | decide | omega, show (59 : Int32).toInt = 59 by first | decide | omega] at z; exact z))), by omega, by omega, by omega, by omega, w48r, x2.gg (by omega)⟩) (by omega) (by omega))
          · skip
            have w57 : (zI w42M 336 6).toInt = (zI w42M 336 6).toInt := (congrArg Int32.toInt rfl).trans rfl
            have w58 : (zI w42M 336 7).toInt = (zI w42M 336 7).toInt := (congrArg Int32.toInt rfl).trans rfl
            have w59 : (zI w42M 336 6).toInt = (zI w42M 336 6).toInt := (congrArg Int32.toInt rfl).trans rfl
            have w60 : (zI w42M 336 7).toInt = (zI w42M 336 7).toInt := (congrArg Int32.toInt rfl).trans rfl
            exact zs_iret (pc := 254) t237_254 mr237 (zfb01 (by omega)) (hQ _ _ w42s w42I (((zFr.refl).put rfl).trans (w42F.mono rfl)) w42J (((zUp.refl).put (Or.inl (by decide))).trans w42U) w42PR w42PC (by omega) (fun p hp => by
                obtain rfl : w7n = p := (by omega)
                exact Or.inr ⟨by first | decide | omega, by omega, ((pIt.g (by omega)).trans (pB.f (by have z := w48z; rw [show (0 : Int32).toInt = 0 by first | decide | omega, show (999 : Int32).toInt = 999 by first | decide | omega, show (59 : Int32).toInt = 59 by first | decide | omega] at z; exact z)))⟩) (by omega) (by omega))
        by_cases w61 : (zhere M).toInt = 105
        · refine zs_tswI (pc := 76) t237_76 ((rfl : (zhere M).toInt = (zhere M).toInt).trans w61) (by decide) rfl (pc2 := 333) rfl ?_
          refine zs_aload_n (pc := 333) t237_333 rfl ?_
          refine zs_aload_n (pc := 334) t237_334 rfl ?_
          refine zs_get (pc := 335) t237_335 (by decide) (zk1 (hs.k fk_zMm_336)) (zfvi rfl zIs) ?_
          refine zs_iconst (pc := 338) t237_338 (v := 1) (by decide) ?_
          obtain ⟨w62v, w62e, w62⟩ := zisub (a := w24v) (b := (1 : Int32)) w24 li1 (by omega) (by omega)
          refine zs_isub (pc := 339) t237_339 (c := w62v) w62e ?_
          refine zs_invV (pc := 340) (k := 336) (as' := [.int w62v]) (st := []) t237_340 mf239 rfl rfl (Or.inl ⟨by decide, (zk1 (hs.k fk_zMm_336))⟩) ⟨by decide, by decide, Nat.le_of_ble_eq_true rfl, Nat.le_of_ble_eq_true rfl⟩ (zs_in (by decide) mf239 (Nat.le_of_ble_eq_true rfl) ?_) (fun _ _ q => q)
          show zGo X l 0 0 0 239 0 [(0, .ref 336), (1, .int w62v)] [] (zsI M 336 6 w24v) _
          refine zs_aload_n (pc := 0) t239_0 rfl ?_
          refine zs_iload_n (pc := 1) t239_1 rfl ?_
          have w63 : zIv mLo mHi (zsI (zsI M 336 6 w24v) 336 7 w62v) := zIv.put w25 (show (-1) ≤ w62v.toInt ∧ w62v.toInt ≤ 500 from ⟨by omega, by omega⟩)
          refine zs_putI (pc := 2) t239_2 (zk1 (hs.k fk_zMm_336)) rfl ?_
          refine zs_iconst (pc := 5) t239_5 (v := 0) (by decide) ?_
          refine zs_iret (pc := 6) t239_6 mr239 (by decide) ?_
          show zGo X l 5 0 0 237 343 [(1, .int (zhere M)), (0, .ref 336)] [.int (0 : Int32)] (zsI (zsI M 336 6 w24v) 336 7 w62v) _
          have w64 : (0 : Int32).toInt = 0 := li0
          have w65 : (zI (zsI (zsI M 336 6 w24v) 336 7 w62v) 336 6).toInt = ((zI M 336 6).toInt + 1) := (congrArg Int32.toInt ((zIoj (by decide)).trans zIs)).trans w24
          have w66 : (zI (zsI (zsI M 336 6 w24v) 336 7 w62v) 336 7).toInt = (((zI M 336 6).toInt + 1) - 1) := (congrArg Int32.toInt zIs).trans w62
          have w67 := li0
          have w68 : (zI (zsI (zsI M 336 6 w24v) 336 7 w62v) 336 6).toInt = ((zI M 336 6).toInt + 1) := (congrArg Int32.toInt ((zIoj (by decide)).trans zIs)).trans w24
          have w69 : (zI (zsI (zsI M 336 6 w24v) 336 7 w62v) 336 7).toInt = (((zI M 336 6).toInt + 1) - 1) := (congrArg Int32.toInt zIs).trans w62
          exact zs_iret (pc := 343) t237_343 mr237 (by decide) (hQ _ _ hs w63 (((zFr.refl).put rfl).put rfl) rfl (((zUp.refl).put (Or.inl (by decide))).put (Or.inl (by decide))) (zPR.fr (M' := (zsI (zsI M 336 6 w24v) 336 7 w62v)) (zPR.fr (M' := (zsI M 336 6 w24v)) pR (zEq.put rfl)) (zEq.put rfl)) (zPC.fr (M' := (zsI (zsI M 336 6 w24v) 336 7 w62v)) (zPC.fr (M' := (zsI M 336 6 w24v)) pC (zEq.put rfl)) (zEq.put rfl)) (by omega) (fun p hp => by
              obtain rfl : w7n = p := (by omega)
              exact Or.inr ⟨by first | decide | omega, by omega, (by first | exact pIt.r0 (by omega) (by omega) | exact pIt.h0 (by omega) (by omega) | exact pIt.p0 (by omega) (by omega) | exact pIt.no (by omega))⟩) (by decide) (by decide))
        by_cases w70 : (zhere M).toInt = 106
        · refine zs_tswI (pc := 76) t237_76 ((rfl : (zhere M).toInt = (zhere M).toInt).trans w70) (by decide) rfl (pc2 := 333) rfl ?_
          refine zs_aload_n (pc := 333) t237_333 rfl ?_
          refine zs_aload_n (pc := 334) t237_334 rfl ?_
          refine zs_get (pc := 335) t237_335 (by decide) (zk1 (hs.k fk_zMm_336)) (zfvi rfl zIs) ?_
          refine zs_iconst (pc := 338) t237_338 (v := 1) (by decide) ?_
          obtain ⟨w71v, w71e, w71⟩ := zisub (a := w24v) (b := (1 : Int32)) w24 li1 (by omega) (by omega)
          refine zs_isub (pc := 339) t237_339 (c := w71v) w71e ?_
          refine zs_invV (pc := 340) (k := 336) (as' := [.int w71v]) (st := []) t237_340 mf239 rfl rfl (Or.inl ⟨by decide, (zk1 (hs.k fk_zMm_336))⟩) ⟨by decide, by decide, Nat.le_of_ble_eq_true rfl, Nat.le_of_ble_eq_true rfl⟩ (zs_in (by decide) mf239 (Nat.le_of_ble_eq_true rfl) ?_) (fun _ _ q => q)
          show zGo X l 0 0 0 239 0 [(0, .ref 336), (1, .int w71v)] [] (zsI M 336 6 w24v) _
          refine zs_aload_n (pc := 0) t239_0 rfl ?_
          refine zs_iload_n (pc := 1) t239_1 rfl ?_
          have w72 : zIv mLo mHi (zsI (zsI M 336 6 w24v) 336 7 w71v) := zIv.put w25 (show (-1) ≤ w71v.toInt ∧ w71v.toInt ≤ 500 from ⟨by omega, by omega⟩)
          refine zs_putI (pc := 2) t239_2 (zk1 (hs.k fk_zMm_336)) rfl ?_
          refine zs_iconst (pc := 5) t239_5 (v := 0) (by decide) ?_
          refine zs_iret (pc := 6) t239_6 mr239 (by decide) ?_
          show zGo X l 5 0 0 237 343 [(1, .int (zhere M)), (0, .ref 336)] [.int (0 : Int32)] (zsI (zsI M 336 6 w24v) 336 7 w71v) _
          have w73 : (0 : Int32).toInt = 0 := li0
          have w74 : (zI (zsI (zsI M 336 6 w24v) 336 7 w71v) 336 6).toInt = ((zI M 336 6).toInt + 1) := (congrArg Int32.toInt ((zIoj (by decide)).trans zIs)).trans w24
          have w75 : (zI (zsI (zsI M 336 6 w24v) 336 7 w71v) 336 7).toInt = (((zI M 336 6).toInt + 1) - 1) := (congrArg Int32.toInt zIs).trans w71
          have w76 := li0
          have w77 : (zI (zsI (zsI M 336 6 w24v) 336 7 w71v) 336 6).toInt = ((zI M 336 6).toInt + 1) := (congrArg Int32.toInt ((zIoj (by decide)).trans zIs)).trans w24
          have w78 : (zI (zsI (zsI M 336 6 w24v) 336 7 w71v) 336 7).toInt = (((zI M 336 6).toInt + 1) - 1) := (congrArg Int32.toInt zIs).trans w71
          exact zs_iret (pc := 343) t237_343 mr237 (by decide) (hQ _ _ hs w72 (((zFr.refl).put rfl).put rfl) rfl (((zUp.refl).put (Or.inl (by decide))).put (Or.inl (by decide))) (zPR.fr (M' := (zsI (zsI M 336 6 w24v) 336 7 w71v)) (zPR.fr (M' := (zsI M 336 6 w24v)) pR (zEq.put rfl)) (zEq.put rfl)) (zPC.fr (M' := (zsI (zsI M 336 6 w24v) 336 7 w71v)) (zPC.fr (M' := (zsI M 336 6 w24v)) pC (zEq.put rfl)) (zEq.put rfl)) (by omega) (fun p hp => by
              obtain rfl : w7n = p := (by omega)
              exact Or.inr ⟨by first | decide | omega, by omega, (by first | exact pIt.r0 (by omega) (by omega) | exact pIt.h0 (by omega) (by omega) | exact pIt.p0 (by omega) (by omega) | exact pIt.no (by omega))⟩) (by decide) (by decide))
        by_cases w79 : (zhere M).toInt = 107
        · refine zs_tswI (pc := 76) t237_76 ((rfl : (zhere M).toInt = (zhere M).toInt).trans w79) (by decide) rfl (pc2 := 333) rfl ?_
          refine zs_aload_n (pc := 333) t237_333 rfl ?_
          refine zs_aload_n (pc := 334) t237_334 rfl ?_
          refine zs_get (pc := 335) t237_335 (by decide) (zk1 (hs.k fk_zMm_336)) (zfvi rfl zIs) ?_
          refine zs_iconst (pc := 338) t237_338 (v := 1) (by decide) ?_
          obtain ⟨w80v, w80e, w80⟩ := zisub (a := w24v) (b := (1 : Int32)) w24 li1 (by omega) (by omega)
          refine zs_isub (pc := 339) t237_339 (c := w80v) w80e ?_
          refine zs_invV (pc := 340) (k := 336) (as' := [.int w80v]) (st := []) t237_340 mf239 rfl rfl (Or.inl ⟨by decide, (zk1 (hs.k fk_zMm_336))⟩) ⟨by decide, by decide, Nat.le_of_ble_eq_true rfl, Nat.le_of_ble_eq_true rfl⟩ (zs_in (by decide) mf239 (Nat.le_of_ble_eq_true rfl) ?_) (fun _ _ q => q)
          show zGo X l 0 0 0 239 0 [(0, .ref 336), (1, .int w80v)] [] (zsI M 336 6 w24v) _
          refine zs_aload_n (pc := 0) t239_0 rfl ?_
          refine zs_iload_n (pc := 1) t239_1 rfl ?_
          have w81 : zIv mLo mHi (zsI (zsI M 336 6 w24v) 336 7 w80v) := zIv.put w25 (show (-1) ≤ w80v.toInt ∧ w80v.toInt ≤ 500 from ⟨by omega, by omega⟩)
          refine zs_putI (pc := 2) t239_2 (zk1 (hs.k fk_zMm_336)) rfl ?_
          refine zs_iconst (pc := 5) t239_5 (v := 0) (by decide) ?_
          refine zs_iret (pc := 6) t239_6 mr239 (by decide) ?_
          show zGo X l 5 0 0 237 343 [(1, .int (zhere M)), (0, .ref 336)] [.int (0 : Int32)] (zsI (zsI M 336 6 w24v) 336 7 w80v) _
          have w82 : (0 : Int32).toInt = 0 := li0
          have w83 : (zI (zsI (zsI M 336 6 w24v) 336 7 w80v) 336 6).toInt = ((zI M 336 6).toInt + 1) := (congrArg Int32.toInt ((zIoj (by decide)).trans zIs)).trans w24
          have w84 : (zI (zsI (zsI M 336 6 w24v) 336 7 w80v) 336 7).toInt = (((zI M 336 6).toInt + 1) - 1) := (congrArg Int32.toInt zIs).trans w80
          have w85 := li0
          have w86 : (zI (zsI (zsI M 336 6 w24v) 336 7 w80v) 336 6).toInt = ((zI M 336 6).toInt + 1) := (congrArg Int32.toInt ((zIoj (by decide)).trans zIs)).trans w24
          have w87 : (zI (zsI (zsI M 336 6 w24v) 336 7 w80v) 336 7).toInt = (((zI M 336 6).toInt + 1) - 1) := (congrArg Int32.toInt zIs).trans w80
          exact zs_iret (pc := 343) t237_343 mr237 (by decide) (hQ _ _ hs w81 (((zFr.refl).put rfl).put rfl) rfl (((zUp.refl).put (Or.inl (by decide))).put (Or.inl (by decide))) (zPR.fr (M' := (zsI (zsI M 336 6 w24v) 336 7 w80v)) (zPR.fr (M' := (zsI M 336 6 w24v)) pR (zEq.put rfl)) (zEq.put rfl)) (zPC.fr (M' := (zsI (zsI M 336 6 w24v) 336 7 w80v)) (zPC.fr (M' := (zsI M 336 6 w24v)) pC (zEq.put rfl)) (zEq.put rfl)) (by omega) (fun p hp => by
              obtain rfl : w7n = p := (by omega)
              exact Or.inr ⟨by first | decide | omega, by omega, (by first | exact pIt.r0 (by omega) (by omega) | exact pIt.h0 (by omega) (by omega) | exact pIt.p0 (by omega) (by omega) | exact pIt.no (by omega))⟩) (by decide) (by decide))
        by_cases w88 : (zhere M).toInt = 108
        · refine zs_tswI (pc := 76) t237_76 ((rfl : (zhere M).toInt = (zhere M).toInt).trans w88) (by decide) rfl (pc2 := 333) rfl ?_
          refine zs_aload_n (pc := 333) t237_333 rfl ?_
          refine zs_aload_n (pc := 334) t237_334 rfl ?_
          refine zs_get (pc := 335) t237_335 (by decide) (zk1 (hs.k fk_zMm_336)) (zfvi rfl zIs) ?_
          refine zs_iconst (pc := 338) t237_338 (v := 1) (by decide) ?_
          obtain ⟨w89v, w89e, w89⟩ := zisub (a := w24v) (b := (1 : Int32)) w24 li1 (by omega) (by omega)
          refine zs_isub (pc := 339) t237_339 (c := w89v) w89e ?_
          refine zs_invV (pc := 340) (k := 336) (as' := [.int w89v]) (st := []) t237_340 mf239 rfl rfl (Or.inl ⟨by decide, (zk1 (hs.k fk_zMm_336))⟩) ⟨by decide, by decide, Nat.le_of_ble_eq_true rfl, Nat.le_of_ble_eq_true rfl⟩ (zs_in (by decide) mf239 (Nat.le_of_ble_eq_true rfl) ?_) (fun _ _ q => q)
          show zGo X l 0 0 0 239 0 [(0, .ref 336), (1, .int w89v)] [] (zsI M 336 6 w24v) _
          refine zs_aload_n (pc := 0) t239_0 rfl ?_
          refine zs_iload_n (pc := 1) t239_1 rfl ?_
          have w90 : zIv mLo mHi (zsI (zsI M 336 6 w24v) 336 7 w89v) := zIv.put w25 (show (-1) ≤ w89v.toInt ∧ w89v.toInt ≤ 500 from ⟨by omega, by omega⟩)
          refine zs_putI (pc := 2) t239_2 (zk1 (hs.k fk_zMm_336)) rfl ?_
          refine zs_iconst (pc := 5) t239_5 (v := 0) (by decide) ?_
          refine zs_iret (pc := 6) t239_6 mr239 (by decide) ?_
          show zGo X l 5 0 0 237 343 [(1, .int (zhere M)), (0, .ref 336)] [.int (0 : Int32)] (zsI (zsI M 336 6 w24v) 336 7 w89v) _
          have w91 : (0 : Int32).toInt = 0 := li0
          have w92 : (zI (zsI (zsI M 336 6 w24v) 336 7 w89v) 336 6).toInt = ((zI M 336 6).toInt + 1) := (congrArg Int32.toInt ((zIoj (by decide)).trans zIs)).trans w24
          have w93 : (zI (zsI (zsI M 336 6 w24v) 336 7 w89v) 336 7).toInt = (((zI M 336 6).toInt + 1) - 1) := (congrArg Int32.toInt zIs).trans w89
          have w94 := li0
          have w95 : (zI (zsI (zsI M 336 6 w24v) 336 7 w89v) 336 6).toInt = ((zI M 336 6).toInt + 1) := (congrArg Int32.toInt ((zIoj (by decide)).trans zIs)).trans w24
          have w96 : (zI (zsI (zsI M 336 6 w24v) 336 7 w89v) 336 7).toInt = (((zI M 336 6).toInt + 1) - 1) := (congrArg Int32.toInt zIs).trans w89
          exact zs_iret (pc := 343) t237_343 mr237 (by decide) (hQ _ _ hs w90 (((zFr.refl).put rfl).put rfl) rfl (((zUp.refl).put (Or.inl (by decide))).put (Or.inl (by decide))) (zPR.fr (M' := (zsI (zsI M 336 6 w24v) 336 7 w89v)) (zPR.fr (M' := (zsI M 336 6 w24v)) pR (zEq.put rfl)) (zEq.put rfl)) (zPC.fr (M' := (zsI (zsI M 336 6 w24v) 336 7 w89v)) (zPC.fr (M' := (zsI M 336 6 w24v)) pC (zEq.put rfl)) (zEq.put rfl)) (by omega) (fun p hp => by
              obtain rfl : w7n = p := (by omega)
              exact Or.inr ⟨by first | decide | omega, by omega, (by first | exact pIt.r0 (by omega) (by omega) | exact pIt.h0 (by omega) (by omega) | exact pIt.p0 (by omega) (by omega) | exact pIt.no (by omega))⟩) (by decide) (by decide))
        by_cases w97 : (zhere M).toInt = 109
        · refine zs_tswI (pc := 76) t237_76 ((rfl : (zhere M).toInt = (zhere M).toInt).trans w97) (by decide) rfl (pc2 := 333) rfl ?_
          refine zs_aload_n (pc := 333) t237_333 rfl ?_
          refine zs_aload_n (pc := 334) t237_334 rfl ?_
          refine zs_get (pc := 335) t237_335 (by decide) (zk1 (hs.k fk_zMm_336)) (zfvi rfl zIs) ?_
          refine zs_iconst (pc := 338) t237_338 (v := 1) (by decide) ?_
          obtain ⟨w98v, w98e, w98⟩ := zisub (a := w24v) (b := (1 : Int32)) w24 li1 (by omega) (by omega)
          refine zs_isub (pc := 339) t237_339 (c := w98v) w98e ?_
          refine zs_invV (pc := 340) (k := 336) (as' := [.int w98v]) (st := []) t237_340 mf239 rfl rfl (Or.inl ⟨by decide, (zk1 (hs.k fk_zMm_336))⟩) ⟨by decide, by decide, Nat.le_of_ble_eq_true rfl, Nat.le_of_ble_eq_true rfl⟩ (zs_in (by decide) mf239 (Nat.le_of_ble_eq_true rfl) ?_) (fun _ _ q => q)
          show zGo X l 0 0 0 239 0 [(0, .ref 336), (1, .int w98v)] [] (zsI M 336 6 w24v) _
          refine zs_aload_n (pc := 0) t239_0 rfl ?_
          refine zs_iload_n (pc := 1) t239_1 rfl ?_
          have w99 : zIv mLo mHi (zsI (zsI M 336 6 w24v) 336 7 w98v) := zIv.put w25 (show (-1) ≤ w98v.toInt ∧ w98v.toInt ≤ 500 from ⟨by omega, by omega⟩)
          refine zs_putI (pc := 2) t239_2 (zk1 (hs.k fk_zMm_336)) rfl ?_
          refine zs_iconst (pc := 5) t239_5 (v := 0) (by decide) ?_
          refine zs_iret (pc := 6) t239_6 mr239 (by decide) ?_
          show zGo X l 5 0 0 237 343 [(1, .int (zhere M)), (0, .ref 336)] [.int (0 : Int32)] (zsI (zsI M 336 6 w24v) 336 7 w98v) _
          have w100 : (0 : Int32).toInt = 0 := li0
          have w101 : (zI (zsI (zsI M 336 6 w24v) 336 7 w98v) 336 6).toInt = ((zI M 336 6).toInt + 1) := (congrArg Int32.toInt ((zIoj (by decide)).trans zIs)).trans w24
          have w102 : (zI (zsI (zsI M 336 6 w24v) 336 7 w98v) 336 7).toInt = (((zI M 336 6).toInt + 1) - 1) := (congrArg Int32.toInt zIs).trans w98
          have w103 := li0
          have w104 : (zI (zsI (zsI M 336 6 w24v) 336 7 w98v) 336 6).toInt = ((zI M 336 6).toInt + 1) := (congrArg Int32.toInt ((zIoj (by decide)).trans zIs)).trans w24
          have w105 : (zI (zsI (zsI M 336 6 w24v) 336 7 w98v) 336 7).toInt = (((zI M 336 6).toInt + 1) - 1) := (congrArg Int32.toInt zIs).trans w98
          exact zs_iret (pc := 343) t237_343 mr237 (by decide) (hQ _ _ hs w99 (((zFr.refl).put rfl).put rfl) rfl (((zUp.refl).put (Or.inl (by decide))).put (Or.inl (by decide))) (zPR.fr (M' := (zsI (zsI M 336 6 w24v) 336 7 w98v)) (zPR.fr (M' := (zsI M 336 6 w24v)) pR (zEq.put rfl)) (zEq.put rfl)) (zPC.fr (M' := (zsI (zsI M 336 6 w24v) 336 7 w98v)) (zPC.fr (M' := (zsI M 336 6 w24v)) pC (zEq.put rfl)) (zEq.put rfl)) (by omega) (fun p hp => by
              obtain rfl : w7n = p := (by omega)
              exact Or.inr ⟨by first | decide | omega, by omega, (by first | exact pIt.r0 (by omega) (by omega) | exact pIt.h0 (by omega) (by omega) | exact pIt.p0 (by omega) (by omega) | exact pIt.no (by omega))⟩) (by decide) (by decide))
        by_cases w106 : (zhere M).toInt = 110
        · refine zs_tswI (pc := 76) t237_76 ((rfl : (zhere M).toInt = (zhere M).toInt).trans w106) (by decide) rfl (pc2 := 333) rfl ?_
          refine zs_aload_n (pc := 333) t237_333 rfl ?_
          refine zs_aload_n (pc := 334) t237_334 rfl ?_
          refine zs_get (pc := 335) t237_335 (by decide) (zk1 (hs.k fk_zMm_336)) (zfvi rfl zIs) ?_
          refine zs_iconst (pc := 338) t237_338 (v := 1) (by decide) ?_
          obtain ⟨w107v, w107e, w107⟩ := zisub (a := w24v) (b := (1 : Int32)) w24 li1 (by omega) (by omega)
          refine zs_isub (pc := 339) t237_339 (c := w107v) w107e ?_
          refine zs_invV (pc := 340) (k := 336) (as' := [.int w107v]) (st := []) t237_340 mf239 rfl rfl (Or.inl ⟨by decide, (zk1 (hs.k fk_zMm_336))⟩) ⟨by decide, by decide, Nat.le_of_ble_eq_true rfl, Nat.le_of_ble_eq_true rfl⟩ (zs_in (by decide) mf239 (Nat.le_of_ble_eq_true rfl) ?_) (fun _ _ q => q)
          show zGo X l 0 0 0 239 0 [(0, .ref 336), (1, .int w107v)] [] (zsI M 336 6 w24v) _
          refine zs_aload_n (pc := 0) t239_0 rfl ?_
          refine zs_iload_n (pc := 1) t239_1 rfl ?_
          have w108 : zIv mLo mHi (zsI (zsI M 336 6 w24v) 336 7 w107v) := zIv.put w25 (show (-1) ≤ w107v.toInt ∧ w107v.toInt ≤ 500 from ⟨by omega, by omega⟩)
          refine zs_putI (pc := 2) t239_2 (zk1 (hs.k fk_zMm_336)) rfl ?_
          refine zs_iconst (pc := 5) t239_5 (v := 0) (by decide) ?_
          refine zs_iret (pc := 6) t239_6 mr239 (by decide) ?_
          show zGo X l 5 0 0 237 343 [(1, .int (zhere M)), (0, .ref 336)] [.int (0 : Int32)] (zsI (zsI M 336 6 w24v) 336 7 w107v) _
          have w109 : (0 : Int32).toInt = 0 := li0
          have w110 : (zI (zsI (zsI M 336 6 w24v) 336 7 w107v) 336 6).toInt = ((zI M 336 6).toInt + 1) := (congrArg Int32.toInt ((zIoj (by decide)).trans zIs)).trans w24
          have w111 : (zI (zsI (zsI M 336 6 w24v) 336 7 w107v) 336 7).toInt = (((zI M 336 6).toInt + 1) - 1) := (congrArg Int32.toInt zIs).trans w107
          have w112 := li0
          have w113 : (zI (zsI (zsI M 336 6 w24v) 336 7 w107v) 336 6).toInt = ((zI M 336 6).toInt + 1) := (congrArg Int32.toInt ((zIoj (by decide)).trans zIs)).trans w24
          have w114 : (zI (zsI (zsI M 336 6 w24v) 336 7 w107v) 336 7).toInt = (((zI M 336 6).toInt + 1) - 1) := (congrArg Int32.toInt zIs).trans w107
          exact zs_iret (pc := 343) t237_343 mr237 (by decide) (hQ _ _ hs w108 (((zFr.refl).put rfl).put rfl) rfl (((zUp.refl).put (Or.inl (by decide))).put (Or.inl (by decide))) (zPR.fr (M' := (zsI (zsI M 336 6 w24v) 336 7 w107v)) (zPR.fr (M' := (zsI M 336 6 w24v)) pR (zEq.put rfl)) (zEq.put rfl)) (zPC.fr (M' := (zsI (zsI M 336 6 w24v) 336 7 w107v)) (zPC.fr (M' := (zsI M 336 6 w24v)) pC (zEq.put rfl)) (zEq.put rfl)) (by omega) (fun p hp => by
              obtain rfl : w7n = p := (by omega)
              exact Or.inr ⟨by first | decide | omega, by omega, (by first | exact pIt.r0 (by omega) (by omega) | exact pIt.h0 (by omega) (by omega) | exact pIt.p0 (by omega) (by omega) | exact pIt.no (by omega))⟩) (by decide) (by decide))
        by_cases w115 : (zhere M).toInt = 111
        · refine zs_tswI (pc := 76) t237_76 ((rfl : (zhere M).toInt = (zhere M).toInt).trans w115) (by decide) rfl (pc2 := 333) rfl ?_
          refine zs_aload_n (pc := 333) t237_333 rfl ?_
          refine zs_aload_n (pc := 334) t237_334 rfl ?_
          refine zs_get (pc := 335) t237_335 (by decide) (zk1 (hs.k fk_zMm_336)) (zfvi rfl zIs) ?_
          refine zs_iconst (pc := 338) t237_338 (v := 1) (by decide) ?_
          obtain ⟨w116v, w116e, w116⟩ := zisub (a := w24v) (b := (1 : Int32)) w24 li1 (by omega) (by omega)
          refine zs_isub (pc := 339) t237_339 (c := w116v) w116e ?_
          refine zs_invV (pc := 340) (k := 336) (as' := [.int w116v]) (st := []) t237_340 mf239 rfl rfl (Or.inl ⟨by decide, (zk1 (hs.k fk_zMm_336))⟩) ⟨by decide, by decide, Nat.le_of_ble_eq_true rfl, Nat.le_of_ble_eq_true rfl⟩ (zs_in (by decide) mf239 (Nat.le_of_ble_eq_true rfl) ?_) (fun _ _ q => q)
          show zGo X l 0 0 0 239 0 [(0, .ref 336), (1, .int w116v)] [] (zsI M 336 6 w24v) _
          refine zs_aload_n (pc := 0) t239_0 rfl ?_
          refine zs_iload_n (pc := 1) t239_1 rfl ?_
          have w117 : zIv mLo mHi (zsI (zsI M 336 6 w24v) 336 7 w116v) := zIv.put w25 (show (-1) ≤ w116v.toInt ∧ w116v.toInt ≤ 500 from ⟨by omega, by omega⟩)
          refine zs_putI (pc := 2) t239_2 (zk1 (hs.k fk_zMm_336)) rfl ?_
          refine zs_iconst (pc := 5) t239_5 (v := 0) (by decide) ?_
          refine zs_iret (pc := 6) t239_6 mr239 (by decide) ?_
          show zGo X l 5 0 0 237 343 [(1, .int (zhere M)), (0, .ref 336)] [.int (0 : Int32)] (zsI (zsI M 336 6 w24v) 336 7 w116v) _
          have w118 : (0 : Int32).toInt = 0 := li0
          have w119 : (zI (zsI (zsI M 336 6 w24v) 336 7 w116v) 336 6).toInt = ((zI M 336 6).toInt + 1) := (congrArg Int32.toInt ((zIoj (by decide)).trans zIs)).trans w24
          have w120 : (zI (zsI (zsI M 336 6 w24v) 336 7 w116v) 336 7).toInt = (((zI M 336 6).toInt + 1) - 1) := (congrArg Int32.toInt zIs).trans w116
          have w121 := li0
          have w122 : (zI (zsI (zsI M 336 6 w24v) 336 7 w116v) 336 6).toInt = ((zI M 336 6).toInt + 1) := (congrArg Int32.toInt ((zIoj (by decide)).trans zIs)).trans w24
          have w123 : (zI (zsI (zsI M 336 6 w24v) 336 7 w116v) 336 7).toInt = (((zI M 336 6).toInt + 1) - 1) := (congrArg Int32.toInt zIs).trans w116
          exact zs_iret (pc := 343) t237_343 mr237 (by decide) (hQ _ _ hs w117 (((zFr.refl).put rfl).put rfl) rfl (((zUp.refl).put (Or.inl (by decide))).put (Or.inl (by decide))) (zPR.fr (M' := (zsI (zsI M 336 6 w24v) 336 7 w116v)) (zPR.fr (M' := (zsI M 336 6 w24v)) pR (zEq.put rfl)) (zEq.put rfl)) (zPC.fr (M' := (zsI (zsI M 336 6 w24v) 336 7 w116v)) (zPC.fr (M' := (zsI M 336 6 w24v)) pC (zEq.put rfl)) (zEq.put rfl)) (by omega) (fun p hp => by
              obtain rfl : w7n = p := (by omega)
              exact Or.inr ⟨by first | decide | omega, by omega, (by first | exact pIt.r0 (by omega) (by omega) | exact pIt.h0 (by omega) (by omega) | exact pIt.p0 (by omega) (by omega) | exact pIt.no (by omega))⟩) (by decide) (by decide))
        by_cases w124 : (zhere M).toInt = 113
        · refine zs_tswI (pc := 76) t237_76 ((rfl : (zhere M).toInt = (zhere M).toInt).trans w124) (by decide) rfl (pc2 := 297) rfl ?_
          refine zs_aload_n (pc := 297) t237_297 rfl ?_
          refine zs_bipush (pc := 298) t237_298 (v := 12) (by decide) ?_
          refine zs_iconst (pc := 300) t237_300 (v := 1) (by decide) ?_
          refine zs_sipush (pc := 301) t237_301 (v := 9999) (by decide) ?_
          refine zs_bipush (pc := 304) t237_304 (v := 44) (by decide) ?_
          have w125 : (zI (zsI M 336 6 w24v) 336 6).toInt = ((zI M 336 6).toInt + 1) := (congrArg Int32.toInt zIs).trans w24
          have w126 : (12 : Int32).toInt = 12 := li12
          have w127 : (1 : Int32).toInt = 1 := li1
          have w128 : (9999 : Int32).toInt = 9999 := li9999
          have w129 : (44 : Int32).toInt = 44 := li44
          have w130 : (zI (zsI M 336 6 w24v) 337 0).toInt = (zI M 337 0).toInt := (congrArg Int32.toInt ((zIo (by decide)).trans rfl)).trans rfl
          have w131 : (zI (zsI M 336 6 w24v) 336 6).toInt = ((zI M 336 6).toInt + 1) := (congrArg Int32.toInt zIs).trans w24
          have w132 : (zI (zsI M 336 6 w24v) 336 5).toInt = (zI M 336 5).toInt := (congrArg Int32.toInt ((zIoj (by decide)).trans rfl)).trans rfl
          have w133 : (zI (zsI M 336 6 w24v) 337 1).toInt = (zI M 337 1).toInt := (congrArg Int32.toInt ((zIo (by decide)).trans rfl)).trans rfl
          have w134 : (zI (zsI M 336 6 w24v) 336 7).toInt = (zI M 336 7).toInt := (congrArg Int32.toInt ((zIoj (by decide)).trans rfl)).trans rfl
          have w135 : (zI (zsI M 336 6 w24v) 337 1).toInt = (zI M 337 1).toInt := (congrArg Int32.toInt ((zIo (by decide)).trans rfl)).trans rfl
          have w136 : (zI (zsI M 336 6 w24v) 336 7).toInt = (zI M 336 7).toInt := (congrArg Int32.toInt ((zIoj (by decide)).trans rfl)).trans rfl
          have w137 : (zI (zsI M 336 6 w24v) 337 0).toInt = (zI M 337 0).toInt := (congrArg Int32.toInt ((zIo (by decide)).trans rfl)).trans rfl
          have w138 : (zI (zsI M 336 6 w24v) 336 6).toInt = ((zI M 336 6).toInt + 1) := (congrArg Int32.toInt zIs).trans w24
          have w139 : (zI (zsI M 336 6 w24v) 337 2).toInt = (zI M 337 2).toInt := (congrArg Int32.toInt ((zIo (by decide)).trans rfl)).trans rfl
          refine zs_invV (pc := 306) (k := 336) (as' := [.int (12 : Int32), .int (1 : Int32), .int (9999 : Int32), .int (44 : Int32)]) (st := []) t237_306 mf242 rfl rfl (Or.inl ⟨by decide, (zk1 (hs.k fk_zMm_336))⟩) ⟨by decide, by decide, Nat.le_of_ble_eq_true rfl, Nat.le_of_ble_eq_true rfl⟩ (R242 hs w25 (zPR.fr (M' := (zsI M 336 6 w24v)) pR (zEq.put rfl)) (zPC.fr (M' := (zsI M 336 6 w24v)) pC (zEq.put rfl)) ⟨by decide, by decide⟩ ⟨by decide, by decide⟩ (by omega) (by omega) (by omega) (by omega) (by omega) (show 1 ≤ (1 : Int32).toInt ∧ (9999 : Int32).toInt ≤ 9999 from ⟨by omega, by omega⟩) (zRw.fr' x0 (fun j hj => (zIo (by decide)))) (zTm.mk x1 (fun j => (zIo (by decide))) (zIoj (by decide))) ?_) (fun _ _ q => q)
          intro w140M w140v w140s w140I w140F w140J w140U w140PR w140PC w140t0 w140t1 w140t2 w140t3 w140t4 w140x0 w140x1 w140x2 w140a w140b
          have w141 := ibA0 w140I
          have w142 := ib336_6 w140I
          have w143 := ibA2 w140I
          have w144 := ibA1 w140I
          have w145 := ib336_7 w140I
          show zGo X l 5 0 0 237 309 [(1, .int (zhere M)), (0, .ref 336)] [.int w140v] w140M _
          have w147 : (12 : Int32).toInt = 12 := li12
          have w148 : (1 : Int32).toInt = 1 := li1
          have w149 : (9999 : Int32).toInt = 9999 := li9999
          have w150 : (44 : Int32).toInt = 44 := li44
          rcases w140x2 (w7n + 1) (by omega) with ⟨w146v, w146q, w146x, w146_1, w146_2, w146_3, w146_4, w146_5, w146_6, w146_7, w146r⟩ | ⟨w146v, w146_5, w146z⟩
          · skip
            rw [show (12 : Int32).toInt.toNat = 12 by decide] at w146r
            refine zs_if_eqF (pc := 309) t237_309 rfl (by omega) ?_
            refine zs_aload_n (pc := 312) t237_312 rfl ?_
            refine zs_bipush (pc := 313) t237_313 (v := 13) (by decide) ?_
            refine zs_iconst (pc := 315) t237_315 (v := 0) (by decide) ?_
            refine zs_sipush (pc := 316) t237_316 (v := 9999) (by decide) ?_
            refine zs_bipush (pc := 319) t237_319 (v := 59) (by decide) ?_
            have w151 : (zI w140M 336 6).toInt = (zI w140M 336 6).toInt := (congrArg Int32.toInt rfl).trans rfl
            have w152 : (13 : Int32).toInt = 13 := li13
            have w153 : (0 : Int32).toInt = 0 := li0
            have w154 : (9999 : Int32).toInt = 9999 := li9999
            have w155 : (59 : Int32).toInt = 59 := li59
            have w156 : (zI w140M 337 0).toInt = (zI w140M 337 0).toInt := (congrArg Int32.toInt rfl).trans rfl
            have w157 : (zI w140M 336 6).toInt = (zI w140M 336 6).toInt := (congrArg Int32.toInt rfl).trans rfl
            have w158 : (zI w140M 336 5).toInt = (zI M 336 5).toInt := (congrArg Int32.toInt ((w140F 336 5 rfl).trans ((zIoj (by decide)).trans rfl))).trans rfl
            have w159 : (zI w140M 337 1).toInt = (zI w140M 337 1).toInt := (congrArg Int32.toInt rfl).trans rfl
            have w160 : (zI w140M 336 7).toInt = (zI w140M 336 7).toInt := (congrArg Int32.toInt rfl).trans rfl
            have w161 : (zI w140M 337 1).toInt = (zI w140M 337 1).toInt := (congrArg Int32.toInt rfl).trans rfl
            have w162 : (zI w140M 336 7).toInt = (zI w140M 336 7).toInt := (congrArg Int32.toInt rfl).trans rfl
            have w163 : (zI w140M 337 0).toInt = (zI w140M 337 0).toInt := (congrArg Int32.toInt rfl).trans rfl
            have w164 : (zI w140M 336 6).toInt = (zI w140M 336 6).toInt := (congrArg Int32.toInt rfl).trans rfl
            have w165 : (zI w140M 337 2).toInt = (zI w140M 337 2).toInt := (congrArg Int32.toInt rfl).trans rfl
            refine zs_invV (pc := 321) (k := 336) (as' := [.int (13 : Int32), .int (0 : Int32), .int (9999 : Int32), .int (59 : Int32)]) (st := []) t237_321 mf242 rfl rfl (Or.inl ⟨by decide, (zk1 (w140s.k fk_zMm_336))⟩) ⟨by decide, by decide, Nat.le_of_ble_eq_true rfl, Nat.le_of_ble_eq_true rfl⟩ (R242 w140s w140I w140PR w140PC ⟨by decide, by decide⟩ ⟨by decide, by decide⟩ (by omega) (by omega) (by omega) (by omega) (by omega) (show 0 ≤ (0 : Int32).toInt ∧ (9999 : Int32).toInt ≤ 9999 from ⟨by omega, by omega⟩) w146r (zTm.mk x1 (fun j => ((w140F 339 j rfl).trans (zIo (by decide)))) ((w140F 336 5 rfl).trans (zIoj (by decide)))) ?_) (fun _ _ q => q)
            intro w166M w166v w166s w166I w166F w166J w166U w166PR w166PC w166t0 w166t1 w166t2 w166t3 w166t4 w166x0 w166x1 w166x2 w166a w166b
            have w167 := ibA0 w166I
            have w168 := ib336_6 w166I
            have w169 := ibA2 w166I
            have w170 := ibA1 w166I
            have w171 := ib336_7 w166I
            show zGo X l 5 0 0 237 324 [(1, .int (zhere M)), (0, .ref 336)] [.int w166v] w166M _
            have w173 : (13 : Int32).toInt = 13 := li13
            have w174 : (0 : Int32).toInt = 0 := li0
            have w175 : (9999 : Int32).toInt = 9999 := li9999
            have w176 : (59 : Int32).toInt = 59 := li59
            rcases w166x2 w146q (by omega) with ⟨w172v, w172q, w172x, w172_1, w172_2, w172_3, w172_4, w172_5, w172_6, w172_7, w172r⟩ | ⟨w172v, w172_5, w172z⟩
            · skip
              rw [show (13 : Int32).toInt.toNat = 13 by decide] at w172r
              refine zs_if_eqF (pc := 324) t237_324 rfl (by omega) ?_
              refine zs_iconst (pc := 327) t237_327 (v := 1) (by decide) ?_
              refine zs_goto (pc := 328) t237_328 ?_
              have w177 : (1 : Int32).toInt = 1 := li1
              have w178 : (zI w166M 336 6).toInt = (zI w166M 336 6).toInt := (congrArg Int32.toInt rfl).trans rfl
              have w179 : (zI w166M 336 7).toInt = (zI w166M 336 7).toInt := (congrArg Int32.toInt rfl).trans rfl
              have w180 := li1
              have w181 : (zI w166M 336 6).toInt = (zI w166M 336 6).toInt := (congrArg Int32.toInt rfl).trans rfl
              have w182 : (zI w166M 336 7).toInt = (zI w166M 336 7).toInt := (congrArg Int32.toInt rfl).trans rfl
              exact zs_iret (pc := 332) t237_332 mr237 (by decide) (hQ _ _ w166s w166I ((((zFr.refl).put rfl).trans (w140F.mono rfl)).trans (w166F.mono rfl)) (w166J.trans w140J) ((((zUp.refl).put (Or.inl (by decide))).trans w140U).trans w166U) w166PR w166PC (by omega) (fun p hp => by
                  obtain rfl : w7n = p := (by omega)
                  exact Or.inl ⟨by first | decide | omega, w172q, _, (((pIt.q (by omega)).trans (pB.y (by have z := w146_1; rw [show (1 : Int32).toInt = 1 by first | decide | omega, show (9999 : Int32).toInt = 9999 by first | decide | omega, show (44 : Int32).toInt = 44 by first | decide | omega] at z; exact z))).trans (pB.y (by have z := w172_1; rw [show (0 : Int32).toInt = 0 by first | decide | omega, show (9999 : Int32).toInt = 9999 by first | decide | omega, show (59 : Int32).toInt = 59 by first | decide | omega] at z; exact z))), by omega, by omega, by omega, by omega, w172r, x2.qq (by omega)⟩) (by decide) (by decide))
            · skip
              refine zs_if_eqT (pc := 324) t237_324 rfl (by omega) ?_
              refine zs_iconst (pc := 331) t237_331 (v := 0) (by decide) ?_
              have w183 : (0 : Int32).toInt = 0 := li0
              have w184 : (zI w166M 336 6).toInt = (zI w166M 336 6).toInt := (congrArg Int32.toInt rfl).trans rfl
              have w185 : (zI w166M 336 7).toInt = (zI w166M 336 7).toInt := (congrArg Int32.toInt rfl).trans rfl
              have w186 := li0
              have w187 : (zI w166M 336 6).toInt = (zI w166M 336 6).toInt := (congrArg Int32.toInt rfl).trans rfl
              have w188 : (zI w166M 336 7).toInt = (zI w166M 336 7).toInt := (congrArg Int32.toInt rfl).trans rfl
              exact zs_iret (pc := 332) t237_332 mr237 (by decide) (hQ _ _ w166s w166I ((((zFr.refl).put rfl).trans (w140F.mono rfl)).trans (w166F.mono rfl)) (w166J.trans w140J) ((((zUp.refl).put (Or.inl (by decide))).trans w140U).trans w166U) w166PR w166PC (by omega) (fun p hp => by
                  obtain rfl : w7n = p := (by omega)
                  exact Or.inr ⟨by first | decide | omega, by omega, (((pIt.q (by omega)).trans (pB.y (by have z := w146_1; rw [show (1 : Int32).toInt = 1 by first | decide | omega, show (9999 : Int32).toInt = 9999 by first | decide | omega, show (44 : Int32).toInt = 44 by first | decide | omega] at z; exact z))).trans (pB.f (by have z := w172z; rw [show (0 : Int32).toInt = 0 by first | decide | omega, show (9999 : Int32).toInt = 9999 by first | decide | omega, show (59 : Int32).toInt = 59 by first | decide | omega] at z; exact z)))⟩) (by decide) (by decide))
          · skip
            refine zs_if_eqT (pc := 309) t237_309 rfl (by omega) ?_
            refine zs_iconst (pc := 331) t237_331 (v := 0) (by decide) ?_
            have w189 : (0 : Int32).toInt = 0 := li0
            have w190 : (zI w140M 336 6).toInt = (zI w140M 336 6).toInt := (congrArg Int32.toInt rfl).trans rfl
            have w191 : (zI w140M 336 7).toInt = (zI w140M 336 7).toInt := (congrArg Int32.toInt rfl).trans rfl
            have w192 := li0
            have w193 : (zI w140M 336 6).toInt = (zI w140M 336 6).toInt := (congrArg Int32.toInt rfl).trans rfl
            have w194 : (zI w140M 336 7).toInt = (zI w140M 336 7).toInt := (congrArg Int32.toInt rfl).trans rfl
            exact zs_iret (pc := 332) t237_332 mr237 (by decide) (hQ _ _ w140s w140I (((zFr.refl).put rfl).trans (w140F.mono rfl)) w140J (((zUp.refl).put (Or.inl (by decide))).trans w140U) w140PR w140PC (by omega) (fun p hp => by
                obtain rfl : w7n = p := (by omega)
                exact Or.inr ⟨by first | decide | omega, by omega, ((pIt.q (by omega)).trans (pB.f (by have z := w146z; rw [show (1 : Int32).toInt = 1 by first | decide | omega, show (9999 : Int32).toInt = 9999 by first | decide | omega, show (44 : Int32).toInt = 44 by first | decide | omega] at z; exact z)))⟩) (by decide) (by decide))
        by_cases w195 : (zhere M).toInt = 115
        · refine zs_tswI (pc := 76) t237_76 ((rfl : (zhere M).toInt = (zhere M).toInt).trans w195) (by decide) rfl (pc2 := 181) rfl ?_
          refine zs_aload_n (pc := 181) t237_181 rfl ?_
          refine zs_iconst (pc := 182) t237_182 (v := 5) (by decide) ?_
          refine zs_iconst (pc := 183) t237_183 (v := 0) (by decide) ?_
          refine zs_iconst (pc := 184) t237_184 (v := 3) (by decide) ?_
          refine zs_bipush (pc := 185) t237_185 (v := 44) (by decide) ?_
          have w196 : (zI (zsI M 336 6 w24v) 336 6).toInt = ((zI M 336 6).toInt + 1) := (congrArg Int32.toInt zIs).trans w24
          have w197 : (5 : Int32).toInt = 5 := li5
          have w198 : (0 : Int32).toInt = 0 := li0
          have w199 : (3 : Int32).toInt = 3 := li3
          have w200 : (44 : Int32).toInt = 44 := li44
          have w201 : (zI (zsI M 336 6 w24v) 337 0).toInt = (zI M 337 0).toInt := (congrArg Int32.toInt ((zIo (by decide)).trans rfl)).trans rfl
          have w202 : (zI (zsI M 336 6 w24v) 336 6).toInt = ((zI M 336 6).toInt + 1) := (congrArg Int32.toInt zIs).trans w24
          have w203 : (zI (zsI M 336 6 w24v) 336 5).toInt = (zI M 336 5).toInt := (congrArg Int32.toInt ((zIoj (by decide)).trans rfl)).trans rfl
          have w204 : (zI (zsI M 336 6 w24v) 337 1).toInt = (zI M 337 1).toInt := (congrArg Int32.toInt ((zIo (by decide)).trans rfl)).trans rfl
          have w205 : (zI (zsI M 336 6 w24v) 336 7).toInt = (zI M 336 7).toInt := (congrArg Int32.toInt ((zIoj (by decide)).trans rfl)).trans rfl
          have w206 : (zI (zsI M 336 6 w24v) 337 1).toInt = (zI M 337 1).toInt := (congrArg Int32.toInt ((zIo (by decide)).trans rfl)).trans rfl
          have w207 : (zI (zsI M 336 6 w24v) 336 7).toInt = (zI M 336 7).toInt := (congrArg Int32.toInt ((zIoj (by decide)).trans rfl)).trans rfl
          have w208 : (zI (zsI M 336 6 w24v) 337 0).toInt = (zI M 337 0).toInt := (congrArg Int32.toInt ((zIo (by decide)).trans rfl)).trans rfl
          have w209 : (zI (zsI M 336 6 w24v) 336 6).toInt = ((zI M 336 6).toInt + 1) := (congrArg Int32.toInt zIs).trans w24
          have w210 : (zI (zsI M 336 6 w24v) 337 2).toInt = (zI M 337 2).toInt := (congrArg Int32.toInt ((zIo (by decide)).trans rfl)).trans rfl
          refine zs_invV (pc := 187) (k := 336) (as' := [.int (5 : Int32), .int (0 : Int32), .int (3 : Int32), .int (44 : Int32)]) (st := []) t237_187 mf242 rfl rfl (Or.inl ⟨by decide, (zk1 (hs.k fk_zMm_336))⟩) ⟨by decide, by decide, Nat.le_of_ble_eq_true rfl, Nat.le_of_ble_eq_true rfl⟩ (R242 hs w25 (zPR.fr (M' := (zsI M 336 6 w24v)) pR (zEq.put rfl)) (zPC.fr (M' := (zsI M 336 6 w24v)) pC (zEq.put rfl)) ⟨by decide, by decide⟩ ⟨by decide, by decide⟩ (by omega) (by omega) (by omega) (by omega) (by omega) (show 0 ≤ (0 : Int32).toInt ∧ (3 : Int32).toInt ≤ 3 from ⟨by omega, by omega⟩) (zRw.fr' x0 (fun j hj => (zIo (by decide)))) (zTm.mk x1 (fun j => (zIo (by decide))) (zIoj (by decide))) ?_) (fun _ _ q => q)
          intro w211M w211v w211s w211I w211F w211J w211U w211PR w211PC w211t0 w211t1 w211t2 w211t3 w211t4 w211x0 w211x1 w211x2 w211a w211b
          have w212 := ibA0 w211I
          have w213 := ib336_6 w211I
          have w214 := ibA2 w211I
          have w215 := ibA1 w211I
          have w216 := ib336_7 w211I
          show zGo X l 5 0 0 237 190 [(1, .int (zhere M)), (0, .ref 336)] [.int w211v] w211M _
          have w218 : (5 : Int32).toInt = 5 := li5
          have w219 : (0 : Int32).toInt = 0 := li0
          have w220 : (3 : Int32).toInt = 3 := li3
          have w221 : (44 : Int32).toInt = 44 := li44
          rcases w211x2 (w7n + 1) (by omega) with ⟨w217v, w217q, w217x, w217_1, w217_2, w217_3, w217_4, w217_5, w217_6, w217_7, w217r⟩ | ⟨w217v, w217_5, w217z⟩
          · skip
            rw [show (5 : Int32).toInt.toNat = 5 by decide] at w217r
            refine zs_if_eqF (pc := 190) t237_190 rfl (by omega) ?_
            refine zs_aload_n (pc := 193) t237_193 rfl ?_
            refine zs_bipush (pc := 194) t237_194 (v := 6) (by decide) ?_
            refine zs_iconst (pc := 196) t237_196 (v := 0) (by decide) ?_
            refine zs_bipush (pc := 197) t237_197 (v := 20) (by decide) ?_
            refine zs_bipush (pc := 199) t237_199 (v := 44) (by decide) ?_
            have w222 : (zI w211M 336 6).toInt = (zI w211M 336 6).toInt := (congrArg Int32.toInt rfl).trans rfl
            have w223 : (6 : Int32).toInt = 6 := li6
            have w224 : (0 : Int32).toInt = 0 := li0
            have w225 : (20 : Int32).toInt = 20 := li20
            have w226 : (44 : Int32).toInt = 44 := li44
            have w227 : (zI w211M 337 0).toInt = (zI w211M 337 0).toInt := (congrArg Int32.toInt rfl).trans rfl
            have w228 : (zI w211M 336 6).toInt = (zI w211M 336 6).toInt := (congrArg Int32.toInt rfl).trans rfl
            have w229 : (zI w211M 336 5).toInt = (zI M 336 5).toInt := (congrArg Int32.toInt ((w211F 336 5 rfl).trans ((zIoj (by decide)).trans rfl))).trans rfl
            have w230 : (zI w211M 337 1).toInt = (zI w211M 337 1).toInt := (congrArg Int32.toInt rfl).trans rfl
            have w231 : (zI w211M 336 7).toInt = (zI w211M 336 7).toInt := (congrArg Int32.toInt rfl).trans rfl
            have w232 : (zI w211M 337 1).toInt = (zI w211M 337 1).toInt := (congrArg Int32.toInt rfl).trans rfl
            have w233 : (zI w211M 336 7).toInt = (zI w211M 336 7).toInt := (congrArg Int32.toInt rfl).trans rfl
            have w234 : (zI w211M 337 0).toInt = (zI w211M 337 0).toInt := (congrArg Int32.toInt rfl).trans rfl
            have w235 : (zI w211M 336 6).toInt = (zI w211M 336 6).toInt := (congrArg Int32.toInt rfl).trans rfl
            have w236 : (zI w211M 337 2).toInt = (zI w211M 337 2).toInt := (congrArg Int32.toInt rfl).trans rfl
            refine zs_invV (pc := 201) (k := 336) (as' := [.int (6 : Int32), .int (0 : Int32), .int (20 : Int32), .int (44 : Int32)]) (st := []) t237_201 mf242 rfl rfl (Or.inl ⟨by decide, (zk1 (w211s.k fk_zMm_336))⟩) ⟨by decide, by decide, Nat.le_of_ble_eq_true rfl, Nat.le_of_ble_eq_true rfl⟩ (R242 w211s w211I w211PR w211PC ⟨by decide, by decide⟩ ⟨by decide, by decide⟩ (by omega) (by omega) (by omega) (by omega) (by omega) (show 0 ≤ (0 : Int32).toInt ∧ (20 : Int32).toInt ≤ 20 from ⟨by omega, by omega⟩) w217r (zTm.mk x1 (fun j => ((w211F 339 j rfl).trans (zIo (by decide)))) ((w211F 336 5 rfl).trans (zIoj (by decide)))) ?_) (fun _ _ q => q)
            intro w237M w237v w237s w237I w237F w237J w237U w237PR w237PC w237t0 w237t1 w237t2 w237t3 w237t4 w237x0 w237x1 w237x2 w237a w237b
            have w238 := ibA0 w237I
            have w239 := ib336_6 w237I
            have w240 := ibA2 w237I
            have w241 := ibA1 w237I
            have w242 := ib336_7 w237I
            show zGo X l 5 0 0 237 204 [(1, .int (zhere M)), (0, .ref 336)] [.int w237v] w237M _
            have w244 : (6 : Int32).toInt = 6 := li6
            have w245 : (0 : Int32).toInt = 0 := li0
            have w246 : (20 : Int32).toInt = 20 := li20
            have w247 : (44 : Int32).toInt = 44 := li44
            rcases w237x2 w217q (by omega) with ⟨w243v, w243q, w243x, w243_1, w243_2, w243_3, w243_4, w243_5, w243_6, w243_7, w243r⟩ | ⟨w243v, w243_5, w243z⟩
            · skip
              rw [show (6 : Int32).toInt.toNat = 6 by decide] at w243r
              refine zs_if_eqF (pc := 204) t237_204 rfl (by omega) ?_
              refine zs_aload_n (pc := 207) t237_207 rfl ?_
              refine zs_bipush (pc := 208) t237_208 (v := 7) (by decide) ?_
              refine zs_iconst (pc := 210) t237_210 (v := 1) (by decide) ?_
              refine zs_sipush (pc := 211) t237_211 (v := 500) (by decide) ?_
              refine zs_bipush (pc := 214) t237_214 (v := 44) (by decide) ?_
              have w248 : (zI w237M 336 6).toInt = (zI w237M 336 6).toInt := (congrArg Int32.toInt rfl).trans rfl
              have w249 : (7 : Int32).toInt = 7 := li7
              have w250 : (1 : Int32).toInt = 1 := li1
              have w251 : (500 : Int32).toInt = 500 := li500
              have w252 : (44 : Int32).toInt = 44 := li44
              have w253 : (zI w237M 337 0).toInt = (zI w237M 337 0).toInt := (congrArg Int32.toInt rfl).trans rfl
              have w254 : (zI w237M 336 6).toInt = (zI w237M 336 6).toInt := (congrArg Int32.toInt rfl).trans rfl
              have w255 : (zI w237M 336 5).toInt = (zI M 336 5).toInt := (congrArg Int32.toInt ((w237F 336 5 rfl).trans ((w211F 336 5 rfl).trans ((zIoj (by decide)).trans rfl)))).trans rfl
              have w256 : (zI w237M 337 1).toInt = (zI w237M 337 1).toInt := (congrArg Int32.toInt rfl).trans rfl
              have w257 : (zI w237M 336 7).toInt = (zI w237M 336 7).toInt := (congrArg Int32.toInt rfl).trans rfl
              have w258 : (zI w237M 337 1).toInt = (zI w237M 337 1).toInt := (congrArg Int32.toInt rfl).trans rfl
              have w259 : (zI w237M 336 7).toInt = (zI w237M 336 7).toInt := (congrArg Int32.toInt rfl).trans rfl
              have w260 : (zI w237M 337 0).toInt = (zI w237M 337 0).toInt := (congrArg Int32.toInt rfl).trans rfl
              have w261 : (zI w237M 336 6).toInt = (zI w237M 336 6).toInt := (congrArg Int32.toInt rfl).trans rfl
              have w262 : (zI w237M 337 2).toInt = (zI w237M 337 2).toInt := (congrArg Int32.toInt rfl).trans rfl
              refine zs_invV (pc := 216) (k := 336) (as' := [.int (7 : Int32), .int (1 : Int32), .int (500 : Int32), .int (44 : Int32)]) (st := []) t237_216 mf242 rfl rfl (Or.inl ⟨by decide, (zk1 (w237s.k fk_zMm_336))⟩) ⟨by decide, by decide, Nat.le_of_ble_eq_true rfl, Nat.le_of_ble_eq_true rfl⟩ (R242 w237s w237I w237PR w237PC ⟨by decide, by decide⟩ ⟨by decide, by decide⟩ (by omega) (by omega) (by omega) (by omega) (by omega) (show 1 ≤ (1 : Int32).toInt ∧ (500 : Int32).toInt ≤ 500 from ⟨by omega, by omega⟩) w243r (zTm.mk x1 (fun j => ((w237F 339 j rfl).trans ((w211F 339 j rfl).trans (zIo (by decide))))) ((w237F 336 5 rfl).trans ((w211F 336 5 rfl).trans (zIoj (by decide))))) ?_) (fun _ _ q => q)
              intro w263M w263v w263s w263I w263F w263J w263U w263PR w263PC w263t0 w263t1 w263t2 w263t3 w263t4 w263x0 w263x1 w263x2 w263a w263b
              have w264 := ibA0 w263I
              have w265 := ib336_6 w263I
              have w266 := ibA2 w263I
              have w267 := ibA1 w263I
              have w268 := ib336_7 w263I
              show zGo X l 5 0 0 237 219 [(1, .int (zhere M)), (0, .ref 336)] [.int w263v] w263M _
              have w270 : (7 : Int32).toInt = 7 := li7
              have w271 : (1 : Int32).toInt = 1 := li1
              have w272 : (500 : Int32).toInt = 500 := li500
              have w273 : (44 : Int32).toInt = 44 := li44
              rcases w263x2 w243q (by omega) with ⟨w269v, w269q, w269x, w269_1, w269_2, w269_3, w269_4, w269_5, w269_6, w269_7, w269r⟩ | ⟨w269v, w269_5, w269z⟩
              · skip
                rw [show (7 : Int32).toInt.toNat = 7 by decide] at w269r
                refine zs_if_eqF (pc := 219) t237_219 rfl (by omega) ?_
                refine zs_aload_n (pc := 222) t237_222 rfl ?_
                refine zs_bipush (pc := 223) t237_223 (v := 8) (by decide) ?_
                refine zs_iconst (pc := 225) t237_225 (v := 2) (by decide) ?_
                refine zs_bipush (pc := 226) t237_226 (v := 8) (by decide) ?_
                refine zs_bipush (pc := 228) t237_228 (v := 59) (by decide) ?_
                have w274 : (zI w263M 336 6).toInt = (zI w263M 336 6).toInt := (congrArg Int32.toInt rfl).trans rfl
                have w275 : (8 : Int32).toInt = 8 := li8
                have w276 : (2 : Int32).toInt = 2 := li2
                have w277 : (8 : Int32).toInt = 8 := li8
                have w278 : (59 : Int32).toInt = 59 := li59
                have w279 : (zI w263M 337 0).toInt = (zI w263M 337 0).toInt := (congrArg Int32.toInt rfl).trans rfl
                have w280 : (zI w263M 336 6).toInt = (zI w263M 336 6).toInt := (congrArg Int32.toInt rfl).trans rfl
                have w281 : (zI w263M 336 5).toInt = (zI M 336 5).toInt := (congrArg Int32.toInt ((w263F 336 5 rfl).trans ((w237F 336 5 rfl).trans ((w211F 336 5 rfl).trans ((zIoj (by decide)).trans rfl))))).trans rfl
                have w282 : (zI w263M 337 1).toInt = (zI w263M 337 1).toInt := (congrArg Int32.toInt rfl).trans rfl
                have w283 : (zI w263M 336 7).toInt = (zI w263M 336 7).toInt := (congrArg Int32.toInt rfl).trans rfl
                have w284 : (zI w263M 337 1).toInt = (zI w263M 337 1).toInt := (congrArg Int32.toInt rfl).trans rfl
                have w285 : (zI w263M 336 7).toInt = (zI w263M 336 7).toInt := (congrArg Int32.toInt rfl).trans rfl
                have w286 : (zI w263M 337 0).toInt = (zI w263M 337 0).toInt := (congrArg Int32.toInt rfl).trans rfl
                have w287 : (zI w263M 336 6).toInt = (zI w263M 336 6).toInt := (congrArg Int32.toInt rfl).trans rfl
                have w288 : (zI w263M 337 2).toInt = (zI w263M 337 2).toInt := (congrArg Int32.toInt rfl).trans rfl
                refine zs_invV (pc := 230) (k := 336) (as' := [.int (8 : Int32), .int (2 : Int32), .int (8 : Int32), .int (59 : Int32)]) (st := []) t237_230 mf242 rfl rfl (Or.inl ⟨by decide, (zk1 (w263s.k fk_zMm_336))⟩) ⟨by decide, by decide, Nat.le_of_ble_eq_true rfl, Nat.le_of_ble_eq_true rfl⟩ (R242 w263s w263I w263PR w263PC ⟨by decide, by decide⟩ ⟨by decide, by decide⟩ (by omega) (by omega) (by omega) (by omega) (by omega) (show 2 ≤ (2 : Int32).toInt ∧ (8 : Int32).toInt ≤ 8 from ⟨by omega, by omega⟩) w269r (zTm.mk x1 (fun j => ((w263F 339 j rfl).trans ((w237F 339 j rfl).trans ((w211F 339 j rfl).trans (zIo (by decide)))))) ((w263F 336 5 rfl).trans ((w237F 336 5 rfl).trans ((w211F 336 5 rfl).trans (zIoj (by decide)))))) ?_) (fun _ _ q => q)
                intro w289M w289v w289s w289I w289F w289J w289U w289PR w289PC w289t0 w289t1 w289t2 w289t3 w289t4 w289x0 w289x1 w289x2 w289a w289b
                have w290 := ibA0 w289I
                have w291 := ib336_6 w289I
                have w292 := ibA2 w289I
                have w293 := ibA1 w289I
                have w294 := ib336_7 w289I
                show zGo X l 5 0 0 237 233 [(1, .int (zhere M)), (0, .ref 336)] [.int w289v] w289M _
                have w296 : (8 : Int32).toInt = 8 := li8
                have w297 : (2 : Int32).toInt = 2 := li2
                have w298 : (8 : Int32).toInt = 8 := li8
                have w299 : (59 : Int32).toInt = 59 := li59
                rcases w289x2 w269q (by omega) with ⟨w295v, w295q, w295x, w295_1, w295_2, w295_3, w295_4, w295_5, w295_6, w295_7, w295r⟩ | ⟨w295v, w295_5, w295z⟩
                · skip
                  rw [show (8 : Int32).toInt.toNat = 8 by decide] at w295r
                  refine zs_if_eqF (pc := 233) t237_233 rfl (by omega) ?_
                  refine zs_iconst (pc := 236) t237_236 (v := 1) (by decide) ?_
                  refine zs_goto (pc := 237) t237_237 ?_
                  have w300 : (1 : Int32).toInt = 1 := li1
                  have w301 : (zI w289M 336 6).toInt = (zI w289M 336 6).toInt := (congrArg Int32.toInt rfl).trans rfl
                  have w302 : (zI w289M 336 7).toInt = (zI w289M 336 7).toInt := (congrArg Int32.toInt rfl).trans rfl
                  have w303 := li1
                  have w304 : (zI w289M 336 6).toInt = (zI w289M 336 6).toInt := (congrArg Int32.toInt rfl).trans rfl
                  have w305 : (zI w289M 336 7).toInt = (zI w289M 336 7).toInt := (congrArg Int32.toInt rfl).trans rfl
                  exact zs_iret (pc := 241) t237_241 mr237 (by decide) (hQ _ _ w289s w289I ((((((zFr.refl).put rfl).trans (w211F.mono rfl)).trans (w237F.mono rfl)).trans (w263F.mono rfl)).trans (w289F.mono rfl)) (w289J.trans (w263J.trans (w237J.trans w211J))) ((((((zUp.refl).put (Or.inl (by decide))).trans w211U).trans w237U).trans w263U).trans w289U) w289PR w289PC (by omega) (fun p hp => by
                      obtain rfl : w7n = p := (by omega)
                      exact Or.inl ⟨by first | decide | omega, w295q, _, (((((pIt.s (by omega)).trans (pB.y (by have z := w217_1; rw [show (0 : Int32).toInt = 0 by first | decide | omega, show (3 : Int32).toInt = 3 by first | decide | omega, show (44 : Int32).toInt = 44 by first | decide | omega] at z; exact z))).trans (pB.y (by have z := w243_1; rw [show (0 : Int32).toInt = 0 by first | decide | omega, show (20 : Int32).toInt = 20 by first | decide | omega, show (44 : Int32).toInt = 44 by first | decide | omega] at z; exact z))).trans (pB.y (by have z := w269_1; rw [show (1 : Int32).toInt = 1 by first | decide | omega, show (500 : Int32).toInt = 500 by first | decide | omega, show (44 : Int32).toInt = 44 by first | decide | omega] at z; exact z))).trans (pB.y (by have z := w295_1; rw [show (2 : Int32).toInt = 2 by first | decide | omega, show (8 : Int32).toInt = 8 by first | decide | omega, show (59 : Int32).toInt = 59 by first | decide | omega] at z; exact z))), by omega, by omega, by omega, by omega, w295r, x2.ss (by omega)⟩) (by decide) (by decide))
                · skip
                  refine zs_if_eqT (pc := 233) t237_233 rfl (by omega) ?_
                  refine zs_iconst (pc := 240) t237_240 (v := 0) (by decide) ?_
                  have w306 : (0 : Int32).toInt = 0 := li0
                  have w307 : (zI w289M 336 6).toInt = (zI w289M 336 6).toInt := (congrArg Int32.toInt rfl).trans rfl
                  have w308 : (zI w289M 336 7).toInt = (zI w289M 336 7).toInt := (congrArg Int32.toInt rfl).trans rfl
                  have w309 := li0
                  have w310 : (zI w289M 336 6).toInt = (zI w289M 336 6).toInt := (congrArg Int32.toInt rfl).trans rfl
                  have w311 : (zI w289M 336 7).toInt = (zI w289M 336 7).toInt := (congrArg Int32.toInt rfl).trans rfl
                  exact zs_iret (pc := 241) t237_241 mr237 (by decide) (hQ _ _ w289s w289I ((((((zFr.refl).put rfl).trans (w211F.mono rfl)).trans (w237F.mono rfl)).trans (w263F.mono rfl)).trans (w289F.mono rfl)) (w289J.trans (w263J.trans (w237J.trans w211J))) ((((((zUp.refl).put (Or.inl (by decide))).trans w211U).trans w237U).trans w263U).trans w289U) w289PR w289PC (by omega) (fun p hp => by
                      obtain rfl : w7n = p := (by omega)
                      exact Or.inr ⟨by first | decide | omega, by omega, (((((pIt.s (by omega)).trans (pB.y (by have z := w217_1; rw [show (0 : Int32).toInt = 0 by first | decide | omega, show (3 : Int32).toInt = 3 by first | decide | omega, show (44 : Int32).toInt = 44 by first | decide | omega] at z; exact z))).trans (pB.y (by have z := w243_1; rw [show (0 : Int32).toInt = 0 by first | decide | omega, show (20 : Int32).toInt = 20 by first | decide | omega, show (44 : Int32).toInt = 44 by first | decide | omega] at z; exact z))).trans (pB.y (by have z := w269_1; rw [show (1 : Int32).toInt = 1 by first | decide | omega, show (500 : Int32).toInt = 500 by first | decide | omega, show (44 : Int32).toInt = 44 by first | decide | omega] at z; exact z))).trans (pB.f (by have z := w295z; rw [show (2 : Int32).toInt = 2 by first | decide | omega, show (8 : Int32).toInt = 8 by first | decide | omega, show (59 : Int32).toInt = 59 by first | decide | omega] at z; exact z)))⟩) (by decide) (by decide))
              · skip
                refine zs_if_eqT (pc := 219) t237_219 rfl (by omega) ?_
                refine zs_iconst (pc := 240) t237_240 (v := 0) (by decide) ?_
                have w312 : (0 : Int32).toInt = 0 := li0
                have w313 : (zI w263M 336 6).toInt = (zI w263M 336 6).toInt := (congrArg Int32.toInt rfl).trans rfl
                have w314 : (zI w263M 336 7).toInt = (zI w263M 336 7).toInt := (congrArg Int32.toInt rfl).trans rfl
                have w315 := li0
                have w316 : (zI w263M 336 6).toInt = (zI w263M 336 6).toInt := (congrArg Int32.toInt rfl).trans rfl
                have w317 : (zI w263M 336 7).toInt = (zI w263M 336 7).toInt := (congrArg Int32.toInt rfl).trans rfl
                exact zs_iret (pc := 241) t237_241 mr237 (by decide) (hQ _ _ w263s w263I (((((zFr.refl).put rfl).trans (w211F.mono rfl)).trans (w237F.mono rfl)).trans (w263F.mono rfl)) (w263J.trans (w237J.trans w211J)) (((((zUp.refl).put (Or.inl (by decide))).trans w211U).trans w237U).trans w263U) w263PR w263PC (by omega) (fun p hp => by
                    obtain rfl : w7n = p := (by omega)
                    exact Or.inr ⟨by first | decide | omega, by omega, ((((pIt.s (by omega)).trans (pB.y (by have z := w217_1; rw [show (0 : Int32).toInt = 0 by first | decide | omega, show (3 : Int32).toInt = 3 by first | decide | omega, show (44 : Int32).toInt = 44 by first | decide | omega] at z; exact z))).trans (pB.y (by have z := w243_1; rw [show (0 : Int32).toInt = 0 by first | decide | omega, show (20 : Int32).toInt = 20 by first | decide | omega, show (44 : Int32).toInt = 44 by first | decide | omega] at z; exact z))).trans (pB.f (by have z := w269z; rw [show (1 : Int32).toInt = 1 by first | decide | omega, show (500 : Int32).toInt = 500 by first | decide | omega, show (44 : Int32).toInt = 44 by first | decide | omega] at z; exact z)))⟩) (by decide) (by decide))
            · skip
              refine zs_if_eqT (pc := 204) t237_204 rfl (by omega) ?_
              refine zs_iconst (pc := 240) t237_240 (v := 0) (by decide) ?_
              have w318 : (0 : Int32).toInt = 0 := li0
              have w319 : (zI w237M 336 6).toInt = (zI w237M 336 6).toInt := (congrArg Int32.toInt rfl).trans rfl
              have w320 : (zI w237M 336 7).toInt = (zI w237M 336 7).toInt := (congrArg Int32.toInt rfl).trans rfl
              have w321 := li0
              have w322 : (zI w237M 336 6).toInt = (zI w237M 336 6).toInt := (congrArg Int32.toInt rfl).trans rfl
              have w323 : (zI w237M 336 7).toInt = (zI w237M 336 7).toInt := (congrArg Int32.toInt rfl).trans rfl
              exact zs_iret (pc := 241) t237_241 mr237 (by decide) (hQ _ _ w237s w237I ((((zFr.refl).put rfl).trans (w211F.mono rfl)).trans (w237F.mono rfl)) (w237J.trans w211J) ((((zUp.refl).put (Or.inl (by decide))).trans w211U).trans w237U) w237PR w237PC (by omega) (fun p hp => by
                  obtain rfl : w7n = p := (by omega)
                  exact Or.inr ⟨by first | decide | omega, by omega, (((pIt.s (by omega)).trans (pB.y (by have z := w217_1; rw [show (0 : Int32).toInt = 0 by first | decide | omega, show (3 : Int32).toInt = 3 by first | decide | omega, show (44 : Int32).toInt = 44 by first | decide | omega] at z; exact z))).trans (pB.f (by have z := w243z; rw [show (0 : Int32).toInt = 0 by first | decide | omega, show (20 : Int32).toInt = 20 by first | decide | omega, show (44 : Int32).toInt = 44 by first | decide | omega] at z; exact z)))⟩) (by decide) (by decide))
          · skip
            refine zs_if_eqT (pc := 190) t237_190 rfl (by omega) ?_
            refine zs_iconst (pc := 240) t237_240 (v := 0) (by decide) ?_
            have w324 : (0 : Int32).toInt = 0 := li0
            have w325 : (zI w211M 336 6).toInt = (zI w211M 336 6).toInt := (congrArg Int32.toInt rfl).trans rfl
            have w326 : (zI w211M 336 7).toInt = (zI w211M 336 7).toInt := (congrArg Int32.toInt rfl).trans rfl
            have w327 := li0
            have w328 : (zI w211M 336 6).toInt = (zI w211M 336 6).toInt := (congrArg Int32.toInt rfl).trans rfl
            have w329 : (zI w211M 336 7).toInt = (zI w211M 336 7).toInt := (congrArg Int32.toInt rfl).trans rfl
            exact zs_iret (pc := 241) t237_241 mr237 (by decide) (hQ _ _ w211s w211I (((zFr.refl).put rfl).trans (w211F.mono rfl)) w211J (((zUp.refl).put (Or.inl (by decide))).trans w211U) w211PR w211PC (by omega) (fun p hp => by
                obtain rfl : w7n = p := (by omega)
                exact Or.inr ⟨by first | decide | omega, by omega, ((pIt.s (by omega)).trans (pB.f (by have z := w217z; rw [show (0 : Int32).toInt = 0 by first | decide | omega, show (3 : Int32).toInt = 3 by first | decide | omega, show (44 : Int32).toInt = 44 by first | decide | omega] at z; exact z)))⟩) (by decide) (by decide))
        by_cases w330 : (zhere M).toInt = 116
        · refine zs_tswI (pc := 76) t237_76 ((rfl : (zhere M).toInt = (zhere M).toInt).trans w330) (by decide) rfl (pc2 := 333) rfl ?_
          refine zs_aload_n (pc := 333) t237_333 rfl ?_
          refine zs_aload_n (pc := 334) t237_334 rfl ?_
          refine zs_get (pc := 335) t237_335 (by decide) (zk1 (hs.k fk_zMm_336)) (zfvi rfl zIs) ?_
          refine zs_iconst (pc := 338) t237_338 (v := 1) (by decide) ?_
          obtain ⟨w331v, w331e, w331⟩ := zisub (a := w24v) (b := (1 : Int32)) w24 li1 (by omega) (by omega)
          refine zs_isub (pc := 339) t237_339 (c := w331v) w331e ?_
          refine zs_invV (pc := 340) (k := 336) (as' := [.int w331v]) (st := []) t237_340 mf239 rfl rfl (Or.inl ⟨by decide, (zk1 (hs.k fk_zMm_336))⟩) ⟨by decide, by decide, Nat.le_of_ble_eq_true rfl, Nat.le_of_ble_eq_true rfl⟩ (zs_in (by decide) mf239 (Nat.le_of_ble_eq_true rfl) ?_) (fun _ _ q => q)
          show zGo X l 0 0 0 239 0 [(0, .ref 336), (1, .int w331v)] [] (zsI M 336 6 w24v) _
          refine zs_aload_n (pc := 0) t239_0 rfl ?_
          refine zs_iload_n (pc := 1) t239_1 rfl ?_
          have w332 : zIv mLo mHi (zsI (zsI M 336 6 w24v) 336 7 w331v) := zIv.put w25 (show (-1) ≤ w331v.toInt ∧ w331v.toInt ≤ 500 from ⟨by omega, by omega⟩)
          refine zs_putI (pc := 2) t239_2 (zk1 (hs.k fk_zMm_336)) rfl ?_
          refine zs_iconst (pc := 5) t239_5 (v := 0) (by decide) ?_
          refine zs_iret (pc := 6) t239_6 mr239 (by decide) ?_
          show zGo X l 5 0 0 237 343 [(1, .int (zhere M)), (0, .ref 336)] [.int (0 : Int32)] (zsI (zsI M 336 6 w24v) 336 7 w331v) _
          have w333 : (0 : Int32).toInt = 0 := li0
          have w334 : (zI (zsI (zsI M 336 6 w24v) 336 7 w331v) 336 6).toInt = ((zI M 336 6).toInt + 1) := (congrArg Int32.toInt ((zIoj (by decide)).trans zIs)).trans w24
          have w335 : (zI (zsI (zsI M 336 6 w24v) 336 7 w331v) 336 7).toInt = (((zI M 336 6).toInt + 1) - 1) := (congrArg Int32.toInt zIs).trans w331
          have w336 := li0
          have w337 : (zI (zsI (zsI M 336 6 w24v) 336 7 w331v) 336 6).toInt = ((zI M 336 6).toInt + 1) := (congrArg Int32.toInt ((zIoj (by decide)).trans zIs)).trans w24
          have w338 : (zI (zsI (zsI M 336 6 w24v) 336 7 w331v) 336 7).toInt = (((zI M 336 6).toInt + 1) - 1) := (congrArg Int32.toInt zIs).trans w331
          exact zs_iret (pc := 343) t237_343 mr237 (by decide) (hQ _ _ hs w332 (((zFr.refl).put rfl).put rfl) rfl (((zUp.refl).put (Or.inl (by decide))).put (Or.inl (by decide))) (zPR.fr (M' := (zsI (zsI M 336 6 w24v) 336 7 w331v)) (zPR.fr (M' := (zsI M 336 6 w24v)) pR (zEq.put rfl)) (zEq.put rfl)) (zPC.fr (M' := (zsI (zsI M 336 6 w24v) 336 7 w331v)) (zPC.fr (M' := (zsI M 336 6 w24v)) pC (zEq.put rfl)) (zEq.put rfl)) (by omega) (fun p hp => by
              obtain rfl : w7n = p := (by omega)
              exact Or.inr ⟨by first | decide | omega, by omega, (by first | exact pIt.r0 (by omega) (by omega) | exact pIt.h0 (by omega) (by omega) | exact pIt.p0 (by omega) (by omega) | exact pIt.no (by omega))⟩) (by decide) (by decide))
        by_cases w339 : (zhere M).toInt = 117
        · refine zs_tswI (pc := 76) t237_76 ((rfl : (zhere M).toInt = (zhere M).toInt).trans w339) (by decide) rfl (pc2 := 333) rfl ?_
          refine zs_aload_n (pc := 333) t237_333 rfl ?_
          refine zs_aload_n (pc := 334) t237_334 rfl ?_
          refine zs_get (pc := 335) t237_335 (by decide) (zk1 (hs.k fk_zMm_336)) (zfvi rfl zIs) ?_
          refine zs_iconst (pc := 338) t237_338 (v := 1) (by decide) ?_
          obtain ⟨w340v, w340e, w340⟩ := zisub (a := w24v) (b := (1 : Int32)) w24 li1 (by omega) (by omega)
          refine zs_isub (pc := 339) t237_339 (c := w340v) w340e ?_
          refine zs_invV (pc := 340) (k := 336) (as' := [.int w340v]) (st := []) t237_340 mf239 rfl rfl (Or.inl ⟨by decide, (zk1 (hs.k fk_zMm_336))⟩) ⟨by decide, by decide, Nat.le_of_ble_eq_true rfl, Nat.le_of_ble_eq_true rfl⟩ (zs_in (by decide) mf239 (Nat.le_of_ble_eq_true rfl) ?_) (fun _ _ q => q)
          show zGo X l 0 0 0 239 0 [(0, .ref 336), (1, .int w340v)] [] (zsI M 336 6 w24v) _
          refine zs_aload_n (pc := 0) t239_0 rfl ?_
          refine zs_iload_n (pc := 1) t239_1 rfl ?_
          have w341 : zIv mLo mHi (zsI (zsI M 336 6 w24v) 336 7 w340v) := zIv.put w25 (show (-1) ≤ w340v.toInt ∧ w340v.toInt ≤ 500 from ⟨by omega, by omega⟩)
          refine zs_putI (pc := 2) t239_2 (zk1 (hs.k fk_zMm_336)) rfl ?_
          refine zs_iconst (pc := 5) t239_5 (v := 0) (by decide) ?_
          refine zs_iret (pc := 6) t239_6 mr239 (by decide) ?_
          show zGo X l 5 0 0 237 343 [(1, .int (zhere M)), (0, .ref 336)] [.int (0 : Int32)] (zsI (zsI M 336 6 w24v) 336 7 w340v) _
          have w342 : (0 : Int32).toInt = 0 := li0
          have w343 : (zI (zsI (zsI M 336 6 w24v) 336 7 w340v) 336 6).toInt = ((zI M 336 6).toInt + 1) := (congrArg Int32.toInt ((zIoj (by decide)).trans zIs)).trans w24
          have w344 : (zI (zsI (zsI M 336 6 w24v) 336 7 w340v) 336 7).toInt = (((zI M 336 6).toInt + 1) - 1) := (congrArg Int32.toInt zIs).trans w340
          have w345 := li0
          have w346 : (zI (zsI (zsI M 336 6 w24v) 336 7 w340v) 336 6).toInt = ((zI M 336 6).toInt + 1) := (congrArg Int32.toInt ((zIoj (by decide)).trans zIs)).trans w24
          have w347 : (zI (zsI (zsI M 336 6 w24v) 336 7 w340v) 336 7).toInt = (((zI M 336 6).toInt + 1) - 1) := (congrArg Int32.toInt zIs).trans w340
          exact zs_iret (pc := 343) t237_343 mr237 (by decide) (hQ _ _ hs w341 (((zFr.refl).put rfl).put rfl) rfl (((zUp.refl).put (Or.inl (by decide))).put (Or.inl (by decide))) (zPR.fr (M' := (zsI (zsI M 336 6 w24v) 336 7 w340v)) (zPR.fr (M' := (zsI M 336 6 w24v)) pR (zEq.put rfl)) (zEq.put rfl)) (zPC.fr (M' := (zsI (zsI M 336 6 w24v) 336 7 w340v)) (zPC.fr (M' := (zsI M 336 6 w24v)) pC (zEq.put rfl)) (zEq.put rfl)) (by omega) (fun p hp => by
              obtain rfl : w7n = p := (by omega)
              exact Or.inr ⟨by first | decide | omega, by omega, (by first | exact pIt.r0 (by omega) (by omega) | exact pIt.h0 (by omega) (by omega) | exact pIt.p0 (by omega) (by omega) | exact pIt.no (by omega))⟩) (by decide) (by decide))
        by_cases w348 : (zhere M).toInt = 118
        · refine zs_tswI (pc := 76) t237_76 ((rfl : (zhere M).toInt = (zhere M).toInt).trans w348) (by decide) rfl (pc2 := 333) rfl ?_
          refine zs_aload_n (pc := 333) t237_333 rfl ?_
          refine zs_aload_n (pc := 334) t237_334 rfl ?_
          refine zs_get (pc := 335) t237_335 (by decide) (zk1 (hs.k fk_zMm_336)) (zfvi rfl zIs) ?_
          refine zs_iconst (pc := 338) t237_338 (v := 1) (by decide) ?_
          obtain ⟨w349v, w349e, w349⟩ := zisub (a := w24v) (b := (1 : Int32)) w24 li1 (by omega) (by omega)
          refine zs_isub (pc := 339) t237_339 (c := w349v) w349e ?_
          refine zs_invV (pc := 340) (k := 336) (as' := [.int w349v]) (st := []) t237_340 mf239 rfl rfl (Or.inl ⟨by decide, (zk1 (hs.k fk_zMm_336))⟩) ⟨by decide, by decide, Nat.le_of_ble_eq_true rfl, Nat.le_of_ble_eq_true rfl⟩ (zs_in (by decide) mf239 (Nat.le_of_ble_eq_true rfl) ?_) (fun _ _ q => q)
          show zGo X l 0 0 0 239 0 [(0, .ref 336), (1, .int w349v)] [] (zsI M 336 6 w24v) _
          refine zs_aload_n (pc := 0) t239_0 rfl ?_
          refine zs_iload_n (pc := 1) t239_1 rfl ?_
          have w350 : zIv mLo mHi (zsI (zsI M 336 6 w24v) 336 7 w349v) := zIv.put w25 (show (-1) ≤ w349v.toInt ∧ w349v.toInt ≤ 500 from ⟨by omega, by omega⟩)
          refine zs_putI (pc := 2) t239_2 (zk1 (hs.k fk_zMm_336)) rfl ?_
          refine zs_iconst (pc := 5) t239_5 (v := 0) (by decide) ?_
          refine zs_iret (pc := 6) t239_6 mr239 (by decide) ?_
          show zGo X l 5 0 0 237 343 [(1, .int (zhere M)), (0, .ref 336)] [.int (0 : Int32)] (zsI (zsI M 336 6 w24v) 336 7 w349v) _
          have w351 : (0 : Int32).toInt = 0 := li0
          have w352 : (zI (zsI (zsI M 336 6 w24v) 336 7 w349v) 336 6).toInt = ((zI M 336 6).toInt + 1) := (congrArg Int32.toInt ((zIoj (by decide)).trans zIs)).trans w24
          have w353 : (zI (zsI (zsI M 336 6 w24v) 336 7 w349v) 336 7).toInt = (((zI M 336 6).toInt + 1) - 1) := (congrArg Int32.toInt zIs).trans w349
          have w354 := li0
          have w355 : (zI (zsI (zsI M 336 6 w24v) 336 7 w349v) 336 6).toInt = ((zI M 336 6).toInt + 1) := (congrArg Int32.toInt ((zIoj (by decide)).trans zIs)).trans w24
          have w356 : (zI (zsI (zsI M 336 6 w24v) 336 7 w349v) 336 7).toInt = (((zI M 336 6).toInt + 1) - 1) := (congrArg Int32.toInt zIs).trans w349
          exact zs_iret (pc := 343) t237_343 mr237 (by decide) (hQ _ _ hs w350 (((zFr.refl).put rfl).put rfl) rfl (((zUp.refl).put (Or.inl (by decide))).put (Or.inl (by decide))) (zPR.fr (M' := (zsI (zsI M 336 6 w24v) 336 7 w349v)) (zPR.fr (M' := (zsI M 336 6 w24v)) pR (zEq.put rfl)) (zEq.put rfl)) (zPC.fr (M' := (zsI (zsI M 336 6 w24v) 336 7 w349v)) (zPC.fr (M' := (zsI M 336 6 w24v)) pC (zEq.put rfl)) (zEq.put rfl)) (by omega) (fun p hp => by
              obtain rfl : w7n = p := (by omega)
              exact Or.inr ⟨by first | decide | omega, by omega, (by first | exact pIt.r0 (by omega) (by omega) | exact pIt.h0 (by omega) (by omega) | exact pIt.p0 (by omega) (by omega) | exact pIt.no (by omega))⟩) (by decide) (by decide))
        by_cases w357 : (zhere M).toInt = 119
        · refine zs_tswI (pc := 76) t237_76 ((rfl : (zhere M).toInt = (zhere M).toInt).trans w357) (by decide) rfl (pc2 := 255) rfl ?_
          refine zs_aload_n (pc := 255) t237_255 rfl ?_
          refine zs_bipush (pc := 256) t237_256 (v := 10) (by decide) ?_
          refine zs_iconst (pc := 258) t237_258 (v := 0) (by decide) ?_
          refine zs_sipush (pc := 259) t237_259 (v := 999) (by decide) ?_
          refine zs_bipush (pc := 262) t237_262 (v := 44) (by decide) ?_
          have w358 : (zI (zsI M 336 6 w24v) 336 6).toInt = ((zI M 336 6).toInt + 1) := (congrArg Int32.toInt zIs).trans w24
          have w359 : (10 : Int32).toInt = 10 := li10
          have w360 : (0 : Int32).toInt = 0 := li0
          have w361 : (999 : Int32).toInt = 999 := li999
          have w362 : (44 : Int32).toInt = 44 := li44
          have w363 : (zI (zsI M 336 6 w24v) 337 0).toInt = (zI M 337 0).toInt := (congrArg Int32.toInt ((zIo (by decide)).trans rfl)).trans rfl
          have w364 : (zI (zsI M 336 6 w24v) 336 6).toInt = ((zI M 336 6).toInt + 1) := (congrArg Int32.toInt zIs).trans w24
          have w365 : (zI (zsI M 336 6 w24v) 336 5).toInt = (zI M 336 5).toInt := (congrArg Int32.toInt ((zIoj (by decide)).trans rfl)).trans rfl
          have w366 : (zI (zsI M 336 6 w24v) 337 1).toInt = (zI M 337 1).toInt := (congrArg Int32.toInt ((zIo (by decide)).trans rfl)).trans rfl
          have w367 : (zI (zsI M 336 6 w24v) 336 7).toInt = (zI M 336 7).toInt := (congrArg Int32.toInt ((zIoj (by decide)).trans rfl)).trans rfl
          have w368 : (zI (zsI M 336 6 w24v) 337 1).toInt = (zI M 337 1).toInt := (congrArg Int32.toInt ((zIo (by decide)).trans rfl)).trans rfl
          have w369 : (zI (zsI M 336 6 w24v) 336 7).toInt = (zI M 336 7).toInt := (congrArg Int32.toInt ((zIoj (by decide)).trans rfl)).trans rfl
          have w370 : (zI (zsI M 336 6 w24v) 337 0).toInt = (zI M 337 0).toInt := (congrArg Int32.toInt ((zIo (by decide)).trans rfl)).trans rfl
          have w371 : (zI (zsI M 336 6 w24v) 336 6).toInt = ((zI M 336 6).toInt + 1) := (congrArg Int32.toInt zIs).trans w24
          have w372 : (zI (zsI M 336 6 w24v) 337 2).toInt = (zI M 337 2).toInt := (congrArg Int32.toInt ((zIo (by decide)).trans rfl)).trans rfl
          refine zs_invV (pc := 264) (k := 336) (as' := [.int (10 : Int32), .int (0 : Int32), .int (999 : Int32), .int (44 : Int32)]) (st := []) t237_264 mf242 rfl rfl (Or.inl ⟨by decide, (zk1 (hs.k fk_zMm_336))⟩) ⟨by decide, by decide, Nat.le_of_ble_eq_true rfl, Nat.le_of_ble_eq_true rfl⟩ (R242 hs w25 (zPR.fr (M' := (zsI M 336 6 w24v)) pR (zEq.put rfl)) (zPC.fr (M' := (zsI M 336 6 w24v)) pC (zEq.put rfl)) ⟨by decide, by decide⟩ ⟨by decide, by decide⟩ (by omega) (by omega) (by omega) (by omega) (by omega) (show 0 ≤ (0 : Int32).toInt ∧ (999 : Int32).toInt ≤ 999 from ⟨by omega, by omega⟩) (zRw.fr' x0 (fun j hj => (zIo (by decide)))) (zTm.mk x1 (fun j => (zIo (by decide))) (zIoj (by decide))) ?_) (fun _ _ q => q)
          intro w373M w373v w373s w373I w373F w373J w373U w373PR w373PC w373t0 w373t1 w373t2 w373t3 w373t4 w373x0 w373x1 w373x2 w373a w373b
          have w374 := ibA0 w373I
          have w375 := ib336_6 w373I
          have w376 := ibA2 w373I
          have w377 := ibA1 w373I
          have w378 := ib336_7 w373I
          show zGo X l 5 0 0 237 267 [(1, .int (zhere M)), (0, .ref 336)] [.int w373v] w373M _
          have w380 : (10 : Int32).toInt = 10 := li10
          have w381 : (0 : Int32).toInt = 0 := li0
          have w382 : (999 : Int32).toInt = 999 := li999
          have w383 : (44 : Int32).toInt = 44 := li44
          rcases w373x2 (w7n + 1) (by omega) with ⟨w379v, w379q, w379x, w379_1, w379_2, w379_3, w379_4, w379_5, w379_6, w379_7, w379r⟩ | ⟨w379v, w379_5, w379z⟩
          · skip
            rw [show (10 : Int32).toInt.toNat = 10 by decide] at w379r
            refine zs_if_eqF (pc := 267) t237_267 rfl (by omega) ?_
            refine zs_aload_n (pc := 270) t237_270 rfl ?_
            refine zs_bipush (pc := 271) t237_271 (v := 11) (by decide) ?_
            refine zs_aload_n (pc := 273) t237_273 rfl ?_
            refine zs_get (pc := 274) t237_274 (by decide) (zk1 (w373s.k fk_zMm_336)) (w373s.p rfl fv_zMm_336_0) ?_
            refine zs_bipush (pc := 277) t237_277 (v := 10) (by decide) ?_
            have w384 := ibA10 w373I
            have w385 : (zI w373M 337 10).toInt = (uS F 10 w379x) 10 := w379r.at (by decide) (by decide) (by decide)
            have w386 : (uS F 10 w379x) 10 = w379x := uS.s
            refine zs_iald (pc := 279) t237_279 (j := 10) (by decide) (zk1 (w373s.k fk_zMm_337)) li10 (zk2 (w373s.k fk_zMm_337) (by decide)) rfl ?_
            refine zs_sipush (pc := 280) t237_280 (v := 999) (by decide) ?_
            refine zs_bipush (pc := 283) t237_283 (v := 59) (by decide) ?_
            have w387 : (zI w373M 336 6).toInt = (zI w373M 336 6).toInt := (congrArg Int32.toInt rfl).trans rfl
            have w388 : (11 : Int32).toInt = 11 := li11
            have w389 : (999 : Int32).toInt = 999 := li999
            have w390 : (59 : Int32).toInt = 59 := li59
            have w391 : (zI w373M 337 0).toInt = (zI w373M 337 0).toInt := (congrArg Int32.toInt rfl).trans rfl
            have w392 : (zI w373M 336 6).toInt = (zI w373M 336 6).toInt := (congrArg Int32.toInt rfl).trans rfl
            have w393 : (zI w373M 336 5).toInt = (zI M 336 5).toInt := (congrArg Int32.toInt ((w373F 336 5 rfl).trans ((zIoj (by decide)).trans rfl))).trans rfl
            have w394 : (zI w373M 337 1).toInt = (zI w373M 337 1).toInt := (congrArg Int32.toInt rfl).trans rfl
            have w395 : (zI w373M 336 7).toInt = (zI w373M 336 7).toInt := (congrArg Int32.toInt rfl).trans rfl
            have w396 : (zI w373M 337 1).toInt = (zI w373M 337 1).toInt := (congrArg Int32.toInt rfl).trans rfl
            have w397 : (zI w373M 336 7).toInt = (zI w373M 336 7).toInt := (congrArg Int32.toInt rfl).trans rfl
            have w398 : (zI w373M 337 0).toInt = (zI w373M 337 0).toInt := (congrArg Int32.toInt rfl).trans rfl
            have w399 : (zI w373M 336 6).toInt = (zI w373M 336 6).toInt := (congrArg Int32.toInt rfl).trans rfl
            have w400 : (zI w373M 337 2).toInt = (zI w373M 337 2).toInt := (congrArg Int32.toInt rfl).trans rfl
            refine zs_invV (pc := 285) (k := 336) (as' := [.int (11 : Int32), .int (zI w373M 337 10), .int (999 : Int32), .int (59 : Int32)]) (st := []) t237_285 mf242 rfl rfl (Or.inl ⟨by decide, (zk1 (w373s.k fk_zMm_336))⟩) ⟨by decide, by decide, Nat.le_of_ble_eq_true rfl, Nat.le_of_ble_eq_true rfl⟩ (R242 w373s w373I w373PR w373PC ⟨by decide, by decide⟩ ⟨by decide, by decide⟩ (by omega) (by omega) (by omega) (by omega) (by omega) (show 0 ≤ (zI w373M 337 10).toInt ∧ (999 : Int32).toInt ≤ 999 from ⟨by omega, by omega⟩) w379r (zTm.mk x1 (fun j => ((w373F 339 j rfl).trans (zIo (by decide)))) ((w373F 336 5 rfl).trans (zIoj (by decide)))) ?_) (fun _ _ q => q)
            intro w401M w401v w401s w401I w401F w401J w401U w401PR w401PC w401t0 w401t1 w401t2 w401t3 w401t4 w401x0 w401x1 w401x2 w401a w401b
            have w402 := ibA0 w401I
            have w403 := ib336_6 w401I
            have w404 := ibA2 w401I
            have w405 := ibA1 w401I
            have w406 := ib336_7 w401I
            show zGo X l 5 0 0 237 288 [(1, .int (zhere M)), (0, .ref 336)] [.int w401v] w401M _
            have w408 : (11 : Int32).toInt = 11 := li11
            have w409 : (999 : Int32).toInt = 999 := li999
            have w410 : (59 : Int32).toInt = 59 := li59
            rcases w401x2 w379q (by omega) with ⟨w407v, w407q, w407x, w407_1, w407_2, w407_3, w407_4, w407_5, w407_6, w407_7, w407r⟩ | ⟨w407v, w407_5, w407z⟩
            · skip
              rw [show (11 : Int32).toInt.toNat = 11 by decide] at w407r
              refine zs_if_eqF (pc := 288) t237_288 rfl (by omega) ?_
              refine zs_iconst (pc := 291) t237_291 (v := 1) (by decide) ?_
              refine zs_goto (pc := 292) t237_292 ?_
              have w411 : (1 : Int32).toInt = 1 := li1
              have w412 : (zI w401M 336 6).toInt = (zI w401M 336 6).toInt := (congrArg Int32.toInt rfl).trans rfl
              have w413 : (zI w401M 336 7).toInt = (zI w401M 336 7).toInt := (congrArg Int32.toInt rfl).trans rfl
              have w414 := li1
              have w415 : (zI w401M 336 6).toInt = (zI w401M 336 6).toInt := (congrArg Int32.toInt rfl).trans rfl
              have w416 : (zI w401M 336 7).toInt = (zI w401M 336 7).toInt := (congrArg Int32.toInt rfl).trans rfl
              exact zs_iret (pc := 296) t237_296 mr237 (by decide) (hQ _ _ w401s w401I ((((zFr.refl).put rfl).trans (w373F.mono rfl)).trans (w401F.mono rfl)) (w401J.trans w373J) ((((zUp.refl).put (Or.inl (by decide))).trans w373U).trans w401U) w401PR w401PC (by omega) (fun p hp => by
                  obtain rfl : w7n = p := (by omega)
                  exact Or.inl ⟨by first | decide | omega, w407q, _, (((pIt.w (by omega)).trans (pB.y (by have z := w379_1; rw [show (0 : Int32).toInt = 0 by first | decide | omega, show (999 : Int32).toInt = 999 by first | decide | omega, show (44 : Int32).toInt = 44 by first | decide | omega] at z; exact z))).trans (pB.y (by have z := w407_1; rw [show (zI w373M 337 10).toInt = w379x by first | decide | omega, show (999 : Int32).toInt = 999 by first | decide | omega, show (59 : Int32).toInt = 59 by first | decide | omega] at z; exact z))), by omega, by omega, by omega, by omega, w407r, x2.ww (by omega)⟩) (by decide) (by decide))
            · skip
              refine zs_if_eqT (pc := 288) t237_288 rfl (by omega) ?_
              refine zs_iconst (pc := 295) t237_295 (v := 0) (by decide) ?_
              have w417 : (0 : Int32).toInt = 0 := li0
              have w418 : (zI w401M 336 6).toInt = (zI w401M 336 6).toInt := (congrArg Int32.toInt rfl).trans rfl
              have w419 : (zI w401M 336 7).toInt = (zI w401M 336 7).toInt := (congrArg Int32.toInt rfl).trans rfl
              have w420 := li0
              have w421 : (zI w401M 336 6).toInt = (zI w401M 336 6).toInt := (congrArg Int32.toInt rfl).trans rfl
              have w422 : (zI w401M 336 7).toInt = (zI w401M 336 7).toInt := (congrArg Int32.toInt rfl).trans rfl
              exact zs_iret (pc := 296) t237_296 mr237 (by decide) (hQ _ _ w401s w401I ((((zFr.refl).put rfl).trans (w373F.mono rfl)).trans (w401F.mono rfl)) (w401J.trans w373J) ((((zUp.refl).put (Or.inl (by decide))).trans w373U).trans w401U) w401PR w401PC (by omega) (fun p hp => by
                  obtain rfl : w7n = p := (by omega)
                  exact Or.inr ⟨by first | decide | omega, by omega, (((pIt.w (by omega)).trans (pB.y (by have z := w379_1; rw [show (0 : Int32).toInt = 0 by first | decide | omega, show (999 : Int32).toInt = 999 by first | decide | omega, show (44 : Int32).toInt = 44 by first | decide | omega] at z; exact z))).trans (pB.f (by have z := w407z; rw [show (zI w373M 337 10).toInt = w379x by first | decide | omega, show (999 : Int32).toInt = 999 by first | decide | omega, show (59 : Int32).toInt = 59 by first | decide | omega] at z; exact z)))⟩) (by decide) (by decide))
          · skip
            refine zs_if_eqT (pc := 267) t237_267 rfl (by omega) ?_
            refine zs_iconst (pc := 295) t237_295 (v := 0) (by decide) ?_
            have w423 : (0 : Int32).toInt = 0 := li0
            have w424 : (zI w373M 336 6).toInt = (zI w373M 336 6).toInt := (congrArg Int32.toInt rfl).trans rfl
            have w425 : (zI w373M 336 7).toInt = (zI w373M 336 7).toInt := (congrArg Int32.toInt rfl).trans rfl
            have w426 := li0
            have w427 : (zI w373M 336 6).toInt = (zI w373M 336 6).toInt := (congrArg Int32.toInt rfl).trans rfl
            have w428 : (zI w373M 336 7).toInt = (zI w373M 336 7).toInt := (congrArg Int32.toInt rfl).trans rfl
            exact zs_iret (pc := 296) t237_296 mr237 (by decide) (hQ _ _ w373s w373I (((zFr.refl).put rfl).trans (w373F.mono rfl)) w373J (((zUp.refl).put (Or.inl (by decide))).trans w373U) w373PR w373PC (by omega) (fun p hp => by
                obtain rfl : w7n = p := (by omega)
                exact Or.inr ⟨by first | decide | omega, by omega, ((pIt.w (by omega)).trans (pB.f (by have z := w379z; rw [show (0 : Int32).toInt = 0 by first | decide | omega, show (999 : Int32).toInt = 999 by first | decide | omega, show (44 : Int32).toInt = 44 by first | decide | omega] at z; exact z)))⟩) (by decide) (by decide))
        refine zs_tswD (pc := 76) t237_76 rfl (by omega) (pc2 := 333) rfl ?_
        refine zs_aload_n (pc := 333) t237_333 rfl ?_
        refine zs_aload_n (pc := 334) t237_334 rfl ?_
        refine zs_get (pc := 335) t237_335 (by decide) (zk1 (hs.k fk_zMm_336)) (zfvi rfl zIs) ?_
        refine zs_iconst (pc := 338) t237_338 (v := 1) (by decide) ?_
        obtain ⟨w429v, w429e, w429⟩ := zisub (a := w24v) (b := (1 : Int32)) w24 li1 (by omega) (by omega)
        refine zs_isub (pc := 339) t237_339 (c := w429v) w429e ?_
        refine zs_invV (pc := 340) (k := 336) (as' := [.int w429v]) (st := []) t237_340 mf239 rfl rfl (Or.inl ⟨by decide, (zk1 (hs.k fk_zMm_336))⟩) ⟨by decide, by decide, Nat.le_of_ble_eq_true rfl, Nat.le_of_ble_eq_true rfl⟩ (zs_in (by decide) mf239 (Nat.le_of_ble_eq_true rfl) ?_) (fun _ _ q => q)
        show zGo X l 0 0 0 239 0 [(0, .ref 336), (1, .int w429v)] [] (zsI M 336 6 w24v) _
        refine zs_aload_n (pc := 0) t239_0 rfl ?_
        refine zs_iload_n (pc := 1) t239_1 rfl ?_
        have w430 : zIv mLo mHi (zsI (zsI M 336 6 w24v) 336 7 w429v) := zIv.put w25 (show (-1) ≤ w429v.toInt ∧ w429v.toInt ≤ 500 from ⟨by omega, by omega⟩)
        refine zs_putI (pc := 2) t239_2 (zk1 (hs.k fk_zMm_336)) rfl ?_
        refine zs_iconst (pc := 5) t239_5 (v := 0) (by decide) ?_
        refine zs_iret (pc := 6) t239_6 mr239 (by decide) ?_
        show zGo X l 5 0 0 237 343 [(1, .int (zhere M)), (0, .ref 336)] [.int (0 : Int32)] (zsI (zsI M 336 6 w24v) 336 7 w429v) _
        have w431 : (0 : Int32).toInt = 0 := li0
        have w432 : (zI (zsI (zsI M 336 6 w24v) 336 7 w429v) 336 6).toInt = ((zI M 336 6).toInt + 1) := (congrArg Int32.toInt ((zIoj (by decide)).trans zIs)).trans w24
        have w433 : (zI (zsI (zsI M 336 6 w24v) 336 7 w429v) 336 7).toInt = (((zI M 336 6).toInt + 1) - 1) := (congrArg Int32.toInt zIs).trans w429
        have w434 := li0
        have w435 : (zI (zsI (zsI M 336 6 w24v) 336 7 w429v) 336 6).toInt = ((zI M 336 6).toInt + 1) := (congrArg Int32.toInt ((zIoj (by decide)).trans zIs)).trans w24
        have w436 : (zI (zsI (zsI M 336 6 w24v) 336 7 w429v) 336 7).toInt = (((zI M 336 6).toInt + 1) - 1) := (congrArg Int32.toInt zIs).trans w429
        exact zs_iret (pc := 343) t237_343 mr237 (by decide) (hQ _ _ hs w430 (((zFr.refl).put rfl).put rfl) rfl (((zUp.refl).put (Or.inl (by decide))).put (Or.inl (by decide))) (zPR.fr (M' := (zsI (zsI M 336 6 w24v) 336 7 w429v)) (zPR.fr (M' := (zsI M 336 6 w24v)) pR (zEq.put rfl)) (zEq.put rfl)) (zPC.fr (M' := (zsI (zsI M 336 6 w24v) 336 7 w429v)) (zPC.fr (M' := (zsI M 336 6 w24v)) pC (zEq.put rfl)) (zEq.put rfl)) (by omega) (fun p hp => by
            obtain rfl : w7n = p := (by omega)
            exact Or.inr ⟨by first | decide | omega, by omega, (by first | exact pIt.r0 (by omega) (by omega) | exact pIt.h0 (by omega) (by omega) | exact pIt.p0 (by omega) (by omega) | exact pIt.no (by omega))⟩) (by decide) (by decide))
      · refine zs_icmp_neF (pc := 42) t237_42 rfl li112 (by omega) ?_
        refine zs_aload_n (pc := 45) t237_45 rfl ?_
        refine zs_get (pc := 46) t237_46 (by decide) (zk1 (hs.k fk_zMm_336)) (hs.p rfl fv_zMm_336_0) ?_
        refine zs_iconst (pc := 49) t237_49 (v := 2) (by decide) ?_
        have w437 : (zI M 337 2).toInt = F 2 := x0.at (by decide) (by decide) (by decide)
        refine zs_iald (pc := 50) t237_50 (j := 2) (by decide) (zk1 (hs.k fk_zMm_337)) li2 (zk2 (hs.k fk_zMm_337) (by decide)) rfl ?_
        refine zs_bipush (pc := 51) t237_51 (v := 12) (by decide) ?_
        by_cases w438 : (zI M 337 2).toInt ≠ 12
        · refine zs_icmp_neT (pc := 53) t237_53 rfl li12 (by omega) ?_
          refine zs_aload_n (pc := 65) t237_65 rfl ?_
          refine zs_dup (pc := 66) t237_66 rfl ?_
          refine zs_get (pc := 67) t237_67 (by decide) (zk1 (hs.k fk_zMm_336)) (zfvi rfl rfl) ?_
          refine zs_iconst (pc := 70) t237_70 (v := 1) (by decide) ?_
          obtain ⟨w439v, w439e, w439⟩ := ziadd (a := (zI M 336 6)) (b := (1 : Int32)) rfl li1 (by omega) (by omega)
          refine zs_iadd (pc := 71) t237_71 (c := w439v) w439e ?_
          have w440 : zIv mLo mHi (zsI M 336 6 w439v) := zIv.put hI (show 0 ≤ w439v.toInt ∧ w439v.toInt ≤ 500 from ⟨by omega, by omega⟩)
          refine zs_putI (pc := 72) t237_72 (zk1 (hs.k fk_zMm_336)) rfl ?_
          refine zs_iload_n (pc := 75) t237_75 rfl ?_
          by_cases w441 : (zhere M).toInt = 112
          · refine zs_tswI (pc := 76) t237_76 ((rfl : (zhere M).toInt = (zhere M).toInt).trans w441) (by decide) rfl (pc2 := 170) rfl ?_
            refine zs_aload_n (pc := 170) t237_170 rfl ?_
            refine zs_aload_n (pc := 171) t237_171 rfl ?_
            refine zs_get (pc := 172) t237_172 (by decide) (zk1 (hs.k fk_zMm_336)) (zfvi rfl zIs) ?_
            refine zs_iconst (pc := 175) t237_175 (v := 1) (by decide) ?_
            obtain ⟨w442v, w442e, w442⟩ := zisub (a := w439v) (b := (1 : Int32)) w439 li1 (by omega) (by omega)
            refine zs_isub (pc := 176) t237_176 (c := w442v) w442e ?_
            have w443 : (zI (zsI M 336 6 w439v) 336 6).toInt = ((zI M 336 6).toInt + 1) := (congrArg Int32.toInt zIs).trans w439
            have w444 : w442v.toInt = (((zI M 336 6).toInt + 1) - 1) := w442
            have w445 : (zI (zsI M 336 6 w439v) 336 7).toInt = (zI M 336 7).toInt := (congrArg Int32.toInt ((zIoj (by decide)).trans rfl)).trans rfl
            have w446 : (zI (zsI M 336 6 w439v) 336 6).toInt = ((zI M 336 6).toInt + 1) := (congrArg Int32.toInt zIs).trans w439
            have w447 : (zI (zsI M 336 6 w439v) 336 5).toInt = (zI M 336 5).toInt := (congrArg Int32.toInt ((zIoj (by decide)).trans rfl)).trans rfl
            have w448 : (zI (zsI M 336 6 w439v) 337 2).toInt = (zI M 337 2).toInt := (congrArg Int32.toInt ((zIo (by decide)).trans rfl)).trans rfl
            have w449 : (zI (zsI M 336 6 w439v) 336 6).toInt = ((zI M 336 6).toInt + 1) := (congrArg Int32.toInt zIs).trans w439
            have w450 : (zI (zsI M 336 6 w439v) 336 7).toInt = (zI M 336 7).toInt := (congrArg Int32.toInt ((zIoj (by decide)).trans rfl)).trans rfl
            refine zs_invV (pc := 177) (k := 336) (as' := [.int w442v]) (st := []) t237_177 mf248 rfl rfl (Or.inl ⟨by decide, (zk1 (hs.k fk_zMm_336))⟩) ⟨by decide, by decide, Nat.le_of_ble_eq_true rfl, Nat.le_of_ble_eq_true rfl⟩ (R248 hs w440 (zPR.fr (M' := (zsI M 336 6 w439v)) pR (zEq.put rfl)) (zPC.fr (M' := (zsI M 336 6 w439v)) pC (zEq.put rfl)) ⟨by omega, by omega⟩ (by omega) (by omega) (by omega) (by omega) (zRw.fr' x0 (fun j hj => (zIo (by decide)))) (zTm.mk x1 (fun j => (zIo (by decide))) (zIoj (by decide))) x2 ?_) (fun _ _ q => q)
            intro w451M w451v w451s w451I w451F w451J w451U w451PR w451PC w451t0 w451t1 w451x0 w451a w451b
            have w452 := ib336_6 w451I
            have w453 := ib336_7 w451I
            show zGo X l 5 0 0 237 180 [(1, .int (zhere M)), (0, .ref 336)] [.int w451v] w451M _
            have w454 : (zI w451M 336 6).toInt = (zI w451M 336 6).toInt := (congrArg Int32.toInt rfl).trans rfl
            have w455 : (zI w451M 336 7).toInt = (zI w451M 336 7).toInt := (congrArg Int32.toInt rfl).trans rfl
            have w456 : (zI w451M 336 6).toInt = (zI w451M 336 6).toInt := (congrArg Int32.toInt rfl).trans rfl
            have w457 : (zI w451M 336 7).toInt = (zI w451M 336 7).toInt := (congrArg Int32.toInt rfl).trans rfl
            exact zs_iret (pc := 180) t237_180 mr237 (zfb01 (by omega)) (hQ _ _ w451s w451I (((zFr.refl).put rfl).trans (w451F.mono rfl)) w451J (((zUp.refl).put (Or.inl (by decide))).trans w451U) w451PR w451PC (by omega) (fun p hp => by
                obtain rfl : w7n = p := (by omega)
                rcases w451x0 (w7n + 1) (by omega) with ⟨q1, q, F2, q2, q3, q4, q5, q6, q7, q8⟩ | ⟨q1, q2, q3⟩
                · exact Or.inl ⟨by omega, q, F2, (pIt.p (by omega) (by omega)).trans q2, by omega, by omega, by omega, by omega, q7, q8⟩
                · exact Or.inr ⟨by omega, by omega, (pIt.p (by omega) (by omega)).trans q3⟩) (by omega) (by omega))
          refine zs_tswD (pc := 76) t237_76 rfl (by omega) (pc2 := 333) rfl ?_
          refine zs_aload_n (pc := 333) t237_333 rfl ?_
          refine zs_aload_n (pc := 334) t237_334 rfl ?_
          refine zs_get (pc := 335) t237_335 (by decide) (zk1 (hs.k fk_zMm_336)) (zfvi rfl zIs) ?_
          refine zs_iconst (pc := 338) t237_338 (v := 1) (by decide) ?_
          obtain ⟨w458v, w458e, w458⟩ := zisub (a := w439v) (b := (1 : Int32)) w439 li1 (by omega) (by omega)
          refine zs_isub (pc := 339) t237_339 (c := w458v) w458e ?_
          refine zs_invV (pc := 340) (k := 336) (as' := [.int w458v]) (st := []) t237_340 mf239 rfl rfl (Or.inl ⟨by decide, (zk1 (hs.k fk_zMm_336))⟩) ⟨by decide, by decide, Nat.le_of_ble_eq_true rfl, Nat.le_of_ble_eq_true rfl⟩ (zs_in (by decide) mf239 (Nat.le_of_ble_eq_true rfl) ?_) (fun _ _ q => q)
          show zGo X l 0 0 0 239 0 [(0, .ref 336), (1, .int w458v)] [] (zsI M 336 6 w439v) _
          refine zs_aload_n (pc := 0) t239_0 rfl ?_
          refine zs_iload_n (pc := 1) t239_1 rfl ?_
          have w459 : zIv mLo mHi (zsI (zsI M 336 6 w439v) 336 7 w458v) := zIv.put w440 (show (-1) ≤ w458v.toInt ∧ w458v.toInt ≤ 500 from ⟨by omega, by omega⟩)
          refine zs_putI (pc := 2) t239_2 (zk1 (hs.k fk_zMm_336)) rfl ?_
          refine zs_iconst (pc := 5) t239_5 (v := 0) (by decide) ?_
          refine zs_iret (pc := 6) t239_6 mr239 (by decide) ?_
          show zGo X l 5 0 0 237 343 [(1, .int (zhere M)), (0, .ref 336)] [.int (0 : Int32)] (zsI (zsI M 336 6 w439v) 336 7 w458v) _
          have w460 : (0 : Int32).toInt = 0 := li0
          have w461 : (zI (zsI (zsI M 336 6 w439v) 336 7 w458v) 336 6).toInt = ((zI M 336 6).toInt + 1) := (congrArg Int32.toInt ((zIoj (by decide)).trans zIs)).trans w439
          have w462 : (zI (zsI (zsI M 336 6 w439v) 336 7 w458v) 336 7).toInt = (((zI M 336 6).toInt + 1) - 1) := (congrArg Int32.toInt zIs).trans w458
          have w463 := li0
          have w464 : (zI (zsI (zsI M 336 6 w439v) 336 7 w458v) 336 6).toInt = ((zI M 336 6).toInt + 1) := (congrArg Int32.toInt ((zIoj (by decide)).trans zIs)).trans w439
          have w465 : (zI (zsI (zsI M 336 6 w439v) 336 7 w458v) 336 7).toInt = (((zI M 336 6).toInt + 1) - 1) := (congrArg Int32.toInt zIs).trans w458
          exact zs_iret (pc := 343) t237_343 mr237 (by decide) (hQ _ _ hs w459 (((zFr.refl).put rfl).put rfl) rfl (((zUp.refl).put (Or.inl (by decide))).put (Or.inl (by decide))) (zPR.fr (M' := (zsI (zsI M 336 6 w439v) 336 7 w458v)) (zPR.fr (M' := (zsI M 336 6 w439v)) pR (zEq.put rfl)) (zEq.put rfl)) (zPC.fr (M' := (zsI (zsI M 336 6 w439v) 336 7 w458v)) (zPC.fr (M' := (zsI M 336 6 w439v)) pC (zEq.put rfl)) (zEq.put rfl)) (by omega) (fun p hp => by
              obtain rfl : w7n = p := (by omega)
              exact Or.inr ⟨by first | decide | omega, by omega, (by first | exact pIt.r0 (by omega) (by omega) | exact pIt.h0 (by omega) (by omega) | exact pIt.p0 (by omega) (by omega) | exact pIt.no (by omega))⟩) (by decide) (by decide))
        · refine zs_icmp_neF (pc := 53) t237_53 rfl li12 (by omega) ?_
          refine zs_aload_n (pc := 56) t237_56 rfl ?_
          refine zs_aload_n (pc := 57) t237_57 rfl ?_
          refine zs_get (pc := 58) t237_58 (by decide) (zk1 (hs.k fk_zMm_336)) (zfvi rfl rfl) ?_
          refine zs_invV (pc := 61) (k := 336) (as' := [.int (zI M 336 6)]) (st := []) t237_61 mf239 rfl rfl (Or.inl ⟨by decide, (zk1 (hs.k fk_zMm_336))⟩) ⟨by decide, by decide, Nat.le_of_ble_eq_true rfl, Nat.le_of_ble_eq_true rfl⟩ (zs_in (by decide) mf239 (Nat.le_of_ble_eq_true rfl) ?_) (fun _ _ q => q)
          show zGo X l 0 0 0 239 0 [(0, .ref 336), (1, .int (zI M 336 6))] [] M _
          refine zs_aload_n (pc := 0) t239_0 rfl ?_
          refine zs_iload_n (pc := 1) t239_1 rfl ?_
          have w466 : zIv mLo mHi (zsI M 336 7 (zI M 336 6)) := zIv.put hI (show (-1) ≤ (zI M 336 6).toInt ∧ (zI M 336 6).toInt ≤ 500 from ⟨by omega, by omega⟩)
          refine zs_putI (pc := 2) t239_2 (zk1 (hs.k fk_zMm_336)) rfl ?_
          refine zs_iconst (pc := 5) t239_5 (v := 0) (by decide) ?_
          refine zs_iret (pc := 6) t239_6 mr239 (by decide) ?_
          show zGo X l 5 0 0 237 64 [(1, .int (zhere M)), (0, .ref 336)] [.int (0 : Int32)] (zsI M 336 7 (zI M 336 6)) _
          have w467 : (0 : Int32).toInt = 0 := li0
          have w468 : (zI (zsI M 336 7 (zI M 336 6)) 336 6).toInt = (zI M 336 6).toInt := (congrArg Int32.toInt ((zIoj (by decide)).trans rfl)).trans rfl
          have w469 : (zI (zsI M 336 7 (zI M 336 6)) 336 7).toInt = (zI M 336 6).toInt := (congrArg Int32.toInt zIs).trans rfl
          have w470 := li0
          have w471 : (zI (zsI M 336 7 (zI M 336 6)) 336 6).toInt = (zI M 336 6).toInt := (congrArg Int32.toInt ((zIoj (by decide)).trans rfl)).trans rfl
          have w472 : (zI (zsI M 336 7 (zI M 336 6)) 336 7).toInt = (zI M 336 6).toInt := (congrArg Int32.toInt zIs).trans rfl
          exact zs_iret (pc := 64) t237_64 mr237 (by decide) (hQ _ _ hs w466 ((zFr.refl).put rfl) rfl ((zUp.refl).put (Or.inl (by decide))) (zPR.fr (M' := (zsI M 336 7 (zI M 336 6))) pR (zEq.put rfl)) (zPC.fr (M' := (zsI M 336 7 (zI M 336 6))) pC (zEq.put rfl)) (by omega) (fun p hp => by
              obtain rfl : w7n = p := (by omega)
              exact Or.inr ⟨by first | decide | omega, by omega, (by first | exact pIt.r0 (by omega) (by omega) | exact pIt.h0 (by omega) (by omega) | exact pIt.p0 (by omega) (by omega) | exact pIt.no (by omega))⟩) (by decide) (by decide))
    · refine zs_icmp_neF (pc := 25) t237_25 rfl li104 (by omega) ?_
      refine zs_aload_n (pc := 28) t237_28 rfl ?_
      refine zs_get (pc := 29) t237_29 (by decide) (zk1 (hs.k fk_zMm_336)) (hs.p rfl fv_zMm_336_0) ?_
      refine zs_iconst (pc := 32) t237_32 (v := 1) (by decide) ?_
      have w473 : (zI M 337 1).toInt = F 1 := x0.at (by decide) (by decide) (by decide)
      refine zs_iald (pc := 33) t237_33 (j := 1) (by decide) (zk1 (hs.k fk_zMm_337)) li1 (zk2 (hs.k fk_zMm_337) (by decide)) rfl ?_
      refine zs_bipush (pc := 34) t237_34 (v := 60) (by decide) ?_
      by_cases w474 : (zI M 337 1).toInt = 60
      · refine zs_icmp_eqT (pc := 36) t237_36 rfl li60 (by omega) ?_
        refine zs_aload_n (pc := 56) t237_56 rfl ?_
        refine zs_aload_n (pc := 57) t237_57 rfl ?_
        refine zs_get (pc := 58) t237_58 (by decide) (zk1 (hs.k fk_zMm_336)) (zfvi rfl rfl) ?_
        refine zs_invV (pc := 61) (k := 336) (as' := [.int (zI M 336 6)]) (st := []) t237_61 mf239 rfl rfl (Or.inl ⟨by decide, (zk1 (hs.k fk_zMm_336))⟩) ⟨by decide, by decide, Nat.le_of_ble_eq_true rfl, Nat.le_of_ble_eq_true rfl⟩ (zs_in (by decide) mf239 (Nat.le_of_ble_eq_true rfl) ?_) (fun _ _ q => q)
        show zGo X l 0 0 0 239 0 [(0, .ref 336), (1, .int (zI M 336 6))] [] M _
        refine zs_aload_n (pc := 0) t239_0 rfl ?_
        refine zs_iload_n (pc := 1) t239_1 rfl ?_
        have w475 : zIv mLo mHi (zsI M 336 7 (zI M 336 6)) := zIv.put hI (show (-1) ≤ (zI M 336 6).toInt ∧ (zI M 336 6).toInt ≤ 500 from ⟨by omega, by omega⟩)
        refine zs_putI (pc := 2) t239_2 (zk1 (hs.k fk_zMm_336)) rfl ?_
        refine zs_iconst (pc := 5) t239_5 (v := 0) (by decide) ?_
        refine zs_iret (pc := 6) t239_6 mr239 (by decide) ?_
        show zGo X l 5 0 0 237 64 [(1, .int (zhere M)), (0, .ref 336)] [.int (0 : Int32)] (zsI M 336 7 (zI M 336 6)) _
        have w476 : (0 : Int32).toInt = 0 := li0
        have w477 : (zI (zsI M 336 7 (zI M 336 6)) 336 6).toInt = (zI M 336 6).toInt := (congrArg Int32.toInt ((zIoj (by decide)).trans rfl)).trans rfl
        have w478 : (zI (zsI M 336 7 (zI M 336 6)) 336 7).toInt = (zI M 336 6).toInt := (congrArg Int32.toInt zIs).trans rfl
        have w479 := li0
        have w480 : (zI (zsI M 336 7 (zI M 336 6)) 336 6).toInt = (zI M 336 6).toInt := (congrArg Int32.toInt ((zIoj (by decide)).trans rfl)).trans rfl
        have w481 : (zI (zsI M 336 7 (zI M 336 6)) 336 7).toInt = (zI M 336 6).toInt := (congrArg Int32.toInt zIs).trans rfl
        exact zs_iret (pc := 64) t237_64 mr237 (by decide) (hQ _ _ hs w475 ((zFr.refl).put rfl) rfl ((zUp.refl).put (Or.inl (by decide))) (zPR.fr (M' := (zsI M 336 7 (zI M 336 6))) pR (zEq.put rfl)) (zPC.fr (M' := (zsI M 336 7 (zI M 336 6))) pC (zEq.put rfl)) (by omega) (fun p hp => by
            obtain rfl : w7n = p := (by omega)
            exact Or.inr ⟨by first | decide | omega, by omega, (by first | exact pIt.r0 (by omega) (by omega) | exact pIt.h0 (by omega) (by omega) | exact pIt.p0 (by omega) (by omega) | exact pIt.no (by omega))⟩) (by decide) (by decide))
      · refine zs_icmp_eqF (pc := 36) t237_36 rfl li60 (by omega) ?_
        refine zs_iload_n (pc := 39) t237_39 rfl ?_
        refine zs_bipush (pc := 40) t237_40 (v := 112) (by decide) ?_
        refine zs_icmp_neT (pc := 42) t237_42 rfl li112 (by omega) ?_
        refine zs_aload_n (pc := 65) t237_65 rfl ?_
        refine zs_dup (pc := 66) t237_66 rfl ?_
        refine zs_get (pc := 67) t237_67 (by decide) (zk1 (hs.k fk_zMm_336)) (zfvi rfl rfl) ?_
        refine zs_iconst (pc := 70) t237_70 (v := 1) (by decide) ?_
        obtain ⟨w482v, w482e, w482⟩ := ziadd (a := (zI M 336 6)) (b := (1 : Int32)) rfl li1 (by omega) (by omega)
        refine zs_iadd (pc := 71) t237_71 (c := w482v) w482e ?_
        have w483 : zIv mLo mHi (zsI M 336 6 w482v) := zIv.put hI (show 0 ≤ w482v.toInt ∧ w482v.toInt ≤ 500 from ⟨by omega, by omega⟩)
        refine zs_putI (pc := 72) t237_72 (zk1 (hs.k fk_zMm_336)) rfl ?_
        refine zs_iload_n (pc := 75) t237_75 rfl ?_
        by_cases w484 : (zhere M).toInt = 104
        · refine zs_tswI (pc := 76) t237_76 ((rfl : (zhere M).toInt = (zhere M).toInt).trans w484) (by decide) rfl (pc2 := 165) rfl ?_
          refine zs_aload_n (pc := 165) t237_165 rfl ?_
          have w485 : (zI (zsI M 336 6 w482v) 336 6).toInt = ((zI M 336 6).toInt + 1) := (congrArg Int32.toInt zIs).trans w482
          have w486 : (zI (zsI M 336 6 w482v) 337 1).toInt = (zI M 337 1).toInt := (congrArg Int32.toInt ((zIo (by decide)).trans rfl)).trans rfl
          have w487 : (zI (zsI M 336 6 w482v) 336 6).toInt = ((zI M 336 6).toInt + 1) := (congrArg Int32.toInt zIs).trans w482
          have w488 : (zI (zsI M 336 6 w482v) 336 5).toInt = (zI M 336 5).toInt := (congrArg Int32.toInt ((zIoj (by decide)).trans rfl)).trans rfl
          have w489 : (zI (zsI M 336 6 w482v) 336 7).toInt = (zI M 336 7).toInt := (congrArg Int32.toInt ((zIoj (by decide)).trans rfl)).trans rfl
          have w490 : (zI (zsI M 336 6 w482v) 336 6).toInt = ((zI M 336 6).toInt + 1) := (congrArg Int32.toInt zIs).trans w482
          have w491 : (zI (zsI M 336 6 w482v) 336 7).toInt = (zI M 336 7).toInt := (congrArg Int32.toInt ((zIoj (by decide)).trans rfl)).trans rfl
          refine zs_invV (pc := 166) (k := 336) (as' := []) (st := []) t237_166 mf247 rfl rfl (Or.inl ⟨by decide, (zk1 (hs.k fk_zMm_336))⟩) ⟨by decide, by decide, Nat.le_of_ble_eq_true rfl, Nat.le_of_ble_eq_true rfl⟩ (R247 hs w483 (zPR.fr (M' := (zsI M 336 6 w482v)) pR (zEq.put rfl)) (zPC.fr (M' := (zsI M 336 6 w482v)) pC (zEq.put rfl)) (by omega) (by omega) (by omega) (by omega) (zRw.fr' x0 (fun j hj => (zIo (by decide)))) (zTm.mk x1 (fun j => (zIo (by decide))) (zIoj (by decide))) x2 ?_) (fun _ _ q => q)
          intro w492M w492v w492s w492I w492F w492J w492U w492PR w492PC w492t0 w492t1 w492x0 w492a w492b
          have w493 := ib336_6 w492I
          have w494 := ib336_7 w492I
          show zGo X l 5 0 0 237 169 [(1, .int (zhere M)), (0, .ref 336)] [.int w492v] w492M _
          have w495 : (zI w492M 336 6).toInt = (zI w492M 336 6).toInt := (congrArg Int32.toInt rfl).trans rfl
          have w496 : (zI w492M 336 7).toInt = (zI w492M 336 7).toInt := (congrArg Int32.toInt rfl).trans rfl
          have w497 : (zI w492M 336 6).toInt = (zI w492M 336 6).toInt := (congrArg Int32.toInt rfl).trans rfl
          have w498 : (zI w492M 336 7).toInt = (zI w492M 336 7).toInt := (congrArg Int32.toInt rfl).trans rfl
          exact zs_iret (pc := 169) t237_169 mr237 (zfb01 (by omega)) (hQ _ _ w492s w492I (((zFr.refl).put rfl).trans (w492F.mono rfl)) w492J (((zUp.refl).put (Or.inl (by decide))).trans w492U) w492PR w492PC (by omega) (fun p hp => by
              obtain rfl : w7n = p := (by omega)
              rcases w492x0 (w7n + 1) (by omega) with ⟨q1, q, F2, q2, q3, q4, q5, q6, q7, q8⟩ | ⟨q1, q2, q3⟩
              · exact Or.inl ⟨by omega, q, F2, (pIt.h (by omega) (by omega)).trans q2, by omega, by omega, by omega, by omega, q7, q8⟩
              · exact Or.inr ⟨by omega, by omega, (pIt.h (by omega) (by omega)).trans q3⟩) (by omega) (by omega))
        refine zs_tswD (pc := 76) t237_76 rfl (by omega) (pc2 := 333) rfl ?_
        refine zs_aload_n (pc := 333) t237_333 rfl ?_
        refine zs_aload_n (pc := 334) t237_334 rfl ?_
        refine zs_get (pc := 335) t237_335 (by decide) (zk1 (hs.k fk_zMm_336)) (zfvi rfl zIs) ?_
        refine zs_iconst (pc := 338) t237_338 (v := 1) (by decide) ?_
        obtain ⟨w499v, w499e, w499⟩ := zisub (a := w482v) (b := (1 : Int32)) w482 li1 (by omega) (by omega)
        refine zs_isub (pc := 339) t237_339 (c := w499v) w499e ?_
        refine zs_invV (pc := 340) (k := 336) (as' := [.int w499v]) (st := []) t237_340 mf239 rfl rfl (Or.inl ⟨by decide, (zk1 (hs.k fk_zMm_336))⟩) ⟨by decide, by decide, Nat.le_of_ble_eq_true rfl, Nat.le_of_ble_eq_true rfl⟩ (zs_in (by decide) mf239 (Nat.le_of_ble_eq_true rfl) ?_) (fun _ _ q => q)
        show zGo X l 0 0 0 239 0 [(0, .ref 336), (1, .int w499v)] [] (zsI M 336 6 w482v) _
        refine zs_aload_n (pc := 0) t239_0 rfl ?_
        refine zs_iload_n (pc := 1) t239_1 rfl ?_
        have w500 : zIv mLo mHi (zsI (zsI M 336 6 w482v) 336 7 w499v) := zIv.put w483 (show (-1) ≤ w499v.toInt ∧ w499v.toInt ≤ 500 from ⟨by omega, by omega⟩)
        refine zs_putI (pc := 2) t239_2 (zk1 (hs.k fk_zMm_336)) rfl ?_
        refine zs_iconst (pc := 5) t239_5 (v := 0) (by decide) ?_
        refine zs_iret (pc := 6) t239_6 mr239 (by decide) ?_
        show zGo X l 5 0 0 237 343 [(1, .int (zhere M)), (0, .ref 336)] [.int (0 : Int32)] (zsI (zsI M 336 6 w482v) 336 7 w499v) _
        have w501 : (0 : Int32).toInt = 0 := li0
        have w502 : (zI (zsI (zsI M 336 6 w482v) 336 7 w499v) 336 6).toInt = ((zI M 336 6).toInt + 1) := (congrArg Int32.toInt ((zIoj (by decide)).trans zIs)).trans w482
        have w503 : (zI (zsI (zsI M 336 6 w482v) 336 7 w499v) 336 7).toInt = (((zI M 336 6).toInt + 1) - 1) := (congrArg Int32.toInt zIs).trans w499
        have w504 := li0
        have w505 : (zI (zsI (zsI M 336 6 w482v) 336 7 w499v) 336 6).toInt = ((zI M 336 6).toInt + 1) := (congrArg Int32.toInt ((zIoj (by decide)).trans zIs)).trans w482
        have w506 : (zI (zsI (zsI M 336 6 w482v) 336 7 w499v) 336 7).toInt = (((zI M 336 6).toInt + 1) - 1) := (congrArg Int32.toInt zIs).trans w499
        exact zs_iret (pc := 343) t237_343 mr237 (by decide) (hQ _ _ hs w500 (((zFr.refl).put rfl).put rfl) rfl (((zUp.refl).put (Or.inl (by decide))).put (Or.inl (by decide))) (zPR.fr (M' := (zsI (zsI M 336 6 w482v) 336 7 w499v)) (zPR.fr (M' := (zsI M 336 6 w482v)) pR (zEq.put rfl)) (zEq.put rfl)) (zPC.fr (M' := (zsI (zsI M 336 6 w482v) 336 7 w499v)) (zPC.fr (M' := (zsI M 336 6 w482v)) pC (zEq.put rfl)) (zEq.put rfl)) (by omega) (fun p hp => by
            obtain rfl : w7n = p := (by omega)
            exact Or.inr ⟨by first | decide | omega, by omega, (by first | exact pIt.r0 (by omega) (by omega) | exact pIt.h0 (by omega) (by omega) | exact pIt.p0 (by omega) (by omega) | exact pIt.no (by omega))⟩) (by decide) (by decide))
  · refine zs_icmp_neF (pc := 8) t237_8 rfl li114 (by omega) ?_
    refine zs_aload_n (pc := 11) t237_11 rfl ?_
    refine zs_get (pc := 12) t237_12 (by decide) (zk1 (hs.k fk_zMm_336)) (hs.p rfl fv_zMm_336_0) ?_
    refine zs_iconst (pc := 15) t237_15 (v := 0) (by decide) ?_
    have w507 : (zI M 337 0).toInt = F 0 := x0.at (by decide) (by decide) (by decide)
    refine zs_iald (pc := 16) t237_16 (j := 0) (by decide) (zk1 (hs.k fk_zMm_337)) li0 (zk2 (hs.k fk_zMm_337) (by decide)) rfl ?_
    refine zs_bipush (pc := 17) t237_17 (v := 8) (by decide) ?_
    by_cases w508 : (zI M 337 0).toInt = 8
    · refine zs_icmp_eqT (pc := 19) t237_19 rfl li8 (by omega) ?_
      refine zs_aload_n (pc := 56) t237_56 rfl ?_
      refine zs_aload_n (pc := 57) t237_57 rfl ?_
      refine zs_get (pc := 58) t237_58 (by decide) (zk1 (hs.k fk_zMm_336)) (zfvi rfl rfl) ?_
      refine zs_invV (pc := 61) (k := 336) (as' := [.int (zI M 336 6)]) (st := []) t237_61 mf239 rfl rfl (Or.inl ⟨by decide, (zk1 (hs.k fk_zMm_336))⟩) ⟨by decide, by decide, Nat.le_of_ble_eq_true rfl, Nat.le_of_ble_eq_true rfl⟩ (zs_in (by decide) mf239 (Nat.le_of_ble_eq_true rfl) ?_) (fun _ _ q => q)
      show zGo X l 0 0 0 239 0 [(0, .ref 336), (1, .int (zI M 336 6))] [] M _
      refine zs_aload_n (pc := 0) t239_0 rfl ?_
      refine zs_iload_n (pc := 1) t239_1 rfl ?_
      have w509 : zIv mLo mHi (zsI M 336 7 (zI M 336 6)) := zIv.put hI (show (-1) ≤ (zI M 336 6).toInt ∧ (zI M 336 6).toInt ≤ 500 from ⟨by omega, by omega⟩)
      refine zs_putI (pc := 2) t239_2 (zk1 (hs.k fk_zMm_336)) rfl ?_
      refine zs_iconst (pc := 5) t239_5 (v := 0) (by decide) ?_
      refine zs_iret (pc := 6) t239_6 mr239 (by decide) ?_
      show zGo X l 5 0 0 237 64 [(1, .int (zhere M)), (0, .ref 336)] [.int (0 : Int32)] (zsI M 336 7 (zI M 336 6)) _
      have w510 : (0 : Int32).toInt = 0 := li0
      have w511 : (zI (zsI M 336 7 (zI M 336 6)) 336 6).toInt = (zI M 336 6).toInt := (congrArg Int32.toInt ((zIoj (by decide)).trans rfl)).trans rfl
      have w512 : (zI (zsI M 336 7 (zI M 336 6)) 336 7).toInt = (zI M 336 6).toInt := (congrArg Int32.toInt zIs).trans rfl
      have w513 := li0
      have w514 : (zI (zsI M 336 7 (zI M 336 6)) 336 6).toInt = (zI M 336 6).toInt := (congrArg Int32.toInt ((zIoj (by decide)).trans rfl)).trans rfl
      have w515 : (zI (zsI M 336 7 (zI M 336 6)) 336 7).toInt = (zI M 336 6).toInt := (congrArg Int32.toInt zIs).trans rfl
      exact zs_iret (pc := 64) t237_64 mr237 (by decide) (hQ _ _ hs w509 ((zFr.refl).put rfl) rfl ((zUp.refl).put (Or.inl (by decide))) (zPR.fr (M' := (zsI M 336 7 (zI M 336 6))) pR (zEq.put rfl)) (zPC.fr (M' := (zsI M 336 7 (zI M 336 6))) pC (zEq.put rfl)) (by omega) (fun p hp => by
          obtain rfl : w7n = p := (by omega)
          exact Or.inr ⟨by first | decide | omega, by omega, (by first | exact pIt.r0 (by omega) (by omega) | exact pIt.h0 (by omega) (by omega) | exact pIt.p0 (by omega) (by omega) | exact pIt.no (by omega))⟩) (by decide) (by decide))
    · refine zs_icmp_eqF (pc := 19) t237_19 rfl li8 (by omega) ?_
      refine zs_iload_n (pc := 22) t237_22 rfl ?_
      refine zs_bipush (pc := 23) t237_23 (v := 104) (by decide) ?_
      refine zs_icmp_neT (pc := 25) t237_25 rfl li104 (by omega) ?_
      refine zs_iload_n (pc := 39) t237_39 rfl ?_
      refine zs_bipush (pc := 40) t237_40 (v := 112) (by decide) ?_
      refine zs_icmp_neT (pc := 42) t237_42 rfl li112 (by omega) ?_
      refine zs_aload_n (pc := 65) t237_65 rfl ?_
      refine zs_dup (pc := 66) t237_66 rfl ?_
      refine zs_get (pc := 67) t237_67 (by decide) (zk1 (hs.k fk_zMm_336)) (zfvi rfl rfl) ?_
      refine zs_iconst (pc := 70) t237_70 (v := 1) (by decide) ?_
      obtain ⟨w516v, w516e, w516⟩ := ziadd (a := (zI M 336 6)) (b := (1 : Int32)) rfl li1 (by omega) (by omega)
      refine zs_iadd (pc := 71) t237_71 (c := w516v) w516e ?_
      have w517 : zIv mLo mHi (zsI M 336 6 w516v) := zIv.put hI (show 0 ≤ w516v.toInt ∧ w516v.toInt ≤ 500 from ⟨by omega, by omega⟩)
      refine zs_putI (pc := 72) t237_72 (zk1 (hs.k fk_zMm_336)) rfl ?_
      refine zs_iload_n (pc := 75) t237_75 rfl ?_
      by_cases w518 : (zhere M).toInt = 114
      · refine zs_tswI (pc := 76) t237_76 ((rfl : (zhere M).toInt = (zhere M).toInt).trans w518) (by decide) rfl (pc2 := 160) rfl ?_
        refine zs_aload_n (pc := 160) t237_160 rfl ?_
        have w519 : (zI (zsI M 336 6 w516v) 336 6).toInt = ((zI M 336 6).toInt + 1) := (congrArg Int32.toInt zIs).trans w516
        have w520 : (zI (zsI M 336 6 w516v) 336 6).toInt = ((zI M 336 6).toInt + 1) := (congrArg Int32.toInt zIs).trans w516
        have w521 : (zI (zsI M 336 6 w516v) 336 5).toInt = (zI M 336 5).toInt := (congrArg Int32.toInt ((zIoj (by decide)).trans rfl)).trans rfl
        have w522 : (zI (zsI M 336 6 w516v) 336 7).toInt = (zI M 336 7).toInt := (congrArg Int32.toInt ((zIoj (by decide)).trans rfl)).trans rfl
        have w523 : (zI (zsI M 336 6 w516v) 337 0).toInt = (zI M 337 0).toInt := (congrArg Int32.toInt ((zIo (by decide)).trans rfl)).trans rfl
        have w524 : (zI (zsI M 336 6 w516v) 336 6).toInt = ((zI M 336 6).toInt + 1) := (congrArg Int32.toInt zIs).trans w516
        have w525 : (zI (zsI M 336 6 w516v) 336 7).toInt = (zI M 336 7).toInt := (congrArg Int32.toInt ((zIoj (by decide)).trans rfl)).trans rfl
        refine zs_invV (pc := 161) (k := 336) (as' := []) (st := []) t237_161 mf240 rfl rfl (Or.inl ⟨by decide, (zk1 (hs.k fk_zMm_336))⟩) ⟨by decide, by decide, Nat.le_of_ble_eq_true rfl, Nat.le_of_ble_eq_true rfl⟩ (R240 hs w517 (zPR.fr (M' := (zsI M 336 6 w516v)) pR (zEq.put rfl)) (zPC.fr (M' := (zsI M 336 6 w516v)) pC (zEq.put rfl)) (by omega) (by omega) (by omega) (by omega) (zRw.fr' x0 (fun j hj => (zIo (by decide)))) (zTm.mk x1 (fun j => (zIo (by decide))) (zIoj (by decide))) x2 ?_) (fun _ _ q => q)
        intro w526M w526v w526s w526I w526F w526J w526U w526PR w526PC w526t0 w526t1 w526x0 w526a w526b
        have w527 := ib336_6 w526I
        have w528 := ib336_7 w526I
        show zGo X l 5 0 0 237 164 [(1, .int (zhere M)), (0, .ref 336)] [.int w526v] w526M _
        have w529 : (zI w526M 336 6).toInt = (zI w526M 336 6).toInt := (congrArg Int32.toInt rfl).trans rfl
        have w530 : (zI w526M 336 7).toInt = (zI w526M 336 7).toInt := (congrArg Int32.toInt rfl).trans rfl
        have w531 : (zI w526M 336 6).toInt = (zI w526M 336 6).toInt := (congrArg Int32.toInt rfl).trans rfl
        have w532 : (zI w526M 336 7).toInt = (zI w526M 336 7).toInt := (congrArg Int32.toInt rfl).trans rfl
        exact zs_iret (pc := 164) t237_164 mr237 (zfb01 (by omega)) (hQ _ _ w526s w526I (((zFr.refl).put rfl).trans (w526F.mono rfl)) w526J (((zUp.refl).put (Or.inl (by decide))).trans w526U) w526PR w526PC (by omega) (fun p hp => by
            obtain rfl : w7n = p := (by omega)
            rcases w526x0 (w7n + 1) (by omega) with ⟨q1, q, F2, q2, q3, q4, q5, q6, q7, q8⟩ | ⟨q1, q2, q3⟩
            · exact Or.inl ⟨by omega, q, F2, (pIt.r (by omega) (by omega)).trans q2, by omega, by omega, by omega, by omega, q7, q8⟩
            · exact Or.inr ⟨by omega, by omega, (pIt.r (by omega) (by omega)).trans q3⟩) (by omega) (by omega))
      refine zs_tswD (pc := 76) t237_76 rfl (by omega) (pc2 := 333) rfl ?_
      refine zs_aload_n (pc := 333) t237_333 rfl ?_
      refine zs_aload_n (pc := 334) t237_334 rfl ?_
      refine zs_get (pc := 335) t237_335 (by decide) (zk1 (hs.k fk_zMm_336)) (zfvi rfl zIs) ?_
      refine zs_iconst (pc := 338) t237_338 (v := 1) (by decide) ?_
      obtain ⟨w533v, w533e, w533⟩ := zisub (a := w516v) (b := (1 : Int32)) w516 li1 (by omega) (by omega)
      refine zs_isub (pc := 339) t237_339 (c := w533v) w533e ?_
      refine zs_invV (pc := 340) (k := 336) (as' := [.int w533v]) (st := []) t237_340 mf239 rfl rfl (Or.inl ⟨by decide, (zk1 (hs.k fk_zMm_336))⟩) ⟨by decide, by decide, Nat.le_of_ble_eq_true rfl, Nat.le_of_ble_eq_true rfl⟩ (zs_in (by decide) mf239 (Nat.le_of_ble_eq_true rfl) ?_) (fun _ _ q => q)
      show zGo X l 0 0 0 239 0 [(0, .ref 336), (1, .int w533v)] [] (zsI M 336 6 w516v) _
      refine zs_aload_n (pc := 0) t239_0 rfl ?_
      refine zs_iload_n (pc := 1) t239_1 rfl ?_
      have w534 : zIv mLo mHi (zsI (zsI M 336 6 w516v) 336 7 w533v) := zIv.put w517 (show (-1) ≤ w533v.toInt ∧ w533v.toInt ≤ 500 from ⟨by omega, by omega⟩)
      refine zs_putI (pc := 2) t239_2 (zk1 (hs.k fk_zMm_336)) rfl ?_
      refine zs_iconst (pc := 5) t239_5 (v := 0) (by decide) ?_
      refine zs_iret (pc := 6) t239_6 mr239 (by decide) ?_
      show zGo X l 5 0 0 237 343 [(1, .int (zhere M)), (0, .ref 336)] [.int (0 : Int32)] (zsI (zsI M 336 6 w516v) 336 7 w533v) _
      have w535 : (0 : Int32).toInt = 0 := li0
      have w536 : (zI (zsI (zsI M 336 6 w516v) 336 7 w533v) 336 6).toInt = ((zI M 336 6).toInt + 1) := (congrArg Int32.toInt ((zIoj (by decide)).trans zIs)).trans w516
      have w537 : (zI (zsI (zsI M 336 6 w516v) 336 7 w533v) 336 7).toInt = (((zI M 336 6).toInt + 1) - 1) := (congrArg Int32.toInt zIs).trans w533
      have w538 := li0
      have w539 : (zI (zsI (zsI M 336 6 w516v) 336 7 w533v) 336 6).toInt = ((zI M 336 6).toInt + 1) := (congrArg Int32.toInt ((zIoj (by decide)).trans zIs)).trans w516
      have w540 : (zI (zsI (zsI M 336 6 w516v) 336 7 w533v) 336 7).toInt = (((zI M 336 6).toInt + 1) - 1) := (congrArg Int32.toInt zIs).trans w533
      exact zs_iret (pc := 343) t237_343 mr237 (by decide) (hQ _ _ hs w534 (((zFr.refl).put rfl).put rfl) rfl (((zUp.refl).put (Or.inl (by decide))).put (Or.inl (by decide))) (zPR.fr (M' := (zsI (zsI M 336 6 w516v) 336 7 w533v)) (zPR.fr (M' := (zsI M 336 6 w516v)) pR (zEq.put rfl)) (zEq.put rfl)) (zPC.fr (M' := (zsI (zsI M 336 6 w516v) 336 7 w533v)) (zPC.fr (M' := (zsI M 336 6 w516v)) pC (zEq.put rfl)) (zEq.put rfl)) (by omega) (fun p hp => by
          obtain rfl : w7n = p := (by omega)
          exact Or.inr ⟨by first | decide | omega, by omega, (by first | exact pIt.r0 (by omega) (by omega) | exact pIt.h0 (by omega) (by omega) | exact pIt.p0 (by omega) (by omega) | exact pIt.no (by omega))⟩) (by decide) (by decide))
