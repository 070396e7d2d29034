theorem R237 {X : zX} {l : Launch} {M : zM} {Q : Option Value → zM → Prop} (hs : zSk zMm M) (hI : zIv mLo mHi M) {F : Nat → Int} {gg : Nat → Int} {nn : Int} (pR : zPR M) (pC : zPC M) (u0 : (zI M 336 7).toInt = -1) (u1 : (zI M 336 6).toInt < (zI M 336 5).toInt) (u2 : (zI M 336 6).toInt ≤ (zI M 336 5).toInt) (u3 : 0 ≤ (zI M 336 6).toInt) (u4 : (zI M 336 7).toInt = -1) (x0 : zRw M 0 F) (x1 : zTm M gg nn) (x2 : zWF F) (hQ : ∀ (M' : zM) (v : Int32), zSk zMm M' → zIv mLo mHi M' → zFr [(336, 336, some 6), (336, 336, some 7), (336, 336, some 8), (337, 337, none)] M M' → zJ M' 351 = zJ M 351 → zUp M M' → zPR M' → zPC M' → ((0 ≤ (zI M' 336 7).toInt) ∨ ((zI M' 336 7).toInt = -1 ∧ (zI M 336 6).toInt < (zI M' 336 6).toInt)) → (∀ p : Nat, (zI M 336 6).toInt = (p : Int) → (v.toInt = 1 ∧ ∃ (q : Nat) (F2 : Nat → Int), (pIt gg F p) = some (q, F2) ∧ (zI M' 336 6).toInt = (q : Int) ∧ p < q ∧ (q : Int) ≤ nn ∧ (zI M' 336 7).toInt = -1 ∧ zRw M' 0 F2 ∧ zWF F2) ∨ (v.toInt = 0 ∧ (zI M' 336 7).toInt ≠ -1 ∧ (pIt gg F p) = none)) → 0 ≤ v.toInt → v.toInt ≤ 1 → Q (some (.int v)) M') : zCall X l 5 0 0 237 [.ref 336] M Q := by
  refine zs_in (by decide) mf237 (Nat.le_of_ble_eq_true rfl) ?_
  show zGo X l 5 0 0 237 0 [(0, .ref 336)] [] M _
  have hn := x1.2
  have w1 := ib336_5 hI
  have w2 : (zI M 336 5).toInt = (zI M 336 5).toInt := (congrArg Int32.toInt rfl).trans rfl
  have w3 := ib336_6 hI
  have w4 : (zI M 336 6).toInt = (zI M 336 6).toInt := (congrArg Int32.toInt rfl).trans rfl
  have w5 := ib336_7 hI
  have w6 : (zI M 336 7).toInt = (zI M 336 7).toInt := (congrArg Int32.toInt rfl).trans rfl
  obtain ⟨w7n, w7⟩ : ∃ n : Nat, (zI M 336 6).toInt = (n : Int) := ⟨((zI M 336 6).toInt).toNat, by omega⟩
  have f1 := x2.1
  have f3 := x2.2.2.2
  have w8 := ibA0 hI
  have w9 : (zI M 337 0).toInt = (zI M 337 0).toInt := (congrArg Int32.toInt rfl).trans rfl
  have e0 : (zI M 337 0).toInt = F 0 := x0.at (by decide) (by decide) (by decide)
  have w10 := ibA1 hI
  have w11 : (zI M 337 1).toInt = (zI M 337 1).toInt := (congrArg Int32.toInt rfl).trans rfl
  have e1 : (zI M 337 1).toInt = F 1 := x0.at (by decide) (by decide) (by decide)
  have w12 := ibA2 hI
  have w13 : (zI M 337 2).toInt = (zI M 337 2).toInt := (congrArg Int32.toInt rfl).trans rfl
  have e2 : (zI M 337 2).toInt = F 2 := x0.at (by decide) (by decide) (by decide)
  refine zs_aload_n (pc := 0) t237_0 rfl ?_
  refine zs_invV (pc := 1) (k := 336) (as' := []) (st := []) t237_1 mf238 rfl rfl (Or.inl ⟨by decide, (zk1 (hs.k fk_zMm_336))⟩) ⟨by decide, by decide, Nat.le_of_ble_eq_true rfl, Nat.le_of_ble_eq_true rfl⟩ (H238 hs hI ?_) (fun _ _ q => q)
  have w14 := zhere.rg (M := M)
  have w15 : (zI M 336 6).toInt = (zI M 336 6).toInt := (congrArg Int32.toInt rfl).trans rfl
  have w16 : (zI M 336 5).toInt = (zI M 336 5).toInt := (congrArg Int32.toInt rfl).trans rfl
  have w17 : (zI M 336 6).toInt = (zI M 336 6).toInt := (congrArg Int32.toInt rfl).trans rfl
  have w18 : (zI M 336 5).toInt = (zI M 336 5).toInt := (congrArg Int32.toInt rfl).trans rfl
  have w19 : (zhere M).toInt = gg w7n := zhere.tr x1 (by omega)
  have w20 := zTm.rg x1 w7n
  show zGo X l 5 0 0 237 4 [(0, .ref 336)] [.int (zhere M)] M _
  refine zs_istore_n (pc := 4) t237_4 (ls' := [(1, .int (zhere M)), (0, .ref 336)]) (zml mf237 (by decide)) rfl ?_
  refine zs_iload_n (pc := 5) t237_5 rfl ?_
  refine zs_bipush (pc := 6) t237_6 (v := 114) (by decide) ?_
  by_cases w21 : (zhere M).toInt ≠ 114
  · refine zs_icmp_neT (pc := 8) t237_8 rfl li114 (by omega) ?_
    refine zs_iload_n (pc := 22) t237_22 rfl ?_
    refine zs_bipush (pc := 23) t237_23 (v := 104) (by decide) ?_
    by_cases w22 : (zhere M).toInt ≠ 104
    · refine zs_icmp_neT (pc := 25) t237_25 rfl li104 (by omega) ?_
      refine zs_iload_n (pc := 39) t237_39 rfl ?_
      refine zs_bipush (pc := 40) t237_40 (v := 112) (by decide) ?_
      by_cases w23 : (zhere M).toInt ≠ 112
      · refine zs_icmp_neT (pc := 42) t237_42 rfl li112 (by omega) ?_
        refine zs_aload_n (pc := 65) t237_65 rfl ?_
        refine zs_dup (pc := 66) t237_66 rfl ?_
        refine zs_get (pc := 67) t237_67 (by decide) (zk1 (hs.k fk_zMm_336)) (zfvi rfl rfl) ?_
        refine zs_iconst (pc := 70) t237_70 (v := 1) (by decide) ?_
        obtain ⟨w24v, w24e, w24⟩ := ziadd (a := (zI M 336 6)) (b := (1 : Int32)) rfl li1 (by omega) (by omega)
        refine zs_iadd (pc := 71) t237_71 (c := w24v) w24e ?_
        have w25 : zIv mLo mHi (zsI M 336 6 w24v) := zIv.put hI (show 0 ≤ w24v.toInt ∧ w24v.toInt ≤ 500 from ⟨by omega, by omega⟩)
        refine zs_putI (pc := 72) t237_72 (zk1 (hs.k fk_zMm_336)) rfl ?_
        refine zs_iload_n (pc := 75) t237_75 rfl ?_
        by_cases w26 : (zhere M).toInt = 103
        · refine zs_tswI (pc := 76) t237_76 ((rfl : (zhere M).toInt = (zhere M).toInt).trans w26) (by decide) rfl (pc2 := 242) rfl ?_
          refine zs_aload_n (pc := 242) t237_242 rfl ?_
          refine zs_bipush (pc := 243) t237_243 (v := 9) (by decide) ?_
          refine zs_iconst (pc := 245) t237_245 (v := 0) (by decide) ?_
          refine zs_sipush (pc := 246) t237_246 (v := 999) (by decide) ?_
          refine zs_bipush (pc := 249) t237_249 (v := 59) (by decide) ?_
          have w27 : (zI (zsI M 336 6 w24v) 336 6).toInt = ((zI M 336 6).toInt + 1) := (congrArg Int32.toInt zIs).trans w24
          have w28 : (9 : Int32).toInt = 9 := li9
          have w29 : (0 : Int32).toInt = 0 := li0
          have w30 : (999 : Int32).toInt = 999 := li999
          have w31 : (59 : Int32).toInt = 59 := li59
          have w32 : (zI (zsI M 336 6 w24v) 336 5).toInt = (zI M 336 5).toInt := (congrArg Int32.toInt ((zIoj (by decide)).trans rfl)).trans rfl
          have w33 : (zI (zsI M 336 6 w24v) 337 0).toInt = (zI M 337 0).toInt := (congrArg Int32.toInt ((zIo (by decide)).trans rfl)).trans rfl
          have w34 : (zI (zsI M 336 6 w24v) 336 6).toInt = ((zI M 336 6).toInt + 1) := (congrArg Int32.toInt zIs).trans w24
          have w35 : (zI (zsI M 336 6 w24v) 336 7).toInt = (zI M 336 7).toInt := (congrArg Int32.toInt ((zIoj (by decide)).trans rfl)).trans rfl
          have w36 : (zI (zsI M 336 6 w24v) 337 1).toInt = (zI M 337 1).toInt := (congrArg Int32.toInt ((zIo (by decide)).trans rfl)).trans rfl
          have w37 : (zI (zsI M 336 6 w24v) 337 0).toInt = (zI M 337 0).toInt := (congrArg Int32.toInt ((zIo (by decide)).trans rfl)).trans rfl
          have w38 : (zI (zsI M 336 6 w24v) 337 2).toInt = (zI M 337 2).toInt := (congrArg Int32.toInt ((zIo (by decide)).trans rfl)).trans rfl
          have w39 : (zI (zsI M 336 6 w24v) 336 6).toInt = ((zI M 336 6).toInt + 1) := (congrArg Int32.toInt zIs).trans w24
          have w40 : (zI (zsI M 336 6 w24v) 336 7).toInt = (zI M 336 7).toInt := (congrArg Int32.toInt ((zIoj (by decide)).trans rfl)).trans rfl
          have w41 : (zI (zsI M 336 6 w24v) 337 1).toInt = (zI M 337 1).toInt := (congrArg Int32.toInt ((zIo (by decide)).trans rfl)).trans rfl
          refine zs_invV (pc := 251) (k := 336) (as' := [.int (9 : Int32), .int (0 : Int32), .int (999 : Int32), .int (59 : Int32)]) (st := []) t237_251 mf242 rfl rfl (Or.inl ⟨by decide, (zk1 (hs.k fk_zMm_336))⟩) ⟨by decide, by decide, Nat.le_of_ble_eq_true rfl, Nat.le_of_ble_eq_true rfl⟩ (R242 hs w25 (zPR.fr (M' := (zsI M 336 6 w24v)) pR (zEq.put rfl)) (zPC.fr (M' := (zsI M 336 6 w24v)) pC (zEq.put rfl)) ⟨by decide, by decide⟩ ⟨by decide, by decide⟩ (by omega) (by omega) (by omega) (by omega) (by omega) (show 0 ≤ (0 : Int32).toInt ∧ (999 : Int32).toInt ≤ 999 from ⟨by omega, by omega⟩) (zRw.fr' x0 (fun j hj => (zIo (by decide)))) (zTm.mk x1 (fun j => (zIo (by decide))) (zIoj (by decide))) ?_) (fun _ _ q => q)
          intro w42M w42v w42s w42I w42F w42J w42U w42PR w42PC w42t0 w42t1 w42t2 w42t3 w42t4 w42x0 w42x1 w42x2 w42a w42b
          have w43 := ibA0 w42I
          have w44 := ibA2 w42I
          have w45 := ib336_6 w42I
          have w46 := ib336_7 w42I
          have w47 := ibA1 w42I
          show zGo X l 5 0 0 237 254 [(1, .int (zhere M)), (0, .ref 336)] [.int w42v] w42M _
          have w49 : (9 : Int32).toInt = 9 := li9
          have w50 : (0 : Int32).toInt = 0 := li0
          have w51 : (999 : Int32).toInt = 999 := li999
          have w52 : (59 : Int32).toInt = 59 := li59
          rcases w42x2 (w7n + 1) (by omega) with ⟨w48v, w48q, w48x, w48_1, w48_2, w48_3, w48_4, w48_5, w48_6, w48_7, w48r⟩ | ⟨w48v, w48_5, w48z⟩
          · skip
            have w53 : (zI w42M 336 7).toInt = (zI w42M 336 7).toInt := (congrArg Int32.toInt rfl).trans rfl
            have w54 : (zI w42M 336 6).toInt = (zI w42M 336 6).toInt := (congrArg Int32.toInt rfl).trans rfl
            have w55 : (zI w42M 336 6).toInt = (zI w42M 336 6).toInt := (congrArg Int32.toInt rfl).trans rfl
            have w56 : (zI w42M 336 7).toInt = (zI w42M 336 7).toInt := (congrArg Int32.toInt rfl).trans rfl
            exact zs_iret (pc := 254) t237_254 mr237 (zfb01 (by omega)) (hQ _ _ w42s w42I (((zFr.refl).put rfl).trans (w42F.mono rfl)) w42J (((zUp.refl).put (Or.inl (by decide))).trans w42U) w42PR w42PC (by omega) (fun p hp => by
                obtain rfl : w7n = p := (by omega)
                exact Or.inr ⟨by first | decide | omega, by omega, ((pIt.g (by omega)).trans (pB.f (by have z := w48z; rw [show (0 : Int32).toInt = 0 by first | decide | omega, show (999 : Int32).toInt = 999 by first | decide | omega, show (59 : Int32).toInt = 59 by first | decide | omega] at z; exact z)))⟩) (by omega) (by omega))
          · skip
            rw [show (9 : Int32).toInt.toNat = 9 by decide] at w48r
            have w57 : (zI w42M 336 7).toInt = (zI w42M 336 7).toInt := (congrArg Int32.toInt rfl).trans rfl
            have w58 : (zI w42M 336 6).toInt = (zI w42M 336 6).toInt := (congrArg Int32.toInt rfl).trans rfl
            have w59 : (zI w42M 336 6).toInt = (zI w42M 336 6).toInt := (congrArg Int32.toInt rfl).trans rfl
            have w60 : (zI w42M 336 7).toInt = (zI w42M 336 7).toInt := (congrArg Int32.toInt rfl).trans rfl
            exact zs_iret (pc := 254) t237_254 mr237 (zfb01 (by omega)) (hQ _ _ w42s w42I (((zFr.refl).put rfl).trans (w42F.mono rfl)) w42J (((zUp.refl).put (Or.inl (by decide))).trans w42U) w42PR w42PC (by omega) (fun p hp => by
                obtain rfl : w7n = p := (by omega)
                exact Or.inl ⟨by first | decide | omega, w48q, _, ((pIt.g (by omega)).trans (pB.y (by have z := w48_1; rw [show (0 : Int32).toInt = 0 by first | decide | omega, show (999 : Int32).toInt = 999 by first | decide | omega, show (59 : Int32).toInt = 59 by first | decide | omega] at z; exact z))), by omega, by omega, by omega, by omega, w48r, x2.gg (by omega)⟩) (by omega) (by omega))
        by_cases w61 : (zhere M).toInt = 105
        · refine zs_tswI (pc := 76) t237_76 ((rfl : (zhere M).toInt = (zhere M).toInt).trans w61) (by decide) rfl (pc2 := 333) rfl ?_
          refine zs_aload_n (pc := 333) t237_333 rfl ?_
          refine zs_aload_n (pc := 334) t237_334 rfl ?_
          refine zs_get (pc := 335) t237_335 (by decide) (zk1 (hs.k fk_zMm_336)) (zfvi rfl zIs) ?_
          refine zs_iconst (pc := 338) t237_338 (v := 1) (by decide) ?_
          obtain ⟨w62v, w62e, w62⟩ := zisub (a := w24v) (b := (1 : Int32)) w24 li1 (by omega) (by omega)
          refine zs_isub (pc := 339) t237_339 (c := w62v) w62e ?_
          refine zs_invV (pc := 340) (k := 336) (as' := [.int w62v]) (st := []) t237_340 mf239 rfl rfl (Or.inl ⟨by decide, (zk1 (hs.k fk_zMm_336))⟩) ⟨by decide, by decide, Nat.le_of_ble_eq_true rfl, Nat.le_of_ble_eq_true rfl⟩ (zs_in (by decide) mf239 (Nat.le_of_ble_eq_true rfl) ?_) (fun _ _ q => q)
          show zGo X l 0 0 0 239 0 [(0, .ref 336), (1, .int w62v)] [] (zsI M 336 6 w24v) _
          refine zs_aload_n (pc := 0) t239_0 rfl ?_
          refine zs_iload_n (pc := 1) t239_1 rfl ?_
          have w63 : zIv mLo mHi (zsI (zsI M 336 6 w24v) 336 7 w62v) := zIv.put w25 (show (-1) ≤ w62v.toInt ∧ w62v.toInt ≤ 500 from ⟨by omega, by omega⟩)
          refine zs_putI (pc := 2) t239_2 (zk1 (hs.k fk_zMm_336)) rfl ?_
          refine zs_iconst (pc := 5) t239_5 (v := 0) (by decide) ?_
          refine zs_iret (pc := 6) t239_6 mr239 (by decide) ?_
          show zGo X l 5 0 0 237 343 [(1, .int (zhere M)), (0, .ref 336)] [.int (0 : Int32)] (zsI (zsI M 336 6 w24v) 336 7 w62v) _
          have w64 : (zI (zsI (zsI M 336 6 w24v) 336 7 w62v) 336 7).toInt = (((zI M 336 6).toInt + 1) - 1) := (congrArg Int32.toInt zIs).trans w62
          have w65 : (zI (zsI (zsI M 336 6 w24v) 336 7 w62v) 336 6).toInt = ((zI M 336 6).toInt + 1) := (congrArg Int32.toInt ((zIoj (by decide)).trans zIs)).trans w24
          have w66 := li0
          have w67 : (zI (zsI (zsI M 336 6 w24v) 336 7 w62v) 336 6).toInt = ((zI M 336 6).toInt + 1) := (congrArg Int32.toInt ((zIoj (by decide)).trans zIs)).trans w24
          have w68 : (zI (zsI (zsI M 336 6 w24v) 336 7 w62v) 336 7).toInt = (((zI M 336 6).toInt + 1) - 1) := (congrArg Int32.toInt zIs).trans w62
          exact zs_iret (pc := 343) t237_343 mr237 (by decide) (hQ _ _ hs w63 (((zFr.refl).put rfl).put rfl) rfl (((zUp.refl).put (Or.inl (by decide))).put (Or.inl (by decide))) (zPR.fr (M' := (zsI (zsI M 336 6 w24v) 336 7 w62v)) (zPR.fr (M' := (zsI M 336 6 w24v)) pR (zEq.put rfl)) (zEq.put rfl)) (zPC.fr (M' := (zsI (zsI M 336 6 w24v) 336 7 w62v)) (zPC.fr (M' := (zsI M 336 6 w24v)) pC (zEq.put rfl)) (zEq.put rfl)) (by omega) (fun p hp => by
              obtain rfl : w7n = p := (by omega)
              exact Or.inr ⟨by first | decide | omega, by omega, (by first | exact pIt.r0 (by omega) (by omega) | exact pIt.h0 (by omega) (by omega) | exact pIt.p0 (by omega) (by omega) | exact pIt.no (by omega))⟩) (by decide) (by decide))
        by_cases w69 : (zhere M).toInt = 106
        · refine zs_tswI (pc := 76) t237_76 ((rfl : (zhere M).toInt = (zhere M).toInt).trans w69) (by decide) rfl (pc2 := 333) rfl ?_
          refine zs_aload_n (pc := 333) t237_333 rfl ?_
          refine zs_aload_n (pc := 334) t237_334 rfl ?_
          refine zs_get (pc := 335) t237_335 (by decide) (zk1 (hs.k fk_zMm_336)) (zfvi rfl zIs) ?_
          refine zs_iconst (pc := 338) t237_338 (v := 1) (by decide) ?_
          obtain ⟨w70v, w70e, w70⟩ := zisub (a := w24v) (b := (1 : Int32)) w24 li1 (by omega) (by omega)
          refine zs_isub (pc := 339) t237_339 (c := w70v) w70e ?_
          refine zs_invV (pc := 340) (k := 336) (as' := [.int w70v]) (st := []) t237_340 mf239 rfl rfl (Or.inl ⟨by decide, (zk1 (hs.k fk_zMm_336))⟩) ⟨by decide, by decide, Nat.le_of_ble_eq_true rfl, Nat.le_of_ble_eq_true rfl⟩ (zs_in (by decide) mf239 (Nat.le_of_ble_eq_true rfl) ?_) (fun _ _ q => q)
          show zGo X l 0 0 0 239 0 [(0, .ref 336), (1, .int w70v)] [] (zsI M 336 6 w24v) _
          refine zs_aload_n (pc := 0) t239_0 rfl ?_
          refine zs_iload_n (pc := 1) t239_1 rfl ?_
          have w71 : zIv mLo mHi (zsI (zsI M 336 6 w24v) 336 7 w70v) := zIv.put w25 (show (-1) ≤ w70v.toInt ∧ w70v.toInt ≤ 500 from ⟨by omega, by omega⟩)
          refine zs_putI (pc := 2) t239_2 (zk1 (hs.k fk_zMm_336)) rfl ?_
          refine zs_iconst (pc := 5) t239_5 (v := 0) (by decide) ?_
          refine zs_iret (pc := 6) t239_6 mr239 (by decide) ?_
          show zGo X l 5 0 0 237 343 [(1, .int (zhere M)), (0, .ref 336)] [.int (0 : Int32)] (zsI (zsI M 336 6 w24v) 336 7 w70v) _
          have w72 : (zI (zsI (zsI M 336 6 w24v) 336 7 w70v) 336 7).toInt = (((zI M 336 6).toInt + 1) - 1) := (congrArg Int32.toInt zIs).trans w70
          have w73 : (zI (zsI (zsI M 336 6 w24v) 336 7 w70v) 336 6).toInt = ((zI M 336 6).toInt + 1) := (congrArg Int32.toInt ((zIoj (by decide)).trans zIs)).trans w24
          have w74 := li0
          have w75 : (zI (zsI (zsI M 336 6 w24v) 336 7 w70v) 336 6).toInt = ((zI M 336 6).toInt + 1) := (congrArg Int32.toInt ((zIoj (by decide)).trans zIs)).trans w24
          have w76 : (zI (zsI (zsI M 336 6 w24v) 336 7 w70v) 336 7).toInt = (((zI M 336 6).toInt + 1) - 1) := (congrArg Int32.toInt zIs).trans w70
          exact zs_iret (pc := 343) t237_343 mr237 (by decide) (hQ _ _ hs w71 (((zFr.refl).put rfl).put rfl) rfl (((zUp.refl).put (Or.inl (by decide))).put (Or.inl (by decide))) (zPR.fr (M' := (zsI (zsI M 336 6 w24v) 336 7 w70v)) (zPR.fr (M' := (zsI M 336 6 w24v)) pR (zEq.put rfl)) (zEq.put rfl)) (zPC.fr (M' := (zsI (zsI M 336 6 w24v) 336 7 w70v)) (zPC.fr (M' := (zsI M 336 6 w24v)) pC (zEq.put rfl)) (zEq.put rfl)) (by omega) (fun p hp => by
              obtain rfl : w7n = p := (by omega)
              exact Or.inr ⟨by first | decide | omega, by omega, (by first | exact pIt.r0 (by omega) (by omega) | exact pIt.h0 (by omega) (by omega) | exact pIt.p0 (by omega) (by omega) | exact pIt.no (by omega))⟩) (by decide) (by decide))
        by_cases w77 : (zhere M).toInt = 107
        · refine zs_tswI (pc := 76) t237_76 ((rfl : (zhere M).toInt = (zhere M).toInt).trans w77) (by decide) rfl (pc2 := 333) rfl ?_
          refine zs_aload_n (pc := 333) t237_333 rfl ?_
          refine zs_aload_n (pc := 334) t237_334 rfl ?_
          refine zs_get (pc := 335) t237_335 (by decide) (zk1 (hs.k fk_zMm_336)) (zfvi rfl zIs) ?_
          refine zs_iconst (pc := 338) t237_338 (v := 1) (by decide) ?_
          obtain ⟨w78v, w78e, w78⟩ := zisub (a := w24v) (b := (1 : Int32)) w24 li1 (by omega) (by omega)
          refine zs_isub (pc := 339) t237_339 (c := w78v) w78e ?_
          refine zs_invV (pc := 340) (k := 336) (as' := [.int w78v]) (st := []) t237_340 mf239 rfl rfl (Or.inl ⟨by decide, (zk1 (hs.k fk_zMm_336))⟩) ⟨by decide, by decide, Nat.le_of_ble_eq_true rfl, Nat.le_of_ble_eq_true rfl⟩ (zs_in (by decide) mf239 (Nat.le_of_ble_eq_true rfl) ?_) (fun _ _ q => q)
          show zGo X l 0 0 0 239 0 [(0, .ref 336), (1, .int w78v)] [] (zsI M 336 6 w24v) _
          refine zs_aload_n (pc := 0) t239_0 rfl ?_
          refine zs_iload_n (pc := 1) t239_1 rfl ?_
          have w79 : zIv mLo mHi (zsI (zsI M 336 6 w24v) 336 7 w78v) := zIv.put w25 (show (-1) ≤ w78v.toInt ∧ w78v.toInt ≤ 500 from ⟨by omega, by omega⟩)
          refine zs_putI (pc := 2) t239_2 (zk1 (hs.k fk_zMm_336)) rfl ?_
          refine zs_iconst (pc := 5) t239_5 (v := 0) (by decide) ?_
          refine zs_iret (pc := 6) t239_6 mr239 (by decide) ?_
          show zGo X l 5 0 0 237 343 [(1, .int (zhere M)), (0, .ref 336)] [.int (0 : Int32)] (zsI (zsI M 336 6 w24v) 336 7 w78v) _
          have w80 : (zI (zsI (zsI M 336 6 w24v) 336 7 w78v) 336 7).toInt = (((zI M 336 6).toInt + 1) - 1) := (congrArg Int32.toInt zIs).trans w78
          have w81 : (zI (zsI (zsI M 336 6 w24v) 336 7 w78v) 336 6).toInt = ((zI M 336 6).toInt + 1) := (congrArg Int32.toInt ((zIoj (by decide)).trans zIs)).trans w24
          have w82 := li0
          have w83 : (zI (zsI (zsI M 336 6 w24v) 336 7 w78v) 336 6).toInt = ((zI M 336 6).toInt + 1) := (congrArg Int32.toInt ((zIoj (by decide)).trans zIs)).trans w24
          have w84 : (zI (zsI (zsI M 336 6 w24v) 336 7 w78v) 336 7).toInt = (((zI M 336 6).toInt + 1) - 1) := (congrArg Int32.toInt zIs).trans w78
          exact zs_iret (pc := 343) t237_343 mr237 (by decide) (hQ _ _ hs w79 (((zFr.refl).put rfl).put rfl) rfl (((zUp.refl).put (Or.inl (by decide))).put (Or.inl (by decide))) (zPR.fr (M' := (zsI (zsI M 336 6 w24v) 336 7 w78v)) (zPR.fr (M' := (zsI M 336 6 w24v)) pR (zEq.put rfl)) (zEq.put rfl)) (zPC.fr (M' := (zsI (zsI M 336 6 w24v) 336 7 w78v)) (zPC.fr (M' := (zsI M 336 6 w24v)) pC (zEq.put rfl)) (zEq.put rfl)) (by omega) (fun p hp => by
              obtain rfl : w7n = p := (by omega)
              exact Or.inr ⟨by first | decide | omega, by omega, (by first | exact pIt.r0 (by omega) (by omega) | exact pIt.h0 (by omega) (by omega) | exact pIt.p0 (by omega) (by omega) | exact pIt.no (by omega))⟩) (by decide) (by decide))
        by_cases w85 : (zhere M).toInt = 108
        · refine zs_tswI (pc := 76) t237_76 ((rfl : (zhere M).toInt = (zhere M).toInt).trans w85) (by decide) rfl (pc2 := 333) rfl ?_
          refine zs_aload_n (pc := 333) t237_333 rfl ?_
          refine zs_aload_n (pc := 334) t237_334 rfl ?_
          refine zs_get (pc := 335) t237_335 (by decide) (zk1 (hs.k fk_zMm_336)) (zfvi rfl zIs) ?_
          refine zs_iconst (pc := 338) t237_338 (v := 1) (by decide) ?_
          obtain ⟨w86v, w86e, w86⟩ := zisub (a := w24v) (b := (1 : Int32)) w24 li1 (by omega) (by omega)
          refine zs_isub (pc := 339) t237_339 (c := w86v) w86e ?_
          refine zs_invV (pc := 340) (k := 336) (as' := [.int w86v]) (st := []) t237_340 mf239 rfl rfl (Or.inl ⟨by decide, (zk1 (hs.k fk_zMm_336))⟩) ⟨by decide, by decide, Nat.le_of_ble_eq_true rfl, Nat.le_of_ble_eq_true rfl⟩ (zs_in (by decide) mf239 (Nat.le_of_ble_eq_true rfl) ?_) (fun _ _ q => q)
          show zGo X l 0 0 0 239 0 [(0, .ref 336), (1, .int w86v)] [] (zsI M 336 6 w24v) _
          refine zs_aload_n (pc := 0) t239_0 rfl ?_
          refine zs_iload_n (pc := 1) t239_1 rfl ?_
          have w87 : zIv mLo mHi (zsI (zsI M 336 6 w24v) 336 7 w86v) := zIv.put w25 (show (-1) ≤ w86v.toInt ∧ w86v.toInt ≤ 500 from ⟨by omega, by omega⟩)
          refine zs_putI (pc := 2) t239_2 (zk1 (hs.k fk_zMm_336)) rfl ?_
          refine zs_iconst (pc := 5) t239_5 (v := 0) (by decide) ?_
          refine zs_iret (pc := 6) t239_6 mr239 (by decide) ?_
          show zGo X l 5 0 0 237 343 [(1, .int (zhere M)), (0, .ref 336)] [.int (0 : Int32)] (zsI (zsI M 336 6 w24v) 336 7 w86v) _
          have w88 : (zI (zsI (zsI M 336 6 w24v) 336 7 w86v) 336 7).toInt = (((zI M 336 6).toInt + 1) - 1) := (congrArg Int32.toInt zIs).trans w86
          have w89 : (zI (zsI (zsI M 336 6 w24v) 336 7 w86v) 336 6).toInt = ((zI M 336 6).toInt + 1) := (congrArg Int32.toInt ((zIoj (by decide)).trans zIs)).trans w24
          have w90 := li0
          have w91 : (zI (zsI (zsI M 336 6 w24v) 336 7 w86v) 336 6).toInt = ((zI M 336 6).toInt + 1) := (congrArg Int32.toInt ((zIoj (by decide)).trans zIs)).trans w24
          have w92 : (zI (zsI (zsI M 336 6 w24v) 336 7 w86v) 336 7).toInt = (((zI M 336 6).toInt + 1) - 1) := (congrArg Int32.toInt zIs).trans w86
          exact zs_iret (pc := 343) t237_343 mr237 (by decide) (hQ _ _ hs w87 (((zFr.refl).put rfl).put rfl) rfl (((zUp.refl).put (Or.inl (by decide))).put (Or.inl (by decide))) (zPR.fr (M' := (zsI (zsI M 336 6 w24v) 336 7 w86v)) (zPR.fr (M' := (zsI M 336 6 w24v)) pR (zEq.put rfl)) (zEq.put rfl)) (zPC.fr (M' := (zsI (zsI M 336 6 w24v) 336 7 w86v)) (zPC.fr (M' := (zsI M 336 6 w24v)) pC (zEq.put rfl)) (zEq.put rfl)) (by omega) (fun p hp => by
              obtain rfl : w7n = p := (by omega)
              exact Or.inr ⟨by first | decide | omega, by omega, (by first | exact pIt.r0 (by omega) (by omega) | exact pIt.h0 (by omega) (by omega) | exact pIt.p0 (by omega) (by omega) | exact pIt.no (by omega))⟩) (by decide) (by decide))
        by_cases w93 : (zhere M).toInt = 109
        · refine zs_tswI (pc := 76) t237_76 ((rfl : (zhere M).toInt = (zhere M).toInt).trans w93) (by decide) rfl (pc2 := 333) rfl ?_
          refine zs_aload_n (pc := 333) t237_333 rfl ?_
          refine zs_aload_n (pc := 334) t237_334 rfl ?_
          refine zs_get (pc := 335) t237_335 (by decide) (zk1 (hs.k fk_zMm_336)) (zfvi rfl zIs) ?_
          refine zs_iconst (pc := 338) t237_338 (v := 1) (by decide) ?_
          obtain ⟨w94v, w94e, w94⟩ := zisub (a := w24v) (b := (1 : Int32)) w24 li1 (by omega) (by omega)
          refine zs_isub (pc := 339) t237_339 (c := w94v) w94e ?_
          refine zs_invV (pc := 340) (k := 336) (as' := [.int w94v]) (st := []) t237_340 mf239 rfl rfl (Or.inl ⟨by decide, (zk1 (hs.k fk_zMm_336))⟩) ⟨by decide, by decide, Nat.le_of_ble_eq_true rfl, Nat.le_of_ble_eq_true rfl⟩ (zs_in (by decide) mf239 (Nat.le_of_ble_eq_true rfl) ?_) (fun _ _ q => q)
          show zGo X l 0 0 0 239 0 [(0, .ref 336), (1, .int w94v)] [] (zsI M 336 6 w24v) _
          refine zs_aload_n (pc := 0) t239_0 rfl ?_
          refine zs_iload_n (pc := 1) t239_1 rfl ?_
          have w95 : zIv mLo mHi (zsI (zsI M 336 6 w24v) 336 7 w94v) := zIv.put w25 (show (-1) ≤ w94v.toInt ∧ w94v.toInt ≤ 500 from ⟨by omega, by omega⟩)
          refine zs_putI (pc := 2) t239_2 (zk1 (hs.k fk_zMm_336)) rfl ?_
          refine zs_iconst (pc := 5) t239_5 (v := 0) (by decide) ?_
          refine zs_iret (pc := 6) t239_6 mr239 (by decide) ?_
          show zGo X l 5 0 0 237 343 [(1, .int (zhere M)), (0, .ref 336)] [.int (0 : Int32)] (zsI (zsI M 336 6 w24v) 336 7 w94v) _
          have w96 : (zI (zsI (zsI M 336 6 w24v) 336 7 w94v) 336 7).toInt = (((zI M 336 6).toInt + 1) - 1) := (congrArg Int32.toInt zIs).trans w94
          have w97 : (zI (zsI (zsI M 336 6 w24v) 336 7 w94v) 336 6).toInt = ((zI M 336 6).toInt + 1) := (congrArg Int32.toInt ((zIoj (by decide)).trans zIs)).trans w24
          have w98 := li0
          have w99 : (zI (zsI (zsI M 336 6 w24v) 336 7 w94v) 336 6).toInt = ((zI M 336 6).toInt + 1) := (congrArg Int32.toInt ((zIoj (by decide)).trans zIs)).trans w24
          have w100 : (zI (zsI (zsI M 336 6 w24v) 336 7 w94v) 336 7).toInt = (((zI M 336 6).toInt + 1) - 1) := (congrArg Int32.toInt zIs).trans w94
          exact zs_iret (pc := 343) t237_343 mr237 (by decide) (hQ _ _ hs w95 (((zFr.refl).put rfl).put rfl) rfl (((zUp.refl).put (Or.inl (by decide))).put (Or.inl (by decide))) (zPR.fr (M' := (zsI (zsI M 336 6 w24v) 336 7 w94v)) (zPR.fr (M' := (zsI M 336 6 w24v)) pR (zEq.put rfl)) (zEq.put rfl)) (zPC.fr (M' := (zsI (zsI M 336 6 w24v) 336 7 w94v)) (zPC.fr (M' := (zsI M 336 6 w24v)) pC (zEq.put rfl)) (zEq.put rfl)) (by omega) (fun p hp => by
              obtain rfl : w7n = p := (by omega)
              exact Or.inr ⟨by first | decide | omega, by omega, (by first | exact pIt.r0 (by omega) (by omega) | exact pIt.h0 (by omega) (by omega) | exact pIt.p0 (by omega) (by omega) | exact pIt.no (by omega))⟩) (by decide) (by decide))
        by_cases w101 : (zhere M).toInt = 110
        · refine zs_tswI (pc := 76) t237_76 ((rfl : (zhere M).toInt = (zhere M).toInt).trans w101) (by decide) rfl (pc2 := 333) rfl ?_
          refine zs_aload_n (pc := 333) t237_333 rfl ?_
          refine zs_aload_n (pc := 334) t237_334 rfl ?_
          refine zs_get (pc := 335) t237_335 (by decide) (zk1 (hs.k fk_zMm_336)) (zfvi rfl zIs) ?_
          refine zs_iconst (pc := 338) t237_338 (v := 1) (by decide) ?_
          obtain ⟨w102v, w102e, w102⟩ := zisub (a := w24v) (b := (1 : Int32)) w24 li1 (by omega) (by omega)
          refine zs_isub (pc := 339) t237_339 (c := w102v) w102e ?_
          refine zs_invV (pc := 340) (k := 336) (as' := [.int w102v]) (st := []) t237_340 mf239 rfl rfl (Or.inl ⟨by decide, (zk1 (hs.k fk_zMm_336))⟩) ⟨by decide, by decide, Nat.le_of_ble_eq_true rfl, Nat.le_of_ble_eq_true rfl⟩ (zs_in (by decide) mf239 (Nat.le_of_ble_eq_true rfl) ?_) (fun _ _ q => q)
          show zGo X l 0 0 0 239 0 [(0, .ref 336), (1, .int w102v)] [] (zsI M 336 6 w24v) _
          refine zs_aload_n (pc := 0) t239_0 rfl ?_
          refine zs_iload_n (pc := 1) t239_1 rfl ?_
          have w103 : zIv mLo mHi (zsI (zsI M 336 6 w24v) 336 7 w102v) := zIv.put w25 (show (-1) ≤ w102v.toInt ∧ w102v.toInt ≤ 500 from ⟨by omega, by omega⟩)
          refine zs_putI (pc := 2) t239_2 (zk1 (hs.k fk_zMm_336)) rfl ?_
          refine zs_iconst (pc := 5) t239_5 (v := 0) (by decide) ?_
          refine zs_iret (pc := 6) t239_6 mr239 (by decide) ?_
          show zGo X l 5 0 0 237 343 [(1, .int (zhere M)), (0, .ref 336)] [.int (0 : Int32)] (zsI (zsI M 336 6 w24v) 336 7 w102v) _
          have w104 : (zI (zsI (zsI M 336 6 w24v) 336 7 w102v) 336 7).toInt = (((zI M 336 6).toInt + 1) - 1) := (congrArg Int32.toInt zIs).trans w102
          have w105 : (zI (zsI (zsI M 336 6 w24v) 336 7 w102v) 336 6).toInt = ((zI M 336 6).toInt + 1) := (congrArg Int32.toInt ((zIoj (by decide)).trans zIs)).trans w24
          have w106 := li0
          have w107 : (zI (zsI (zsI M 336 6 w24v) 336 7 w102v) 336 6).toInt = ((zI M 336 6).toInt + 1) := (congrArg Int32.toInt ((zIoj (by decide)).trans zIs)).trans w24
          have w108 : (zI (zsI (zsI M 336 6 w24v) 336 7 w102v) 336 7).toInt = (((zI M 336 6).toInt + 1) - 1) := (congrArg Int32.toInt zIs).trans w102
          exact zs_iret (pc := 343) t237_343 mr237 (by decide) (hQ _ _ hs w103 (((zFr.refl).put rfl).put rfl) rfl (((zUp.refl).put (Or.inl (by decide))).put (Or.inl (by decide))) (zPR.fr (M' := (zsI (zsI M 336 6 w24v) 336 7 w102v)) (zPR.fr (M' := (zsI M 336 6 w24v)) pR (zEq.put rfl)) (zEq.put rfl)) (zPC.fr (M' := (zsI (zsI M 336 6 w24v) 336 7 w102v)) (zPC.fr (M' := (zsI M 336 6 w24v)) pC (zEq.put rfl)) (zEq.put rfl)) (by omega) (fun p hp => by
              obtain rfl : w7n = p := (by omega)
              exact Or.inr ⟨by first | decide | omega, by omega, (by first | exact pIt.r0 (by omega) (by omega) | exact pIt.h0 (by omega) (by omega) | exact pIt.p0 (by omega) (by omega) | exact pIt.no (by omega))⟩) (by decide) (by decide))
        by_cases w109 : (zhere M).toInt = 111
        · refine zs_tswI (pc := 76) t237_76 ((rfl : (zhere M).toInt = (zhere M).toInt).trans w109) (by decide) rfl (pc2 := 333) rfl ?_
          refine zs_aload_n (pc := 333) t237_333 rfl ?_
          refine zs_aload_n (pc := 334) t237_334 rfl ?_
          refine zs_get (pc := 335) t237_335 (by decide) (zk1 (hs.k fk_zMm_336)) (zfvi rfl zIs) ?_
          refine zs_iconst (pc := 338) t237_338 (v := 1) (by decide) ?_
          obtain ⟨w110v, w110e, w110⟩ := zisub (a := w24v) (b := (1 : Int32)) w24 li1 (by omega) (by omega)
          refine zs_isub (pc := 339) t237_339 (c := w110v) w110e ?_
          refine zs_invV (pc := 340) (k := 336) (as' := [.int w110v]) (st := []) t237_340 mf239 rfl rfl (Or.inl ⟨by decide, (zk1 (hs.k fk_zMm_336))⟩) ⟨by decide, by decide, Nat.le_of_ble_eq_true rfl, Nat.le_of_ble_eq_true rfl⟩ (zs_in (by decide) mf239 (Nat.le_of_ble_eq_true rfl) ?_) (fun _ _ q => q)
          show zGo X l 0 0 0 239 0 [(0, .ref 336), (1, .int w110v)] [] (zsI M 336 6 w24v) _
          refine zs_aload_n (pc := 0) t239_0 rfl ?_
          refine zs_iload_n (pc := 1) t239_1 rfl ?_
          have w111 : zIv mLo mHi (zsI (zsI M 336 6 w24v) 336 7 w110v) := zIv.put w25 (show (-1) ≤ w110v.toInt ∧ w110v.toInt ≤ 500 from ⟨by omega, by omega⟩)
          refine zs_putI (pc := 2) t239_2 (zk1 (hs.k fk_zMm_336)) rfl ?_
          refine zs_iconst (pc := 5) t239_5 (v := 0) (by decide) ?_
          refine zs_iret (pc := 6) t239_6 mr239 (by decide) ?_
          show zGo X l 5 0 0 237 343 [(1, .int (zhere M)), (0, .ref 336)] [.int (0 : Int32)] (zsI (zsI M 336 6 w24v) 336 7 w110v) _
          have w112 : (zI (zsI (zsI M 336 6 w24v) 336 7 w110v) 336 7).toInt = (((zI M 336 6).toInt + 1) - 1) := (congrArg Int32.toInt zIs).trans w110
          have w113 : (zI (zsI (zsI M 336 6 w24v) 336 7 w110v) 336 6).toInt = ((zI M 336 6).toInt + 1) := (congrArg Int32.toInt ((zIoj (by decide)).trans zIs)).trans w24
          have w114 := li0
          have w115 : (zI (zsI (zsI M 336 6 w24v) 336 7 w110v) 336 6).toInt = ((zI M 336 6).toInt + 1) := (congrArg Int32.toInt ((zIoj (by decide)).trans zIs)).trans w24
          have w116 : (zI (zsI (zsI M 336 6 w24v) 336 7 w110v) 336 7).toInt = (((zI M 336 6).toInt + 1) - 1) := (congrArg Int32.toInt zIs).trans w110
          exact zs_iret (pc := 343) t237_343 mr237 (by decide) (hQ _ _ hs w111 (((zFr.refl).put rfl).put rfl) rfl (((zUp.refl).put (Or.inl (by decide))).put (Or.inl (by decide))) (zPR.fr (M' := (zsI (zsI M 336 6 w24v) 336 7 w110v)) (zPR.fr (M' := (zsI M 336 6 w24v)) pR (zEq.put rfl)) (zEq.put rfl)) (zPC.fr (M' := (zsI (zsI M 336 6 w24v) 336 7 w110v)) (zPC.fr (M' := (zsI M 336 6 w24v)) pC (zEq.put rfl)) (zEq.put rfl)) (by omega) (fun p hp => by
              obtain rfl : w7n = p := (by omega)
              exact Or.inr ⟨by first | decide | omega, by omega, (by first | exact pIt.r0 (by omega) (by omega) | exact pIt.h0 (by omega) (by omega) | exact pIt.p0 (by omega) (by omega) | exact pIt.no (by omega))⟩) (by decide) (by decide))
        by_cases w117 : (zhere M).toInt = 113
        · refine zs_tswI (pc := 76) t237_76 ((rfl : (zhere M).toInt = (zhere M).toInt).trans w117) (by decide) rfl (pc2 := 297) rfl ?_
          refine zs_aload_n (pc := 297) t237_297 rfl ?_
          refine zs_bipush (pc := 298) t237_298 (v := 12) (by decide) ?_
          refine zs_iconst (pc := 300) t237_300 (v := 1) (by decide) ?_
          refine zs_sipush (pc := 301) t237_301 (v := 9999) (by decide) ?_
          refine zs_bipush (pc := 304) t237_304 (v := 44) (by decide) ?_
          have w118 : (zI (zsI M 336 6 w24v) 336 6).toInt = ((zI M 336 6).toInt + 1) := (congrArg Int32.toInt zIs).trans w24
          have w119 : (12 : Int32).toInt = 12 := li12
          have w120 : (1 : Int32).toInt = 1 := li1
          have w121 : (9999 : Int32).toInt = 9999 := li9999
          have w122 : (44 : Int32).toInt = 44 := li44
          have w123 : (zI (zsI M 336 6 w24v) 336 5).toInt = (zI M 336 5).toInt := (congrArg Int32.toInt ((zIoj (by decide)).trans rfl)).trans rfl
          have w124 : (zI (zsI M 336 6 w24v) 337 0).toInt = (zI M 337 0).toInt := (congrArg Int32.toInt ((zIo (by decide)).trans rfl)).trans rfl
          have w125 : (zI (zsI M 336 6 w24v) 336 6).toInt = ((zI M 336 6).toInt + 1) := (congrArg Int32.toInt zIs).trans w24
          have w126 : (zI (zsI M 336 6 w24v) 336 7).toInt = (zI M 336 7).toInt := (congrArg Int32.toInt ((zIoj (by decide)).trans rfl)).trans rfl
          have w127 : (zI (zsI M 336 6 w24v) 337 1).toInt = (zI M 337 1).toInt := (congrArg Int32.toInt ((zIo (by decide)).trans rfl)).trans rfl
          have w128 : (zI (zsI M 336 6 w24v) 337 0).toInt = (zI M 337 0).toInt := (congrArg Int32.toInt ((zIo (by decide)).trans rfl)).trans rfl
          have w129 : (zI (zsI M 336 6 w24v) 337 2).toInt = (zI M 337 2).toInt := (congrArg Int32.toInt ((zIo (by decide)).trans rfl)).trans rfl
          have w130 : (zI (zsI M 336 6 w24v) 336 6).toInt = ((zI M 336 6).toInt + 1) := (congrArg Int32.toInt zIs).trans w24
          have w131 : (zI (zsI M 336 6 w24v) 336 7).toInt = (zI M 336 7).toInt := (congrArg Int32.toInt ((zIoj (by decide)).trans rfl)).trans rfl
          have w132 : (zI (zsI M 336 6 w24v) 337 1).toInt = (zI M 337 1).toInt := (congrArg Int32.toInt ((zIo (by decide)).trans rfl)).trans rfl
          refine zs_invV (pc := 306) (k := 336) (as' := [.int (12 : Int32), .int (1 : Int32), .int (9999 : Int32), .int (44 : Int32)]) (st := []) t237_306 mf242 rfl rfl (Or.inl ⟨by decide, (zk1 (hs.k fk_zMm_336))⟩) ⟨by decide, by decide, Nat.le_of_ble_eq_true rfl, Nat.le_of_ble_eq_true rfl⟩ (R242 hs w25 (zPR.fr (M' := (zsI M 336 6 w24v)) pR (zEq.put rfl)) (zPC.fr (M' := (zsI M 336 6 w24v)) pC (zEq.put rfl)) ⟨by decide, by decide⟩ ⟨by decide, by decide⟩ (by omega) (by omega) (by omega) (by omega) (by omega) (show 1 ≤ (1 : Int32).toInt ∧ (9999 : Int32).toInt ≤ 9999 from ⟨by omega, by omega⟩) (zRw.fr' x0 (fun j hj => (zIo (by decide)))) (zTm.mk x1 (fun j => (zIo (by decide))) (zIoj (by decide))) ?_) (fun _ _ q => q)
          intro w133M w133v w133s w133I w133F w133J w133U w133PR w133PC w133t0 w133t1 w133t2 w133t3 w133t4 w133x0 w133x1 w133x2 w133a w133b
          have w134 := ibA0 w133I
          have w135 := ibA2 w133I
          have w136 := ib336_6 w133I
          have w137 := ib336_7 w133I
          have w138 := ibA1 w133I
          show zGo X l 5 0 0 237 309 [(1, .int (zhere M)), (0, .ref 336)] [.int w133v] w133M _
          have w140 : (12 : Int32).toInt = 12 := li12
          have w141 : (1 : Int32).toInt = 1 := li1
          have w142 : (9999 : Int32).toInt = 9999 := li9999
          have w143 : (44 : Int32).toInt = 44 := li44
          rcases w133x2 (w7n + 1) (by omega) with ⟨w139v, w139q, w139x, w139_1, w139_2, w139_3, w139_4, w139_5, w139_6, w139_7, w139r⟩ | ⟨w139v, w139_5, w139z⟩
          · skip
            refine zs_if_eqT (pc := 309) t237_309 rfl (by omega) ?_
            refine zs_iconst (pc := 331) t237_331 (v := 0) (by decide) ?_
            have w144 : (zI w133M 336 7).toInt = (zI w133M 336 7).toInt := (congrArg Int32.toInt rfl).trans rfl
            have w145 : (zI w133M 336 6).toInt = (zI w133M 336 6).toInt := (congrArg Int32.toInt rfl).trans rfl
            have w146 := li0
            have w147 : (zI w133M 336 6).toInt = (zI w133M 336 6).toInt := (congrArg Int32.toInt rfl).trans rfl
            have w148 : (zI w133M 336 7).toInt = (zI w133M 336 7).toInt := (congrArg Int32.toInt rfl).trans rfl
            exact zs_iret (pc := 332) t237_332 mr237 (by decide) (hQ _ _ w133s w133I (((zFr.refl).put rfl).trans (w133F.mono rfl)) w133J (((zUp.refl).put (Or.inl (by decide))).trans w133U) w133PR w133PC (by omega) (fun p hp => by
                obtain rfl : w7n = p := (by omega)
                exact Or.inr ⟨by first | decide | omega, by omega, ((pIt.q (by omega)).trans (pB.f (by have z := w139z; rw [show (1 : Int32).toInt = 1 by first | decide | omega, show (9999 : Int32).toInt = 9999 by first | decide | omega, show (44 : Int32).toInt = 44 by first | decide | omega] at z; exact z)))⟩) (by decide) (by decide))
          · skip
            rw [show (12 : Int32).toInt.toNat = 12 by decide] at w139r
            refine zs_if_eqF (pc := 309) t237_309 rfl (by omega) ?_
            refine zs_aload_n (pc := 312) t237_312 rfl ?_
            refine zs_bipush (pc := 313) t237_313 (v := 13) (by decide) ?_
            refine zs_iconst (pc := 315) t237_315 (v := 0) (by decide) ?_
            refine zs_sipush (pc := 316) t237_316 (v := 9999) (by decide) ?_
            refine zs_bipush (pc := 319) t237_319 (v := 59) (by decide) ?_
            have w149 : (zI w133M 336 6).toInt = (zI w133M 336 6).toInt := (congrArg Int32.toInt rfl).trans rfl
            have w150 : (13 : Int32).toInt = 13 := li13
            have w151 : (0 : Int32).toInt = 0 := li0
            have w152 : (9999 : Int32).toInt = 9999 := li9999
            have w153 : (59 : Int32).toInt = 59 := li59
            have w154 : (zI w133M 336 5).toInt = (zI M 336 5).toInt := (congrArg Int32.toInt ((w133F 336 5 rfl).trans ((zIoj (by decide)).trans rfl))).trans rfl
            have w155 : (zI w133M 337 0).toInt = (zI w133M 337 0).toInt := (congrArg Int32.toInt rfl).trans rfl
            have w156 : (zI w133M 336 6).toInt = (zI w133M 336 6).toInt := (congrArg Int32.toInt rfl).trans rfl
            have w157 : (zI w133M 336 7).toInt = (zI w133M 336 7).toInt := (congrArg Int32.toInt rfl).trans rfl
            have w158 : (zI w133M 337 1).toInt = (zI w133M 337 1).toInt := (congrArg Int32.toInt rfl).trans rfl
            have w159 : (zI w133M 337 0).toInt = (zI w133M 337 0).toInt := (congrArg Int32.toInt rfl).trans rfl
            have w160 : (zI w133M 337 2).toInt = (zI w133M 337 2).toInt := (congrArg Int32.toInt rfl).trans rfl
            have w161 : (zI w133M 336 6).toInt = (zI w133M 336 6).toInt := (congrArg Int32.toInt rfl).trans rfl
            have w162 : (zI w133M 336 7).toInt = (zI w133M 336 7).toInt := (congrArg Int32.toInt rfl).trans rfl
            have w163 : (zI w133M 337 1).toInt = (zI w133M 337 1).toInt := (congrArg Int32.toInt rfl).trans rfl
            refine zs_invV (pc := 321) (k := 336) (as' := [.int (13 : Int32), .int (0 : Int32), .int (9999 : Int32), .int (59 : Int32)]) (st := []) t237_321 mf242 rfl rfl (Or.inl ⟨by decide, (zk1 (w133s.k fk_zMm_336))⟩) ⟨by decide, by decide, Nat.le_of_ble_eq_true rfl, Nat.le_of_ble_eq_true rfl⟩ (R242 w133s w133I w133PR w133PC ⟨by decide, by decide⟩ ⟨by decide, by decide⟩ (by omega) (by omega) (by omega) (by omega) (by omega) (show 0 ≤ (0 : Int32).toInt ∧ (9999 : Int32).toInt ≤ 9999 from ⟨by omega, by omega⟩) w139r (zTm.mk x1 (fun j => ((w133F 339 j rfl).trans (zIo (by decide)))) ((w133F 336 5 rfl).trans (zIoj (by decide)))) ?_) (fun _ _ q => q)
            intro w164M w164v w164s w164I w164F w164J w164U w164PR w164PC w164t0 w164t1 w164t2 w164t3 w164t4 w164x0 w164x1 w164x2 w164a w164b
            have w165 := ibA0 w164I
            have w166 := ibA2 w164I
            have w167 := ib336_6 w164I
            have w168 := ib336_7 w164I
            have w169 := ibA1 w164I
            show zGo X l 5 0 0 237 324 [(1, .int (zhere M)), (0, .ref 336)] [.int w164v] w164M _
            have w171 : (13 : Int32).toInt = 13 := li13
            have w172 : (0 : Int32).toInt = 0 := li0
            have w173 : (9999 : Int32).toInt = 9999 := li9999
            have w174 : (59 : Int32).toInt = 59 := li59
            rcases w164x2 w139q (by omega) with ⟨w170v, w170q, w170x, w170_1, w170_2, w170_3, w170_4, w170_5, w170_6, w170_7, w170r⟩ | ⟨w170v, w170_5, w170z⟩
            · skip
              refine zs_if_eqT (pc := 324) t237_324 rfl (by omega) ?_
              refine zs_iconst (pc := 331) t237_331 (v := 0) (by decide) ?_
              have w175 : (zI w164M 336 7).toInt = (zI w164M 336 7).toInt := (congrArg Int32.toInt rfl).trans rfl
              have w176 : (zI w164M 336 6).toInt = (zI w164M 336 6).toInt := (congrArg Int32.toInt rfl).trans rfl
              have w177 := li0
              have w178 : (zI w164M 336 6).toInt = (zI w164M 336 6).toInt := (congrArg Int32.toInt rfl).trans rfl
              have w179 : (zI w164M 336 7).toInt = (zI w164M 336 7).toInt := (congrArg Int32.toInt rfl).trans rfl
              exact zs_iret (pc := 332) t237_332 mr237 (by decide) (hQ _ _ w164s w164I ((((zFr.refl).put rfl).trans (w133F.mono rfl)).trans (w164F.mono rfl)) (w164J.trans w133J) ((((zUp.refl).put (Or.inl (by decide))).trans w133U).trans w164U) w164PR w164PC (by omega) (fun p hp => by
                  obtain rfl : w7n = p := (by omega)
                  exact Or.inr ⟨by first | decide | omega, by omega, (((pIt.q (by omega)).trans (pB.y (by have z := w139_1; rw [show (1 : Int32).toInt = 1 by first | decide | omega, show (9999 : Int32).toInt = 9999 by first | decide | omega, show (44 : Int32).toInt = 44 by first | decide | omega] at z; exact z))).trans (pB.f (by have z := w170z; rw [show (0 : Int32).toInt = 0 by first | decide | omega, show (9999 : Int32).toInt = 9999 by first | decide | omega, show (59 : Int32).toInt = 59 by first | decide | omega] at z; exact z)))⟩) (by decide) (by decide))
            · skip
              rw [show (13 : Int32).toInt.toNat = 13 by decide] at w170r
              refine zs_if_eqF (pc := 324) t237_324 rfl (by omega) ?_
              refine zs_iconst (pc := 327) t237_327 (v := 1) (by decide) ?_
              refine zs_goto (pc := 328) t237_328 ?_
              have w180 : (zI w164M 336 7).toInt = (zI w164M 336 7).toInt := (congrArg Int32.toInt rfl).trans rfl
              have w181 : (zI w164M 336 6).toInt = (zI w164M 336 6).toInt := (congrArg Int32.toInt rfl).trans rfl
              have w182 := li1
              have w183 : (zI w164M 336 6).toInt = (zI w164M 336 6).toInt := (congrArg Int32.toInt rfl).trans rfl
              have w184 : (zI w164M 336 7).toInt = (zI w164M 336 7).toInt := (congrArg Int32.toInt rfl).trans rfl
              exact zs_iret (pc := 332) t237_332 mr237 (by decide) (hQ _ _ w164s w164I ((((zFr.refl).put rfl).trans (w133F.mono rfl)).trans (w164F.mono rfl)) (w164J.trans w133J) ((((zUp.refl).put (Or.inl (by decide))).trans w133U).trans w164U) w164PR w164PC (by omega) (fun p hp => by
                  obtain rfl : w7n = p := (by omega)
                  exact Or.inl ⟨by first | decide | omega, w170q, _, (((pIt.q (by omega)).trans (pB.y (by have z := w139_1; rw [show (1 : Int32).toInt = 1 by first | decide | omega, show (9999 : Int32).toInt = 9999 by first | decide | omega, show (44 : Int32).toInt = 44 by first | decide | omega] at z; exact z))).trans (pB.y (by have z := w170_1; rw [show (0 : Int32).toInt = 0 by first | decide | omega, show (9999 : Int32).toInt = 9999 by first | decide | omega, show (59 : Int32).toInt = 59 by first | decide | omega] at z; exact z))), by omega, by omega, by omega, by omega, w170r, x2.qq (by omega)⟩) (by decide) (by decide))
        by_cases w185 : (zhere M).toInt = 115
        · refine zs_tswI (pc := 76) t237_76 ((rfl : (zhere M).toInt = (zhere M).toInt).trans w185) (by decide) rfl (pc2 := 181) rfl ?_
          refine zs_aload_n (pc := 181) t237_181 rfl ?_
          refine zs_iconst (pc := 182) t237_182 (v := 5) (by decide) ?_
          refine zs_iconst (pc := 183) t237_183 (v := 0) (by decide) ?_
          refine zs_iconst (pc := 184) t237_184 (v := 3) (by decide) ?_
          refine zs_bipush (pc := 185) t237_185 (v := 44) (by decide) ?_
          have w186 : (zI (zsI M 336 6 w24v) 336 6).toInt = ((zI M 336 6).toInt + 1) := (congrArg Int32.toInt zIs).trans w24
          have w187 : (5 : Int32).toInt = 5 := li5
          have w188 : (0 : Int32).toInt = 0 := li0
          have w189 : (3 : Int32).toInt = 3 := li3
          have w190 : (44 : Int32).toInt = 44 := li44
          have w191 : (zI (zsI M 336 6 w24v) 336 5).toInt = (zI M 336 5).toInt := (congrArg Int32.toInt ((zIoj (by decide)).trans rfl)).trans rfl
          have w192 : (zI (zsI M 336 6 w24v) 337 0).toInt = (zI M 337 0).toInt := (congrArg Int32.toInt ((zIo (by decide)).trans rfl)).trans rfl
          have w193 : (zI (zsI M 336 6 w24v) 336 6).toInt = ((zI M 336 6).toInt + 1) := (congrArg Int32.toInt zIs).trans w24
          have w194 : (zI (zsI M 336 6 w24v) 336 7).toInt = (zI M 336 7).toInt := (congrArg Int32.toInt ((zIoj (by decide)).trans rfl)).trans rfl
          have w195 : (zI (zsI M 336 6 w24v) 337 1).toInt = (zI M 337 1).toInt := (congrArg Int32.toInt ((zIo (by decide)).trans rfl)).trans rfl
          have w196 : (zI (zsI M 336 6 w24v) 337 0).toInt = (zI M 337 0).toInt := (congrArg Int32.toInt ((zIo (by decide)).trans rfl)).trans rfl
          have w197 : (zI (zsI M 336 6 w24v) 337 2).toInt = (zI M 337 2).toInt := (congrArg Int32.toInt ((zIo (by decide)).trans rfl)).trans rfl
          have w198 : (zI (zsI M 336 6 w24v) 336 6).toInt = ((zI M 336 6).toInt + 1) := (congrArg Int32.toInt zIs).trans w24
          have w199 : (zI (zsI M 336 6 w24v) 336 7).toInt = (zI M 336 7).toInt := (congrArg Int32.toInt ((zIoj (by decide)).trans rfl)).trans rfl
          have w200 : (zI (zsI M 336 6 w24v) 337 1).toInt = (zI M 337 1).toInt := (congrArg Int32.toInt ((zIo (by decide)).trans rfl)).trans rfl
          refine zs_invV (pc := 187) (k := 336) (as' := [.int (5 : Int32), .int (0 : Int32), .int (3 : Int32), .int (44 : Int32)]) (st := []) t237_187 mf242 rfl rfl (Or.inl ⟨by decide, (zk1 (hs.k fk_zMm_336))⟩) ⟨by decide, by decide, Nat.le_of_ble_eq_true rfl, Nat.le_of_ble_eq_true rfl⟩ (R242 hs w25 (zPR.fr (M' := (zsI M 336 6 w24v)) pR (zEq.put rfl)) (zPC.fr (M' := (zsI M 336 6 w24v)) pC (zEq.put rfl)) ⟨by decide, by decide⟩ ⟨by decide, by decide⟩ (by omega) (by omega) (by omega) (by omega) (by omega) (show 0 ≤ (0 : Int32).toInt ∧ (3 : Int32).toInt ≤ 3 from ⟨by omega, by omega⟩) (zRw.fr' x0 (fun j hj => (zIo (by decide)))) (zTm.mk x1 (fun j => (zIo (by decide))) (zIoj (by decide))) ?_) (fun _ _ q => q)
          intro w201M w201v w201s w201I w201F w201J w201U w201PR w201PC w201t0 w201t1 w201t2 w201t3 w201t4 w201x0 w201x1 w201x2 w201a w201b
          have w202 := ibA0 w201I
          have w203 := ibA2 w201I
          have w204 := ib336_6 w201I
          have w205 := ib336_7 w201I
          have w206 := ibA1 w201I
          show zGo X l 5 0 0 237 190 [(1, .int (zhere M)), (0, .ref 336)] [.int w201v] w201M _
          have w208 : (5 : Int32).toInt = 5 := li5
          have w209 : (0 : Int32).toInt = 0 := li0
          have w210 : (3 : Int32).toInt = 3 := li3
          have w211 : (44 : Int32).toInt = 44 := li44
          rcases w201x2 (w7n + 1) (by omega) with ⟨w207v, w207q, w207x, w207_1, w207_2, w207_3, w207_4, w207_5, w207_6, w207_7, w207r⟩ | ⟨w207v, w207_5, w207z⟩
          · skip
            refine zs_if_eqT (pc := 190) t237_190 rfl (by omega) ?_
            refine zs_iconst (pc := 240) t237_240 (v := 0) (by decide) ?_
            have w212 : (zI w201M 336 7).toInt = (zI w201M 336 7).toInt := (congrArg Int32.toInt rfl).trans rfl
            have w213 : (zI w201M 336 6).toInt = (zI w201M 336 6).toInt := (congrArg Int32.toInt rfl).trans rfl
            have w214 := li0
            have w215 : (zI w201M 336 6).toInt = (zI w201M 336 6).toInt := (congrArg Int32.toInt rfl).trans rfl
            have w216 : (zI w201M 336 7).toInt = (zI w201M 336 7).toInt := (congrArg Int32.toInt rfl).trans rfl
            exact zs_iret (pc := 241) t237_241 mr237 (by decide) (hQ _ _ w201s w201I (((zFr.refl).put rfl).trans (w201F.mono rfl)) w201J (((zUp.refl).put (Or.inl (by decide))).trans w201U) w201PR w201PC (by omega) (fun p hp => by
                obtain rfl : w7n = p := (by omega)
                exact Or.inr ⟨by first | decide | omega, by omega, ((pIt.s (by omega)).trans (pB.f (by have z := w207z; rw [show (0 : Int32).toInt = 0 by first | decide | omega, show (3 : Int32).toInt = 3 by first | decide | omega, show (44 : Int32).toInt = 44 by first | decide | omega] at z; exact z)))⟩) (by decide) (by decide))
          · skip
            rw [show (5 : Int32).toInt.toNat = 5 by decide] at w207r
            refine zs_if_eqF (pc := 190) t237_190 rfl (by omega) ?_
            refine zs_aload_n (pc := 193) t237_193 rfl ?_
            refine zs_bipush (pc := 194) t237_194 (v := 6) (by decide) ?_
            refine zs_iconst (pc := 196) t237_196 (v := 0) (by decide) ?_
            refine zs_bipush (pc := 197) t237_197 (v := 20) (by decide) ?_
            refine zs_bipush (pc := 199) t237_199 (v := 44) (by decide) ?_
            have w217 : (zI w201M 336 6).toInt = (zI w201M 336 6).toInt := (congrArg Int32.toInt rfl).trans rfl
            have w218 : (6 : Int32).toInt = 6 := li6
            have w219 : (0 : Int32).toInt = 0 := li0
            have w220 : (20 : Int32).toInt = 20 := li20
            have w221 : (44 : Int32).toInt = 44 := li44
            have w222 : (zI w201M 336 5).toInt = (zI M 336 5).toInt := (congrArg Int32.toInt ((w201F 336 5 rfl).trans ((zIoj (by decide)).trans rfl))).trans rfl
            have w223 : (zI w201M 337 0).toInt = (zI w201M 337 0).toInt := (congrArg Int32.toInt rfl).trans rfl
            have w224 : (zI w201M 336 6).toInt = (zI w201M 336 6).toInt := (congrArg Int32.toInt rfl).trans rfl
            have w225 : (zI w201M 336 7).toInt = (zI w201M 336 7).toInt := (congrArg Int32.toInt rfl).trans rfl
            have w226 : (zI w201M 337 1).toInt = (zI w201M 337 1).toInt := (congrArg Int32.toInt rfl).trans rfl
            have w227 : (zI w201M 337 0).toInt = (zI w201M 337 0).toInt := (congrArg Int32.toInt rfl).trans rfl
            have w228 : (zI w201M 337 2).toInt = (zI w201M 337 2).toInt := (congrArg Int32.toInt rfl).trans rfl
            have w229 : (zI w201M 336 6).toInt = (zI w201M 336 6).toInt := (congrArg Int32.toInt rfl).trans rfl
            have w230 : (zI w201M 336 7).toInt = (zI w201M 336 7).toInt := (congrArg Int32.toInt rfl).trans rfl
            have w231 : (zI w201M 337 1).toInt = (zI w201M 337 1).toInt := (congrArg Int32.toInt rfl).trans rfl
            refine zs_invV (pc := 201) (k := 336) (as' := [.int (6 : Int32), .int (0 : Int32), .int (20 : Int32), .int (44 : Int32)]) (st := []) t237_201 mf242 rfl rfl (Or.inl ⟨by decide, (zk1 (w201s.k fk_zMm_336))⟩) ⟨by decide, by decide, Nat.le_of_ble_eq_true rfl, Nat.le_of_ble_eq_true rfl⟩ (R242 w201s w201I w201PR w201PC ⟨by decide, by decide⟩ ⟨by decide, by decide⟩ (by omega) (by omega) (by omega) (by omega) (by omega) (show 0 ≤ (0 : Int32).toInt ∧ (20 : Int32).toInt ≤ 20 from ⟨by omega, by omega⟩) w207r (zTm.mk x1 (fun j => ((w201F 339 j rfl).trans (zIo (by decide)))) ((w201F 336 5 rfl).trans (zIoj (by decide)))) ?_) (fun _ _ q => q)
            intro w232M w232v w232s w232I w232F w232J w232U w232PR w232PC w232t0 w232t1 w232t2 w232t3 w232t4 w232x0 w232x1 w232x2 w232a w232b
            have w233 := ibA0 w232I
            have w234 := ibA2 w232I
            have w235 := ib336_6 w232I
            have w236 := ib336_7 w232I
            have w237 := ibA1 w232I
            show zGo X l 5 0 0 237 204 [(1, .int (zhere M)), (0, .ref 336)] [.int w232v] w232M _
            have w239 : (6 : Int32).toInt = 6 := li6
            have w240 : (0 : Int32).toInt = 0 := li0
            have w241 : (20 : Int32).toInt = 20 := li20
            have w242 : (44 : Int32).toInt = 44 := li44
            rcases w232x2 w207q (by omega) with ⟨w238v, w238q, w238x, w238_1, w238_2, w238_3, w238_4, w238_5, w238_6, w238_7, w238r⟩ | ⟨w238v, w238_5, w238z⟩
            · skip
              refine zs_if_eqT (pc := 204) t237_204 rfl (by omega) ?_
              refine zs_iconst (pc := 240) t237_240 (v := 0) (by decide) ?_
              have w243 : (zI w232M 336 7).toInt = (zI w232M 336 7).toInt := (congrArg Int32.toInt rfl).trans rfl
              have w244 : (zI w232M 336 6).toInt = (zI w232M 336 6).toInt := (congrArg Int32.toInt rfl).trans rfl
              have w245 := li0
              have w246 : (zI w232M 336 6).toInt = (zI w232M 336 6).toInt := (congrArg Int32.toInt rfl).trans rfl
              have w247 : (zI w232M 336 7).toInt = (zI w232M 336 7).toInt := (congrArg Int32.toInt rfl).trans rfl
              exact zs_iret (pc := 241) t237_241 mr237 (by decide) (hQ _ _ w232s w232I ((((zFr.refl).put rfl).trans (w201F.mono rfl)).trans (w232F.mono rfl)) (w232J.trans w201J) ((((zUp.refl).put (Or.inl (by decide))).trans w201U).trans w232U) w232PR w232PC (by omega) (fun p hp => by
                  obtain rfl : w7n = p := (by omega)
                  exact Or.inr ⟨by first | decide | omega, by omega, (((pIt.s (by omega)).trans (pB.y (by have z := w207_1; rw [show (0 : Int32).toInt = 0 by first | decide | omega, show (3 : Int32).toInt = 3 by first | decide | omega, show (44 : Int32).toInt = 44 by first | decide | omega] at z; exact z))).trans (pB.f (by have z := w238z; rw [show (0 : Int32).toInt = 0 by first | decide | omega, show (20 : Int32).toInt = 20 by first | decide | omega, show (44 : Int32).toInt = 44 by first | decide | omega] at z; exact z)))⟩) (by decide) (by decide))
            · skip
              rw [show (6 : Int32).toInt.toNat = 6 by decide] at w238r
              refine zs_if_eqF (pc := 204) t237_204 rfl (by omega) ?_
              refine zs_aload_n (pc := 207) t237_207 rfl ?_
              refine zs_bipush (pc := 208) t237_208 (v := 7) (by decide) ?_
              refine zs_iconst (pc := 210) t237_210 (v := 1) (by decide) ?_
              refine zs_sipush (pc := 211) t237_211 (v := 500) (by decide) ?_
              refine zs_bipush (pc := 214) t237_214 (v := 44) (by decide) ?_
              have w248 : (zI w232M 336 6).toInt = (zI w232M 336 6).toInt := (congrArg Int32.toInt rfl).trans rfl
              have w249 : (7 : Int32).toInt = 7 := li7
              have w250 : (1 : Int32).toInt = 1 := li1
              have w251 : (500 : Int32).toInt = 500 := li500
              have w252 : (44 : Int32).toInt = 44 := li44
              have w253 : (zI w232M 336 5).toInt = (zI M 336 5).toInt := (congrArg Int32.toInt ((w232F 336 5 rfl).trans ((w201F 336 5 rfl).trans ((zIoj (by decide)).trans rfl)))).trans rfl
              have w254 : (zI w232M 337 0).toInt = (zI w232M 337 0).toInt := (congrArg Int32.toInt rfl).trans rfl
              have w255 : (zI w232M 336 6).toInt = (zI w232M 336 6).toInt := (congrArg Int32.toInt rfl).trans rfl
              have w256 : (zI w232M 336 7).toInt = (zI w232M 336 7).toInt := (congrArg Int32.toInt rfl).trans rfl
              have w257 : (zI w232M 337 1).toInt = (zI w232M 337 1).toInt := (congrArg Int32.toInt rfl).trans rfl
              have w258 : (zI w232M 337 0).toInt = (zI w232M 337 0).toInt := (congrArg Int32.toInt rfl).trans rfl
              have w259 : (zI w232M 337 2).toInt = (zI w232M 337 2).toInt := (congrArg Int32.toInt rfl).trans rfl
              have w260 : (zI w232M 336 6).toInt = (zI w232M 336 6).toInt := (congrArg Int32.toInt rfl).trans rfl
              have w261 : (zI w232M 336 7).toInt = (zI w232M 336 7).toInt := (congrArg Int32.toInt rfl).trans rfl
              have w262 : (zI w232M 337 1).toInt = (zI w232M 337 1).toInt := (congrArg Int32.toInt rfl).trans rfl
              refine zs_invV (pc := 216) (k := 336) (as' := [.int (7 : Int32), .int (1 : Int32), .int (500 : Int32), .int (44 : Int32)]) (st := []) t237_216 mf242 rfl rfl (Or.inl ⟨by decide, (zk1 (w232s.k fk_zMm_336))⟩) ⟨by decide, by decide, Nat.le_of_ble_eq_true rfl, Nat.le_of_ble_eq_true rfl⟩ (R242 w232s w232I w232PR w232PC ⟨by decide, by decide⟩ ⟨by decide, by decide⟩ (by omega) (by omega) (by omega) (by omega) (by omega) (show 1 ≤ (1 : Int32).toInt ∧ (500 : Int32).toInt ≤ 500 from ⟨by omega, by omega⟩) w238r (zTm.mk x1 (fun j => ((w232F 339 j rfl).trans ((w201F 339 j rfl).trans (zIo (by decide))))) ((w232F 336 5 rfl).trans ((w201F 336 5 rfl).trans (zIoj (by decide))))) ?_) (fun _ _ q => q)
              intro w263M w263v w263s w263I w263F w263J w263U w263PR w263PC w263t0 w263t1 w263t2 w263t3 w263t4 w263x0 w263x1 w263x2 w263a w263b
              have w264 := ibA0 w263I
              have w265 := ibA2 w263I
              have w266 := ib336_6 w263I
              have w267 := ib336_7 w263I
              have w268 := ibA1 w263I
              show zGo X l 5 0 0 237 219 [(1, .int (zhere M)), (0, .ref 336)] [.int w263v] w263M _
              have w270 : (7 : Int32).toInt = 7 := li7
              have w271 : (1 : Int32).toInt = 1 := li1
              have w272 : (500 : Int32).toInt = 500 := li500
              have w273 : (44 : Int32).toInt = 44 := li44
              rcases w263x2 w238q (by omega) with ⟨w269v, w269q, w269x, w269_1, w269_2, w269_3, w269_4, w269_5, w269_6, w269_7, w269r⟩ | ⟨w269v, w269_5, w269z⟩
              · skip
                refine zs_if_eqT (pc := 219) t237_219 rfl (by omega) ?_
                refine zs_iconst (pc := 240) t237_240 (v := 0) (by decide) ?_
                have w274 : (zI w263M 336 7).toInt = (zI w263M 336 7).toInt := (congrArg Int32.toInt rfl).trans rfl
                have w275 : (zI w263M 336 6).toInt = (zI w263M 336 6).toInt := (congrArg Int32.toInt rfl).trans rfl
                have w276 := li0
                have w277 : (zI w263M 336 6).toInt = (zI w263M 336 6).toInt := (congrArg Int32.toInt rfl).trans rfl
                have w278 : (zI w263M 336 7).toInt = (zI w263M 336 7).toInt := (congrArg Int32.toInt rfl).trans rfl
                exact zs_iret (pc := 241) t237_241 mr237 (by decide) (hQ _ _ w263s w263I (((((zFr.refl).put rfl).trans (w201F.mono rfl)).trans (w232F.mono rfl)).trans (w263F.mono rfl)) (w263J.trans (w232J.trans w201J)) (((((zUp.refl).put (Or.inl (by decide))).trans w201U).trans w232U).trans w263U) w263PR w263PC (by omega) (fun p hp => by
                    obtain rfl : w7n = p := (by omega)
                    exact Or.inr ⟨by first | decide | omega, by omega, ((((pIt.s (by omega)).trans (pB.y (by have z := w207_1; rw [show (0 : Int32).toInt = 0 by first | decide | omega, show (3 : Int32).toInt = 3 by first | decide | omega, show (44 : Int32).toInt = 44 by first | decide | omega] at z; exact z))).trans (pB.y (by have z := w238_1; rw [show (0 : Int32).toInt = 0 by first | decide | omega, show (20 : Int32).toInt = 20 by first | decide | omega, show (44 : Int32).toInt = 44 by first | decide | omega] at z; exact z))).trans (pB.f (by have z := w269z; rw [show (1 : Int32).toInt = 1 by first | decide | omega, show (500 : Int32).toInt = 500 by first | decide | omega, show (44 : Int32).toInt = 44 by first | decide | omega] at z; exact z)))⟩) (by decide) (by decide))
              · skip
                rw [show (7 : Int32).toInt.toNat = 7 by decide] at w269r
                refine zs_if_eqF (pc := 219) t237_219 rfl (by omega) ?_
                refine zs_aload_n (pc := 222) t237_222 rfl ?_
                refine zs_bipush (pc := 223) t237_223 (v := 8) (by decide) ?_
                refine zs_iconst (pc := 225) t237_225 (v := 2) (by decide) ?_
                refine zs_bipush (pc := 226) t237_226 (v := 8) (by decide) ?_
                refine zs_bipush (pc := 228) t237_228 (v := 59) (by decide) ?_
                have w279 : (zI w263M 336 6).toInt = (zI w263M 336 6).toInt := (congrArg Int32.toInt rfl).trans rfl
                have w280 : (8 : Int32).toInt = 8 := li8
                have w281 : (2 : Int32).toInt = 2 := li2
                have w282 : (8 : Int32).toInt = 8 := li8
                have w283 : (59 : Int32).toInt = 59 := li59
                have w284 : (zI w263M 336 5).toInt = (zI M 336 5).toInt := (congrArg Int32.toInt ((w263F 336 5 rfl).trans ((w232F 336 5 rfl).trans ((w201F 336 5 rfl).trans ((zIoj (by decide)).trans rfl))))).trans rfl
                have w285 : (zI w263M 337 0).toInt = (zI w263M 337 0).toInt := (congrArg Int32.toInt rfl).trans rfl
                have w286 : (zI w263M 336 6).toInt = (zI w263M 336 6).toInt := (congrArg Int32.toInt rfl).trans rfl
                have w287 : (zI w263M 336 7).toInt = (zI w263M 336 7).toInt := (congrArg Int32.toInt rfl).trans rfl
                have w288 : (zI w263M 337 1).toInt = (zI w263M 337 1).toInt := (congrArg Int32.toInt rfl).trans rfl
                have w289 : (zI w263M 337 0).toInt = (zI w263M 337 0).toInt := (congrArg Int32.toInt rfl).trans rfl
                have w290 : (zI w263M 337 2).toInt = (zI w263M 337 2).toInt := (congrArg Int32.toInt rfl).trans rfl
                have w291 : (zI w263M 336 6).toInt = (zI w263M 336 6).toInt := (congrArg Int32.toInt rfl).trans rfl
                have w292 : (zI w263M 336 7).toInt = (zI w263M 336 7).toInt := (congrArg Int32.toInt rfl).trans rfl
                have w293 : (zI w263M 337 1).toInt = (zI w263M 337 1).toInt := (congrArg Int32.toInt rfl).trans rfl
                refine zs_invV (pc := 230) (k := 336) (as' := [.int (8 : Int32), .int (2 : Int32), .int (8 : Int32), .int (59 : Int32)]) (st := []) t237_230 mf242 rfl rfl (Or.inl ⟨by decide, (zk1 (w263s.k fk_zMm_336))⟩) ⟨by decide, by decide, Nat.le_of_ble_eq_true rfl, Nat.le_of_ble_eq_true rfl⟩ (R242 w263s w263I w263PR w263PC ⟨by decide, by decide⟩ ⟨by decide, by decide⟩ (by omega) (by omega) (by omega) (by omega) (by omega) (show 2 ≤ (2 : Int32).toInt ∧ (8 : Int32).toInt ≤ 8 from ⟨by omega, by omega⟩) w269r (zTm.mk x1 (fun j => ((w263F 339 j rfl).trans ((w232F 339 j rfl).trans ((w201F 339 j rfl).trans (zIo (by decide)))))) ((w263F 336 5 rfl).trans ((w232F 336 5 rfl).trans ((w201F 336 5 rfl).trans (zIoj (by decide)))))) ?_) (fun _ _ q => q)
                intro w294M w294v w294s w294I w294F w294J w294U w294PR w294PC w294t0 w294t1 w294t2 w294t3 w294t4 w294x0 w294x1 w294x2 w294a w294b
                have w295 := ibA0 w294I
                have w296 := ibA2 w294I
                have w297 := ib336_6 w294I
                have w298 := ib336_7 w294I
                have w299 := ibA1 w294I
                show zGo X l 5 0 0 237 233 [(1, .int (zhere M)), (0, .ref 336)] [.int w294v] w294M _
                have w301 : (8 : Int32).toInt = 8 := li8
                have w302 : (2 : Int32).toInt = 2 := li2
                have w303 : (8 : Int32).toInt = 8 := li8
                have w304 : (59 : Int32).toInt = 59 := li59
                rcases w294x2 w269q (by omega) with ⟨w300v, w300q, w300x, w300_1, w300_2, w300_3, w300_4, w300_5, w300_6, w300_7, w300r⟩ | ⟨w300v, w300_5, w300z⟩
                · skip
                  refine zs_if_eqT (pc := 233) t237_233 rfl (by omega) ?_
                  refine zs_iconst (pc := 240) t237_240 (v := 0) (by decide) ?_
                  have w305 : (zI w294M 336 7).toInt = (zI w294M 336 7).toInt := (congrArg Int32.toInt rfl).trans rfl
                  have w306 : (zI w294M 336 6).toInt = (zI w294M 336 6).toInt := (congrArg Int32.toInt rfl).trans rfl
                  have w307 := li0
                  have w308 : (zI w294M 336 6).toInt = (zI w294M 336 6).toInt := (congrArg Int32.toInt rfl).trans rfl
                  have w309 : (zI w294M 336 7).toInt = (zI w294M 336 7).toInt := (congrArg Int32.toInt rfl).trans rfl
                  exact zs_iret (pc := 241) t237_241 mr237 (by decide) (hQ _ _ w294s w294I ((((((zFr.refl).put rfl).trans (w201F.mono rfl)).trans (w232F.mono rfl)).trans (w263F.mono rfl)).trans (w294F.mono rfl)) (w294J.trans (w263J.trans (w232J.trans w201J))) ((((((zUp.refl).put (Or.inl (by decide))).trans w201U).trans w232U).trans w263U).trans w294U) w294PR w294PC (by omega) (fun p hp => by
                      obtain rfl : w7n = p := (by omega)
                      exact Or.inr ⟨by first | decide | omega, by omega, (((((pIt.s (by omega)).trans (pB.y (by have z := w207_1; rw [show (0 : Int32).toInt = 0 by first | decide | omega, show (3 : Int32).toInt = 3 by first | decide | omega, show (44 : Int32).toInt = 44 by first | decide | omega] at z; exact z))).trans (pB.y (by have z := w238_1; rw [show (0 : Int32).toInt = 0 by first | decide | omega, show (20 : Int32).toInt = 20 by first | decide | omega, show (44 : Int32).toInt = 44 by first | decide | omega] at z; exact z))).trans (pB.y (by have z := w269_1; rw [show (1 : Int32).toInt = 1 by first | decide | omega, show (500 : Int32).toInt = 500 by first | decide | omega, show (44 : Int32).toInt = 44 by first | decide | omega] at z; exact z))).trans (pB.f (by have z := w300z; rw [show (2 : Int32).toInt = 2 by first | decide | omega, show (8 : Int32).toInt = 8 by first | decide | omega, show (59 : Int32).toInt = 59 by first | decide | omega] at z; exact z)))⟩) (by decide) (by decide))
                · skip
                  rw [show (8 : Int32).toInt.toNat = 8 by decide] at w300r
                  refine zs_if_eqF (pc := 233) t237_233 rfl (by omega) ?_
                  refine zs_iconst (pc := 236) t237_236 (v := 1) (by decide) ?_
                  refine zs_goto (pc := 237) t237_237 ?_
                  have w310 : (zI w294M 336 7).toInt = (zI w294M 336 7).toInt := (congrArg Int32.toInt rfl).trans rfl
                  have w311 : (zI w294M 336 6).toInt = (zI w294M 336 6).toInt := (congrArg Int32.toInt rfl).trans rfl
                  have w312 := li1
                  have w313 : (zI w294M 336 6).toInt = (zI w294M 336 6).toInt := (congrArg Int32.toInt rfl).trans rfl
                  have w314 : (zI w294M 336 7).toInt = (zI w294M 336 7).toInt := (congrArg Int32.toInt rfl).trans rfl
                  exact zs_iret (pc := 241) t237_241 mr237 (by decide) (hQ _ _ w294s w294I ((((((zFr.refl).put rfl).trans (w201F.mono rfl)).trans (w232F.mono rfl)).trans (w263F.mono rfl)).trans (w294F.mono rfl)) (w294J.trans (w263J.trans (w232J.trans w201J))) ((((((zUp.refl).put (Or.inl (by decide))).trans w201U).trans w232U).trans w263U).trans w294U) w294PR w294PC (by omega) (fun p hp => by
                      obtain rfl : w7n = p := (by omega)
                      exact Or.inl ⟨by first | decide | omega, w300q, _, (((((pIt.s (by omega)).trans (pB.y (by have z := w207_1; rw [show (0 : Int32).toInt = 0 by first | decide | omega, show (3 : Int32).toInt = 3 by first | decide | omega, show (44 : Int32).toInt = 44 by first | decide | omega] at z; exact z))).trans (pB.y (by have z := w238_1; rw [show (0 : Int32).toInt = 0 by first | decide | omega, show (20 : Int32).toInt = 20 by first | decide | omega, show (44 : Int32).toInt = 44 by first | decide | omega] at z; exact z))).trans (pB.y (by have z := w269_1; rw [show (1 : Int32).toInt = 1 by first | decide | omega, show (500 : Int32).toInt = 500 by first | decide | omega, show (44 : Int32).toInt = 44 by first | decide | omega] at z; exact z))).trans (pB.y (by have z := w300_1; rw [show (2 : Int32).toInt = 2 by first | decide | omega, show (8 : Int32).toInt = 8 by first | decide | omega, show (59 : Int32).toInt = 59 by first | decide | omega] at z; exact z))), by omega, by omega, by omega, by omega, w300r, x2.ss (by omega)⟩) (by decide) (by decide))
        by_cases w315 : (zhere M).toInt = 116
        · refine zs_tswI (pc := 76) t237_76 ((rfl : (zhere M).toInt = (zhere M).toInt).trans w315) (by decide) rfl (pc2 := 333) rfl ?_
          refine zs_aload_n (pc := 333) t237_333 rfl ?_
          refine zs_aload_n (pc := 334) t237_334 rfl ?_
          refine zs_get (pc := 335) t237_335 (by decide) (zk1 (hs.k fk_zMm_336)) (zfvi rfl zIs) ?_
          refine zs_iconst (pc := 338) t237_338 (v := 1) (by decide) ?_
          obtain ⟨w316v, w316e, w316⟩ := zisub (a := w24v) (b := (1 : Int32)) w24 li1 (by omega) (by omega)
          refine zs_isub (pc := 339) t237_339 (c := w316v) w316e ?_
          refine zs_invV (pc := 340) (k := 336) (as' := [.int w316v]) (st := []) t237_340 mf239 rfl rfl (Or.inl ⟨by decide, (zk1 (hs.k fk_zMm_336))⟩) ⟨by decide, by decide, Nat.le_of_ble_eq_true rfl, Nat.le_of_ble_eq_true rfl⟩ (zs_in (by decide) mf239 (Nat.le_of_ble_eq_true rfl) ?_) (fun _ _ q => q)
          show zGo X l 0 0 0 239 0 [(0, .ref 336), (1, .int w316v)] [] (zsI M 336 6 w24v) _
          refine zs_aload_n (pc := 0) t239_0 rfl ?_
          refine zs_iload_n (pc := 1) t239_1 rfl ?_
          have w317 : zIv mLo mHi (zsI (zsI M 336 6 w24v) 336 7 w316v) := zIv.put w25 (show (-1) ≤ w316v.toInt ∧ w316v.toInt ≤ 500 from ⟨by omega, by omega⟩)
          refine zs_putI (pc := 2) t239_2 (zk1 (hs.k fk_zMm_336)) rfl ?_
          refine zs_iconst (pc := 5) t239_5 (v := 0) (by decide) ?_
          refine zs_iret (pc := 6) t239_6 mr239 (by decide) ?_
          show zGo X l 5 0 0 237 343 [(1, .int (zhere M)), (0, .ref 336)] [.int (0 : Int32)] (zsI (zsI M 336 6 w24v) 336 7 w316v) _
          have w318 : (zI (zsI (zsI M 336 6 w24v) 336 7 w316v) 336 7).toInt = (((zI M 336 6).toInt + 1) - 1) := (congrArg Int32.toInt zIs).trans w316
          have w319 : (zI (zsI (zsI M 336 6 w24v) 336 7 w316v) 336 6).toInt = ((zI M 336 6).toInt + 1) := (congrArg Int32.toInt ((zIoj (by decide)).trans zIs)).trans w24
          have w320 := li0
          have w321 : (zI (zsI (zsI M 336 6 w24v) 336 7 w316v) 336 6).toInt = ((zI M 336 6).toInt + 1) := (congrArg Int32.toInt ((zIoj (by decide)).trans zIs)).trans w24
          have w322 : (zI (zsI (zsI M 336 6 w24v) 336 7 w316v) 336 7).toInt = (((zI M 336 6).toInt + 1) - 1) := (congrArg Int32.toInt zIs).trans w316
          exact zs_iret (pc := 343) t237_343 mr237 (by decide) (hQ _ _ hs w317 (((zFr.refl).put rfl).put rfl) rfl (((zUp.refl).put (Or.inl (by decide))).put (Or.inl (by decide))) (zPR.fr (M' := (zsI (zsI M 336 6 w24v) 336 7 w316v)) (zPR.fr (M' := (zsI M 336 6 w24v)) pR (zEq.put rfl)) (zEq.put rfl)) (zPC.fr (M' := (zsI (zsI M 336 6 w24v) 336 7 w316v)) (zPC.fr (M' := (zsI M 336 6 w24v)) pC (zEq.put rfl)) (zEq.put rfl)) (by omega) (fun p hp => by
              obtain rfl : w7n = p := (by omega)
              exact Or.inr ⟨by first | decide | omega, by omega, (by first | exact pIt.r0 (by omega) (by omega) | exact pIt.h0 (by omega) (by omega) | exact pIt.p0 (by omega) (by omega) | exact pIt.no (by omega))⟩) (by decide) (by decide))
        by_cases w323 : (zhere M).toInt = 117
        · refine zs_tswI (pc := 76) t237_76 ((rfl : (zhere M).toInt = (zhere M).toInt).trans w323) (by decide) rfl (pc2 := 333) rfl ?_
          refine zs_aload_n (pc := 333) t237_333 rfl ?_
          refine zs_aload_n (pc := 334) t237_334 rfl ?_
          refine zs_get (pc := 335) t237_335 (by decide) (zk1 (hs.k fk_zMm_336)) (zfvi rfl zIs) ?_
          refine zs_iconst (pc := 338) t237_338 (v := 1) (by decide) ?_
          obtain ⟨w324v, w324e, w324⟩ := zisub (a := w24v) (b := (1 : Int32)) w24 li1 (by omega) (by omega)
          refine zs_isub (pc := 339) t237_339 (c := w324v) w324e ?_
          refine zs_invV (pc := 340) (k := 336) (as' := [.int w324v]) (st := []) t237_340 mf239 rfl rfl (Or.inl ⟨by decide, (zk1 (hs.k fk_zMm_336))⟩) ⟨by decide, by decide, Nat.le_of_ble_eq_true rfl, Nat.le_of_ble_eq_true rfl⟩ (zs_in (by decide) mf239 (Nat.le_of_ble_eq_true rfl) ?_) (fun _ _ q => q)
          show zGo X l 0 0 0 239 0 [(0, .ref 336), (1, .int w324v)] [] (zsI M 336 6 w24v) _
          refine zs_aload_n (pc := 0) t239_0 rfl ?_
          refine zs_iload_n (pc := 1) t239_1 rfl ?_
          have w325 : zIv mLo mHi (zsI (zsI M 336 6 w24v) 336 7 w324v) := zIv.put w25 (show (-1) ≤ w324v.toInt ∧ w324v.toInt ≤ 500 from ⟨by omega, by omega⟩)
          refine zs_putI (pc := 2) t239_2 (zk1 (hs.k fk_zMm_336)) rfl ?_
          refine zs_iconst (pc := 5) t239_5 (v := 0) (by decide) ?_
          refine zs_iret (pc := 6) t239_6 mr239 (by decide) ?_
          show zGo X l 5 0 0 237 343 [(1, .int (zhere M)), (0, .ref 336)] [.int (0 : Int32)] (zsI (zsI M 336 6 w24v) 336 7 w324v) _
          have w326 : (zI (zsI (zsI M 336 6 w24v) 336 7 w324v) 336 7).toInt = (((zI M 336 6).toInt + 1) - 1) := (congrArg Int32.toInt zIs).trans w324
          have w327 : (zI (zsI (zsI M 336 6 w24v) 336 7 w324v) 336 6).toInt = ((zI M 336 6).toInt + 1) := (congrArg Int32.toInt ((zIoj (by decide)).trans zIs)).trans w24
          have w328 := li0
          have w329 : (zI (zsI (zsI M 336 6 w24v) 336 7 w324v) 336 6).toInt = ((zI M 336 6).toInt + 1) := (congrArg Int32.toInt ((zIoj (by decide)).trans zIs)).trans w24
          have w330 : (zI (zsI (zsI M 336 6 w24v) 336 7 w324v) 336 7).toInt = (((zI M 336 6).toInt + 1) - 1) := (congrArg Int32.toInt zIs).trans w324
          exact zs_iret (pc := 343) t237_343 mr237 (by decide) (hQ _ _ hs w325 (((zFr.refl).put rfl).put rfl) rfl (((zUp.refl).put (Or.inl (by decide))).put (Or.inl (by decide))) (zPR.fr (M' := (zsI (zsI M 336 6 w24v) 336 7 w324v)) (zPR.fr (M' := (zsI M 336 6 w24v)) pR (zEq.put rfl)) (zEq.put rfl)) (zPC.fr (M' := (zsI (zsI M 336 6 w24v) 336 7 w324v)) (zPC.fr (M' := (zsI M 336 6 w24v)) pC (zEq.put rfl)) (zEq.put rfl)) (by omega) (fun p hp => by
              obtain rfl : w7n = p := (by omega)
              exact Or.inr ⟨by first | decide | omega, by omega, (by first | exact pIt.r0 (by omega) (by omega) | exact pIt.h0 (by omega) (by omega) | exact pIt.p0 (by omega) (by omega) | exact pIt.no (by omega))⟩) (by decide) (by decide))
        by_cases w331 : (zhere M).toInt = 118
        · refine zs_tswI (pc := 76) t237_76 ((rfl : (zhere M).toInt = (zhere M).toInt).trans w331) (by decide) rfl (pc2 := 333) rfl ?_
          refine zs_aload_n (pc := 333) t237_333 rfl ?_
          refine zs_aload_n (pc := 334) t237_334 rfl ?_
          refine zs_get (pc := 335) t237_335 (by decide) (zk1 (hs.k fk_zMm_336)) (zfvi rfl zIs) ?_
          refine zs_iconst (pc := 338) t237_338 (v := 1) (by decide) ?_
          obtain ⟨w332v, w332e, w332⟩ := zisub (a := w24v) (b := (1 : Int32)) w24 li1 (by omega) (by omega)
          refine zs_isub (pc := 339) t237_339 (c := w332v) w332e ?_
          refine zs_invV (pc := 340) (k := 336) (as' := [.int w332v]) (st := []) t237_340 mf239 rfl rfl (Or.inl ⟨by decide, (zk1 (hs.k fk_zMm_336))⟩) ⟨by decide, by decide, Nat.le_of_ble_eq_true rfl, Nat.le_of_ble_eq_true rfl⟩ (zs_in (by decide) mf239 (Nat.le_of_ble_eq_true rfl) ?_) (fun _ _ q => q)
          show zGo X l 0 0 0 239 0 [(0, .ref 336), (1, .int w332v)] [] (zsI M 336 6 w24v) _
          refine zs_aload_n (pc := 0) t239_0 rfl ?_
          refine zs_iload_n (pc := 1) t239_1 rfl ?_
          have w333 : zIv mLo mHi (zsI (zsI M 336 6 w24v) 336 7 w332v) := zIv.put w25 (show (-1) ≤ w332v.toInt ∧ w332v.toInt ≤ 500 from ⟨by omega, by omega⟩)
          refine zs_putI (pc := 2) t239_2 (zk1 (hs.k fk_zMm_336)) rfl ?_
          refine zs_iconst (pc := 5) t239_5 (v := 0) (by decide) ?_
          refine zs_iret (pc := 6) t239_6 mr239 (by decide) ?_
          show zGo X l 5 0 0 237 343 [(1, .int (zhere M)), (0, .ref 336)] [.int (0 : Int32)] (zsI (zsI M 336 6 w24v) 336 7 w332v) _
          have w334 : (zI (zsI (zsI M 336 6 w24v) 336 7 w332v) 336 7).toInt = (((zI M 336 6).toInt + 1) - 1) := (congrArg Int32.toInt zIs).trans w332
          have w335 : (zI (zsI (zsI M 336 6 w24v) 336 7 w332v) 336 6).toInt = ((zI M 336 6).toInt + 1) := (congrArg Int32.toInt ((zIoj (by decide)).trans zIs)).trans w24
          have w336 := li0
          have w337 : (zI (zsI (zsI M 336 6 w24v) 336 7 w332v) 336 6).toInt = ((zI M 336 6).toInt + 1) := (congrArg Int32.toInt ((zIoj (by decide)).trans zIs)).trans w24
          have w338 : (zI (zsI (zsI M 336 6 w24v) 336 7 w332v) 336 7).toInt = (((zI M 336 6).toInt + 1) - 1) := (congrArg Int32.toInt zIs).trans w332
          exact zs_iret (pc := 343) t237_343 mr237 (by decide) (hQ _ _ hs w333 (((zFr.refl).put rfl).put rfl) rfl (((zUp.refl).put (Or.inl (by decide))).put (Or.inl (by decide))) (zPR.fr (M' := (zsI (zsI M 336 6 w24v) 336 7 w332v)) (zPR.fr (M' := (zsI M 336 6 w24v)) pR (zEq.put rfl)) (zEq.put rfl)) (zPC.fr (M' := (zsI (zsI M 336 6 w24v) 336 7 w332v)) (zPC.fr (M' := (zsI M 336 6 w24v)) pC (zEq.put rfl)) (zEq.put rfl)) (by omega) (fun p hp => by
              obtain rfl : w7n = p := (by omega)
              exact Or.inr ⟨by first | decide | omega, by omega, (by first | exact pIt.r0 (by omega) (by omega) | exact pIt.h0 (by omega) (by omega) | exact pIt.p0 (by omega) (by omega) | exact pIt.no (by omega))⟩) (by decide) (by decide))
        by_cases w339 : (zhere M).toInt = 119
        · refine zs_tswI (pc := 76) t237_76 ((rfl : (zhere M).toInt = (zhere M).toInt).trans w339) (by decide) rfl (pc2 := 255) rfl ?_
          refine zs_aload_n (pc := 255) t237_255 rfl ?_
          refine zs_bipush (pc := 256) t237_256 (v := 10) (by decide) ?_
          refine zs_iconst (pc := 258) t237_258 (v := 0) (by decide) ?_
          refine zs_sipush (pc := 259) t237_259 (v := 999) (by decide) ?_
          refine zs_bipush (pc := 262) t237_262 (v := 44) (by decide) ?_
          have w340 : (zI (zsI M 336 6 w24v) 336 6).toInt = ((zI M 336 6).toInt + 1) := (congrArg Int32.toInt zIs).trans w24
          have w341 : (10 : Int32).toInt = 10 := li10
          have w342 : (0 : Int32).toInt = 0 := li0
          have w343 : (999 : Int32).toInt = 999 := li999
          have w344 : (44 : Int32).toInt = 44 := li44
          have w345 : (zI (zsI M 336 6 w24v) 336 5).toInt = (zI M 336 5).toInt := (congrArg Int32.toInt ((zIoj (by decide)).trans rfl)).trans rfl
          have w346 : (zI (zsI M 336 6 w24v) 337 0).toInt = (zI M 337 0).toInt := (congrArg Int32.toInt ((zIo (by decide)).trans rfl)).trans rfl
          have w347 : (zI (zsI M 336 6 w24v) 336 6).toInt = ((zI M 336 6).toInt + 1) := (congrArg Int32.toInt zIs).trans w24
          have w348 : (zI (zsI M 336 6 w24v) 336 7).toInt = (zI M 336 7).toInt := (congrArg Int32.toInt ((zIoj (by decide)).trans rfl)).trans rfl
          have w349 : (zI (zsI M 336 6 w24v) 337 1).toInt = (zI M 337 1).toInt := (congrArg Int32.toInt ((zIo (by decide)).trans rfl)).trans rfl
          have w350 : (zI (zsI M 336 6 w24v) 337 0).toInt = (zI M 337 0).toInt := (congrArg Int32.toInt ((zIo (by decide)).trans rfl)).trans rfl
          have w351 : (zI (zsI M 336 6 w24v) 337 2).toInt = (zI M 337 2).toInt := (congrArg Int32.toInt ((zIo (by decide)).trans rfl)).trans rfl
          have w352 : (zI (zsI M 336 6 w24v) 336 6).toInt = ((zI M 336 6).toInt + 1) := (congrArg Int32.toInt zIs).trans w24
          have w353 : (zI (zsI M 336 6 w24v) 336 7).toInt = (zI M 336 7).toInt := (congrArg Int32.toInt ((zIoj (by decide)).trans rfl)).trans rfl
          have w354 : (zI (zsI M 336 6 w24v) 337 1).toInt = (zI M 337 1).toInt := (congrArg Int32.toInt ((zIo (by decide)).trans rfl)).trans rfl
          refine zs_invV (pc := 264) (k := 336) (as' := [.int (10 : Int32), .int (0 : Int32), .int (999 : Int32), .int (44 : Int32)]) (st := []) t237_264 mf242 rfl rfl (Or.inl ⟨by decide, (zk1 (hs.k fk_zMm_336))⟩) ⟨by decide, by decide, Nat.le_of_ble_eq_true rfl, Nat.le_of_ble_eq_true rfl⟩ (R242 hs w25 (zPR.fr (M' := (zsI M 336 6 w24v)) pR (zEq.put rfl)) (zPC.fr (M' := (zsI M 336 6 w24v)) pC (zEq.put rfl)) ⟨by decide, by decide⟩ ⟨by decide, by decide⟩ (by omega) (by omega) (by omega) (by omega) (by omega) (show 0 ≤ (0 : Int32).toInt ∧ (999 : Int32).toInt ≤ 999 from ⟨by omega, by omega⟩) (zRw.fr' x0 (fun j hj => (zIo (by decide)))) (zTm.mk x1 (fun j => (zIo (by decide))) (zIoj (by decide))) ?_) (fun _ _ q => q)
          intro w355M w355v w355s w355I w355F w355J w355U w355PR w355PC w355t0 w355t1 w355t2 w355t3 w355t4 w355x0 w355x1 w355x2 w355a w355b
          have w356 := ibA0 w355I
          have w357 := ibA2 w355I
          have w358 := ib336_6 w355I
          have w359 := ib336_7 w355I
          have w360 := ibA1 w355I
          show zGo X l 5 0 0 237 267 [(1, .int (zhere M)), (0, .ref 336)] [.int w355v] w355M _
          have w362 : (10 : Int32).toInt = 10 := li10
          have w363 : (0 : Int32).toInt = 0 := li0
          have w364 : (999 : Int32).toInt = 999 := li999
          have w365 : (44 : Int32).toInt = 44 := li44
          rcases w355x2 (w7n + 1) (by omega) with ⟨w361v, w361q, w361x, w361_1, w361_2, w361_3, w361_4, w361_5, w361_6, w361_7, w361r⟩ | ⟨w361v, w361_5, w361z⟩
          · skip
            refine zs_if_eqT (pc := 267) t237_267 rfl (by omega) ?_
            refine zs_iconst (pc := 295) t237_295 (v := 0) (by decide) ?_
            have w366 : (zI w355M 336 7).toInt = (zI w355M 336 7).toInt := (congrArg Int32.toInt rfl).trans rfl
            have w367 : (zI w355M 336 6).toInt = (zI w355M 336 6).toInt := (congrArg Int32.toInt rfl).trans rfl
            have w368 := li0
            have w369 : (zI w355M 336 6).toInt = (zI w355M 336 6).toInt := (congrArg Int32.toInt rfl).trans rfl
            have w370 : (zI w355M 336 7).toInt = (zI w355M 336 7).toInt := (congrArg Int32.toInt rfl).trans rfl
            exact zs_iret (pc := 296) t237_296 mr237 (by decide) (hQ _ _ w355s w355I (((zFr.refl).put rfl).trans (w355F.mono rfl)) w355J (((zUp.refl).put (Or.inl (by decide))).trans w355U) w355PR w355PC (by omega) (fun p hp => by
                obtain rfl : w7n = p := (by omega)
                exact Or.inr ⟨by first | decide | omega, by omega, ((pIt.w (by omega)).trans (pB.f (by have z := w361z; rw [show (0 : Int32).toInt = 0 by first | decide | omega, show (999 : Int32).toInt = 999 by first | decide | omega, show (44 : Int32).toInt = 44 by first | decide | omega] at z; exact z)))⟩) (by decide) (by decide))
          · skip
            rw [show (10 : Int32).toInt.toNat = 10 by decide] at w361r
            refine zs_if_eqF (pc := 267) t237_267 rfl (by omega) ?_
            refine zs_aload_n (pc := 270) t237_270 rfl ?_
            refine zs_bipush (pc := 271) t237_271 (v := 11) (by decide) ?_
            refine zs_aload_n (pc := 273) t237_273 rfl ?_
            refine zs_get (pc := 274) t237_274 (by decide) (zk1 (w355s.k fk_zMm_336)) (w355s.p rfl fv_zMm_336_0) ?_
            refine zs_bipush (pc := 277) t237_277 (v := 10) (by decide) ?_
            have w371 := ibA10 w355I
            have w372 : (zI w355M 337 10).toInt = (uS F 10 w361x) 10 := w361r.at (by decide) (by decide) (by decide)
            have w373 : (uS F 10 w361x) 10 = w361x := uS.s
            refine zs_iald (pc := 279) t237_279 (j := 10) (by decide) (zk1 (w355s.k fk_zMm_337)) li10 (zk2 (w355s.k fk_zMm_337) (by decide)) rfl ?_
            refine zs_sipush (pc := 280) t237_280 (v := 999) (by decide) ?_
            refine zs_bipush (pc := 283) t237_283 (v := 59) (by decide) ?_
            have w374 : (zI w355M 336 6).toInt = (zI w355M 336 6).toInt := (congrArg Int32.toInt rfl).trans rfl
            have w375 : (11 : Int32).toInt = 11 := li11
            have w376 : (999 : Int32).toInt = 999 := li999
            have w377 : (59 : Int32).toInt = 59 := li59
            have w378 : (zI w355M 336 5).toInt = (zI M 336 5).toInt := (congrArg Int32.toInt ((w355F 336 5 rfl).trans ((zIoj (by decide)).trans rfl))).trans rfl
            have w379 : (zI w355M 337 0).toInt = (zI w355M 337 0).toInt := (congrArg Int32.toInt rfl).trans rfl
            have w380 : (zI w355M 336 6).toInt = (zI w355M 336 6).toInt := (congrArg Int32.toInt rfl).trans rfl
            have w381 : (zI w355M 336 7).toInt = (zI w355M 336 7).toInt := (congrArg Int32.toInt rfl).trans rfl
            have w382 : (zI w355M 337 1).toInt = (zI w355M 337 1).toInt := (congrArg Int32.toInt rfl).trans rfl
            have w383 : (zI w355M 337 0).toInt = (zI w355M 337 0).toInt := (congrArg Int32.toInt rfl).trans rfl
            have w384 : (zI w355M 337 2).toInt = (zI w355M 337 2).toInt := (congrArg Int32.toInt rfl).trans rfl
            have w385 : (zI w355M 336 6).toInt = (zI w355M 336 6).toInt := (congrArg Int32.toInt rfl).trans rfl
            have w386 : (zI w355M 336 7).toInt = (zI w355M 336 7).toInt := (congrArg Int32.toInt rfl).trans rfl
            have w387 : (zI w355M 337 1).toInt = (zI w355M 337 1).toInt := (congrArg Int32.toInt rfl).trans rfl
            refine zs_invV (pc := 285) (k := 336) (as' := [.int (11 : Int32), .int (zI w355M 337 10), .int (999 : Int32), .int (59 : Int32)]) (st := []) t237_285 mf242 rfl rfl (Or.inl ⟨by decide, (zk1 (w355s.k fk_zMm_336))⟩) ⟨by decide, by decide, Nat.le_of_ble_eq_true rfl, Nat.le_of_ble_eq_true rfl⟩ (R242 w355s w355I w355PR w355PC ⟨by decide, by decide⟩ ⟨by decide, by decide⟩ (by omega) (by omega) (by omega) (by omega) (by omega) (show 0 ≤ (zI w355M 337 10).toInt ∧ (999 : Int32).toInt ≤ 999 from ⟨by omega, by omega⟩) w361r (zTm.mk x1 (fun j => ((w355F 339 j rfl).trans (zIo (by decide)))) ((w355F 336 5 rfl).trans (zIoj (by decide)))) ?_) (fun _ _ q => q)
            intro w388M w388v w388s w388I w388F w388J w388U w388PR w388PC w388t0 w388t1 w388t2 w388t3 w388t4 w388x0 w388x1 w388x2 w388a w388b
            have w389 := ibA0 w388I
            have w390 := ibA2 w388I
            have w391 := ib336_6 w388I
            have w392 := ib336_7 w388I
            have w393 := ibA1 w388I
            show zGo X l 5 0 0 237 288 [(1, .int (zhere M)), (0, .ref 336)] [.int w388v] w388M _
            have w395 : (11 : Int32).toInt = 11 := li11
            have w396 : (999 : Int32).toInt = 999 := li999
            have w397 : (59 : Int32).toInt = 59 := li59
            rcases w388x2 w361q (by omega) with ⟨w394v, w394q, w394x, w394_1, w394_2, w394_3, w394_4, w394_5, w394_6, w394_7, w394r⟩ | ⟨w394v, w394_5, w394z⟩
            · skip
              refine zs_if_eqT (pc := 288) t237_288 rfl (by omega) ?_
              refine zs_iconst (pc := 295) t237_295 (v := 0) (by decide) ?_
              have w398 : (zI w388M 336 7).toInt = (zI w388M 336 7).toInt := (congrArg Int32.toInt rfl).trans rfl
              have w399 : (zI w388M 336 6).toInt = (zI w388M 336 6).toInt := (congrArg Int32.toInt rfl).trans rfl
              have w400 := li0
              have w401 : (zI w388M 336 6).toInt = (zI w388M 336 6).toInt := (congrArg Int32.toInt rfl).trans rfl
              have w402 : (zI w388M 336 7).toInt = (zI w388M 336 7).toInt := (congrArg Int32.toInt rfl).trans rfl
              exact zs_iret (pc := 296) t237_296 mr237 (by decide) (hQ _ _ w388s w388I ((((zFr.refl).put rfl).trans (w355F.mono rfl)).trans (w388F.mono rfl)) (w388J.trans w355J) ((((zUp.refl).put (Or.inl (by decide))).trans w355U).trans w388U) w388PR w388PC (by omega) (fun p hp => by
                  obtain rfl : w7n = p := (by omega)
                  exact Or.inr ⟨by first | decide | omega, by omega, (((pIt.w (by omega)).trans (pB.y (by have z := w361_1; rw [show (0 : Int32).toInt = 0 by first | decide | omega, show (999 : Int32).toInt = 999 by first | decide | omega, show (44 : Int32).toInt = 44 by first | decide | omega] at z; exact z))).trans (pB.f (by have z := w394z; rw [show (zI w355M 337 10).toInt = w361x by first | decide | omega, show (999 : Int32).toInt = 999 by first | decide | omega, show (59 : Int32).toInt = 59 by first | decide | omega] at z; exact z)))⟩) (by decide) (by decide))
            · skip
              rw [show (11 : Int32).toInt.toNat = 11 by decide] at w394r
              refine zs_if_eqF (pc := 288) t237_288 rfl (by omega) ?_
              refine zs_iconst (pc := 291) t237_291 (v := 1) (by decide) ?_
              refine zs_goto (pc := 292) t237_292 ?_
              have w403 : (zI w388M 336 7).toInt = (zI w388M 336 7).toInt := (congrArg Int32.toInt rfl).trans rfl
              have w404 : (zI w388M 336 6).toInt = (zI w388M 336 6).toInt := (congrArg Int32.toInt rfl).trans rfl
              have w405 := li1
              have w406 : (zI w388M 336 6).toInt = (zI w388M 336 6).toInt := (congrArg Int32.toInt rfl).trans rfl
              have w407 : (zI w388M 336 7).toInt = (zI w388M 336 7).toInt := (congrArg Int32.toInt rfl).trans rfl
              exact zs_iret (pc := 296) t237_296 mr237 (by decide) (hQ _ _ w388s w388I ((((zFr.refl).put rfl).trans (w355F.mono rfl)).trans (w388F.mono rfl)) (w388J.trans w355J) ((((zUp.refl).put (Or.inl (by decide))).trans w355U).trans w388U) w388PR w388PC (by omega) (fun p hp => by
                  obtain rfl : w7n = p := (by omega)
                  exact Or.inl ⟨by first | decide | omega, w394q, _, (((pIt.w (by omega)).trans (pB.y (by have z := w361_1; rw [show (0 : Int32).toInt = 0 by first | decide | omega, show (999 : Int32).toInt = 999 by first | decide | omega, show (44 : Int32).toInt = 44 by first | decide | omega] at z; exact z))).trans (pB.y (by have z := w394_1; rw [show (zI w355M 337 10).toInt = w361x by first | decide | omega, show (999 : Int32).toInt = 999 by first | decide | omega, show (59 : Int32).toInt = 59 by first | decide | omega] at z; exact z))), by omega, by omega, by omega, by omega, w394r, x2.ww (by omega)⟩) (by decide) (by decide))
        refine zs_tswD (pc := 76) t237_76 rfl (by omega) (pc2 := 333) rfl ?_
        refine zs_aload_n (pc := 333) t237_333 rfl ?_
        refine zs_aload_n (pc := 334) t237_334 rfl ?_
        refine zs_get (pc := 335) t237_335 (by decide) (zk1 (hs.k fk_zMm_336)) (zfvi rfl zIs) ?_
        refine zs_iconst (pc := 338) t237_338 (v := 1) (by decide) ?_
        obtain ⟨w408v, w408e, w408⟩ := zisub (a := w24v) (b := (1 : Int32)) w24 li1 (by omega) (by omega)
        refine zs_isub (pc := 339) t237_339 (c := w408v) w408e ?_
        refine zs_invV (pc := 340) (k := 336) (as' := [.int w408v]) (st := []) t237_340 mf239 rfl rfl (Or.inl ⟨by decide, (zk1 (hs.k fk_zMm_336))⟩) ⟨by decide, by decide, Nat.le_of_ble_eq_true rfl, Nat.le_of_ble_eq_true rfl⟩ (zs_in (by decide) mf239 (Nat.le_of_ble_eq_true rfl) ?_) (fun _ _ q => q)
        show zGo X l 0 0 0 239 0 [(0, .ref 336), (1, .int w408v)] [] (zsI M 336 6 w24v) _
        refine zs_aload_n (pc := 0) t239_0 rfl ?_
        refine zs_iload_n (pc := 1) t239_1 rfl ?_
        have w409 : zIv mLo mHi (zsI (zsI M 336 6 w24v) 336 7 w408v) := zIv.put w25 (show (-1) ≤ w408v.toInt ∧ w408v.toInt ≤ 500 from ⟨by omega, by omega⟩)
        refine zs_putI (pc := 2) t239_2 (zk1 (hs.k fk_zMm_336)) rfl ?_
        refine zs_iconst (pc := 5) t239_5 (v := 0) (by decide) ?_
        refine zs_iret (pc := 6) t239_6 mr239 (by decide) ?_
        show zGo X l 5 0 0 237 343 [(1, .int (zhere M)), (0, .ref 336)] [.int (0 : Int32)] (zsI (zsI M 336 6 w24v) 336 7 w408v) _
        have w410 : (zI (zsI (zsI M 336 6 w24v) 336 7 w408v) 336 7).toInt = (((zI M 336 6).toInt + 1) - 1) := (congrArg Int32.toInt zIs).trans w408
        have w411 : (zI (zsI (zsI M 336 6 w24v) 336 7 w408v) 336 6).toInt = ((zI M 336 6).toInt + 1) := (congrArg Int32.toInt ((zIoj (by decide)).trans zIs)).trans w24
        have w412 := li0
        have w413 : (zI (zsI (zsI M 336 6 w24v) 336 7 w408v) 336 6).toInt = ((zI M 336 6).toInt + 1) := (congrArg Int32.toInt ((zIoj (by decide)).trans zIs)).trans w24
        have w414 : (zI (zsI (zsI M 336 6 w24v) 336 7 w408v) 336 7).toInt = (((zI M 336 6).toInt + 1) - 1) := (congrArg Int32.toInt zIs).trans w408
        exact zs_iret (pc := 343) t237_343 mr237 (by decide) (hQ _ _ hs w409 (((zFr.refl).put rfl).put rfl) rfl (((zUp.refl).put (Or.inl (by decide))).put (Or.inl (by decide))) (zPR.fr (M' := (zsI (zsI M 336 6 w24v) 336 7 w408v)) (zPR.fr (M' := (zsI M 336 6 w24v)) pR (zEq.put rfl)) (zEq.put rfl)) (zPC.fr (M' := (zsI (zsI M 336 6 w24v) 336 7 w408v)) (zPC.fr (M' := (zsI M 336 6 w24v)) pC (zEq.put rfl)) (zEq.put rfl)) (by omega) (fun p hp => by
            obtain rfl : w7n = p := (by omega)
            exact Or.inr ⟨by first | decide | omega, by omega, (by first | exact pIt.r0 (by omega) (by omega) | exact pIt.h0 (by omega) (by omega) | exact pIt.p0 (by omega) (by omega) | exact pIt.no (by omega))⟩) (by decide) (by decide))
      · refine zs_icmp_neF (pc := 42) t237_42 rfl li112 (by omega) ?_
        refine zs_aload_n (pc := 45) t237_45 rfl ?_
        refine zs_get (pc := 46) t237_46 (by decide) (zk1 (hs.k fk_zMm_336)) (hs.p rfl fv_zMm_336_0) ?_
        refine zs_iconst (pc := 49) t237_49 (v := 2) (by decide) ?_
        have w415 : (zI M 337 2).toInt = F 2 := x0.at (by decide) (by decide) (by decide)
        refine zs_iald (pc := 50) t237_50 (j := 2) (by decide) (zk1 (hs.k fk_zMm_337)) li2 (zk2 (hs.k fk_zMm_337) (by decide)) rfl ?_
        refine zs_bipush (pc := 51) t237_51 (v := 12) (by decide) ?_
        by_cases w416 : (zI M 337 2).toInt ≠ 12
        · refine zs_icmp_neT (pc := 53) t237_53 rfl li12 (by omega) ?_
          refine zs_aload_n (pc := 65) t237_65 rfl ?_
          refine zs_dup (pc := 66) t237_66 rfl ?_
          refine zs_get (pc := 67) t237_67 (by decide) (zk1 (hs.k fk_zMm_336)) (zfvi rfl rfl) ?_
          refine zs_iconst (pc := 70) t237_70 (v := 1) (by decide) ?_
          obtain ⟨w417v, w417e, w417⟩ := ziadd (a := (zI M 336 6)) (b := (1 : Int32)) rfl li1 (by omega) (by omega)
          refine zs_iadd (pc := 71) t237_71 (c := w417v) w417e ?_
          have w418 : zIv mLo mHi (zsI M 336 6 w417v) := zIv.put hI (show 0 ≤ w417v.toInt ∧ w417v.toInt ≤ 500 from ⟨by omega, by omega⟩)
          refine zs_putI (pc := 72) t237_72 (zk1 (hs.k fk_zMm_336)) rfl ?_
          refine zs_iload_n (pc := 75) t237_75 rfl ?_
          by_cases w419 : (zhere M).toInt = 112
          · refine zs_tswI (pc := 76) t237_76 ((rfl : (zhere M).toInt = (zhere M).toInt).trans w419) (by decide) rfl (pc2 := 170) rfl ?_
            refine zs_aload_n (pc := 170) t237_170 rfl ?_
            refine zs_aload_n (pc := 171) t237_171 rfl ?_
            refine zs_get (pc := 172) t237_172 (by decide) (zk1 (hs.k fk_zMm_336)) (zfvi rfl zIs) ?_
            refine zs_iconst (pc := 175) t237_175 (v := 1) (by decide) ?_
            obtain ⟨w420v, w420e, w420⟩ := zisub (a := w417v) (b := (1 : Int32)) w417 li1 (by omega) (by omega)
            refine zs_isub (pc := 176) t237_176 (c := w420v) w420e ?_
            have w421 : (zI (zsI M 336 6 w417v) 336 6).toInt = ((zI M 336 6).toInt + 1) := (congrArg Int32.toInt zIs).trans w417
            have w422 : w420v.toInt = (((zI M 336 6).toInt + 1) - 1) := w420
            have w423 : (zI (zsI M 336 6 w417v) 336 5).toInt = (zI M 336 5).toInt := (congrArg Int32.toInt ((zIoj (by decide)).trans rfl)).trans rfl
            have w424 : (zI (zsI M 336 6 w417v) 337 2).toInt = (zI M 337 2).toInt := (congrArg Int32.toInt ((zIo (by decide)).trans rfl)).trans rfl
            have w425 : (zI (zsI M 336 6 w417v) 336 7).toInt = (zI M 336 7).toInt := (congrArg Int32.toInt ((zIoj (by decide)).trans rfl)).trans rfl
            have w426 : (zI (zsI M 336 6 w417v) 336 6).toInt = ((zI M 336 6).toInt + 1) := (congrArg Int32.toInt zIs).trans w417
            have w427 : (zI (zsI M 336 6 w417v) 336 7).toInt = (zI M 336 7).toInt := (congrArg Int32.toInt ((zIoj (by decide)).trans rfl)).trans rfl
            have w428 : (zI (zsI M 336 6 w417v) 336 6).toInt = ((zI M 336 6).toInt + 1) := (congrArg Int32.toInt zIs).trans w417
            refine zs_invV (pc := 177) (k := 336) (as' := [.int w420v]) (st := []) t237_177 mf248 rfl rfl (Or.inl ⟨by decide, (zk1 (hs.k fk_zMm_336))⟩) ⟨by decide, by decide, Nat.le_of_ble_eq_true rfl, Nat.le_of_ble_eq_true rfl⟩ (R248 hs w418 (zPR.fr (M' := (zsI M 336 6 w417v)) pR (zEq.put rfl)) (zPC.fr (M' := (zsI M 336 6 w417v)) pC (zEq.put rfl)) ⟨by omega, by omega⟩ (by omega) (by omega) (by omega) (by omega) (zRw.fr' x0 (fun j hj => (zIo (by decide)))) (zTm.mk x1 (fun j => (zIo (by decide))) (zIoj (by decide))) x2 ?_) (fun _ _ q => q)
            intro w429M w429v w429s w429I w429F w429J w429U w429PR w429PC w429t0 w429t1 w429x0 w429a w429b
            have w430 := ib336_7 w429I
            have w431 := ib336_6 w429I
            show zGo X l 5 0 0 237 180 [(1, .int (zhere M)), (0, .ref 336)] [.int w429v] w429M _
            have w432 : (zI w429M 336 7).toInt = (zI w429M 336 7).toInt := (congrArg Int32.toInt rfl).trans rfl
            have w433 : (zI w429M 336 6).toInt = (zI w429M 336 6).toInt := (congrArg Int32.toInt rfl).trans rfl
            have w434 : (zI w429M 336 6).toInt = (zI w429M 336 6).toInt := (congrArg Int32.toInt rfl).trans rfl
            have w435 : (zI w429M 336 7).toInt = (zI w429M 336 7).toInt := (congrArg Int32.toInt rfl).trans rfl
            exact zs_iret (pc := 180) t237_180 mr237 (zfb01 (by omega)) (hQ _ _ w429s w429I (((zFr.refl).put rfl).trans (w429F.mono rfl)) w429J (((zUp.refl).put (Or.inl (by decide))).trans w429U) w429PR w429PC (by omega) (fun p hp => by
                obtain rfl : w7n = p := (by omega)
                rcases w429x0 (w7n + 1) (by omega) with ⟨q1, q, F2, q2, q3, q4, q5, q6, q7, q8⟩ | ⟨q1, q2, q3⟩
                · exact Or.inl ⟨by omega, q, F2, (pIt.p (by omega) (by omega)).trans q2, by omega, by omega, by omega, by omega, q7, q8⟩
                · exact Or.inr ⟨by omega, by omega, (pIt.p (by omega) (by omega)).trans q3⟩) (by omega) (by omega))
          refine zs_tswD (pc := 76) t237_76 rfl (by omega) (pc2 := 333) rfl ?_
          refine zs_aload_n (pc := 333) t237_333 rfl ?_
          refine zs_aload_n (pc := 334) t237_334 rfl ?_
          refine zs_get (pc := 335) t237_335 (by decide) (zk1 (hs.k fk_zMm_336)) (zfvi rfl zIs) ?_
          refine zs_iconst (pc := 338) t237_338 (v := 1) (by decide) ?_
          obtain ⟨w436v, w436e, w436⟩ := zisub (a := w417v) (b := (1 : Int32)) w417 li1 (by omega) (by omega)
          refine zs_isub (pc := 339) t237_339 (c := w436v) w436e ?_
          refine zs_invV (pc := 340) (k := 336) (as' := [.int w436v]) (st := []) t237_340 mf239 rfl rfl (Or.inl ⟨by decide, (zk1 (hs.k fk_zMm_336))⟩) ⟨by decide, by decide, Nat.le_of_ble_eq_true rfl, Nat.le_of_ble_eq_true rfl⟩ (zs_in (by decide) mf239 (Nat.le_of_ble_eq_true rfl) ?_) (fun _ _ q => q)
          show zGo X l 0 0 0 239 0 [(0, .ref 336), (1, .int w436v)] [] (zsI M 336 6 w417v) _
          refine zs_aload_n (pc := 0) t239_0 rfl ?_
          refine zs_iload_n (pc := 1) t239_1 rfl ?_
          have w437 : zIv mLo mHi (zsI (zsI M 336 6 w417v) 336 7 w436v) := zIv.put w418 (show (-1) ≤ w436v.toInt ∧ w436v.toInt ≤ 500 from ⟨by omega, by omega⟩)
          refine zs_putI (pc := 2) t239_2 (zk1 (hs.k fk_zMm_336)) rfl ?_
          refine zs_iconst (pc := 5) t239_5 (v := 0) (by decide) ?_
          refine zs_iret (pc := 6) t239_6 mr239 (by decide) ?_
          show zGo X l 5 0 0 237 343 [(1, .int (zhere M)), (0, .ref 336)] [.int (0 : Int32)] (zsI (zsI M 336 6 w417v) 336 7 w436v) _
          have w438 : (zI (zsI (zsI M 336 6 w417v) 336 7 w436v) 336 7).toInt = (((zI M 336 6).toInt + 1) - 1) := (congrArg Int32.toInt zIs).trans w436
          have w439 : (zI (zsI (zsI M 336 6 w417v) 336 7 w436v) 336 6).toInt = ((zI M 336 6).toInt + 1) := (congrArg Int32.toInt ((zIoj (by decide)).trans zIs)).trans w417
          have w440 := li0
          have w441 : (zI (zsI (zsI M 336 6 w417v) 336 7 w436v) 336 6).toInt = ((zI M 336 6).toInt + 1) := (congrArg Int32.toInt ((zIoj (by decide)).trans zIs)).trans w417
          have w442 : (zI (zsI (zsI M 336 6 w417v) 336 7 w436v) 336 7).toInt = (((zI M 336 6).toInt + 1) - 1) := (congrArg Int32.toInt zIs).trans w436
          exact zs_iret (pc := 343) t237_343 mr237 (by decide) (hQ _ _ hs w437 (((zFr.refl).put rfl).put rfl) rfl (((zUp.refl).put (Or.inl (by decide))).put (Or.inl (by decide))) (zPR.fr (M' := (zsI (zsI M 336 6 w417v) 336 7 w436v)) (zPR.fr (M' := (zsI M 336 6 w417v)) pR (zEq.put rfl)) (zEq.put rfl)) (zPC.fr (M' := (zsI (zsI M 336 6 w417v) 336 7 w436v)) (zPC.fr (M' := (zsI M 336 6 w417v)) pC (zEq.put rfl)) (zEq.put rfl)) (by omega) (fun p hp => by
              obtain rfl : w7n = p := (by omega)
              exact Or.inr ⟨by first | decide | omega, by omega, (by first | exact pIt.r0 (by omega) (by omega) | exact pIt.h0 (by omega) (by omega) | exact pIt.p0 (by omega) (by omega) | exact pIt.no (by omega))⟩) (by decide) (by decide))
        · refine zs_icmp_neF (pc := 53) t237_53 rfl li12 (by omega) ?_
          refine zs_aload_n (pc := 56) t237_56 rfl ?_
          refine zs_aload_n (pc := 57) t237_57 rfl ?_
          refine zs_get (pc := 58) t237_58 (by decide) (zk1 (hs.k fk_zMm_336)) (zfvi rfl rfl) ?_
          refine zs_invV (pc := 61) (k := 336) (as' := [.int (zI M 336 6)]) (st := []) t237_61 mf239 rfl rfl (Or.inl ⟨by decide, (zk1 (hs.k fk_zMm_336))⟩) ⟨by decide, by decide, Nat.le_of_ble_eq_true rfl, Nat.le_of_ble_eq_true rfl⟩ (zs_in (by decide) mf239 (Nat.le_of_ble_eq_true rfl) ?_) (fun _ _ q => q)
          show zGo X l 0 0 0 239 0 [(0, .ref 336), (1, .int (zI M 336 6))] [] M _
          refine zs_aload_n (pc := 0) t239_0 rfl ?_
          refine zs_iload_n (pc := 1) t239_1 rfl ?_
          have w443 : zIv mLo mHi (zsI M 336 7 (zI M 336 6)) := zIv.put hI (show (-1) ≤ (zI M 336 6).toInt ∧ (zI M 336 6).toInt ≤ 500 from ⟨by omega, by omega⟩)
          refine zs_putI (pc := 2) t239_2 (zk1 (hs.k fk_zMm_336)) rfl ?_
          refine zs_iconst (pc := 5) t239_5 (v := 0) (by decide) ?_
          refine zs_iret (pc := 6) t239_6 mr239 (by decide) ?_
          show zGo X l 5 0 0 237 64 [(1, .int (zhere M)), (0, .ref 336)] [.int (0 : Int32)] (zsI M 336 7 (zI M 336 6)) _
          have w444 : (zI (zsI M 336 7 (zI M 336 6)) 336 7).toInt = (zI M 336 6).toInt := (congrArg Int32.toInt zIs).trans rfl
          have w445 : (zI (zsI M 336 7 (zI M 336 6)) 336 6).toInt = (zI M 336 6).toInt := (congrArg Int32.toInt ((zIoj (by decide)).trans rfl)).trans rfl
          have w446 := li0
          have w447 : (zI (zsI M 336 7 (zI M 336 6)) 336 6).toInt = (zI M 336 6).toInt := (congrArg Int32.toInt ((zIoj (by decide)).trans rfl)).trans rfl
          have w448 : (zI (zsI M 336 7 (zI M 336 6)) 336 7).toInt = (zI M 336 6).toInt := (congrArg Int32.toInt zIs).trans rfl
          exact zs_iret (pc := 64) t237_64 mr237 (by decide) (hQ _ _ hs w443 ((zFr.refl).put rfl) rfl ((zUp.refl).put (Or.inl (by decide))) (zPR.fr (M' := (zsI M 336 7 (zI M 336 6))) pR (zEq.put rfl)) (zPC.fr (M' := (zsI M 336 7 (zI M 336 6))) pC (zEq.put rfl)) (by omega) (fun p hp => by
              obtain rfl : w7n = p := (by omega)
              exact Or.inr ⟨by first | decide | omega, by omega, (by first | exact pIt.r0 (by omega) (by omega) | exact pIt.h0 (by omega) (by omega) | exact pIt.p0 (by omega) (by omega) | exact pIt.no (by omega))⟩) (by decide) (by decide))
    · refine zs_icmp_neF (pc := 25) t237_25 rfl li104 (by omega) ?_
      refine zs_aload_n (pc := 28) t237_28 rfl ?_
      refine zs_get (pc := 29) t237_29 (by decide) (zk1 (hs.k fk_zMm_336)) (hs.p rfl fv_zMm_336_0) ?_
      refine zs_iconst (pc := 32) t237_32 (v := 1) (by decide) ?_
      have w449 : (zI M 337 1).toInt = F 1 := x0.at (by decide) (by decide) (by decide)
      refine zs_iald (pc := 33) t237_33 (j := 1) (by decide) (zk1 (hs.k fk_zMm_337)) li1 (zk2 (hs.k fk_zMm_337) (by decide)) rfl ?_
      refine zs_bipush (pc := 34) t237_34 (v := 60) (by decide) ?_
      by_cases w450 : (zI M 337 1).toInt = 60
      · refine zs_icmp_eqT (pc := 36) t237_36 rfl li60 (by omega) ?_
        refine zs_aload_n (pc := 56) t237_56 rfl ?_
        refine zs_aload_n (pc := 57) t237_57 rfl ?_
        refine zs_get (pc := 58) t237_58 (by decide) (zk1 (hs.k fk_zMm_336)) (zfvi rfl rfl) ?_
        refine zs_invV (pc := 61) (k := 336) (as' := [.int (zI M 336 6)]) (st := []) t237_61 mf239 rfl rfl (Or.inl ⟨by decide, (zk1 (hs.k fk_zMm_336))⟩) ⟨by decide, by decide, Nat.le_of_ble_eq_true rfl, Nat.le_of_ble_eq_true rfl⟩ (zs_in (by decide) mf239 (Nat.le_of_ble_eq_true rfl) ?_) (fun _ _ q => q)
        show zGo X l 0 0 0 239 0 [(0, .ref 336), (1, .int (zI M 336 6))] [] M _
        refine zs_aload_n (pc := 0) t239_0 rfl ?_
        refine zs_iload_n (pc := 1) t239_1 rfl ?_
        have w451 : zIv mLo mHi (zsI M 336 7 (zI M 336 6)) := zIv.put hI (show (-1) ≤ (zI M 336 6).toInt ∧ (zI M 336 6).toInt ≤ 500 from ⟨by omega, by omega⟩)
        refine zs_putI (pc := 2) t239_2 (zk1 (hs.k fk_zMm_336)) rfl ?_
        refine zs_iconst (pc := 5) t239_5 (v := 0) (by decide) ?_
        refine zs_iret (pc := 6) t239_6 mr239 (by decide) ?_
        show zGo X l 5 0 0 237 64 [(1, .int (zhere M)), (0, .ref 336)] [.int (0 : Int32)] (zsI M 336 7 (zI M 336 6)) _
        have w452 : (zI (zsI M 336 7 (zI M 336 6)) 336 7).toInt = (zI M 336 6).toInt := (congrArg Int32.toInt zIs).trans rfl
        have w453 : (zI (zsI M 336 7 (zI M 336 6)) 336 6).toInt = (zI M 336 6).toInt := (congrArg Int32.toInt ((zIoj (by decide)).trans rfl)).trans rfl
        have w454 := li0
        have w455 : (zI (zsI M 336 7 (zI M 336 6)) 336 6).toInt = (zI M 336 6).toInt := (congrArg Int32.toInt ((zIoj (by decide)).trans rfl)).trans rfl
        have w456 : (zI (zsI M 336 7 (zI M 336 6)) 336 7).toInt = (zI M 336 6).toInt := (congrArg Int32.toInt zIs).trans rfl
        exact zs_iret (pc := 64) t237_64 mr237 (by decide) (hQ _ _ hs w451 ((zFr.refl).put rfl) rfl ((zUp.refl).put (Or.inl (by decide))) (zPR.fr (M' := (zsI M 336 7 (zI M 336 6))) pR (zEq.put rfl)) (zPC.fr (M' := (zsI M 336 7 (zI M 336 6))) pC (zEq.put rfl)) (by omega) (fun p hp => by
            obtain rfl : w7n = p := (by omega)
            exact Or.inr ⟨by first | decide | omega, by omega, (by first | exact pIt.r0 (by omega) (by omega) | exact pIt.h0 (by omega) (by omega) | exact pIt.p0 (by omega) (by omega) | exact pIt.no (by omega))⟩) (by decide) (by decide))
      · refine zs_icmp_eqF (pc := 36) t237_36 rfl li60 (by omega) ?_
        refine zs_iload_n (pc := 39) t237_39 rfl ?_
        refine zs_bipush (pc := 40) t237_40 (v := 112) (by decide) ?_
        refine zs_icmp_neT (pc := 42) t237_42 rfl li112 (by omega) ?_
        refine zs_aload_n (pc := 65) t237_65 rfl ?_
        refine zs_dup (pc := 66) t237_66 rfl ?_
        refine zs_get (pc := 67) t237_67 (by decide) (zk1 (hs.k fk_zMm_336)) (zfvi rfl rfl) ?_
        refine zs_iconst (pc := 70) t237_70 (v := 1) (by decide) ?_
        obtain ⟨w457v, w457e, w457⟩ := ziadd (a := (zI M 336 6)) (b := (1 : Int32)) rfl li1 (by omega) (by omega)
        refine zs_iadd (pc := 71) t237_71 (c := w457v) w457e ?_
        have w458 : zIv mLo mHi (zsI M 336 6 w457v) := zIv.put hI (show 0 ≤ w457v.toInt ∧ w457v.toInt ≤ 500 from ⟨by omega, by omega⟩)
        refine zs_putI (pc := 72) t237_72 (zk1 (hs.k fk_zMm_336)) rfl ?_
        refine zs_iload_n (pc := 75) t237_75 rfl ?_
        by_cases w459 : (zhere M).toInt = 104
        · refine zs_tswI (pc := 76) t237_76 ((rfl : (zhere M).toInt = (zhere M).toInt).trans w459) (by decide) rfl (pc2 := 165) rfl ?_
          refine zs_aload_n (pc := 165) t237_165 rfl ?_
          have w460 : (zI (zsI M 336 6 w457v) 336 6).toInt = ((zI M 336 6).toInt + 1) := (congrArg Int32.toInt zIs).trans w457
          have w461 : (zI (zsI M 336 6 w457v) 336 5).toInt = (zI M 336 5).toInt := (congrArg Int32.toInt ((zIoj (by decide)).trans rfl)).trans rfl
          have w462 : (zI (zsI M 336 6 w457v) 336 7).toInt = (zI M 336 7).toInt := (congrArg Int32.toInt ((zIoj (by decide)).trans rfl)).trans rfl
          have w463 : (zI (zsI M 336 6 w457v) 336 6).toInt = ((zI M 336 6).toInt + 1) := (congrArg Int32.toInt zIs).trans w457
          have w464 : (zI (zsI M 336 6 w457v) 337 1).toInt = (zI M 337 1).toInt := (congrArg Int32.toInt ((zIo (by decide)).trans rfl)).trans rfl
          have w465 : (zI (zsI M 336 6 w457v) 336 7).toInt = (zI M 336 7).toInt := (congrArg Int32.toInt ((zIoj (by decide)).trans rfl)).trans rfl
          have w466 : (zI (zsI M 336 6 w457v) 336 6).toInt = ((zI M 336 6).toInt + 1) := (congrArg Int32.toInt zIs).trans w457
          refine zs_invV (pc := 166) (k := 336) (as' := []) (st := []) t237_166 mf247 rfl rfl (Or.inl ⟨by decide, (zk1 (hs.k fk_zMm_336))⟩) ⟨by decide, by decide, Nat.le_of_ble_eq_true rfl, Nat.le_of_ble_eq_true rfl⟩ (R247 hs w458 (zPR.fr (M' := (zsI M 336 6 w457v)) pR (zEq.put rfl)) (zPC.fr (M' := (zsI M 336 6 w457v)) pC (zEq.put rfl)) (by omega) (by omega) (by omega) (by omega) (zRw.fr' x0 (fun j hj => (zIo (by decide)))) (zTm.mk x1 (fun j => (zIo (by decide))) (zIoj (by decide))) x2 ?_) (fun _ _ q => q)
          intro w467M w467v w467s w467I w467F w467J w467U w467PR w467PC w467t0 w467t1 w467x0 w467a w467b
          have w468 := ib336_7 w467I
          have w469 := ib336_6 w467I
          show zGo X l 5 0 0 237 169 [(1, .int (zhere M)), (0, .ref 336)] [.int w467v] w467M _
          have w470 : (zI w467M 336 7).toInt = (zI w467M 336 7).toInt := (congrArg Int32.toInt rfl).trans rfl
          have w471 : (zI w467M 336 6).toInt = (zI w467M 336 6).toInt := (congrArg Int32.toInt rfl).trans rfl
          have w472 : (zI w467M 336 6).toInt = (zI w467M 336 6).toInt := (congrArg Int32.toInt rfl).trans rfl
          have w473 : (zI w467M 336 7).toInt = (zI w467M 336 7).toInt := (congrArg Int32.toInt rfl).trans rfl
          exact zs_iret (pc := 169) t237_169 mr237 (zfb01 (by omega)) (hQ _ _ w467s w467I (((zFr.refl).put rfl).trans (w467F.mono rfl)) w467J (((zUp.refl).put (Or.inl (by decide))).trans w467U) w467PR w467PC (by omega) (fun p hp => by
              obtain rfl : w7n = p := (by omega)
              rcases w467x0 (w7n + 1) (by omega) with ⟨q1, q, F2, q2, q3, q4, q5, q6, q7, q8⟩ | ⟨q1, q2, q3⟩
              · exact Or.inl ⟨by omega, q, F2, (pIt.h (by omega) (by omega)).trans q2, by omega, by omega, by omega, by omega, q7, q8⟩
              · exact Or.inr ⟨by omega, by omega, (pIt.h (by omega) (by omega)).trans q3⟩) (by omega) (by omega))
        refine zs_tswD (pc := 76) t237_76 rfl (by omega) (pc2 := 333) rfl ?_
        refine zs_aload_n (pc := 333) t237_333 rfl ?_
        refine zs_aload_n (pc := 334) t237_334 rfl ?_
        refine zs_get (pc := 335) t237_335 (by decide) (zk1 (hs.k fk_zMm_336)) (zfvi rfl zIs) ?_
        refine zs_iconst (pc := 338) t237_338 (v := 1) (by decide) ?_
        obtain ⟨w474v, w474e, w474⟩ := zisub (a := w457v) (b := (1 : Int32)) w457 li1 (by omega) (by omega)
        refine zs_isub (pc := 339) t237_339 (c := w474v) w474e ?_
        refine zs_invV (pc := 340) (k := 336) (as' := [.int w474v]) (st := []) t237_340 mf239 rfl rfl (Or.inl ⟨by decide, (zk1 (hs.k fk_zMm_336))⟩) ⟨by decide, by decide, Nat.le_of_ble_eq_true rfl, Nat.le_of_ble_eq_true rfl⟩ (zs_in (by decide) mf239 (Nat.le_of_ble_eq_true rfl) ?_) (fun _ _ q => q)
        show zGo X l 0 0 0 239 0 [(0, .ref 336), (1, .int w474v)] [] (zsI M 336 6 w457v) _
        refine zs_aload_n (pc := 0) t239_0 rfl ?_
        refine zs_iload_n (pc := 1) t239_1 rfl ?_
        have w475 : zIv mLo mHi (zsI (zsI M 336 6 w457v) 336 7 w474v) := zIv.put w458 (show (-1) ≤ w474v.toInt ∧ w474v.toInt ≤ 500 from ⟨by omega, by omega⟩)
        refine zs_putI (pc := 2) t239_2 (zk1 (hs.k fk_zMm_336)) rfl ?_
        refine zs_iconst (pc := 5) t239_5 (v := 0) (by decide) ?_
        refine zs_iret (pc := 6) t239_6 mr239 (by decide) ?_
        show zGo X l 5 0 0 237 343 [(1, .int (zhere M)), (0, .ref 336)] [.int (0 : Int32)] (zsI (zsI M 336 6 w457v) 336 7 w474v) _
        have w476 : (zI (zsI (zsI M 336 6 w457v) 336 7 w474v) 336 7).toInt = (((zI M 336 6).toInt + 1) - 1) := (congrArg Int32.toInt zIs).trans w474
        have w477 : (zI (zsI (zsI M 336 6 w457v) 336 7 w474v) 336 6).toInt = ((zI M 336 6).toInt + 1) := (congrArg Int32.toInt ((zIoj (by decide)).trans zIs)).trans w457
        have w478 := li0
        have w479 : (zI (zsI (zsI M 336 6 w457v) 336 7 w474v) 336 6).toInt = ((zI M 336 6).toInt + 1) := (congrArg Int32.toInt ((zIoj (by decide)).trans zIs)).trans w457
        have w480 : (zI (zsI (zsI M 336 6 w457v) 336 7 w474v) 336 7).toInt = (((zI M 336 6).toInt + 1) - 1) := (congrArg Int32.toInt zIs).trans w474
        exact zs_iret (pc := 343) t237_343 mr237 (by decide) (hQ _ _ hs w475 (((zFr.refl).put rfl).put rfl) rfl (((zUp.refl).put (Or.inl (by decide))).put (Or.inl (by decide))) (zPR.fr (M' := (zsI (zsI M 336 6 w457v) 336 7 w474v)) (zPR.fr (M' := (zsI M 336 6 w457v)) pR (zEq.put rfl)) (zEq.put rfl)) (zPC.fr (M' := (zsI (zsI M 336 6 w457v) 336 7 w474v)) (zPC.fr (M' := (zsI M 336 6 w457v)) pC (zEq.put rfl)) (zEq.put rfl)) (by omega) (fun p hp => by
            obtain rfl : w7n = p := (by omega)
            exact Or.inr ⟨by first | decide | omega, by omega, (by first | exact pIt.r0 (by omega) (by omega) | exact pIt.h0 (by omega) (by omega) | exact pIt.p0 (by omega) (by omega) | exact pIt.no (by omega))⟩) (by decide) (by decide))
  · refine zs_icmp_neF (pc := 8) t237_8 rfl li114 (by omega) ?_
    refine zs_aload_n (pc := 11) t237_11 rfl ?_
    refine zs_get (pc := 12) t237_12 (by decide) (zk1 (hs.k fk_zMm_336)) (hs.p rfl fv_zMm_336_0) ?_
    refine zs_iconst (pc := 15) t237_15 (v := 0) (by decide) ?_
    have w481 : (zI M 337 0).toInt = F 0 := x0.at (by decide) (by decide) (by decide)
    refine zs_iald (pc := 16) t237_16 (j := 0) (by decide) (zk1 (hs.k fk_zMm_337)) li0 (zk2 (hs.k fk_zMm_337) (by decide)) rfl ?_
    refine zs_bipush (pc := 17) t237_17 (v := 8) (by decide) ?_
    by_cases w482 : (zI M 337 0).toInt = 8
    · refine zs_icmp_eqT (pc := 19) t237_19 rfl li8 (by omega) ?_
      refine zs_aload_n (pc := 56) t237_56 rfl ?_
      refine zs_aload_n (pc := 57) t237_57 rfl ?_
      refine zs_get (pc := 58) t237_58 (by decide) (zk1 (hs.k fk_zMm_336)) (zfvi rfl rfl) ?_
      refine zs_invV (pc := 61) (k := 336) (as' := [.int (zI M 336 6)]) (st := []) t237_61 mf239 rfl rfl (Or.inl ⟨by decide, (zk1 (hs.k fk_zMm_336))⟩) ⟨by decide, by decide, Nat.le_of_ble_eq_true rfl, Nat.le_of_ble_eq_true rfl⟩ (zs_in (by decide) mf239 (Nat.le_of_ble_eq_true rfl) ?_) (fun _ _ q => q)
      show zGo X l 0 0 0 239 0 [(0, .ref 336), (1, .int (zI M 336 6))] [] M _
      refine zs_aload_n (pc := 0) t239_0 rfl ?_
      refine zs_iload_n (pc := 1) t239_1 rfl ?_
      have w483 : zIv mLo mHi (zsI M 336 7 (zI M 336 6)) := zIv.put hI (show (-1) ≤ (zI M 336 6).toInt ∧ (zI M 336 6).toInt ≤ 500 from ⟨by omega, by omega⟩)
      refine zs_putI (pc := 2) t239_2 (zk1 (hs.k fk_zMm_336)) rfl ?_
      refine zs_iconst (pc := 5) t239_5 (v := 0) (by decide) ?_
      refine zs_iret (pc := 6) t239_6 mr239 (by decide) ?_
      show zGo X l 5 0 0 237 64 [(1, .int (zhere M)), (0, .ref 336)] [.int (0 : Int32)] (zsI M 336 7 (zI M 336 6)) _
      have w484 : (zI (zsI M 336 7 (zI M 336 6)) 336 7).toInt = (zI M 336 6).toInt := (congrArg Int32.toInt zIs).trans rfl
      have w485 : (zI (zsI M 336 7 (zI M 336 6)) 336 6).toInt = (zI M 336 6).toInt := (congrArg Int32.toInt ((zIoj (by decide)).trans rfl)).trans rfl
      have w486 := li0
      have w487 : (zI (zsI M 336 7 (zI M 336 6)) 336 6).toInt = (zI M 336 6).toInt := (congrArg Int32.toInt ((zIoj (by decide)).trans rfl)).trans rfl
      have w488 : (zI (zsI M 336 7 (zI M 336 6)) 336 7).toInt = (zI M 336 6).toInt := (congrArg Int32.toInt zIs).trans rfl
      exact zs_iret (pc := 64) t237_64 mr237 (by decide) (hQ _ _ hs w483 ((zFr.refl).put rfl) rfl ((zUp.refl).put (Or.inl (by decide))) (zPR.fr (M' := (zsI M 336 7 (zI M 336 6))) pR (zEq.put rfl)) (zPC.fr (M' := (zsI M 336 7 (zI M 336 6))) pC (zEq.put rfl)) (by omega) (fun p hp => by
          obtain rfl : w7n = p := (by omega)
          exact Or.inr ⟨by first | decide | omega, by omega, (by first | exact pIt.r0 (by omega) (by omega) | exact pIt.h0 (by omega) (by omega) | exact pIt.p0 (by omega) (by omega) | exact pIt.no (by omega))⟩) (by decide) (by decide))
    · refine zs_icmp_eqF (pc := 19) t237_19 rfl li8 (by omega) ?_
      refine zs_iload_n (pc := 22) t237_22 rfl ?_
      refine zs_bipush (pc := 23) t237_23 (v := 104) (by decide) ?_
      refine zs_icmp_neT (pc := 25) t237_25 rfl li104 (by omega) ?_
      refine zs_iload_n (pc := 39) t237_39 rfl ?_
      refine zs_bipush (pc := 40) t237_40 (v := 112) (by decide) ?_
      refine zs_icmp_neT (pc := 42) t237_42 rfl li112 (by omega) ?_
      refine zs_aload_n (pc := 65) t237_65 rfl ?_
      refine zs_dup (pc := 66) t237_66 rfl ?_
      refine zs_get (pc := 67) t237_67 (by decide) (zk1 (hs.k fk_zMm_336)) (zfvi rfl rfl) ?_
      refine zs_iconst (pc := 70) t237_70 (v := 1) (by decide) ?_
      obtain ⟨w489v, w489e, w489⟩ := ziadd (a := (zI M 336 6)) (b := (1 : Int32)) rfl li1 (by omega) (by omega)
      refine zs_iadd (pc := 71) t237_71 (c := w489v) w489e ?_
      have w490 : zIv mLo mHi (zsI M 336 6 w489v) := zIv.put hI (show 0 ≤ w489v.toInt ∧ w489v.toInt ≤ 500 from ⟨by omega, by omega⟩)
      refine zs_putI (pc := 72) t237_72 (zk1 (hs.k fk_zMm_336)) rfl ?_
      refine zs_iload_n (pc := 75) t237_75 rfl ?_
      by_cases w491 : (zhere M).toInt = 114
      · refine zs_tswI (pc := 76) t237_76 ((rfl : (zhere M).toInt = (zhere M).toInt).trans w491) (by decide) rfl (pc2 := 160) rfl ?_
        refine zs_aload_n (pc := 160) t237_160 rfl ?_
        have w492 : (zI (zsI M 336 6 w489v) 336 6).toInt = ((zI M 336 6).toInt + 1) := (congrArg Int32.toInt zIs).trans w489
        have w493 : (zI (zsI M 336 6 w489v) 337 0).toInt = (zI M 337 0).toInt := (congrArg Int32.toInt ((zIo (by decide)).trans rfl)).trans rfl
        have w494 : (zI (zsI M 336 6 w489v) 336 5).toInt = (zI M 336 5).toInt := (congrArg Int32.toInt ((zIoj (by decide)).trans rfl)).trans rfl
        have w495 : (zI (zsI M 336 6 w489v) 336 7).toInt = (zI M 336 7).toInt := (congrArg Int32.toInt ((zIoj (by decide)).trans rfl)).trans rfl
        have w496 : (zI (zsI M 336 6 w489v) 336 6).toInt = ((zI M 336 6).toInt + 1) := (congrArg Int32.toInt zIs).trans w489
        have w497 : (zI (zsI M 336 6 w489v) 336 7).toInt = (zI M 336 7).toInt := (congrArg Int32.toInt ((zIoj (by decide)).trans rfl)).trans rfl
        have w498 : (zI (zsI M 336 6 w489v) 336 6).toInt = ((zI M 336 6).toInt + 1) := (congrArg Int32.toInt zIs).trans w489
        refine zs_invV (pc := 161) (k := 336) (as' := []) (st := []) t237_161 mf240 rfl rfl (Or.inl ⟨by decide, (zk1 (hs.k fk_zMm_336))⟩) ⟨by decide, by decide, Nat.le_of_ble_eq_true rfl, Nat.le_of_ble_eq_true rfl⟩ (R240 hs w490 (zPR.fr (M' := (zsI M 336 6 w489v)) pR (zEq.put rfl)) (zPC.fr (M' := (zsI M 336 6 w489v)) pC (zEq.put rfl)) (by omega) (by omega) (by omega) (by omega) (zRw.fr' x0 (fun j hj => (zIo (by decide)))) (zTm.mk x1 (fun j => (zIo (by decide))) (zIoj (by decide))) x2 ?_) (fun _ _ q => q)
        intro w499M w499v w499s w499I w499F w499J w499U w499PR w499PC w499t0 w499t1 w499x0 w499a w499b
        have w500 := ib336_7 w499I
        have w501 := ib336_6 w499I
        show zGo X l 5 0 0 237 164 [(1, .int (zhere M)), (0, .ref 336)] [.int w499v] w499M _
        have w502 : (zI w499M 336 7).toInt = (zI w499M 336 7).toInt := (congrArg Int32.toInt rfl).trans rfl
        have w503 : (zI w499M 336 6).toInt = (zI w499M 336 6).toInt := (congrArg Int32.toInt rfl).trans rfl
        have w504 : (zI w499M 336 6).toInt = (zI w499M 336 6).toInt := (congrArg Int32.toInt rfl).trans rfl
        have w505 : (zI w499M 336 7).toInt = (zI w499M 336 7).toInt := (congrArg Int32.toInt rfl).trans rfl
        exact zs_iret (pc := 164) t237_164 mr237 (zfb01 (by omega)) (hQ _ _ w499s w499I (((zFr.refl).put rfl).trans (w499F.mono rfl)) w499J (((zUp.refl).put (Or.inl (by decide))).trans w499U) w499PR w499PC (by omega) (fun p hp => by
            obtain rfl : w7n = p := (by omega)
            rcases w499x0 (w7n + 1) (by omega) with ⟨q1, q, F2, q2, q3, q4, q5, q6, q7, q8⟩ | ⟨q1, q2, q3⟩
            · exact Or.inl ⟨by omega, q, F2, (pIt.r (by omega) (by omega)).trans q2, by omega, by omega, by omega, by omega, q7, q8⟩
            · exact Or.inr ⟨by omega, by omega, (pIt.r (by omega) (by omega)).trans q3⟩) (by omega) (by omega))
      refine zs_tswD (pc := 76) t237_76 rfl (by omega) (pc2 := 333) rfl ?_
      refine zs_aload_n (pc := 333) t237_333 rfl ?_
      refine zs_aload_n (pc := 334) t237_334 rfl ?_
      refine zs_get (pc := 335) t237_335 (by decide) (zk1 (hs.k fk_zMm_336)) (zfvi rfl zIs) ?_
      refine zs_iconst (pc := 338) t237_338 (v := 1) (by decide) ?_
      obtain ⟨w506v, w506e, w506⟩ := zisub (a := w489v) (b := (1 : Int32)) w489 li1 (by omega) (by omega)
      refine zs_isub (pc := 339) t237_339 (c := w506v) w506e ?_
      refine zs_invV (pc := 340) (k := 336) (as' := [.int w506v]) (st := []) t237_340 mf239 rfl rfl (Or.inl ⟨by decide, (zk1 (hs.k fk_zMm_336))⟩) ⟨by decide, by decide, Nat.le_of_ble_eq_true rfl, Nat.le_of_ble_eq_true rfl⟩ (zs_in (by decide) mf239 (Nat.le_of_ble_eq_true rfl) ?_) (fun _ _ q => q)
      show zGo X l 0 0 0 239 0 [(0, .ref 336), (1, .int w506v)] [] (zsI M 336 6 w489v) _
      refine zs_aload_n (pc := 0) t239_0 rfl ?_
      refine zs_iload_n (pc := 1) t239_1 rfl ?_
      have w507 : zIv mLo mHi (zsI (zsI M 336 6 w489v) 336 7 w506v) := zIv.put w490 (show (-1) ≤ w506v.toInt ∧ w506v.toInt ≤ 500 from ⟨by omega, by omega⟩)
      refine zs_putI (pc := 2) t239_2 (zk1 (hs.k fk_zMm_336)) rfl ?_
      refine zs_iconst (pc := 5) t239_5 (v := 0) (by decide) ?_
      refine zs_iret (pc := 6) t239_6 mr239 (by decide) ?_
      show zGo X l 5 0 0 237 343 [(1, .int (zhere M)), (0, .ref 336)] [.int (0 : Int32)] (zsI (zsI M 336 6 w489v) 336 7 w506v) _
      have w508 : (zI (zsI (zsI M 336 6 w489v) 336 7 w506v) 336 7).toInt = (((zI M 336 6).toInt + 1) - 1) := (congrArg Int32.toInt zIs).trans w506
      have w509 : (zI (zsI (zsI M 336 6 w489v) 336 7 w506v) 336 6).toInt = ((zI M 336 6).toInt + 1) := (congrArg Int32.toInt ((zIoj (by decide)).trans zIs)).trans w489
      have w510 := li0
      have w511 : (zI (zsI (zsI M 336 6 w489v) 336 7 w506v) 336 6).toInt = ((zI M 336 6).toInt + 1) := (congrArg Int32.toInt ((zIoj (by decide)).trans zIs)).trans w489
      have w512 : (zI (zsI (zsI M 336 6 w489v) 336 7 w506v) 336 7).toInt = (((zI M 336 6).toInt + 1) - 1) := (congrArg Int32.toInt zIs).trans w506
      exact zs_iret (pc := 343) t237_343 mr237 (by decide) (hQ _ _ hs w507 (((zFr.refl).put rfl).put rfl) rfl (((zUp.refl).put (Or.inl (by decide))).put (Or.inl (by decide))) (zPR.fr (M' := (zsI (zsI M 336 6 w489v) 336 7 w506v)) (zPR.fr (M' := (zsI M 336 6 w489v)) pR (zEq.put rfl)) (zEq.put rfl)) (zPC.fr (M' := (zsI (zsI M 336 6 w489v) 336 7 w506v)) (zPC.fr (M' := (zsI M 336 6 w489v)) pC (zEq.put rfl)) (zEq.put rfl)) (by omega) (fun p hp => by
          obtain rfl : w7n = p := (by omega)
          exact Or.inr ⟨by first | decide | omega, by omega, (by first | exact pIt.r0 (by omega) (by omega) | exact pIt.h0 (by omega) (by omega) | exact pIt.p0 (by omega) (by omega) | exact pIt.no (by omega))⟩) (by decide) (by decide))
