theorem E255 {X : zX} {l : Launch} {M : zM} {Q : Option Value → zM → Prop} (hs : zSk zMm M) (hI : zIv mLo mHi M) {gg : Nat → Int} {nn : Int} {c0 : pC} (pN : zGn M) (pH : zGh M ((zI M 336 12).toInt - (zI M 336 14).toInt)) (pX : zXm M 1 gg nn c0) (u0 : (zI M 336 11).toInt + (zI M 336 12).toInt ≤ 5 * (zI M 336 13).toInt) (u1 : 2 * ((zI M 336 12).toInt - (zI M 336 14).toInt) ≤ (zI M 336 13).toInt) (u2 : (zI M 336 6).toInt ≤ (zI M 336 5).toInt) (u3 : (zI M 336 7).toInt = -1) (x0 : zTm M gg nn) (hQ : ∀ (M' : zM) (v : Int32), zSk zMm M' → zIv mLo mHi M' → zFr [(336, 336, some 6), (336, 336, some 7), (336, 336, some 8), (336, 336, some 11), (336, 336, some 13), (340, 340, none), (336, 336, some 12), (336, 336, some 14), (341, 341, none)] M M' → zJ M' 351 = zJ M 351 → (v.toInt = 0 ∨ zCd (zI M' 340) (zI M' 336 11).toInt) → (zo5 M' v.toInt nn gg c0) → 0 ≤ v.toInt → v.toInt ≤ 1 → Q (some (.int v)) M') : zCall X l 6 0 0 255 [.ref 336] M Q := by
  refine zs_in (by decide) mf255 (Nat.le_of_ble_eq_true rfl) ?_
  show zGo X l 6 0 0 255 0 [(0, .ref 336)] [] M _
  have w1 := ib336_5 hI
  have w2 : (zI M 336 5).toInt = (zI M 336 5).toInt := (congrArg Int32.toInt rfl).trans rfl
  have w3 := ib336_6 hI
  have w4 : (zI M 336 6).toInt = (zI M 336 6).toInt := (congrArg Int32.toInt rfl).trans rfl
  have w5 := ib336_11 hI
  have w6 : (zI M 336 11).toInt = (zI M 336 11).toInt := (congrArg Int32.toInt rfl).trans rfl
  have w7 := ib336_12 hI
  have w8 : (zI M 336 12).toInt = (zI M 336 12).toInt := (congrArg Int32.toInt rfl).trans rfl
  have w9 := ib336_13 hI
  have w10 : (zI M 336 13).toInt = (zI M 336 13).toInt := (congrArg Int32.toInt rfl).trans rfl
  have w11 := ib336_14 hI
  have w12 : (zI M 336 14).toInt = (zI M 336 14).toInt := (congrArg Int32.toInt rfl).trans rfl
  have hn := x0.2
  have w13 : (zI M 336 5).toInt = (zI M 336 5).toInt := (congrArg Int32.toInt rfl).trans rfl
  have w14 : (zI M 336 6).toInt = (zI M 336 6).toInt := (congrArg Int32.toInt rfl).trans rfl
  have w15 := ib336_7 hI
  have w16 : (zI M 336 7).toInt = (zI M 336 7).toInt := (congrArg Int32.toInt rfl).trans rfl
  have w17 : (zI M 336 12).toInt = (zI M 336 12).toInt := (congrArg Int32.toInt rfl).trans rfl
  have w18 : (zI M 336 13).toInt = (zI M 336 13).toInt := (congrArg Int32.toInt rfl).trans rfl
  have w19 : (zI M 336 14).toInt = (zI M 336 14).toInt := (congrArg Int32.toInt rfl).trans rfl
  obtain ⟨w20n, w20⟩ : ∃ n : Nat, (zI M 336 6).toInt = (n : Int) := ⟨((zI M 336 6).toInt).toNat, by omega⟩
  refine zs_iconst (pc := 0) t255_0 (v := 1) (by decide) ?_
  refine zs_istore_n (pc := 1) t255_1 (ls' := [(1, .int (1 : Int32)), (0, .ref 336)]) (zml mf255 (by decide)) rfl ?_
  have w21L : ∀ (m : Nat) (w21x1 : Int32) (w21M : zM), (0 ≤ w21x1.toInt ∧ w21x1.toInt ≤ 1) → zSk zMm w21M → zIv mLo mHi w21M → zFr [(336, 336, some 6), (336, 336, some 7), (336, 336, some 8), (336, 336, some 11), (336, 336, some 13), (340, 340, none), (336, 336, some 12), (336, 336, some 14), (341, 341, none)] M w21M → zJ w21M 351 = zJ M 351 → zGn w21M → zGh w21M (((zI w21M 336 12).toInt - (zI w21M 336 14).toInt) + 1 - w21x1.toInt) → zXm w21M w21x1.toInt gg nn c0 → ((zI w21M 336 11).toInt + (zI w21M 336 12).toInt ≤ 5 * (zI w21M 336 13).toInt) → (w21x1.toInt = 0 ∨ 2 * ((zI w21M 336 12).toInt - (zI w21M 336 14).toInt) ≤ (zI w21M 336 13).toInt) → ((zI w21M 336 6).toInt ≤ nn) → ((zI w21M 336 7).toInt = -1) → 2 * (500 - (zI w21M 336 6).toInt) + w21x1.toInt ≤ (m : Int) → zGo X l 6 0 0 255 2 [(0, .ref 336), (1, .int w21x1)] [] w21M Q := by
    intro m
    induction m using Nat.strongRecOn with
    | ind w21m w21ih =>
      intro w21x1 w21M w21b1 w21s w21I w21F w21J w21PN w21PH w21PX w21r0 w21r1 w21r2 w21r3 w21q
      have w22 := ib336_11 w21I
      have w23 := ib336_12 w21I
      have w24 := ib336_13 w21I
      have w25 := ib336_14 w21I
      have w26 := ib336_6 w21I
      have w27 := ib336_7 w21I
      refine zs_iload_n (pc := 2) t255_2 rfl ?_
      by_cases w28 : w21x1.toInt = 0
      · refine zs_if_eqT (pc := 3) t255_3 rfl (by omega) ?_
        have w29L : ∀ (m : Nat) (w29M : zM), zSk zMm w29M → zIv mLo mHi w29M → zFr [(336, 336, some 12), (336, 336, some 11), (340, 340, none)] w21M w29M → zJ w29M 351 = zJ w21M 351 → zGn w29M → zGh w29M (((zI w29M 336 12).toInt - (zI w29M 336 14).toInt) + 1) → zXm w29M 0 gg nn c0 → ((zI w29M 336 12).toInt ≤ (zI w21M 336 12).toInt) → ((zI w29M 336 11).toInt + (zI w29M 336 12).toInt = (zI w21M 336 11).toInt + (zI w21M 336 12).toInt) → ((zI w29M 336 6).toInt ≤ nn) → (zI w29M 336 12).toInt ≤ (m : Int) → zGo X l 6 0 0 255 109 [(0, .ref 336), (1, .int w21x1)] [] w29M Q := by
          intro m
          induction m using Nat.strongRecOn with
          | ind w29m w29ih =>
            intro w29M w29s w29I w29F w29J w29PN w29PH w29PX w29r0 w29r1 w29r2 w29q
            have w30 := ib336_12 w29I
            have w31 : (zI w21M 336 12).toInt = (zI w21M 336 12).toInt := (congrArg Int32.toInt rfl).trans rfl
            have w32 := ib336_11 w29I
            have w33 : (zI w21M 336 11).toInt = (zI w21M 336 11).toInt := (congrArg Int32.toInt rfl).trans rfl
            have w34 : (zI w21M 336 12).toInt = (zI w21M 336 12).toInt := (congrArg Int32.toInt rfl).trans rfl
            refine zs_aload_n (pc := 109) t255_109 rfl ?_
            refine zs_bipush (pc := 110) t255_110 (v := 38) (by decide) ?_
            have w35 : (38 : Int32).toInt = 38 := li38
            refine zs_invV (pc := 112) (k := 336) (as' := [.int (38 : Int32)]) (st := []) t255_112 mf264 rfl rfl (Or.inl ⟨by decide, (zk1 (w29s.k fk_zMm_336))⟩) ⟨by decide, by decide, Nat.le_of_ble_eq_true rfl, Nat.le_of_ble_eq_true rfl⟩ (K264 w29s w29I ?_) (fun _ _ q => q)
            intro w36v w36x0 w36a w36b
            show zGo X l 6 0 0 255 115 [(0, .ref 336), (1, .int w21x1)] [.int w36v] w29M _
            rcases w36x0 with w37 | w37
            · skip
              have w371 := w37.1
              have w38 : (zI w29M 336 12).toInt = (zI w29M 336 12).toInt := (congrArg Int32.toInt rfl).trans rfl
              have w372 := w37.2.1
              obtain ⟨w37n, w37ne⟩ : ∃ n : Nat, (n : Int) + 1 = (zI w29M 336 12).toInt := ⟨((zI w29M 336 12).toInt - 1).toNat, by omega⟩
              have w373 := w37.2.2 w37n w37ne
              refine zs_if_neT (pc := 115) t255_115 rfl (by omega) ?_
              refine zs_aload_n (pc := 127) t255_127 rfl ?_
              have w39 : (zI w29M 336 11).toInt = (zI w29M 336 11).toInt := (congrArg Int32.toInt rfl).trans rfl
              have w40 : (zI w29M 336 12).toInt = (zI w29M 336 12).toInt := (congrArg Int32.toInt rfl).trans rfl
              have w41 : (zI w29M 336 11).toInt = (zI w29M 336 11).toInt := (congrArg Int32.toInt rfl).trans rfl
              have w42 : (zI w29M 336 12).toInt = (zI w29M 336 12).toInt := (congrArg Int32.toInt rfl).trans rfl
              have w43 := zGn.le w29PN
              have w44 : (zI w29M 336 12).toInt = (zI w29M 336 12).toInt := (congrArg Int32.toInt rfl).trans rfl
              have w45 : (zI w29M 336 14).toInt = (zI w21M 336 14).toInt := (congrArg Int32.toInt ((w29F 336 14 rfl).trans rfl)).trans rfl
              have w47 : (zI w29M 336 14).toInt = (zI w21M 336 14).toInt := (congrArg Int32.toInt ((w29F 336 14 rfl).trans rfl)).trans rfl
              have w48 : (zI w29M 336 12).toInt = (zI w29M 336 12).toInt := (congrArg Int32.toInt rfl).trans rfl
              have w46z := zGn.bin (n := w37n) w29PN (by omega) (by omega)
              have w46y := znest.nn (zI w29M 341) w37n
              refine zs_invV (pc := 128) (k := 336) (as' := []) (st := []) t255_128 mf265 rfl rfl (Or.inl ⟨by decide, (zk1 (w29s.k fk_zMm_336))⟩) ⟨by decide, by decide, Nat.le_of_ble_eq_true rfl, Nat.le_of_ble_eq_true rfl⟩ (K265 (hq := (((zI w29M 336 12).toInt - (zI w29M 336 14).toInt) + 1) - 1) w29s w29I w29PH (by omega) (by omega) (fun n hn => by obtain rfl : n = w37n := (by omega); omega) ?_) (fun _ _ q => q)
              intro w49M w49s w49I w49F w49J w49PH w49t0 w49t1
              have w50 := ib336_11 w49I
              have w51 := ib336_12 w49I
              have w52 : (zI w29M 336 14).toInt = (zI w21M 336 14).toInt := (congrArg Int32.toInt ((w29F 336 14 rfl).trans rfl)).trans rfl
              have w49z := zGn.bin (n := w37n) w29PN (by omega) (by omega)
              have w49y := znest.nn (zI w29M 341) w37n
              have w53 : (zI w49M 336 14).toInt = (zI w21M 336 14).toInt := (congrArg Int32.toInt ((w49F 336 14 rfl).trans ((w29F 336 14 rfl).trans rfl))).trans rfl
              have w54 : (zI w49M 336 12).toInt = (zI w49M 336 12).toInt := (congrArg Int32.toInt rfl).trans rfl
              have w49N : zGn w49M := zGn.popb (n := w37n) w29PN (by omega) (by omega) (fun j => w49F 341 j rfl) (by omega) (by omega)
              have w55 : (zI w29M 336 12).toInt = (zI w29M 336 12).toInt := (congrArg Int32.toInt rfl).trans rfl
              have w56 : (zI w49M 336 12).toInt = (zI w49M 336 12).toInt := (congrArg Int32.toInt rfl).trans rfl
              have w49X : zXm w49M 0 gg nn c0 := zXm.popb (w := w37n) w29PX (by omega) (by omega) (fun j => w49F 341 j rfl) (by omega) (w49F 336 6 rfl) (w49F 336 13 rfl)
              show zGo X l 6 0 0 255 131 [(0, .ref 336), (1, .int w21x1)] [] w49M _
              refine zs_goto (pc := 131) t255_131 ?_
              refine zGo.locals (ls' := [(0, .ref 336), (1, .int w21x1)]) (by simp) ?_
              have w57 : (zI w49M 336 12).toInt = (zI w49M 336 12).toInt := (congrArg Int32.toInt rfl).trans rfl
              have w58 : (zI w49M 336 14).toInt = (zI w21M 336 14).toInt := (congrArg Int32.toInt ((w49F 336 14 rfl).trans ((w29F 336 14 rfl).trans rfl))).trans rfl
              have w59 : (zI w49M 336 12).toInt = (zI w49M 336 12).toInt := (congrArg Int32.toInt rfl).trans rfl
              have w60 : (zI w49M 336 11).toInt = (zI w49M 336 11).toInt := (congrArg Int32.toInt rfl).trans rfl
              have w61 : (zI w49M 336 12).toInt = (zI w49M 336 12).toInt := (congrArg Int32.toInt rfl).trans rfl
              have w62 : (zI w49M 336 6).toInt = (zI w21M 336 6).toInt := (congrArg Int32.toInt ((w49F 336 6 rfl).trans ((w29F 336 6 rfl).trans rfl))).trans rfl
              have w63 : (zI w49M 336 12).toInt = (zI w49M 336 12).toInt := (congrArg Int32.toInt rfl).trans rfl
              exact w29ih (w29m - 1) (by omega) w49M w49s w49I (((zFr.refl).trans (w29F.mono rfl)).trans (w49F.mono rfl)) (w49J.trans w29J) w49N (zGh.cast w49PH (by omega)) (zXm.cast w49X (by omega)) (by omega) (by omega) (by omega) (by omega)
            · skip
              have w371 := w37.1
              have w64 : (zI w29M 336 12).toInt = (zI w29M 336 12).toInt := (congrArg Int32.toInt rfl).trans rfl
              refine zs_if_neF (pc := 115) t255_115 rfl (by omega) ?_
              refine zs_aload_n (pc := 118) t255_118 rfl ?_
              refine zs_bipush (pc := 119) t255_119 (v := 124) (by decide) ?_
              have w65 : (124 : Int32).toInt = 124 := li124
              refine zs_invV (pc := 121) (k := 336) (as' := [.int (124 : Int32)]) (st := []) t255_121 mf264 rfl rfl (Or.inl ⟨by decide, (zk1 (w29s.k fk_zMm_336))⟩) ⟨by decide, by decide, Nat.le_of_ble_eq_true rfl, Nat.le_of_ble_eq_true rfl⟩ (K264 w29s w29I ?_) (fun _ _ q => q)
              intro w66v w66x0 w66a w66b
              show zGo X l 6 0 0 255 124 [(0, .ref 336), (1, .int w21x1)] [.int w66v] w29M _
              rcases w66x0 with w67 | w67
              · skip
                have w671 := w67.1
                have w68 : (zI w29M 336 12).toInt = (zI w29M 336 12).toInt := (congrArg Int32.toInt rfl).trans rfl
                have w672 := w67.2.1
                obtain ⟨w67n, w67ne⟩ : ∃ n : Nat, (n : Int) + 1 = (zI w29M 336 12).toInt := ⟨((zI w29M 336 12).toInt - 1).toNat, by omega⟩
                have w673 := w67.2.2 w67n w67ne
                refine zs_if_eqF (pc := 124) t255_124 rfl (by omega) ?_
                refine zs_aload_n (pc := 127) t255_127 rfl ?_
                have w69 : (zI w29M 336 11).toInt = (zI w29M 336 11).toInt := (congrArg Int32.toInt rfl).trans rfl
                have w70 : (zI w29M 336 12).toInt = (zI w29M 336 12).toInt := (congrArg Int32.toInt rfl).trans rfl
                have w71 : (zI w29M 336 11).toInt = (zI w29M 336 11).toInt := (congrArg Int32.toInt rfl).trans rfl
                have w72 : (zI w29M 336 12).toInt = (zI w29M 336 12).toInt := (congrArg Int32.toInt rfl).trans rfl
                have w73 := zGn.le w29PN
                have w74 : (zI w29M 336 12).toInt = (zI w29M 336 12).toInt := (congrArg Int32.toInt rfl).trans rfl
                have w75 : (zI w29M 336 14).toInt = (zI w21M 336 14).toInt := (congrArg Int32.toInt ((w29F 336 14 rfl).trans rfl)).trans rfl
                have w77 : (zI w29M 336 14).toInt = (zI w21M 336 14).toInt := (congrArg Int32.toInt ((w29F 336 14 rfl).trans rfl)).trans rfl
                have w78 : (zI w29M 336 12).toInt = (zI w29M 336 12).toInt := (congrArg Int32.toInt rfl).trans rfl
                have w76z := zGn.bin (n := w67n) w29PN (by omega) (by omega)
                have w76y := znest.nn (zI w29M 341) w67n
                refine zs_invV (pc := 128) (k := 336) (as' := []) (st := []) t255_128 mf265 rfl rfl (Or.inl ⟨by decide, (zk1 (w29s.k fk_zMm_336))⟩) ⟨by decide, by decide, Nat.le_of_ble_eq_true rfl, Nat.le_of_ble_eq_true rfl⟩ (K265 (hq := (((zI w29M 336 12).toInt - (zI w29M 336 14).toInt) + 1) - 1) w29s w29I w29PH (by omega) (by omega) (fun n hn => by obtain rfl : n = w67n := (by omega); omega) ?_) (fun _ _ q => q)
                intro w79M w79s w79I w79F w79J w79PH w79t0 w79t1
                have w80 := ib336_11 w79I
                have w81 := ib336_12 w79I
                have w82 : (zI w29M 336 14).toInt = (zI w21M 336 14).toInt := (congrArg Int32.toInt ((w29F 336 14 rfl).trans rfl)).trans rfl
                have w79z := zGn.bin (n := w67n) w29PN (by omega) (by omega)
                have w79y := znest.nn (zI w29M 341) w67n
                have w83 : (zI w79M 336 14).toInt = (zI w21M 336 14).toInt := (congrArg Int32.toInt ((w79F 336 14 rfl).trans ((w29F 336 14 rfl).trans rfl))).trans rfl
                have w84 : (zI w79M 336 12).toInt = (zI w79M 336 12).toInt := (congrArg Int32.toInt rfl).trans rfl
                have w79N : zGn w79M := zGn.popb (n := w67n) w29PN (by omega) (by omega) (fun j => w79F 341 j rfl) (by omega) (by omega)
                have w85 : (zI w29M 336 12).toInt = (zI w29M 336 12).toInt := (congrArg Int32.toInt rfl).trans rfl
                have w86 : (zI w79M 336 12).toInt = (zI w79M 336 12).toInt := (congrArg Int32.toInt rfl).trans rfl
                have w79X : zXm w79M 0 gg nn c0 := zXm.popb (w := w67n) w29PX (by omega) (by omega) (fun j => w79F 341 j rfl) (by omega) (w79F 336 6 rfl) (w79F 336 13 rfl)
                show zGo X l 6 0 0 255 131 [(0, .ref 336), (1, .int w21x1)] [] w79M _
                refine zs_goto (pc := 131) t255_131 ?_
                refine zGo.locals (ls' := [(0, .ref 336), (1, .int w21x1)]) (by simp) ?_
                have w87 : (zI w79M 336 12).toInt = (zI w79M 336 12).toInt := (congrArg Int32.toInt rfl).trans rfl
                have w88 : (zI w79M 336 14).toInt = (zI w21M 336 14).toInt := (congrArg Int32.toInt ((w79F 336 14 rfl).trans ((w29F 336 14 rfl).trans rfl))).trans rfl
                have w89 : (zI w79M 336 12).toInt = (zI w79M 336 12).toInt := (congrArg Int32.toInt rfl).trans rfl
                have w90 : (zI w79M 336 11).toInt = (zI w79M 336 11).toInt := (congrArg Int32.toInt rfl).trans rfl
                have w91 : (zI w79M 336 12).toInt = (zI w79M 336 12).toInt := (congrArg Int32.toInt rfl).trans rfl
                have w92 : (zI w79M 336 6).toInt = (zI w21M 336 6).toInt := (congrArg Int32.toInt ((w79F 336 6 rfl).trans ((w29F 336 6 rfl).trans rfl))).trans rfl
                have w93 : (zI w79M 336 12).toInt = (zI w79M 336 12).toInt := (congrArg Int32.toInt rfl).trans rfl
                exact w29ih (w29m - 1) (by omega) w79M w79s w79I (((zFr.refl).trans (w29F.mono rfl)).trans (w79F.mono rfl)) (w79J.trans w29J) w79N (zGh.cast w79PH (by omega)) (zXm.cast w79X (by omega)) (by omega) (by omega) (by omega) (by omega)
              · skip
                have w671 := w67.1
                have w94 : (zI w29M 336 12).toInt = (zI w29M 336 12).toInt := (congrArg Int32.toInt rfl).trans rfl
                refine zs_if_eqT (pc := 124) t255_124 rfl (by omega) ?_
                refine zs_aload_n (pc := 134) t255_134 rfl ?_
                refine zs_get (pc := 135) t255_135 (by decide) (zk1 (w29s.k fk_zMm_336)) (zfvi rfl ((w29F 336 6 rfl).trans rfl)) ?_
                refine zs_aload_n (pc := 138) t255_138 rfl ?_
                refine zs_get (pc := 139) t255_139 (by decide) (zk1 (w29s.k fk_zMm_336)) (zfvi rfl ((w29F 336 5 rfl).trans ((w21F 336 5 rfl).trans rfl))) ?_
                by_cases w95 : (zI w21M 336 6).toInt ≠ (zI M 336 5).toInt
                · refine zs_icmp_neT (pc := 142) t255_142 rfl rfl (by omega) ?_
                  refine zs_aload_n (pc := 152) t255_152 rfl ?_
                  refine zs_aload_n (pc := 153) t255_153 rfl ?_
                  refine zs_get (pc := 154) t255_154 (by decide) (zk1 (w29s.k fk_zMm_336)) (zfvi rfl ((w29F 336 6 rfl).trans rfl)) ?_
                  refine zs_invV (pc := 157) (k := 336) (as' := [.int (zI w21M 336 6)]) (st := []) t255_157 mf239 rfl rfl (Or.inl ⟨by decide, (zk1 (w29s.k fk_zMm_336))⟩) ⟨by decide, by decide, Nat.le_of_ble_eq_true rfl, Nat.le_of_ble_eq_true rfl⟩ (zs_in (by decide) mf239 (Nat.le_of_ble_eq_true rfl) ?_) (fun _ _ q => q)
                  show zGo X l 0 0 0 239 0 [(0, .ref 336), (1, .int (zI w21M 336 6))] [] w29M _
                  refine zs_aload_n (pc := 0) t239_0 rfl ?_
                  refine zs_iload_n (pc := 1) t239_1 rfl ?_
                  have w96 : zIv mLo mHi (zsI w29M 336 7 (zI w21M 336 6)) := zIv.put w29I (show (-1) ≤ (zI w21M 336 6).toInt ∧ (zI w21M 336 6).toInt ≤ 500 from ⟨by omega, by omega⟩)
                  refine zs_putI (pc := 2) t239_2 (zk1 (w29s.k fk_zMm_336)) rfl ?_
                  refine zs_iconst (pc := 5) t239_5 (v := 0) (by decide) ?_
                  refine zs_iret (pc := 6) t239_6 mr239 (by decide) ?_
                  show zGo X l 6 0 0 255 160 [(0, .ref 336), (1, .int w21x1)] [.int (0 : Int32)] (zsI w29M 336 7 (zI w21M 336 6)) _
                  refine zs_if_eqT (pc := 160) t255_160 li0 (by decide) ?_
                  refine zs_iconst (pc := 167) t255_167 (v := 0) (by decide) ?_
                  have w97 : (zI (zsI w29M 336 7 (zI w21M 336 6)) 336 7).toInt = (zI w21M 336 6).toInt := (congrArg Int32.toInt zIs).trans rfl
                  have w98 : (zI (zsI w29M 336 7 (zI w21M 336 6)) 336 6).toInt = (zI w21M 336 6).toInt := (congrArg Int32.toInt ((zIoj (by decide)).trans ((w29F 336 6 rfl).trans rfl))).trans rfl
                  obtain ⟨w99n, w99⟩ : ∃ n : Nat, (zI w21M 336 6).toInt = (n : Int) := ⟨((zI w21M 336 6).toInt).toNat, by omega⟩
                  have w100 : (zI (zsI w29M 336 7 (zI w21M 336 6)) 336 14).toInt = (zI w21M 336 14).toInt := (congrArg Int32.toInt ((zIoj (by decide)).trans ((w29F 336 14 rfl).trans rfl))).trans rfl
                  have w101 : (zI (zsI w29M 336 7 (zI w21M 336 6)) 336 13).toInt = (zI w21M 336 13).toInt := (congrArg Int32.toInt ((zIoj (by decide)).trans ((w29F 336 13 rfl).trans rfl))).trans rfl
                  have w102 : (zI (zsI w29M 336 7 (zI w21M 336 6)) 336 5).toInt = (zI M 336 5).toInt := (congrArg Int32.toInt ((zIoj (by decide)).trans ((w29F 336 5 rfl).trans ((w21F 336 5 rfl).trans rfl)))).trans rfl
                  exact zs_iret (pc := 168) t255_168 mr255 (by decide) (hQ _ _ w29s w96 ((((zFr.refl).trans (w21F.mono rfl)).trans (w29F.mono rfl)).put rfl) (w29J.trans w21J) (Or.inl (by decide)) (zo5.n (p := w99n) (zXm.cast (zXm.fr (M' := (zsI w29M 336 7 (zI w21M 336 6))) w29PX (zEq.put rfl)) (by omega)) (zGn.fr (M' := (zsI w29M 336 7 (zI w21M 336 6))) w29PN (zEq.put rfl)) (by omega) (by omega) (by decide) (by omega)) (by decide) (by decide))
                · refine zs_icmp_neF (pc := 142) t255_142 rfl rfl (by omega) ?_
                  refine zs_aload_n (pc := 145) t255_145 rfl ?_
                  refine zs_get (pc := 146) t255_146 (by decide) (zk1 (w29s.k fk_zMm_336)) (zfvi rfl ((w29F 336 14 rfl).trans rfl)) ?_
                  by_cases w103 : (zI w21M 336 14).toInt = 0
                  · refine zs_if_eqT (pc := 149) t255_149 rfl (by omega) ?_
                    refine zs_iconst (pc := 163) t255_163 (v := 1) (by decide) ?_
                    refine zs_goto (pc := 164) t255_164 ?_
                    have w104 : (zI w29M 336 7).toInt = (zI w21M 336 7).toInt := (congrArg Int32.toInt ((w29F 336 7 rfl).trans rfl)).trans rfl
                    have w105 : (zI w29M 336 6).toInt = (zI w21M 336 6).toInt := (congrArg Int32.toInt ((w29F 336 6 rfl).trans rfl)).trans rfl
                    obtain ⟨w106n, w106⟩ : ∃ n : Nat, (zI w21M 336 6).toInt = (n : Int) := ⟨((zI w21M 336 6).toInt).toNat, by omega⟩
                    have w107 : (zI w29M 336 14).toInt = (zI w21M 336 14).toInt := (congrArg Int32.toInt ((w29F 336 14 rfl).trans rfl)).trans rfl
                    have w108 : (zI w29M 336 13).toInt = (zI w21M 336 13).toInt := (congrArg Int32.toInt ((w29F 336 13 rfl).trans rfl)).trans rfl
                    have w109 : (zI w29M 336 5).toInt = (zI M 336 5).toInt := (congrArg Int32.toInt ((w29F 336 5 rfl).trans ((w21F 336 5 rfl).trans rfl))).trans rfl
                    exact zs_iret (pc := 168) t255_168 mr255 (by decide) (hQ _ _ w29s w29I (((zFr.refl).trans (w21F.mono rfl)).trans (w29F.mono rfl)) (w29J.trans w21J) (Or.inr w29PH.1) (zo5.y (p := w106n) (zXm.cast w29PX (by omega)) w29PN (by omega) (by omega) (by omega) (by decide) rfl (by omega)) (by decide) (by decide))
                  · refine zs_if_eqF (pc := 149) t255_149 rfl (by omega) ?_
                    refine zs_aload_n (pc := 152) t255_152 rfl ?_
                    refine zs_aload_n (pc := 153) t255_153 rfl ?_
                    refine zs_get (pc := 154) t255_154 (by decide) (zk1 (w29s.k fk_zMm_336)) (zfvi rfl ((w29F 336 6 rfl).trans rfl)) ?_
                    refine zs_invV (pc := 157) (k := 336) (as' := [.int (zI w21M 336 6)]) (st := []) t255_157 mf239 rfl rfl (Or.inl ⟨by decide, (zk1 (w29s.k fk_zMm_336))⟩) ⟨by decide, by decide, Nat.le_of_ble_eq_true rfl, Nat.le_of_ble_eq_true rfl⟩ (zs_in (by decide) mf239 (Nat.le_of_ble_eq_true rfl) ?_) (fun _ _ q => q)
                    show zGo X l 0 0 0 239 0 [(0, .ref 336), (1, .int (zI w21M 336 6))] [] w29M _
                    refine zs_aload_n (pc := 0) t239_0 rfl ?_
                    refine zs_iload_n (pc := 1) t239_1 rfl ?_
                    have w110 : zIv mLo mHi (zsI w29M 336 7 (zI w21M 336 6)) := zIv.put w29I (show (-1) ≤ (zI w21M 336 6).toInt ∧ (zI w21M 336 6).toInt ≤ 500 from ⟨by omega, by omega⟩)
                    refine zs_putI (pc := 2) t239_2 (zk1 (w29s.k fk_zMm_336)) rfl ?_
                    refine zs_iconst (pc := 5) t239_5 (v := 0) (by decide) ?_
                    refine zs_iret (pc := 6) t239_6 mr239 (by decide) ?_
                    show zGo X l 6 0 0 255 160 [(0, .ref 336), (1, .int w21x1)] [.int (0 : Int32)] (zsI w29M 336 7 (zI w21M 336 6)) _
                    refine zs_if_eqT (pc := 160) t255_160 li0 (by decide) ?_
                    refine zs_iconst (pc := 167) t255_167 (v := 0) (by decide) ?_
                    have w111 : (zI (zsI w29M 336 7 (zI w21M 336 6)) 336 7).toInt = (zI w21M 336 6).toInt := (congrArg Int32.toInt zIs).trans rfl
                    have w112 : (zI (zsI w29M 336 7 (zI w21M 336 6)) 336 6).toInt = (zI w21M 336 6).toInt := (congrArg Int32.toInt ((zIoj (by decide)).trans ((w29F 336 6 rfl).trans rfl))).trans rfl
                    obtain ⟨w113n, w113⟩ : ∃ n : Nat, (zI w21M 336 6).toInt = (n : Int) := ⟨((zI w21M 336 6).toInt).toNat, by omega⟩
                    have w114 : (zI (zsI w29M 336 7 (zI w21M 336 6)) 336 14).toInt = (zI w21M 336 14).toInt := (congrArg Int32.toInt ((zIoj (by decide)).trans ((w29F 336 14 rfl).trans rfl))).trans rfl
                    have w115 : (zI (zsI w29M 336 7 (zI w21M 336 6)) 336 13).toInt = (zI w21M 336 13).toInt := (congrArg Int32.toInt ((zIoj (by decide)).trans ((w29F 336 13 rfl).trans rfl))).trans rfl
                    have w116 : (zI (zsI w29M 336 7 (zI w21M 336 6)) 336 5).toInt = (zI M 336 5).toInt := (congrArg Int32.toInt ((zIoj (by decide)).trans ((w29F 336 5 rfl).trans ((w21F 336 5 rfl).trans rfl)))).trans rfl
                    exact zs_iret (pc := 168) t255_168 mr255 (by decide) (hQ _ _ w29s w110 ((((zFr.refl).trans (w21F.mono rfl)).trans (w29F.mono rfl)).put rfl) (w29J.trans w21J) (Or.inl (by decide)) (zo5.n (p := w113n) (zXm.cast (zXm.fr (M' := (zsI w29M 336 7 (zI w21M 336 6))) w29PX (zEq.put rfl)) (by omega)) (zGn.fr (M' := (zsI w29M 336 7 (zI w21M 336 6))) w29PN (zEq.put rfl)) (by omega) (by omega) (by decide) (by omega)) (by decide) (by decide))
        refine zGo.locals (ls' := [(0, .ref 336), (1, .int w21x1)]) (by simp) ?_
        have w117 : (zI w21M 336 12).toInt = (zI w21M 336 12).toInt := (congrArg Int32.toInt rfl).trans rfl
        have w118 : (zI w21M 336 14).toInt = (zI w21M 336 14).toInt := (congrArg Int32.toInt rfl).trans rfl
        have w119 : (zI w21M 336 12).toInt = (zI w21M 336 12).toInt := (congrArg Int32.toInt rfl).trans rfl
        have w120 : (zI w21M 336 11).toInt = (zI w21M 336 11).toInt := (congrArg Int32.toInt rfl).trans rfl
        have w121 : (zI w21M 336 12).toInt = (zI w21M 336 12).toInt := (congrArg Int32.toInt rfl).trans rfl
        have w122 : (zI w21M 336 6).toInt = (zI w21M 336 6).toInt := (congrArg Int32.toInt rfl).trans rfl
        have w123 : (zI w21M 336 12).toInt = (zI w21M 336 12).toInt := (congrArg Int32.toInt rfl).trans rfl
        exact w29L (((zI w21M 336 12).toInt : Int).toNat) w21M w21s w21I zFr.refl rfl w21PN (zGh.cast w21PH (by omega)) (zXm.cast w21PX (by omega)) (by omega) (by omega) (by omega) (by omega)
      · refine zs_if_eqF (pc := 3) t255_3 rfl (by omega) ?_
        refine zs_aload_n (pc := 6) t255_6 rfl ?_
        have w124 : (zI w21M 336 14).toInt = (zI w21M 336 14).toInt := (congrArg Int32.toInt rfl).trans rfl
        have w125 : (zI w21M 336 12).toInt = (zI w21M 336 12).toInt := (congrArg Int32.toInt rfl).trans rfl
        have w126 : (zI w21M 336 6).toInt = (zI w21M 336 6).toInt := (congrArg Int32.toInt rfl).trans rfl
        have w127 : (zI w21M 336 5).toInt = (zI M 336 5).toInt := (congrArg Int32.toInt ((w21F 336 5 rfl).trans rfl)).trans rfl
        have w128 : (zI w21M 336 13).toInt = (zI w21M 336 13).toInt := (congrArg Int32.toInt rfl).trans rfl
        have w129 : (zI w21M 336 7).toInt = (zI w21M 336 7).toInt := (congrArg Int32.toInt rfl).trans rfl
        have w130 : (zI w21M 336 11).toInt = (zI w21M 336 11).toInt := (congrArg Int32.toInt rfl).trans rfl
        have w131 : (zI w21M 336 14).toInt = (zI w21M 336 14).toInt := (congrArg Int32.toInt rfl).trans rfl
        have w132 : (zI w21M 336 12).toInt = (zI w21M 336 12).toInt := (congrArg Int32.toInt rfl).trans rfl
        have w133 : (zI w21M 336 6).toInt = (zI w21M 336 6).toInt := (congrArg Int32.toInt rfl).trans rfl
        have w134 : (zI w21M 336 11).toInt = (zI w21M 336 11).toInt := (congrArg Int32.toInt rfl).trans rfl
        have w135 : (zI w21M 336 13).toInt = (zI w21M 336 13).toInt := (congrArg Int32.toInt rfl).trans rfl
        have w136 := zGn.le w21PN
        have w137 : (zI w21M 336 12).toInt = (zI w21M 336 12).toInt := (congrArg Int32.toInt rfl).trans rfl
        have w138 : (zI w21M 336 14).toInt = (zI w21M 336 14).toInt := (congrArg Int32.toInt rfl).trans rfl
        have w139 : (zI w21M 336 12).toInt = (zI w21M 336 12).toInt := (congrArg Int32.toInt rfl).trans rfl
        have w140 : (zI w21M 336 14).toInt = (zI w21M 336 14).toInt := (congrArg Int32.toInt rfl).trans rfl
        refine zs_invV (pc := 7) (k := 336) (as' := []) (st := []) t255_7 mf256 rfl rfl (Or.inl ⟨by decide, (zk1 (w21s.k fk_zMm_336))⟩) ⟨by decide, by decide, Nat.le_of_ble_eq_true rfl, Nat.le_of_ble_eq_true rfl⟩ (E256 w21s w21I w21PN (zGh.cast w21PH (by omega)) (zXm.cast w21PX (by omega)) (by omega) (by omega) (by omega) (by omega) (zTm.mk x0 (fun j => (w21F 339 j rfl)) (w21F 336 5 rfl)) ?_) (fun _ _ q => q)
        intro w141M w141v w141s w141I w141F w141J w141t0 w141t1 w141x0 w141x1 w141x2 w141a w141b
        have w142 := ib336_14 w141I
        have w143 := ib336_12 w141I
        have w144 := ib336_6 w141I
        have w145 := ib336_13 w141I
        have w146 := ib336_11 w141I
        show zGo X l 6 0 0 255 10 [(0, .ref 336), (1, .int w21x1)] [.int w141v] w141M _
        by_cases w147 : w141v.toInt = 0
        · skip
          have w147r := (w141x2.resolve_right (fun q => q.1 w147)).2
          refine zs_if_neF (pc := 10) t255_10 rfl (by omega) ?_
          refine zs_iconst (pc := 13) t255_13 (v := 0) (by decide) ?_
          have w148 := ib336_7 w141I
          have w149 : (zI w141M 336 7).toInt = (zI w141M 336 7).toInt := (congrArg Int32.toInt rfl).trans rfl
          exact zs_iret (pc := 14) t255_14 mr255 (by decide) (hQ _ _ w141s w141I (((zFr.refl).trans (w21F.mono rfl)).trans (w141F.mono rfl)) (w141J.trans w21J) (Or.inl (by decide)) (zo5.f (by decide) (by omega) w147r) (by decide) (by decide))
        · skip
          have w147H := w141x0.resolve_left w147
          have w147N := w141x1.resolve_left w147
          obtain ⟨w1477, w147X, w147S⟩ := (w141x2.resolve_left (fun q => w147 q.1)).2
          have w150 : (zI w141M 336 6).toInt = (zI w141M 336 6).toInt := (congrArg Int32.toInt rfl).trans rfl
          have w151 : (zI w141M 336 14).toInt = (zI w141M 336 14).toInt := (congrArg Int32.toInt rfl).trans rfl
          obtain ⟨w152n, w152⟩ : ∃ n : Nat, (zI w141M 336 6).toInt = (n : Int) := ⟨((zI w141M 336 6).toInt).toNat, by omega⟩
          have w147s := w147S w152n (by omega)
          have w147Y := w147X
          obtain ⟨_, w147a, w147b, _⟩ := w147Y
          have w147c : (zI w141M 336 6).toInt ≤ nn := by omega
          refine zs_if_neT (pc := 10) t255_10 rfl (by omega) ?_
          refine zs_aload_n (pc := 15) t255_15 rfl ?_
          refine zs_invV (pc := 16) (k := 336) (as' := []) (st := []) t255_16 mf238 rfl rfl (Or.inl ⟨by decide, (zk1 (w141s.k fk_zMm_336))⟩) ⟨by decide, by decide, Nat.le_of_ble_eq_true rfl, Nat.le_of_ble_eq_true rfl⟩ (H238 w141s w141I ?_) (fun _ _ q => q)
          have w153 := zhere.rg (M := w141M)
          have w154 : (zI w141M 336 6).toInt = (zI w141M 336 6).toInt := (congrArg Int32.toInt rfl).trans rfl
          have w155 : (zI w141M 336 5).toInt = (zI M 336 5).toInt := (congrArg Int32.toInt ((w141F 336 5 rfl).trans ((w21F 336 5 rfl).trans rfl))).trans rfl
          have w156 : (zI w141M 336 6).toInt = (zI w141M 336 6).toInt := (congrArg Int32.toInt rfl).trans rfl
          have w157 : (zI w141M 336 5).toInt = (zI M 336 5).toInt := (congrArg Int32.toInt ((w141F 336 5 rfl).trans ((w21F 336 5 rfl).trans rfl))).trans rfl
          have w158 : (zhere w141M).toInt = gg w152n := zhere.tr (zTm.mk x0 (fun j => ((w141F 339 j rfl).trans (w21F 339 j rfl))) ((w141F 336 5 rfl).trans (w21F 336 5 rfl))) (by omega)
          have w159 := zTm.rg x0 w152n
          show zGo X l 6 0 0 255 19 [(0, .ref 336), (1, .int w21x1)] [.int (zhere w141M)] w141M _
          refine zs_istore_n (pc := 19) t255_19 (ls' := [(2, .int (zhere w141M)), (0, .ref 336), (1, .int w21x1)]) (zml mf255 (by decide)) rfl ?_
          refine zs_iload_n (pc := 20) t255_20 rfl ?_
          refine zs_bipush (pc := 21) t255_21 (v := 38) (by decide) ?_
          by_cases w160 : (zhere w141M).toInt = 38
          · refine zs_icmp_eqT (pc := 23) t255_23 rfl li38 (by omega) ?_
            refine zs_iconst (pc := 32) t255_32 (v := 1) (by decide) ?_
            refine zs_goto (pc := 33) t255_33 ?_
            refine zs_istore_n (pc := 37) t255_37 (ls' := [(1, .int (1 : Int32)), (2, .int (zhere w141M)), (0, .ref 336)]) (zml mf255 (by decide)) rfl ?_
            refine zs_iload_n (pc := 38) t255_38 rfl ?_
            refine zs_if_neT (pc := 39) t255_39 li1 (by decide) ?_
            have w161L : ∀ (m : Nat) (w161M : zM), zSk zMm w161M → zIv mLo mHi w161M → zFr [(336, 336, some 12), (336, 336, some 11), (340, 340, none)] w141M w161M → zJ w161M 351 = zJ w141M 351 → zGn w161M → zGh w161M (((zI w161M 336 12).toInt - (zI w161M 336 14).toInt) + 1) → zXm w161M 3 gg nn c0 → ((zI w161M 336 12).toInt ≤ (zI w141M 336 12).toInt) → ((zI w161M 336 11).toInt + (zI w161M 336 12).toInt = (zI w141M 336 11).toInt + (zI w141M 336 12).toInt) → ((zI w161M 336 6).toInt ≤ nn) → (zI w161M 336 12).toInt ≤ (m : Int) → zGo X l 6 0 0 255 45 [(0, .ref 336), (1, .int (1 : Int32)), (2, .int (zhere w141M))] [] w161M Q := by
              intro m
              induction m using Nat.strongRecOn with
              | ind w161m w161ih =>
                intro w161M w161s w161I w161F w161J w161PN w161PH w161PX w161r0 w161r1 w161r2 w161q
                have w162 := ib336_12 w161I
                have w163 : (zI w141M 336 12).toInt = (zI w141M 336 12).toInt := (congrArg Int32.toInt rfl).trans rfl
                have w164 := ib336_11 w161I
                have w165 : (zI w141M 336 11).toInt = (zI w141M 336 11).toInt := (congrArg Int32.toInt rfl).trans rfl
                have w166 : (zI w141M 336 12).toInt = (zI w141M 336 12).toInt := (congrArg Int32.toInt rfl).trans rfl
                refine zs_aload_n (pc := 45) t255_45 rfl ?_
                refine zs_bipush (pc := 46) t255_46 (v := 38) (by decide) ?_
                have w167 : (38 : Int32).toInt = 38 := li38
                refine zs_invV (pc := 48) (k := 336) (as' := [.int (38 : Int32)]) (st := []) t255_48 mf264 rfl rfl (Or.inl ⟨by decide, (zk1 (w161s.k fk_zMm_336))⟩) ⟨by decide, by decide, Nat.le_of_ble_eq_true rfl, Nat.le_of_ble_eq_true rfl⟩ (K264 w161s w161I ?_) (fun _ _ q => q)
                intro w168v w168x0 w168a w168b
                show zGo X l 6 0 0 255 51 [(0, .ref 336), (1, .int (1 : Int32)), (2, .int (zhere w141M))] [.int w168v] w161M _
                rcases w168x0 with w169 | w169
                · skip
                  have w1691 := w169.1
                  have w170 : (zI w161M 336 12).toInt = (zI w161M 336 12).toInt := (congrArg Int32.toInt rfl).trans rfl
                  have w1692 := w169.2.1
                  obtain ⟨w169n, w169ne⟩ : ∃ n : Nat, (n : Int) + 1 = (zI w161M 336 12).toInt := ⟨((zI w161M 336 12).toInt - 1).toNat, by omega⟩
                  have w1693 := w169.2.2 w169n w169ne
                  refine zs_if_neT (pc := 51) t255_51 rfl (by omega) ?_
                  refine zs_aload_n (pc := 69) t255_69 rfl ?_
                  have w171 : (zI w161M 336 11).toInt = (zI w161M 336 11).toInt := (congrArg Int32.toInt rfl).trans rfl
                  have w172 : (zI w161M 336 12).toInt = (zI w161M 336 12).toInt := (congrArg Int32.toInt rfl).trans rfl
                  have w173 : (zI w161M 336 11).toInt = (zI w161M 336 11).toInt := (congrArg Int32.toInt rfl).trans rfl
                  have w174 : (zI w161M 336 12).toInt = (zI w161M 336 12).toInt := (congrArg Int32.toInt rfl).trans rfl
                  have w175 := zGn.le w161PN
                  have w176 : (zI w161M 336 12).toInt = (zI w161M 336 12).toInt := (congrArg Int32.toInt rfl).trans rfl
                  have w177 : (zI w161M 336 14).toInt = (zI w141M 336 14).toInt := (congrArg Int32.toInt ((w161F 336 14 rfl).trans rfl)).trans rfl
                  have w179 : (zI w161M 336 14).toInt = (zI w141M 336 14).toInt := (congrArg Int32.toInt ((w161F 336 14 rfl).trans rfl)).trans rfl
                  have w180 : (zI w161M 336 12).toInt = (zI w161M 336 12).toInt := (congrArg Int32.toInt rfl).trans rfl
                  have w178z := zGn.bin (n := w169n) w161PN (by omega) (by omega)
                  have w178y := znest.nn (zI w161M 341) w169n
                  refine zs_invV (pc := 70) (k := 336) (as' := []) (st := []) t255_70 mf265 rfl rfl (Or.inl ⟨by decide, (zk1 (w161s.k fk_zMm_336))⟩) ⟨by decide, by decide, Nat.le_of_ble_eq_true rfl, Nat.le_of_ble_eq_true rfl⟩ (K265 (hq := (((zI w161M 336 12).toInt - (zI w161M 336 14).toInt) + 1) - 1) w161s w161I w161PH (by omega) (by omega) (fun n hn => by obtain rfl : n = w169n := (by omega); omega) ?_) (fun _ _ q => q)
                  intro w181M w181s w181I w181F w181J w181PH w181t0 w181t1
                  have w182 := ib336_11 w181I
                  have w183 := ib336_12 w181I
                  have w184 : (zI w161M 336 14).toInt = (zI w141M 336 14).toInt := (congrArg Int32.toInt ((w161F 336 14 rfl).trans rfl)).trans rfl
                  have w181z := zGn.bin (n := w169n) w161PN (by omega) (by omega)
                  have w181y := znest.nn (zI w161M 341) w169n
                  have w185 : (zI w181M 336 14).toInt = (zI w141M 336 14).toInt := (congrArg Int32.toInt ((w181F 336 14 rfl).trans ((w161F 336 14 rfl).trans rfl))).trans rfl
                  have w186 : (zI w181M 336 12).toInt = (zI w181M 336 12).toInt := (congrArg Int32.toInt rfl).trans rfl
                  have w181N : zGn w181M := zGn.popb (n := w169n) w161PN (by omega) (by omega) (fun j => w181F 341 j rfl) (by omega) (by omega)
                  have w187 : (zI w161M 336 12).toInt = (zI w161M 336 12).toInt := (congrArg Int32.toInt rfl).trans rfl
                  have w188 : (zI w181M 336 12).toInt = (zI w181M 336 12).toInt := (congrArg Int32.toInt rfl).trans rfl
                  have w181X : zXm w181M 3 gg nn c0 := zXm.popb (w := w169n) w161PX (by omega) (by omega) (fun j => w181F 341 j rfl) (by omega) (w181F 336 6 rfl) (w181F 336 13 rfl)
                  show zGo X l 6 0 0 255 73 [(0, .ref 336), (1, .int (1 : Int32)), (2, .int (zhere w141M))] [] w181M _
                  refine zs_goto (pc := 73) t255_73 ?_
                  refine zGo.locals (ls' := [(0, .ref 336), (1, .int (1 : Int32)), (2, .int (zhere w141M))]) (by simp) ?_
                  have w189 : (zI w181M 336 12).toInt = (zI w181M 336 12).toInt := (congrArg Int32.toInt rfl).trans rfl
                  have w190 : (zI w181M 336 14).toInt = (zI w141M 336 14).toInt := (congrArg Int32.toInt ((w181F 336 14 rfl).trans ((w161F 336 14 rfl).trans rfl))).trans rfl
                  have w191 : (zI w181M 336 12).toInt = (zI w181M 336 12).toInt := (congrArg Int32.toInt rfl).trans rfl
                  have w192 : (zI w181M 336 11).toInt = (zI w181M 336 11).toInt := (congrArg Int32.toInt rfl).trans rfl
                  have w193 : (zI w181M 336 12).toInt = (zI w181M 336 12).toInt := (congrArg Int32.toInt rfl).trans rfl
                  have w194 : (zI w181M 336 6).toInt = (zI w141M 336 6).toInt := (congrArg Int32.toInt ((w181F 336 6 rfl).trans ((w161F 336 6 rfl).trans rfl))).trans rfl
                  have w195 : (zI w181M 336 12).toInt = (zI w181M 336 12).toInt := (congrArg Int32.toInt rfl).trans rfl
                  exact w161ih (w161m - 1) (by omega) w181M w181s w181I (((zFr.refl).trans (w161F.mono rfl)).trans (w181F.mono rfl)) (w181J.trans w161J) w181N (zGh.cast w181PH (by omega)) (zXm.cast w181X (by omega)) (by omega) (by omega) (by omega) (by omega)
                · skip
                  have w1691 := w169.1
                  have w196 : (zI w161M 336 12).toInt = (zI w161M 336 12).toInt := (congrArg Int32.toInt rfl).trans rfl
                  refine zs_if_neF (pc := 51) t255_51 rfl (by omega) ?_
                  refine zs_iload_n (pc := 54) t255_54 rfl ?_
                  refine zs_bipush (pc := 55) t255_55 (v := 124) (by decide) ?_
                  refine zs_icmp_neT (pc := 57) t255_57 rfl li124 (by omega) ?_
                  refine zs_aload_n (pc := 76) t255_76 rfl ?_
                  refine zs_get (pc := 77) t255_77 (by decide) (zk1 (w161s.k fk_zMm_336)) (w161s.p rfl fv_zMm_336_10) ?_
                  refine zs_aload_n (pc := 80) t255_80 rfl ?_
                  refine zs_get (pc := 81) t255_81 (by decide) (zk1 (w161s.k fk_zMm_336)) (zfvi rfl rfl) ?_
                  refine zs_iload_n (pc := 84) t255_84 rfl ?_
                  obtain ⟨w197n, w197⟩ : ∃ n : Nat, (zI w161M 336 12).toInt = (n : Int) := ⟨((zI w161M 336 12).toInt).toNat, by omega⟩
                  have w198 : zIv mLo mHi (zsI w161M 341 w197n (zhere w141M)) := zIv.put w161I (show (-2147483648) ≤ (zhere w141M).toInt ∧ (zhere w141M).toInt ≤ 2147483647 from zrg (zhere w141M))
                  refine zs_iast (pc := 85) t255_85 (j := w197n) (by decide) (zk1 (w161s.k fk_zMm_341)) (show (zI w161M 336 12).toInt = ((w197n : Nat) : Int) by omega) (zk2 (w161s.k fk_zMm_341) (by omega)) ?_
                  refine zs_aload_n (pc := 86) t255_86 rfl ?_
                  refine zs_dup (pc := 87) t255_87 rfl ?_
                  refine zs_get (pc := 88) t255_88 (by decide) (zk1 (w161s.k fk_zMm_336)) (zfvi rfl ((zIo (by decide)).trans rfl)) ?_
                  refine zs_iconst (pc := 91) t255_91 (v := 1) (by decide) ?_
                  obtain ⟨w199v, w199e, w199⟩ := ziadd (a := (zI w161M 336 12)) (b := (1 : Int32)) rfl li1 (by omega) (by omega)
                  refine zs_iadd (pc := 92) t255_92 (c := w199v) w199e ?_
                  have w200 : zIv mLo mHi (zsI (zsI w161M 341 w197n (zhere w141M)) 336 12 w199v) := zIv.put w198 (show 0 ≤ w199v.toInt ∧ w199v.toInt ≤ 40 from ⟨by omega, by omega⟩)
                  have w201 : (zI (zsI (zsI w161M 341 w197n (zhere w141M)) 336 12 w199v) 336 12).toInt = ((zI w161M 336 12).toInt + 1) := (congrArg Int32.toInt zIs).trans w199
                  have w202 : (zI (zsI (zsI w161M 341 w197n (zhere w141M)) 336 12 w199v) 336 14).toInt = (zI w141M 336 14).toInt := (congrArg Int32.toInt ((zIoj (by decide)).trans ((zIo (by decide)).trans ((w161F 336 14 rfl).trans rfl)))).trans rfl
                  have w203 : (zI w161M 336 12).toInt = (zI w161M 336 12).toInt := (congrArg Int32.toInt rfl).trans rfl
                  have w204 : (zI w161M 336 14).toInt = (zI w141M 336 14).toInt := (congrArg Int32.toInt ((w161F 336 14 rfl).trans rfl)).trans rfl
                  have w205 : w199v.toInt = ((zI w161M 336 12).toInt + 1) := w199
                  have w206 : (zI (zsI (zsI w161M 341 w197n (zhere w141M)) 336 12 w199v) 341 w197n).toInt = (zhere w141M).toInt := (congrArg Int32.toInt ((zIo (by decide)).trans zIs)).trans rfl
                  have w207 : zGn (zsI (zsI w161M 341 w197n (zhere w141M)) 336 12 w199v) := zGn.pushb (n := w197n) w161PN (by omega) (fun j hj => ((zIo (by decide)).trans (zIoj hj))) (by omega) (by omega) (by omega)
                  refine zs_putI (pc := 93) t255_93 (zk1 (w161s.k fk_zMm_336)) rfl ?_
                  refine zs_aload_n (pc := 96) t255_96 rfl ?_
                  refine zs_dup (pc := 97) t255_97 rfl ?_
                  refine zs_get (pc := 98) t255_98 (by decide) (zk1 (w161s.k fk_zMm_336)) (zfvi rfl ((zIoj (by decide)).trans ((zIo (by decide)).trans ((w161F 336 6 rfl).trans rfl)))) ?_
                  refine zs_iconst (pc := 101) t255_101 (v := 1) (by decide) ?_
                  obtain ⟨w208v, w208e, w208⟩ := ziadd (a := (zI w141M 336 6)) (b := (1 : Int32)) rfl li1 (by omega) (by omega)
                  refine zs_iadd (pc := 102) t255_102 (c := w208v) w208e ?_
                  have w209 : zIv mLo mHi (zsI (zsI (zsI w161M 341 w197n (zhere w141M)) 336 12 w199v) 336 6 w208v) := zIv.put w200 (show 0 ≤ w208v.toInt ∧ w208v.toInt ≤ 500 from ⟨by omega, by omega⟩)
                  have w210 : (zI w161M 336 6).toInt = (zI w141M 336 6).toInt := (congrArg Int32.toInt ((w161F 336 6 rfl).trans rfl)).trans rfl
                  have w212 : (zI (zsI (zsI (zsI w161M 341 w197n (zhere w141M)) 336 12 w199v) 336 6 w208v) 336 6).toInt = ((zI w141M 336 6).toInt + 1) := (congrArg Int32.toInt zIs).trans w208
                  have w213 : (zI (zsI (zsI (zsI w161M 341 w197n (zhere w141M)) 336 12 w199v) 336 6 w208v) 336 12).toInt = ((zI w161M 336 12).toInt + 1) := (congrArg Int32.toInt ((zIoj (by decide)).trans zIs)).trans w199
                  have w214 : (zI (zsI (zsI (zsI w161M 341 w197n (zhere w141M)) 336 12 w199v) 336 6 w208v) 336 13).toInt = (zI w141M 336 13).toInt := (congrArg Int32.toInt ((zIoj (by decide)).trans ((zIoj (by decide)).trans ((zIo (by decide)).trans ((w161F 336 13 rfl).trans rfl))))).trans rfl
                  have w215 : (zI (zsI (zsI (zsI w161M 341 w197n (zhere w141M)) 336 12 w199v) 336 6 w208v) 336 14).toInt = (zI w141M 336 14).toInt := (congrArg Int32.toInt ((zIoj (by decide)).trans ((zIoj (by decide)).trans ((zIo (by decide)).trans ((w161F 336 14 rfl).trans rfl))))).trans rfl
                  have w216 : (zI w161M 336 6).toInt = (zI w141M 336 6).toInt := (congrArg Int32.toInt ((w161F 336 6 rfl).trans rfl)).trans rfl
                  have w217 : (zI w161M 336 12).toInt = (zI w161M 336 12).toInt := (congrArg Int32.toInt rfl).trans rfl
                  have w218 : (zI w161M 336 13).toInt = (zI w141M 336 13).toInt := (congrArg Int32.toInt ((w161F 336 13 rfl).trans rfl)).trans rfl
                  have w219 : (zI w161M 336 14).toInt = (zI w141M 336 14).toInt := (congrArg Int32.toInt ((w161F 336 14 rfl).trans rfl)).trans rfl
                  have w220 : w199v.toInt = ((zI w161M 336 12).toInt + 1) := w199
                  have w221 : w208v.toInt = ((zI w141M 336 6).toInt + 1) := w208
                  have w222 : (zI (zsI (zsI (zsI w161M 341 w197n (zhere w141M)) 336 12 w199v) 336 6 w208v) 341 w197n).toInt = (zhere w141M).toInt := (congrArg Int32.toInt ((zIo (by decide)).trans ((zIo (by decide)).trans zIs))).trans rfl
                  have w211 : zXm (zsI (zsI (zsI w161M 341 w197n (zhere w141M)) 336 12 w199v) 336 6 w208v) 1 gg nn c0 := zXm.bin (w := w197n) (p := w152n) w161PX (by omega) (by omega) (by omega) (fun j hj => ((zIo (by decide)).trans ((zIo (by decide)).trans (zIoj hj)))) (by omega) (by omega) (by omega) (by omega) (by omega)
                  refine zs_putI (pc := 103) t255_103 (zk1 (w161s.k fk_zMm_336)) rfl ?_
                  refine zs_goto (pc := 106) t255_106 ?_
                  refine zGo.locals (ls' := [(0, .ref 336), (1, .int (1 : Int32))]) (by simp) ?_
                  have w223 := li1
                  have w224 : (zI (zsI (zsI (zsI w161M 341 w197n (zhere w141M)) 336 12 w199v) 336 6 w208v) 336 12).toInt = ((zI w161M 336 12).toInt + 1) := (congrArg Int32.toInt ((zIoj (by decide)).trans zIs)).trans w199
                  have w225 : (zI (zsI (zsI (zsI w161M 341 w197n (zhere w141M)) 336 12 w199v) 336 6 w208v) 336 14).toInt = (zI w141M 336 14).toInt := (congrArg Int32.toInt ((zIoj (by decide)).trans ((zIoj (by decide)).trans ((zIo (by decide)).trans ((w161F 336 14 rfl).trans rfl))))).trans rfl
                  have w226 : (zI (zsI (zsI (zsI w161M 341 w197n (zhere w141M)) 336 12 w199v) 336 6 w208v) 336 11).toInt = (zI w161M 336 11).toInt := (congrArg Int32.toInt ((zIoj (by decide)).trans ((zIoj (by decide)).trans ((zIo (by decide)).trans rfl)))).trans rfl
                  have w227 : (zI (zsI (zsI (zsI w161M 341 w197n (zhere w141M)) 336 12 w199v) 336 6 w208v) 336 12).toInt = ((zI w161M 336 12).toInt + 1) := (congrArg Int32.toInt ((zIoj (by decide)).trans zIs)).trans w199
                  have w228 : (zI (zsI (zsI (zsI w161M 341 w197n (zhere w141M)) 336 12 w199v) 336 6 w208v) 336 13).toInt = (zI w141M 336 13).toInt := (congrArg Int32.toInt ((zIoj (by decide)).trans ((zIoj (by decide)).trans ((zIo (by decide)).trans ((w161F 336 13 rfl).trans rfl))))).trans rfl
                  have w229 : (zI (zsI (zsI (zsI w161M 341 w197n (zhere w141M)) 336 12 w199v) 336 6 w208v) 336 14).toInt = (zI w141M 336 14).toInt := (congrArg Int32.toInt ((zIoj (by decide)).trans ((zIoj (by decide)).trans ((zIo (by decide)).trans ((w161F 336 14 rfl).trans rfl))))).trans rfl
                  have w230 : (zI (zsI (zsI (zsI w161M 341 w197n (zhere w141M)) 336 12 w199v) 336 6 w208v) 336 12).toInt = ((zI w161M 336 12).toInt + 1) := (congrArg Int32.toInt ((zIoj (by decide)).trans zIs)).trans w199
                  have w231 : (zI (zsI (zsI (zsI w161M 341 w197n (zhere w141M)) 336 12 w199v) 336 6 w208v) 336 13).toInt = (zI w141M 336 13).toInt := (congrArg Int32.toInt ((zIoj (by decide)).trans ((zIoj (by decide)).trans ((zIo (by decide)).trans ((w161F 336 13 rfl).trans rfl))))).trans rfl
                  have w232 : (zI (zsI (zsI (zsI w161M 341 w197n (zhere w141M)) 336 12 w199v) 336 6 w208v) 336 6).toInt = ((zI w141M 336 6).toInt + 1) := (congrArg Int32.toInt zIs).trans w208
                  have w233 := ib336_7 w141I
                  have w234 : (zI (zsI (zsI (zsI w161M 341 w197n (zhere w141M)) 336 12 w199v) 336 6 w208v) 336 7).toInt = (zI w141M 336 7).toInt := (congrArg Int32.toInt ((zIoj (by decide)).trans ((zIoj (by decide)).trans ((zIo (by decide)).trans ((w161F 336 7 rfl).trans rfl))))).trans rfl
                  have w235 : (zI (zsI (zsI (zsI w161M 341 w197n (zhere w141M)) 336 12 w199v) 336 6 w208v) 336 6).toInt = ((zI w141M 336 6).toInt + 1) := (congrArg Int32.toInt zIs).trans w208
                  exact w21ih (w21m - 1) (by omega) (1 : Int32) (zsI (zsI (zsI w161M 341 w197n (zhere w141M)) 336 12 w199v) 336 6 w208v) ⟨by decide, by decide⟩ w161s w209 (((((((zFr.refl).trans (w21F.mono rfl)).trans (w141F.mono rfl)).trans (w161F.mono rfl)).put rfl).put rfl).put rfl) (w161J.trans (w141J.trans w21J)) (zGn.fr (M' := (zsI (zsI (zsI w161M 341 w197n (zhere w141M)) 336 12 w199v) 336 6 w208v)) w207 (zEq.put rfl)) (zGh.cast (zGh.fr (M' := (zsI (zsI (zsI w161M 341 w197n (zhere w141M)) 336 12 w199v) 336 6 w208v)) (zGh.fr (M' := (zsI (zsI w161M 341 w197n (zhere w141M)) 336 12 w199v)) (zGh.fr (M' := (zsI w161M 341 w197n (zhere w141M))) w161PH (zEq.put rfl)) (zEq.put rfl)) (zEq.put rfl)) (by omega)) (zXm.cast w211 (by omega)) (by omega) (by omega) (by omega) (by omega) (by omega)
            refine zGo.locals (ls' := [(0, .ref 336), (1, .int (1 : Int32)), (2, .int (zhere w141M))]) (by simp) ?_
            have w236 : (zI w141M 336 12).toInt = (zI w141M 336 12).toInt := (congrArg Int32.toInt rfl).trans rfl
            have w237 : (zI w141M 336 14).toInt = (zI w141M 336 14).toInt := (congrArg Int32.toInt rfl).trans rfl
            have w238 : (zI w141M 336 12).toInt = (zI w141M 336 12).toInt := (congrArg Int32.toInt rfl).trans rfl
            have w239 : (zI w141M 336 11).toInt = (zI w141M 336 11).toInt := (congrArg Int32.toInt rfl).trans rfl
            have w240 : (zI w141M 336 12).toInt = (zI w141M 336 12).toInt := (congrArg Int32.toInt rfl).trans rfl
            have w241 : (zI w141M 336 6).toInt = (zI w141M 336 6).toInt := (congrArg Int32.toInt rfl).trans rfl
            have w242 : (zI w141M 336 12).toInt = (zI w141M 336 12).toInt := (congrArg Int32.toInt rfl).trans rfl
            exact w161L (((zI w141M 336 12).toInt : Int).toNat) w141M w141s w141I zFr.refl rfl w147N (zGh.cast w147H (by omega)) (zXm.cast w147X (by omega)) (by omega) (by omega) (by omega) (by omega)
          · refine zs_icmp_eqF (pc := 23) t255_23 rfl li38 (by omega) ?_
            refine zs_iload_n (pc := 26) t255_26 rfl ?_
            refine zs_bipush (pc := 27) t255_27 (v := 124) (by decide) ?_
            by_cases w243 : (zhere w141M).toInt ≠ 124
            · refine zs_icmp_neT (pc := 29) t255_29 rfl li124 (by omega) ?_
              refine zs_iconst (pc := 36) t255_36 (v := 0) (by decide) ?_
              refine zs_istore_n (pc := 37) t255_37 (ls' := [(1, .int (0 : Int32)), (2, .int (zhere w141M)), (0, .ref 336)]) (zml mf255 (by decide)) rfl ?_
              refine zs_iload_n (pc := 38) t255_38 rfl ?_
              refine zs_if_neF (pc := 39) t255_39 li0 (by decide) ?_
              refine zs_goto (pc := 42) t255_42 ?_
              refine zGo.locals (ls' := [(0, .ref 336), (1, .int (0 : Int32))]) (by simp) ?_
              have w244 := li0
              have w245 : (zI w141M 336 12).toInt = (zI w141M 336 12).toInt := (congrArg Int32.toInt rfl).trans rfl
              have w246 : (zI w141M 336 14).toInt = (zI w141M 336 14).toInt := (congrArg Int32.toInt rfl).trans rfl
              have w247 : (zI w141M 336 6).toInt = (zI w141M 336 6).toInt := (congrArg Int32.toInt rfl).trans rfl
              have w248 : (zI w141M 336 14).toInt = (zI w141M 336 14).toInt := (congrArg Int32.toInt rfl).trans rfl
              have w249 : (zI w141M 336 11).toInt = (zI w141M 336 11).toInt := (congrArg Int32.toInt rfl).trans rfl
              have w250 : (zI w141M 336 12).toInt = (zI w141M 336 12).toInt := (congrArg Int32.toInt rfl).trans rfl
              have w251 : (zI w141M 336 13).toInt = (zI w141M 336 13).toInt := (congrArg Int32.toInt rfl).trans rfl
              have w252 : (zI w141M 336 14).toInt = (zI w141M 336 14).toInt := (congrArg Int32.toInt rfl).trans rfl
              have w253 : (zI w141M 336 12).toInt = (zI w141M 336 12).toInt := (congrArg Int32.toInt rfl).trans rfl
              have w254 : (zI w141M 336 13).toInt = (zI w141M 336 13).toInt := (congrArg Int32.toInt rfl).trans rfl
              have w255 : (zI w141M 336 6).toInt = (zI w141M 336 6).toInt := (congrArg Int32.toInt rfl).trans rfl
              have w256 := ib336_7 w141I
              have w257 : (zI w141M 336 7).toInt = (zI w141M 336 7).toInt := (congrArg Int32.toInt rfl).trans rfl
              have w258 : (zI w141M 336 6).toInt = (zI w141M 336 6).toInt := (congrArg Int32.toInt rfl).trans rfl
              exact w21ih (w21m - 1) (by omega) (0 : Int32) w141M ⟨by decide, by decide⟩ w141s w141I (((zFr.refl).trans (w21F.mono rfl)).trans (w141F.mono rfl)) (w141J.trans w21J) w147N (zGh.cast w147H (by omega)) (zXm.cast (zXm.stop (p := w152n) w147X w147N (by omega) (by omega) (by omega)) (by omega)) (by omega) (by omega) (by omega) (by omega) (by omega)
            · refine zs_icmp_neF (pc := 29) t255_29 rfl li124 (by omega) ?_
              refine zs_iconst (pc := 32) t255_32 (v := 1) (by decide) ?_
              refine zs_goto (pc := 33) t255_33 ?_
              refine zs_istore_n (pc := 37) t255_37 (ls' := [(1, .int (1 : Int32)), (2, .int (zhere w141M)), (0, .ref 336)]) (zml mf255 (by decide)) rfl ?_
              refine zs_iload_n (pc := 38) t255_38 rfl ?_
              refine zs_if_neT (pc := 39) t255_39 li1 (by decide) ?_
              have w259L : ∀ (m : Nat) (w259M : zM), zSk zMm w259M → zIv mLo mHi w259M → zFr [(336, 336, some 12), (336, 336, some 11), (340, 340, none)] w141M w259M → zJ w259M 351 = zJ w141M 351 → zGn w259M → zGh w259M (((zI w259M 336 12).toInt - (zI w259M 336 14).toInt) + 1) → zXm w259M 3 gg nn c0 → ((zI w259M 336 12).toInt ≤ (zI w141M 336 12).toInt) → ((zI w259M 336 11).toInt + (zI w259M 336 12).toInt = (zI w141M 336 11).toInt + (zI w141M 336 12).toInt) → ((zI w259M 336 6).toInt ≤ nn) → (zI w259M 336 12).toInt ≤ (m : Int) → zGo X l 6 0 0 255 45 [(0, .ref 336), (1, .int (1 : Int32)), (2, .int (zhere w141M))] [] w259M Q := by
                intro m
                induction m using Nat.strongRecOn with
                | ind w259m w259ih =>
                  intro w259M w259s w259I w259F w259J w259PN w259PH w259PX w259r0 w259r1 w259r2 w259q
                  have w260 := ib336_12 w259I
                  have w261 : (zI w141M 336 12).toInt = (zI w141M 336 12).toInt := (congrArg Int32.toInt rfl).trans rfl
                  have w262 := ib336_11 w259I
                  have w263 : (zI w141M 336 11).toInt = (zI w141M 336 11).toInt := (congrArg Int32.toInt rfl).trans rfl
                  have w264 : (zI w141M 336 12).toInt = (zI w141M 336 12).toInt := (congrArg Int32.toInt rfl).trans rfl
                  refine zs_aload_n (pc := 45) t255_45 rfl ?_
                  refine zs_bipush (pc := 46) t255_46 (v := 38) (by decide) ?_
                  have w265 : (38 : Int32).toInt = 38 := li38
                  refine zs_invV (pc := 48) (k := 336) (as' := [.int (38 : Int32)]) (st := []) t255_48 mf264 rfl rfl (Or.inl ⟨by decide, (zk1 (w259s.k fk_zMm_336))⟩) ⟨by decide, by decide, Nat.le_of_ble_eq_true rfl, Nat.le_of_ble_eq_true rfl⟩ (K264 w259s w259I ?_) (fun _ _ q => q)
                  intro w266v w266x0 w266a w266b
                  show zGo X l 6 0 0 255 51 [(0, .ref 336), (1, .int (1 : Int32)), (2, .int (zhere w141M))] [.int w266v] w259M _
                  rcases w266x0 with w267 | w267
                  · skip
                    have w2671 := w267.1
                    have w268 : (zI w259M 336 12).toInt = (zI w259M 336 12).toInt := (congrArg Int32.toInt rfl).trans rfl
                    have w2672 := w267.2.1
                    obtain ⟨w267n, w267ne⟩ : ∃ n : Nat, (n : Int) + 1 = (zI w259M 336 12).toInt := ⟨((zI w259M 336 12).toInt - 1).toNat, by omega⟩
                    have w2673 := w267.2.2 w267n w267ne
                    refine zs_if_neT (pc := 51) t255_51 rfl (by omega) ?_
                    refine zs_aload_n (pc := 69) t255_69 rfl ?_
                    have w269 : (zI w259M 336 11).toInt = (zI w259M 336 11).toInt := (congrArg Int32.toInt rfl).trans rfl
                    have w270 : (zI w259M 336 12).toInt = (zI w259M 336 12).toInt := (congrArg Int32.toInt rfl).trans rfl
                    have w271 : (zI w259M 336 11).toInt = (zI w259M 336 11).toInt := (congrArg Int32.toInt rfl).trans rfl
                    have w272 : (zI w259M 336 12).toInt = (zI w259M 336 12).toInt := (congrArg Int32.toInt rfl).trans rfl
                    have w273 := zGn.le w259PN
                    have w274 : (zI w259M 336 12).toInt = (zI w259M 336 12).toInt := (congrArg Int32.toInt rfl).trans rfl
                    have w275 : (zI w259M 336 14).toInt = (zI w141M 336 14).toInt := (congrArg Int32.toInt ((w259F 336 14 rfl).trans rfl)).trans rfl
                    have w277 : (zI w259M 336 14).toInt = (zI w141M 336 14).toInt := (congrArg Int32.toInt ((w259F 336 14 rfl).trans rfl)).trans rfl
                    have w278 : (zI w259M 336 12).toInt = (zI w259M 336 12).toInt := (congrArg Int32.toInt rfl).trans rfl
                    have w276z := zGn.bin (n := w267n) w259PN (by omega) (by omega)
                    have w276y := znest.nn (zI w259M 341) w267n
                    refine zs_invV (pc := 70) (k := 336) (as' := []) (st := []) t255_70 mf265 rfl rfl (Or.inl ⟨by decide, (zk1 (w259s.k fk_zMm_336))⟩) ⟨by decide, by decide, Nat.le_of_ble_eq_true rfl, Nat.le_of_ble_eq_true rfl⟩ (K265 (hq := (((zI w259M 336 12).toInt - (zI w259M 336 14).toInt) + 1) - 1) w259s w259I w259PH (by omega) (by omega) (fun n hn => by obtain rfl : n = w267n := (by omega); omega) ?_) (fun _ _ q => q)
                    intro w279M w279s w279I w279F w279J w279PH w279t0 w279t1
                    have w280 := ib336_11 w279I
                    have w281 := ib336_12 w279I
                    have w282 : (zI w259M 336 14).toInt = (zI w141M 336 14).toInt := (congrArg Int32.toInt ((w259F 336 14 rfl).trans rfl)).trans rfl
                    have w279z := zGn.bin (n := w267n) w259PN (by omega) (by omega)
                    have w279y := znest.nn (zI w259M 341) w267n
                    have w283 : (zI w279M 336 14).toInt = (zI w141M 336 14).toInt := (congrArg Int32.toInt ((w279F 336 14 rfl).trans ((w259F 336 14 rfl).trans rfl))).trans rfl
                    have w284 : (zI w279M 336 12).toInt = (zI w279M 336 12).toInt := (congrArg Int32.toInt rfl).trans rfl
                    have w279N : zGn w279M := zGn.popb (n := w267n) w259PN (by omega) (by omega) (fun j => w279F 341 j rfl) (by omega) (by omega)
                    have w285 : (zI w259M 336 12).toInt = (zI w259M 336 12).toInt := (congrArg Int32.toInt rfl).trans rfl
                    have w286 : (zI w279M 336 12).toInt = (zI w279M 336 12).toInt := (congrArg Int32.toInt rfl).trans rfl
                    have w279X : zXm w279M 3 gg nn c0 := zXm.popb (w := w267n) w259PX (by omega) (by omega) (fun j => w279F 341 j rfl) (by omega) (w279F 336 6 rfl) (w279F 336 13 rfl)
                    show zGo X l 6 0 0 255 73 [(0, .ref 336), (1, .int (1 : Int32)), (2, .int (zhere w141M))] [] w279M _
                    refine zs_goto (pc := 73) t255_73 ?_
                    refine zGo.locals (ls' := [(0, .ref 336), (1, .int (1 : Int32)), (2, .int (zhere w141M))]) (by simp) ?_
                    have w287 : (zI w279M 336 12).toInt = (zI w279M 336 12).toInt := (congrArg Int32.toInt rfl).trans rfl
                    have w288 : (zI w279M 336 14).toInt = (zI w141M 336 14).toInt := (congrArg Int32.toInt ((w279F 336 14 rfl).trans ((w259F 336 14 rfl).trans rfl))).trans rfl
                    have w289 : (zI w279M 336 12).toInt = (zI w279M 336 12).toInt := (congrArg Int32.toInt rfl).trans rfl
                    have w290 : (zI w279M 336 11).toInt = (zI w279M 336 11).toInt := (congrArg Int32.toInt rfl).trans rfl
                    have w291 : (zI w279M 336 12).toInt = (zI w279M 336 12).toInt := (congrArg Int32.toInt rfl).trans rfl
                    have w292 : (zI w279M 336 6).toInt = (zI w141M 336 6).toInt := (congrArg Int32.toInt ((w279F 336 6 rfl).trans ((w259F 336 6 rfl).trans rfl))).trans rfl
                    have w293 : (zI w279M 336 12).toInt = (zI w279M 336 12).toInt := (congrArg Int32.toInt rfl).trans rfl
                    exact w259ih (w259m - 1) (by omega) w279M w279s w279I (((zFr.refl).trans (w259F.mono rfl)).trans (w279F.mono rfl)) (w279J.trans w259J) w279N (zGh.cast w279PH (by omega)) (zXm.cast w279X (by omega)) (by omega) (by omega) (by omega) (by omega)
                  · skip
                    have w2671 := w267.1
                    have w294 : (zI w259M 336 12).toInt = (zI w259M 336 12).toInt := (congrArg Int32.toInt rfl).trans rfl
                    refine zs_if_neF (pc := 51) t255_51 rfl (by omega) ?_
                    refine zs_iload_n (pc := 54) t255_54 rfl ?_
                    refine zs_bipush (pc := 55) t255_55 (v := 124) (by decide) ?_
                    refine zs_icmp_neF (pc := 57) t255_57 rfl li124 (by omega) ?_
                    refine zs_aload_n (pc := 60) t255_60 rfl ?_
                    refine zs_bipush (pc := 61) t255_61 (v := 124) (by decide) ?_
                    have w295 : (124 : Int32).toInt = 124 := li124
                    refine zs_invV (pc := 63) (k := 336) (as' := [.int (124 : Int32)]) (st := []) t255_63 mf264 rfl rfl (Or.inl ⟨by decide, (zk1 (w259s.k fk_zMm_336))⟩) ⟨by decide, by decide, Nat.le_of_ble_eq_true rfl, Nat.le_of_ble_eq_true rfl⟩ (K264 w259s w259I ?_) (fun _ _ q => q)
                    intro w296v w296x0 w296a w296b
                    show zGo X l 6 0 0 255 66 [(0, .ref 336), (1, .int (1 : Int32)), (2, .int (zhere w141M))] [.int w296v] w259M _
                    rcases w296x0 with w297 | w297
                    · skip
                      have w2971 := w297.1
                      have w298 : (zI w259M 336 12).toInt = (zI w259M 336 12).toInt := (congrArg Int32.toInt rfl).trans rfl
                      have w2972 := w297.2.1
                      obtain ⟨w297n, w297ne⟩ : ∃ n : Nat, (n : Int) + 1 = (zI w259M 336 12).toInt := ⟨((zI w259M 336 12).toInt - 1).toNat, by omega⟩
                      have w2973 := w297.2.2 w297n w297ne
                      refine zs_if_eqF (pc := 66) t255_66 rfl (by omega) ?_
                      refine zs_aload_n (pc := 69) t255_69 rfl ?_
                      have w299 : (zI w259M 336 11).toInt = (zI w259M 336 11).toInt := (congrArg Int32.toInt rfl).trans rfl
                      have w300 : (zI w259M 336 12).toInt = (zI w259M 336 12).toInt := (congrArg Int32.toInt rfl).trans rfl
                      have w301 : (zI w259M 336 11).toInt = (zI w259M 336 11).toInt := (congrArg Int32.toInt rfl).trans rfl
                      have w302 : (zI w259M 336 12).toInt = (zI w259M 336 12).toInt := (congrArg Int32.toInt rfl).trans rfl
                      have w303 := zGn.le w259PN
                      have w304 : (zI w259M 336 12).toInt = (zI w259M 336 12).toInt := (congrArg Int32.toInt rfl).trans rfl
                      have w305 : (zI w259M 336 14).toInt = (zI w141M 336 14).toInt := (congrArg Int32.toInt ((w259F 336 14 rfl).trans rfl)).trans rfl
                      have w307 : (zI w259M 336 14).toInt = (zI w141M 336 14).toInt := (congrArg Int32.toInt ((w259F 336 14 rfl).trans rfl)).trans rfl
                      have w308 : (zI w259M 336 12).toInt = (zI w259M 336 12).toInt := (congrArg Int32.toInt rfl).trans rfl
                      have w306z := zGn.bin (n := w297n) w259PN (by omega) (by omega)
                      have w306y := znest.nn (zI w259M 341) w297n
                      refine zs_invV (pc := 70) (k := 336) (as' := []) (st := []) t255_70 mf265 rfl rfl (Or.inl ⟨by decide, (zk1 (w259s.k fk_zMm_336))⟩) ⟨by decide, by decide, Nat.le_of_ble_eq_true rfl, Nat.le_of_ble_eq_true rfl⟩ (K265 (hq := (((zI w259M 336 12).toInt - (zI w259M 336 14).toInt) + 1) - 1) w259s w259I w259PH (by omega) (by omega) (fun n hn => by obtain rfl : n = w297n := (by omega); omega) ?_) (fun _ _ q => q)
                      intro w309M w309s w309I w309F w309J w309PH w309t0 w309t1
                      have w310 := ib336_11 w309I
                      have w311 := ib336_12 w309I
                      have w312 : (zI w259M 336 14).toInt = (zI w141M 336 14).toInt := (congrArg Int32.toInt ((w259F 336 14 rfl).trans rfl)).trans rfl
                      have w309z := zGn.bin (n := w297n) w259PN (by omega) (by omega)
                      have w309y := znest.nn (zI w259M 341) w297n
                      have w313 : (zI w309M 336 14).toInt = (zI w141M 336 14).toInt := (congrArg Int32.toInt ((w309F 336 14 rfl).trans ((w259F 336 14 rfl).trans rfl))).trans rfl
                      have w314 : (zI w309M 336 12).toInt = (zI w309M 336 12).toInt := (congrArg Int32.toInt rfl).trans rfl
                      have w309N : zGn w309M := zGn.popb (n := w297n) w259PN (by omega) (by omega) (fun j => w309F 341 j rfl) (by omega) (by omega)
                      have w315 : (zI w259M 336 12).toInt = (zI w259M 336 12).toInt := (congrArg Int32.toInt rfl).trans rfl
                      have w316 : (zI w309M 336 12).toInt = (zI w309M 336 12).toInt := (congrArg Int32.toInt rfl).trans rfl
                      have w309X : zXm w309M 3 gg nn c0 := zXm.popb (w := w297n) w259PX (by omega) (by omega) (fun j => w309F 341 j rfl) (by omega) (w309F 336 6 rfl) (w309F 336 13 rfl)
                      show zGo X l 6 0 0 255 73 [(0, .ref 336), (1, .int (1 : Int32)), (2, .int (zhere w141M))] [] w309M _
                      refine zs_goto (pc := 73) t255_73 ?_
                      refine zGo.locals (ls' := [(0, .ref 336), (1, .int (1 : Int32)), (2, .int (zhere w141M))]) (by simp) ?_
                      have w317 : (zI w309M 336 12).toInt = (zI w309M 336 12).toInt := (congrArg Int32.toInt rfl).trans rfl
                      have w318 : (zI w309M 336 14).toInt = (zI w141M 336 14).toInt := (congrArg Int32.toInt ((w309F 336 14 rfl).trans ((w259F 336 14 rfl).trans rfl))).trans rfl
                      have w319 : (zI w309M 336 12).toInt = (zI w309M 336 12).toInt := (congrArg Int32.toInt rfl).trans rfl
                      have w320 : (zI w309M 336 11).toInt = (zI w309M 336 11).toInt := (congrArg Int32.toInt rfl).trans rfl
                      have w321 : (zI w309M 336 12).toInt = (zI w309M 336 12).toInt := (congrArg Int32.toInt rfl).trans rfl
                      have w322 : (zI w309M 336 6).toInt = (zI w141M 336 6).toInt := (congrArg Int32.toInt ((w309F 336 6 rfl).trans ((w259F 336 6 rfl).trans rfl))).trans rfl
                      have w323 : (zI w309M 336 12).toInt = (zI w309M 336 12).toInt := (congrArg Int32.toInt rfl).trans rfl
                      exact w259ih (w259m - 1) (by omega) w309M w309s w309I (((zFr.refl).trans (w259F.mono rfl)).trans (w309F.mono rfl)) (w309J.trans w259J) w309N (zGh.cast w309PH (by omega)) (zXm.cast w309X (by omega)) (by omega) (by omega) (by omega) (by omega)
                    · skip
                      have w2971 := w297.1
                      have w324 : (zI w259M 336 12).toInt = (zI w259M 336 12).toInt := (congrArg Int32.toInt rfl).trans rfl
                      refine zs_if_eqT (pc := 66) t255_66 rfl (by omega) ?_
                      refine zs_aload_n (pc := 76) t255_76 rfl ?_
                      refine zs_get (pc := 77) t255_77 (by decide) (zk1 (w259s.k fk_zMm_336)) (w259s.p rfl fv_zMm_336_10) ?_
                      refine zs_aload_n (pc := 80) t255_80 rfl ?_
                      refine zs_get (pc := 81) t255_81 (by decide) (zk1 (w259s.k fk_zMm_336)) (zfvi rfl rfl) ?_
                      refine zs_iload_n (pc := 84) t255_84 rfl ?_
                      obtain ⟨w325n, w325⟩ : ∃ n : Nat, (zI w259M 336 12).toInt = (n : Int) := ⟨((zI w259M 336 12).toInt).toNat, by omega⟩
                      have w326 : zIv mLo mHi (zsI w259M 341 w325n (zhere w141M)) := zIv.put w259I (show (-2147483648) ≤ (zhere w141M).toInt ∧ (zhere w141M).toInt ≤ 2147483647 from zrg (zhere w141M))
                      refine zs_iast (pc := 85) t255_85 (j := w325n) (by decide) (zk1 (w259s.k fk_zMm_341)) (show (zI w259M 336 12).toInt = ((w325n : Nat) : Int) by omega) (zk2 (w259s.k fk_zMm_341) (by omega)) ?_
                      refine zs_aload_n (pc := 86) t255_86 rfl ?_
                      refine zs_dup (pc := 87) t255_87 rfl ?_
                      refine zs_get (pc := 88) t255_88 (by decide) (zk1 (w259s.k fk_zMm_336)) (zfvi rfl ((zIo (by decide)).trans rfl)) ?_
                      refine zs_iconst (pc := 91) t255_91 (v := 1) (by decide) ?_
                      obtain ⟨w327v, w327e, w327⟩ := ziadd (a := (zI w259M 336 12)) (b := (1 : Int32)) rfl li1 (by omega) (by omega)
                      refine zs_iadd (pc := 92) t255_92 (c := w327v) w327e ?_
                      have w328 : zIv mLo mHi (zsI (zsI w259M 341 w325n (zhere w141M)) 336 12 w327v) := zIv.put w326 (show 0 ≤ w327v.toInt ∧ w327v.toInt ≤ 40 from ⟨by omega, by omega⟩)
                      have w329 : (zI (zsI (zsI w259M 341 w325n (zhere w141M)) 336 12 w327v) 336 12).toInt = ((zI w259M 336 12).toInt + 1) := (congrArg Int32.toInt zIs).trans w327
                      have w330 : (zI (zsI (zsI w259M 341 w325n (zhere w141M)) 336 12 w327v) 336 14).toInt = (zI w141M 336 14).toInt := (congrArg Int32.toInt ((zIoj (by decide)).trans ((zIo (by decide)).trans ((w259F 336 14 rfl).trans rfl)))).trans rfl
                      have w331 : (zI w259M 336 12).toInt = (zI w259M 336 12).toInt := (congrArg Int32.toInt rfl).trans rfl
                      have w332 : (zI w259M 336 14).toInt = (zI w141M 336 14).toInt := (congrArg Int32.toInt ((w259F 336 14 rfl).trans rfl)).trans rfl
                      have w333 : w327v.toInt = ((zI w259M 336 12).toInt + 1) := w327
                      have w334 : (zI (zsI (zsI w259M 341 w325n (zhere w141M)) 336 12 w327v) 341 w325n).toInt = (zhere w141M).toInt := (congrArg Int32.toInt ((zIo (by decide)).trans zIs)).trans rfl
                      have w335 : zGn (zsI (zsI w259M 341 w325n (zhere w141M)) 336 12 w327v) := zGn.pushb (n := w325n) w259PN (by omega) (fun j hj => ((zIo (by decide)).trans (zIoj hj))) (by omega) (by omega) (by omega)
                      refine zs_putI (pc := 93) t255_93 (zk1 (w259s.k fk_zMm_336)) rfl ?_
                      refine zs_aload_n (pc := 96) t255_96 rfl ?_
                      refine zs_dup (pc := 97) t255_97 rfl ?_
                      refine zs_get (pc := 98) t255_98 (by decide) (zk1 (w259s.k fk_zMm_336)) (zfvi rfl ((zIoj (by decide)).trans ((zIo (by decide)).trans ((w259F 336 6 rfl).trans rfl)))) ?_
                      refine zs_iconst (pc := 101) t255_101 (v := 1) (by decide) ?_
                      obtain ⟨w336v, w336e, w336⟩ := ziadd (a := (zI w141M 336 6)) (b := (1 : Int32)) rfl li1 (by omega) (by omega)
                      refine zs_iadd (pc := 102) t255_102 (c := w336v) w336e ?_
                      have w337 : zIv mLo mHi (zsI (zsI (zsI w259M 341 w325n (zhere w141M)) 336 12 w327v) 336 6 w336v) := zIv.put w328 (show 0 ≤ w336v.toInt ∧ w336v.toInt ≤ 500 from ⟨by omega, by omega⟩)
                      have w338 : (zI w259M 336 6).toInt = (zI w141M 336 6).toInt := (congrArg Int32.toInt ((w259F 336 6 rfl).trans rfl)).trans rfl
                      have w340 : (zI (zsI (zsI (zsI w259M 341 w325n (zhere w141M)) 336 12 w327v) 336 6 w336v) 336 6).toInt = ((zI w141M 336 6).toInt + 1) := (congrArg Int32.toInt zIs).trans w336
                      have w341 : (zI (zsI (zsI (zsI w259M 341 w325n (zhere w141M)) 336 12 w327v) 336 6 w336v) 336 12).toInt = ((zI w259M 336 12).toInt + 1) := (congrArg Int32.toInt ((zIoj (by decide)).trans zIs)).trans w327
                      have w342 : (zI (zsI (zsI (zsI w259M 341 w325n (zhere w141M)) 336 12 w327v) 336 6 w336v) 336 13).toInt = (zI w141M 336 13).toInt := (congrArg Int32.toInt ((zIoj (by decide)).trans ((zIoj (by decide)).trans ((zIo (by decide)).trans ((w259F 336 13 rfl).trans rfl))))).trans rfl
                      have w343 : (zI (zsI (zsI (zsI w259M 341 w325n (zhere w141M)) 336 12 w327v) 336 6 w336v) 336 14).toInt = (zI w141M 336 14).toInt := (congrArg Int32.toInt ((zIoj (by decide)).trans ((zIoj (by decide)).trans ((zIo (by decide)).trans ((w259F 336 14 rfl).trans rfl))))).trans rfl
                      have w344 : (zI w259M 336 6).toInt = (zI w141M 336 6).toInt := (congrArg Int32.toInt ((w259F 336 6 rfl).trans rfl)).trans rfl
                      have w345 : (zI w259M 336 12).toInt = (zI w259M 336 12).toInt := (congrArg Int32.toInt rfl).trans rfl
                      have w346 : (zI w259M 336 13).toInt = (zI w141M 336 13).toInt := (congrArg Int32.toInt ((w259F 336 13 rfl).trans rfl)).trans rfl
                      have w347 : (zI w259M 336 14).toInt = (zI w141M 336 14).toInt := (congrArg Int32.toInt ((w259F 336 14 rfl).trans rfl)).trans rfl
                      have w348 : w327v.toInt = ((zI w259M 336 12).toInt + 1) := w327
                      have w349 : w336v.toInt = ((zI w141M 336 6).toInt + 1) := w336
                      have w350 : (zI (zsI (zsI (zsI w259M 341 w325n (zhere w141M)) 336 12 w327v) 336 6 w336v) 341 w325n).toInt = (zhere w141M).toInt := (congrArg Int32.toInt ((zIo (by decide)).trans ((zIo (by decide)).trans zIs))).trans rfl
                      have w339 : zXm (zsI (zsI (zsI w259M 341 w325n (zhere w141M)) 336 12 w327v) 336 6 w336v) 1 gg nn c0 := zXm.bin (w := w325n) (p := w152n) w259PX (by omega) (by omega) (by omega) (fun j hj => ((zIo (by decide)).trans ((zIo (by decide)).trans (zIoj hj)))) (by omega) (by omega) (by omega) (by omega) (by omega)
                      refine zs_putI (pc := 103) t255_103 (zk1 (w259s.k fk_zMm_336)) rfl ?_
                      refine zs_goto (pc := 106) t255_106 ?_
                      refine zGo.locals (ls' := [(0, .ref 336), (1, .int (1 : Int32))]) (by simp) ?_
                      have w351 := li1
                      have w352 : (zI (zsI (zsI (zsI w259M 341 w325n (zhere w141M)) 336 12 w327v) 336 6 w336v) 336 12).toInt = ((zI w259M 336 12).toInt + 1) := (congrArg Int32.toInt ((zIoj (by decide)).trans zIs)).trans w327
                      have w353 : (zI (zsI (zsI (zsI w259M 341 w325n (zhere w141M)) 336 12 w327v) 336 6 w336v) 336 14).toInt = (zI w141M 336 14).toInt := (congrArg Int32.toInt ((zIoj (by decide)).trans ((zIoj (by decide)).trans ((zIo (by decide)).trans ((w259F 336 14 rfl).trans rfl))))).trans rfl
                      have w354 : (zI (zsI (zsI (zsI w259M 341 w325n (zhere w141M)) 336 12 w327v) 336 6 w336v) 336 11).toInt = (zI w259M 336 11).toInt := (congrArg Int32.toInt ((zIoj (by decide)).trans ((zIoj (by decide)).trans ((zIo (by decide)).trans rfl)))).trans rfl
                      have w355 : (zI (zsI (zsI (zsI w259M 341 w325n (zhere w141M)) 336 12 w327v) 336 6 w336v) 336 12).toInt = ((zI w259M 336 12).toInt + 1) := (congrArg Int32.toInt ((zIoj (by decide)).trans zIs)).trans w327
                      have w356 : (zI (zsI (zsI (zsI w259M 341 w325n (zhere w141M)) 336 12 w327v) 336 6 w336v) 336 13).toInt = (zI w141M 336 13).toInt := (congrArg Int32.toInt ((zIoj (by decide)).trans ((zIoj (by decide)).trans ((zIo (by decide)).trans ((w259F 336 13 rfl).trans rfl))))).trans rfl
                      have w357 : (zI (zsI (zsI (zsI w259M 341 w325n (zhere w141M)) 336 12 w327v) 336 6 w336v) 336 14).toInt = (zI w141M 336 14).toInt := (congrArg Int32.toInt ((zIoj (by decide)).trans ((zIoj (by decide)).trans ((zIo (by decide)).trans ((w259F 336 14 rfl).trans rfl))))).trans rfl
                      have w358 : (zI (zsI (zsI (zsI w259M 341 w325n (zhere w141M)) 336 12 w327v) 336 6 w336v) 336 12).toInt = ((zI w259M 336 12).toInt + 1) := (congrArg Int32.toInt ((zIoj (by decide)).trans zIs)).trans w327
                      have w359 : (zI (zsI (zsI (zsI w259M 341 w325n (zhere w141M)) 336 12 w327v) 336 6 w336v) 336 13).toInt = (zI w141M 336 13).toInt := (congrArg Int32.toInt ((zIoj (by decide)).trans ((zIoj (by decide)).trans ((zIo (by decide)).trans ((w259F 336 13 rfl).trans rfl))))).trans rfl
                      have w360 : (zI (zsI (zsI (zsI w259M 341 w325n (zhere w141M)) 336 12 w327v) 336 6 w336v) 336 6).toInt = ((zI w141M 336 6).toInt + 1) := (congrArg Int32.toInt zIs).trans w336
                      have w361 := ib336_7 w141I
                      have w362 : (zI (zsI (zsI (zsI w259M 341 w325n (zhere w141M)) 336 12 w327v) 336 6 w336v) 336 7).toInt = (zI w141M 336 7).toInt := (congrArg Int32.toInt ((zIoj (by decide)).trans ((zIoj (by decide)).trans ((zIo (by decide)).trans ((w259F 336 7 rfl).trans rfl))))).trans rfl
                      have w363 : (zI (zsI (zsI (zsI w259M 341 w325n (zhere w141M)) 336 12 w327v) 336 6 w336v) 336 6).toInt = ((zI w141M 336 6).toInt + 1) := (congrArg Int32.toInt zIs).trans w336
                      exact w21ih (w21m - 1) (by omega) (1 : Int32) (zsI (zsI (zsI w259M 341 w325n (zhere w141M)) 336 12 w327v) 336 6 w336v) ⟨by decide, by decide⟩ w259s w337 (((((((zFr.refl).trans (w21F.mono rfl)).trans (w141F.mono rfl)).trans (w259F.mono rfl)).put rfl).put rfl).put rfl) (w259J.trans (w141J.trans w21J)) (zGn.fr (M' := (zsI (zsI (zsI w259M 341 w325n (zhere w141M)) 336 12 w327v) 336 6 w336v)) w335 (zEq.put rfl)) (zGh.cast (zGh.fr (M' := (zsI (zsI (zsI w259M 341 w325n (zhere w141M)) 336 12 w327v) 336 6 w336v)) (zGh.fr (M' := (zsI (zsI w259M 341 w325n (zhere w141M)) 336 12 w327v)) (zGh.fr (M' := (zsI w259M 341 w325n (zhere w141M))) w259PH (zEq.put rfl)) (zEq.put rfl)) (zEq.put rfl)) (by omega)) (zXm.cast w339 (by omega)) (by omega) (by omega) (by omega) (by omega) (by omega)
              refine zGo.locals (ls' := [(0, .ref 336), (1, .int (1 : Int32)), (2, .int (zhere w141M))]) (by simp) ?_
              have w364 : (zI w141M 336 12).toInt = (zI w141M 336 12).toInt := (congrArg Int32.toInt rfl).trans rfl
              have w365 : (zI w141M 336 14).toInt = (zI w141M 336 14).toInt := (congrArg Int32.toInt rfl).trans rfl
              have w366 : (zI w141M 336 12).toInt = (zI w141M 336 12).toInt := (congrArg Int32.toInt rfl).trans rfl
              have w367 : (zI w141M 336 11).toInt = (zI w141M 336 11).toInt := (congrArg Int32.toInt rfl).trans rfl
              have w368 : (zI w141M 336 12).toInt = (zI w141M 336 12).toInt := (congrArg Int32.toInt rfl).trans rfl
              have w369 : (zI w141M 336 6).toInt = (zI w141M 336 6).toInt := (congrArg Int32.toInt rfl).trans rfl
              have w370 : (zI w141M 336 12).toInt = (zI w141M 336 12).toInt := (congrArg Int32.toInt rfl).trans rfl
              exact w259L (((zI w141M 336 12).toInt : Int).toNat) w141M w141s w141I zFr.refl rfl w147N (zGh.cast w147H (by omega)) (zXm.cast w147X (by omega)) (by omega) (by omega) (by omega) (by omega)
  refine zGo.locals (ls' := [(0, .ref 336), (1, .int (1 : Int32))]) (by simp) ?_
  have w371 := li1
  have w372 : (zI M 336 12).toInt = (zI M 336 12).toInt := (congrArg Int32.toInt rfl).trans rfl
  have w373 : (zI M 336 14).toInt = (zI M 336 14).toInt := (congrArg Int32.toInt rfl).trans rfl
  have w374 : (zI M 336 11).toInt = (zI M 336 11).toInt := (congrArg Int32.toInt rfl).trans rfl
  have w375 : (zI M 336 12).toInt = (zI M 336 12).toInt := (congrArg Int32.toInt rfl).trans rfl
  have w376 : (zI M 336 13).toInt = (zI M 336 13).toInt := (congrArg Int32.toInt rfl).trans rfl
  have w377 : (zI M 336 14).toInt = (zI M 336 14).toInt := (congrArg Int32.toInt rfl).trans rfl
  have w378 : (zI M 336 12).toInt = (zI M 336 12).toInt := (congrArg Int32.toInt rfl).trans rfl
  have w379 : (zI M 336 13).toInt = (zI M 336 13).toInt := (congrArg Int32.toInt rfl).trans rfl
  have w380 : (zI M 336 6).toInt = (zI M 336 6).toInt := (congrArg Int32.toInt rfl).trans rfl
  have w381 : (zI M 336 7).toInt = (zI M 336 7).toInt := (congrArg Int32.toInt rfl).trans rfl
  have w382 : (zI M 336 6).toInt = (zI M 336 6).toInt := (congrArg Int32.toInt rfl).trans rfl
  exact w21L ((2 * (500 - (zI M 336 6).toInt) + 1 : Int).toNat) (1 : Int32) M ⟨by decide, by decide⟩ hs hI zFr.refl rfl pN (zGh.cast pH (by omega)) (zXm.cast pX (by omega)) (by omega) (by omega) (by omega) (by omega) (by omega)
