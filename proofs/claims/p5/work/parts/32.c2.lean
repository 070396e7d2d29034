theorem K255 {X : zX} {l : Launch} {M : zM} {Q : Option Value → zM → Prop} (hs : zSk zMm M) (hI : zIv mLo mHi M) (pN : zGn M) (pH : zGh M ((zI M 336 12).toInt - (zI M 336 14).toInt)) (u0 : (zI M 336 11).toInt + (zI M 336 12).toInt ≤ 5 * (zI M 336 13).toInt) (u1 : 2 * ((zI M 336 12).toInt - (zI M 336 14).toInt) ≤ (zI M 336 13).toInt) (hQ : ∀ (M' : zM) (v : Int32), zSk zMm M' → zIv mLo mHi M' → zFr [(336, 336, some 6), (336, 336, some 7), (336, 336, some 8), (336, 336, some 11), (336, 336, some 13), (340, 340, none), (336, 336, some 12), (336, 336, some 14), (341, 341, none)] M M' → zJ M' 351 = zJ M 351 → (v.toInt = 0 ∨ zCd (zI M' 340) (zI M' 336 11).toInt) → 0 ≤ v.toInt → v.toInt ≤ 1 → Q (some (.int v)) M') : zCall X l 6 0 0 255 [.ref 336] M Q := by
  refine zs_in (by decide) mf255 (Nat.le_of_ble_eq_true rfl) ?_
  show zGo X l 6 0 0 255 0 [(0, .ref 336)] [] M _
  have w1 := ib336_5 hI
  have w2 : (zI M 336 5).toInt = (zI M 336 5).toInt := (congrArg Int32.toInt rfl).trans rfl
  have w3 := ib336_6 hI
  have w4 : (zI M 336 6).toInt = (zI M 336 6).toInt := (congrArg Int32.toInt rfl).trans rfl
  have w5 := ib336_11 hI
  have w6 : (zI M 336 11).toInt = (zI M 336 11).toInt := (congrArg Int32.toInt rfl).trans rfl
  have w7 := ib336_12 hI
  have w8 : (zI M 336 12).toInt = (zI M 336 12).toInt := (congrArg Int32.toInt rfl).trans rfl
  have w9 := ib336_13 hI
  have w10 : (zI M 336 13).toInt = (zI M 336 13).toInt := (congrArg Int32.toInt rfl).trans rfl
  have w11 := ib336_14 hI
  have w12 : (zI M 336 14).toInt = (zI M 336 14).toInt := (congrArg Int32.toInt rfl).trans rfl
  refine zs_iconst (pc := 0) t255_0 (v := 1) (by decide) ?_
  refine zs_istore_n (pc := 1) t255_1 (ls' := [(1, .int (1 : Int32)), (0, .ref 336)]) (zml mf255 (by decide)) rfl ?_
  have w13L : ∀ (m : Nat) (w13x1 : Int32) (w13M : zM), (0 ≤ w13x1.toInt ∧ w13x1.toInt ≤ 1) → zSk zMm w13M → zIv mLo mHi w13M → zFr [(336, 336, some 6), (336, 336, some 7), (336, 336, some 8), (336, 336, some 11), (336, 336, some 13), (340, 340, none), (336, 336, some 12), (336, 336, some 14), (341, 341, none)] M w13M → zJ w13M 351 = zJ M 351 → zGn w13M → zGh w13M (((zI w13M 336 12).toInt - (zI w13M 336 14).toInt) + 1 - w13x1.toInt) → ((zI w13M 336 11).toInt + (zI w13M 336 12).toInt ≤ 5 * (zI w13M 336 13).toInt) → (w13x1.toInt = 0 ∨ 2 * ((zI w13M 336 12).toInt - (zI w13M 336 14).toInt) ≤ (zI w13M 336 13).toInt) → 2 * (500 - (zI w13M 336 6).toInt) + w13x1.toInt ≤ (m : Int) → zGo X l 6 0 0 255 2 [(0, .ref 336), (1, .int w13x1)] [] w13M Q := by
    intro m
    induction m using Nat.strongRecOn with
    | ind w13m w13ih =>
      intro w13x1 w13M w13b1 w13s w13I w13F w13J w13PN w13PH w13r0 w13r1 w13q
      have w14 := ib336_11 w13I
      have w15 := ib336_12 w13I
      have w16 := ib336_13 w13I
      have w17 := ib336_14 w13I
      have w18 := ib336_6 w13I
      refine zs_iload_n (pc := 2) t255_2 rfl ?_
      by_cases w19 : w13x1.toInt = 0
      · refine zs_if_eqT (pc := 3) t255_3 rfl (by omega) ?_
        have w20L : ∀ (m : Nat) (w20M : zM), zSk zMm w20M → zIv mLo mHi w20M → zFr [(336, 336, some 12), (336, 336, some 11), (340, 340, none)] w13M w20M → zJ w20M 351 = zJ w13M 351 → zGn w20M → zGh w20M (((zI w20M 336 12).toInt - (zI w20M 336 14).toInt) + 1) → ((zI w20M 336 12).toInt ≤ (zI w13M 336 12).toInt) → ((zI w20M 336 11).toInt + (zI w20M 336 12).toInt = (zI w13M 336 11).toInt + (zI w13M 336 12).toInt) → (zI w20M 336 12).toInt ≤ (m : Int) → zGo X l 6 0 0 255 109 [(0, .ref 336), (1, .int w13x1)] [] w20M Q := by
          intro m
          induction m using Nat.strongRecOn with
          | ind w20m w20ih =>
            intro w20M w20s w20I w20F w20J w20PN w20PH w20r0 w20r1 w20q
            have w21 := ib336_12 w20I
            have w22 : (zI w13M 336 12).toInt = (zI w13M 336 12).toInt := (congrArg Int32.toInt rfl).trans rfl
            have w23 := ib336_11 w20I
            have w24 : (zI w13M 336 11).toInt = (zI w13M 336 11).toInt := (congrArg Int32.toInt rfl).trans rfl
            have w25 : (zI w13M 336 12).toInt = (zI w13M 336 12).toInt := (congrArg Int32.toInt rfl).trans rfl
            refine zs_aload_n (pc := 109) t255_109 rfl ?_
            refine zs_bipush (pc := 110) t255_110 (v := 38) (by decide) ?_
            have w26 : (38 : Int32).toInt = 38 := li38
            refine zs_invV (pc := 112) (k := 336) (as' := [.int (38 : Int32)]) (st := []) t255_112 mf264 rfl rfl (Or.inl ⟨by decide, (zk1 (w20s.k fk_zMm_336))⟩) ⟨by decide, by decide, Nat.le_of_ble_eq_true rfl, Nat.le_of_ble_eq_true rfl⟩ (K264 w20s w20I ?_) (fun _ _ q => q)
            intro w27v w27x0 w27a w27b
            show zGo X l 6 0 0 255 115 [(0, .ref 336), (1, .int w13x1)] [.int w27v] w20M _
            rcases w27x0 with w28 | w28
            · skip
              have w281 := w28.1
              have w29 : (zI w20M 336 12).toInt = (zI w20M 336 12).toInt := (congrArg Int32.toInt rfl).trans rfl
              have w282 := w28.2.1
              obtain ⟨w28n, w28ne⟩ : ∃ n : Nat, (n : Int) + 1 = (zI w20M 336 12).toInt := ⟨((zI w20M 336 12).toInt - 1).toNat, by omega⟩
              have w283 := w28.2.2 w28n w28ne
              refine zs_if_neT (pc := 115) t255_115 rfl (by omega) ?_
              refine zs_aload_n (pc := 127) t255_127 rfl ?_
              have w30 : (zI w20M 336 11).toInt = (zI w20M 336 11).toInt := (congrArg Int32.toInt rfl).trans rfl
              have w31 : (zI w20M 336 12).toInt = (zI w20M 336 12).toInt := (congrArg Int32.toInt rfl).trans rfl
              have w32 : (zI w20M 336 11).toInt = (zI w20M 336 11).toInt := (congrArg Int32.toInt rfl).trans rfl
              have w33 : (zI w20M 336 12).toInt = (zI w20M 336 12).toInt := (congrArg Int32.toInt rfl).trans rfl
              have w34 := zGn.le w20PN
              have w35 : (zI w20M 336 12).toInt = (zI w20M 336 12).toInt := (congrArg Int32.toInt rfl).trans rfl
              have w36 : (zI w20M 336 14).toInt = (zI w13M 336 14).toInt := (congrArg Int32.toInt ((w20F 336 14 rfl).trans rfl)).trans rfl
              have w38 : (zI w20M 336 14).toInt = (zI w13M 336 14).toInt := (congrArg Int32.toInt ((w20F 336 14 rfl).trans rfl)).trans rfl
              have w39 : (zI w20M 336 12).toInt = (zI w20M 336 12).toInt := (congrArg Int32.toInt rfl).trans rfl
              have w37z := zGn.bin (n := w28n) w20PN (by omega) (by omega)
              have w37y := znest.nn (zI w20M 341) w28n
              refine zs_invV (pc := 128) (k := 336) (as' := []) (st := []) t255_128 mf265 rfl rfl (Or.inl ⟨by decide, (zk1 (w20s.k fk_zMm_336))⟩) ⟨by decide, by decide, Nat.le_of_ble_eq_true rfl, Nat.le_of_ble_eq_true rfl⟩ (K265 (hq := (((zI w20M 336 12).toInt - (zI w20M 336 14).toInt) + 1) - 1) w20s w20I w20PH (by omega) (by omega) (fun n hn => by obtain rfl : n = w28n := (by omega); omega) ?_) (fun _ _ q => q)
              intro w40M w40s w40I w40F w40J w40PH w40t0 w40t1
              have w41 := ib336_11 w40I
              have w42 := ib336_12 w40I
              have w43 : (zI w20M 336 14).toInt = (zI w13M 336 14).toInt := (congrArg Int32.toInt ((w20F 336 14 rfl).trans rfl)).trans rfl
              have w40z := zGn.bin (n := w28n) w20PN (by omega) (by omega)
              have w40y := znest.nn (zI w20M 341) w28n
              have w44 : (zI w40M 336 14).toInt = (zI w13M 336 14).toInt := (congrArg Int32.toInt ((w40F 336 14 rfl).trans ((w20F 336 14 rfl).trans rfl))).trans rfl
              have w45 : (zI w40M 336 12).toInt = (zI w40M 336 12).toInt := (congrArg Int32.toInt rfl).trans rfl
              have w40N : zGn w40M := zGn.popb (n := w28n) w20PN (by omega) (by omega) (fun j => w40F 341 j rfl) (by omega) (by omega)
              show zGo X l 6 0 0 255 131 [(0, .ref 336), (1, .int w13x1)] [] w40M _
              refine zs_goto (pc := 131) t255_131 ?_
              refine zGo.locals (ls' := [(0, .ref 336), (1, .int w13x1)]) (by simp) ?_
              have w46 : (zI w40M 336 12).toInt = (zI w40M 336 12).toInt := (congrArg Int32.toInt rfl).trans rfl
              have w47 : (zI w40M 336 14).toInt = (zI w13M 336 14).toInt := (congrArg Int32.toInt ((w40F 336 14 rfl).trans ((w20F 336 14 rfl).trans rfl))).trans rfl
              have w48 : (zI w40M 336 12).toInt = (zI w40M 336 12).toInt := (congrArg Int32.toInt rfl).trans rfl
              have w49 : (zI w40M 336 11).toInt = (zI w40M 336 11).toInt := (congrArg Int32.toInt rfl).trans rfl
              have w50 : (zI w40M 336 12).toInt = (zI w40M 336 12).toInt := (congrArg Int32.toInt rfl).trans rfl
              have w51 : (zI w40M 336 12).toInt = (zI w40M 336 12).toInt := (congrArg Int32.toInt rfl).trans rfl
              exact w20ih (w20m - 1) (by omega) w40M w40s w40I (((zFr.refl).trans (w20F.mono rfl)).trans (w40F.mono rfl)) (w40J.trans w20J) w40N (zGh.cast w40PH (by omega)) (by omega) (by omega) (by omega)
            · skip
              have w281 := w28.1
              have w52 : (zI w20M 336 12).toInt = (zI w20M 336 12).toInt := (congrArg Int32.toInt rfl).trans rfl
              refine zs_if_neF (pc := 115) t255_115 rfl (by omega) ?_
              refine zs_aload_n (pc := 118) t255_118 rfl ?_
              refine zs_bipush (pc := 119) t255_119 (v := 124) (by decide) ?_
              have w53 : (124 : Int32).toInt = 124 := li124
              refine zs_invV (pc := 121) (k := 336) (as' := [.int (124 : Int32)]) (st := []) t255_121 mf264 rfl rfl (Or.inl ⟨by decide, (zk1 (w20s.k fk_zMm_336))⟩) ⟨by decide, by decide, Nat.le_of_ble_eq_true rfl, Nat.le_of_ble_eq_true rfl⟩ (K264 w20s w20I ?_) (fun _ _ q => q)
              intro w54v w54x0 w54a w54b
              show zGo X l 6 0 0 255 124 [(0, .ref 336), (1, .int w13x1)] [.int w54v] w20M _
              rcases w54x0 with w55 | w55
              · skip
                have w551 := w55.1
                have w56 : (zI w20M 336 12).toInt = (zI w20M 336 12).toInt := (congrArg Int32.toInt rfl).trans rfl
                have w552 := w55.2.1
                obtain ⟨w55n, w55ne⟩ : ∃ n : Nat, (n : Int) + 1 = (zI w20M 336 12).toInt := ⟨((zI w20M 336 12).toInt - 1).toNat, by omega⟩
                have w553 := w55.2.2 w55n w55ne
                refine zs_if_eqF (pc := 124) t255_124 rfl (by omega) ?_
                refine zs_aload_n (pc := 127) t255_127 rfl ?_
                have w57 : (zI w20M 336 11).toInt = (zI w20M 336 11).toInt := (congrArg Int32.toInt rfl).trans rfl
                have w58 : (zI w20M 336 12).toInt = (zI w20M 336 12).toInt := (congrArg Int32.toInt rfl).trans rfl
                have w59 : (zI w20M 336 11).toInt = (zI w20M 336 11).toInt := (congrArg Int32.toInt rfl).trans rfl
                have w60 : (zI w20M 336 12).toInt = (zI w20M 336 12).toInt := (congrArg Int32.toInt rfl).trans rfl
                have w61 := zGn.le w20PN
                have w62 : (zI w20M 336 12).toInt = (zI w20M 336 12).toInt := (congrArg Int32.toInt rfl).trans rfl
                have w63 : (zI w20M 336 14).toInt = (zI w13M 336 14).toInt := (congrArg Int32.toInt ((w20F 336 14 rfl).trans rfl)).trans rfl
                have w65 : (zI w20M 336 14).toInt = (zI w13M 336 14).toInt := (congrArg Int32.toInt ((w20F 336 14 rfl).trans rfl)).trans rfl
                have w66 : (zI w20M 336 12).toInt = (zI w20M 336 12).toInt := (congrArg Int32.toInt rfl).trans rfl
                have w64z := zGn.bin (n := w55n) w20PN (by omega) (by omega)
                have w64y := znest.nn (zI w20M 341) w55n
                refine zs_invV (pc := 128) (k := 336) (as' := []) (st := []) t255_128 mf265 rfl rfl (Or.inl ⟨by decide, (zk1 (w20s.k fk_zMm_336))⟩) ⟨by decide, by decide, Nat.le_of_ble_eq_true rfl, Nat.le_of_ble_eq_true rfl⟩ (K265 (hq := (((zI w20M 336 12).toInt - (zI w20M 336 14).toInt) + 1) - 1) w20s w20I w20PH (by omega) (by omega) (fun n hn => by obtain rfl : n = w55n := (by omega); omega) ?_) (fun _ _ q => q)
                intro w67M w67s w67I w67F w67J w67PH w67t0 w67t1
                have w68 := ib336_11 w67I
                have w69 := ib336_12 w67I
                have w70 : (zI w20M 336 14).toInt = (zI w13M 336 14).toInt := (congrArg Int32.toInt ((w20F 336 14 rfl).trans rfl)).trans rfl
                have w67z := zGn.bin (n := w55n) w20PN (by omega) (by omega)
                have w67y := znest.nn (zI w20M 341) w55n
                have w71 : (zI w67M 336 14).toInt = (zI w13M 336 14).toInt := (congrArg Int32.toInt ((w67F 336 14 rfl).trans ((w20F 336 14 rfl).trans rfl))).trans rfl
                have w72 : (zI w67M 336 12).toInt = (zI w67M 336 12).toInt := (congrArg Int32.toInt rfl).trans rfl
                have w67N : zGn w67M := zGn.popb (n := w55n) w20PN (by omega) (by omega) (fun j => w67F 341 j rfl) (by omega) (by omega)
                show zGo X l 6 0 0 255 131 [(0, .ref 336), (1, .int w13x1)] [] w67M _
                refine zs_goto (pc := 131) t255_131 ?_
                refine zGo.locals (ls' := [(0, .ref 336), (1, .int w13x1)]) (by simp) ?_
                have w73 : (zI w67M 336 12).toInt = (zI w67M 336 12).toInt := (congrArg Int32.toInt rfl).trans rfl
                have w74 : (zI w67M 336 14).toInt = (zI w13M 336 14).toInt := (congrArg Int32.toInt ((w67F 336 14 rfl).trans ((w20F 336 14 rfl).trans rfl))).trans rfl
                have w75 : (zI w67M 336 12).toInt = (zI w67M 336 12).toInt := (congrArg Int32.toInt rfl).trans rfl
                have w76 : (zI w67M 336 11).toInt = (zI w67M 336 11).toInt := (congrArg Int32.toInt rfl).trans rfl
                have w77 : (zI w67M 336 12).toInt = (zI w67M 336 12).toInt := (congrArg Int32.toInt rfl).trans rfl
                have w78 : (zI w67M 336 12).toInt = (zI w67M 336 12).toInt := (congrArg Int32.toInt rfl).trans rfl
                exact w20ih (w20m - 1) (by omega) w67M w67s w67I (((zFr.refl).trans (w20F.mono rfl)).trans (w67F.mono rfl)) (w67J.trans w20J) w67N (zGh.cast w67PH (by omega)) (by omega) (by omega) (by omega)
              · skip
                have w551 := w55.1
                have w79 : (zI w20M 336 12).toInt = (zI w20M 336 12).toInt := (congrArg Int32.toInt rfl).trans rfl
                refine zs_if_eqT (pc := 124) t255_124 rfl (by omega) ?_
                refine zs_aload_n (pc := 134) t255_134 rfl ?_
                refine zs_get (pc := 135) t255_135 (by decide) (zk1 (w20s.k fk_zMm_336)) (zfvi rfl ((w20F 336 6 rfl).trans rfl)) ?_
                refine zs_aload_n (pc := 138) t255_138 rfl ?_
                refine zs_get (pc := 139) t255_139 (by decide) (zk1 (w20s.k fk_zMm_336)) (zfvi rfl ((w20F 336 5 rfl).trans ((w13F 336 5 rfl).trans rfl))) ?_
                by_cases w80 : (zI w13M 336 6).toInt ≠ (zI M 336 5).toInt
                · refine zs_icmp_neT (pc := 142) t255_142 rfl rfl (by omega) ?_
                  refine zs_aload_n (pc := 152) t255_152 rfl ?_
                  refine zs_aload_n (pc := 153) t255_153 rfl ?_
                  refine zs_get (pc := 154) t255_154 (by decide) (zk1 (w20s.k fk_zMm_336)) (zfvi rfl ((w20F 336 6 rfl).trans rfl)) ?_
                  refine zs_invV (pc := 157) (k := 336) (as' := [.int (zI w13M 336 6)]) (st := []) t255_157 mf239 rfl rfl (Or.inl ⟨by decide, (zk1 (w20s.k fk_zMm_336))⟩) ⟨by decide, by decide, Nat.le_of_ble_eq_true rfl, Nat.le_of_ble_eq_true rfl⟩ (zs_in (by decide) mf239 (Nat.le_of_ble_eq_true rfl) ?_) (fun _ _ q => q)
                  show zGo X l 0 0 0 239 0 [(0, .ref 336), (1, .int (zI w13M 336 6))] [] w20M _
                  refine zs_aload_n (pc := 0) t239_0 rfl ?_
                  refine zs_iload_n (pc := 1) t239_1 rfl ?_
                  have w81 : zIv mLo mHi (zsI w20M 336 7 (zI w13M 336 6)) := zIv.put w20I (show (-1) ≤ (zI w13M 336 6).toInt ∧ (zI w13M 336 6).toInt ≤ 500 from ⟨by omega, by omega⟩)
                  refine zs_putI (pc := 2) t239_2 (zk1 (w20s.k fk_zMm_336)) rfl ?_
                  refine zs_iconst (pc := 5) t239_5 (v := 0) (by decide) ?_
                  refine zs_iret (pc := 6) t239_6 mr239 (by decide) ?_
                  show zGo X l 6 0 0 255 160 [(0, .ref 336), (1, .int w13x1)] [.int (0 : Int32)] (zsI w20M 336 7 (zI w13M 336 6)) _
                  refine zs_if_eqT (pc := 160) t255_160 li0 (by decide) ?_
                  refine zs_iconst (pc := 167) t255_167 (v := 0) (by decide) ?_
                  exact zs_iret (pc := 168) t255_168 mr255 (by decide) (hQ _ _ w20s w81 ((((zFr.refl).trans (w13F.mono rfl)).trans (w20F.mono rfl)).put rfl) (w20J.trans w13J) (Or.inl (by decide)) (by decide) (by decide))
                · refine zs_icmp_neF (pc := 142) t255_142 rfl rfl (by omega) ?_
                  refine zs_aload_n (pc := 145) t255_145 rfl ?_
                  refine zs_get (pc := 146) t255_146 (by decide) (zk1 (w20s.k fk_zMm_336)) (zfvi rfl ((w20F 336 14 rfl).trans rfl)) ?_
                  by_cases w82 : (zI w13M 336 14).toInt = 0
                  · refine zs_if_eqT (pc := 149) t255_149 rfl (by omega) ?_
                    refine zs_iconst (pc := 163) t255_163 (v := 1) (by decide) ?_
                    refine zs_goto (pc := 164) t255_164 ?_
                    exact zs_iret (pc := 168) t255_168 mr255 (by decide) (hQ _ _ w20s w20I (((zFr.refl).trans (w13F.mono rfl)).trans (w20F.mono rfl)) (w20J.trans w13J) (Or.inr w20PH.1) (by decide) (by decide))
                  · refine zs_if_eqF (pc := 149) t255_149 rfl (by omega) ?_
                    refine zs_aload_n (pc := 152) t255_152 rfl ?_
                    refine zs_aload_n (pc := 153) t255_153 rfl ?_
                    refine zs_get (pc := 154) t255_154 (by decide) (zk1 (w20s.k fk_zMm_336)) (zfvi rfl ((w20F 336 6 rfl).trans rfl)) ?_
                    refine zs_invV (pc := 157) (k := 336) (as' := [.int (zI w13M 336 6)]) (st := []) t255_157 mf239 rfl rfl (Or.inl ⟨by decide, (zk1 (w20s.k fk_zMm_336))⟩) ⟨by decide, by decide, Nat.le_of_ble_eq_true rfl, Nat.le_of_ble_eq_true rfl⟩ (zs_in (by decide) mf239 (Nat.le_of_ble_eq_true rfl) ?_) (fun _ _ q => q)
                    show zGo X l 0 0 0 239 0 [(0, .ref 336), (1, .int (zI w13M 336 6))] [] w20M _
                    refine zs_aload_n (pc := 0) t239_0 rfl ?_
                    refine zs_iload_n (pc := 1) t239_1 rfl ?_
                    have w83 : zIv mLo mHi (zsI w20M 336 7 (zI w13M 336 6)) := zIv.put w20I (show (-1) ≤ (zI w13M 336 6).toInt ∧ (zI w13M 336 6).toInt ≤ 500 from ⟨by omega, by omega⟩)
                    refine zs_putI (pc := 2) t239_2 (zk1 (w20s.k fk_zMm_336)) rfl ?_
                    refine zs_iconst (pc := 5) t239_5 (v := 0) (by decide) ?_
                    refine zs_iret (pc := 6) t239_6 mr239 (by decide) ?_
                    show zGo X l 6 0 0 255 160 [(0, .ref 336), (1, .int w13x1)] [.int (0 : Int32)] (zsI w20M 336 7 (zI w13M 336 6)) _
                    refine zs_if_eqT (pc := 160) t255_160 li0 (by decide) ?_
                    refine zs_iconst (pc := 167) t255_167 (v := 0) (by decide) ?_
                    exact zs_iret (pc := 168) t255_168 mr255 (by decide) (hQ _ _ w20s w83 ((((zFr.refl).trans (w13F.mono rfl)).trans (w20F.mono rfl)).put rfl) (w20J.trans w13J) (Or.inl (by decide)) (by decide) (by decide))
        refine zGo.locals (ls' := [(0, .ref 336), (1, .int w13x1)]) (by simp) ?_
        have w84 : (zI w13M 336 12).toInt = (zI w13M 336 12).toInt := (congrArg Int32.toInt rfl).trans rfl
        have w85 : (zI w13M 336 14).toInt = (zI w13M 336 14).toInt := (congrArg Int32.toInt rfl).trans rfl
        have w86 : (zI w13M 336 12).toInt = (zI w13M 336 12).toInt := (congrArg Int32.toInt rfl).trans rfl
        have w87 : (zI w13M 336 11).toInt = (zI w13M 336 11).toInt := (congrArg Int32.toInt rfl).trans rfl
        have w88 : (zI w13M 336 12).toInt = (zI w13M 336 12).toInt := (congrArg Int32.toInt rfl).trans rfl
        have w89 : (zI w13M 336 12).toInt = (zI w13M 336 12).toInt := (congrArg Int32.toInt rfl).trans rfl
        exact w20L (((zI w13M 336 12).toInt : Int).toNat) w13M w13s w13I zFr.refl rfl w13PN (zGh.cast w13PH (by omega)) (by omega) (by omega) (by omega)
      · refine zs_if_eqF (pc := 3) t255_3 rfl (by omega) ?_
        refine zs_aload_n (pc := 6) t255_6 rfl ?_
        have w90 : (zI w13M 336 11).toInt = (zI w13M 336 11).toInt := (congrArg Int32.toInt rfl).trans rfl
        have w91 : (zI w13M 336 12).toInt = (zI w13M 336 12).toInt := (congrArg Int32.toInt rfl).trans rfl
        have w92 : (zI w13M 336 14).toInt = (zI w13M 336 14).toInt := (congrArg Int32.toInt rfl).trans rfl
        have w93 : (zI w13M 336 13).toInt = (zI w13M 336 13).toInt := (congrArg Int32.toInt rfl).trans rfl
        have w94 : (zI w13M 336 11).toInt = (zI w13M 336 11).toInt := (congrArg Int32.toInt rfl).trans rfl
        have w95 : (zI w13M 336 12).toInt = (zI w13M 336 12).toInt := (congrArg Int32.toInt rfl).trans rfl
        have w96 : (zI w13M 336 13).toInt = (zI w13M 336 13).toInt := (congrArg Int32.toInt rfl).trans rfl
        have w97 : (zI w13M 336 6).toInt = (zI w13M 336 6).toInt := (congrArg Int32.toInt rfl).trans rfl
        have w98 : (zI w13M 336 14).toInt = (zI w13M 336 14).toInt := (congrArg Int32.toInt rfl).trans rfl
        have w99 := zGn.le w13PN
        have w100 : (zI w13M 336 12).toInt = (zI w13M 336 12).toInt := (congrArg Int32.toInt rfl).trans rfl
        have w101 : (zI w13M 336 14).toInt = (zI w13M 336 14).toInt := (congrArg Int32.toInt rfl).trans rfl
        have w102 : (zI w13M 336 12).toInt = (zI w13M 336 12).toInt := (congrArg Int32.toInt rfl).trans rfl
        have w103 : (zI w13M 336 14).toInt = (zI w13M 336 14).toInt := (congrArg Int32.toInt rfl).trans rfl
        refine zs_invV (pc := 7) (k := 336) (as' := []) (st := []) t255_7 mf256 rfl rfl (Or.inl ⟨by decide, (zk1 (w13s.k fk_zMm_336))⟩) ⟨by decide, by decide, Nat.le_of_ble_eq_true rfl, Nat.le_of_ble_eq_true rfl⟩ (K256 w13s w13I w13PN (zGh.cast w13PH (by omega)) (by omega) (by omega) ?_) (fun _ _ q => q)
        intro w104M w104v w104s w104I w104F w104J w104t0 w104t1 w104x0 w104x1 w104a w104b
        have w105 := ib336_11 w104I
        have w106 := ib336_13 w104I
        have w107 := ib336_6 w104I
        have w108 := ib336_14 w104I
        have w109 := ib336_12 w104I
        show zGo X l 6 0 0 255 10 [(0, .ref 336), (1, .int w13x1)] [.int w104v] w104M _
        by_cases w110 : w104v.toInt = 0
        · skip
          refine zs_if_neF (pc := 10) t255_10 rfl (by omega) ?_
          refine zs_iconst (pc := 13) t255_13 (v := 0) (by decide) ?_
          exact zs_iret (pc := 14) t255_14 mr255 (by decide) (hQ _ _ w104s w104I (((zFr.refl).trans (w13F.mono rfl)).trans (w104F.mono rfl)) (w104J.trans w13J) (Or.inl (by decide)) (by decide) (by decide))
        · skip
          have w110H := w104x0.resolve_left w110
          have w110N := w104x1.resolve_left w110
          refine zs_if_neT (pc := 10) t255_10 rfl (by omega) ?_
          refine zs_aload_n (pc := 15) t255_15 rfl ?_
          refine zs_invV (pc := 16) (k := 336) (as' := []) (st := []) t255_16 mf238 rfl rfl (Or.inl ⟨by decide, (zk1 (w104s.k fk_zMm_336))⟩) ⟨by decide, by decide, Nat.le_of_ble_eq_true rfl, Nat.le_of_ble_eq_true rfl⟩ (H238 w104s w104I ?_) (fun _ _ q => q)
          have w111 := zhere.rg (M := w104M)
          have w112 : (zI w104M 336 6).toInt = (zI w104M 336 6).toInt := (congrArg Int32.toInt rfl).trans rfl
          have w113 : (zI w104M 336 5).toInt = (zI M 336 5).toInt := (congrArg Int32.toInt ((w104F 336 5 rfl).trans ((w13F 336 5 rfl).trans rfl))).trans rfl
          show zGo X l 6 0 0 255 19 [(0, .ref 336), (1, .int w13x1)] [.int (zhere w104M)] w104M _
          refine zs_istore_n (pc := 19) t255_19 (ls' := [(2, .int (zhere w104M)), (0, .ref 336), (1, .int w13x1)]) (zml mf255 (by decide)) rfl ?_
          refine zs_iload_n (pc := 20) t255_20 rfl ?_
          refine zs_bipush (pc := 21) t255_21 (v := 38) (by decide) ?_
          by_cases w114 : (zhere w104M).toInt = 38
          · refine zs_icmp_eqT (pc := 23) t255_23 rfl li38 (by omega) ?_
            refine zs_iconst (pc := 32) t255_32 (v := 1) (by decide) ?_
            refine zs_goto (pc := 33) t255_33 ?_
            refine zs_istore_n (pc := 37) t255_37 (ls' := [(1, .int (1 : Int32)), (2, .int (zhere w104M)), (0, .ref 336)]) (zml mf255 (by decide)) rfl ?_
            refine zs_iload_n (pc := 38) t255_38 rfl ?_
            refine zs_if_neT (pc := 39) t255_39 li1 (by decide) ?_
            have w115L : ∀ (m : Nat) (w115M : zM), zSk zMm w115M → zIv mLo mHi w115M → zFr [(336, 336, some 12), (336, 336, some 11), (340, 340, none)] w104M w115M → zJ w115M 351 = zJ w104M 351 → zGn w115M → zGh w115M (((zI w115M 336 12).toInt - (zI w115M 336 14).toInt) + 1) → ((zI w115M 336 12).toInt ≤ (zI w104M 336 12).toInt) → ((zI w115M 336 11).toInt + (zI w115M 336 12).toInt = (zI w104M 336 11).toInt + (zI w104M 336 12).toInt) → (zI w115M 336 12).toInt ≤ (m : Int) → zGo X l 6 0 0 255 45 [(0, .ref 336), (1, .int (1 : Int32)), (2, .int (zhere w104M))] [] w115M Q := by
              intro m
              induction m using Nat.strongRecOn with
              | ind w115m w115ih =>
                intro w115M w115s w115I w115F w115J w115PN w115PH w115r0 w115r1 w115q
                have w116 := ib336_12 w115I
                have w117 : (zI w104M 336 12).toInt = (zI w104M 336 12).toInt := (congrArg Int32.toInt rfl).trans rfl
                have w118 := ib336_11 w115I
                have w119 : (zI w104M 336 11).toInt = (zI w104M 336 11).toInt := (congrArg Int32.toInt rfl).trans rfl
                have w120 : (zI w104M 336 12).toInt = (zI w104M 336 12).toInt := (congrArg Int32.toInt rfl).trans rfl
                refine zs_aload_n (pc := 45) t255_45 rfl ?_
                refine zs_bipush (pc := 46) t255_46 (v := 38) (by decide) ?_
                have w121 : (38 : Int32).toInt = 38 := li38
                refine zs_invV (pc := 48) (k := 336) (as' := [.int (38 : Int32)]) (st := []) t255_48 mf264 rfl rfl (Or.inl ⟨by decide, (zk1 (w115s.k fk_zMm_336))⟩) ⟨by decide, by decide, Nat.le_of_ble_eq_true rfl, Nat.le_of_ble_eq_true rfl⟩ (K264 w115s w115I ?_) (fun _ _ q => q)
                intro w122v w122x0 w122a w122b
                show zGo X l 6 0 0 255 51 [(0, .ref 336), (1, .int (1 : Int32)), (2, .int (zhere w104M))] [.int w122v] w115M _
                rcases w122x0 with w123 | w123
                · skip
                  have w1231 := w123.1
                  have w124 : (zI w115M 336 12).toInt = (zI w115M 336 12).toInt := (congrArg Int32.toInt rfl).trans rfl
                  have w1232 := w123.2.1
                  obtain ⟨w123n, w123ne⟩ : ∃ n : Nat, (n : Int) + 1 = (zI w115M 336 12).toInt := ⟨((zI w115M 336 12).toInt - 1).toNat, by omega⟩
                  have w1233 := w123.2.2 w123n w123ne
                  refine zs_if_neT (pc := 51) t255_51 rfl (by omega) ?_
                  refine zs_aload_n (pc := 69) t255_69 rfl ?_
                  have w125 : (zI w115M 336 11).toInt = (zI w115M 336 11).toInt := (congrArg Int32.toInt rfl).trans rfl
                  have w126 : (zI w115M 336 12).toInt = (zI w115M 336 12).toInt := (congrArg Int32.toInt rfl).trans rfl
                  have w127 : (zI w115M 336 11).toInt = (zI w115M 336 11).toInt := (congrArg Int32.toInt rfl).trans rfl
                  have w128 : (zI w115M 336 12).toInt = (zI w115M 336 12).toInt := (congrArg Int32.toInt rfl).trans rfl
                  have w129 := zGn.le w115PN
                  have w130 : (zI w115M 336 12).toInt = (zI w115M 336 12).toInt := (congrArg Int32.toInt rfl).trans rfl
                  have w131 : (zI w115M 336 14).toInt = (zI w104M 336 14).toInt := (congrArg Int32.toInt ((w115F 336 14 rfl).trans rfl)).trans rfl
                  have w133 : (zI w115M 336 14).toInt = (zI w104M 336 14).toInt := (congrArg Int32.toInt ((w115F 336 14 rfl).trans rfl)).trans rfl
                  have w134 : (zI w115M 336 12).toInt = (zI w115M 336 12).toInt := (congrArg Int32.toInt rfl).trans rfl
                  have w132z := zGn.bin (n := w123n) w115PN (by omega) (by omega)
                  have w132y := znest.nn (zI w115M 341) w123n
                  refine zs_invV (pc := 70) (k := 336) (as' := []) (st := []) t255_70 mf265 rfl rfl (Or.inl ⟨by decide, (zk1 (w115s.k fk_zMm_336))⟩) ⟨by decide, by decide, Nat.le_of_ble_eq_true rfl, Nat.le_of_ble_eq_true rfl⟩ (K265 (hq := (((zI w115M 336 12).toInt - (zI w115M 336 14).toInt) + 1) - 1) w115s w115I w115PH (by omega) (by omega) (fun n hn => by obtain rfl : n = w123n := (by omega); omega) ?_) (fun _ _ q => q)
                  intro w135M w135s w135I w135F w135J w135PH w135t0 w135t1
                  have w136 := ib336_11 w135I
                  have w137 := ib336_12 w135I
                  have w138 : (zI w115M 336 14).toInt = (zI w104M 336 14).toInt := (congrArg Int32.toInt ((w115F 336 14 rfl).trans rfl)).trans rfl
                  have w135z := zGn.bin (n := w123n) w115PN (by omega) (by omega)
                  have w135y := znest.nn (zI w115M 341) w123n
                  have w139 : (zI w135M 336 14).toInt = (zI w104M 336 14).toInt := (congrArg Int32.toInt ((w135F 336 14 rfl).trans ((w115F 336 14 rfl).trans rfl))).trans rfl
                  have w140 : (zI w135M 336 12).toInt = (zI w135M 336 12).toInt := (congrArg Int32.toInt rfl).trans rfl
                  have w135N : zGn w135M := zGn.popb (n := w123n) w115PN (by omega) (by omega) (fun j => w135F 341 j rfl) (by omega) (by omega)
                  show zGo X l 6 0 0 255 73 [(0, .ref 336), (1, .int (1 : Int32)), (2, .int (zhere w104M))] [] w135M _
                  refine zs_goto (pc := 73) t255_73 ?_
                  refine zGo.locals (ls' := [(0, .ref 336), (1, .int (1 : Int32)), (2, .int (zhere w104M))]) (by simp) ?_
                  have w141 : (zI w135M 336 12).toInt = (zI w135M 336 12).toInt := (congrArg Int32.toInt rfl).trans rfl
                  have w142 : (zI w135M 336 14).toInt = (zI w104M 336 14).toInt := (congrArg Int32.toInt ((w135F 336 14 rfl).trans ((w115F 336 14 rfl).trans rfl))).trans rfl
                  have w143 : (zI w135M 336 12).toInt = (zI w135M 336 12).toInt := (congrArg Int32.toInt rfl).trans rfl
                  have w144 : (zI w135M 336 11).toInt = (zI w135M 336 11).toInt := (congrArg Int32.toInt rfl).trans rfl
                  have w145 : (zI w135M 336 12).toInt = (zI w135M 336 12).toInt := (congrArg Int32.toInt rfl).trans rfl
                  have w146 : (zI w135M 336 12).toInt = (zI w135M 336 12).toInt := (congrArg Int32.toInt rfl).trans rfl
                  exact w115ih (w115m - 1) (by omega) w135M w135s w135I (((zFr.refl).trans (w115F.mono rfl)).trans (w135F.mono rfl)) (w135J.trans w115J) w135N (zGh.cast w135PH (by omega)) (by omega) (by omega) (by omega)
                · skip
                  have w1231 := w123.1
                  have w147 : (zI w115M 336 12).toInt = (zI w115M 336 12).toInt := (congrArg Int32.toInt rfl).trans rfl
                  refine zs_if_neF (pc := 51) t255_51 rfl (by omega) ?_
                  refine zs_iload_n (pc := 54) t255_54 rfl ?_
                  refine zs_bipush (pc := 55) t255_55 (v := 124) (by decide) ?_
                  refine zs_icmp_neT (pc := 57) t255_57 rfl li124 (by omega) ?_
                  refine zs_aload_n (pc := 76) t255_76 rfl ?_
                  refine zs_get (pc := 77) t255_77 (by decide) (zk1 (w115s.k fk_zMm_336)) (w115s.p rfl fv_zMm_336_10) ?_
                  refine zs_aload_n (pc := 80) t255_80 rfl ?_
                  refine zs_get (pc := 81) t255_81 (by decide) (zk1 (w115s.k fk_zMm_336)) (zfvi rfl rfl) ?_
                  refine zs_iload_n (pc := 84) t255_84 rfl ?_
                  obtain ⟨w148n, w148⟩ : ∃ n : Nat, (zI w115M 336 12).toInt = (n : Int) := ⟨((zI w115M 336 12).toInt).toNat, by omega⟩
                  have w149 : zIv mLo mHi (zsI w115M 341 w148n (zhere w104M)) := zIv.put w115I (show (-2147483648) ≤ (zhere w104M).toInt ∧ (zhere w104M).toInt ≤ 2147483647 from zrg (zhere w104M))
                  refine zs_iast (pc := 85) t255_85 (j := w148n) (by decide) (zk1 (w115s.k fk_zMm_341)) (show (zI w115M 336 12).toInt = ((w148n : Nat) : Int) by omega) (zk2 (w115s.k fk_zMm_341) (by omega)) ?_
                  refine zs_aload_n (pc := 86) t255_86 rfl ?_
                  refine zs_dup (pc := 87) t255_87 rfl ?_
                  refine zs_get (pc := 88) t255_88 (by decide) (zk1 (w115s.k fk_zMm_336)) (zfvi rfl ((zIo (by decide)).trans rfl)) ?_
                  refine zs_iconst (pc := 91) t255_91 (v := 1) (by decide) ?_
                  obtain ⟨w150v, w150e, w150⟩ := ziadd (a := (zI w115M 336 12)) (b := (1 : Int32)) rfl li1 (by omega) (by omega)
                  refine zs_iadd (pc := 92) t255_92 (c := w150v) w150e ?_
                  have w151 : zIv mLo mHi (zsI (zsI w115M 341 w148n (zhere w104M)) 336 12 w150v) := zIv.put w149 (show 0 ≤ w150v.toInt ∧ w150v.toInt ≤ 40 from ⟨by omega, by omega⟩)
                  have w152 : (zI (zsI (zsI w115M 341 w148n (zhere w104M)) 336 12 w150v) 336 12).toInt = ((zI w115M 336 12).toInt + 1) := (congrArg Int32.toInt zIs).trans w150
                  have w153 : (zI (zsI (zsI w115M 341 w148n (zhere w104M)) 336 12 w150v) 336 14).toInt = (zI w104M 336 14).toInt := (congrArg Int32.toInt ((zIoj (by decide)).trans ((zIo (by decide)).trans ((w115F 336 14 rfl).trans rfl)))).trans rfl
                  have w154 : (zI w115M 336 12).toInt = (zI w115M 336 12).toInt := (congrArg Int32.toInt rfl).trans rfl
                  have w155 : (zI w115M 336 14).toInt = (zI w104M 336 14).toInt := (congrArg Int32.toInt ((w115F 336 14 rfl).trans rfl)).trans rfl
                  have w156 : w150v.toInt = ((zI w115M 336 12).toInt + 1) := w150
                  have w157 : (zI (zsI (zsI w115M 341 w148n (zhere w104M)) 336 12 w150v) 341 w148n).toInt = (zhere w104M).toInt := (congrArg Int32.toInt ((zIo (by decide)).trans zIs)).trans rfl
                  have w158 : zGn (zsI (zsI w115M 341 w148n (zhere w104M)) 336 12 w150v) := zGn.pushb (n := w148n) w115PN (by omega) (fun j hj => ((zIo (by decide)).trans (zIoj hj))) (by omega) (by omega) (by omega)
                  refine zs_putI (pc := 93) t255_93 (zk1 (w115s.k fk_zMm_336)) rfl ?_
                  refine zs_aload_n (pc := 96) t255_96 rfl ?_
                  refine zs_dup (pc := 97) t255_97 rfl ?_
                  refine zs_get (pc := 98) t255_98 (by decide) (zk1 (w115s.k fk_zMm_336)) (zfvi rfl ((zIoj (by decide)).trans ((zIo (by decide)).trans ((w115F 336 6 rfl).trans rfl)))) ?_
                  refine zs_iconst (pc := 101) t255_101 (v := 1) (by decide) ?_
                  obtain ⟨w159v, w159e, w159⟩ := ziadd (a := (zI w104M 336 6)) (b := (1 : Int32)) rfl li1 (by omega) (by omega)
                  refine zs_iadd (pc := 102) t255_102 (c := w159v) w159e ?_
                  have w160 : zIv mLo mHi (zsI (zsI (zsI w115M 341 w148n (zhere w104M)) 336 12 w150v) 336 6 w159v) := zIv.put w151 (show 0 ≤ w159v.toInt ∧ w159v.toInt ≤ 500 from ⟨by omega, by omega⟩)
                  refine zs_putI (pc := 103) t255_103 (zk1 (w115s.k fk_zMm_336)) rfl ?_
                  refine zs_goto (pc := 106) t255_106 ?_
                  refine zGo.locals (ls' := [(0, .ref 336), (1, .int (1 : Int32))]) (by simp) ?_
                  have w161 := li1
                  have w162 : (zI (zsI (zsI (zsI w115M 341 w148n (zhere w104M)) 336 12 w150v) 336 6 w159v) 336 12).toInt = ((zI w115M 336 12).toInt + 1) := (congrArg Int32.toInt ((zIoj (by decide)).trans zIs)).trans w150
                  have w163 : (zI (zsI (zsI (zsI w115M 341 w148n (zhere w104M)) 336 12 w150v) 336 6 w159v) 336 14).toInt = (zI w104M 336 14).toInt := (congrArg Int32.toInt ((zIoj (by decide)).trans ((zIoj (by decide)).trans ((zIo (by decide)).trans ((w115F 336 14 rfl).trans rfl))))).trans rfl
                  have w164 : (zI (zsI (zsI (zsI w115M 341 w148n (zhere w104M)) 336 12 w150v) 336 6 w159v) 336 11).toInt = (zI w115M 336 11).toInt := (congrArg Int32.toInt ((zIoj (by decide)).trans ((zIoj (by decide)).trans ((zIo (by decide)).trans rfl)))).trans rfl
                  have w165 : (zI (zsI (zsI (zsI w115M 341 w148n (zhere w104M)) 336 12 w150v) 336 6 w159v) 336 12).toInt = ((zI w115M 336 12).toInt + 1) := (congrArg Int32.toInt ((zIoj (by decide)).trans zIs)).trans w150
                  have w166 : (zI (zsI (zsI (zsI w115M 341 w148n (zhere w104M)) 336 12 w150v) 336 6 w159v) 336 13).toInt = (zI w104M 336 13).toInt := (congrArg Int32.toInt ((zIoj (by decide)).trans ((zIoj (by decide)).trans ((zIo (by decide)).trans ((w115F 336 13 rfl).trans rfl))))).trans rfl
                  have w167 : (zI (zsI (zsI (zsI w115M 341 w148n (zhere w104M)) 336 12 w150v) 336 6 w159v) 336 12).toInt = ((zI w115M 336 12).toInt + 1) := (congrArg Int32.toInt ((zIoj (by decide)).trans zIs)).trans w150
                  have w168 : (zI (zsI (zsI (zsI w115M 341 w148n (zhere w104M)) 336 12 w150v) 336 6 w159v) 336 14).toInt = (zI w104M 336 14).toInt := (congrArg Int32.toInt ((zIoj (by decide)).trans ((zIoj (by decide)).trans ((zIo (by decide)).trans ((w115F 336 14 rfl).trans rfl))))).trans rfl
                  have w169 : (zI (zsI (zsI (zsI w115M 341 w148n (zhere w104M)) 336 12 w150v) 336 6 w159v) 336 13).toInt = (zI w104M 336 13).toInt := (congrArg Int32.toInt ((zIoj (by decide)).trans ((zIoj (by decide)).trans ((zIo (by decide)).trans ((w115F 336 13 rfl).trans rfl))))).trans rfl
                  have w170 : (zI (zsI (zsI (zsI w115M 341 w148n (zhere w104M)) 336 12 w150v) 336 6 w159v) 336 6).toInt = ((zI w104M 336 6).toInt + 1) := (congrArg Int32.toInt zIs).trans w159
                  exact w13ih (w13m - 1) (by omega) (1 : Int32) (zsI (zsI (zsI w115M 341 w148n (zhere w104M)) 336 12 w150v) 336 6 w159v) ⟨by decide, by decide⟩ w115s w160 (((((((zFr.refl).trans (w13F.mono rfl)).trans (w104F.mono rfl)).trans (w115F.mono rfl)).put rfl).put rfl).put rfl) (w115J.trans (w104J.trans w13J)) (zGn.fr (M' := (zsI (zsI (zsI w115M 341 w148n (zhere w104M)) 336 12 w150v) 336 6 w159v)) w158 (zEq.put rfl)) (zGh.cast (zGh.fr (M' := (zsI (zsI (zsI w115M 341 w148n (zhere w104M)) 336 12 w150v) 336 6 w159v)) (zGh.fr (M' := (zsI (zsI w115M 341 w148n (zhere w104M)) 336 12 w150v)) (zGh.fr (M' := (zsI w115M 341 w148n (zhere w104M))) w115PH (zEq.put rfl)) (zEq.put rfl)) (zEq.put rfl)) (by omega)) (by omega) (by omega) (by omega)
            refine zGo.locals (ls' := [(0, .ref 336), (1, .int (1 : Int32)), (2, .int (zhere w104M))]) (by simp) ?_
            have w171 : (zI w104M 336 12).toInt = (zI w104M 336 12).toInt := (congrArg Int32.toInt rfl).trans rfl
            have w172 : (zI w104M 336 14).toInt = (zI w104M 336 14).toInt := (congrArg Int32.toInt rfl).trans rfl
            have w173 : (zI w104M 336 12).toInt = (zI w104M 336 12).toInt := (congrArg Int32.toInt rfl).trans rfl
            have w174 : (zI w104M 336 11).toInt = (zI w104M 336 11).toInt := (congrArg Int32.toInt rfl).trans rfl
            have w175 : (zI w104M 336 12).toInt = (zI w104M 336 12).toInt := (congrArg Int32.toInt rfl).trans rfl
            have w176 : (zI w104M 336 12).toInt = (zI w104M 336 12).toInt := (congrArg Int32.toInt rfl).trans rfl
            exact w115L (((zI w104M 336 12).toInt : Int).toNat) w104M w104s w104I zFr.refl rfl w110N (zGh.cast w110H (by omega)) (by omega) (by omega) (by omega)
          · refine zs_icmp_eqF (pc := 23) t255_23 rfl li38 (by omega) ?_
            refine zs_iload_n (pc := 26) t255_26 rfl ?_
            refine zs_bipush (pc := 27) t255_27 (v := 124) (by decide) ?_
            by_cases w177 : (zhere w104M).toInt ≠ 124
            · refine zs_icmp_neT (pc := 29) t255_29 rfl li124 (by omega) ?_
              refine zs_iconst (pc := 36) t255_36 (v := 0) (by decide) ?_
              refine zs_istore_n (pc := 37) t255_37 (ls' := [(1, .int (0 : Int32)), (2, .int (zhere w104M)), (0, .ref 336)]) (zml mf255 (by decide)) rfl ?_
              refine zs_iload_n (pc := 38) t255_38 rfl ?_
              refine zs_if_neF (pc := 39) t255_39 li0 (by decide) ?_
              refine zs_goto (pc := 42) t255_42 ?_
              refine zGo.locals (ls' := [(0, .ref 336), (1, .int (0 : Int32))]) (by simp) ?_
              have w178 := li0
              have w179 : (zI w104M 336 12).toInt = (zI w104M 336 12).toInt := (congrArg Int32.toInt rfl).trans rfl
              have w180 : (zI w104M 336 14).toInt = (zI w104M 336 14).toInt := (congrArg Int32.toInt rfl).trans rfl
              have w181 : (zI w104M 336 11).toInt = (zI w104M 336 11).toInt := (congrArg Int32.toInt rfl).trans rfl
              have w182 : (zI w104M 336 12).toInt = (zI w104M 336 12).toInt := (congrArg Int32.toInt rfl).trans rfl
              have w183 : (zI w104M 336 13).toInt = (zI w104M 336 13).toInt := (congrArg Int32.toInt rfl).trans rfl
              have w184 : (zI w104M 336 12).toInt = (zI w104M 336 12).toInt := (congrArg Int32.toInt rfl).trans rfl
              have w185 : (zI w104M 336 14).toInt = (zI w104M 336 14).toInt := (congrArg Int32.toInt rfl).trans rfl
              have w186 : (zI w104M 336 13).toInt = (zI w104M 336 13).toInt := (congrArg Int32.toInt rfl).trans rfl
              have w187 : (zI w104M 336 6).toInt = (zI w104M 336 6).toInt := (congrArg Int32.toInt rfl).trans rfl
              exact w13ih (w13m - 1) (by omega) (0 : Int32) w104M ⟨by decide, by decide⟩ w104s w104I (((zFr.refl).trans (w13F.mono rfl)).trans (w104F.mono rfl)) (w104J.trans w13J) w110N (zGh.cast w110H (by omega)) (by omega) (by omega) (by omega)
            · refine zs_icmp_neF (pc := 29) t255_29 rfl li124 (by omega) ?_
              refine zs_iconst (pc := 32) t255_32 (v := 1) (by decide) ?_
              refine zs_goto (pc := 33) t255_33 ?_
              refine zs_istore_n (pc := 37) t255_37 (ls' := [(1, .int (1 : Int32)), (2, .int (zhere w104M)), (0, .ref 336)]) (zml mf255 (by decide)) rfl ?_
              refine zs_iload_n (pc := 38) t255_38 rfl ?_
              refine zs_if_neT (pc := 39) t255_39 li1 (by decide) ?_
              have w188L : ∀ (m : Nat) (w188M : zM), zSk zMm w188M → zIv mLo mHi w188M → zFr [(336, 336, some 12), (336, 336, some 11), (340, 340, none)] w104M w188M → zJ w188M 351 = zJ w104M 351 → zGn w188M → zGh w188M (((zI w188M 336 12).toInt - (zI w188M 336 14).toInt) + 1) → ((zI w188M 336 12).toInt ≤ (zI w104M 336 12).toInt) → ((zI w188M 336 11).toInt + (zI w188M 336 12).toInt = (zI w104M 336 11).toInt + (zI w104M 336 12).toInt) → (zI w188M 336 12).toInt ≤ (m : Int) → zGo X l 6 0 0 255 45 [(0, .ref 336), (1, .int (1 : Int32)), (2, .int (zhere w104M))] [] w188M Q := by
                intro m
                induction m using Nat.strongRecOn with
                | ind w188m w188ih =>
                  intro w188M w188s w188I w188F w188J w188PN w188PH w188r0 w188r1 w188q
                  have w189 := ib336_12 w188I
                  have w190 : (zI w104M 336 12).toInt = (zI w104M 336 12).toInt := (congrArg Int32.toInt rfl).trans rfl
                  have w191 := ib336_11 w188I
                  have w192 : (zI w104M 336 11).toInt = (zI w104M 336 11).toInt := (congrArg Int32.toInt rfl).trans rfl
                  have w193 : (zI w104M 336 12).toInt = (zI w104M 336 12).toInt := (congrArg Int32.toInt rfl).trans rfl
                  refine zs_aload_n (pc := 45) t255_45 rfl ?_
                  refine zs_bipush (pc := 46) t255_46 (v := 38) (by decide) ?_
                  have w194 : (38 : Int32).toInt = 38 := li38
                  refine zs_invV (pc := 48) (k := 336) (as' := [.int (38 : Int32)]) (st := []) t255_48 mf264 rfl rfl (Or.inl ⟨by decide, (zk1 (w188s.k fk_zMm_336))⟩) ⟨by decide, by decide, Nat.le_of_ble_eq_true rfl, Nat.le_of_ble_eq_true rfl⟩ (K264 w188s w188I ?_) (fun _ _ q => q)
                  intro w195v w195x0 w195a w195b
                  show zGo X l 6 0 0 255 51 [(0, .ref 336), (1, .int (1 : Int32)), (2, .int (zhere w104M))] [.int w195v] w188M _
                  rcases w195x0 with w196 | w196
                  · skip
                    have w1961 := w196.1
                    have w197 : (zI w188M 336 12).toInt = (zI w188M 336 12).toInt := (congrArg Int32.toInt rfl).trans rfl
                    have w1962 := w196.2.1
                    obtain ⟨w196n, w196ne⟩ : ∃ n : Nat, (n : Int) + 1 = (zI w188M 336 12).toInt := ⟨((zI w188M 336 12).toInt - 1).toNat, by omega⟩
                    have w1963 := w196.2.2 w196n w196ne
                    refine zs_if_neT (pc := 51) t255_51 rfl (by omega) ?_
                    refine zs_aload_n (pc := 69) t255_69 rfl ?_
                    have w198 : (zI w188M 336 11).toInt = (zI w188M 336 11).toInt := (congrArg Int32.toInt rfl).trans rfl
                    have w199 : (zI w188M 336 12).toInt = (zI w188M 336 12).toInt := (congrArg Int32.toInt rfl).trans rfl
                    have w200 : (zI w188M 336 11).toInt = (zI w188M 336 11).toInt := (congrArg Int32.toInt rfl).trans rfl
                    have w201 : (zI w188M 336 12).toInt = (zI w188M 336 12).toInt := (congrArg Int32.toInt rfl).trans rfl
                    have w202 := zGn.le w188PN
                    have w203 : (zI w188M 336 12).toInt = (zI w188M 336 12).toInt := (congrArg Int32.toInt rfl).trans rfl
                    have w204 : (zI w188M 336 14).toInt = (zI w104M 336 14).toInt := (congrArg Int32.toInt ((w188F 336 14 rfl).trans rfl)).trans rfl
                    have w206 : (zI w188M 336 14).toInt = (zI w104M 336 14).toInt := (congrArg Int32.toInt ((w188F 336 14 rfl).trans rfl)).trans rfl
                    have w207 : (zI w188M 336 12).toInt = (zI w188M 336 12).toInt := (congrArg Int32.toInt rfl).trans rfl
                    have w205z := zGn.bin (n := w196n) w188PN (by omega) (by omega)
                    have w205y := znest.nn (zI w188M 341) w196n
                    refine zs_invV (pc := 70) (k := 336) (as' := []) (st := []) t255_70 mf265 rfl rfl (Or.inl ⟨by decide, (zk1 (w188s.k fk_zMm_336))⟩) ⟨by decide, by decide, Nat.le_of_ble_eq_true rfl, Nat.le_of_ble_eq_true rfl⟩ (K265 (hq := (((zI w188M 336 12).toInt - (zI w188M 336 14).toInt) + 1) - 1) w188s w188I w188PH (by omega) (by omega) (fun n hn => by obtain rfl : n = w196n := (by omega); omega) ?_) (fun _ _ q => q)
                    intro w208M w208s w208I w208F w208J w208PH w208t0 w208t1
                    have w209 := ib336_11 w208I
                    have w210 := ib336_12 w208I
                    have w211 : (zI w188M 336 14).toInt = (zI w104M 336 14).toInt := (congrArg Int32.toInt ((w188F 336 14 rfl).trans rfl)).trans rfl
                    have w208z := zGn.bin (n := w196n) w188PN (by omega) (by omega)
                    have w208y := znest.nn (zI w188M 341) w196n
                    have w212 : (zI w208M 336 14).toInt = (zI w104M 336 14).toInt := (congrArg Int32.toInt ((w208F 336 14 rfl).trans ((w188F 336 14 rfl).trans rfl))).trans rfl
                    have w213 : (zI w208M 336 12).toInt = (zI w208M 336 12).toInt := (congrArg Int32.toInt rfl).trans rfl
                    have w208N : zGn w208M := zGn.popb (n := w196n) w188PN (by omega) (by omega) (fun j => w208F 341 j rfl) (by omega) (by omega)
                    show zGo X l 6 0 0 255 73 [(0, .ref 336), (1, .int (1 : Int32)), (2, .int (zhere w104M))] [] w208M _
                    refine zs_goto (pc := 73) t255_73 ?_
                    refine zGo.locals (ls' := [(0, .ref 336), (1, .int (1 : Int32)), (2, .int (zhere w104M))]) (by simp) ?_
                    have w214 : (zI w208M 336 12).toInt = (zI w208M 336 12).toInt := (congrArg Int32.toInt rfl).trans rfl
                    have w215 : (zI w208M 336 14).toInt = (zI w104M 336 14).toInt := (congrArg Int32.toInt ((w208F 336 14 rfl).trans ((w188F 336 14 rfl).trans rfl))).trans rfl
                    have w216 : (zI w208M 336 12).toInt = (zI w208M 336 12).toInt := (congrArg Int32.toInt rfl).trans rfl
                    have w217 : (zI w208M 336 11).toInt = (zI w208M 336 11).toInt := (congrArg Int32.toInt rfl).trans rfl
                    have w218 : (zI w208M 336 12).toInt = (zI w208M 336 12).toInt := (congrArg Int32.toInt rfl).trans rfl
                    have w219 : (zI w208M 336 12).toInt = (zI w208M 336 12).toInt := (congrArg Int32.toInt rfl).trans rfl
                    exact w188ih (w188m - 1) (by omega) w208M w208s w208I (((zFr.refl).trans (w188F.mono rfl)).trans (w208F.mono rfl)) (w208J.trans w188J) w208N (zGh.cast w208PH (by omega)) (by omega) (by omega) (by omega)
                  · skip
                    have w1961 := w196.1
                    have w220 : (zI w188M 336 12).toInt = (zI w188M 336 12).toInt := (congrArg Int32.toInt rfl).trans rfl
                    refine zs_if_neF (pc := 51) t255_51 rfl (by omega) ?_
                    refine zs_iload_n (pc := 54) t255_54 rfl ?_
                    refine zs_bipush (pc := 55) t255_55 (v := 124) (by decide) ?_
                    refine zs_icmp_neF (pc := 57) t255_57 rfl li124 (by omega) ?_
                    refine zs_aload_n (pc := 60) t255_60 rfl ?_
                    refine zs_bipush (pc := 61) t255_61 (v := 124) (by decide) ?_
                    have w221 : (124 : Int32).toInt = 124 := li124
                    refine zs_invV (pc := 63) (k := 336) (as' := [.int (124 : Int32)]) (st := []) t255_63 mf264 rfl rfl (Or.inl ⟨by decide, (zk1 (w188s.k fk_zMm_336))⟩) ⟨by decide, by decide, Nat.le_of_ble_eq_true rfl, Nat.le_of_ble_eq_true rfl⟩ (K264 w188s w188I ?_) (fun _ _ q => q)
                    intro w222v w222x0 w222a w222b
                    show zGo X l 6 0 0 255 66 [(0, .ref 336), (1, .int (1 : Int32)), (2, .int (zhere w104M))] [.int w222v] w188M _
                    rcases w222x0 with w223 | w223
                    · skip
                      have w2231 := w223.1
                      have w224 : (zI w188M 336 12).toInt = (zI w188M 336 12).toInt := (congrArg Int32.toInt rfl).trans rfl
                      have w2232 := w223.2.1
                      obtain ⟨w223n, w223ne⟩ : ∃ n : Nat, (n : Int) + 1 = (zI w188M 336 12).toInt := ⟨((zI w188M 336 12).toInt - 1).toNat, by omega⟩
                      have w2233 := w223.2.2 w223n w223ne
                      refine zs_if_eqF (pc := 66) t255_66 rfl (by omega) ?_
                      refine zs_aload_n (pc := 69) t255_69 rfl ?_
                      have w225 : (zI w188M 336 11).toInt = (zI w188M 336 11).toInt := (congrArg Int32.toInt rfl).trans rfl
                      have w226 : (zI w188M 336 12).toInt = (zI w188M 336 12).toInt := (congrArg Int32.toInt rfl).trans rfl
                      have w227 : (zI w188M 336 11).toInt = (zI w188M 336 11).toInt := (congrArg Int32.toInt rfl).trans rfl
                      have w228 : (zI w188M 336 12).toInt = (zI w188M 336 12).toInt := (congrArg Int32.toInt rfl).trans rfl
                      have w229 := zGn.le w188PN
                      have w230 : (zI w188M 336 12).toInt = (zI w188M 336 12).toInt := (congrArg Int32.toInt rfl).trans rfl
                      have w231 : (zI w188M 336 14).toInt = (zI w104M 336 14).toInt := (congrArg Int32.toInt ((w188F 336 14 rfl).trans rfl)).trans rfl
                      have w233 : (zI w188M 336 14).toInt = (zI w104M 336 14).toInt := (congrArg Int32.toInt ((w188F 336 14 rfl).trans rfl)).trans rfl
                      have w234 : (zI w188M 336 12).toInt = (zI w188M 336 12).toInt := (congrArg Int32.toInt rfl).trans rfl
                      have w232z := zGn.bin (n := w223n) w188PN (by omega) (by omega)
                      have w232y := znest.nn (zI w188M 341) w223n
                      refine zs_invV (pc := 70) (k := 336) (as' := []) (st := []) t255_70 mf265 rfl rfl (Or.inl ⟨by decide, (zk1 (w188s.k fk_zMm_336))⟩) ⟨by decide, by decide, Nat.le_of_ble_eq_true rfl, Nat.le_of_ble_eq_true rfl⟩ (K265 (hq := (((zI w188M 336 12).toInt - (zI w188M 336 14).toInt) + 1) - 1) w188s w188I w188PH (by omega) (by omega) (fun n hn => by obtain rfl : n = w223n := (by omega); omega) ?_) (fun _ _ q => q)
                      intro w235M w235s w235I w235F w235J w235PH w235t0 w235t1
                      have w236 := ib336_11 w235I
                      have w237 := ib336_12 w235I
                      have w238 : (zI w188M 336 14).toInt = (zI w104M 336 14).toInt := (congrArg Int32.toInt ((w188F 336 14 rfl).trans rfl)).trans rfl
                      have w235z := zGn.bin (n := w223n) w188PN (by omega) (by omega)
                      have w235y := znest.nn (zI w188M 341) w223n
                      have w239 : (zI w235M 336 14).toInt = (zI w104M 336 14).toInt := (congrArg Int32.toInt ((w235F 336 14 rfl).trans ((w188F 336 14 rfl).trans rfl))).trans rfl
                      have w240 : (zI w235M 336 12).toInt = (zI w235M 336 12).toInt := (congrArg Int32.toInt rfl).trans rfl
                      have w235N : zGn w235M := zGn.popb (n := w223n) w188PN (by omega) (by omega) (fun j => w235F 341 j rfl) (by omega) (by omega)
                      show zGo X l 6 0 0 255 73 [(0, .ref 336), (1, .int (1 : Int32)), (2, .int (zhere w104M))] [] w235M _
                      refine zs_goto (pc := 73) t255_73 ?_
                      refine zGo.locals (ls' := [(0, .ref 336), (1, .int (1 : Int32)), (2, .int (zhere w104M))]) (by simp) ?_
                      have w241 : (zI w235M 336 12).toInt = (zI w235M 336 12).toInt := (congrArg Int32.toInt rfl).trans rfl
                      have w242 : (zI w235M 336 14).toInt = (zI w104M 336 14).toInt := (congrArg Int32.toInt ((w235F 336 14 rfl).trans ((w188F 336 14 rfl).trans rfl))).trans rfl
                      have w243 : (zI w235M 336 12).toInt = (zI w235M 336 12).toInt := (congrArg Int32.toInt rfl).trans rfl
                      have w244 : (zI w235M 336 11).toInt = (zI w235M 336 11).toInt := (congrArg Int32.toInt rfl).trans rfl
                      have w245 : (zI w235M 336 12).toInt = (zI w235M 336 12).toInt := (congrArg Int32.toInt rfl).trans rfl
                      have w246 : (zI w235M 336 12).toInt = (zI w235M 336 12).toInt := (congrArg Int32.toInt rfl).trans rfl
                      exact w188ih (w188m - 1) (by omega) w235M w235s w235I (((zFr.refl).trans (w188F.mono rfl)).trans (w235F.mono rfl)) (w235J.trans w188J) w235N (zGh.cast w235PH (by omega)) (by omega) (by omega) (by omega)
                    · skip
                      have w2231 := w223.1
                      have w247 : (zI w188M 336 12).toInt = (zI w188M 336 12).toInt := (congrArg Int32.toInt rfl).trans rfl
                      refine zs_if_eqT (pc := 66) t255_66 rfl (by omega) ?_
                      refine zs_aload_n (pc := 76) t255_76 rfl ?_
                      refine zs_get (pc := 77) t255_77 (by decide) (zk1 (w188s.k fk_zMm_336)) (w188s.p rfl fv_zMm_336_10) ?_
                      refine zs_aload_n (pc := 80) t255_80 rfl ?_
                      refine zs_get (pc := 81) t255_81 (by decide) (zk1 (w188s.k fk_zMm_336)) (zfvi rfl rfl) ?_
                      refine zs_iload_n (pc := 84) t255_84 rfl ?_
                      obtain ⟨w248n, w248⟩ : ∃ n : Nat, (zI w188M 336 12).toInt = (n : Int) := ⟨((zI w188M 336 12).toInt).toNat, by omega⟩
                      have w249 : zIv mLo mHi (zsI w188M 341 w248n (zhere w104M)) := zIv.put w188I (show (-2147483648) ≤ (zhere w104M).toInt ∧ (zhere w104M).toInt ≤ 2147483647 from zrg (zhere w104M))
                      refine zs_iast (pc := 85) t255_85 (j := w248n) (by decide) (zk1 (w188s.k fk_zMm_341)) (show (zI w188M 336 12).toInt = ((w248n : Nat) : Int) by omega) (zk2 (w188s.k fk_zMm_341) (by omega)) ?_
                      refine zs_aload_n (pc := 86) t255_86 rfl ?_
                      refine zs_dup (pc := 87) t255_87 rfl ?_
                      refine zs_get (pc := 88) t255_88 (by decide) (zk1 (w188s.k fk_zMm_336)) (zfvi rfl ((zIo (by decide)).trans rfl)) ?_
                      refine zs_iconst (pc := 91) t255_91 (v := 1) (by decide) ?_
                      obtain ⟨w250v, w250e, w250⟩ := ziadd (a := (zI w188M 336 12)) (b := (1 : Int32)) rfl li1 (by omega) (by omega)
                      refine zs_iadd (pc := 92) t255_92 (c := w250v) w250e ?_
                      have w251 : zIv mLo mHi (zsI (zsI w188M 341 w248n (zhere w104M)) 336 12 w250v) := zIv.put w249 (show 0 ≤ w250v.toInt ∧ w250v.toInt ≤ 40 from ⟨by omega, by omega⟩)
                      have w252 : (zI (zsI (zsI w188M 341 w248n (zhere w104M)) 336 12 w250v) 336 12).toInt = ((zI w188M 336 12).toInt + 1) := (congrArg Int32.toInt zIs).trans w250
                      have w253 : (zI (zsI (zsI w188M 341 w248n (zhere w104M)) 336 12 w250v) 336 14).toInt = (zI w104M 336 14).toInt := (congrArg Int32.toInt ((zIoj (by decide)).trans ((zIo (by decide)).trans ((w188F 336 14 rfl).trans rfl)))).trans rfl
                      have w254 : (zI w188M 336 12).toInt = (zI w188M 336 12).toInt := (congrArg Int32.toInt rfl).trans rfl
                      have w255 : (zI w188M 336 14).toInt = (zI w104M 336 14).toInt := (congrArg Int32.toInt ((w188F 336 14 rfl).trans rfl)).trans rfl
                      have w256 : w250v.toInt = ((zI w188M 336 12).toInt + 1) := w250
                      have w257 : (zI (zsI (zsI w188M 341 w248n (zhere w104M)) 336 12 w250v) 341 w248n).toInt = (zhere w104M).toInt := (congrArg Int32.toInt ((zIo (by decide)).trans zIs)).trans rfl
                      have w258 : zGn (zsI (zsI w188M 341 w248n (zhere w104M)) 336 12 w250v) := zGn.pushb (n := w248n) w188PN (by omega) (fun j hj => ((zIo (by decide)).trans (zIoj hj))) (by omega) (by omega) (by omega)
                      refine zs_putI (pc := 93) t255_93 (zk1 (w188s.k fk_zMm_336)) rfl ?_
                      refine zs_aload_n (pc := 96) t255_96 rfl ?_
                      refine zs_dup (pc := 97) t255_97 rfl ?_
                      refine zs_get (pc := 98) t255_98 (by decide) (zk1 (w188s.k fk_zMm_336)) (zfvi rfl ((zIoj (by decide)).trans ((zIo (by decide)).trans ((w188F 336 6 rfl).trans rfl)))) ?_
                      refine zs_iconst (pc := 101) t255_101 (v := 1) (by decide) ?_
                      obtain ⟨w259v, w259e, w259⟩ := ziadd (a := (zI w104M 336 6)) (b := (1 : Int32)) rfl li1 (by omega) (by omega)
                      refine zs_iadd (pc := 102) t255_102 (c := w259v) w259e ?_
                      have w260 : zIv mLo mHi (zsI (zsI (zsI w188M 341 w248n (zhere w104M)) 336 12 w250v) 336 6 w259v) := zIv.put w251 (show 0 ≤ w259v.toInt ∧ w259v.toInt ≤ 500 from ⟨by omega, by omega⟩)
                      refine zs_putI (pc := 103) t255_103 (zk1 (w188s.k fk_zMm_336)) rfl ?_
                      refine zs_goto (pc := 106) t255_106 ?_
                      refine zGo.locals (ls' := [(0, .ref 336), (1, .int (1 : Int32))]) (by simp) ?_
                      have w261 := li1
                      have w262 : (zI (zsI (zsI (zsI w188M 341 w248n (zhere w104M)) 336 12 w250v) 336 6 w259v) 336 12).toInt = ((zI w188M 336 12).toInt + 1) := (congrArg Int32.toInt ((zIoj (by decide)).trans zIs)).trans w250
                      have w263 : (zI (zsI (zsI (zsI w188M 341 w248n (zhere w104M)) 336 12 w250v) 336 6 w259v) 336 14).toInt = (zI w104M 336 14).toInt := (congrArg Int32.toInt ((zIoj (by decide)).trans ((zIoj (by decide)).trans ((zIo (by decide)).trans ((w188F 336 14 rfl).trans rfl))))).trans rfl
                      have w264 : (zI (zsI (zsI (zsI w188M 341 w248n (zhere w104M)) 336 12 w250v) 336 6 w259v) 336 11).toInt = (zI w188M 336 11).toInt := (congrArg Int32.toInt ((zIoj (by decide)).trans ((zIoj (by decide)).trans ((zIo (by decide)).trans rfl)))).trans rfl
                      have w265 : (zI (zsI (zsI (zsI w188M 341 w248n (zhere w104M)) 336 12 w250v) 336 6 w259v) 336 12).toInt = ((zI w188M 336 12).toInt + 1) := (congrArg Int32.toInt ((zIoj (by decide)).trans zIs)).trans w250
                      have w266 : (zI (zsI (zsI (zsI w188M 341 w248n (zhere w104M)) 336 12 w250v) 336 6 w259v) 336 13).toInt = (zI w104M 336 13).toInt := (congrArg Int32.toInt ((zIoj (by decide)).trans ((zIoj (by decide)).trans ((zIo (by decide)).trans ((w188F 336 13 rfl).trans rfl))))).trans rfl
                      have w267 : (zI (zsI (zsI (zsI w188M 341 w248n (zhere w104M)) 336 12 w250v) 336 6 w259v) 336 12).toInt = ((zI w188M 336 12).toInt + 1) := (congrArg Int32.toInt ((zIoj (by decide)).trans zIs)).trans w250
                      have w268 : (zI (zsI (zsI (zsI w188M 341 w248n (zhere w104M)) 336 12 w250v) 336 6 w259v) 336 14).toInt = (zI w104M 336 14).toInt := (congrArg Int32.toInt ((zIoj (by decide)).trans ((zIoj (by decide)).trans ((zIo (by decide)).trans ((w188F 336 14 rfl).trans rfl))))).trans rfl
                      have w269 : (zI (zsI (zsI (zsI w188M 341 w248n (zhere w104M)) 336 12 w250v) 336 6 w259v) 336 13).toInt = (zI w104M 336 13).toInt := (congrArg Int32.toInt ((zIoj (by decide)).trans ((zIoj (by decide)).trans ((zIo (by decide)).trans ((w188F 336 13 rfl).trans rfl))))).trans rfl
                      have w270 : (zI (zsI (zsI (zsI w188M 341 w248n (zhere w104M)) 336 12 w250v) 336 6 w259v) 336 6).toInt = ((zI w104M 336 6).toInt + 1) := (congrArg Int32.toInt zIs).trans w259
                      exact w13ih (w13m - 1) (by omega) (1 : Int32) (zsI (zsI (zsI w188M 341 w248n (zhere w104M)) 336 12 w250v) 336 6 w259v) ⟨by decide, by decide⟩ w188s w260 (((((((zFr.refl).trans (w13F.mono rfl)).trans (w104F.mono rfl)).trans (w188F.mono rfl)).put rfl).put rfl).put rfl) (w188J.trans (w104J.trans w13J)) (zGn.fr (M' := (zsI (zsI (zsI w188M 341 w248n (zhere w104M)) 336 12 w250v) 336 6 w259v)) w258 (zEq.put rfl)) (zGh.cast (zGh.fr (M' := (zsI (zsI (zsI w188M 341 w248n (zhere w104M)) 336 12 w250v) 336 6 w259v)) (zGh.fr (M' := (zsI (zsI w188M 341 w248n (zhere w104M)) 336 12 w250v)) (zGh.fr (M' := (zsI w188M 341 w248n (zhere w104M))) w188PH (zEq.put rfl)) (zEq.put rfl)) (zEq.put rfl)) (by omega)) (by omega) (by omega) (by omega)
              refine zGo.locals (ls' := [(0, .ref 336), (1, .int (1 : Int32)), (2, .int (zhere w104M))]) (by simp) ?_
              have w271 : (zI w104M 336 12).toInt = (zI w104M 336 12).toInt := (congrArg Int32.toInt rfl).trans rfl
              have w272 : (zI w104M 336 14).toInt = (zI w104M 336 14).toInt := (congrArg Int32.toInt rfl).trans rfl
              have w273 : (zI w104M 336 12).toInt = (zI w104M 336 12).toInt := (congrArg Int32.toInt rfl).trans rfl
              have w274 : (zI w104M 336 11).toInt = (zI w104M 336 11).toInt := (congrArg Int32.toInt rfl).trans rfl
              have w275 : (zI w104M 336 12).toInt = (zI w104M 336 12).toInt := (congrArg Int32.toInt rfl).trans rfl
              have w276 : (zI w104M 336 12).toInt = (zI w104M 336 12).toInt := (congrArg Int32.toInt rfl).trans rfl
              exact w188L (((zI w104M 336 12).toInt : Int).toNat) w104M w104s w104I zFr.refl rfl w110N (zGh.cast w110H (by omega)) (by omega) (by omega) (by omega)
  refine zGo.locals (ls' := [(0, .ref 336), (1, .int (1 : Int32))]) (by simp) ?_
  have w277 := li1
  have w278 : (zI M 336 12).toInt = (zI M 336 12).toInt := (congrArg Int32.toInt rfl).trans rfl
  have w279 : (zI M 336 14).toInt = (zI M 336 14).toInt := (congrArg Int32.toInt rfl).trans rfl
  have w280 : (zI M 336 11).toInt = (zI M 336 11).toInt := (congrArg Int32.toInt rfl).trans rfl
  have w281 : (zI M 336 12).toInt = (zI M 336 12).toInt := (congrArg Int32.toInt rfl).trans rfl
  have w282 : (zI M 336 13).toInt = (zI M 336 13).toInt := (congrArg Int32.toInt rfl).trans rfl
  have w283 : (zI M 336 12).toInt = (zI M 336 12).toInt := (congrArg Int32.toInt rfl).trans rfl
  have w284 : (zI M 336 14).toInt = (zI M 336 14).toInt := (congrArg Int32.toInt rfl).trans rfl
  have w285 : (zI M 336 13).toInt = (zI M 336 13).toInt := (congrArg Int32.toInt rfl).trans rfl
  have w286 : (zI M 336 6).toInt = (zI M 336 6).toInt := (congrArg Int32.toInt rfl).trans rfl
  exact w13L ((2 * (500 - (zI M 336 6).toInt) + 1 : Int).toNat) (1 : Int32) M ⟨by decide, by decide⟩ hs hI zFr.refl rfl pN (zGh.cast pH (by omega)) (by omega) (by omega) (by omega)
