theorem X70_161 {X : zX} {l : Launch} {M : zM} {Q : Option Value → zM → Prop} (hs : zSk zMc M) (hI : zIv cLo cHi M) {g : Nat → Int} {n : Int} (u0 : (zI M 161 5).toInt = -1) (u1 : (zI M 161 3).toInt ≤ (zI M 161 2).toInt) (x0 : zTr M g n) (hQ : ∀ (M' : zM) (v : Int32), zSk zMc M' → zIv cLo cHi M' → zFr [(161, 161, some 3), (161, 161, some 4), (161, 161, some 5)] M M' → (∀ (p : Nat) (t : Int), (zI M 161 3).toInt = (p : Int) → (zI M 161 4).toInt = t → zoc M' n (pSu g (p, t))) → Q (some (.int v)) M') : zCall X l 5 0 0 70 [.ref 161] M Q := by
  refine zs_in (by decide) mf70 (Nat.le_of_ble_eq_true rfl) ?_
  show zGo X l 5 0 0 70 0 [(0, .ref 161)] [] M _
  have hn := x0.2.2
  have w1 := ib161_2 hI
  have w2 : (zI M 161 2).toInt = (zI M 161 2).toInt := (congrArg Int32.toInt rfl).trans rfl
  have w3 := ib161_3 hI
  have w4 : (zI M 161 3).toInt = (zI M 161 3).toInt := (congrArg Int32.toInt rfl).trans rfl
  have w5 := ib161_4 hI
  have w6 : (zI M 161 4).toInt = (zI M 161 4).toInt := (congrArg Int32.toInt rfl).trans rfl
  have w7 := zrg (zI M 161 5)
  have w8 : (zI M 161 5).toInt = (zI M 161 5).toInt := (congrArg Int32.toInt rfl).trans rfl
  obtain ⟨w9n, w9⟩ : ∃ n : Nat, (zI M 161 3).toInt = (n : Int) := ⟨((zI M 161 3).toInt).toNat, by omega⟩
  refine zs_aload_n (pc := 0) t70_0 rfl ?_
  have w10 : (zI M 161 5).toInt = (zI M 161 5).toInt := (congrArg Int32.toInt rfl).trans rfl
  have w11 : (zI M 161 3).toInt = (zI M 161 3).toInt := (congrArg Int32.toInt rfl).trans rfl
  have w12 : (zI M 161 2).toInt = (zI M 161 2).toInt := (congrArg Int32.toInt rfl).trans rfl
  refine zs_invV (pc := 1) (k := 161) (as' := []) (st := []) t70_1 mf71 rfl rfl (Or.inl ⟨by decide, (zk1 (hs.k fk_zMc_161))⟩) ⟨by decide, by decide, Nat.le_of_ble_eq_true rfl, Nat.le_of_ble_eq_true rfl⟩ (X71_161 hs hI (by omega) (by omega) x0 ?_) (fun _ _ q => q)
  intro w13M w13v w13s w13I w13F w13x0
  have w13g := zrg w13v
  have w14 : (zI M 161 3).toInt = (zI M 161 3).toInt := (congrArg Int32.toInt rfl).trans rfl
  have w15 : (zI M 161 4).toInt = (zI M 161 4).toInt := (congrArg Int32.toInt rfl).trans rfl
  have w13z := w13x0 w9n (zI M 161 4).toInt (by omega) (by omega)
  show zGo X l 5 0 0 70 4 [(0, .ref 161)] [.int w13v] w13M _
  refine zs_istore_n (pc := 4) t70_4 (ls' := [(1, .int w13v), (0, .ref 161)]) (zml mf70 (by decide)) rfl ?_
  refine zs_iconst (pc := 5) t70_5 (v := 0) (by decide) ?_
  refine zs_istore_n (pc := 6) t70_6 (ls' := [(2, .int (0 : Int32)), (1, .int w13v), (0, .ref 161)]) (zml mf70 (by decide)) rfl ?_
  have w16L : ∀ (m : Nat) (w16x1 : Int32) (w16x2 : Int32) (w16M : zM), (0 ≤ w16x2.toInt ∧ w16x2.toInt ≤ 30) → zSk zMc w16M → zIv cLo cHi w16M → zFr [(161, 161, some 3), (161, 161, some 4), (161, 161, some 5)] w13M w16M → (zlo w16M n w16x2.toInt g (pSu g (w9n, (zI M 161 4).toInt))) → 30 - w16x2.toInt ≤ (m : Int) → zGo X l 5 0 0 70 7 [(0, .ref 161), (1, .int w16x1), (2, .int w16x2)] [] w16M Q := by
    intro m
    induction m using Nat.strongRecOn with
    | ind w16m w16ih =>
      intro w16x1 w16x2 w16M w16b2 w16s w16I w16F w16t0 w16q
      have w16g1 := zrg w16x1
      refine zs_iload_n (pc := 7) t70_7 rfl ?_
      refine zs_bipush (pc := 8) t70_8 (v := 30) (by decide) ?_
      by_cases w17 : 30 ≤ w16x2.toInt
      · refine zs_icmp_geT (pc := 10) t70_10 rfl li30 (by omega) ?_
        refine zs_iload_n (pc := 92) t70_92 rfl ?_
        have w18 := zrg (zI w16M 161 5)
        have w19 : (zI w16M 161 5).toInt = (zI w16M 161 5).toInt := (congrArg Int32.toInt rfl).trans rfl
        have w20 := ib161_3 w16I
        have w21 : (zI w16M 161 3).toInt = (zI w16M 161 3).toInt := (congrArg Int32.toInt rfl).trans rfl
        have w22 := ib161_4 w16I
        have w23 : (zI w16M 161 4).toInt = (zI w16M 161 4).toInt := (congrArg Int32.toInt rfl).trans rfl
        exact zs_iret (pc := 93) t70_93 mr70 rfl (hQ _ _ w16s w16I (((zFr.refl).trans (w13F.mono rfl)).trans (w16F.mono rfl)) (fun p t hp ht => by obtain rfl : w9n = p := (by omega); subst ht; exact w16t0.x30 (by omega) (by omega)))
      · refine zs_icmp_geF (pc := 10) t70_10 rfl li30 (by omega) ?_
        refine zs_aload_n (pc := 13) t70_13 rfl ?_
        have w24 := zrg (zI w16M 161 5)
        have w25 : (zI w16M 161 5).toInt = (zI w16M 161 5).toInt := (congrArg Int32.toInt rfl).trans rfl
        by_cases w26 : (zI w16M 161 5).toInt = -1
        · skip
          obtain ⟨w27p, w27t, w27e, w273, w274, w275, w276⟩ := (w16t0.resolve_left (fun q => q.elim (fun e q => q.2.1 (q.1.symm.trans w26)))).2
          subst w274
          have w28 : (zI w16M 161 5).toInt = (zI w16M 161 5).toInt := (congrArg Int32.toInt rfl).trans rfl
          refine zs_invV (pc := 14) (k := 161) (as' := []) (st := []) t70_14 mf68 rfl rfl (Or.inl ⟨by decide, (zk1 (w16s.k fk_zMc_161))⟩) ⟨by decide, by decide, Nat.le_of_ble_eq_true rfl, Nat.le_of_ble_eq_true rfl⟩ (P68 w16s w16I ?_) (fun _ _ q => q)
          have w30 := ib161_3 w16I
          have w31 : (zI w16M 161 3).toInt = (zI w16M 161 3).toInt := (congrArg Int32.toInt rfl).trans rfl
          have w29 : (zpk w16M).toInt = g w27p := zpk.tr (zTr.mk x0 ((x0.1.F w13F rfl).F w16F rfl) (fun j => ((w16F 163 j rfl).trans (w13F 163 j rfl))) ((w16F 161 2 rfl).trans (w13F 161 2 rfl))) (by omega) (by omega)
          have w32 := zTr.rg x0 w27p
          show zGo X l 5 0 0 70 17 [(0, .ref 161), (1, .int w16x1), (2, .int w16x2)] [.int (zpk w16M)] w16M _
          refine zs_istore_n (pc := 17) t70_17 (ls' := [(3, .int (zpk w16M)), (0, .ref 161), (1, .int w16x1), (2, .int w16x2)]) (zml mf70 (by decide)) rfl ?_
          refine zs_iload_n (pc := 18) t70_18 rfl ?_
          refine zs_bipush (pc := 19) t70_19 (v := 43) (by decide) ?_
          by_cases w33 : (g w27p) = 43
          · refine zs_icmp_eqT (pc := 21) t70_21 w29 li43 (by omega) ?_
            refine zs_aload_n (pc := 39) t70_39 rfl ?_
            refine zs_dup (pc := 40) t70_40 rfl ?_
            refine zs_get (pc := 41) t70_41 (by decide) (zk1 (w16s.k fk_zMc_161)) (zfvi rfl rfl) ?_
            refine zs_iconst (pc := 44) t70_44 (v := 1) (by decide) ?_
            obtain ⟨w34v, w34e, w34⟩ := ziadd (a := (zI w16M 161 3)) (b := (1 : Int32)) rfl li1 (by omega) (by omega)
            refine zs_iadd (pc := 45) t70_45 (c := w34v) w34e ?_
            have w35 : zIv cLo cHi (zsI w16M 161 3 w34v) := zIv.put w16I (show 0 ≤ w34v.toInt ∧ w34v.toInt ≤ 500 from ⟨by omega, by omega⟩)
            refine zs_putI (pc := 46) t70_46 (zk1 (w16s.k fk_zMc_161)) rfl ?_
            refine zs_aload_n (pc := 49) t70_49 rfl ?_
            have w36 : (zI (zsI w16M 161 3 w34v) 161 5).toInt = (zI w16M 161 5).toInt := (congrArg Int32.toInt ((zIoj (by decide)).trans rfl)).trans rfl
            have w37 : (zI (zsI w16M 161 3 w34v) 161 3).toInt = ((zI w16M 161 3).toInt + 1) := (congrArg Int32.toInt zIs).trans w34
            have w38 : (zI (zsI w16M 161 3 w34v) 161 2).toInt = (zI M 161 2).toInt := (congrArg Int32.toInt ((zIoj (by decide)).trans ((w16F 161 2 rfl).trans ((w13F 161 2 rfl).trans rfl)))).trans rfl
            refine zs_invV (pc := 50) (k := 161) (as' := []) (st := []) t70_50 mf71 rfl rfl (Or.inl ⟨by decide, (zk1 (w16s.k fk_zMc_161))⟩) ⟨by decide, by decide, Nat.le_of_ble_eq_true rfl, Nat.le_of_ble_eq_true rfl⟩ (X71_161 w16s w35 (by omega) (by omega) (zTr.mk x0 (((x0.1.F w13F rfl).F w16F rfl).put (by decide)) (fun j => ((zIo (by decide)).trans ((w16F 163 j rfl).trans (w13F 163 j rfl)))) ((zIoj (by decide)).trans ((w16F 161 2 rfl).trans (w13F 161 2 rfl)))) ?_) (fun _ _ q => q)
            intro w39M w39v w39s w39I w39F w39x0
            have w39g := zrg w39v
            have w40 : (zI (zsI w16M 161 3 w34v) 161 3).toInt = ((zI w16M 161 3).toInt + 1) := (congrArg Int32.toInt zIs).trans w34
            have w41 := ib161_4 w16I
            have w42 : (zI (zsI w16M 161 3 w34v) 161 4).toInt = (zI w16M 161 4).toInt := (congrArg Int32.toInt ((zIoj (by decide)).trans rfl)).trans rfl
            have w39z := w39x0 (w27p + 1) (zI w16M 161 4).toInt (by omega) (by omega)
            show zGo X l 5 0 0 70 53 [(3, .int (zpk w16M)), (0, .ref 161), (1, .int w16x1), (2, .int w16x2)] [.int w39v] w39M _
            refine zs_istore (pc := 53) t70_53 (ls' := [(4, .int w39v), (3, .int (zpk w16M)), (0, .ref 161), (1, .int w16x1), (2, .int w16x2)]) (zml mf70 (by decide)) rfl ?_
            refine zs_iload_n (pc := 55) t70_55 rfl ?_
            refine zs_bipush (pc := 56) t70_56 (v := 42) (by decide) ?_
            refine zs_icmp_neT (pc := 58) t70_58 w29 li42 (by omega) ?_
            refine zs_iload_n (pc := 69) t70_69 rfl ?_
            refine zs_iload_n (pc := 70) t70_70 rfl ?_
            refine zs_bipush (pc := 71) t70_71 (v := 43) (by decide) ?_
            refine zs_icmp_neF (pc := 73) t70_73 w29 li43 (by omega) ?_
            refine zs_iload (pc := 76) t70_76 rfl ?_
            refine zs_goto (pc := 78) t70_78 ?_
            obtain ⟨w43v, w43⟩ : ∃ v, v = w16x1 + w39v := ⟨_, rfl⟩
            have w43g := zrg w43v
            refine zs_iadd (pc := 84) t70_84 (c := w43v) w43.symm ?_
            refine zs_istore_n (pc := 85) t70_85 (ls' := [(1, .int w43v), (4, .int w39v), (3, .int (zpk w16M)), (0, .ref 161), (2, .int w16x2)]) (zml mf70 (by decide)) rfl ?_
            obtain ⟨w44v, w44e, w44⟩ := ziadd (a := w16x2) (b := Int32.ofInt 1) rfl (show (Int32.ofInt 1).toInt = 1 by decide) (by omega) (by omega)
            refine zs_iinc (pc := 86) t70_86 (ls' := [(2, .int w44v), (1, .int w43v), (4, .int w39v), (3, .int (zpk w16M)), (0, .ref 161)]) (zml mf70 (by decide)) rfl (c := w44v) w44e rfl ?_
            refine zs_goto (pc := 89) t70_89 ?_
            refine zGo.locals (ls' := [(0, .ref 161), (1, .int w43v), (2, .int w44v)]) (by simp) ?_
            have w45 := w44
            exact w16ih (w16m - 1) (by omega) w43v w44v w39M ⟨by omega, by omega⟩ w39s w39I ((((zFr.refl).trans (w16F.mono rfl)).put rfl).trans (w39F.mono rfl)) (zlo.stp (by unfold zjn; omega) (by omega) w27e w39z w276 (by omega)) (by omega)
          · refine zs_icmp_eqF (pc := 21) t70_21 w29 li43 (by omega) ?_
            refine zs_iload_n (pc := 24) t70_24 rfl ?_
            refine zs_bipush (pc := 25) t70_25 (v := 45) (by decide) ?_
            by_cases w46 : (g w27p) = 45
            · refine zs_icmp_eqT (pc := 27) t70_27 w29 li45 (by omega) ?_
              refine zs_aload_n (pc := 39) t70_39 rfl ?_
              refine zs_dup (pc := 40) t70_40 rfl ?_
              refine zs_get (pc := 41) t70_41 (by decide) (zk1 (w16s.k fk_zMc_161)) (zfvi rfl rfl) ?_
              refine zs_iconst (pc := 44) t70_44 (v := 1) (by decide) ?_
              obtain ⟨w47v, w47e, w47⟩ := ziadd (a := (zI w16M 161 3)) (b := (1 : Int32)) rfl li1 (by omega) (by omega)
              refine zs_iadd (pc := 45) t70_45 (c := w47v) w47e ?_
              have w48 : zIv cLo cHi (zsI w16M 161 3 w47v) := zIv.put w16I (show 0 ≤ w47v.toInt ∧ w47v.toInt ≤ 500 from ⟨by omega, by omega⟩)
              refine zs_putI (pc := 46) t70_46 (zk1 (w16s.k fk_zMc_161)) rfl ?_
              refine zs_aload_n (pc := 49) t70_49 rfl ?_
              have w49 : (zI (zsI w16M 161 3 w47v) 161 5).toInt = (zI w16M 161 5).toInt := (congrArg Int32.toInt ((zIoj (by decide)).trans rfl)).trans rfl
              have w50 : (zI (zsI w16M 161 3 w47v) 161 3).toInt = ((zI w16M 161 3).toInt + 1) := (congrArg Int32.toInt zIs).trans w47
              have w51 : (zI (zsI w16M 161 3 w47v) 161 2).toInt = (zI M 161 2).toInt := (congrArg Int32.toInt ((zIoj (by decide)).trans ((w16F 161 2 rfl).trans ((w13F 161 2 rfl).trans rfl)))).trans rfl
              refine zs_invV (pc := 50) (k := 161) (as' := []) (st := []) t70_50 mf71 rfl rfl (Or.inl ⟨by decide, (zk1 (w16s.k fk_zMc_161))⟩) ⟨by decide, by decide, Nat.le_of_ble_eq_true rfl, Nat.le_of_ble_eq_true rfl⟩ (X71_161 w16s w48 (by omega) (by omega) (zTr.mk x0 (((x0.1.F w13F rfl).F w16F rfl).put (by decide)) (fun j => ((zIo (by decide)).trans ((w16F 163 j rfl).trans (w13F 163 j rfl)))) ((zIoj (by decide)).trans ((w16F 161 2 rfl).trans (w13F 161 2 rfl)))) ?_) (fun _ _ q => q)
              intro w52M w52v w52s w52I w52F w52x0
              have w52g := zrg w52v
              have w53 : (zI (zsI w16M 161 3 w47v) 161 3).toInt = ((zI w16M 161 3).toInt + 1) := (congrArg Int32.toInt zIs).trans w47
              have w54 := ib161_4 w16I
              have w55 : (zI (zsI w16M 161 3 w47v) 161 4).toInt = (zI w16M 161 4).toInt := (congrArg Int32.toInt ((zIoj (by decide)).trans rfl)).trans rfl
              have w52z := w52x0 (w27p + 1) (zI w16M 161 4).toInt (by omega) (by omega)
              show zGo X l 5 0 0 70 53 [(3, .int (zpk w16M)), (0, .ref 161), (1, .int w16x1), (2, .int w16x2)] [.int w52v] w52M _
              refine zs_istore (pc := 53) t70_53 (ls' := [(4, .int w52v), (3, .int (zpk w16M)), (0, .ref 161), (1, .int w16x1), (2, .int w16x2)]) (zml mf70 (by decide)) rfl ?_
              refine zs_iload_n (pc := 55) t70_55 rfl ?_
              refine zs_bipush (pc := 56) t70_56 (v := 42) (by decide) ?_
              refine zs_icmp_neT (pc := 58) t70_58 w29 li42 (by omega) ?_
              refine zs_iload_n (pc := 69) t70_69 rfl ?_
              refine zs_iload_n (pc := 70) t70_70 rfl ?_
              refine zs_bipush (pc := 71) t70_71 (v := 43) (by decide) ?_
              refine zs_icmp_neT (pc := 73) t70_73 w29 li43 (by omega) ?_
              refine zs_iload (pc := 81) t70_81 rfl ?_
              obtain ⟨w56v, w56e⟩ : ∃ v, -w52v = v := ⟨_, rfl⟩
              have w56 := zrg w56v
              refine zs_ineg (pc := 83) t70_83 (c := w56v) w56e ?_
              obtain ⟨w57v, w57⟩ : ∃ v, v = w16x1 + w56v := ⟨_, rfl⟩
              have w57g := zrg w57v
              refine zs_iadd (pc := 84) t70_84 (c := w57v) w57.symm ?_
              refine zs_istore_n (pc := 85) t70_85 (ls' := [(1, .int w57v), (4, .int w52v), (3, .int (zpk w16M)), (0, .ref 161), (2, .int w16x2)]) (zml mf70 (by decide)) rfl ?_
              obtain ⟨w58v, w58e, w58⟩ := ziadd (a := w16x2) (b := Int32.ofInt 1) rfl (show (Int32.ofInt 1).toInt = 1 by decide) (by omega) (by omega)
              refine zs_iinc (pc := 86) t70_86 (ls' := [(2, .int w58v), (1, .int w57v), (4, .int w52v), (3, .int (zpk w16M)), (0, .ref 161)]) (zml mf70 (by decide)) rfl (c := w58v) w58e rfl ?_
              refine zs_goto (pc := 89) t70_89 ?_
              refine zGo.locals (ls' := [(0, .ref 161), (1, .int w57v), (2, .int w58v)]) (by simp) ?_
              have w59 := w58
              exact w16ih (w16m - 1) (by omega) w57v w58v w52M ⟨by omega, by omega⟩ w52s w52I ((((zFr.refl).trans (w16F.mono rfl)).put rfl).trans (w52F.mono rfl)) (zlo.stp (by unfold zjn; omega) (by omega) w27e w52z w276 (by omega)) (by omega)
            · refine zs_icmp_eqF (pc := 27) t70_27 w29 li45 (by omega) ?_
              refine zs_iload_n (pc := 30) t70_30 rfl ?_
              refine zs_bipush (pc := 31) t70_31 (v := 42) (by decide) ?_
              by_cases w60 : (g w27p) = 42
              · refine zs_icmp_eqT (pc := 33) t70_33 w29 li42 (by omega) ?_
                refine zs_aload_n (pc := 39) t70_39 rfl ?_
                refine zs_dup (pc := 40) t70_40 rfl ?_
                refine zs_get (pc := 41) t70_41 (by decide) (zk1 (w16s.k fk_zMc_161)) (zfvi rfl rfl) ?_
                refine zs_iconst (pc := 44) t70_44 (v := 1) (by decide) ?_
                obtain ⟨w61v, w61e, w61⟩ := ziadd (a := (zI w16M 161 3)) (b := (1 : Int32)) rfl li1 (by omega) (by omega)
                refine zs_iadd (pc := 45) t70_45 (c := w61v) w61e ?_
                have w62 : zIv cLo cHi (zsI w16M 161 3 w61v) := zIv.put w16I (show 0 ≤ w61v.toInt ∧ w61v.toInt ≤ 500 from ⟨by omega, by omega⟩)
                refine zs_putI (pc := 46) t70_46 (zk1 (w16s.k fk_zMc_161)) rfl ?_
                refine zs_aload_n (pc := 49) t70_49 rfl ?_
                have w63 : (zI (zsI w16M 161 3 w61v) 161 5).toInt = (zI w16M 161 5).toInt := (congrArg Int32.toInt ((zIoj (by decide)).trans rfl)).trans rfl
                have w64 : (zI (zsI w16M 161 3 w61v) 161 3).toInt = ((zI w16M 161 3).toInt + 1) := (congrArg Int32.toInt zIs).trans w61
                have w65 : (zI (zsI w16M 161 3 w61v) 161 2).toInt = (zI M 161 2).toInt := (congrArg Int32.toInt ((zIoj (by decide)).trans ((w16F 161 2 rfl).trans ((w13F 161 2 rfl).trans rfl)))).trans rfl
                refine zs_invV (pc := 50) (k := 161) (as' := []) (st := []) t70_50 mf71 rfl rfl (Or.inl ⟨by decide, (zk1 (w16s.k fk_zMc_161))⟩) ⟨by decide, by decide, Nat.le_of_ble_eq_true rfl, Nat.le_of_ble_eq_true rfl⟩ (X71_161 w16s w62 (by omega) (by omega) (zTr.mk x0 (((x0.1.F w13F rfl).F w16F rfl).put (by decide)) (fun j => ((zIo (by decide)).trans ((w16F 163 j rfl).trans (w13F 163 j rfl)))) ((zIoj (by decide)).trans ((w16F 161 2 rfl).trans (w13F 161 2 rfl)))) ?_) (fun _ _ q => q)
                intro w66M w66v w66s w66I w66F w66x0
                have w66g := zrg w66v
                have w67 : (zI (zsI w16M 161 3 w61v) 161 3).toInt = ((zI w16M 161 3).toInt + 1) := (congrArg Int32.toInt zIs).trans w61
                have w68 := ib161_4 w16I
                have w69 : (zI (zsI w16M 161 3 w61v) 161 4).toInt = (zI w16M 161 4).toInt := (congrArg Int32.toInt ((zIoj (by decide)).trans rfl)).trans rfl
                have w66z := w66x0 (w27p + 1) (zI w16M 161 4).toInt (by omega) (by omega)
                show zGo X l 5 0 0 70 53 [(3, .int (zpk w16M)), (0, .ref 161), (1, .int w16x1), (2, .int w16x2)] [.int w66v] w66M _
                refine zs_istore (pc := 53) t70_53 (ls' := [(4, .int w66v), (3, .int (zpk w16M)), (0, .ref 161), (1, .int w16x1), (2, .int w16x2)]) (zml mf70 (by decide)) rfl ?_
                refine zs_iload_n (pc := 55) t70_55 rfl ?_
                refine zs_bipush (pc := 56) t70_56 (v := 42) (by decide) ?_
                refine zs_icmp_neF (pc := 58) t70_58 w29 li42 (by omega) ?_
                refine zs_iload_n (pc := 61) t70_61 rfl ?_
                refine zs_iload (pc := 62) t70_62 rfl ?_
                obtain ⟨w70v, w70⟩ : ∃ v, w16x1 * w66v = v := ⟨_, rfl⟩
                have w70g := zrg w70v
                refine zs_imul (pc := 64) t70_64 (c := w70v) w70 ?_
                refine zs_istore_n (pc := 65) t70_65 (ls' := [(1, .int w70v), (4, .int w66v), (3, .int (zpk w16M)), (0, .ref 161), (2, .int w16x2)]) (zml mf70 (by decide)) rfl ?_
                refine zs_goto (pc := 66) t70_66 ?_
                obtain ⟨w71v, w71e, w71⟩ := ziadd (a := w16x2) (b := Int32.ofInt 1) rfl (show (Int32.ofInt 1).toInt = 1 by decide) (by omega) (by omega)
                refine zs_iinc (pc := 86) t70_86 (ls' := [(2, .int w71v), (1, .int w70v), (4, .int w66v), (3, .int (zpk w16M)), (0, .ref 161)]) (zml mf70 (by decide)) rfl (c := w71v) w71e rfl ?_
                refine zs_goto (pc := 89) t70_89 ?_
                refine zGo.locals (ls' := [(0, .ref 161), (1, .int w70v), (2, .int w71v)]) (by simp) ?_
                have w72 := w71
                exact w16ih (w16m - 1) (by omega) w70v w71v w66M ⟨by omega, by omega⟩ w66s w66I ((((zFr.refl).trans (w16F.mono rfl)).put rfl).trans (w66F.mono rfl)) (zlo.stp (by unfold zjn; omega) (by omega) w27e w66z w276 (by omega)) (by omega)
              · refine zs_icmp_eqF (pc := 33) t70_33 w29 li42 (by omega) ?_
                refine zs_goto (pc := 36) t70_36 ?_
                refine zs_iload_n (pc := 92) t70_92 rfl ?_
                have w73 : (zI w16M 161 5).toInt = (zI w16M 161 5).toInt := (congrArg Int32.toInt rfl).trans rfl
                have w74 : (zI w16M 161 3).toInt = (zI w16M 161 3).toInt := (congrArg Int32.toInt rfl).trans rfl
                have w75 := ib161_4 w16I
                have w76 : (zI w16M 161 4).toInt = (zI w16M 161 4).toInt := (congrArg Int32.toInt rfl).trans rfl
                exact zs_iret (pc := 93) t70_93 mr70 rfl (hQ _ _ w16s w16I (((zFr.refl).trans (w13F.mono rfl)).trans (w16F.mono rfl)) (fun p t hp ht => by obtain rfl : w9n = p := (by omega); subst ht; exact Or.inr ⟨w26, w27p, _, w27e.trans (pMo.n (by unfold zjn; omega)), w273, rfl, w275⟩))
        · skip
          have w77 : (zI w16M 161 5).toInt = (zI w16M 161 5).toInt := (congrArg Int32.toInt rfl).trans rfl
          refine zs_invV (pc := 14) (k := 161) (as' := []) (st := []) t70_14 mf68 rfl rfl (Or.inl ⟨by decide, (zk1 (w16s.k fk_zMc_161))⟩) ⟨by decide, by decide, Nat.le_of_ble_eq_true rfl, Nat.le_of_ble_eq_true rfl⟩ (P68 w16s w16I ?_) (fun _ _ q => q)
          have w78 : (zpk w16M).toInt = -1 := zpk.no (by omega)
          show zGo X l 5 0 0 70 17 [(0, .ref 161), (1, .int w16x1), (2, .int w16x2)] [.int (zpk w16M)] w16M _
          refine zs_istore_n (pc := 17) t70_17 (ls' := [(3, .int (zpk w16M)), (0, .ref 161), (1, .int w16x1), (2, .int w16x2)]) (zml mf70 (by decide)) rfl ?_
          refine zs_iload_n (pc := 18) t70_18 rfl ?_
          refine zs_bipush (pc := 19) t70_19 (v := 43) (by decide) ?_
          refine zs_icmp_eqF (pc := 21) t70_21 w78 li43 (by decide) ?_
          refine zs_iload_n (pc := 24) t70_24 rfl ?_
          refine zs_bipush (pc := 25) t70_25 (v := 45) (by decide) ?_
          refine zs_icmp_eqF (pc := 27) t70_27 w78 li45 (by decide) ?_
          refine zs_iload_n (pc := 30) t70_30 rfl ?_
          refine zs_bipush (pc := 31) t70_31 (v := 42) (by decide) ?_
          refine zs_icmp_eqF (pc := 33) t70_33 w78 li42 (by decide) ?_
          refine zs_goto (pc := 36) t70_36 ?_
          refine zs_iload_n (pc := 92) t70_92 rfl ?_
          have w79 : (zI w16M 161 5).toInt = (zI w16M 161 5).toInt := (congrArg Int32.toInt rfl).trans rfl
          have w80 := ib161_3 w16I
          have w81 : (zI w16M 161 3).toInt = (zI w16M 161 3).toInt := (congrArg Int32.toInt rfl).trans rfl
          have w82 := ib161_4 w16I
          have w83 : (zI w16M 161 4).toInt = (zI w16M 161 4).toInt := (congrArg Int32.toInt rfl).trans rfl
          exact zs_iret (pc := 93) t70_93 mr70 rfl (hQ _ _ w16s w16I (((zFr.refl).trans (w13F.mono rfl)).trans (w16F.mono rfl)) (fun p t hp ht => by obtain rfl : w9n = p := (by omega); subst ht; exact w16t0.xf w26))
  refine zGo.locals (ls' := [(0, .ref 161), (1, .int w13v), (2, .int (0 : Int32))]) (by simp) ?_
  have w84 := li0
  exact w16L ((30 - 0 : Int).toNat) w13v (0 : Int32) w13M ⟨by decide, by decide⟩ w13s w13I zFr.refl (zlo.of w13z (by omega)) (by omega)
theorem X69_161 {X : zX} {l : Launch} {M : zM} {Q : Option Value → zM → Prop} (hs : zSk zMc M) (hI : zIv cLo cHi M) {g : Nat → Int} {n : Int} (u0 : (zI M 161 5).toInt = -1) (u1 : (zI M 161 3).toInt ≤ (zI M 161 2).toInt) (x0 : zTr M g n) (hQ : ∀ (M' : zM) (v : Int32), zSk zMc M' → zIv cLo cHi M' → zFr [(161, 161, some 3), (161, 161, some 4), (161, 161, some 5)] M M' → (∀ (p : Nat) (t : Int), (zI M 161 3).toInt = (p : Int) → (zI M 161 4).toInt = t → zoc M' n (pCm g (p, t))) → 0 ≤ v.toInt → v.toInt ≤ 1 → Q (some (.int v)) M') : zCall X l 6 0 0 69 [.ref 161] M Q := by
  refine zs_in (by decide) mf69 (Nat.le_of_ble_eq_true rfl) ?_
  show zGo X l 6 0 0 69 0 [(0, .ref 161)] [] M _
  have hn := x0.2.2
  have w1 := ib161_2 hI
  have w2 : (zI M 161 2).toInt = (zI M 161 2).toInt := (congrArg Int32.toInt rfl).trans rfl
  have w3 := ib161_3 hI
  have w4 : (zI M 161 3).toInt = (zI M 161 3).toInt := (congrArg Int32.toInt rfl).trans rfl
  have w5 := ib161_4 hI
  have w6 : (zI M 161 4).toInt = (zI M 161 4).toInt := (congrArg Int32.toInt rfl).trans rfl
  have w7 := zrg (zI M 161 5)
  have w8 : (zI M 161 5).toInt = (zI M 161 5).toInt := (congrArg Int32.toInt rfl).trans rfl
  obtain ⟨w9n, w9⟩ : ∃ n : Nat, (zI M 161 3).toInt = (n : Int) := ⟨((zI M 161 3).toInt).toNat, by omega⟩
  refine zs_aload_n (pc := 0) t69_0 rfl ?_
  have w10 : (zI M 161 5).toInt = (zI M 161 5).toInt := (congrArg Int32.toInt rfl).trans rfl
  have w11 : (zI M 161 3).toInt = (zI M 161 3).toInt := (congrArg Int32.toInt rfl).trans rfl
  have w12 : (zI M 161 2).toInt = (zI M 161 2).toInt := (congrArg Int32.toInt rfl).trans rfl
  refine zs_invV (pc := 1) (k := 161) (as' := []) (st := []) t69_1 mf70 rfl rfl (Or.inl ⟨by decide, (zk1 (hs.k fk_zMc_161))⟩) ⟨by decide, by decide, Nat.le_of_ble_eq_true rfl, Nat.le_of_ble_eq_true rfl⟩ (X70_161 hs hI (by omega) (by omega) x0 ?_) (fun _ _ q => q)
  intro w13M w13v w13s w13I w13F w13x0
  have w13g := zrg w13v
  have w14 : (zI M 161 3).toInt = (zI M 161 3).toInt := (congrArg Int32.toInt rfl).trans rfl
  have w15 : (zI M 161 4).toInt = (zI M 161 4).toInt := (congrArg Int32.toInt rfl).trans rfl
  have w13z := w13x0 w9n (zI M 161 4).toInt (by omega) (by omega)
  show zGo X l 6 0 0 69 4 [(0, .ref 161)] [.int w13v] w13M _
  rcases w13z with ⟨w16x, w16f, w16n, w16e⟩ | ⟨w16f, w16p, w16t, w16e, w163, w164, w165⟩
  · skip
    refine zs_istore_n (pc := 4) t69_4 (ls' := [(1, .int w13v), (0, .ref 161)]) (zml mf69 (by decide)) rfl ?_
    refine zs_aload_n (pc := 5) t69_5 rfl ?_
    have w17 := zrg (zI w13M 161 5)
    have w18 : (zI w13M 161 5).toInt = (zI w13M 161 5).toInt := (congrArg Int32.toInt rfl).trans rfl
    have w19 : (zI w13M 161 5).toInt = (zI w13M 161 5).toInt := (congrArg Int32.toInt rfl).trans rfl
    refine zs_invV (pc := 6) (k := 161) (as' := []) (st := []) t69_6 mf68 rfl rfl (Or.inl ⟨by decide, (zk1 (w13s.k fk_zMc_161))⟩) ⟨by decide, by decide, Nat.le_of_ble_eq_true rfl, Nat.le_of_ble_eq_true rfl⟩ (P68 w13s w13I ?_) (fun _ _ q => q)
    have w20 : (zpk w13M).toInt = -1 := zpk.no (by omega)
    show zGo X l 6 0 0 69 9 [(1, .int w13v), (0, .ref 161)] [.int (zpk w13M)] w13M _
    refine zs_istore_n (pc := 9) t69_9 (ls' := [(2, .int (zpk w13M)), (1, .int w13v), (0, .ref 161)]) (zml mf69 (by decide)) rfl ?_
    refine zs_iload_n (pc := 10) t69_10 rfl ?_
    refine zs_bipush (pc := 11) t69_11 (v := 60) (by decide) ?_
    refine zs_icmp_eqF (pc := 13) t69_13 w20 li60 (by decide) ?_
    refine zs_iload_n (pc := 16) t69_16 rfl ?_
    refine zs_bipush (pc := 17) t69_17 (v := 62) (by decide) ?_
    refine zs_icmp_eqF (pc := 19) t69_19 w20 li62 (by decide) ?_
    refine zs_iload_n (pc := 22) t69_22 rfl ?_
    refine zs_bipush (pc := 23) t69_23 (v := 61) (by decide) ?_
    refine zs_icmp_eqF (pc := 25) t69_25 w20 li61 (by decide) ?_
    refine zs_aload_n (pc := 28) t69_28 rfl ?_
    refine zs_aload_n (pc := 29) t69_29 rfl ?_
    have w21 := ib161_3 w13I
    refine zs_get (pc := 30) t69_30 (by decide) (zk1 (w13s.k fk_zMc_161)) (zfvi rfl rfl) ?_
    refine zs_invV (pc := 33) (k := 161) (as' := [.int (zI w13M 161 3)]) (st := []) t69_33 mf78 rfl rfl (Or.inl ⟨by decide, (zk1 (w13s.k fk_zMc_161))⟩) ⟨by decide, by decide, Nat.le_of_ble_eq_true rfl, Nat.le_of_ble_eq_true rfl⟩ (zs_in (by decide) mf78 (Nat.le_of_ble_eq_true rfl) ?_) (fun _ _ q => q)
    show zGo X l 0 0 0 78 0 [(0, .ref 161), (1, .int (zI w13M 161 3))] [] w13M _
    refine zs_aload_n (pc := 0) t78_0 rfl ?_
    refine zs_get (pc := 1) t78_1 (by decide) (zk1 (w13s.k fk_zMc_161)) (zfvi rfl rfl) ?_
    refine zs_iconst (pc := 4) t78_4 (v := -1) (by decide) ?_
    refine zs_icmp_neT (pc := 5) t78_5 rfl lin1 (by omega) ?_
    refine zs_vret (pc := 13) t78_13 mr78 ?_
    show zGo X l 6 0 0 69 36 [(2, .int (zpk w13M)), (1, .int w13v), (0, .ref 161)] [] w13M _
    refine zs_iconst (pc := 36) t69_36 (v := 0) (by decide) ?_
    have w22 : (zI w13M 161 5).toInt = (zI w13M 161 5).toInt := (congrArg Int32.toInt rfl).trans rfl
    have w23 : (zI w13M 161 3).toInt = (zI w13M 161 3).toInt := (congrArg Int32.toInt rfl).trans rfl
    have w24 := ib161_4 w13I
    have w25 : (zI w13M 161 4).toInt = (zI w13M 161 4).toInt := (congrArg Int32.toInt rfl).trans rfl
    exact zs_iret (pc := 37) t69_37 mr69 (by decide) (hQ _ _ w13s w13I ((zFr.refl).trans (w13F.mono rfl)) (fun p t hp ht => by obtain rfl : w9n = p := (by omega); subst ht; exact Or.inl ⟨_, by omega, by omega, pCm.f w16e⟩) (by decide) (by decide))
  · skip
    subst w164
    refine zs_istore_n (pc := 4) t69_4 (ls' := [(1, .int w13v), (0, .ref 161)]) (zml mf69 (by decide)) rfl ?_
    refine zs_aload_n (pc := 5) t69_5 rfl ?_
    have w26 := zrg (zI w13M 161 5)
    have w27 : (zI w13M 161 5).toInt = (zI w13M 161 5).toInt := (congrArg Int32.toInt rfl).trans rfl
    have w28 : (zI w13M 161 5).toInt = (zI w13M 161 5).toInt := (congrArg Int32.toInt rfl).trans rfl
    refine zs_invV (pc := 6) (k := 161) (as' := []) (st := []) t69_6 mf68 rfl rfl (Or.inl ⟨by decide, (zk1 (w13s.k fk_zMc_161))⟩) ⟨by decide, by decide, Nat.le_of_ble_eq_true rfl, Nat.le_of_ble_eq_true rfl⟩ (P68 w13s w13I ?_) (fun _ _ q => q)
    have w30 := ib161_3 w13I
    have w31 : (zI w13M 161 3).toInt = (zI w13M 161 3).toInt := (congrArg Int32.toInt rfl).trans rfl
    have w29 : (zpk w13M).toInt = g w16p := zpk.tr (zTr.mk x0 (x0.1.F w13F rfl) (fun j => (w13F 163 j rfl)) (w13F 161 2 rfl)) (by omega) (by omega)
    have w32 := zTr.rg x0 w16p
    show zGo X l 6 0 0 69 9 [(1, .int w13v), (0, .ref 161)] [.int (zpk w13M)] w13M _
    refine zs_istore_n (pc := 9) t69_9 (ls' := [(2, .int (zpk w13M)), (1, .int w13v), (0, .ref 161)]) (zml mf69 (by decide)) rfl ?_
    refine zs_iload_n (pc := 10) t69_10 rfl ?_
    refine zs_bipush (pc := 11) t69_11 (v := 60) (by decide) ?_
    by_cases w33 : (g w16p) = 60
    · refine zs_icmp_eqT (pc := 13) t69_13 w29 li60 (by omega) ?_
      refine zs_aload_n (pc := 38) t69_38 rfl ?_
      refine zs_dup (pc := 39) t69_39 rfl ?_
      refine zs_get (pc := 40) t69_40 (by decide) (zk1 (w13s.k fk_zMc_161)) (zfvi rfl rfl) ?_
      refine zs_iconst (pc := 43) t69_43 (v := 1) (by decide) ?_
      obtain ⟨w34v, w34e, w34⟩ := ziadd (a := (zI w13M 161 3)) (b := (1 : Int32)) rfl li1 (by omega) (by omega)
      refine zs_iadd (pc := 44) t69_44 (c := w34v) w34e ?_
      have w35 : zIv cLo cHi (zsI w13M 161 3 w34v) := zIv.put w13I (show 0 ≤ w34v.toInt ∧ w34v.toInt ≤ 500 from ⟨by omega, by omega⟩)
      refine zs_putI (pc := 45) t69_45 (zk1 (w13s.k fk_zMc_161)) rfl ?_
      refine zs_aload_n (pc := 48) t69_48 rfl ?_
      have w36 : (zI (zsI w13M 161 3 w34v) 161 5).toInt = (zI w13M 161 5).toInt := (congrArg Int32.toInt ((zIoj (by decide)).trans rfl)).trans rfl
      have w37 : (zI (zsI w13M 161 3 w34v) 161 3).toInt = ((zI w13M 161 3).toInt + 1) := (congrArg Int32.toInt zIs).trans w34
      have w38 : (zI (zsI w13M 161 3 w34v) 161 2).toInt = (zI M 161 2).toInt := (congrArg Int32.toInt ((zIoj (by decide)).trans ((w13F 161 2 rfl).trans rfl))).trans rfl
      refine zs_invV (pc := 49) (k := 161) (as' := []) (st := []) t69_49 mf70 rfl rfl (Or.inl ⟨by decide, (zk1 (w13s.k fk_zMc_161))⟩) ⟨by decide, by decide, Nat.le_of_ble_eq_true rfl, Nat.le_of_ble_eq_true rfl⟩ (X70_161 w13s w35 (by omega) (by omega) (zTr.mk x0 ((x0.1.F w13F rfl).put (by decide)) (fun j => ((zIo (by decide)).trans (w13F 163 j rfl))) ((zIoj (by decide)).trans (w13F 161 2 rfl))) ?_) (fun _ _ q => q)
      intro w39M w39v w39s w39I w39F w39x0
      have w39g := zrg w39v
      have w40 : (zI (zsI w13M 161 3 w34v) 161 3).toInt = ((zI w13M 161 3).toInt + 1) := (congrArg Int32.toInt zIs).trans w34
      have w41 := ib161_4 w13I
      have w42 : (zI (zsI w13M 161 3 w34v) 161 4).toInt = (zI w13M 161 4).toInt := (congrArg Int32.toInt ((zIoj (by decide)).trans rfl)).trans rfl
      have w39z := w39x0 (w16p + 1) (zI w13M 161 4).toInt (by omega) (by omega)
      show zGo X l 6 0 0 69 52 [(2, .int (zpk w13M)), (1, .int w13v), (0, .ref 161)] [.int w39v] w39M _
      refine zs_istore_n (pc := 52) t69_52 (ls' := [(3, .int w39v), (2, .int (zpk w13M)), (1, .int w13v), (0, .ref 161)]) (zml mf69 (by decide)) rfl ?_
      refine zs_iload_n (pc := 53) t69_53 rfl ?_
      refine zs_bipush (pc := 54) t69_54 (v := 61) (by decide) ?_
      refine zs_icmp_neT (pc := 56) t69_56 w29 li61 (by omega) ?_
      refine zs_iload_n (pc := 70) t69_70 rfl ?_
      refine zs_bipush (pc := 71) t69_71 (v := 60) (by decide) ?_
      refine zs_icmp_neF (pc := 73) t69_73 w29 li60 (by omega) ?_
      refine zs_iload_n (pc := 76) t69_76 rfl ?_
      refine zs_iload_n (pc := 77) t69_77 rfl ?_
      by_cases w43 : w39v.toInt ≤ w13v.toInt
      · refine zs_icmp_geT (pc := 78) t69_78 rfl rfl (by omega) ?_
        refine zs_iconst (pc := 85) t69_85 (v := 0) (by decide) ?_
        refine zs_goto (pc := 86) t69_86 ?_
        have w44 := zrg (zI w39M 161 5)
        have w45 : (zI w39M 161 5).toInt = (zI w39M 161 5).toInt := (congrArg Int32.toInt rfl).trans rfl
        have w46 := ib161_3 w39I
        have w47 : (zI w39M 161 3).toInt = (zI w39M 161 3).toInt := (congrArg Int32.toInt rfl).trans rfl
        have w48 := ib161_4 w39I
        have w49 : (zI w39M 161 4).toInt = (zI w39M 161 4).toInt := (congrArg Int32.toInt rfl).trans rfl
        exact zs_iret (pc := 99) t69_99 mr69 (by decide) (hQ _ _ w39s w39I ((((zFr.refl).trans (w13F.mono rfl)).put rfl).trans (w39F.mono rfl)) (fun p t hp ht => by obtain rfl : w9n = p := (by omega); subst ht; exact (by rw [pCm.y w16e (by unfold zcq; omega)]; exact w39z)) (by decide) (by decide))
      · refine zs_icmp_geF (pc := 78) t69_78 rfl rfl (by omega) ?_
        refine zs_iconst (pc := 81) t69_81 (v := 1) (by decide) ?_
        refine zs_goto (pc := 82) t69_82 ?_
        have w50 := zrg (zI w39M 161 5)
        have w51 : (zI w39M 161 5).toInt = (zI w39M 161 5).toInt := (congrArg Int32.toInt rfl).trans rfl
        have w52 := ib161_3 w39I
        have w53 : (zI w39M 161 3).toInt = (zI w39M 161 3).toInt := (congrArg Int32.toInt rfl).trans rfl
        have w54 := ib161_4 w39I
        have w55 : (zI w39M 161 4).toInt = (zI w39M 161 4).toInt := (congrArg Int32.toInt rfl).trans rfl
        exact zs_iret (pc := 99) t69_99 mr69 (by decide) (hQ _ _ w39s w39I ((((zFr.refl).trans (w13F.mono rfl)).put rfl).trans (w39F.mono rfl)) (fun p t hp ht => by obtain rfl : w9n = p := (by omega); subst ht; exact (by rw [pCm.y w16e (by unfold zcq; omega)]; exact w39z)) (by decide) (by decide))
    · refine zs_icmp_eqF (pc := 13) t69_13 w29 li60 (by omega) ?_
      refine zs_iload_n (pc := 16) t69_16 rfl ?_
      refine zs_bipush (pc := 17) t69_17 (v := 62) (by decide) ?_
      by_cases w56 : (g w16p) = 62
      · refine zs_icmp_eqT (pc := 19) t69_19 w29 li62 (by omega) ?_
        refine zs_aload_n (pc := 38) t69_38 rfl ?_
        refine zs_dup (pc := 39) t69_39 rfl ?_
        refine zs_get (pc := 40) t69_40 (by decide) (zk1 (w13s.k fk_zMc_161)) (zfvi rfl rfl) ?_
        refine zs_iconst (pc := 43) t69_43 (v := 1) (by decide) ?_
        obtain ⟨w57v, w57e, w57⟩ := ziadd (a := (zI w13M 161 3)) (b := (1 : Int32)) rfl li1 (by omega) (by omega)
        refine zs_iadd (pc := 44) t69_44 (c := w57v) w57e ?_
        have w58 : zIv cLo cHi (zsI w13M 161 3 w57v) := zIv.put w13I (show 0 ≤ w57v.toInt ∧ w57v.toInt ≤ 500 from ⟨by omega, by omega⟩)
        refine zs_putI (pc := 45) t69_45 (zk1 (w13s.k fk_zMc_161)) rfl ?_
        refine zs_aload_n (pc := 48) t69_48 rfl ?_
        have w59 : (zI (zsI w13M 161 3 w57v) 161 5).toInt = (zI w13M 161 5).toInt := (congrArg Int32.toInt ((zIoj (by decide)).trans rfl)).trans rfl
        have w60 : (zI (zsI w13M 161 3 w57v) 161 3).toInt = ((zI w13M 161 3).toInt + 1) := (congrArg Int32.toInt zIs).trans w57
        have w61 : (zI (zsI w13M 161 3 w57v) 161 2).toInt = (zI M 161 2).toInt := (congrArg Int32.toInt ((zIoj (by decide)).trans ((w13F 161 2 rfl).trans rfl))).trans rfl
        refine zs_invV (pc := 49) (k := 161) (as' := []) (st := []) t69_49 mf70 rfl rfl (Or.inl ⟨by decide, (zk1 (w13s.k fk_zMc_161))⟩) ⟨by decide, by decide, Nat.le_of_ble_eq_true rfl, Nat.le_of_ble_eq_true rfl⟩ (X70_161 w13s w58 (by omega) (by omega) (zTr.mk x0 ((x0.1.F w13F rfl).put (by decide)) (fun j => ((zIo (by decide)).trans (w13F 163 j rfl))) ((zIoj (by decide)).trans (w13F 161 2 rfl))) ?_) (fun _ _ q => q)
        intro w62M w62v w62s w62I w62F w62x0
        have w62g := zrg w62v
        have w63 : (zI (zsI w13M 161 3 w57v) 161 3).toInt = ((zI w13M 161 3).toInt + 1) := (congrArg Int32.toInt zIs).trans w57
        have w64 := ib161_4 w13I
        have w65 : (zI (zsI w13M 161 3 w57v) 161 4).toInt = (zI w13M 161 4).toInt := (congrArg Int32.toInt ((zIoj (by decide)).trans rfl)).trans rfl
        have w62z := w62x0 (w16p + 1) (zI w13M 161 4).toInt (by omega) (by omega)
        show zGo X l 6 0 0 69 52 [(2, .int (zpk w13M)), (1, .int w13v), (0, .ref 161)] [.int w62v] w62M _
        refine zs_istore_n (pc := 52) t69_52 (ls' := [(3, .int w62v), (2, .int (zpk w13M)), (1, .int w13v), (0, .ref 161)]) (zml mf69 (by decide)) rfl ?_
        refine zs_iload_n (pc := 53) t69_53 rfl ?_
        refine zs_bipush (pc := 54) t69_54 (v := 61) (by decide) ?_
        refine zs_icmp_neT (pc := 56) t69_56 w29 li61 (by omega) ?_
        refine zs_iload_n (pc := 70) t69_70 rfl ?_
        refine zs_bipush (pc := 71) t69_71 (v := 60) (by decide) ?_
        refine zs_icmp_neT (pc := 73) t69_73 w29 li60 (by omega) ?_
        refine zs_iload_n (pc := 89) t69_89 rfl ?_
        refine zs_iload_n (pc := 90) t69_90 rfl ?_
        by_cases w66 : w13v.toInt ≤ w62v.toInt
        · refine zs_icmp_leT (pc := 91) t69_91 rfl rfl (by omega) ?_
          refine zs_iconst (pc := 98) t69_98 (v := 0) (by decide) ?_
          have w67 := zrg (zI w62M 161 5)
          have w68 : (zI w62M 161 5).toInt = (zI w62M 161 5).toInt := (congrArg Int32.toInt rfl).trans rfl
          have w69 := ib161_3 w62I
          have w70 : (zI w62M 161 3).toInt = (zI w62M 161 3).toInt := (congrArg Int32.toInt rfl).trans rfl
          have w71 := ib161_4 w62I
          have w72 : (zI w62M 161 4).toInt = (zI w62M 161 4).toInt := (congrArg Int32.toInt rfl).trans rfl
          exact zs_iret (pc := 99) t69_99 mr69 (by decide) (hQ _ _ w62s w62I ((((zFr.refl).trans (w13F.mono rfl)).put rfl).trans (w62F.mono rfl)) (fun p t hp ht => by obtain rfl : w9n = p := (by omega); subst ht; exact (by rw [pCm.y w16e (by unfold zcq; omega)]; exact w62z)) (by decide) (by decide))
        · refine zs_icmp_leF (pc := 91) t69_91 rfl rfl (by omega) ?_
          refine zs_iconst (pc := 94) t69_94 (v := 1) (by decide) ?_
          refine zs_goto (pc := 95) t69_95 ?_
          have w73 := zrg (zI w62M 161 5)
          have w74 : (zI w62M 161 5).toInt = (zI w62M 161 5).toInt := (congrArg Int32.toInt rfl).trans rfl
          have w75 := ib161_3 w62I
          have w76 : (zI w62M 161 3).toInt = (zI w62M 161 3).toInt := (congrArg Int32.toInt rfl).trans rfl
          have w77 := ib161_4 w62I
          have w78 : (zI w62M 161 4).toInt = (zI w62M 161 4).toInt := (congrArg Int32.toInt rfl).trans rfl
          exact zs_iret (pc := 99) t69_99 mr69 (by decide) (hQ _ _ w62s w62I ((((zFr.refl).trans (w13F.mono rfl)).put rfl).trans (w62F.mono rfl)) (fun p t hp ht => by obtain rfl : w9n = p := (by omega); subst ht; exact (by rw [pCm.y w16e (by unfold zcq; omega)]; exact w62z)) (by decide) (by decide))
      · refine zs_icmp_eqF (pc := 19) t69_19 w29 li62 (by omega) ?_
        refine zs_iload_n (pc := 22) t69_22 rfl ?_
        refine zs_bipush (pc := 23) t69_23 (v := 61) (by decide) ?_
        by_cases w79 : (g w16p) = 61
        · refine zs_icmp_eqT (pc := 25) t69_25 w29 li61 (by omega) ?_
          refine zs_aload_n (pc := 38) t69_38 rfl ?_
          refine zs_dup (pc := 39) t69_39 rfl ?_
          refine zs_get (pc := 40) t69_40 (by decide) (zk1 (w13s.k fk_zMc_161)) (zfvi rfl rfl) ?_
          refine zs_iconst (pc := 43) t69_43 (v := 1) (by decide) ?_
          obtain ⟨w80v, w80e, w80⟩ := ziadd (a := (zI w13M 161 3)) (b := (1 : Int32)) rfl li1 (by omega) (by omega)
          refine zs_iadd (pc := 44) t69_44 (c := w80v) w80e ?_
          have w81 : zIv cLo cHi (zsI w13M 161 3 w80v) := zIv.put w13I (show 0 ≤ w80v.toInt ∧ w80v.toInt ≤ 500 from ⟨by omega, by omega⟩)
          refine zs_putI (pc := 45) t69_45 (zk1 (w13s.k fk_zMc_161)) rfl ?_
          refine zs_aload_n (pc := 48) t69_48 rfl ?_
          have w82 : (zI (zsI w13M 161 3 w80v) 161 5).toInt = (zI w13M 161 5).toInt := (congrArg Int32.toInt ((zIoj (by decide)).trans rfl)).trans rfl
          have w83 : (zI (zsI w13M 161 3 w80v) 161 3).toInt = ((zI w13M 161 3).toInt + 1) := (congrArg Int32.toInt zIs).trans w80
          have w84 : (zI (zsI w13M 161 3 w80v) 161 2).toInt = (zI M 161 2).toInt := (congrArg Int32.toInt ((zIoj (by decide)).trans ((w13F 161 2 rfl).trans rfl))).trans rfl
          refine zs_invV (pc := 49) (k := 161) (as' := []) (st := []) t69_49 mf70 rfl rfl (Or.inl ⟨by decide, (zk1 (w13s.k fk_zMc_161))⟩) ⟨by decide, by decide, Nat.le_of_ble_eq_true rfl, Nat.le_of_ble_eq_true rfl⟩ (X70_161 w13s w81 (by omega) (by omega) (zTr.mk x0 ((x0.1.F w13F rfl).put (by decide)) (fun j => ((zIo (by decide)).trans (w13F 163 j rfl))) ((zIoj (by decide)).trans (w13F 161 2 rfl))) ?_) (fun _ _ q => q)
          intro w85M w85v w85s w85I w85F w85x0
          have w85g := zrg w85v
          have w86 : (zI (zsI w13M 161 3 w80v) 161 3).toInt = ((zI w13M 161 3).toInt + 1) := (congrArg Int32.toInt zIs).trans w80
          have w87 := ib161_4 w13I
          have w88 : (zI (zsI w13M 161 3 w80v) 161 4).toInt = (zI w13M 161 4).toInt := (congrArg Int32.toInt ((zIoj (by decide)).trans rfl)).trans rfl
          have w85z := w85x0 (w16p + 1) (zI w13M 161 4).toInt (by omega) (by omega)
          show zGo X l 6 0 0 69 52 [(2, .int (zpk w13M)), (1, .int w13v), (0, .ref 161)] [.int w85v] w85M _
          refine zs_istore_n (pc := 52) t69_52 (ls' := [(3, .int w85v), (2, .int (zpk w13M)), (1, .int w13v), (0, .ref 161)]) (zml mf69 (by decide)) rfl ?_
          refine zs_iload_n (pc := 53) t69_53 rfl ?_
          refine zs_bipush (pc := 54) t69_54 (v := 61) (by decide) ?_
          refine zs_icmp_neF (pc := 56) t69_56 w29 li61 (by omega) ?_
          refine zs_iload_n (pc := 59) t69_59 rfl ?_
          refine zs_iload_n (pc := 60) t69_60 rfl ?_
          by_cases w89 : w13v.toInt ≠ w85v.toInt
          · refine zs_icmp_neT (pc := 61) t69_61 rfl rfl (by omega) ?_
            refine zs_iconst (pc := 68) t69_68 (v := 0) (by decide) ?_
            have w90 := zrg (zI w85M 161 5)
            have w91 : (zI w85M 161 5).toInt = (zI w85M 161 5).toInt := (congrArg Int32.toInt rfl).trans rfl
            have w92 := ib161_3 w85I
            have w93 : (zI w85M 161 3).toInt = (zI w85M 161 3).toInt := (congrArg Int32.toInt rfl).trans rfl
            have w94 := ib161_4 w85I
            have w95 : (zI w85M 161 4).toInt = (zI w85M 161 4).toInt := (congrArg Int32.toInt rfl).trans rfl
            exact zs_iret (pc := 69) t69_69 mr69 (by decide) (hQ _ _ w85s w85I ((((zFr.refl).trans (w13F.mono rfl)).put rfl).trans (w85F.mono rfl)) (fun p t hp ht => by obtain rfl : w9n = p := (by omega); subst ht; exact (by rw [pCm.y w16e (by unfold zcq; omega)]; exact w85z)) (by decide) (by decide))
          · refine zs_icmp_neF (pc := 61) t69_61 rfl rfl (by omega) ?_
            refine zs_iconst (pc := 64) t69_64 (v := 1) (by decide) ?_
            refine zs_goto (pc := 65) t69_65 ?_
            have w96 := zrg (zI w85M 161 5)
            have w97 : (zI w85M 161 5).toInt = (zI w85M 161 5).toInt := (congrArg Int32.toInt rfl).trans rfl
            have w98 := ib161_3 w85I
            have w99 : (zI w85M 161 3).toInt = (zI w85M 161 3).toInt := (congrArg Int32.toInt rfl).trans rfl
            have w100 := ib161_4 w85I
            have w101 : (zI w85M 161 4).toInt = (zI w85M 161 4).toInt := (congrArg Int32.toInt rfl).trans rfl
            exact zs_iret (pc := 69) t69_69 mr69 (by decide) (hQ _ _ w85s w85I ((((zFr.refl).trans (w13F.mono rfl)).put rfl).trans (w85F.mono rfl)) (fun p t hp ht => by obtain rfl : w9n = p := (by omega); subst ht; exact (by rw [pCm.y w16e (by unfold zcq; omega)]; exact w85z)) (by decide) (by decide))
        · refine zs_icmp_eqF (pc := 25) t69_25 w29 li61 (by omega) ?_
          refine zs_aload_n (pc := 28) t69_28 rfl ?_
          refine zs_aload_n (pc := 29) t69_29 rfl ?_
          refine zs_get (pc := 30) t69_30 (by decide) (zk1 (w13s.k fk_zMc_161)) (zfvi rfl rfl) ?_
          refine zs_invV (pc := 33) (k := 161) (as' := [.int (zI w13M 161 3)]) (st := []) t69_33 mf78 rfl rfl (Or.inl ⟨by decide, (zk1 (w13s.k fk_zMc_161))⟩) ⟨by decide, by decide, Nat.le_of_ble_eq_true rfl, Nat.le_of_ble_eq_true rfl⟩ (zs_in (by decide) mf78 (Nat.le_of_ble_eq_true rfl) ?_) (fun _ _ q => q)
          show zGo X l 0 0 0 78 0 [(0, .ref 161), (1, .int (zI w13M 161 3))] [] w13M _
          refine zs_aload_n (pc := 0) t78_0 rfl ?_
          refine zs_get (pc := 1) t78_1 (by decide) (zk1 (w13s.k fk_zMc_161)) (zfvi rfl rfl) ?_
          refine zs_iconst (pc := 4) t78_4 (v := -1) (by decide) ?_
          refine zs_icmp_neF (pc := 5) t78_5 rfl lin1 (by omega) ?_
          refine zs_aload_n (pc := 8) t78_8 rfl ?_
          refine zs_iload_n (pc := 9) t78_9 rfl ?_
          have w102 : zIv cLo cHi (zsI w13M 161 5 (zI w13M 161 3)) := zIv.put w13I (show (-2147483648) ≤ (zI w13M 161 3).toInt ∧ (zI w13M 161 3).toInt ≤ 2147483647 from zrg (zI w13M 161 3))
          refine zs_putI (pc := 10) t78_10 (zk1 (w13s.k fk_zMc_161)) rfl ?_
          refine zs_vret (pc := 13) t78_13 mr78 ?_
          show zGo X l 6 0 0 69 36 [(2, .int (zpk w13M)), (1, .int w13v), (0, .ref 161)] [] (zsI w13M 161 5 (zI w13M 161 3)) _
          refine zs_iconst (pc := 36) t69_36 (v := 0) (by decide) ?_
          have w103 : (zI (zsI w13M 161 5 (zI w13M 161 3)) 161 5).toInt = (zI w13M 161 3).toInt := (congrArg Int32.toInt zIs).trans rfl
          have w104 : (zI (zsI w13M 161 5 (zI w13M 161 3)) 161 3).toInt = (zI w13M 161 3).toInt := (congrArg Int32.toInt ((zIoj (by decide)).trans rfl)).trans rfl
          have w105 := ib161_4 w13I
          have w106 : (zI (zsI w13M 161 5 (zI w13M 161 3)) 161 4).toInt = (zI w13M 161 4).toInt := (congrArg Int32.toInt ((zIoj (by decide)).trans rfl)).trans rfl
          exact zs_iret (pc := 37) t69_37 mr69 (by decide) (hQ _ _ w13s w102 (((zFr.refl).trans (w13F.mono rfl)).put rfl) (fun p t hp ht => by obtain rfl : w9n = p := (by omega); subst ht; exact Or.inl ⟨_, by omega, by omega, pCm.n w16e (by unfold zcq; omega)⟩) (by decide) (by decide))
def zR (X : zX) (l : Launch) (y K : Nat) (lo : Int) (HS : List Int → Prop) (E : Int → Prop) : Prop := ∀ (d : Nat) (Q : Option Value → zM → Prop) (M : zM) (a : Int32) (g : Nat → Int) (n : Int) (S : List Int) (p : Nat) (t : Int), K ≤ d → zSk zMc M → zIv cLo cHi M → zTr M g n → lo ≤ a.toInt → a.toInt ≤ 6 → (S.length : Int) = a.toInt → HS S → (zI M 161 5).toInt = -1 → (zI M 161 3).toInt = (p : Int) → (zI M 161 4).toInt = t → (p : Int) ≤ n → (∀ (M' : zM) (v : Int32), zSk zMc M' → zIv cLo cHi M' → zFr [(161, 161, some 3), (161, 161, some 4), (161, 161, some 5)] M M' → 0 ≤ v.toInt → v.toInt ≤ 1 → zo M' n g (true, S, p, t) S t E → Q (some (.int v)) M') → zCall X l d 0 0 y [.ref 161, .int a] M Q
theorem zR.le {X : zX} {l : Launch} {y K K' : Nat} {lo : Int} {HS : List Int → Prop} {E : Int → Prop} (h : zR X l y K lo HS E) (hk : K ≤ K') : zR X l y K' lo HS E := fun d Q M a g n S p t hd => h d Q M a g n S p t (Nat.le_trans hk hd)
theorem zR.no {X : zX} {l : Launch} {y K : Nat} {HS : List Int → Prop} {E : Int → Prop} : zR X l y K 7 HS E := fun _ _ _ _ _ _ _ _ _ _ _ _ _ h1 h2 => absurd h2 (by omega)
theorem RB2 {X : zX} {l : Launch} {K : Nat} {lo : Int} (hK : 8 ≤ K) (hT : zR X l 67 K lo zH0 zE0) : zR X l 66 (K + 1) lo zH1 zE1 := by
  intro d Q M a g n S p t hd hs hI x0 ha ha6 hS hH hf hp ht hpn hQ
  subst ht
  have ga := zrg a
  have hn := x0.2.2
  refine zs_inD (by decide) mf66 (Nat.le_of_ble_eq_true rfl) ?_
  show zGo X l d 0 0 66 0 [(0, .ref 161), (1, .int a)] [] M _
  have w1 := ib161_2 hI
  have w2 : (zI M 161 2).toInt = (zI M 161 2).toInt := (congrArg Int32.toInt rfl).trans rfl
  have w3 := ib161_3 hI
  have w4 : (zI M 161 3).toInt = (zI M 161 3).toInt := (congrArg Int32.toInt rfl).trans rfl
  have w5 := ib161_4 hI
  have w6 : (zI M 161 4).toInt = (zI M 161 4).toInt := (congrArg Int32.toInt rfl).trans rfl
  have w7 := zrg (zI M 161 5)
  have w8 : (zI M 161 5).toInt = (zI M 161 5).toInt := (congrArg Int32.toInt rfl).trans rfl
  refine zs_aload_n (pc := 0) t66_0 rfl ?_
  refine zs_iload_n (pc := 1) t66_1 rfl ?_
  have w9 : (zI M 161 3).toInt = (zI M 161 3).toInt := (congrArg Int32.toInt rfl).trans rfl
  have w10 : (zI M 161 4).toInt = (zI M 161 4).toInt := (congrArg Int32.toInt rfl).trans rfl
  have w11 : (zI M 161 5).toInt = (zI M 161 5).toInt := (congrArg Int32.toInt rfl).trans rfl
  refine zs_invV9 (pc := 2) (k := 161) (as' := [.int a]) (st := []) t66_2 mf67 rfl rfl (Or.inl ⟨by decide, (zk1 (hs.k fk_zMc_161))⟩) ⟨by omega, Nat.le_of_ble_eq_true rfl, Nat.le_of_ble_eq_true rfl⟩ (hT _ _ _ _ g n S p (zI M 161 4).toInt (by omega) hs hI x0 (by omega) (by omega) (by omega) trivial (by omega) (by omega) (by omega) (by omega) ?_) (fun _ _ q => q)
  intro w12M w12v w12s w12I w12F w12a w12b w12z
  show zGo X l d 0 0 66 5 [(0, .ref 161), (1, .int a)] [.int w12v] w12M _
  refine zs_istore_n (pc := 5) t66_5 (ls' := [(2, .int w12v), (0, .ref 161), (1, .int a)]) (zml mf66 (by decide)) rfl ?_
  refine zs_iconst (pc := 6) t66_6 (v := 0) (by decide) ?_
  refine zs_istore_n (pc := 7) t66_7 (ls' := [(3, .int (0 : Int32)), (2, .int w12v), (0, .ref 161), (1, .int a)]) (zml mf66 (by decide)) rfl ?_
  have w13L : ∀ (m : Nat) (w13x2 : Int32) (w13x3 : Int32) (w13M : zM), (0 ≤ w13x2.toInt ∧ w13x2.toInt ≤ 1) → (0 ≤ w13x3.toInt ∧ w13x3.toInt ≤ 30) → zSk zMc w13M → zIv cLo cHi w13M → zFr [(161, 161, some 3), (161, 161, some 4), (161, 161, some 5)] w12M w13M → (zlp w13M n w13x3.toInt g (true, S, p, (zI M 161 4).toInt) S (zI M 161 4).toInt zE0) → 30 - w13x3.toInt ≤ (m : Int) → zGo X l d 0 0 66 8 [(0, .ref 161), (1, .int a), (2, .int w13x2), (3, .int w13x3)] [] w13M Q := by
    intro m
    induction m using Nat.strongRecOn with
    | ind w13m w13ih =>
      intro w13x2 w13x3 w13M w13b2 w13b3 w13s w13I w13F w13t0 w13q
      refine zs_iload_n (pc := 8) t66_8 rfl ?_
      refine zs_bipush (pc := 9) t66_9 (v := 30) (by decide) ?_
      by_cases w14 : 30 ≤ w13x3.toInt
      · refine zs_icmp_geT (pc := 11) t66_11 rfl li30 (by omega) ?_
        refine zs_iload_n (pc := 61) t66_61 rfl ?_
        have w15 := ib161_3 w13I
        have w16 : (zI w13M 161 3).toInt = (zI w13M 161 3).toInt := (congrArg Int32.toInt rfl).trans rfl
        have w17 := ib161_4 w13I
        have w18 : (zI w13M 161 4).toInt = (zI w13M 161 4).toInt := (congrArg Int32.toInt rfl).trans rfl
        have w19 := zrg (zI w13M 161 5)
        have w20 : (zI w13M 161 5).toInt = (zI w13M 161 5).toInt := (congrArg Int32.toInt rfl).trans rfl
        exact zs_iret (pc := 62) t66_62 mr66 (zfb01 (by omega)) (hQ _ _ w13s w13I (((zFr.refl).trans (w12F.mono rfl)).trans (w13F.mono rfl)) (by omega) (by omega) (w13t0.x30 (by omega) (by omega)))
      · refine zs_icmp_geF (pc := 11) t66_11 rfl li30 (by omega) ?_
        refine zs_aload_n (pc := 14) t66_14 rfl ?_
        have w21 := zrg (zI w13M 161 5)
        have w22 : (zI w13M 161 5).toInt = (zI w13M 161 5).toInt := (congrArg Int32.toInt rfl).trans rfl
        by_cases w23 : (zI w13M 161 5).toInt = -1
        · skip
          obtain ⟨w24p, w24t, w24e, w243, w244, w245, w246, w247, w248⟩ := (w13t0.resolve_left (fun q => q.elim (fun e q => q.2.1 (q.1.symm.trans w23)))).2
          subst w244
          have w25 : (zI w13M 161 5).toInt = (zI w13M 161 5).toInt := (congrArg Int32.toInt rfl).trans rfl
          refine zs_invV (pc := 15) (k := 161) (as' := []) (st := []) t66_15 mf68 rfl rfl (Or.inl ⟨by decide, (zk1 (w13s.k fk_zMc_161))⟩) ⟨by decide, by omega, Nat.le_of_ble_eq_true rfl, Nat.le_of_ble_eq_true rfl⟩ (P68 w13s w13I ?_) (fun _ _ q => q)
          have w27 := ib161_3 w13I
          have w28 : (zI w13M 161 3).toInt = (zI w13M 161 3).toInt := (congrArg Int32.toInt rfl).trans rfl
          have w26 : (zpk w13M).toInt = g w24p := zpk.tr (zTr.mk x0 ((x0.1.F w12F rfl).F w13F rfl) (fun j => ((w13F 163 j rfl).trans (w12F 163 j rfl))) ((w13F 161 2 rfl).trans (w12F 161 2 rfl))) (by omega) (by omega)
          have w29 := zTr.rg x0 w24p
          show zGo X l d 0 0 66 18 [(0, .ref 161), (1, .int a), (2, .int w13x2), (3, .int w13x3)] [.int (zpk w13M)] w13M _
          refine zs_bipush (pc := 18) t66_18 (v := 38) (by decide) ?_
          by_cases w30 : (g w24p) ≠ 38
          · refine zs_icmp_neT (pc := 20) t66_20 w26 li38 (by omega) ?_
            refine zs_iload_n (pc := 61) t66_61 rfl ?_
            have w31 : (zI w13M 161 3).toInt = (zI w13M 161 3).toInt := (congrArg Int32.toInt rfl).trans rfl
            have w32 := ib161_4 w13I
            have w33 : (zI w13M 161 4).toInt = (zI w13M 161 4).toInt := (congrArg Int32.toInt rfl).trans rfl
            have w34 : (zI w13M 161 5).toInt = (zI w13M 161 5).toInt := (congrArg Int32.toInt rfl).trans rfl
            exact zs_iret (pc := 62) t66_62 mr66 (zfb01 (by omega)) (hQ _ _ w13s w13I (((zFr.refl).trans (w12F.mono rfl)).trans (w13F.mono rfl)) (by omega) (by omega) (Or.inr ⟨w23, w24p, _, w24e, w243, rfl, w245, w246, (by omega)⟩))
          · refine zs_icmp_neF (pc := 20) t66_20 w26 li38 (by omega) ?_
            refine zs_aload_n (pc := 23) t66_23 rfl ?_
            refine zs_dup (pc := 24) t66_24 rfl ?_
            refine zs_get (pc := 25) t66_25 (by decide) (zk1 (w13s.k fk_zMc_161)) (zfvi rfl rfl) ?_
            refine zs_iconst (pc := 28) t66_28 (v := 1) (by decide) ?_
            obtain ⟨w35v, w35e, w35⟩ := ziadd (a := (zI w13M 161 3)) (b := (1 : Int32)) rfl li1 (by omega) (by omega)
            refine zs_iadd (pc := 29) t66_29 (c := w35v) w35e ?_
            have w36 : zIv cLo cHi (zsI w13M 161 3 w35v) := zIv.put w13I (show 0 ≤ w35v.toInt ∧ w35v.toInt ≤ 500 from ⟨by omega, by omega⟩)
            refine zs_putI (pc := 30) t66_30 (zk1 (w13s.k fk_zMc_161)) rfl ?_
            refine zs_aload_n (pc := 33) t66_33 rfl ?_
            refine zs_iload_n (pc := 34) t66_34 rfl ?_
            have w37 : (zI (zsI w13M 161 3 w35v) 161 3).toInt = ((zI w13M 161 3).toInt + 1) := (congrArg Int32.toInt zIs).trans w35
            have w38 := ib161_4 w13I
            have w39 : (zI (zsI w13M 161 3 w35v) 161 4).toInt = (zI w13M 161 4).toInt := (congrArg Int32.toInt ((zIoj (by decide)).trans rfl)).trans rfl
            have w40 : (zI (zsI w13M 161 3 w35v) 161 5).toInt = (zI w13M 161 5).toInt := (congrArg Int32.toInt ((zIoj (by decide)).trans rfl)).trans rfl
            refine zs_invV9 (pc := 35) (k := 161) (as' := [.int a]) (st := []) t66_35 mf67 rfl rfl (Or.inl ⟨by decide, (zk1 (w13s.k fk_zMc_161))⟩) ⟨by omega, Nat.le_of_ble_eq_true rfl, Nat.le_of_ble_eq_true rfl⟩ (hT _ _ _ _ g n S (w24p + 1) (zI w13M 161 4).toInt (by omega) w13s w36 (zTr.mk x0 (((x0.1.F w12F rfl).F w13F rfl).put (by decide)) (fun j => ((zIo (by decide)).trans ((w13F 163 j rfl).trans (w12F 163 j rfl)))) ((zIoj (by decide)).trans ((w13F 161 2 rfl).trans (w12F 161 2 rfl)))) (by omega) (by omega) (by omega) trivial (by omega) (by omega) (by omega) (by omega) ?_) (fun _ _ q => q)
            intro w41M w41v w41s w41I w41F w41a w41b w41z
            show zGo X l d 0 0 66 38 [(0, .ref 161), (1, .int a), (2, .int w13x2), (3, .int w13x3)] [.int w41v] w41M _
            refine zs_istore (pc := 38) t66_38 (ls' := [(4, .int w41v), (0, .ref 161), (1, .int a), (2, .int w13x2), (3, .int w13x3)]) (zml mf66 (by decide)) rfl ?_
            refine zs_iload_n (pc := 40) t66_40 rfl ?_
            by_cases w42 : w13x2.toInt = 0
            · refine zs_if_eqT (pc := 41) t66_41 rfl (by omega) ?_
              refine zs_iconst (pc := 53) t66_53 (v := 0) (by decide) ?_
              refine zs_istore_n (pc := 54) t66_54 (ls' := [(2, .int (0 : Int32)), (4, .int w41v), (0, .ref 161), (1, .int a), (3, .int w13x3)]) (zml mf66 (by decide)) rfl ?_
              obtain ⟨w43v, w43e, w43⟩ := ziadd (a := w13x3) (b := Int32.ofInt 1) rfl (show (Int32.ofInt 1).toInt = 1 by decide) (by omega) (by omega)
              refine zs_iinc (pc := 55) t66_55 (ls' := [(3, .int w43v), (2, .int (0 : Int32)), (4, .int w41v), (0, .ref 161), (1, .int a)]) (zml mf66 (by decide)) rfl (c := w43v) w43e rfl ?_
              refine zs_goto (pc := 58) t66_58 ?_
              refine zGo.locals (ls' := [(0, .ref 161), (1, .int a), (2, .int (0 : Int32)), (3, .int w43v)]) (by simp) ?_
              have w44 := li0
              have w45 := w43
              exact w13ih (w13m - 1) (by omega) (0 : Int32) w43v w41M ⟨by decide, by decide⟩ ⟨by omega, by omega⟩ w41s w41I ((((zFr.refl).trans (w13F.mono rfl)).put rfl).trans (w41F.mono rfl)) (zlp.stp w24e hH (Or.inl (by omega)) w246 w247 w41z (by omega)) (by omega)
            · refine zs_if_eqF (pc := 41) t66_41 rfl (by omega) ?_
              refine zs_iload (pc := 44) t66_44 rfl ?_
              by_cases w46 : w41v.toInt = 0
              · refine zs_if_eqT (pc := 46) t66_46 rfl (by omega) ?_
                refine zs_iconst (pc := 53) t66_53 (v := 0) (by decide) ?_
                refine zs_istore_n (pc := 54) t66_54 (ls' := [(2, .int (0 : Int32)), (4, .int w41v), (0, .ref 161), (1, .int a), (3, .int w13x3)]) (zml mf66 (by decide)) rfl ?_
                obtain ⟨w47v, w47e, w47⟩ := ziadd (a := w13x3) (b := Int32.ofInt 1) rfl (show (Int32.ofInt 1).toInt = 1 by decide) (by omega) (by omega)
                refine zs_iinc (pc := 55) t66_55 (ls' := [(3, .int w47v), (2, .int (0 : Int32)), (4, .int w41v), (0, .ref 161), (1, .int a)]) (zml mf66 (by decide)) rfl (c := w47v) w47e rfl ?_
                refine zs_goto (pc := 58) t66_58 ?_
                refine zGo.locals (ls' := [(0, .ref 161), (1, .int a), (2, .int (0 : Int32)), (3, .int w47v)]) (by simp) ?_
                have w48 := li0
                have w49 := w47
                exact w13ih (w13m - 1) (by omega) (0 : Int32) w47v w41M ⟨by decide, by decide⟩ ⟨by omega, by omega⟩ w41s w41I ((((zFr.refl).trans (w13F.mono rfl)).put rfl).trans (w41F.mono rfl)) (zlp.stp w24e hH (Or.inl (by omega)) w246 w247 w41z (by omega)) (by omega)
              · refine zs_if_eqF (pc := 46) t66_46 rfl (by omega) ?_
                refine zs_iconst (pc := 49) t66_49 (v := 1) (by decide) ?_
                refine zs_goto (pc := 50) t66_50 ?_
                refine zs_istore_n (pc := 54) t66_54 (ls' := [(2, .int (1 : Int32)), (4, .int w41v), (0, .ref 161), (1, .int a), (3, .int w13x3)]) (zml mf66 (by decide)) rfl ?_
                obtain ⟨w50v, w50e, w50⟩ := ziadd (a := w13x3) (b := Int32.ofInt 1) rfl (show (Int32.ofInt 1).toInt = 1 by decide) (by omega) (by omega)
                refine zs_iinc (pc := 55) t66_55 (ls' := [(3, .int w50v), (2, .int (1 : Int32)), (4, .int w41v), (0, .ref 161), (1, .int a)]) (zml mf66 (by decide)) rfl (c := w50v) w50e rfl ?_
                refine zs_goto (pc := 58) t66_58 ?_
                refine zGo.locals (ls' := [(0, .ref 161), (1, .int a), (2, .int (1 : Int32)), (3, .int w50v)]) (by simp) ?_
                have w51 := li1
                have w52 := w50
                exact w13ih (w13m - 1) (by omega) (1 : Int32) w50v w41M ⟨by decide, by decide⟩ ⟨by omega, by omega⟩ w41s w41I ((((zFr.refl).trans (w13F.mono rfl)).put rfl).trans (w41F.mono rfl)) (zlp.stp w24e hH (Or.inl (by omega)) w246 w247 w41z (by omega)) (by omega)
        · skip
          have w53 : (zI w13M 161 5).toInt = (zI w13M 161 5).toInt := (congrArg Int32.toInt rfl).trans rfl
          refine zs_invV (pc := 15) (k := 161) (as' := []) (st := []) t66_15 mf68 rfl rfl (Or.inl ⟨by decide, (zk1 (w13s.k fk_zMc_161))⟩) ⟨by decide, by omega, Nat.le_of_ble_eq_true rfl, Nat.le_of_ble_eq_true rfl⟩ (P68 w13s w13I ?_) (fun _ _ q => q)
          have w54 : (zpk w13M).toInt = -1 := zpk.no (by omega)
          show zGo X l d 0 0 66 18 [(0, .ref 161), (1, .int a), (2, .int w13x2), (3, .int w13x3)] [.int (zpk w13M)] w13M _
          refine zs_bipush (pc := 18) t66_18 (v := 38) (by decide) ?_
          refine zs_icmp_neT (pc := 20) t66_20 w54 li38 (by decide) ?_
          refine zs_iload_n (pc := 61) t66_61 rfl ?_
          have w55 := ib161_3 w13I
          have w56 : (zI w13M 161 3).toInt = (zI w13M 161 3).toInt := (congrArg Int32.toInt rfl).trans rfl
          have w57 := ib161_4 w13I
          have w58 : (zI w13M 161 4).toInt = (zI w13M 161 4).toInt := (congrArg Int32.toInt rfl).trans rfl
          have w59 : (zI w13M 161 5).toInt = (zI w13M 161 5).toInt := (congrArg Int32.toInt rfl).trans rfl
          exact zs_iret (pc := 62) t66_62 mr66 (zfb01 (by omega)) (hQ _ _ w13s w13I (((zFr.refl).trans (w12F.mono rfl)).trans (w13F.mono rfl)) (by omega) (by omega) (w13t0.xf w23))
  refine zGo.locals (ls' := [(0, .ref 161), (1, .int a), (2, .int w12v), (3, .int (0 : Int32))]) (by simp) ?_
  have w60 := li0
  exact w13L ((30 - 0 : Int).toNat) w12v (0 : Int32) w12M ⟨by omega, by omega⟩ ⟨by decide, by decide⟩ w12s w12I zFr.refl (w12z.lp (by omega)) (by omega)
theorem RC2 {X : zX} {l : Launch} {K : Nat} {lo : Int} (hK : 8 ≤ K) (hB : zR X l 66 K lo zH1 zE1) : zR X l 65 (K + 1) lo zH1 zE2 := by
  intro d Q M a g n S p t hd hs hI x0 ha ha6 hS hH hf hp ht hpn hQ
  subst ht
  have ga := zrg a
  have hn := x0.2.2
  refine zs_inD (by decide) mf65 (Nat.le_of_ble_eq_true rfl) ?_
  show zGo X l d 0 0 65 0 [(0, .ref 161), (1, .int a)] [] M _
  have w1 := ib161_2 hI
  have w2 : (zI M 161 2).toInt = (zI M 161 2).toInt := (congrArg Int32.toInt rfl).trans rfl
  have w3 := ib161_3 hI
  have w4 : (zI M 161 3).toInt = (zI M 161 3).toInt := (congrArg Int32.toInt rfl).trans rfl
  have w5 := ib161_4 hI
  have w6 : (zI M 161 4).toInt = (zI M 161 4).toInt := (congrArg Int32.toInt rfl).trans rfl
  have w7 := zrg (zI M 161 5)
  have w8 : (zI M 161 5).toInt = (zI M 161 5).toInt := (congrArg Int32.toInt rfl).trans rfl
  refine zs_aload_n (pc := 0) t65_0 rfl ?_
  refine zs_iload_n (pc := 1) t65_1 rfl ?_
  have w9 : (zI M 161 3).toInt = (zI M 161 3).toInt := (congrArg Int32.toInt rfl).trans rfl
  have w10 : (zI M 161 4).toInt = (zI M 161 4).toInt := (congrArg Int32.toInt rfl).trans rfl
  have w11 : (zI M 161 5).toInt = (zI M 161 5).toInt := (congrArg Int32.toInt rfl).trans rfl
  refine zs_invV9 (pc := 2) (k := 161) (as' := [.int a]) (st := []) t65_2 mf66 rfl rfl (Or.inl ⟨by decide, (zk1 (hs.k fk_zMc_161))⟩) ⟨by omega, Nat.le_of_ble_eq_true rfl, Nat.le_of_ble_eq_true rfl⟩ (hB _ _ _ _ g n S p (zI M 161 4).toInt (by omega) hs hI x0 (by omega) (by omega) (by omega) hH (by omega) (by omega) (by omega) (by omega) ?_) (fun _ _ q => q)
  intro w12M w12v w12s w12I w12F w12a w12b w12z
  show zGo X l d 0 0 65 5 [(0, .ref 161), (1, .int a)] [.int w12v] w12M _
  refine zs_istore_n (pc := 5) t65_5 (ls' := [(2, .int w12v), (0, .ref 161), (1, .int a)]) (zml mf65 (by decide)) rfl ?_
  refine zs_iconst (pc := 6) t65_6 (v := 0) (by decide) ?_
  refine zs_istore_n (pc := 7) t65_7 (ls' := [(3, .int (0 : Int32)), (2, .int w12v), (0, .ref 161), (1, .int a)]) (zml mf65 (by decide)) rfl ?_
  have w13L : ∀ (m : Nat) (w13x2 : Int32) (w13x3 : Int32) (w13M : zM), (0 ≤ w13x2.toInt ∧ w13x2.toInt ≤ 1) → (0 ≤ w13x3.toInt ∧ w13x3.toInt ≤ 30) → zSk zMc w13M → zIv cLo cHi w13M → zFr [(161, 161, some 3), (161, 161, some 4), (161, 161, some 5)] w12M w13M → (zlp w13M n w13x3.toInt g (true, S, p, (zI M 161 4).toInt) S (zI M 161 4).toInt zE1) → 30 - w13x3.toInt ≤ (m : Int) → zGo X l d 0 0 65 8 [(0, .ref 161), (1, .int a), (2, .int w13x2), (3, .int w13x3)] [] w13M Q := by
    intro m
    induction m using Nat.strongRecOn with
    | ind w13m w13ih =>
      intro w13x2 w13x3 w13M w13b2 w13b3 w13s w13I w13F w13t0 w13q
      refine zs_iload_n (pc := 8) t65_8 rfl ?_
      refine zs_bipush (pc := 9) t65_9 (v := 30) (by decide) ?_
      by_cases w14 : 30 ≤ w13x3.toInt
      · refine zs_icmp_geT (pc := 11) t65_11 rfl li30 (by omega) ?_
        refine zs_iload_n (pc := 61) t65_61 rfl ?_
        have w15 := ib161_3 w13I
        have w16 : (zI w13M 161 3).toInt = (zI w13M 161 3).toInt := (congrArg Int32.toInt rfl).trans rfl
        have w17 := ib161_4 w13I
        have w18 : (zI w13M 161 4).toInt = (zI w13M 161 4).toInt := (congrArg Int32.toInt rfl).trans rfl
        have w19 := zrg (zI w13M 161 5)
        have w20 : (zI w13M 161 5).toInt = (zI w13M 161 5).toInt := (congrArg Int32.toInt rfl).trans rfl
        exact zs_iret (pc := 62) t65_62 mr65 (zfb01 (by omega)) (hQ _ _ w13s w13I (((zFr.refl).trans (w12F.mono rfl)).trans (w13F.mono rfl)) (by omega) (by omega) (w13t0.x30 (by omega) (by omega)))
      · refine zs_icmp_geF (pc := 11) t65_11 rfl li30 (by omega) ?_
        refine zs_aload_n (pc := 14) t65_14 rfl ?_
        have w21 := zrg (zI w13M 161 5)
        have w22 : (zI w13M 161 5).toInt = (zI w13M 161 5).toInt := (congrArg Int32.toInt rfl).trans rfl
        by_cases w23 : (zI w13M 161 5).toInt = -1
        · skip
          obtain ⟨w24p, w24t, w24e, w243, w244, w245, w246, w247, w248⟩ := (w13t0.resolve_left (fun q => q.elim (fun e q => q.2.1 (q.1.symm.trans w23)))).2
          subst w244
          have w25 : (zI w13M 161 5).toInt = (zI w13M 161 5).toInt := (congrArg Int32.toInt rfl).trans rfl
          refine zs_invV (pc := 15) (k := 161) (as' := []) (st := []) t65_15 mf68 rfl rfl (Or.inl ⟨by decide, (zk1 (w13s.k fk_zMc_161))⟩) ⟨by decide, by omega, Nat.le_of_ble_eq_true rfl, Nat.le_of_ble_eq_true rfl⟩ (P68 w13s w13I ?_) (fun _ _ q => q)
          have w27 := ib161_3 w13I
          have w28 : (zI w13M 161 3).toInt = (zI w13M 161 3).toInt := (congrArg Int32.toInt rfl).trans rfl
          have w26 : (zpk w13M).toInt = g w24p := zpk.tr (zTr.mk x0 ((x0.1.F w12F rfl).F w13F rfl) (fun j => ((w13F 163 j rfl).trans (w12F 163 j rfl))) ((w13F 161 2 rfl).trans (w12F 161 2 rfl))) (by omega) (by omega)
          have w29 := zTr.rg x0 w24p
          show zGo X l d 0 0 65 18 [(0, .ref 161), (1, .int a), (2, .int w13x2), (3, .int w13x3)] [.int (zpk w13M)] w13M _
          refine zs_bipush (pc := 18) t65_18 (v := 124) (by decide) ?_
          by_cases w30 : (g w24p) ≠ 124
          · refine zs_icmp_neT (pc := 20) t65_20 w26 li124 (by omega) ?_
            refine zs_iload_n (pc := 61) t65_61 rfl ?_
            have w31 : (zI w13M 161 3).toInt = (zI w13M 161 3).toInt := (congrArg Int32.toInt rfl).trans rfl
            have w32 := ib161_4 w13I
            have w33 : (zI w13M 161 4).toInt = (zI w13M 161 4).toInt := (congrArg Int32.toInt rfl).trans rfl
            have w34 : (zI w13M 161 5).toInt = (zI w13M 161 5).toInt := (congrArg Int32.toInt rfl).trans rfl
            exact zs_iret (pc := 62) t65_62 mr65 (zfb01 (by omega)) (hQ _ _ w13s w13I (((zFr.refl).trans (w12F.mono rfl)).trans (w13F.mono rfl)) (by omega) (by omega) (Or.inr ⟨w23, w24p, _, w24e, w243, rfl, w245, w246, ⟨w248, by omega⟩⟩))
          · refine zs_icmp_neF (pc := 20) t65_20 w26 li124 (by omega) ?_
            refine zs_aload_n (pc := 23) t65_23 rfl ?_
            refine zs_dup (pc := 24) t65_24 rfl ?_
            refine zs_get (pc := 25) t65_25 (by decide) (zk1 (w13s.k fk_zMc_161)) (zfvi rfl rfl) ?_
            refine zs_iconst (pc := 28) t65_28 (v := 1) (by decide) ?_
            obtain ⟨w35v, w35e, w35⟩ := ziadd (a := (zI w13M 161 3)) (b := (1 : Int32)) rfl li1 (by omega) (by omega)
            refine zs_iadd (pc := 29) t65_29 (c := w35v) w35e ?_
            have w36 : zIv cLo cHi (zsI w13M 161 3 w35v) := zIv.put w13I (show 0 ≤ w35v.toInt ∧ w35v.toInt ≤ 500 from ⟨by omega, by omega⟩)
            refine zs_putI (pc := 30) t65_30 (zk1 (w13s.k fk_zMc_161)) rfl ?_
            refine zs_aload_n (pc := 33) t65_33 rfl ?_
            refine zs_iload_n (pc := 34) t65_34 rfl ?_
            have w37 : (zI (zsI w13M 161 3 w35v) 161 3).toInt = ((zI w13M 161 3).toInt + 1) := (congrArg Int32.toInt zIs).trans w35
            have w38 := ib161_4 w13I
            have w39 : (zI (zsI w13M 161 3 w35v) 161 4).toInt = (zI w13M 161 4).toInt := (congrArg Int32.toInt ((zIoj (by decide)).trans rfl)).trans rfl
            have w40 : (zI (zsI w13M 161 3 w35v) 161 5).toInt = (zI w13M 161 5).toInt := (congrArg Int32.toInt ((zIoj (by decide)).trans rfl)).trans rfl
            refine zs_invV9 (pc := 35) (k := 161) (as' := [.int a]) (st := []) t65_35 mf66 rfl rfl (Or.inl ⟨by decide, (zk1 (w13s.k fk_zMc_161))⟩) ⟨by omega, Nat.le_of_ble_eq_true rfl, Nat.le_of_ble_eq_true rfl⟩ (hB _ _ _ _ g n S (w24p + 1) (zI w13M 161 4).toInt (by omega) w13s w36 (zTr.mk x0 (((x0.1.F w12F rfl).F w13F rfl).put (by decide)) (fun j => ((zIo (by decide)).trans ((w13F 163 j rfl).trans (w12F 163 j rfl)))) ((zIoj (by decide)).trans ((w13F 161 2 rfl).trans (w12F 161 2 rfl)))) (by omega) (by omega) (by omega) hH (by omega) (by omega) (by omega) (by omega) ?_) (fun _ _ q => q)
            intro w41M w41v w41s w41I w41F w41a w41b w41z
            show zGo X l d 0 0 65 38 [(0, .ref 161), (1, .int a), (2, .int w13x2), (3, .int w13x3)] [.int w41v] w41M _
            refine zs_istore (pc := 38) t65_38 (ls' := [(4, .int w41v), (0, .ref 161), (1, .int a), (2, .int w13x2), (3, .int w13x3)]) (zml mf65 (by decide)) rfl ?_
            refine zs_iload_n (pc := 40) t65_40 rfl ?_
            by_cases w42 : w13x2.toInt ≠ 0
            · refine zs_if_neT (pc := 41) t65_41 rfl (by omega) ?_
              refine zs_iconst (pc := 49) t65_49 (v := 1) (by decide) ?_
              refine zs_goto (pc := 50) t65_50 ?_
              refine zs_istore_n (pc := 54) t65_54 (ls' := [(2, .int (1 : Int32)), (4, .int w41v), (0, .ref 161), (1, .int a), (3, .int w13x3)]) (zml mf65 (by decide)) rfl ?_
              obtain ⟨w43v, w43e, w43⟩ := ziadd (a := w13x3) (b := Int32.ofInt 1) rfl (show (Int32.ofInt 1).toInt = 1 by decide) (by omega) (by omega)
              refine zs_iinc (pc := 55) t65_55 (ls' := [(3, .int w43v), (2, .int (1 : Int32)), (4, .int w41v), (0, .ref 161), (1, .int a)]) (zml mf65 (by decide)) rfl (c := w43v) w43e rfl ?_
              refine zs_goto (pc := 58) t65_58 ?_
              refine zGo.locals (ls' := [(0, .ref 161), (1, .int a), (2, .int (1 : Int32)), (3, .int w43v)]) (by simp) ?_
              have w44 := li1
              have w45 := w43
              exact w13ih (w13m - 1) (by omega) (1 : Int32) w43v w41M ⟨by decide, by decide⟩ ⟨by omega, by omega⟩ w41s w41I ((((zFr.refl).trans (w13F.mono rfl)).put rfl).trans (w41F.mono rfl)) (zlp.stp w24e hH (Or.inr (by omega)) w246 w247 w41z (by omega)) (by omega)
            · refine zs_if_neF (pc := 41) t65_41 rfl (by omega) ?_
              refine zs_iload (pc := 44) t65_44 rfl ?_
              by_cases w46 : w41v.toInt = 0
              · refine zs_if_eqT (pc := 46) t65_46 rfl (by omega) ?_
                refine zs_iconst (pc := 53) t65_53 (v := 0) (by decide) ?_
                refine zs_istore_n (pc := 54) t65_54 (ls' := [(2, .int (0 : Int32)), (4, .int w41v), (0, .ref 161), (1, .int a), (3, .int w13x3)]) (zml mf65 (by decide)) rfl ?_
                obtain ⟨w47v, w47e, w47⟩ := ziadd (a := w13x3) (b := Int32.ofInt 1) rfl (show (Int32.ofInt 1).toInt = 1 by decide) (by omega) (by omega)
                refine zs_iinc (pc := 55) t65_55 (ls' := [(3, .int w47v), (2, .int (0 : Int32)), (4, .int w41v), (0, .ref 161), (1, .int a)]) (zml mf65 (by decide)) rfl (c := w47v) w47e rfl ?_
                refine zs_goto (pc := 58) t65_58 ?_
                refine zGo.locals (ls' := [(0, .ref 161), (1, .int a), (2, .int (0 : Int32)), (3, .int w47v)]) (by simp) ?_
                have w48 := li0
                have w49 := w47
                exact w13ih (w13m - 1) (by omega) (0 : Int32) w47v w41M ⟨by decide, by decide⟩ ⟨by omega, by omega⟩ w41s w41I ((((zFr.refl).trans (w13F.mono rfl)).put rfl).trans (w41F.mono rfl)) (zlp.stp w24e hH (Or.inr (by omega)) w246 w247 w41z (by omega)) (by omega)
              · refine zs_if_eqF (pc := 46) t65_46 rfl (by omega) ?_
                refine zs_iconst (pc := 49) t65_49 (v := 1) (by decide) ?_
                refine zs_goto (pc := 50) t65_50 ?_
                refine zs_istore_n (pc := 54) t65_54 (ls' := [(2, .int (1 : Int32)), (4, .int w41v), (0, .ref 161), (1, .int a), (3, .int w13x3)]) (zml mf65 (by decide)) rfl ?_
                obtain ⟨w50v, w50e, w50⟩ := ziadd (a := w13x3) (b := Int32.ofInt 1) rfl (show (Int32.ofInt 1).toInt = 1 by decide) (by omega) (by omega)
                refine zs_iinc (pc := 55) t65_55 (ls' := [(3, .int w50v), (2, .int (1 : Int32)), (4, .int w41v), (0, .ref 161), (1, .int a)]) (zml mf65 (by decide)) rfl (c := w50v) w50e rfl ?_
                refine zs_goto (pc := 58) t65_58 ?_
                refine zGo.locals (ls' := [(0, .ref 161), (1, .int a), (2, .int (1 : Int32)), (3, .int w50v)]) (by simp) ?_
                have w51 := li1
                have w52 := w50
                exact w13ih (w13m - 1) (by omega) (1 : Int32) w50v w41M ⟨by decide, by decide⟩ ⟨by omega, by omega⟩ w41s w41I ((((zFr.refl).trans (w13F.mono rfl)).put rfl).trans (w41F.mono rfl)) (zlp.stp w24e hH (Or.inr (by omega)) w246 w247 w41z (by omega)) (by omega)
        · skip
          have w53 : (zI w13M 161 5).toInt = (zI w13M 161 5).toInt := (congrArg Int32.toInt rfl).trans rfl
          refine zs_invV (pc := 15) (k := 161) (as' := []) (st := []) t65_15 mf68 rfl rfl (Or.inl ⟨by decide, (zk1 (w13s.k fk_zMc_161))⟩) ⟨by decide, by omega, Nat.le_of_ble_eq_true rfl, Nat.le_of_ble_eq_true rfl⟩ (P68 w13s w13I ?_) (fun _ _ q => q)
          have w54 : (zpk w13M).toInt = -1 := zpk.no (by omega)
          show zGo X l d 0 0 65 18 [(0, .ref 161), (1, .int a), (2, .int w13x2), (3, .int w13x3)] [.int (zpk w13M)] w13M _
          refine zs_bipush (pc := 18) t65_18 (v := 124) (by decide) ?_
          refine zs_icmp_neT (pc := 20) t65_20 w54 li124 (by decide) ?_
          refine zs_iload_n (pc := 61) t65_61 rfl ?_
          have w55 := ib161_3 w13I
          have w56 : (zI w13M 161 3).toInt = (zI w13M 161 3).toInt := (congrArg Int32.toInt rfl).trans rfl
          have w57 := ib161_4 w13I
          have w58 : (zI w13M 161 4).toInt = (zI w13M 161 4).toInt := (congrArg Int32.toInt rfl).trans rfl
          have w59 : (zI w13M 161 5).toInt = (zI w13M 161 5).toInt := (congrArg Int32.toInt rfl).trans rfl
          exact zs_iret (pc := 62) t65_62 mr65 (zfb01 (by omega)) (hQ _ _ w13s w13I (((zFr.refl).trans (w12F.mono rfl)).trans (w13F.mono rfl)) (by omega) (by omega) (w13t0.xf w23))
  refine zGo.locals (ls' := [(0, .ref 161), (1, .int a), (2, .int w12v), (3, .int (0 : Int32))]) (by simp) ?_
  have w60 := li0
  exact w13L ((30 - 0 : Int).toNat) w12v (0 : Int32) w12M ⟨by omega, by omega⟩ ⟨by decide, by decide⟩ w12s w12I zFr.refl (w12z.lp (by omega)) (by omega)
theorem RT2 {X : zX} {l : Launch} {K : Nat} {lo : Int} (hK : 8 ≤ K) (hC : zR X l 65 K lo zH1 zE2) (hT : zR X l 67 K lo zH0 zE0) : zR X l 67 (K + 1) (lo - 1) zH0 zE0 := by
  intro d Q M a g n S p t hd hs hI x0 ha ha6 hS hH hf hp ht hpn hQ
  subst ht
  have ga := zrg a
  have hn := x0.2.2
  refine zs_inD (by decide) mf67 (Nat.le_of_ble_eq_true rfl) ?_
  show zGo X l d 0 0 67 0 [(0, .ref 161), (1, .int a)] [] M _
  have w1 := ib161_2 hI
  have w2 : (zI M 161 2).toInt = (zI M 161 2).toInt := (congrArg Int32.toInt rfl).trans rfl
  have w3 := ib161_3 hI
  have w4 : (zI M 161 3).toInt = (zI M 161 3).toInt := (congrArg Int32.toInt rfl).trans rfl
  have w5 := ib161_4 hI
  have w6 : (zI M 161 4).toInt = (zI M 161 4).toInt := (congrArg Int32.toInt rfl).trans rfl
  have w7 := zrg (zI M 161 5)
  have w8 : (zI M 161 5).toInt = (zI M 161 5).toInt := (congrArg Int32.toInt rfl).trans rfl
  refine zs_aload_n (pc := 0) t67_0 rfl ?_
  have w9 : (zI M 161 5).toInt = (zI M 161 5).toInt := (congrArg Int32.toInt rfl).trans rfl
  have w10 : (zI M 161 5).toInt = (zI M 161 5).toInt := (congrArg Int32.toInt rfl).trans rfl
  refine zs_invV (pc := 1) (k := 161) (as' := []) (st := []) t67_1 mf68 rfl rfl (Or.inl ⟨by decide, (zk1 (hs.k fk_zMc_161))⟩) ⟨by decide, by omega, Nat.le_of_ble_eq_true rfl, Nat.le_of_ble_eq_true rfl⟩ (P68 hs hI ?_) (fun _ _ q => q)
  have w12 : (zI M 161 3).toInt = (zI M 161 3).toInt := (congrArg Int32.toInt rfl).trans rfl
  have w11 : (zpk M).toInt = g p := zpk.tr x0 (by omega) (by omega)
  have w13 := zTr.rg x0 p
  show zGo X l d 0 0 67 4 [(0, .ref 161), (1, .int a)] [.int (zpk M)] M _
  refine zs_istore_n (pc := 4) t67_4 (ls' := [(2, .int (zpk M)), (0, .ref 161), (1, .int a)]) (zml mf67 (by decide)) rfl ?_
  refine zs_iload_n (pc := 5) t67_5 rfl ?_
  refine zs_bipush (pc := 6) t67_6 (v := 33) (by decide) ?_
  by_cases w14 : (g p) = 33
  · refine zs_icmp_eqT (pc := 8) t67_8 w11 li33 (by omega) ?_
    refine zs_iload_n (pc := 22) t67_22 rfl ?_
    refine zs_bipush (pc := 23) t67_23 (v := 6) (by decide) ?_
    by_cases w15 : a.toInt < 6
    · refine zs_icmp_ltT (pc := 25) t67_25 rfl li6 (by omega) ?_
      refine zs_aload_n (pc := 38) t67_38 rfl ?_
      refine zs_dup (pc := 39) t67_39 rfl ?_
      refine zs_get (pc := 40) t67_40 (by decide) (zk1 (hs.k fk_zMc_161)) (zfvi rfl rfl) ?_
      refine zs_iconst (pc := 43) t67_43 (v := 1) (by decide) ?_
      obtain ⟨w16v, w16e, w16⟩ := ziadd (a := (zI M 161 3)) (b := (1 : Int32)) rfl li1 (by omega) (by omega)
      refine zs_iadd (pc := 44) t67_44 (c := w16v) w16e ?_
      have w17 : zIv cLo cHi (zsI M 161 3 w16v) := zIv.put hI (show 0 ≤ w16v.toInt ∧ w16v.toInt ≤ 500 from ⟨by omega, by omega⟩)
      refine zs_putI (pc := 45) t67_45 (zk1 (hs.k fk_zMc_161)) rfl ?_
      refine zs_iload_n (pc := 48) t67_48 rfl ?_
      refine zs_bipush (pc := 49) t67_49 (v := 33) (by decide) ?_
      refine zs_icmp_neF (pc := 51) t67_51 w11 li33 (by omega) ?_
      refine zs_aload_n (pc := 54) t67_54 rfl ?_
      refine zs_iload_n (pc := 55) t67_55 rfl ?_
      refine zs_iconst (pc := 56) t67_56 (v := 1) (by decide) ?_
      obtain ⟨w18v, w18e, w18⟩ := ziadd (a := a) (b := (1 : Int32)) rfl li1 (by omega) (by omega)
      refine zs_iadd (pc := 57) t67_57 (c := w18v) w18e ?_
      have w19 : (zI (zsI M 161 3 w16v) 161 3).toInt = ((zI M 161 3).toInt + 1) := (congrArg Int32.toInt zIs).trans w16
      have w20 : (zI (zsI M 161 3 w16v) 161 4).toInt = (zI M 161 4).toInt := (congrArg Int32.toInt ((zIoj (by decide)).trans rfl)).trans rfl
      have w21 : (zI (zsI M 161 3 w16v) 161 5).toInt = (zI M 161 5).toInt := (congrArg Int32.toInt ((zIoj (by decide)).trans rfl)).trans rfl
      have w22 : w18v.toInt = (a.toInt + 1) := w18
      refine zs_invV9 (pc := 58) (k := 161) (as' := [.int w18v]) (st := []) t67_58 mf67 rfl rfl (Or.inl ⟨by decide, (zk1 (hs.k fk_zMc_161))⟩) ⟨by omega, Nat.le_of_ble_eq_true rfl, Nat.le_of_ble_eq_true rfl⟩ (hT _ _ _ _ g n (33 :: S) (p + 1) (zI M 161 4).toInt (by omega) hs w17 (zTr.mk x0 (x0.1.put (by decide)) (fun j => (zIo (by decide))) (zIoj (by decide))) (by omega) (by omega) (by rw [List.length_cons]; omega) trivial (by omega) (by omega) (by omega) (by omega) ?_) (fun _ _ q => q)
      intro w23M w23v w23s w23I w23F w23a w23b w23z
      show zGo X l d 0 0 67 61 [(2, .int (zpk M)), (0, .ref 161), (1, .int a)] [.int w23v] w23M _
      by_cases w24 : w23v.toInt ≠ 0
      · refine zs_if_neT (pc := 61) t67_61 rfl (by omega) ?_
        refine zs_iconst (pc := 68) t67_68 (v := 0) (by decide) ?_
        have w25 := ib161_3 w23I
        have w26 : (zI w23M 161 3).toInt = (zI w23M 161 3).toInt := (congrArg Int32.toInt rfl).trans rfl
        have w27 := ib161_4 w23I
        have w28 : (zI w23M 161 4).toInt = (zI w23M 161 4).toInt := (congrArg Int32.toInt rfl).trans rfl
        have w29 := zrg (zI w23M 161 5)
        have w30 : (zI w23M 161 5).toInt = (zI w23M 161 5).toInt := (congrArg Int32.toInt rfl).trans rfl
        exact zs_iret (pc := 69) t67_69 mr67 (by decide) (hQ _ _ w23s w23I (((zFr.refl).put rfl).trans (w23F.mono rfl)) (by decide) (by decide) (by first | exact zo.cm (by omega) w23z | exact zo.neg (by omega) (by omega) w23z))
      · refine zs_if_neF (pc := 61) t67_61 rfl (by omega) ?_
        refine zs_iconst (pc := 64) t67_64 (v := 1) (by decide) ?_
        refine zs_goto (pc := 65) t67_65 ?_
        have w31 := ib161_3 w23I
        have w32 : (zI w23M 161 3).toInt = (zI w23M 161 3).toInt := (congrArg Int32.toInt rfl).trans rfl
        have w33 := ib161_4 w23I
        have w34 : (zI w23M 161 4).toInt = (zI w23M 161 4).toInt := (congrArg Int32.toInt rfl).trans rfl
        have w35 := zrg (zI w23M 161 5)
        have w36 : (zI w23M 161 5).toInt = (zI w23M 161 5).toInt := (congrArg Int32.toInt rfl).trans rfl
        exact zs_iret (pc := 69) t67_69 mr67 (by decide) (hQ _ _ w23s w23I (((zFr.refl).put rfl).trans (w23F.mono rfl)) (by decide) (by decide) (by first | exact zo.cm (by omega) w23z | exact zo.neg (by omega) (by omega) w23z))
    · refine zs_icmp_ltF (pc := 25) t67_25 rfl li6 (by omega) ?_
      refine zs_aload_n (pc := 28) t67_28 rfl ?_
      refine zs_aload_n (pc := 29) t67_29 rfl ?_
      refine zs_get (pc := 30) t67_30 (by decide) (zk1 (hs.k fk_zMc_161)) (zfvi rfl rfl) ?_
      refine zs_invV (pc := 33) (k := 161) (as' := [.int (zI M 161 3)]) (st := []) t67_33 mf78 rfl rfl (Or.inl ⟨by decide, (zk1 (hs.k fk_zMc_161))⟩) ⟨by decide, by omega, Nat.le_of_ble_eq_true rfl, Nat.le_of_ble_eq_true rfl⟩ (zs_in (by decide) mf78 (Nat.le_of_ble_eq_true rfl) ?_) (fun _ _ q => q)
      show zGo X l 0 0 0 78 0 [(0, .ref 161), (1, .int (zI M 161 3))] [] M _
      refine zs_aload_n (pc := 0) t78_0 rfl ?_
      refine zs_get (pc := 1) t78_1 (by decide) (zk1 (hs.k fk_zMc_161)) (zfvi rfl rfl) ?_
      refine zs_iconst (pc := 4) t78_4 (v := -1) (by decide) ?_
      refine zs_icmp_neF (pc := 5) t78_5 rfl lin1 (by omega) ?_
      refine zs_aload_n (pc := 8) t78_8 rfl ?_
      refine zs_iload_n (pc := 9) t78_9 rfl ?_
      have w37 : zIv cLo cHi (zsI M 161 5 (zI M 161 3)) := zIv.put hI (show (-2147483648) ≤ (zI M 161 3).toInt ∧ (zI M 161 3).toInt ≤ 2147483647 from zrg (zI M 161 3))
      refine zs_putI (pc := 10) t78_10 (zk1 (hs.k fk_zMc_161)) rfl ?_
      refine zs_vret (pc := 13) t78_13 mr78 ?_
      show zGo X l d 0 0 67 36 [(2, .int (zpk M)), (0, .ref 161), (1, .int a)] [] (zsI M 161 5 (zI M 161 3)) _
      refine zs_iconst (pc := 36) t67_36 (v := 0) (by decide) ?_
      have w38 : (zI (zsI M 161 5 (zI M 161 3)) 161 3).toInt = (zI M 161 3).toInt := (congrArg Int32.toInt ((zIoj (by decide)).trans rfl)).trans rfl
      have w39 : (zI (zsI M 161 5 (zI M 161 3)) 161 4).toInt = (zI M 161 4).toInt := (congrArg Int32.toInt ((zIoj (by decide)).trans rfl)).trans rfl
      have w40 : (zI (zsI M 161 5 (zI M 161 3)) 161 5).toInt = (zI M 161 3).toInt := (congrArg Int32.toInt zIs).trans rfl
      exact zs_iret (pc := 37) t67_37 mr67 (by decide) (hQ _ _ hs w37 ((zFr.refl).put rfl) (by decide) (by decide) (zo.deep (by omega) (by omega) (by omega)))
  · refine zs_icmp_eqF (pc := 8) t67_8 w11 li33 (by omega) ?_
    refine zs_iload_n (pc := 11) t67_11 rfl ?_
    refine zs_bipush (pc := 12) t67_12 (v := 40) (by decide) ?_
    by_cases w41 : (g p) = 40
    · refine zs_icmp_eqT (pc := 14) t67_14 w11 li40 (by omega) ?_
      refine zs_iload_n (pc := 22) t67_22 rfl ?_
      refine zs_bipush (pc := 23) t67_23 (v := 6) (by decide) ?_
      by_cases w42 : a.toInt < 6
      · refine zs_icmp_ltT (pc := 25) t67_25 rfl li6 (by omega) ?_
        refine zs_aload_n (pc := 38) t67_38 rfl ?_
        refine zs_dup (pc := 39) t67_39 rfl ?_
        refine zs_get (pc := 40) t67_40 (by decide) (zk1 (hs.k fk_zMc_161)) (zfvi rfl rfl) ?_
        refine zs_iconst (pc := 43) t67_43 (v := 1) (by decide) ?_
        obtain ⟨w43v, w43e, w43⟩ := ziadd (a := (zI M 161 3)) (b := (1 : Int32)) rfl li1 (by omega) (by omega)
        refine zs_iadd (pc := 44) t67_44 (c := w43v) w43e ?_
        have w44 : zIv cLo cHi (zsI M 161 3 w43v) := zIv.put hI (show 0 ≤ w43v.toInt ∧ w43v.toInt ≤ 500 from ⟨by omega, by omega⟩)
        refine zs_putI (pc := 45) t67_45 (zk1 (hs.k fk_zMc_161)) rfl ?_
        refine zs_iload_n (pc := 48) t67_48 rfl ?_
        refine zs_bipush (pc := 49) t67_49 (v := 33) (by decide) ?_
        refine zs_icmp_neT (pc := 51) t67_51 w11 li33 (by omega) ?_
        refine zs_aload_n (pc := 70) t67_70 rfl ?_
        refine zs_iload_n (pc := 71) t67_71 rfl ?_
        refine zs_iconst (pc := 72) t67_72 (v := 1) (by decide) ?_
        obtain ⟨w45v, w45e, w45⟩ := ziadd (a := a) (b := (1 : Int32)) rfl li1 (by omega) (by omega)
        refine zs_iadd (pc := 73) t67_73 (c := w45v) w45e ?_
        have w46 : (zI (zsI M 161 3 w43v) 161 3).toInt = ((zI M 161 3).toInt + 1) := (congrArg Int32.toInt zIs).trans w43
        have w47 : (zI (zsI M 161 3 w43v) 161 4).toInt = (zI M 161 4).toInt := (congrArg Int32.toInt ((zIoj (by decide)).trans rfl)).trans rfl
        have w48 : (zI (zsI M 161 3 w43v) 161 5).toInt = (zI M 161 5).toInt := (congrArg Int32.toInt ((zIoj (by decide)).trans rfl)).trans rfl
        have w49 : w45v.toInt = (a.toInt + 1) := w45
        refine zs_invV9 (pc := 74) (k := 161) (as' := [.int w45v]) (st := []) t67_74 mf65 rfl rfl (Or.inl ⟨by decide, (zk1 (hs.k fk_zMc_161))⟩) ⟨by omega, Nat.le_of_ble_eq_true rfl, Nat.le_of_ble_eq_true rfl⟩ (hC _ _ _ _ g n (40 :: S) (p + 1) (zI M 161 4).toInt (by omega) hs w44 (zTr.mk x0 (x0.1.put (by decide)) (fun j => (zIo (by decide))) (zIoj (by decide))) (by omega) (by omega) (by rw [List.length_cons]; omega) zH1.c (by omega) (by omega) (by omega) (by omega) ?_) (fun _ _ q => q)
        intro w50M w50v w50s w50I w50F w50a w50b w50z
        show zGo X l d 0 0 67 77 [(2, .int (zpk M)), (0, .ref 161), (1, .int a)] [.int w50v] w50M _
        rcases w50z with ⟨w51x, w51f, w51n, w51e⟩ | ⟨w51f, w51p, w51t, w51e, w513, w514, w515, w516, w517⟩
        · skip
          refine zs_istore_n (pc := 77) t67_77 (ls' := [(3, .int w50v), (2, .int (zpk M)), (0, .ref 161), (1, .int a)]) (zml mf67 (by decide)) rfl ?_
          refine zs_aload_n (pc := 78) t67_78 rfl ?_
          have w52 := zrg (zI w50M 161 5)
          have w53 : (zI w50M 161 5).toInt = (zI w50M 161 5).toInt := (congrArg Int32.toInt rfl).trans rfl
          have w54 : (zI w50M 161 5).toInt = (zI w50M 161 5).toInt := (congrArg Int32.toInt rfl).trans rfl
          refine zs_invV (pc := 79) (k := 161) (as' := []) (st := []) t67_79 mf68 rfl rfl (Or.inl ⟨by decide, (zk1 (w50s.k fk_zMc_161))⟩) ⟨by decide, by omega, Nat.le_of_ble_eq_true rfl, Nat.le_of_ble_eq_true rfl⟩ (P68 w50s w50I ?_) (fun _ _ q => q)
          have w55 : (zpk w50M).toInt = -1 := zpk.no (by omega)
          show zGo X l d 0 0 67 82 [(3, .int w50v), (2, .int (zpk M)), (0, .ref 161), (1, .int a)] [.int (zpk w50M)] w50M _
          refine zs_bipush (pc := 82) t67_82 (v := 41) (by decide) ?_
          refine zs_icmp_eqF (pc := 84) t67_84 w55 li41 (by decide) ?_
          refine zs_aload_n (pc := 87) t67_87 rfl ?_
          refine zs_aload_n (pc := 88) t67_88 rfl ?_
          have w56 := ib161_3 w50I
          refine zs_get (pc := 89) t67_89 (by decide) (zk1 (w50s.k fk_zMc_161)) (zfvi rfl rfl) ?_
          refine zs_invV (pc := 92) (k := 161) (as' := [.int (zI w50M 161 3)]) (st := []) t67_92 mf78 rfl rfl (Or.inl ⟨by decide, (zk1 (w50s.k fk_zMc_161))⟩) ⟨by decide, by omega, Nat.le_of_ble_eq_true rfl, Nat.le_of_ble_eq_true rfl⟩ (zs_in (by decide) mf78 (Nat.le_of_ble_eq_true rfl) ?_) (fun _ _ q => q)
          show zGo X l 0 0 0 78 0 [(0, .ref 161), (1, .int (zI w50M 161 3))] [] w50M _
          refine zs_aload_n (pc := 0) t78_0 rfl ?_
          refine zs_get (pc := 1) t78_1 (by decide) (zk1 (w50s.k fk_zMc_161)) (zfvi rfl rfl) ?_
          refine zs_iconst (pc := 4) t78_4 (v := -1) (by decide) ?_
          refine zs_icmp_neT (pc := 5) t78_5 rfl lin1 (by omega) ?_
          refine zs_vret (pc := 13) t78_13 mr78 ?_
          show zGo X l d 0 0 67 95 [(3, .int w50v), (2, .int (zpk M)), (0, .ref 161), (1, .int a)] [] w50M _
          refine zs_iconst (pc := 95) t67_95 (v := 0) (by decide) ?_
          have w57 : (zI w50M 161 3).toInt = (zI w50M 161 3).toInt := (congrArg Int32.toInt rfl).trans rfl
          have w58 := ib161_4 w50I
          have w59 : (zI w50M 161 4).toInt = (zI w50M 161 4).toInt := (congrArg Int32.toInt rfl).trans rfl
          have w60 : (zI w50M 161 5).toInt = (zI w50M 161 5).toInt := (congrArg Int32.toInt rfl).trans rfl
          exact zs_iret (pc := 96) t67_96 mr67 (by decide) (hQ _ _ w50s w50I (((zFr.refl).put rfl).trans (w50F.mono rfl)) (by decide) (by decide) (zo.parf (by omega) (by omega) (by omega) (by omega) w51e))
        · skip
          subst w514
          refine zs_istore_n (pc := 77) t67_77 (ls' := [(3, .int w50v), (2, .int (zpk M)), (0, .ref 161), (1, .int a)]) (zml mf67 (by decide)) rfl ?_
          refine zs_aload_n (pc := 78) t67_78 rfl ?_
          have w61 := zrg (zI w50M 161 5)
          have w62 : (zI w50M 161 5).toInt = (zI w50M 161 5).toInt := (congrArg Int32.toInt rfl).trans rfl
          have w63 : (zI w50M 161 5).toInt = (zI w50M 161 5).toInt := (congrArg Int32.toInt rfl).trans rfl
          refine zs_invV (pc := 79) (k := 161) (as' := []) (st := []) t67_79 mf68 rfl rfl (Or.inl ⟨by decide, (zk1 (w50s.k fk_zMc_161))⟩) ⟨by decide, by omega, Nat.le_of_ble_eq_true rfl, Nat.le_of_ble_eq_true rfl⟩ (P68 w50s w50I ?_) (fun _ _ q => q)
          have w65 := ib161_3 w50I
          have w66 : (zI w50M 161 3).toInt = (zI w50M 161 3).toInt := (congrArg Int32.toInt rfl).trans rfl
          have w64 : (zpk w50M).toInt = g w51p := zpk.tr (zTr.mk x0 ((x0.1.put (by decide)).F w50F rfl) (fun j => ((w50F 163 j rfl).trans (zIo (by decide)))) ((w50F 161 2 rfl).trans (zIoj (by decide)))) (by omega) (by omega)
          have w67 := zTr.rg x0 w51p
          show zGo X l d 0 0 67 82 [(3, .int w50v), (2, .int (zpk M)), (0, .ref 161), (1, .int a)] [.int (zpk w50M)] w50M _
          refine zs_bipush (pc := 82) t67_82 (v := 41) (by decide) ?_
          by_cases w68 : (g w51p) = 41
          · refine zs_icmp_eqT (pc := 84) t67_84 w64 li41 (by omega) ?_
            refine zs_aload_n (pc := 97) t67_97 rfl ?_
            refine zs_dup (pc := 98) t67_98 rfl ?_
            refine zs_get (pc := 99) t67_99 (by decide) (zk1 (w50s.k fk_zMc_161)) (zfvi rfl rfl) ?_
            refine zs_iconst (pc := 102) t67_102 (v := 1) (by decide) ?_
            obtain ⟨w69v, w69e, w69⟩ := ziadd (a := (zI w50M 161 3)) (b := (1 : Int32)) rfl li1 (by omega) (by omega)
            refine zs_iadd (pc := 103) t67_103 (c := w69v) w69e ?_
            have w70 : zIv cLo cHi (zsI w50M 161 3 w69v) := zIv.put w50I (show 0 ≤ w69v.toInt ∧ w69v.toInt ≤ 500 from ⟨by omega, by omega⟩)
            refine zs_putI (pc := 104) t67_104 (zk1 (w50s.k fk_zMc_161)) rfl ?_
            refine zs_iload_n (pc := 107) t67_107 rfl ?_
            have w71 : (zI (zsI w50M 161 3 w69v) 161 3).toInt = ((zI w50M 161 3).toInt + 1) := (congrArg Int32.toInt zIs).trans w69
            have w72 := ib161_4 w50I
            have w73 : (zI (zsI w50M 161 3 w69v) 161 4).toInt = (zI w50M 161 4).toInt := (congrArg Int32.toInt ((zIoj (by decide)).trans rfl)).trans rfl
            have w74 : (zI (zsI w50M 161 3 w69v) 161 5).toInt = (zI w50M 161 5).toInt := (congrArg Int32.toInt ((zIoj (by decide)).trans rfl)).trans rfl
            have w75 : (zI (zsI w50M 161 3 w69v) 161 5).toInt = (zI w50M 161 5).toInt := (congrArg Int32.toInt ((zIoj (by decide)).trans rfl)).trans rfl
            exact zs_iret (pc := 108) t67_108 mr67 (zfb01 (by omega)) (hQ _ _ w50s w70 ((((zFr.refl).put rfl).trans (w50F.mono rfl)).put rfl) (by omega) (by omega) (zo.pary (by omega) (by omega) (by omega) w51e (by omega) (by omega) (by omega) (by omega) w516))
          · refine zs_icmp_eqF (pc := 84) t67_84 w64 li41 (by omega) ?_
            refine zs_aload_n (pc := 87) t67_87 rfl ?_
            refine zs_aload_n (pc := 88) t67_88 rfl ?_
            refine zs_get (pc := 89) t67_89 (by decide) (zk1 (w50s.k fk_zMc_161)) (zfvi rfl rfl) ?_
            refine zs_invV (pc := 92) (k := 161) (as' := [.int (zI w50M 161 3)]) (st := []) t67_92 mf78 rfl rfl (Or.inl ⟨by decide, (zk1 (w50s.k fk_zMc_161))⟩) ⟨by decide, by omega, Nat.le_of_ble_eq_true rfl, Nat.le_of_ble_eq_true rfl⟩ (zs_in (by decide) mf78 (Nat.le_of_ble_eq_true rfl) ?_) (fun _ _ q => q)
            show zGo X l 0 0 0 78 0 [(0, .ref 161), (1, .int (zI w50M 161 3))] [] w50M _
            refine zs_aload_n (pc := 0) t78_0 rfl ?_
            refine zs_get (pc := 1) t78_1 (by decide) (zk1 (w50s.k fk_zMc_161)) (zfvi rfl rfl) ?_
            refine zs_iconst (pc := 4) t78_4 (v := -1) (by decide) ?_
            refine zs_icmp_neF (pc := 5) t78_5 rfl lin1 (by omega) ?_
            refine zs_aload_n (pc := 8) t78_8 rfl ?_
            refine zs_iload_n (pc := 9) t78_9 rfl ?_
            have w76 : zIv cLo cHi (zsI w50M 161 5 (zI w50M 161 3)) := zIv.put w50I (show (-2147483648) ≤ (zI w50M 161 3).toInt ∧ (zI w50M 161 3).toInt ≤ 2147483647 from zrg (zI w50M 161 3))
            refine zs_putI (pc := 10) t78_10 (zk1 (w50s.k fk_zMc_161)) rfl ?_
            refine zs_vret (pc := 13) t78_13 mr78 ?_
            show zGo X l d 0 0 67 95 [(3, .int w50v), (2, .int (zpk M)), (0, .ref 161), (1, .int a)] [] (zsI w50M 161 5 (zI w50M 161 3)) _
            refine zs_iconst (pc := 95) t67_95 (v := 0) (by decide) ?_
            have w77 : (zI (zsI w50M 161 5 (zI w50M 161 3)) 161 3).toInt = (zI w50M 161 3).toInt := (congrArg Int32.toInt ((zIoj (by decide)).trans rfl)).trans rfl
            have w78 := ib161_4 w50I
            have w79 : (zI (zsI w50M 161 5 (zI w50M 161 3)) 161 4).toInt = (zI w50M 161 4).toInt := (congrArg Int32.toInt ((zIoj (by decide)).trans rfl)).trans rfl
            have w80 : (zI (zsI w50M 161 5 (zI w50M 161 3)) 161 5).toInt = (zI w50M 161 3).toInt := (congrArg Int32.toInt zIs).trans rfl
            have w81 : (zI (zsI w50M 161 5 (zI w50M 161 3)) 161 5).toInt = (zI w50M 161 3).toInt := (congrArg Int32.toInt zIs).trans rfl
            exact zs_iret (pc := 96) t67_96 mr67 (by decide) (hQ _ _ w50s w76 ((((zFr.refl).put rfl).trans (w50F.mono rfl)).put rfl) (by decide) (by decide) (zo.parn (by omega) (by omega) (by omega) w51e w517 (by omega)))
      · refine zs_icmp_ltF (pc := 25) t67_25 rfl li6 (by omega) ?_
        refine zs_aload_n (pc := 28) t67_28 rfl ?_
        refine zs_aload_n (pc := 29) t67_29 rfl ?_
        refine zs_get (pc := 30) t67_30 (by decide) (zk1 (hs.k fk_zMc_161)) (zfvi rfl rfl) ?_
        refine zs_invV (pc := 33) (k := 161) (as' := [.int (zI M 161 3)]) (st := []) t67_33 mf78 rfl rfl (Or.inl ⟨by decide, (zk1 (hs.k fk_zMc_161))⟩) ⟨by decide, by omega, Nat.le_of_ble_eq_true rfl, Nat.le_of_ble_eq_true rfl⟩ (zs_in (by decide) mf78 (Nat.le_of_ble_eq_true rfl) ?_) (fun _ _ q => q)
        show zGo X l 0 0 0 78 0 [(0, .ref 161), (1, .int (zI M 161 3))] [] M _
        refine zs_aload_n (pc := 0) t78_0 rfl ?_
        refine zs_get (pc := 1) t78_1 (by decide) (zk1 (hs.k fk_zMc_161)) (zfvi rfl rfl) ?_
        refine zs_iconst (pc := 4) t78_4 (v := -1) (by decide) ?_
        refine zs_icmp_neF (pc := 5) t78_5 rfl lin1 (by omega) ?_
        refine zs_aload_n (pc := 8) t78_8 rfl ?_
        refine zs_iload_n (pc := 9) t78_9 rfl ?_
        have w82 : zIv cLo cHi (zsI M 161 5 (zI M 161 3)) := zIv.put hI (show (-2147483648) ≤ (zI M 161 3).toInt ∧ (zI M 161 3).toInt ≤ 2147483647 from zrg (zI M 161 3))
        refine zs_putI (pc := 10) t78_10 (zk1 (hs.k fk_zMc_161)) rfl ?_
        refine zs_vret (pc := 13) t78_13 mr78 ?_
        show zGo X l d 0 0 67 36 [(2, .int (zpk M)), (0, .ref 161), (1, .int a)] [] (zsI M 161 5 (zI M 161 3)) _
        refine zs_iconst (pc := 36) t67_36 (v := 0) (by decide) ?_
        have w83 : (zI (zsI M 161 5 (zI M 161 3)) 161 3).toInt = (zI M 161 3).toInt := (congrArg Int32.toInt ((zIoj (by decide)).trans rfl)).trans rfl
        have w84 : (zI (zsI M 161 5 (zI M 161 3)) 161 4).toInt = (zI M 161 4).toInt := (congrArg Int32.toInt ((zIoj (by decide)).trans rfl)).trans rfl
        have w85 : (zI (zsI M 161 5 (zI M 161 3)) 161 5).toInt = (zI M 161 3).toInt := (congrArg Int32.toInt zIs).trans rfl
        exact zs_iret (pc := 37) t67_37 mr67 (by decide) (hQ _ _ hs w82 ((zFr.refl).put rfl) (by decide) (by decide) (zo.deep (by omega) (by omega) (by omega)))
    · refine zs_icmp_eqF (pc := 14) t67_14 w11 li40 (by omega) ?_
      refine zs_aload_n (pc := 17) t67_17 rfl ?_
      have w86 : (zI M 161 5).toInt = (zI M 161 5).toInt := (congrArg Int32.toInt rfl).trans rfl
      have w87 : (zI M 161 3).toInt = (zI M 161 3).toInt := (congrArg Int32.toInt rfl).trans rfl
      have w88 : (zI M 161 2).toInt = (zI M 161 2).toInt := (congrArg Int32.toInt rfl).trans rfl
      refine zs_invV (pc := 18) (k := 161) (as' := []) (st := []) t67_18 mf69 rfl rfl (Or.inl ⟨by decide, (zk1 (hs.k fk_zMc_161))⟩) ⟨by decide, by omega, Nat.le_of_ble_eq_true rfl, Nat.le_of_ble_eq_true rfl⟩ (X69_161 hs hI (by omega) (by omega) x0 ?_) (fun _ _ q => q)
      intro w89M w89v w89s w89I w89F w89x0 w89a w89b
      have w90 : (zI M 161 3).toInt = (zI M 161 3).toInt := (congrArg Int32.toInt rfl).trans rfl
      have w91 : (zI M 161 4).toInt = (zI M 161 4).toInt := (congrArg Int32.toInt rfl).trans rfl
      have w89z := w89x0 p (zI M 161 4).toInt (by omega) (by omega)
      show zGo X l d 0 0 67 21 [(2, .int (zpk M)), (0, .ref 161), (1, .int a)] [.int w89v] w89M _
      have w92 := ib161_3 w89I
      have w93 : (zI w89M 161 3).toInt = (zI w89M 161 3).toInt := (congrArg Int32.toInt rfl).trans rfl
      have w94 := ib161_4 w89I
      have w95 : (zI w89M 161 4).toInt = (zI w89M 161 4).toInt := (congrArg Int32.toInt rfl).trans rfl
      have w96 := zrg (zI w89M 161 5)
      have w97 : (zI w89M 161 5).toInt = (zI w89M 161 5).toInt := (congrArg Int32.toInt rfl).trans rfl
      exact zs_iret (pc := 21) t67_21 mr67 (zfb01 (by omega)) (hQ _ _ w89s w89I ((zFr.refl).trans (w89F.mono rfl)) (by omega) (by omega) (by first | exact zo.cm (by omega) w89z | exact zo.neg (by omega) (by omega) w89z))
theorem RCall2 {X : zX} {l : Launch} : zR X l 65 32 0 zH1 zE2 := by
  have stp : ∀ (K : Nat) (lo : Int), 8 ≤ K → zR X l 67 K lo zH0 zE0 → zR X l 67 (K + 3) (lo - 1) zH0 zE0 := fun K lo hK hT => RT2 (by omega) (RC2 (by omega) (RB2 hK hT)) (hT.le (by omega))
  have t6 : zR X l 67 9 6 zH0 zE0 := RT2 (K := 8) (lo := 7) (Nat.le_refl _) zR.no zR.no
  have t5 : zR X l 67 12 5 zH0 zE0 := stp 9 6 (by decide) t6
  have t4 : zR X l 67 15 4 zH0 zE0 := stp 12 5 (by decide) t5
  have t3 : zR X l 67 18 3 zH0 zE0 := stp 15 4 (by decide) t4
  have t2 : zR X l 67 21 2 zH0 zE0 := stp 18 3 (by decide) t3
  have t1 : zR X l 67 24 1 zH0 zE0 := stp 21 2 (by decide) t2
  have t0 : zR X l 67 27 0 zH0 zE0 := stp 24 1 (by decide) t1
  exact (RC2 (by decide) (RB2 (by decide) t0)).le (by decide)
theorem X64_161_156 {X : zX} {l : Launch} {M : zM} {Q : Option Value → zM → Prop} {a : Int32} (hs : zSk zMc M) (hI : zIv cLo cHi M) (ha : 0 ≤ a.toInt ∧ a.toInt ≤ 500) (hQ : ∀ (M' : zM) (v : Int32), zSk zMc M' → zIv cLo cHi M' → zFr [(161, 161, none), (163, 163, none)] M M' → (zof M' (zsy (zI M 156) a.toInt) a.toInt) → 0 ≤ v.toInt → v.toInt ≤ 1 → Q (some (.int v)) M') : zCall X l 98 0 0 64 [.ref 161, .ref 156, .int a] M Q := by
  have ga := zrg a
  refine zs_inD (by decide) mf64 (Nat.le_of_ble_eq_true rfl) ?_
  show zGo X l 98 0 0 64 0 [(0, .ref 161), (1, .ref 156), (2, .int a)] [] M _
  refine zGo.zou6 (fun x6 => ?_)
  refine zs_aload_n (pc := 0) t64_0 rfl ?_
  refine zs_iconst (pc := 1) t64_1 (v := 0) (by decide) ?_
  refine zs_iload_n (pc := 2) t64_2 rfl ?_
  refine zs_sipush (pc := 3) t64_3 (v := 500) (by decide) ?_
  refine zs_invS (pc := 6) (as := [.int a, .int (500 : Int32)]) (st := [.int (0 : Int32), .ref 161]) t64_6 (by decide) mf20 rfl rfl ⟨by decide, by decide, Nat.le_of_ble_eq_true rfl, Nat.le_of_ble_eq_true rfl⟩ (zs_in (by decide) mf20 (Nat.le_of_ble_eq_true rfl) ?_) (fun _ _ q => q)
  show zGo X l 0 0 0 20 0 [(0, .int a), (1, .int (500 : Int32))] [] M _
  refine zs_iload_n (pc := 0) t20_0 rfl ?_
  refine zs_iload_n (pc := 1) t20_1 rfl ?_
  refine zs_icmp_gtF (pc := 2) t20_2 rfl li500 (by omega) ?_
  refine zs_iload_n (pc := 5) t20_5 rfl ?_
  refine zs_goto (pc := 6) t20_6 ?_
  refine zs_iret (pc := 10) t20_10 mr20 rfl ?_
  show zGo X l 98 0 0 64 9 [(0, .ref 161), (1, .ref 156), (2, .int a)] [.int a, .int (0 : Int32), .ref 161] M _
  refine zs_invS (pc := 9) (as := [.int (0 : Int32), .int a]) (st := [.ref 161]) t64_9 (by decide) mf21 rfl rfl ⟨by decide, by decide, Nat.le_of_ble_eq_true rfl, Nat.le_of_ble_eq_true rfl⟩ (zs_in (by decide) mf21 (Nat.le_of_ble_eq_true rfl) ?_) (fun _ _ q => q)
  show zGo X l 0 0 0 21 0 [(0, .int (0 : Int32)), (1, .int a)] [] M _
  refine zs_iload_n (pc := 0) t21_0 rfl ?_
  refine zs_iload_n (pc := 1) t21_1 rfl ?_
  by_cases w1 : 0 < a.toInt
  · refine zs_icmp_ltT (pc := 2) t21_2 li0 rfl (by omega) ?_
    refine zs_iload_n (pc := 9) t21_9 rfl ?_
    refine zs_iret (pc := 10) t21_10 mr21 rfl ?_
    show zGo X l 98 0 0 64 12 [(0, .ref 161), (1, .ref 156), (2, .int a)] [.int a, .ref 161] M _
    have w2 : zIv cLo cHi (zsI M 161 2 a) := zIv.put hI (show 0 ≤ a.toInt ∧ a.toInt ≤ 500 from ⟨by omega, by omega⟩)
    refine zs_putI (pc := 12) t64_12 (zk1 (hs.k fk_zMc_161)) rfl ?_
    refine zs_aload_n (pc := 15) t64_15 rfl ?_
    refine zs_iconst (pc := 16) t64_16 (v := 0) (by decide) ?_
    refine zs_aload_n (pc := 17) t64_17 rfl ?_
    refine zs_get (pc := 18) t64_18 (by decide) (zk1 (hs.k fk_zMc_161)) (hs.p rfl fv_zMc_161_1) ?_
    refine zs_iconst (pc := 21) t64_21 (v := 0) (by decide) ?_
    refine zs_aload_n (pc := 22) t64_22 rfl ?_
    refine zs_get (pc := 23) t64_23 (by decide) (zk1 (hs.k fk_zMc_161)) (zfvi rfl zIs) ?_
    have w3 : (0 : Int32).toInt = 0 := li0
    have w4 : (0 : Int32).toInt = 0 := li0
    refine zs_copy (pc := 26) t64_26 (hs.k fk_zMc_156) (hs.k fk_zMc_163) (by decide) (by decide) (by decide) ⟨by omega, by omega, by omega⟩ (by omega) (by omega) ⟨Nat.le_of_ble_eq_true rfl, by decide⟩ ?_
    obtain ⟨w5M, w5e⟩ : ∃ N, N = zsR (zsI M 161 2 a) 163 (va_cpy (zI (zsI M 161 2 a) 156) (zI (zsI M 161 2 a) 163) (0 : Int32).toNatClampNeg (0 : Int32).toNatClampNeg a.toNatClampNeg) := ⟨_, rfl⟩
    have w5s : zSk zMc w5M := by rw [w5e]; exact hs
    have w5I : zIv cLo cHi w5M := by rw [w5e]; exact zIv.row w2 (fun _ => zcpyB (fun j => ib156 w2 j) (fun j => ib163 w2 j))
    have w5F : zFr [(163, 163, none)] (zsI M 161 2 a) w5M := by rw [w5e]; exact zFr.row zFr.refl (fun _ => rfl)
    have w5C : ∀ j : Nat, (j : Int) < a.toInt → zI w5M 163 j = zI (zsI M 161 2 a) 156 j := fun j hj => by rw [w5e]; exact (congrFun zRs j).trans (zcpy0 (by omega) (by omega) hj)
    rw [← w5e]
    refine zs_aload_n (pc := 29) t64_29 rfl ?_
    refine zs_iconst (pc := 30) t64_30 (v := 0) (by decide) ?_
    have w6 : zIv cLo cHi (zsI w5M 161 3 (0 : Int32)) := zIv.put w5I (show 0 ≤ (0 : Int32).toInt ∧ (0 : Int32).toInt ≤ 500 from ⟨by decide, by decide⟩)
    refine zs_putI (pc := 31) t64_31 (zk1 (w5s.k fk_zMc_161)) rfl ?_
    refine zs_aload_n (pc := 34) t64_34 rfl ?_
    refine zs_iconst (pc := 35) t64_35 (v := 0) (by decide) ?_
    have w7 : zIv cLo cHi (zsI (zsI w5M 161 3 (0 : Int32)) 161 4 (0 : Int32)) := zIv.put w6 (show 0 ≤ (0 : Int32).toInt ∧ (0 : Int32).toInt ≤ 30 from ⟨by decide, by decide⟩)
    refine zs_putI (pc := 36) t64_36 (zk1 (w5s.k fk_zMc_161)) rfl ?_
    refine zs_aload_n (pc := 39) t64_39 rfl ?_
    refine zs_iconst (pc := 40) t64_40 (v := -1) (by decide) ?_
    have w8 : zIv cLo cHi (zsI (zsI (zsI w5M 161 3 (0 : Int32)) 161 4 (0 : Int32)) 161 5 (-1 : Int32)) := zIv.put w7 (show (-2147483648) ≤ (-1 : Int32).toInt ∧ (-1 : Int32).toInt ≤ 2147483647 from zrg (-1 : Int32))
    refine zs_putI (pc := 41) t64_41 (zk1 (w5s.k fk_zMc_161)) rfl ?_
    refine zs_aload_n (pc := 44) t64_44 rfl ?_
    refine zs_iconst (pc := 45) t64_45 (v := 0) (by decide) ?_
    have w9 : (zI (zsI (zsI (zsI w5M 161 3 (0 : Int32)) 161 4 (0 : Int32)) 161 5 (-1 : Int32)) 161 2).toInt = a.toInt := (congrArg Int32.toInt ((zIoj (by decide)).trans ((zIoj (by decide)).trans ((zIoj (by decide)).trans ((w5F 161 2 rfl).trans zIs))))).trans rfl
    have w10 : (zI (zsI (zsI (zsI w5M 161 3 (0 : Int32)) 161 4 (0 : Int32)) 161 5 (-1 : Int32)) 161 3).toInt = 0 := (congrArg Int32.toInt ((zIoj (by decide)).trans ((zIoj (by decide)).trans zIs))).trans li0
    have w11 : (zI (zsI (zsI (zsI w5M 161 3 (0 : Int32)) 161 4 (0 : Int32)) 161 5 (-1 : Int32)) 161 4).toInt = 0 := (congrArg Int32.toInt ((zIoj (by decide)).trans zIs)).trans li0
    have w12 : (zI (zsI (zsI (zsI w5M 161 3 (0 : Int32)) 161 4 (0 : Int32)) 161 5 (-1 : Int32)) 161 5).toInt = (-1) := (congrArg Int32.toInt zIs).trans lin1
    have w13 := li0
    refine zs_invV9 (pc := 46) (k := 161) (as' := [.int (0 : Int32)]) (st := []) t64_46 mf65 rfl rfl (Or.inl ⟨by decide, (zk1 (w5s.k fk_zMc_161))⟩) ⟨by decide, Nat.le_of_ble_eq_true rfl, Nat.le_of_ble_eq_true rfl⟩ (RCall2 _ _ _ _ (zsy (zI M 156) a.toInt) a.toInt [] 0 0 (by decide) w5s w8 (zTr.new (((((x6.put (by decide)).F w5F rfl).put (by decide)).put (by decide)).put (by decide)) (by omega) (fun j hj => (((zIo (by decide)).trans ((zIo (by decide)).trans ((zIo (by decide)).trans (w5C j (by omega))))).trans (zIo (by decide))))) (by decide) (by decide) (by decide) zH1.n (by omega) (by omega) (by omega) (by omega) ?_) (fun _ _ q => q)
    intro w14M w14v w14s w14I w14F w14a w14b w14z
    show zGo X l 98 0 0 64 49 [(0, .ref 161), (1, .ref 156), (2, .int a)] [.int w14v] w14M _
    rcases w14z with ⟨w15x, w15f, w15n, w15e⟩ | ⟨w15f, w15p, w15t, w15e, w153, w154, w155, w156, w157⟩
    · skip
      refine zs_istore_n (pc := 49) t64_49 (ls' := [(3, .int w14v), (0, .ref 161), (1, .ref 156), (2, .int a)]) (zml mf64 (by decide)) rfl ?_
      refine zs_aload_n (pc := 50) t64_50 rfl ?_
      have w16 := zrg (zI w14M 161 5)
      refine zs_get (pc := 51) t64_51 (by decide) (zk1 (w14s.k fk_zMc_161)) (zfvi rfl rfl) ?_
      refine zs_iconst (pc := 54) t64_54 (v := -1) (by decide) ?_
      refine zs_icmp_neT (pc := 55) t64_55 rfl lin1 (by omega) ?_
      refine zs_iload_n (pc := 77) t64_77 rfl ?_
      by_cases w17 : w14v.toInt = 0
      · refine zs_if_eqT (pc := 78) t64_78 rfl (by omega) ?_
        refine zs_iconst (pc := 93) t64_93 (v := 0) (by decide) ?_
        have w18 := ib161_4 w14I
        have w19 : (zI w14M 161 4).toInt = (zI w14M 161 4).toInt := (congrArg Int32.toInt rfl).trans rfl
        have w20 : (zI w14M 161 5).toInt = (zI w14M 161 5).toInt := (congrArg Int32.toInt rfl).trans rfl
        have w21 : (zI w14M 161 2).toInt = a.toInt := (congrArg Int32.toInt ((w14F 161 2 rfl).trans ((zIoj (by decide)).trans ((zIoj (by decide)).trans ((zIoj (by decide)).trans ((w5F 161 2 rfl).trans zIs)))))).trans rfl
        exact zs_iret (pc := 94) t64_94 mr64 (by decide) (hQ _ _ w14s w14I (((((((zFr.refl).put rfl).trans (w5F.mono rfl)).put rfl).put rfl).put rfl).trans (w14F.mono rfl)) (zof.f (by omega) (by omega) w15e) (by decide) (by decide))
      · refine zs_if_eqF (pc := 78) t64_78 rfl (by omega) ?_
        refine zs_aload_n (pc := 81) t64_81 rfl ?_
        refine zs_get (pc := 82) t64_82 (by decide) (zk1 (w14s.k fk_zMc_161)) (zfvi rfl rfl) ?_
        refine zs_iconst (pc := 85) t64_85 (v := -1) (by decide) ?_
        refine zs_icmp_neT (pc := 86) t64_86 rfl lin1 (by omega) ?_
        refine zs_iconst (pc := 93) t64_93 (v := 0) (by decide) ?_
        have w22 := ib161_4 w14I
        have w23 : (zI w14M 161 4).toInt = (zI w14M 161 4).toInt := (congrArg Int32.toInt rfl).trans rfl
        have w24 : (zI w14M 161 5).toInt = (zI w14M 161 5).toInt := (congrArg Int32.toInt rfl).trans rfl
        have w25 : (zI w14M 161 2).toInt = a.toInt := (congrArg Int32.toInt ((w14F 161 2 rfl).trans ((zIoj (by decide)).trans ((zIoj (by decide)).trans ((zIoj (by decide)).trans ((w5F 161 2 rfl).trans zIs)))))).trans rfl
        exact zs_iret (pc := 94) t64_94 mr64 (by decide) (hQ _ _ w14s w14I (((((((zFr.refl).put rfl).trans (w5F.mono rfl)).put rfl).put rfl).put rfl).trans (w14F.mono rfl)) (zof.f (by omega) (by omega) w15e) (by decide) (by decide))
    · skip
      subst w154
      refine zs_istore_n (pc := 49) t64_49 (ls' := [(3, .int w14v), (0, .ref 161), (1, .ref 156), (2, .int a)]) (zml mf64 (by decide)) rfl ?_
      refine zs_aload_n (pc := 50) t64_50 rfl ?_
      have w26 := zrg (zI w14M 161 5)
      refine zs_get (pc := 51) t64_51 (by decide) (zk1 (w14s.k fk_zMc_161)) (zfvi rfl rfl) ?_
      refine zs_iconst (pc := 54) t64_54 (v := -1) (by decide) ?_
      refine zs_icmp_neF (pc := 55) t64_55 rfl lin1 (by omega) ?_
      refine zs_aload_n (pc := 58) t64_58 rfl ?_
      have w27 := ib161_3 w14I
      refine zs_get (pc := 59) t64_59 (by decide) (zk1 (w14s.k fk_zMc_161)) (zfvi rfl rfl) ?_
      refine zs_aload_n (pc := 62) t64_62 rfl ?_
      refine zs_get (pc := 63) t64_63 (by decide) (zk1 (w14s.k fk_zMc_161)) (zfvi rfl ((w14F 161 2 rfl).trans ((zIoj (by decide)).trans ((zIoj (by decide)).trans ((zIoj (by decide)).trans ((w5F 161 2 rfl).trans zIs)))))) ?_
      by_cases w28 : a.toInt ≤ (zI w14M 161 3).toInt
      · refine zs_icmp_geT (pc := 66) t64_66 rfl rfl (by omega) ?_
        refine zs_iload_n (pc := 77) t64_77 rfl ?_
        by_cases w29 : w14v.toInt = 0
        · refine zs_if_eqT (pc := 78) t64_78 rfl (by omega) ?_
          refine zs_iconst (pc := 93) t64_93 (v := 0) (by decide) ?_
          have w30 := ib161_4 w14I
          have w31 : (zI w14M 161 4).toInt = (zI w14M 161 4).toInt := (congrArg Int32.toInt rfl).trans rfl
          have w32 : (zI w14M 161 5).toInt = (zI w14M 161 5).toInt := (congrArg Int32.toInt rfl).trans rfl
          have w33 : (zI w14M 161 2).toInt = a.toInt := (congrArg Int32.toInt ((w14F 161 2 rfl).trans ((zIoj (by decide)).trans ((zIoj (by decide)).trans ((zIoj (by decide)).trans ((w5F 161 2 rfl).trans zIs)))))).trans rfl
          exact zs_iret (pc := 94) t64_94 mr64 (by decide) (hQ _ _ w14s w14I (((((((zFr.refl).put rfl).trans (w5F.mono rfl)).put rfl).put rfl).put rfl).trans (w14F.mono rfl)) (by first | exact zof.y (by omega) w15e w157 (by omega) (by omega) | exact zof.n (by omega) w15e w157 (by omega)) (by decide) (by decide))
        · refine zs_if_eqF (pc := 78) t64_78 rfl (by omega) ?_
          refine zs_aload_n (pc := 81) t64_81 rfl ?_
          refine zs_get (pc := 82) t64_82 (by decide) (zk1 (w14s.k fk_zMc_161)) (zfvi rfl rfl) ?_
          refine zs_iconst (pc := 85) t64_85 (v := -1) (by decide) ?_
          refine zs_icmp_neF (pc := 86) t64_86 rfl lin1 (by omega) ?_
          refine zs_iconst (pc := 89) t64_89 (v := 1) (by decide) ?_
          refine zs_goto (pc := 90) t64_90 ?_
          have w34 := ib161_4 w14I
          have w35 : (zI w14M 161 4).toInt = (zI w14M 161 4).toInt := (congrArg Int32.toInt rfl).trans rfl
          have w36 : (zI w14M 161 5).toInt = (zI w14M 161 5).toInt := (congrArg Int32.toInt rfl).trans rfl
          have w37 : (zI w14M 161 2).toInt = a.toInt := (congrArg Int32.toInt ((w14F 161 2 rfl).trans ((zIoj (by decide)).trans ((zIoj (by decide)).trans ((zIoj (by decide)).trans ((w5F 161 2 rfl).trans zIs)))))).trans rfl
          exact zs_iret (pc := 94) t64_94 mr64 (by decide) (hQ _ _ w14s w14I (((((((zFr.refl).put rfl).trans (w5F.mono rfl)).put rfl).put rfl).put rfl).trans (w14F.mono rfl)) (by first | exact zof.y (by omega) w15e w157 (by omega) (by omega) | exact zof.n (by omega) w15e w157 (by omega)) (by decide) (by decide))
      · refine zs_icmp_geF (pc := 66) t64_66 rfl rfl (by omega) ?_
        refine zs_aload_n (pc := 69) t64_69 rfl ?_
        refine zs_aload_n (pc := 70) t64_70 rfl ?_
        refine zs_get (pc := 71) t64_71 (by decide) (zk1 (w14s.k fk_zMc_161)) (zfvi rfl rfl) ?_
        refine zs_invV (pc := 74) (k := 161) (as' := [.int (zI w14M 161 3)]) (st := []) t64_74 mf78 rfl rfl (Or.inl ⟨by decide, (zk1 (w14s.k fk_zMc_161))⟩) ⟨by decide, by decide, Nat.le_of_ble_eq_true rfl, Nat.le_of_ble_eq_true rfl⟩ (zs_in (by decide) mf78 (Nat.le_of_ble_eq_true rfl) ?_) (fun _ _ q => q)
        show zGo X l 0 0 0 78 0 [(0, .ref 161), (1, .int (zI w14M 161 3))] [] w14M _
        refine zs_aload_n (pc := 0) t78_0 rfl ?_
        refine zs_get (pc := 1) t78_1 (by decide) (zk1 (w14s.k fk_zMc_161)) (zfvi rfl rfl) ?_
        refine zs_iconst (pc := 4) t78_4 (v := -1) (by decide) ?_
        refine zs_icmp_neF (pc := 5) t78_5 rfl lin1 (by omega) ?_
        refine zs_aload_n (pc := 8) t78_8 rfl ?_
        refine zs_iload_n (pc := 9) t78_9 rfl ?_
        have w38 : zIv cLo cHi (zsI w14M 161 5 (zI w14M 161 3)) := zIv.put w14I (show (-2147483648) ≤ (zI w14M 161 3).toInt ∧ (zI w14M 161 3).toInt ≤ 2147483647 from zrg (zI w14M 161 3))
        refine zs_putI (pc := 10) t78_10 (zk1 (w14s.k fk_zMc_161)) rfl ?_
        refine zs_vret (pc := 13) t78_13 mr78 ?_
        show zGo X l 98 0 0 64 77 [(3, .int w14v), (0, .ref 161), (1, .ref 156), (2, .int a)] [] (zsI w14M 161 5 (zI w14M 161 3)) _
        refine zs_iload_n (pc := 77) t64_77 rfl ?_
        by_cases w39 : w14v.toInt = 0
        · refine zs_if_eqT (pc := 78) t64_78 rfl (by omega) ?_
          refine zs_iconst (pc := 93) t64_93 (v := 0) (by decide) ?_
          have w40 := ib161_4 w14I
          have w41 : (zI (zsI w14M 161 5 (zI w14M 161 3)) 161 4).toInt = (zI w14M 161 4).toInt := (congrArg Int32.toInt ((zIoj (by decide)).trans rfl)).trans rfl
          have w42 : (zI (zsI w14M 161 5 (zI w14M 161 3)) 161 5).toInt = (zI w14M 161 3).toInt := (congrArg Int32.toInt zIs).trans rfl
          have w43 : (zI (zsI w14M 161 5 (zI w14M 161 3)) 161 2).toInt = a.toInt := (congrArg Int32.toInt ((zIoj (by decide)).trans ((w14F 161 2 rfl).trans ((zIoj (by decide)).trans ((zIoj (by decide)).trans ((zIoj (by decide)).trans ((w5F 161 2 rfl).trans zIs))))))).trans rfl
          exact zs_iret (pc := 94) t64_94 mr64 (by decide) (hQ _ _ w14s w38 ((((((((zFr.refl).put rfl).trans (w5F.mono rfl)).put rfl).put rfl).put rfl).trans (w14F.mono rfl)).put rfl) (by first | exact zof.y (by omega) w15e w157 (by omega) (by omega) | exact zof.n (by omega) w15e w157 (by omega)) (by decide) (by decide))
        · refine zs_if_eqF (pc := 78) t64_78 rfl (by omega) ?_
          refine zs_aload_n (pc := 81) t64_81 rfl ?_
          refine zs_get (pc := 82) t64_82 (by decide) (zk1 (w14s.k fk_zMc_161)) (zfvi rfl zIs) ?_
          refine zs_iconst (pc := 85) t64_85 (v := -1) (by decide) ?_
          refine zs_icmp_neT (pc := 86) t64_86 rfl lin1 (by omega) ?_
          refine zs_iconst (pc := 93) t64_93 (v := 0) (by decide) ?_
          have w44 := ib161_4 w14I
          have w45 : (zI (zsI w14M 161 5 (zI w14M 161 3)) 161 4).toInt = (zI w14M 161 4).toInt := (congrArg Int32.toInt ((zIoj (by decide)).trans rfl)).trans rfl
          have w46 : (zI (zsI w14M 161 5 (zI w14M 161 3)) 161 5).toInt = (zI w14M 161 3).toInt := (congrArg Int32.toInt zIs).trans rfl
          have w47 : (zI (zsI w14M 161 5 (zI w14M 161 3)) 161 2).toInt = a.toInt := (congrArg Int32.toInt ((zIoj (by decide)).trans ((w14F 161 2 rfl).trans ((zIoj (by decide)).trans ((zIoj (by decide)).trans ((zIoj (by decide)).trans ((w5F 161 2 rfl).trans zIs))))))).trans rfl
          exact zs_iret (pc := 94) t64_94 mr64 (by decide) (hQ _ _ w14s w38 ((((((((zFr.refl).put rfl).trans (w5F.mono rfl)).put rfl).put rfl).put rfl).trans (w14F.mono rfl)).put rfl) (by first | exact zof.y (by omega) w15e w157 (by omega) (by omega) | exact zof.n (by omega) w15e w157 (by omega)) (by decide) (by decide))
  · refine zs_icmp_ltF (pc := 2) t21_2 li0 rfl (by omega) ?_
    refine zs_iload_n (pc := 5) t21_5 rfl ?_
    refine zs_goto (pc := 6) t21_6 ?_
    refine zs_iret (pc := 10) t21_10 mr21 (by decide) ?_
    show zGo X l 98 0 0 64 12 [(0, .ref 161), (1, .ref 156), (2, .int a)] [.int (0 : Int32), .ref 161] M _
    have w48 : zIv cLo cHi (zsI M 161 2 (0 : Int32)) := zIv.put hI (show 0 ≤ (0 : Int32).toInt ∧ (0 : Int32).toInt ≤ 500 from ⟨by decide, by decide⟩)
    refine zs_putI (pc := 12) t64_12 (zk1 (hs.k fk_zMc_161)) rfl ?_
    refine zs_aload_n (pc := 15) t64_15 rfl ?_
    refine zs_iconst (pc := 16) t64_16 (v := 0) (by decide) ?_
    refine zs_aload_n (pc := 17) t64_17 rfl ?_
    refine zs_get (pc := 18) t64_18 (by decide) (zk1 (hs.k fk_zMc_161)) (hs.p rfl fv_zMc_161_1) ?_
    refine zs_iconst (pc := 21) t64_21 (v := 0) (by decide) ?_
    refine zs_aload_n (pc := 22) t64_22 rfl ?_
    refine zs_get (pc := 23) t64_23 (by decide) (zk1 (hs.k fk_zMc_161)) (zfvi rfl zIs) ?_
    have w49 : (0 : Int32).toInt = 0 := li0
    have w50 : (0 : Int32).toInt = 0 := li0
    have w51 : (0 : Int32).toInt = 0 := li0
    refine zs_copy (pc := 26) t64_26 (hs.k fk_zMc_156) (hs.k fk_zMc_163) (by decide) (by decide) (by decide) ⟨by omega, by omega, by omega⟩ (by omega) (by omega) ⟨Nat.le_of_ble_eq_true rfl, by decide⟩ ?_
    obtain ⟨w52M, w52e⟩ : ∃ N, N = zsR (zsI M 161 2 (0 : Int32)) 163 (va_cpy (zI (zsI M 161 2 (0 : Int32)) 156) (zI (zsI M 161 2 (0 : Int32)) 163) (0 : Int32).toNatClampNeg (0 : Int32).toNatClampNeg (0 : Int32).toNatClampNeg) := ⟨_, rfl⟩
    have w52s : zSk zMc w52M := by rw [w52e]; exact hs
    have w52I : zIv cLo cHi w52M := by rw [w52e]; exact zIv.row w48 (fun _ => zcpyB (fun j => ib156 w48 j) (fun j => ib163 w48 j))
    have w52F : zFr [(163, 163, none)] (zsI M 161 2 (0 : Int32)) w52M := by rw [w52e]; exact zFr.row zFr.refl (fun _ => rfl)
    have w52C : ∀ j : Nat, (j : Int) < (0 : Int32).toInt → zI w52M 163 j = zI (zsI M 161 2 (0 : Int32)) 156 j := fun j hj => by rw [w52e]; exact (congrFun zRs j).trans (zcpy0 (by omega) (by omega) hj)
    rw [← w52e]
    refine zs_aload_n (pc := 29) t64_29 rfl ?_
    refine zs_iconst (pc := 30) t64_30 (v := 0) (by decide) ?_
    have w53 : zIv cLo cHi (zsI w52M 161 3 (0 : Int32)) := zIv.put w52I (show 0 ≤ (0 : Int32).toInt ∧ (0 : Int32).toInt ≤ 500 from ⟨by decide, by decide⟩)
    refine zs_putI (pc := 31) t64_31 (zk1 (w52s.k fk_zMc_161)) rfl ?_
    refine zs_aload_n (pc := 34) t64_34 rfl ?_
    refine zs_iconst (pc := 35) t64_35 (v := 0) (by decide) ?_
    have w54 : zIv cLo cHi (zsI (zsI w52M 161 3 (0 : Int32)) 161 4 (0 : Int32)) := zIv.put w53 (show 0 ≤ (0 : Int32).toInt ∧ (0 : Int32).toInt ≤ 30 from ⟨by decide, by decide⟩)
    refine zs_putI (pc := 36) t64_36 (zk1 (w52s.k fk_zMc_161)) rfl ?_
    refine zs_aload_n (pc := 39) t64_39 rfl ?_
    refine zs_iconst (pc := 40) t64_40 (v := -1) (by decide) ?_
    have w55 : zIv cLo cHi (zsI (zsI (zsI w52M 161 3 (0 : Int32)) 161 4 (0 : Int32)) 161 5 (-1 : Int32)) := zIv.put w54 (show (-2147483648) ≤ (-1 : Int32).toInt ∧ (-1 : Int32).toInt ≤ 2147483647 from zrg (-1 : Int32))
    refine zs_putI (pc := 41) t64_41 (zk1 (w52s.k fk_zMc_161)) rfl ?_
    refine zs_aload_n (pc := 44) t64_44 rfl ?_
    refine zs_iconst (pc := 45) t64_45 (v := 0) (by decide) ?_
    have w56 : (zI (zsI (zsI (zsI w52M 161 3 (0 : Int32)) 161 4 (0 : Int32)) 161 5 (-1 : Int32)) 161 2).toInt = 0 := (congrArg Int32.toInt ((zIoj (by decide)).trans ((zIoj (by decide)).trans ((zIoj (by decide)).trans ((w52F 161 2 rfl).trans zIs))))).trans li0
    have w57 : (zI (zsI (zsI (zsI w52M 161 3 (0 : Int32)) 161 4 (0 : Int32)) 161 5 (-1 : Int32)) 161 3).toInt = 0 := (congrArg Int32.toInt ((zIoj (by decide)).trans ((zIoj (by decide)).trans zIs))).trans li0
    have w58 : (zI (zsI (zsI (zsI w52M 161 3 (0 : Int32)) 161 4 (0 : Int32)) 161 5 (-1 : Int32)) 161 4).toInt = 0 := (congrArg Int32.toInt ((zIoj (by decide)).trans zIs)).trans li0
    have w59 : (zI (zsI (zsI (zsI w52M 161 3 (0 : Int32)) 161 4 (0 : Int32)) 161 5 (-1 : Int32)) 161 5).toInt = (-1) := (congrArg Int32.toInt zIs).trans lin1
    have w60 := li0
    refine zs_invV9 (pc := 46) (k := 161) (as' := [.int (0 : Int32)]) (st := []) t64_46 mf65 rfl rfl (Or.inl ⟨by decide, (zk1 (w52s.k fk_zMc_161))⟩) ⟨by decide, Nat.le_of_ble_eq_true rfl, Nat.le_of_ble_eq_true rfl⟩ (RCall2 _ _ _ _ (zsy (zI M 156) a.toInt) a.toInt [] 0 0 (by decide) w52s w55 (zTr.new (((((x6.put (by decide)).F w52F rfl).put (by decide)).put (by decide)).put (by decide)) (by omega) (fun j hj => (((zIo (by decide)).trans ((zIo (by decide)).trans ((zIo (by decide)).trans (w52C j (by omega))))).trans (zIo (by decide))))) (by decide) (by decide) (by decide) zH1.n (by omega) (by omega) (by omega) (by omega) ?_) (fun _ _ q => q)
    intro w61M w61v w61s w61I w61F w61a w61b w61z
    show zGo X l 98 0 0 64 49 [(0, .ref 161), (1, .ref 156), (2, .int a)] [.int w61v] w61M _
    rcases w61z with ⟨w62x, w62f, w62n, w62e⟩ | ⟨w62f, w62p, w62t, w62e, w623, w624, w625, w626, w627⟩
    · skip
      refine zs_istore_n (pc := 49) t64_49 (ls' := [(3, .int w61v), (0, .ref 161), (1, .ref 156), (2, .int a)]) (zml mf64 (by decide)) rfl ?_
      refine zs_aload_n (pc := 50) t64_50 rfl ?_
      have w63 := zrg (zI w61M 161 5)
      refine zs_get (pc := 51) t64_51 (by decide) (zk1 (w61s.k fk_zMc_161)) (zfvi rfl rfl) ?_
      refine zs_iconst (pc := 54) t64_54 (v := -1) (by decide) ?_
      refine zs_icmp_neT (pc := 55) t64_55 rfl lin1 (by omega) ?_
      refine zs_iload_n (pc := 77) t64_77 rfl ?_
      by_cases w64 : w61v.toInt = 0
      · refine zs_if_eqT (pc := 78) t64_78 rfl (by omega) ?_
        refine zs_iconst (pc := 93) t64_93 (v := 0) (by decide) ?_
        have w65 := ib161_4 w61I
        have w66 : (zI w61M 161 4).toInt = (zI w61M 161 4).toInt := (congrArg Int32.toInt rfl).trans rfl
        have w67 : (zI w61M 161 5).toInt = (zI w61M 161 5).toInt := (congrArg Int32.toInt rfl).trans rfl
        have w68 : (zI w61M 161 2).toInt = 0 := (congrArg Int32.toInt ((w61F 161 2 rfl).trans ((zIoj (by decide)).trans ((zIoj (by decide)).trans ((zIoj (by decide)).trans ((w52F 161 2 rfl).trans zIs)))))).trans li0
        exact zs_iret (pc := 94) t64_94 mr64 (by decide) (hQ _ _ w61s w61I (((((((zFr.refl).put rfl).trans (w52F.mono rfl)).put rfl).put rfl).put rfl).trans (w61F.mono rfl)) (zof.f (by omega) (by omega) w62e) (by decide) (by decide))
      · refine zs_if_eqF (pc := 78) t64_78 rfl (by omega) ?_
        refine zs_aload_n (pc := 81) t64_81 rfl ?_
        refine zs_get (pc := 82) t64_82 (by decide) (zk1 (w61s.k fk_zMc_161)) (zfvi rfl rfl) ?_
        refine zs_iconst (pc := 85) t64_85 (v := -1) (by decide) ?_
        refine zs_icmp_neT (pc := 86) t64_86 rfl lin1 (by omega) ?_
        refine zs_iconst (pc := 93) t64_93 (v := 0) (by decide) ?_
        have w69 := ib161_4 w61I
        have w70 : (zI w61M 161 4).toInt = (zI w61M 161 4).toInt := (congrArg Int32.toInt rfl).trans rfl
        have w71 : (zI w61M 161 5).toInt = (zI w61M 161 5).toInt := (congrArg Int32.toInt rfl).trans rfl
        have w72 : (zI w61M 161 2).toInt = 0 := (congrArg Int32.toInt ((w61F 161 2 rfl).trans ((zIoj (by decide)).trans ((zIoj (by decide)).trans ((zIoj (by decide)).trans ((w52F 161 2 rfl).trans zIs)))))).trans li0
        exact zs_iret (pc := 94) t64_94 mr64 (by decide) (hQ _ _ w61s w61I (((((((zFr.refl).put rfl).trans (w52F.mono rfl)).put rfl).put rfl).put rfl).trans (w61F.mono rfl)) (zof.f (by omega) (by omega) w62e) (by decide) (by decide))
    · skip
      subst w624
      refine zs_istore_n (pc := 49) t64_49 (ls' := [(3, .int w61v), (0, .ref 161), (1, .ref 156), (2, .int a)]) (zml mf64 (by decide)) rfl ?_
      refine zs_aload_n (pc := 50) t64_50 rfl ?_
      have w73 := zrg (zI w61M 161 5)
      refine zs_get (pc := 51) t64_51 (by decide) (zk1 (w61s.k fk_zMc_161)) (zfvi rfl rfl) ?_
      refine zs_iconst (pc := 54) t64_54 (v := -1) (by decide) ?_
      refine zs_icmp_neF (pc := 55) t64_55 rfl lin1 (by omega) ?_
      refine zs_aload_n (pc := 58) t64_58 rfl ?_
      have w74 := ib161_3 w61I
      refine zs_get (pc := 59) t64_59 (by decide) (zk1 (w61s.k fk_zMc_161)) (zfvi rfl rfl) ?_
      refine zs_aload_n (pc := 62) t64_62 rfl ?_
      refine zs_get (pc := 63) t64_63 (by decide) (zk1 (w61s.k fk_zMc_161)) (zfvi rfl ((w61F 161 2 rfl).trans ((zIoj (by decide)).trans ((zIoj (by decide)).trans ((zIoj (by decide)).trans ((w52F 161 2 rfl).trans zIs)))))) ?_
      refine zs_icmp_geT (pc := 66) t64_66 rfl li0 (by omega) ?_
      refine zs_iload_n (pc := 77) t64_77 rfl ?_
      by_cases w75 : w61v.toInt = 0
      · refine zs_if_eqT (pc := 78) t64_78 rfl (by omega) ?_
        refine zs_iconst (pc := 93) t64_93 (v := 0) (by decide) ?_
        have w76 := ib161_4 w61I
        have w77 : (zI w61M 161 4).toInt = (zI w61M 161 4).toInt := (congrArg Int32.toInt rfl).trans rfl
        have w78 : (zI w61M 161 5).toInt = (zI w61M 161 5).toInt := (congrArg Int32.toInt rfl).trans rfl
        have w79 : (zI w61M 161 2).toInt = 0 := (congrArg Int32.toInt ((w61F 161 2 rfl).trans ((zIoj (by decide)).trans ((zIoj (by decide)).trans ((zIoj (by decide)).trans ((w52F 161 2 rfl).trans zIs)))))).trans li0
        exact zs_iret (pc := 94) t64_94 mr64 (by decide) (hQ _ _ w61s w61I (((((((zFr.refl).put rfl).trans (w52F.mono rfl)).put rfl).put rfl).put rfl).trans (w61F.mono rfl)) (by first | exact zof.y (by omega) w62e w627 (by omega) (by omega) | exact zof.n (by omega) w62e w627 (by omega)) (by decide) (by decide))
      · refine zs_if_eqF (pc := 78) t64_78 rfl (by omega) ?_
        refine zs_aload_n (pc := 81) t64_81 rfl ?_
        refine zs_get (pc := 82) t64_82 (by decide) (zk1 (w61s.k fk_zMc_161)) (zfvi rfl rfl) ?_
        refine zs_iconst (pc := 85) t64_85 (v := -1) (by decide) ?_
        refine zs_icmp_neF (pc := 86) t64_86 rfl lin1 (by omega) ?_
        refine zs_iconst (pc := 89) t64_89 (v := 1) (by decide) ?_
        refine zs_goto (pc := 90) t64_90 ?_
        have w80 := ib161_4 w61I
        have w81 : (zI w61M 161 4).toInt = (zI w61M 161 4).toInt := (congrArg Int32.toInt rfl).trans rfl
        have w82 : (zI w61M 161 5).toInt = (zI w61M 161 5).toInt := (congrArg Int32.toInt rfl).trans rfl
        have w83 : (zI w61M 161 2).toInt = 0 := (congrArg Int32.toInt ((w61F 161 2 rfl).trans ((zIoj (by decide)).trans ((zIoj (by decide)).trans ((zIoj (by decide)).trans ((w52F 161 2 rfl).trans zIs)))))).trans li0
        exact zs_iret (pc := 94) t64_94 mr64 (by decide) (hQ _ _ w61s w61I (((((((zFr.refl).put rfl).trans (w52F.mono rfl)).put rfl).put rfl).put rfl).trans (w61F.mono rfl)) (by first | exact zof.y (by omega) w62e w627 (by omega) (by omega) | exact zof.n (by omega) w62e w627 (by omega)) (by decide) (by decide))
