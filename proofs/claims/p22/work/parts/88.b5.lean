set_option maxHeartbeats 8000000 in
theorem V109_242 {X : zX} {l : Launch} {M : zM} {Q : Option Value → zM → Prop} (hs : zSk zMc M) (hI : zIv cLo cHi M) {F : Nat → Int} (x0 : zSo M 7 F) (x1 : zWF F) (hQ : ∀ M', zSk zMc M' → zIv cLo cHi M' → zFr [(245, 246, none)] M M' → ((zI M' 242 5).toInt = F 7 → zPn M' 242 245 246 F) → Q none M') : zCall X l 2 0 0 109 [.ref 242, .ref 7] M Q := by
  refine zs_in (by decide) mf109 (Nat.le_of_ble_eq_true rfl) ?_
  show zGo X l 2 0 0 109 0 [(0, .ref 242), (1, .ref 7)] [] M _
  have f0 := x0.1
  have w1 := ib7_0 hI
  have w2 : (zI M 7 0).toInt = (zI M 7 0).toInt := (congrArg Int32.toInt rfl).trans rfl
  have w3 := ib7_3 hI
  have w4 : (zI M 7 3).toInt = (zI M 7 3).toInt := (congrArg Int32.toInt rfl).trans rfl
  have w5 := ib7_8 hI
  have w6 : (zI M 7 8).toInt = (zI M 7 8).toInt := (congrArg Int32.toInt rfl).trans rfl
  have f1 := x1.1
  have f3 := x1.2.2.2
  have f2 := (show (zI M 7 0).toInt = F 0 ∧ (zI M 7 3).toInt = F 1 ∧ (zI M 7 8).toInt = F 2 from ⟨x0.1.1, x0.1.2.1, x0.1.2.2.1⟩)
  refine zs_aload_n (pc := 0) t109_0 rfl ?_
  refine zs_iconst (pc := 1) t109_1 (v := 0) (by decide) ?_
  refine zs_invV (pc := 2) (k := 7) (as' := [.int (0 : Int32)]) (st := []) t109_2 mf96 rfl rfl (Or.inl ⟨by decide, (zk1 (hs.k fk_zMc_7))⟩) ⟨by decide, by decide, Nat.le_of_ble_eq_true rfl, Nat.le_of_ble_eq_true rfl⟩ (zs_in (by decide) mf96 (Nat.le_of_ble_eq_true rfl) ?_) (fun _ _ q => q)
  show zGo X l 0 0 0 96 0 [(0, .ref 7), (1, .int (0 : Int32))] [] M _
  refine zs_iload_n (pc := 0) t96_0 rfl ?_
  refine zs_if_ltF (pc := 1) t96_1 li0 (by decide) ?_
  refine zs_iload_n (pc := 4) t96_4 rfl ?_
  refine zs_bipush (pc := 5) t96_5 (v := 9) (by decide) ?_
  refine zs_icmp_geF (pc := 7) t96_7 li0 li9 (by decide) ?_
  refine zs_aload_n (pc := 10) t96_10 rfl ?_
  refine zs_get (pc := 11) t96_11 (by decide) (zk1 (hs.k fk_zMc_7)) (hs.p rfl fv_zMc_7_12) ?_
  refine zs_iload_n (pc := 14) t96_14 rfl ?_
  have w7 := ib17 hI 0
  have w8 : (zI M 17 0).toInt = F 5 := x0.2.2.2.2.1 0 (by decide)
  refine zs_iald (pc := 15) t96_15 (j := 0) (by decide) (zk1 (hs.k fk_zMc_17)) li0 (zk2 (hs.k fk_zMc_17) (by decide)) rfl ?_
  refine zs_goto (pc := 16) t96_16 ?_
  refine zs_iret (pc := 20) t96_20 mr96 rfl ?_
  show zGo X l 2 0 0 109 5 [(0, .ref 242), (1, .ref 7)] [.int (zI M 17 0)] M _
  refine zs_iconst (pc := 5) t109_5 (v := 3) (by decide) ?_
  refine zs_invS (pc := 6) (as := [.int (zI M 17 0), .int (3 : Int32)]) (st := []) t109_6 (by decide) mf20 rfl rfl ⟨by decide, by decide, Nat.le_of_ble_eq_true rfl, Nat.le_of_ble_eq_true rfl⟩ (zs_in (by decide) mf20 (Nat.le_of_ble_eq_true rfl) ?_) (fun _ _ q => q)
  show zGo X l 0 0 0 20 0 [(0, .int (zI M 17 0)), (1, .int (3 : Int32))] [] M _
  refine zs_iload_n (pc := 0) t20_0 rfl ?_
  refine zs_iload_n (pc := 1) t20_1 rfl ?_
  by_cases w9 : 3 < (zI M 17 0).toInt
  · refine zs_icmp_gtT (pc := 2) t20_2 rfl li3 (by omega) ?_
    refine zs_iload_n (pc := 9) t20_9 rfl ?_
    refine zs_iret (pc := 10) t20_10 mr20 (by decide) ?_
    show zGo X l 2 0 0 109 9 [(0, .ref 242), (1, .ref 7)] [.int (3 : Int32)] M _
    refine zs_istore_n (pc := 9) t109_9 (ls' := [(2, .int (3 : Int32)), (0, .ref 242), (1, .ref 7)]) (zml mf109 (by decide)) rfl ?_
    refine zs_aload_n (pc := 10) t109_10 rfl ?_
    refine zs_iconst (pc := 11) t109_11 (v := 1) (by decide) ?_
    refine zs_invV (pc := 12) (k := 7) (as' := [.int (1 : Int32)]) (st := []) t109_12 mf96 rfl rfl (Or.inl ⟨by decide, (zk1 (hs.k fk_zMc_7))⟩) ⟨by decide, by decide, Nat.le_of_ble_eq_true rfl, Nat.le_of_ble_eq_true rfl⟩ (zs_in (by decide) mf96 (Nat.le_of_ble_eq_true rfl) ?_) (fun _ _ q => q)
    show zGo X l 0 0 0 96 0 [(0, .ref 7), (1, .int (1 : Int32))] [] M _
    refine zs_iload_n (pc := 0) t96_0 rfl ?_
    refine zs_if_ltF (pc := 1) t96_1 li1 (by decide) ?_
    refine zs_iload_n (pc := 4) t96_4 rfl ?_
    refine zs_bipush (pc := 5) t96_5 (v := 9) (by decide) ?_
    refine zs_icmp_geF (pc := 7) t96_7 li1 li9 (by decide) ?_
    refine zs_aload_n (pc := 10) t96_10 rfl ?_
    refine zs_get (pc := 11) t96_11 (by decide) (zk1 (hs.k fk_zMc_7)) (hs.p rfl fv_zMc_7_12) ?_
    refine zs_iload_n (pc := 14) t96_14 rfl ?_
    have w10 := ib17 hI 1
    have w11 : (zI M 17 1).toInt = F 6 := x0.2.2.2.2.1 1 (by decide)
    refine zs_iald (pc := 15) t96_15 (j := 1) (by decide) (zk1 (hs.k fk_zMc_17)) li1 (zk2 (hs.k fk_zMc_17) (by decide)) rfl ?_
    refine zs_goto (pc := 16) t96_16 ?_
    refine zs_iret (pc := 20) t96_20 mr96 rfl ?_
    show zGo X l 2 0 0 109 15 [(2, .int (3 : Int32)), (0, .ref 242), (1, .ref 7)] [.int (zI M 17 1)] M _
    refine zs_bipush (pc := 15) t109_15 (v := 20) (by decide) ?_
    refine zs_invS (pc := 17) (as := [.int (zI M 17 1), .int (20 : Int32)]) (st := []) t109_17 (by decide) mf20 rfl rfl ⟨by decide, by decide, Nat.le_of_ble_eq_true rfl, Nat.le_of_ble_eq_true rfl⟩ (zs_in (by decide) mf20 (Nat.le_of_ble_eq_true rfl) ?_) (fun _ _ q => q)
    show zGo X l 0 0 0 20 0 [(0, .int (zI M 17 1)), (1, .int (20 : Int32))] [] M _
    refine zs_iload_n (pc := 0) t20_0 rfl ?_
    refine zs_iload_n (pc := 1) t20_1 rfl ?_
    by_cases w12 : 20 < (zI M 17 1).toInt
    · refine zs_icmp_gtT (pc := 2) t20_2 rfl li20 (by omega) ?_
      refine zs_iload_n (pc := 9) t20_9 rfl ?_
      refine zs_iret (pc := 10) t20_10 mr20 (by decide) ?_
      show zGo X l 2 0 0 109 20 [(2, .int (3 : Int32)), (0, .ref 242), (1, .ref 7)] [.int (20 : Int32)] M _
      refine zs_istore_n (pc := 20) t109_20 (ls' := [(3, .int (20 : Int32)), (2, .int (3 : Int32)), (0, .ref 242), (1, .ref 7)]) (zml mf109 (by decide)) rfl ?_
      refine zs_iconst (pc := 21) t109_21 (v := 0) (by decide) ?_
      refine zs_istore (pc := 22) t109_22 (ls' := [(4, .int (0 : Int32)), (3, .int (20 : Int32)), (2, .int (3 : Int32)), (0, .ref 242), (1, .ref 7)]) (zml mf109 (by decide)) rfl ?_
      have w13L : ∀ (m : Nat) (w13x4 : Int32) (w13M : zM), (0 ≤ w13x4.toInt ∧ w13x4.toInt ≤ 8) → zSk zMc w13M → zIv cLo cHi w13M → zFr [(245, 246, none)] M w13M → (w13x4.toInt ≤ F 0) → (zBl2 w13M 245 F w13x4.toInt (-F 5)) → (zSl2 w13M 246 F w13x4.toInt (-F 6)) → 8 - w13x4.toInt ≤ (m : Int) → zGo X l 2 0 0 109 24 [(0, .ref 242), (1, .ref 7), (2, .int (3 : Int32)), (3, .int (20 : Int32)), (4, .int w13x4)] [] w13M Q := by
        intro m
        induction m using Nat.strongRecOn with
        | ind w13m w13ih =>
          intro w13x4 w13M w13b4 w13s w13I w13F w13r0 w13t0 w13t1 w13q
          refine zs_iload (pc := 24) t109_24 rfl ?_
          refine zs_aload_n (pc := 26) t109_26 rfl ?_
          refine zs_get (pc := 27) t109_27 (by decide) (zk1 (w13s.k fk_zMc_7)) (zfvi rfl ((w13F 7 0 rfl).trans rfl)) ?_
          by_cases w14 : (zI M 7 0).toInt ≤ w13x4.toInt
          · refine zs_icmp_geT (pc := 30) t109_30 rfl rfl (by omega) ?_
            exact zs_vret (pc := 118) t109_118 mr109 (hQ _ w13s w13I ((zFr.refl).trans (w13F.mono rfl)) (fun h => zPn.mk h w13t0 w13t1 (by omega)))
          · refine zs_icmp_geF (pc := 30) t109_30 rfl rfl (by omega) ?_
            refine zs_iload_n (pc := 33) t109_33 rfl ?_
            refine zs_ineg (pc := 34) t109_34 (c := -3) (by decide) ?_
            refine zs_istore (pc := 35) t109_35 (ls' := [(5, .int (-3 : Int32)), (0, .ref 242), (1, .ref 7), (2, .int (3 : Int32)), (3, .int (20 : Int32)), (4, .int w13x4)]) (zml mf109 (by decide)) rfl ?_
            have w15L : ∀ (m : Nat) (w15x5 : Int32) (w15M : zM), ((-3) ≤ w15x5.toInt ∧ w15x5.toInt ≤ 4) → zSk zMc w15M → zIv cLo cHi w15M → zFr [(245, 246, none)] w13M w15M → (-F 5 ≤ w15x5.toInt) → (w15x5.toInt ≤ F 5 + 1) → (zBl2 w15M 245 F w13x4.toInt w15x5.toInt) → (zSl2 w15M 246 F w13x4.toInt (-F 6)) → 4 - w15x5.toInt ≤ (m : Int) → zGo X l 2 0 0 109 37 [(0, .ref 242), (1, .ref 7), (2, .int (3 : Int32)), (3, .int (20 : Int32)), (4, .int w13x4), (5, .int w15x5)] [] w15M Q := by
              intro m
              induction m using Nat.strongRecOn with
              | ind w15m w15ih =>
                intro w15x5 w15M w15b5 w15s w15I w15F w15r0 w15r1 w15t0 w15t1 w15q
                refine zs_iload (pc := 37) t109_37 rfl ?_
                refine zs_iload_n (pc := 39) t109_39 rfl ?_
                by_cases w16 : 3 < w15x5.toInt
                · refine zs_icmp_gtT (pc := 40) t109_40 rfl li3 (by omega) ?_
                  refine zs_iload_n (pc := 72) t109_72 rfl ?_
                  refine zs_ineg (pc := 73) t109_73 (c := -20) (by decide) ?_
                  refine zs_istore (pc := 74) t109_74 (ls' := [(5, .int (-20 : Int32)), (0, .ref 242), (1, .ref 7), (2, .int (3 : Int32)), (3, .int (20 : Int32)), (4, .int w13x4)]) (zml mf109 (by decide)) rfl ?_
                  have w17L : ∀ (m : Nat) (w17x5 : Int32) (w17M : zM), ((-20) ≤ w17x5.toInt ∧ w17x5.toInt ≤ 21) → zSk zMc w17M → zIv cLo cHi w17M → zFr [(245, 246, none)] w15M w17M → (-F 6 ≤ w17x5.toInt) → (w17x5.toInt ≤ F 6 + 1) → (zBl2 w17M 245 F w13x4.toInt (F 5 + 1)) → (zSl2 w17M 246 F w13x4.toInt w17x5.toInt) → 21 - w17x5.toInt ≤ (m : Int) → zGo X l 2 0 0 109 76 [(0, .ref 242), (1, .ref 7), (2, .int (3 : Int32)), (3, .int (20 : Int32)), (4, .int w13x4), (5, .int w17x5)] [] w17M Q := by
                    intro m
                    induction m using Nat.strongRecOn with
                    | ind w17m w17ih =>
                      intro w17x5 w17M w17b5 w17s w17I w17F w17r0 w17r1 w17t0 w17t1 w17q
                      refine zs_iload (pc := 76) t109_76 rfl ?_
                      refine zs_iload_n (pc := 78) t109_78 rfl ?_
                      by_cases w18 : 20 < w17x5.toInt
                      · refine zs_icmp_gtT (pc := 79) t109_79 rfl li20 (by omega) ?_
                        obtain ⟨w19v, w19e, w19⟩ := ziadd (a := w13x4) (b := Int32.ofInt 1) rfl (show (Int32.ofInt 1).toInt = 1 by decide) (by omega) (by omega)
                        refine zs_iinc (pc := 112) t109_112 (ls' := [(4, .int w19v), (0, .ref 242), (1, .ref 7), (2, .int (3 : Int32)), (3, .int (20 : Int32)), (5, .int w17x5)]) (zml mf109 (by decide)) rfl (c := w19v) w19e rfl ?_
                        refine zs_goto (pc := 115) t109_115 ?_
                        refine zGo.locals (ls' := [(0, .ref 242), (1, .ref 7), (2, .int (3 : Int32)), (3, .int (20 : Int32)), (4, .int w19v)]) (by simp) ?_
                        have w20 := w19
                        exact w13ih (w13m - 1) (by omega) w19v w17M ⟨by omega, by omega⟩ w17s w17I ((((zFr.refl).trans (w13F.mono rfl)).trans (w15F.mono rfl)).trans (w17F.mono rfl)) (by omega) (w17t0.next (by omega) (by omega) (by omega)) (w17t1.next (by omega) (by omega) (by omega)) (by omega)
                      · refine zs_icmp_gtF (pc := 79) t109_79 rfl li20 (by omega) ?_
                        refine zs_aload_n (pc := 82) t109_82 rfl ?_
                        refine zs_get (pc := 83) t109_83 (by decide) (zk1 (w17s.k fk_zMc_242)) (w17s.p rfl fv_zMc_242_4) ?_
                        refine zs_iload (pc := 86) t109_86 rfl ?_
                        refine zs_bipush (pc := 88) t109_88 (v := 20) (by decide) ?_
                        obtain ⟨w21v, w21e, w21⟩ := ziadd (a := w17x5) (b := (20 : Int32)) rfl li20 (by omega) (by omega)
                        refine zs_iadd (pc := 90) t109_90 (c := w21v) w21e ?_
                        refine zs_bipush (pc := 91) t109_91 (v := 8) (by decide) ?_
                        obtain ⟨w22v, w22⟩ : ∃ v, w21v * (8 : Int32) = v := ⟨_, rfl⟩
                        have w22g : w22v.toInt = (w17x5.toInt + 20) * 8 := by rw [← w22]; exact zmulc w21 li8 (by omega) (by omega)
                        refine zs_imul (pc := 93) t109_93 (c := w22v) w22 ?_
                        refine zs_iload (pc := 94) t109_94 rfl ?_
                        obtain ⟨w23v, w23e, w23⟩ := ziadd (a := w22v) (b := w13x4) w22g rfl (by omega) (by omega)
                        refine zs_iadd (pc := 96) t109_96 (c := w23v) w23e ?_
                        refine zs_aload_n (pc := 97) t109_97 rfl ?_
                        refine zs_iload (pc := 98) t109_98 rfl ?_
                        refine zs_iload (pc := 100) t109_100 rfl ?_
                        refine zs_invV (pc := 102) (k := 7) (as' := [.int w13x4, .int w17x5]) (st := [.int w23v, .ref 246]) t109_102 mf53 rfl rfl (Or.inl ⟨by decide, (zk1 (w17s.k fk_zMc_7))⟩) ⟨by decide, by decide, Nat.le_of_ble_eq_true rfl, Nat.le_of_ble_eq_true rfl⟩ (X53_7 w17s w17I (zSo.fr x0 (zEq.tr (zEq.tr (zFr.eq w13F rfl) (zFr.eq w15F rfl)) (zFr.eq w17F rfl))) x1 ?_) (fun _ _ q => q)
                        intro w24v w24x0
                        obtain ⟨w25n, w25⟩ : ∃ n : Nat, w13x4.toInt = (n : Int) := ⟨(w13x4.toInt).toNat, by omega⟩
                        have w26 := x1.2.1 w25n (by omega)
                        have w24q := w24x0 w25n (by omega) (by omega) (by omega) (by omega)
                        have w24g := zrg w24v
                        show zGo X l 2 0 0 109 105 [(0, .ref 242), (1, .ref 7), (2, .int (3 : Int32)), (3, .int (20 : Int32)), (4, .int w13x4), (5, .int w17x5)] [.int w24v, .int w23v, .ref 246] w17M _
                        obtain ⟨w27n, w27⟩ : ∃ n : Nat, w23v.toInt = (n : Int) := ⟨w23v.toInt.toNat, by omega⟩
                        have w28 : zIv cLo cHi (zsI w17M 246 w27n w24v) := zIv.put w17I (show (-2147483648) ≤ w24v.toInt ∧ w24v.toInt ≤ 2147483647 from zrg w24v)
                        refine zs_iast (pc := 105) t109_105 (j := w27n) (by decide) (zk1 (w17s.k fk_zMc_246)) w27 (zk2 (w17s.k fk_zMc_246) (by omega)) ?_
                        obtain ⟨w29v, w29e, w29⟩ := ziadd (a := w17x5) (b := Int32.ofInt 1) rfl (show (Int32.ofInt 1).toInt = 1 by decide) (by omega) (by omega)
                        refine zs_iinc (pc := 106) t109_106 (ls' := [(5, .int w29v), (0, .ref 242), (1, .ref 7), (2, .int (3 : Int32)), (3, .int (20 : Int32)), (4, .int w13x4)]) (zml mf109 (by decide)) rfl (c := w29v) w29e rfl ?_
                        refine zs_goto (pc := 109) t109_109 ?_
                        refine zGo.locals (ls' := [(0, .ref 242), (1, .ref 7), (2, .int (3 : Int32)), (3, .int (20 : Int32)), (4, .int w13x4), (5, .int w29v)]) (by simp) ?_
                        have w30 := w29
                        exact w17ih (w17m - 1) (by omega) w29v (zsI w17M 246 w27n w24v) ⟨by omega, by omega⟩ w17s w28 (((zFr.refl).trans (w17F.mono rfl)).put rfl) (by omega) (by omega) (w17t0.fr (fun j => ((zIo (by decide)).trans rfl))) (w17t1.put (i := w25n) (o := w27n) (by omega) (by omega) (by omega) (by omega) ((congrArg Int32.toInt (zIs)).trans w24q) (fun j q => ((zIoj q).trans rfl))) (by omega)
                  refine zGo.locals (ls' := [(0, .ref 242), (1, .ref 7), (2, .int (3 : Int32)), (3, .int (20 : Int32)), (4, .int w13x4), (5, .int (-20 : Int32))]) (by simp) ?_
                  have w31 := lin20
                  exact w17L ((21 - (-20) : Int).toNat) (-20 : Int32) w15M ⟨by decide, by decide⟩ w15s w15I zFr.refl (by omega) (by omega) (by have z := w15t0; rw [show w15x5.toInt = F 5 + 1 by omega] at z; exact z) (by have z := w15t1; rw [show -F 6 = (-20 : Int32).toInt by omega] at z; exact z) (by omega)
                · refine zs_icmp_gtF (pc := 40) t109_40 rfl li3 (by omega) ?_
                  refine zs_aload_n (pc := 43) t109_43 rfl ?_
                  refine zs_get (pc := 44) t109_44 (by decide) (zk1 (w15s.k fk_zMc_242)) (w15s.p rfl fv_zMc_242_3) ?_
                  refine zs_iload (pc := 47) t109_47 rfl ?_
                  refine zs_iconst (pc := 49) t109_49 (v := 3) (by decide) ?_
                  obtain ⟨w32v, w32e, w32⟩ := ziadd (a := w15x5) (b := (3 : Int32)) rfl li3 (by omega) (by omega)
                  refine zs_iadd (pc := 50) t109_50 (c := w32v) w32e ?_
                  refine zs_bipush (pc := 51) t109_51 (v := 8) (by decide) ?_
                  obtain ⟨w33v, w33⟩ : ∃ v, w32v * (8 : Int32) = v := ⟨_, rfl⟩
                  have w33g : w33v.toInt = (w15x5.toInt + 3) * 8 := by rw [← w33]; exact zmulc w32 li8 (by omega) (by omega)
                  refine zs_imul (pc := 53) t109_53 (c := w33v) w33 ?_
                  refine zs_iload (pc := 54) t109_54 rfl ?_
                  obtain ⟨w34v, w34e, w34⟩ := ziadd (a := w33v) (b := w13x4) w33g rfl (by omega) (by omega)
                  refine zs_iadd (pc := 56) t109_56 (c := w34v) w34e ?_
                  refine zs_aload_n (pc := 57) t109_57 rfl ?_
                  refine zs_iload (pc := 58) t109_58 rfl ?_
                  refine zs_iload (pc := 60) t109_60 rfl ?_
                  refine zs_invV (pc := 62) (k := 7) (as' := [.int w13x4, .int w15x5]) (st := [.int w34v, .ref 245]) t109_62 mf55 rfl rfl (Or.inl ⟨by decide, (zk1 (w15s.k fk_zMc_7))⟩) ⟨by decide, by decide, Nat.le_of_ble_eq_true rfl, Nat.le_of_ble_eq_true rfl⟩ (X55_7 w15s w15I (zSo.fr x0 (zEq.tr (zFr.eq w13F rfl) (zFr.eq w15F rfl))) x1 ?_) (fun _ _ q => q)
                  intro w35v w35x0
                  obtain ⟨w36n, w36⟩ : ∃ n : Nat, w13x4.toInt = (n : Int) := ⟨(w13x4.toInt).toNat, by omega⟩
                  have w37 := x1.2.1 w36n (by omega)
                  have w35q := w35x0 w36n (by omega) (by omega) (by omega) (by omega)
                  have w35g := zrg w35v
                  show zGo X l 2 0 0 109 65 [(0, .ref 242), (1, .ref 7), (2, .int (3 : Int32)), (3, .int (20 : Int32)), (4, .int w13x4), (5, .int w15x5)] [.int w35v, .int w34v, .ref 245] w15M _
                  obtain ⟨w38n, w38⟩ : ∃ n : Nat, w34v.toInt = (n : Int) := ⟨w34v.toInt.toNat, by omega⟩
                  have w39 : zIv cLo cHi (zsI w15M 245 w38n w35v) := zIv.put w15I (show (-2147483648) ≤ w35v.toInt ∧ w35v.toInt ≤ 2147483647 from zrg w35v)
                  refine zs_iast (pc := 65) t109_65 (j := w38n) (by decide) (zk1 (w15s.k fk_zMc_245)) w38 (zk2 (w15s.k fk_zMc_245) (by omega)) ?_
                  obtain ⟨w40v, w40e, w40⟩ := ziadd (a := w15x5) (b := Int32.ofInt 1) rfl (show (Int32.ofInt 1).toInt = 1 by decide) (by omega) (by omega)
                  refine zs_iinc (pc := 66) t109_66 (ls' := [(5, .int w40v), (0, .ref 242), (1, .ref 7), (2, .int (3 : Int32)), (3, .int (20 : Int32)), (4, .int w13x4)]) (zml mf109 (by decide)) rfl (c := w40v) w40e rfl ?_
                  refine zs_goto (pc := 69) t109_69 ?_
                  refine zGo.locals (ls' := [(0, .ref 242), (1, .ref 7), (2, .int (3 : Int32)), (3, .int (20 : Int32)), (4, .int w13x4), (5, .int w40v)]) (by simp) ?_
                  have w41 := w40
                  exact w15ih (w15m - 1) (by omega) w40v (zsI w15M 245 w38n w35v) ⟨by omega, by omega⟩ w15s w39 (((zFr.refl).trans (w15F.mono rfl)).put rfl) (by omega) (by omega) (w15t0.put (i := w36n) (o := w38n) (by omega) (by omega) (by omega) (by omega) ((congrArg Int32.toInt (zIs)).trans w35q) (fun j q => ((zIoj q).trans rfl))) (w15t1.fr (fun j => ((zIo (by decide)).trans rfl))) (by omega)
            refine zGo.locals (ls' := [(0, .ref 242), (1, .ref 7), (2, .int (3 : Int32)), (3, .int (20 : Int32)), (4, .int w13x4), (5, .int (-3 : Int32))]) (by simp) ?_
            have w42 := lin3
            exact w15L ((4 - (-3) : Int).toNat) (-3 : Int32) w13M ⟨by decide, by decide⟩ w13s w13I zFr.refl (by omega) (by omega) (by have z := w13t0; rw [show -F 5 = (-3 : Int32).toInt by omega] at z; exact z) w13t1 (by omega)
      refine zGo.locals (ls' := [(0, .ref 242), (1, .ref 7), (2, .int (3 : Int32)), (3, .int (20 : Int32)), (4, .int (0 : Int32))]) (by simp) ?_
      have w43 := li0
      exact w13L ((8 - 0 : Int).toNat) (0 : Int32) M ⟨by decide, by decide⟩ hs hI zFr.refl (by omega) (zBl2.zero (by first | decide | omega) (by omega)) (zSl2.zero (by first | decide | omega) (by omega)) (by omega)
    · refine zs_icmp_gtF (pc := 2) t20_2 rfl li20 (by omega) ?_
      refine zs_iload_n (pc := 5) t20_5 rfl ?_
      refine zs_goto (pc := 6) t20_6 ?_
      refine zs_iret (pc := 10) t20_10 mr20 rfl ?_
      show zGo X l 2 0 0 109 20 [(2, .int (3 : Int32)), (0, .ref 242), (1, .ref 7)] [.int (zI M 17 1)] M _
      refine zs_istore_n (pc := 20) t109_20 (ls' := [(3, .int (zI M 17 1)), (2, .int (3 : Int32)), (0, .ref 242), (1, .ref 7)]) (zml mf109 (by decide)) rfl ?_
      refine zs_iconst (pc := 21) t109_21 (v := 0) (by decide) ?_
      refine zs_istore (pc := 22) t109_22 (ls' := [(4, .int (0 : Int32)), (3, .int (zI M 17 1)), (2, .int (3 : Int32)), (0, .ref 242), (1, .ref 7)]) (zml mf109 (by decide)) rfl ?_
      have w44L : ∀ (m : Nat) (w44x4 : Int32) (w44M : zM), (0 ≤ w44x4.toInt ∧ w44x4.toInt ≤ 8) → zSk zMc w44M → zIv cLo cHi w44M → zFr [(245, 246, none)] M w44M → (w44x4.toInt ≤ F 0) → (zBl2 w44M 245 F w44x4.toInt (-F 5)) → (zSl2 w44M 246 F w44x4.toInt (-F 6)) → 8 - w44x4.toInt ≤ (m : Int) → zGo X l 2 0 0 109 24 [(0, .ref 242), (1, .ref 7), (2, .int (3 : Int32)), (3, .int (zI M 17 1)), (4, .int w44x4)] [] w44M Q := by
        intro m
        induction m using Nat.strongRecOn with
        | ind w44m w44ih =>
          intro w44x4 w44M w44b4 w44s w44I w44F w44r0 w44t0 w44t1 w44q
          refine zs_iload (pc := 24) t109_24 rfl ?_
          refine zs_aload_n (pc := 26) t109_26 rfl ?_
          refine zs_get (pc := 27) t109_27 (by decide) (zk1 (w44s.k fk_zMc_7)) (zfvi rfl ((w44F 7 0 rfl).trans rfl)) ?_
          by_cases w45 : (zI M 7 0).toInt ≤ w44x4.toInt
          · refine zs_icmp_geT (pc := 30) t109_30 rfl rfl (by omega) ?_
            exact zs_vret (pc := 118) t109_118 mr109 (hQ _ w44s w44I ((zFr.refl).trans (w44F.mono rfl)) (fun h => zPn.mk h w44t0 w44t1 (by omega)))
          · refine zs_icmp_geF (pc := 30) t109_30 rfl rfl (by omega) ?_
            refine zs_iload_n (pc := 33) t109_33 rfl ?_
            refine zs_ineg (pc := 34) t109_34 (c := -3) (by decide) ?_
            refine zs_istore (pc := 35) t109_35 (ls' := [(5, .int (-3 : Int32)), (0, .ref 242), (1, .ref 7), (2, .int (3 : Int32)), (3, .int (zI M 17 1)), (4, .int w44x4)]) (zml mf109 (by decide)) rfl ?_
            have w46L : ∀ (m : Nat) (w46x5 : Int32) (w46M : zM), ((-3) ≤ w46x5.toInt ∧ w46x5.toInt ≤ 4) → zSk zMc w46M → zIv cLo cHi w46M → zFr [(245, 246, none)] w44M w46M → (-F 5 ≤ w46x5.toInt) → (w46x5.toInt ≤ F 5 + 1) → (zBl2 w46M 245 F w44x4.toInt w46x5.toInt) → (zSl2 w46M 246 F w44x4.toInt (-F 6)) → 4 - w46x5.toInt ≤ (m : Int) → zGo X l 2 0 0 109 37 [(0, .ref 242), (1, .ref 7), (2, .int (3 : Int32)), (3, .int (zI M 17 1)), (4, .int w44x4), (5, .int w46x5)] [] w46M Q := by
              intro m
              induction m using Nat.strongRecOn with
              | ind w46m w46ih =>
                intro w46x5 w46M w46b5 w46s w46I w46F w46r0 w46r1 w46t0 w46t1 w46q
                refine zs_iload (pc := 37) t109_37 rfl ?_
                refine zs_iload_n (pc := 39) t109_39 rfl ?_
                by_cases w47 : 3 < w46x5.toInt
                · refine zs_icmp_gtT (pc := 40) t109_40 rfl li3 (by omega) ?_
                  refine zs_iload_n (pc := 72) t109_72 rfl ?_
                  obtain ⟨w48v, w48e⟩ : ∃ v, -(zI M 17 1) = v := ⟨_, rfl⟩
                  have w48 : w48v.toInt = -(zI M 17 1).toInt := by rw [← w48e]; exact zneg rfl (by omega)
                  refine zs_ineg (pc := 73) t109_73 (c := w48v) w48e ?_
                  refine zs_istore (pc := 74) t109_74 (ls' := [(5, .int w48v), (0, .ref 242), (1, .ref 7), (2, .int (3 : Int32)), (3, .int (zI M 17 1)), (4, .int w44x4)]) (zml mf109 (by decide)) rfl ?_
                  have w49L : ∀ (m : Nat) (w49x5 : Int32) (w49M : zM), ((-20) ≤ w49x5.toInt ∧ w49x5.toInt ≤ 21) → zSk zMc w49M → zIv cLo cHi w49M → zFr [(245, 246, none)] w46M w49M → (-F 6 ≤ w49x5.toInt) → (w49x5.toInt ≤ F 6 + 1) → (zBl2 w49M 245 F w44x4.toInt (F 5 + 1)) → (zSl2 w49M 246 F w44x4.toInt w49x5.toInt) → 21 - w49x5.toInt ≤ (m : Int) → zGo X l 2 0 0 109 76 [(0, .ref 242), (1, .ref 7), (2, .int (3 : Int32)), (3, .int (zI M 17 1)), (4, .int w44x4), (5, .int w49x5)] [] w49M Q := by
                    intro m
                    induction m using Nat.strongRecOn with
                    | ind w49m w49ih =>
                      intro w49x5 w49M w49b5 w49s w49I w49F w49r0 w49r1 w49t0 w49t1 w49q
                      refine zs_iload (pc := 76) t109_76 rfl ?_
                      refine zs_iload_n (pc := 78) t109_78 rfl ?_
                      by_cases w50 : (zI M 17 1).toInt < w49x5.toInt
                      · refine zs_icmp_gtT (pc := 79) t109_79 rfl rfl (by omega) ?_
                        obtain ⟨w51v, w51e, w51⟩ := ziadd (a := w44x4) (b := Int32.ofInt 1) rfl (show (Int32.ofInt 1).toInt = 1 by decide) (by omega) (by omega)
                        refine zs_iinc (pc := 112) t109_112 (ls' := [(4, .int w51v), (0, .ref 242), (1, .ref 7), (2, .int (3 : Int32)), (3, .int (zI M 17 1)), (5, .int w49x5)]) (zml mf109 (by decide)) rfl (c := w51v) w51e rfl ?_
                        refine zs_goto (pc := 115) t109_115 ?_
                        refine zGo.locals (ls' := [(0, .ref 242), (1, .ref 7), (2, .int (3 : Int32)), (3, .int (zI M 17 1)), (4, .int w51v)]) (by simp) ?_
                        have w52 := w51
                        exact w44ih (w44m - 1) (by omega) w51v w49M ⟨by omega, by omega⟩ w49s w49I ((((zFr.refl).trans (w44F.mono rfl)).trans (w46F.mono rfl)).trans (w49F.mono rfl)) (by omega) (w49t0.next (by omega) (by omega) (by omega)) (w49t1.next (by omega) (by omega) (by omega)) (by omega)
                      · refine zs_icmp_gtF (pc := 79) t109_79 rfl rfl (by omega) ?_
                        refine zs_aload_n (pc := 82) t109_82 rfl ?_
                        refine zs_get (pc := 83) t109_83 (by decide) (zk1 (w49s.k fk_zMc_242)) (w49s.p rfl fv_zMc_242_4) ?_
                        refine zs_iload (pc := 86) t109_86 rfl ?_
                        refine zs_bipush (pc := 88) t109_88 (v := 20) (by decide) ?_
                        obtain ⟨w53v, w53e, w53⟩ := ziadd (a := w49x5) (b := (20 : Int32)) rfl li20 (by omega) (by omega)
                        refine zs_iadd (pc := 90) t109_90 (c := w53v) w53e ?_
                        refine zs_bipush (pc := 91) t109_91 (v := 8) (by decide) ?_
                        obtain ⟨w54v, w54⟩ : ∃ v, w53v * (8 : Int32) = v := ⟨_, rfl⟩
                        have w54g : w54v.toInt = (w49x5.toInt + 20) * 8 := by rw [← w54]; exact zmulc w53 li8 (by omega) (by omega)
                        refine zs_imul (pc := 93) t109_93 (c := w54v) w54 ?_
                        refine zs_iload (pc := 94) t109_94 rfl ?_
                        obtain ⟨w55v, w55e, w55⟩ := ziadd (a := w54v) (b := w44x4) w54g rfl (by omega) (by omega)
                        refine zs_iadd (pc := 96) t109_96 (c := w55v) w55e ?_
                        refine zs_aload_n (pc := 97) t109_97 rfl ?_
                        refine zs_iload (pc := 98) t109_98 rfl ?_
                        refine zs_iload (pc := 100) t109_100 rfl ?_
                        refine zs_invV (pc := 102) (k := 7) (as' := [.int w44x4, .int w49x5]) (st := [.int w55v, .ref 246]) t109_102 mf53 rfl rfl (Or.inl ⟨by decide, (zk1 (w49s.k fk_zMc_7))⟩) ⟨by decide, by decide, Nat.le_of_ble_eq_true rfl, Nat.le_of_ble_eq_true rfl⟩ (X53_7 w49s w49I (zSo.fr x0 (zEq.tr (zEq.tr (zFr.eq w44F rfl) (zFr.eq w46F rfl)) (zFr.eq w49F rfl))) x1 ?_) (fun _ _ q => q)
                        intro w56v w56x0
                        obtain ⟨w57n, w57⟩ : ∃ n : Nat, w44x4.toInt = (n : Int) := ⟨(w44x4.toInt).toNat, by omega⟩
                        have w58 := x1.2.1 w57n (by omega)
                        have w56q := w56x0 w57n (by omega) (by omega) (by omega) (by omega)
                        have w56g := zrg w56v
                        show zGo X l 2 0 0 109 105 [(0, .ref 242), (1, .ref 7), (2, .int (3 : Int32)), (3, .int (zI M 17 1)), (4, .int w44x4), (5, .int w49x5)] [.int w56v, .int w55v, .ref 246] w49M _
                        obtain ⟨w59n, w59⟩ : ∃ n : Nat, w55v.toInt = (n : Int) := ⟨w55v.toInt.toNat, by omega⟩
                        have w60 : zIv cLo cHi (zsI w49M 246 w59n w56v) := zIv.put w49I (show (-2147483648) ≤ w56v.toInt ∧ w56v.toInt ≤ 2147483647 from zrg w56v)
                        refine zs_iast (pc := 105) t109_105 (j := w59n) (by decide) (zk1 (w49s.k fk_zMc_246)) w59 (zk2 (w49s.k fk_zMc_246) (by omega)) ?_
                        obtain ⟨w61v, w61e, w61⟩ := ziadd (a := w49x5) (b := Int32.ofInt 1) rfl (show (Int32.ofInt 1).toInt = 1 by decide) (by omega) (by omega)
                        refine zs_iinc (pc := 106) t109_106 (ls' := [(5, .int w61v), (0, .ref 242), (1, .ref 7), (2, .int (3 : Int32)), (3, .int (zI M 17 1)), (4, .int w44x4)]) (zml mf109 (by decide)) rfl (c := w61v) w61e rfl ?_
                        refine zs_goto (pc := 109) t109_109 ?_
                        refine zGo.locals (ls' := [(0, .ref 242), (1, .ref 7), (2, .int (3 : Int32)), (3, .int (zI M 17 1)), (4, .int w44x4), (5, .int w61v)]) (by simp) ?_
                        have w62 := w61
                        exact w49ih (w49m - 1) (by omega) w61v (zsI w49M 246 w59n w56v) ⟨by omega, by omega⟩ w49s w60 (((zFr.refl).trans (w49F.mono rfl)).put rfl) (by omega) (by omega) (w49t0.fr (fun j => ((zIo (by decide)).trans rfl))) (w49t1.put (i := w57n) (o := w59n) (by omega) (by omega) (by omega) (by omega) ((congrArg Int32.toInt (zIs)).trans w56q) (fun j q => ((zIoj q).trans rfl))) (by omega)
                  refine zGo.locals (ls' := [(0, .ref 242), (1, .ref 7), (2, .int (3 : Int32)), (3, .int (zI M 17 1)), (4, .int w44x4), (5, .int w48v)]) (by simp) ?_
                  have w63 := w48
                  exact w49L ((21 - (-(zI M 17 1).toInt) : Int).toNat) w48v w46M ⟨by omega, by omega⟩ w46s w46I zFr.refl (by omega) (by omega) (by have z := w46t0; rw [show w46x5.toInt = F 5 + 1 by omega] at z; exact z) (by have z := w46t1; rw [show -F 6 = w48v.toInt by omega] at z; exact z) (by omega)
                · refine zs_icmp_gtF (pc := 40) t109_40 rfl li3 (by omega) ?_
                  refine zs_aload_n (pc := 43) t109_43 rfl ?_
                  refine zs_get (pc := 44) t109_44 (by decide) (zk1 (w46s.k fk_zMc_242)) (w46s.p rfl fv_zMc_242_3) ?_
                  refine zs_iload (pc := 47) t109_47 rfl ?_
                  refine zs_iconst (pc := 49) t109_49 (v := 3) (by decide) ?_
                  obtain ⟨w64v, w64e, w64⟩ := ziadd (a := w46x5) (b := (3 : Int32)) rfl li3 (by omega) (by omega)
                  refine zs_iadd (pc := 50) t109_50 (c := w64v) w64e ?_
                  refine zs_bipush (pc := 51) t109_51 (v := 8) (by decide) ?_
                  obtain ⟨w65v, w65⟩ : ∃ v, w64v * (8 : Int32) = v := ⟨_, rfl⟩
                  have w65g : w65v.toInt = (w46x5.toInt + 3) * 8 := by rw [← w65]; exact zmulc w64 li8 (by omega) (by omega)
                  refine zs_imul (pc := 53) t109_53 (c := w65v) w65 ?_
                  refine zs_iload (pc := 54) t109_54 rfl ?_
                  obtain ⟨w66v, w66e, w66⟩ := ziadd (a := w65v) (b := w44x4) w65g rfl (by omega) (by omega)
                  refine zs_iadd (pc := 56) t109_56 (c := w66v) w66e ?_
                  refine zs_aload_n (pc := 57) t109_57 rfl ?_
                  refine zs_iload (pc := 58) t109_58 rfl ?_
                  refine zs_iload (pc := 60) t109_60 rfl ?_
                  refine zs_invV (pc := 62) (k := 7) (as' := [.int w44x4, .int w46x5]) (st := [.int w66v, .ref 245]) t109_62 mf55 rfl rfl (Or.inl ⟨by decide, (zk1 (w46s.k fk_zMc_7))⟩) ⟨by decide, by decide, Nat.le_of_ble_eq_true rfl, Nat.le_of_ble_eq_true rfl⟩ (X55_7 w46s w46I (zSo.fr x0 (zEq.tr (zFr.eq w44F rfl) (zFr.eq w46F rfl))) x1 ?_) (fun _ _ q => q)
                  intro w67v w67x0
                  obtain ⟨w68n, w68⟩ : ∃ n : Nat, w44x4.toInt = (n : Int) := ⟨(w44x4.toInt).toNat, by omega⟩
                  have w69 := x1.2.1 w68n (by omega)
                  have w67q := w67x0 w68n (by omega) (by omega) (by omega) (by omega)
                  have w67g := zrg w67v
                  show zGo X l 2 0 0 109 65 [(0, .ref 242), (1, .ref 7), (2, .int (3 : Int32)), (3, .int (zI M 17 1)), (4, .int w44x4), (5, .int w46x5)] [.int w67v, .int w66v, .ref 245] w46M _
                  obtain ⟨w70n, w70⟩ : ∃ n : Nat, w66v.toInt = (n : Int) := ⟨w66v.toInt.toNat, by omega⟩
                  have w71 : zIv cLo cHi (zsI w46M 245 w70n w67v) := zIv.put w46I (show (-2147483648) ≤ w67v.toInt ∧ w67v.toInt ≤ 2147483647 from zrg w67v)
                  refine zs_iast (pc := 65) t109_65 (j := w70n) (by decide) (zk1 (w46s.k fk_zMc_245)) w70 (zk2 (w46s.k fk_zMc_245) (by omega)) ?_
                  obtain ⟨w72v, w72e, w72⟩ := ziadd (a := w46x5) (b := Int32.ofInt 1) rfl (show (Int32.ofInt 1).toInt = 1 by decide) (by omega) (by omega)
                  refine zs_iinc (pc := 66) t109_66 (ls' := [(5, .int w72v), (0, .ref 242), (1, .ref 7), (2, .int (3 : Int32)), (3, .int (zI M 17 1)), (4, .int w44x4)]) (zml mf109 (by decide)) rfl (c := w72v) w72e rfl ?_
                  refine zs_goto (pc := 69) t109_69 ?_
                  refine zGo.locals (ls' := [(0, .ref 242), (1, .ref 7), (2, .int (3 : Int32)), (3, .int (zI M 17 1)), (4, .int w44x4), (5, .int w72v)]) (by simp) ?_
                  have w73 := w72
                  exact w46ih (w46m - 1) (by omega) w72v (zsI w46M 245 w70n w67v) ⟨by omega, by omega⟩ w46s w71 (((zFr.refl).trans (w46F.mono rfl)).put rfl) (by omega) (by omega) (w46t0.put (i := w68n) (o := w70n) (by omega) (by omega) (by omega) (by omega) ((congrArg Int32.toInt (zIs)).trans w67q) (fun j q => ((zIoj q).trans rfl))) (w46t1.fr (fun j => ((zIo (by decide)).trans rfl))) (by omega)
            refine zGo.locals (ls' := [(0, .ref 242), (1, .ref 7), (2, .int (3 : Int32)), (3, .int (zI M 17 1)), (4, .int w44x4), (5, .int (-3 : Int32))]) (by simp) ?_
            have w74 := lin3
            exact w46L ((4 - (-3) : Int).toNat) (-3 : Int32) w44M ⟨by decide, by decide⟩ w44s w44I zFr.refl (by omega) (by omega) (by have z := w44t0; rw [show -F 5 = (-3 : Int32).toInt by omega] at z; exact z) w44t1 (by omega)
      refine zGo.locals (ls' := [(0, .ref 242), (1, .ref 7), (2, .int (3 : Int32)), (3, .int (zI M 17 1)), (4, .int (0 : Int32))]) (by simp) ?_
      have w75 := li0
      exact w44L ((8 - 0 : Int).toNat) (0 : Int32) M ⟨by decide, by decide⟩ hs hI zFr.refl (by omega) (zBl2.zero (by first | decide | omega) (by omega)) (zSl2.zero (by first | decide | omega) (by omega)) (by omega)
  · refine zs_icmp_gtF (pc := 2) t20_2 rfl li3 (by omega) ?_
    refine zs_iload_n (pc := 5) t20_5 rfl ?_
    refine zs_goto (pc := 6) t20_6 ?_
    refine zs_iret (pc := 10) t20_10 mr20 rfl ?_
    show zGo X l 2 0 0 109 9 [(0, .ref 242), (1, .ref 7)] [.int (zI M 17 0)] M _
    refine zs_istore_n (pc := 9) t109_9 (ls' := [(2, .int (zI M 17 0)), (0, .ref 242), (1, .ref 7)]) (zml mf109 (by decide)) rfl ?_
    refine zs_aload_n (pc := 10) t109_10 rfl ?_
    refine zs_iconst (pc := 11) t109_11 (v := 1) (by decide) ?_
    refine zs_invV (pc := 12) (k := 7) (as' := [.int (1 : Int32)]) (st := []) t109_12 mf96 rfl rfl (Or.inl ⟨by decide, (zk1 (hs.k fk_zMc_7))⟩) ⟨by decide, by decide, Nat.le_of_ble_eq_true rfl, Nat.le_of_ble_eq_true rfl⟩ (zs_in (by decide) mf96 (Nat.le_of_ble_eq_true rfl) ?_) (fun _ _ q => q)
    show zGo X l 0 0 0 96 0 [(0, .ref 7), (1, .int (1 : Int32))] [] M _
    refine zs_iload_n (pc := 0) t96_0 rfl ?_
    refine zs_if_ltF (pc := 1) t96_1 li1 (by decide) ?_
    refine zs_iload_n (pc := 4) t96_4 rfl ?_
    refine zs_bipush (pc := 5) t96_5 (v := 9) (by decide) ?_
    refine zs_icmp_geF (pc := 7) t96_7 li1 li9 (by decide) ?_
    refine zs_aload_n (pc := 10) t96_10 rfl ?_
    refine zs_get (pc := 11) t96_11 (by decide) (zk1 (hs.k fk_zMc_7)) (hs.p rfl fv_zMc_7_12) ?_
    refine zs_iload_n (pc := 14) t96_14 rfl ?_
    have w76 := ib17 hI 1
    have w77 : (zI M 17 1).toInt = F 6 := x0.2.2.2.2.1 1 (by decide)
    refine zs_iald (pc := 15) t96_15 (j := 1) (by decide) (zk1 (hs.k fk_zMc_17)) li1 (zk2 (hs.k fk_zMc_17) (by decide)) rfl ?_
    refine zs_goto (pc := 16) t96_16 ?_
    refine zs_iret (pc := 20) t96_20 mr96 rfl ?_
    show zGo X l 2 0 0 109 15 [(2, .int (zI M 17 0)), (0, .ref 242), (1, .ref 7)] [.int (zI M 17 1)] M _
    refine zs_bipush (pc := 15) t109_15 (v := 20) (by decide) ?_
    refine zs_invS (pc := 17) (as := [.int (zI M 17 1), .int (20 : Int32)]) (st := []) t109_17 (by decide) mf20 rfl rfl ⟨by decide, by decide, Nat.le_of_ble_eq_true rfl, Nat.le_of_ble_eq_true rfl⟩ (zs_in (by decide) mf20 (Nat.le_of_ble_eq_true rfl) ?_) (fun _ _ q => q)
    show zGo X l 0 0 0 20 0 [(0, .int (zI M 17 1)), (1, .int (20 : Int32))] [] M _
    refine zs_iload_n (pc := 0) t20_0 rfl ?_
    refine zs_iload_n (pc := 1) t20_1 rfl ?_
    by_cases w78 : 20 < (zI M 17 1).toInt
    · refine zs_icmp_gtT (pc := 2) t20_2 rfl li20 (by omega) ?_
      refine zs_iload_n (pc := 9) t20_9 rfl ?_
      refine zs_iret (pc := 10) t20_10 mr20 (by decide) ?_
      show zGo X l 2 0 0 109 20 [(2, .int (zI M 17 0)), (0, .ref 242), (1, .ref 7)] [.int (20 : Int32)] M _
      refine zs_istore_n (pc := 20) t109_20 (ls' := [(3, .int (20 : Int32)), (2, .int (zI M 17 0)), (0, .ref 242), (1, .ref 7)]) (zml mf109 (by decide)) rfl ?_
      refine zs_iconst (pc := 21) t109_21 (v := 0) (by decide) ?_
      refine zs_istore (pc := 22) t109_22 (ls' := [(4, .int (0 : Int32)), (3, .int (20 : Int32)), (2, .int (zI M 17 0)), (0, .ref 242), (1, .ref 7)]) (zml mf109 (by decide)) rfl ?_
      have w79L : ∀ (m : Nat) (w79x4 : Int32) (w79M : zM), (0 ≤ w79x4.toInt ∧ w79x4.toInt ≤ 8) → zSk zMc w79M → zIv cLo cHi w79M → zFr [(245, 246, none)] M w79M → (w79x4.toInt ≤ F 0) → (zBl2 w79M 245 F w79x4.toInt (-F 5)) → (zSl2 w79M 246 F w79x4.toInt (-F 6)) → 8 - w79x4.toInt ≤ (m : Int) → zGo X l 2 0 0 109 24 [(0, .ref 242), (1, .ref 7), (2, .int (zI M 17 0)), (3, .int (20 : Int32)), (4, .int w79x4)] [] w79M Q := by
        intro m
        induction m using Nat.strongRecOn with
        | ind w79m w79ih =>
          intro w79x4 w79M w79b4 w79s w79I w79F w79r0 w79t0 w79t1 w79q
          refine zs_iload (pc := 24) t109_24 rfl ?_
          refine zs_aload_n (pc := 26) t109_26 rfl ?_
          refine zs_get (pc := 27) t109_27 (by decide) (zk1 (w79s.k fk_zMc_7)) (zfvi rfl ((w79F 7 0 rfl).trans rfl)) ?_
          by_cases w80 : (zI M 7 0).toInt ≤ w79x4.toInt
          · refine zs_icmp_geT (pc := 30) t109_30 rfl rfl (by omega) ?_
            exact zs_vret (pc := 118) t109_118 mr109 (hQ _ w79s w79I ((zFr.refl).trans (w79F.mono rfl)) (fun h => zPn.mk h w79t0 w79t1 (by omega)))
          · refine zs_icmp_geF (pc := 30) t109_30 rfl rfl (by omega) ?_
            refine zs_iload_n (pc := 33) t109_33 rfl ?_
            obtain ⟨w81v, w81e⟩ : ∃ v, -(zI M 17 0) = v := ⟨_, rfl⟩
            have w81 : w81v.toInt = -(zI M 17 0).toInt := by rw [← w81e]; exact zneg rfl (by omega)
            refine zs_ineg (pc := 34) t109_34 (c := w81v) w81e ?_
            refine zs_istore (pc := 35) t109_35 (ls' := [(5, .int w81v), (0, .ref 242), (1, .ref 7), (2, .int (zI M 17 0)), (3, .int (20 : Int32)), (4, .int w79x4)]) (zml mf109 (by decide)) rfl ?_
            have w82L : ∀ (m : Nat) (w82x5 : Int32) (w82M : zM), ((-3) ≤ w82x5.toInt ∧ w82x5.toInt ≤ 4) → zSk zMc w82M → zIv cLo cHi w82M → zFr [(245, 246, none)] w79M w82M → (-F 5 ≤ w82x5.toInt) → (w82x5.toInt ≤ F 5 + 1) → (zBl2 w82M 245 F w79x4.toInt w82x5.toInt) → (zSl2 w82M 246 F w79x4.toInt (-F 6)) → 4 - w82x5.toInt ≤ (m : Int) → zGo X l 2 0 0 109 37 [(0, .ref 242), (1, .ref 7), (2, .int (zI M 17 0)), (3, .int (20 : Int32)), (4, .int w79x4), (5, .int w82x5)] [] w82M Q := by
              intro m
              induction m using Nat.strongRecOn with
              | ind w82m w82ih =>
                intro w82x5 w82M w82b5 w82s w82I w82F w82r0 w82r1 w82t0 w82t1 w82q
                refine zs_iload (pc := 37) t109_37 rfl ?_
                refine zs_iload_n (pc := 39) t109_39 rfl ?_
                by_cases w83 : (zI M 17 0).toInt < w82x5.toInt
                · refine zs_icmp_gtT (pc := 40) t109_40 rfl rfl (by omega) ?_
                  refine zs_iload_n (pc := 72) t109_72 rfl ?_
                  refine zs_ineg (pc := 73) t109_73 (c := -20) (by decide) ?_
                  refine zs_istore (pc := 74) t109_74 (ls' := [(5, .int (-20 : Int32)), (0, .ref 242), (1, .ref 7), (2, .int (zI M 17 0)), (3, .int (20 : Int32)), (4, .int w79x4)]) (zml mf109 (by decide)) rfl ?_
                  have w84L : ∀ (m : Nat) (w84x5 : Int32) (w84M : zM), ((-20) ≤ w84x5.toInt ∧ w84x5.toInt ≤ 21) → zSk zMc w84M → zIv cLo cHi w84M → zFr [(245, 246, none)] w82M w84M → (-F 6 ≤ w84x5.toInt) → (w84x5.toInt ≤ F 6 + 1) → (zBl2 w84M 245 F w79x4.toInt (F 5 + 1)) → (zSl2 w84M 246 F w79x4.toInt w84x5.toInt) → 21 - w84x5.toInt ≤ (m : Int) → zGo X l 2 0 0 109 76 [(0, .ref 242), (1, .ref 7), (2, .int (zI M 17 0)), (3, .int (20 : Int32)), (4, .int w79x4), (5, .int w84x5)] [] w84M Q := by
                    intro m
                    induction m using Nat.strongRecOn with
                    | ind w84m w84ih =>
                      intro w84x5 w84M w84b5 w84s w84I w84F w84r0 w84r1 w84t0 w84t1 w84q
                      refine zs_iload (pc := 76) t109_76 rfl ?_
                      refine zs_iload_n (pc := 78) t109_78 rfl ?_
                      by_cases w85 : 20 < w84x5.toInt
                      · refine zs_icmp_gtT (pc := 79) t109_79 rfl li20 (by omega) ?_
                        obtain ⟨w86v, w86e, w86⟩ := ziadd (a := w79x4) (b := Int32.ofInt 1) rfl (show (Int32.ofInt 1).toInt = 1 by decide) (by omega) (by omega)
                        refine zs_iinc (pc := 112) t109_112 (ls' := [(4, .int w86v), (0, .ref 242), (1, .ref 7), (2, .int (zI M 17 0)), (3, .int (20 : Int32)), (5, .int w84x5)]) (zml mf109 (by decide)) rfl (c := w86v) w86e rfl ?_
                        refine zs_goto (pc := 115) t109_115 ?_
                        refine zGo.locals (ls' := [(0, .ref 242), (1, .ref 7), (2, .int (zI M 17 0)), (3, .int (20 : Int32)), (4, .int w86v)]) (by simp) ?_
                        have w87 := w86
                        exact w79ih (w79m - 1) (by omega) w86v w84M ⟨by omega, by omega⟩ w84s w84I ((((zFr.refl).trans (w79F.mono rfl)).trans (w82F.mono rfl)).trans (w84F.mono rfl)) (by omega) (w84t0.next (by omega) (by omega) (by omega)) (w84t1.next (by omega) (by omega) (by omega)) (by omega)
                      · refine zs_icmp_gtF (pc := 79) t109_79 rfl li20 (by omega) ?_
                        refine zs_aload_n (pc := 82) t109_82 rfl ?_
                        refine zs_get (pc := 83) t109_83 (by decide) (zk1 (w84s.k fk_zMc_242)) (w84s.p rfl fv_zMc_242_4) ?_
                        refine zs_iload (pc := 86) t109_86 rfl ?_
                        refine zs_bipush (pc := 88) t109_88 (v := 20) (by decide) ?_
                        obtain ⟨w88v, w88e, w88⟩ := ziadd (a := w84x5) (b := (20 : Int32)) rfl li20 (by omega) (by omega)
                        refine zs_iadd (pc := 90) t109_90 (c := w88v) w88e ?_
                        refine zs_bipush (pc := 91) t109_91 (v := 8) (by decide) ?_
                        obtain ⟨w89v, w89⟩ : ∃ v, w88v * (8 : Int32) = v := ⟨_, rfl⟩
                        have w89g : w89v.toInt = (w84x5.toInt + 20) * 8 := by rw [← w89]; exact zmulc w88 li8 (by omega) (by omega)
                        refine zs_imul (pc := 93) t109_93 (c := w89v) w89 ?_
                        refine zs_iload (pc := 94) t109_94 rfl ?_
                        obtain ⟨w90v, w90e, w90⟩ := ziadd (a := w89v) (b := w79x4) w89g rfl (by omega) (by omega)
                        refine zs_iadd (pc := 96) t109_96 (c := w90v) w90e ?_
                        refine zs_aload_n (pc := 97) t109_97 rfl ?_
                        refine zs_iload (pc := 98) t109_98 rfl ?_
                        refine zs_iload (pc := 100) t109_100 rfl ?_
                        refine zs_invV (pc := 102) (k := 7) (as' := [.int w79x4, .int w84x5]) (st := [.int w90v, .ref 246]) t109_102 mf53 rfl rfl (Or.inl ⟨by decide, (zk1 (w84s.k fk_zMc_7))⟩) ⟨by decide, by decide, Nat.le_of_ble_eq_true rfl, Nat.le_of_ble_eq_true rfl⟩ (X53_7 w84s w84I (zSo.fr x0 (zEq.tr (zEq.tr (zFr.eq w79F rfl) (zFr.eq w82F rfl)) (zFr.eq w84F rfl))) x1 ?_) (fun _ _ q => q)
                        intro w91v w91x0
                        obtain ⟨w92n, w92⟩ : ∃ n : Nat, w79x4.toInt = (n : Int) := ⟨(w79x4.toInt).toNat, by omega⟩
                        have w93 := x1.2.1 w92n (by omega)
                        have w91q := w91x0 w92n (by omega) (by omega) (by omega) (by omega)
                        have w91g := zrg w91v
                        show zGo X l 2 0 0 109 105 [(0, .ref 242), (1, .ref 7), (2, .int (zI M 17 0)), (3, .int (20 : Int32)), (4, .int w79x4), (5, .int w84x5)] [.int w91v, .int w90v, .ref 246] w84M _
                        obtain ⟨w94n, w94⟩ : ∃ n : Nat, w90v.toInt = (n : Int) := ⟨w90v.toInt.toNat, by omega⟩
                        have w95 : zIv cLo cHi (zsI w84M 246 w94n w91v) := zIv.put w84I (show (-2147483648) ≤ w91v.toInt ∧ w91v.toInt ≤ 2147483647 from zrg w91v)
                        refine zs_iast (pc := 105) t109_105 (j := w94n) (by decide) (zk1 (w84s.k fk_zMc_246)) w94 (zk2 (w84s.k fk_zMc_246) (by omega)) ?_
                        obtain ⟨w96v, w96e, w96⟩ := ziadd (a := w84x5) (b := Int32.ofInt 1) rfl (show (Int32.ofInt 1).toInt = 1 by decide) (by omega) (by omega)
                        refine zs_iinc (pc := 106) t109_106 (ls' := [(5, .int w96v), (0, .ref 242), (1, .ref 7), (2, .int (zI M 17 0)), (3, .int (20 : Int32)), (4, .int w79x4)]) (zml mf109 (by decide)) rfl (c := w96v) w96e rfl ?_
                        refine zs_goto (pc := 109) t109_109 ?_
                        refine zGo.locals (ls' := [(0, .ref 242), (1, .ref 7), (2, .int (zI M 17 0)), (3, .int (20 : Int32)), (4, .int w79x4), (5, .int w96v)]) (by simp) ?_
                        have w97 := w96
                        exact w84ih (w84m - 1) (by omega) w96v (zsI w84M 246 w94n w91v) ⟨by omega, by omega⟩ w84s w95 (((zFr.refl).trans (w84F.mono rfl)).put rfl) (by omega) (by omega) (w84t0.fr (fun j => ((zIo (by decide)).trans rfl))) (w84t1.put (i := w92n) (o := w94n) (by omega) (by omega) (by omega) (by omega) ((congrArg Int32.toInt (zIs)).trans w91q) (fun j q => ((zIoj q).trans rfl))) (by omega)
                  refine zGo.locals (ls' := [(0, .ref 242), (1, .ref 7), (2, .int (zI M 17 0)), (3, .int (20 : Int32)), (4, .int w79x4), (5, .int (-20 : Int32))]) (by simp) ?_
                  have w98 := lin20
                  exact w84L ((21 - (-20) : Int).toNat) (-20 : Int32) w82M ⟨by decide, by decide⟩ w82s w82I zFr.refl (by omega) (by omega) (by have z := w82t0; rw [show w82x5.toInt = F 5 + 1 by omega] at z; exact z) (by have z := w82t1; rw [show -F 6 = (-20 : Int32).toInt by omega] at z; exact z) (by omega)
                · refine zs_icmp_gtF (pc := 40) t109_40 rfl rfl (by omega) ?_
                  refine zs_aload_n (pc := 43) t109_43 rfl ?_
                  refine zs_get (pc := 44) t109_44 (by decide) (zk1 (w82s.k fk_zMc_242)) (w82s.p rfl fv_zMc_242_3) ?_
                  refine zs_iload (pc := 47) t109_47 rfl ?_
                  refine zs_iconst (pc := 49) t109_49 (v := 3) (by decide) ?_
                  obtain ⟨w99v, w99e, w99⟩ := ziadd (a := w82x5) (b := (3 : Int32)) rfl li3 (by omega) (by omega)
                  refine zs_iadd (pc := 50) t109_50 (c := w99v) w99e ?_
                  refine zs_bipush (pc := 51) t109_51 (v := 8) (by decide) ?_
                  obtain ⟨w100v, w100⟩ : ∃ v, w99v * (8 : Int32) = v := ⟨_, rfl⟩
                  have w100g : w100v.toInt = (w82x5.toInt + 3) * 8 := by rw [← w100]; exact zmulc w99 li8 (by omega) (by omega)
                  refine zs_imul (pc := 53) t109_53 (c := w100v) w100 ?_
                  refine zs_iload (pc := 54) t109_54 rfl ?_
                  obtain ⟨w101v, w101e, w101⟩ := ziadd (a := w100v) (b := w79x4) w100g rfl (by omega) (by omega)
                  refine zs_iadd (pc := 56) t109_56 (c := w101v) w101e ?_
                  refine zs_aload_n (pc := 57) t109_57 rfl ?_
                  refine zs_iload (pc := 58) t109_58 rfl ?_
                  refine zs_iload (pc := 60) t109_60 rfl ?_
                  refine zs_invV (pc := 62) (k := 7) (as' := [.int w79x4, .int w82x5]) (st := [.int w101v, .ref 245]) t109_62 mf55 rfl rfl (Or.inl ⟨by decide, (zk1 (w82s.k fk_zMc_7))⟩) ⟨by decide, by decide, Nat.le_of_ble_eq_true rfl, Nat.le_of_ble_eq_true rfl⟩ (X55_7 w82s w82I (zSo.fr x0 (zEq.tr (zFr.eq w79F rfl) (zFr.eq w82F rfl))) x1 ?_) (fun _ _ q => q)
                  intro w102v w102x0
                  obtain ⟨w103n, w103⟩ : ∃ n : Nat, w79x4.toInt = (n : Int) := ⟨(w79x4.toInt).toNat, by omega⟩
                  have w104 := x1.2.1 w103n (by omega)
                  have w102q := w102x0 w103n (by omega) (by omega) (by omega) (by omega)
                  have w102g := zrg w102v
                  show zGo X l 2 0 0 109 65 [(0, .ref 242), (1, .ref 7), (2, .int (zI M 17 0)), (3, .int (20 : Int32)), (4, .int w79x4), (5, .int w82x5)] [.int w102v, .int w101v, .ref 245] w82M _
                  obtain ⟨w105n, w105⟩ : ∃ n : Nat, w101v.toInt = (n : Int) := ⟨w101v.toInt.toNat, by omega⟩
                  have w106 : zIv cLo cHi (zsI w82M 245 w105n w102v) := zIv.put w82I (show (-2147483648) ≤ w102v.toInt ∧ w102v.toInt ≤ 2147483647 from zrg w102v)
                  refine zs_iast (pc := 65) t109_65 (j := w105n) (by decide) (zk1 (w82s.k fk_zMc_245)) w105 (zk2 (w82s.k fk_zMc_245) (by omega)) ?_
                  obtain ⟨w107v, w107e, w107⟩ := ziadd (a := w82x5) (b := Int32.ofInt 1) rfl (show (Int32.ofInt 1).toInt = 1 by decide) (by omega) (by omega)
                  refine zs_iinc (pc := 66) t109_66 (ls' := [(5, .int w107v), (0, .ref 242), (1, .ref 7), (2, .int (zI M 17 0)), (3, .int (20 : Int32)), (4, .int w79x4)]) (zml mf109 (by decide)) rfl (c := w107v) w107e rfl ?_
                  refine zs_goto (pc := 69) t109_69 ?_
                  refine zGo.locals (ls' := [(0, .ref 242), (1, .ref 7), (2, .int (zI M 17 0)), (3, .int (20 : Int32)), (4, .int w79x4), (5, .int w107v)]) (by simp) ?_
                  have w108 := w107
                  exact w82ih (w82m - 1) (by omega) w107v (zsI w82M 245 w105n w102v) ⟨by omega, by omega⟩ w82s w106 (((zFr.refl).trans (w82F.mono rfl)).put rfl) (by omega) (by omega) (w82t0.put (i := w103n) (o := w105n) (by omega) (by omega) (by omega) (by omega) ((congrArg Int32.toInt (zIs)).trans w102q) (fun j q => ((zIoj q).trans rfl))) (w82t1.fr (fun j => ((zIo (by decide)).trans rfl))) (by omega)
            refine zGo.locals (ls' := [(0, .ref 242), (1, .ref 7), (2, .int (zI M 17 0)), (3, .int (20 : Int32)), (4, .int w79x4), (5, .int w81v)]) (by simp) ?_
            have w109 := w81
            exact w82L ((4 - (-(zI M 17 0).toInt) : Int).toNat) w81v w79M ⟨by omega, by omega⟩ w79s w79I zFr.refl (by omega) (by omega) (by have z := w79t0; rw [show -F 5 = w81v.toInt by omega] at z; exact z) w79t1 (by omega)
      refine zGo.locals (ls' := [(0, .ref 242), (1, .ref 7), (2, .int (zI M 17 0)), (3, .int (20 : Int32)), (4, .int (0 : Int32))]) (by simp) ?_
      have w110 := li0
      exact w79L ((8 - 0 : Int).toNat) (0 : Int32) M ⟨by decide, by decide⟩ hs hI zFr.refl (by omega) (zBl2.zero (by first | decide | omega) (by omega)) (zSl2.zero (by first | decide | omega) (by omega)) (by omega)
    · refine zs_icmp_gtF (pc := 2) t20_2 rfl li20 (by omega) ?_
      refine zs_iload_n (pc := 5) t20_5 rfl ?_
      refine zs_goto (pc := 6) t20_6 ?_
      refine zs_iret (pc := 10) t20_10 mr20 rfl ?_
      show zGo X l 2 0 0 109 20 [(2, .int (zI M 17 0)), (0, .ref 242), (1, .ref 7)] [.int (zI M 17 1)] M _
      refine zs_istore_n (pc := 20) t109_20 (ls' := [(3, .int (zI M 17 1)), (2, .int (zI M 17 0)), (0, .ref 242), (1, .ref 7)]) (zml mf109 (by decide)) rfl ?_
      refine zs_iconst (pc := 21) t109_21 (v := 0) (by decide) ?_
      refine zs_istore (pc := 22) t109_22 (ls' := [(4, .int (0 : Int32)), (3, .int (zI M 17 1)), (2, .int (zI M 17 0)), (0, .ref 242), (1, .ref 7)]) (zml mf109 (by decide)) rfl ?_
      have w111L : ∀ (m : Nat) (w111x4 : Int32) (w111M : zM), (0 ≤ w111x4.toInt ∧ w111x4.toInt ≤ 8) → zSk zMc w111M → zIv cLo cHi w111M → zFr [(245, 246, none)] M w111M → (w111x4.toInt ≤ F 0) → (zBl2 w111M 245 F w111x4.toInt (-F 5)) → (zSl2 w111M 246 F w111x4.toInt (-F 6)) → 8 - w111x4.toInt ≤ (m : Int) → zGo X l 2 0 0 109 24 [(0, .ref 242), (1, .ref 7), (2, .int (zI M 17 0)), (3, .int (zI M 17 1)), (4, .int w111x4)] [] w111M Q := by
        intro m
        induction m using Nat.strongRecOn with
        | ind w111m w111ih =>
          intro w111x4 w111M w111b4 w111s w111I w111F w111r0 w111t0 w111t1 w111q
          refine zs_iload (pc := 24) t109_24 rfl ?_
          refine zs_aload_n (pc := 26) t109_26 rfl ?_
          refine zs_get (pc := 27) t109_27 (by decide) (zk1 (w111s.k fk_zMc_7)) (zfvi rfl ((w111F 7 0 rfl).trans rfl)) ?_
          by_cases w112 : (zI M 7 0).toInt ≤ w111x4.toInt
          · refine zs_icmp_geT (pc := 30) t109_30 rfl rfl (by omega) ?_
            exact zs_vret (pc := 118) t109_118 mr109 (hQ _ w111s w111I ((zFr.refl).trans (w111F.mono rfl)) (fun h => zPn.mk h w111t0 w111t1 (by omega)))
          · refine zs_icmp_geF (pc := 30) t109_30 rfl rfl (by omega) ?_
            refine zs_iload_n (pc := 33) t109_33 rfl ?_
            obtain ⟨w113v, w113e⟩ : ∃ v, -(zI M 17 0) = v := ⟨_, rfl⟩
            have w113 : w113v.toInt = -(zI M 17 0).toInt := by rw [← w113e]; exact zneg rfl (by omega)
            refine zs_ineg (pc := 34) t109_34 (c := w113v) w113e ?_
            refine zs_istore (pc := 35) t109_35 (ls' := [(5, .int w113v), (0, .ref 242), (1, .ref 7), (2, .int (zI M 17 0)), (3, .int (zI M 17 1)), (4, .int w111x4)]) (zml mf109 (by decide)) rfl ?_
            have w114L : ∀ (m : Nat) (w114x5 : Int32) (w114M : zM), ((-3) ≤ w114x5.toInt ∧ w114x5.toInt ≤ 4) → zSk zMc w114M → zIv cLo cHi w114M → zFr [(245, 246, none)] w111M w114M → (-F 5 ≤ w114x5.toInt) → (w114x5.toInt ≤ F 5 + 1) → (zBl2 w114M 245 F w111x4.toInt w114x5.toInt) → (zSl2 w114M 246 F w111x4.toInt (-F 6)) → 4 - w114x5.toInt ≤ (m : Int) → zGo X l 2 0 0 109 37 [(0, .ref 242), (1, .ref 7), (2, .int (zI M 17 0)), (3, .int (zI M 17 1)), (4, .int w111x4), (5, .int w114x5)] [] w114M Q := by
              intro m
              induction m using Nat.strongRecOn with
              | ind w114m w114ih =>
                intro w114x5 w114M w114b5 w114s w114I w114F w114r0 w114r1 w114t0 w114t1 w114q
                refine zs_iload (pc := 37) t109_37 rfl ?_
                refine zs_iload_n (pc := 39) t109_39 rfl ?_
                by_cases w115 : (zI M 17 0).toInt < w114x5.toInt
                · refine zs_icmp_gtT (pc := 40) t109_40 rfl rfl (by omega) ?_
                  refine zs_iload_n (pc := 72) t109_72 rfl ?_
                  obtain ⟨w116v, w116e⟩ : ∃ v, -(zI M 17 1) = v := ⟨_, rfl⟩
                  have w116 : w116v.toInt = -(zI M 17 1).toInt := by rw [← w116e]; exact zneg rfl (by omega)
                  refine zs_ineg (pc := 73) t109_73 (c := w116v) w116e ?_
                  refine zs_istore (pc := 74) t109_74 (ls' := [(5, .int w116v), (0, .ref 242), (1, .ref 7), (2, .int (zI M 17 0)), (3, .int (zI M 17 1)), (4, .int w111x4)]) (zml mf109 (by decide)) rfl ?_
                  have w117L : ∀ (m : Nat) (w117x5 : Int32) (w117M : zM), ((-20) ≤ w117x5.toInt ∧ w117x5.toInt ≤ 21) → zSk zMc w117M → zIv cLo cHi w117M → zFr [(245, 246, none)] w114M w117M → (-F 6 ≤ w117x5.toInt) → (w117x5.toInt ≤ F 6 + 1) → (zBl2 w117M 245 F w111x4.toInt (F 5 + 1)) → (zSl2 w117M 246 F w111x4.toInt w117x5.toInt) → 21 - w117x5.toInt ≤ (m : Int) → zGo X l 2 0 0 109 76 [(0, .ref 242), (1, .ref 7), (2, .int (zI M 17 0)), (3, .int (zI M 17 1)), (4, .int w111x4), (5, .int w117x5)] [] w117M Q := by
                    intro m
                    induction m using Nat.strongRecOn with
                    | ind w117m w117ih =>
                      intro w117x5 w117M w117b5 w117s w117I w117F w117r0 w117r1 w117t0 w117t1 w117q
                      refine zs_iload (pc := 76) t109_76 rfl ?_
                      refine zs_iload_n (pc := 78) t109_78 rfl ?_
                      by_cases w118 : (zI M 17 1).toInt < w117x5.toInt
                      · refine zs_icmp_gtT (pc := 79) t109_79 rfl rfl (by omega) ?_
                        obtain ⟨w119v, w119e, w119⟩ := ziadd (a := w111x4) (b := Int32.ofInt 1) rfl (show (Int32.ofInt 1).toInt = 1 by decide) (by omega) (by omega)
                        refine zs_iinc (pc := 112) t109_112 (ls' := [(4, .int w119v), (0, .ref 242), (1, .ref 7), (2, .int (zI M 17 0)), (3, .int (zI M 17 1)), (5, .int w117x5)]) (zml mf109 (by decide)) rfl (c := w119v) w119e rfl ?_
                        refine zs_goto (pc := 115) t109_115 ?_
                        refine zGo.locals (ls' := [(0, .ref 242), (1, .ref 7), (2, .int (zI M 17 0)), (3, .int (zI M 17 1)), (4, .int w119v)]) (by simp) ?_
                        have w120 := w119
                        exact w111ih (w111m - 1) (by omega) w119v w117M ⟨by omega, by omega⟩ w117s w117I ((((zFr.refl).trans (w111F.mono rfl)).trans (w114F.mono rfl)).trans (w117F.mono rfl)) (by omega) (w117t0.next (by omega) (by omega) (by omega)) (w117t1.next (by omega) (by omega) (by omega)) (by omega)
                      · refine zs_icmp_gtF (pc := 79) t109_79 rfl rfl (by omega) ?_
                        refine zs_aload_n (pc := 82) t109_82 rfl ?_
                        refine zs_get (pc := 83) t109_83 (by decide) (zk1 (w117s.k fk_zMc_242)) (w117s.p rfl fv_zMc_242_4) ?_
                        refine zs_iload (pc := 86) t109_86 rfl ?_
                        refine zs_bipush (pc := 88) t109_88 (v := 20) (by decide) ?_
                        obtain ⟨w121v, w121e, w121⟩ := ziadd (a := w117x5) (b := (20 : Int32)) rfl li20 (by omega) (by omega)
                        refine zs_iadd (pc := 90) t109_90 (c := w121v) w121e ?_
                        refine zs_bipush (pc := 91) t109_91 (v := 8) (by decide) ?_
                        obtain ⟨w122v, w122⟩ : ∃ v, w121v * (8 : Int32) = v := ⟨_, rfl⟩
                        have w122g : w122v.toInt = (w117x5.toInt + 20) * 8 := by rw [← w122]; exact zmulc w121 li8 (by omega) (by omega)
                        refine zs_imul (pc := 93) t109_93 (c := w122v) w122 ?_
                        refine zs_iload (pc := 94) t109_94 rfl ?_
                        obtain ⟨w123v, w123e, w123⟩ := ziadd (a := w122v) (b := w111x4) w122g rfl (by omega) (by omega)
                        refine zs_iadd (pc := 96) t109_96 (c := w123v) w123e ?_
                        refine zs_aload_n (pc := 97) t109_97 rfl ?_
                        refine zs_iload (pc := 98) t109_98 rfl ?_
                        refine zs_iload (pc := 100) t109_100 rfl ?_
                        refine zs_invV (pc := 102) (k := 7) (as' := [.int w111x4, .int w117x5]) (st := [.int w123v, .ref 246]) t109_102 mf53 rfl rfl (Or.inl ⟨by decide, (zk1 (w117s.k fk_zMc_7))⟩) ⟨by decide, by decide, Nat.le_of_ble_eq_true rfl, Nat.le_of_ble_eq_true rfl⟩ (X53_7 w117s w117I (zSo.fr x0 (zEq.tr (zEq.tr (zFr.eq w111F rfl) (zFr.eq w114F rfl)) (zFr.eq w117F rfl))) x1 ?_) (fun _ _ q => q)
                        intro w124v w124x0
                        obtain ⟨w125n, w125⟩ : ∃ n : Nat, w111x4.toInt = (n : Int) := ⟨(w111x4.toInt).toNat, by omega⟩
                        have w126 := x1.2.1 w125n (by omega)
                        have w124q := w124x0 w125n (by omega) (by omega) (by omega) (by omega)
                        have w124g := zrg w124v
                        show zGo X l 2 0 0 109 105 [(0, .ref 242), (1, .ref 7), (2, .int (zI M 17 0)), (3, .int (zI M 17 1)), (4, .int w111x4), (5, .int w117x5)] [.int w124v, .int w123v, .ref 246] w117M _
                        obtain ⟨w127n, w127⟩ : ∃ n : Nat, w123v.toInt = (n : Int) := ⟨w123v.toInt.toNat, by omega⟩
                        have w128 : zIv cLo cHi (zsI w117M 246 w127n w124v) := zIv.put w117I (show (-2147483648) ≤ w124v.toInt ∧ w124v.toInt ≤ 2147483647 from zrg w124v)
                        refine zs_iast (pc := 105) t109_105 (j := w127n) (by decide) (zk1 (w117s.k fk_zMc_246)) w127 (zk2 (w117s.k fk_zMc_246) (by omega)) ?_
                        obtain ⟨w129v, w129e, w129⟩ := ziadd (a := w117x5) (b := Int32.ofInt 1) rfl (show (Int32.ofInt 1).toInt = 1 by decide) (by omega) (by omega)
                        refine zs_iinc (pc := 106) t109_106 (ls' := [(5, .int w129v), (0, .ref 242), (1, .ref 7), (2, .int (zI M 17 0)), (3, .int (zI M 17 1)), (4, .int w111x4)]) (zml mf109 (by decide)) rfl (c := w129v) w129e rfl ?_
                        refine zs_goto (pc := 109) t109_109 ?_
                        refine zGo.locals (ls' := [(0, .ref 242), (1, .ref 7), (2, .int (zI M 17 0)), (3, .int (zI M 17 1)), (4, .int w111x4), (5, .int w129v)]) (by simp) ?_
                        have w130 := w129
                        exact w117ih (w117m - 1) (by omega) w129v (zsI w117M 246 w127n w124v) ⟨by omega, by omega⟩ w117s w128 (((zFr.refl).trans (w117F.mono rfl)).put rfl) (by omega) (by omega) (w117t0.fr (fun j => ((zIo (by decide)).trans rfl))) (w117t1.put (i := w125n) (o := w127n) (by omega) (by omega) (by omega) (by omega) ((congrArg Int32.toInt (zIs)).trans w124q) (fun j q => ((zIoj q).trans rfl))) (by omega)
                  refine zGo.locals (ls' := [(0, .ref 242), (1, .ref 7), (2, .int (zI M 17 0)), (3, .int (zI M 17 1)), (4, .int w111x4), (5, .int w116v)]) (by simp) ?_
                  have w131 := w116
                  exact w117L ((21 - (-(zI M 17 1).toInt) : Int).toNat) w116v w114M ⟨by omega, by omega⟩ w114s w114I zFr.refl (by omega) (by omega) (by have z := w114t0; rw [show w114x5.toInt = F 5 + 1 by omega] at z; exact z) (by have z := w114t1; rw [show -F 6 = w116v.toInt by omega] at z; exact z) (by omega)
                · refine zs_icmp_gtF (pc := 40) t109_40 rfl rfl (by omega) ?_
                  refine zs_aload_n (pc := 43) t109_43 rfl ?_
                  refine zs_get (pc := 44) t109_44 (by decide) (zk1 (w114s.k fk_zMc_242)) (w114s.p rfl fv_zMc_242_3) ?_
                  refine zs_iload (pc := 47) t109_47 rfl ?_
                  refine zs_iconst (pc := 49) t109_49 (v := 3) (by decide) ?_
                  obtain ⟨w132v, w132e, w132⟩ := ziadd (a := w114x5) (b := (3 : Int32)) rfl li3 (by omega) (by omega)
                  refine zs_iadd (pc := 50) t109_50 (c := w132v) w132e ?_
                  refine zs_bipush (pc := 51) t109_51 (v := 8) (by decide) ?_
                  obtain ⟨w133v, w133⟩ : ∃ v, w132v * (8 : Int32) = v := ⟨_, rfl⟩
                  have w133g : w133v.toInt = (w114x5.toInt + 3) * 8 := by rw [← w133]; exact zmulc w132 li8 (by omega) (by omega)
                  refine zs_imul (pc := 53) t109_53 (c := w133v) w133 ?_
                  refine zs_iload (pc := 54) t109_54 rfl ?_
                  obtain ⟨w134v, w134e, w134⟩ := ziadd (a := w133v) (b := w111x4) w133g rfl (by omega) (by omega)
                  refine zs_iadd (pc := 56) t109_56 (c := w134v) w134e ?_
                  refine zs_aload_n (pc := 57) t109_57 rfl ?_
                  refine zs_iload (pc := 58) t109_58 rfl ?_
                  refine zs_iload (pc := 60) t109_60 rfl ?_
                  refine zs_invV (pc := 62) (k := 7) (as' := [.int w111x4, .int w114x5]) (st := [.int w134v, .ref 245]) t109_62 mf55 rfl rfl (Or.inl ⟨by decide, (zk1 (w114s.k fk_zMc_7))⟩) ⟨by decide, by decide, Nat.le_of_ble_eq_true rfl, Nat.le_of_ble_eq_true rfl⟩ (X55_7 w114s w114I (zSo.fr x0 (zEq.tr (zFr.eq w111F rfl) (zFr.eq w114F rfl))) x1 ?_) (fun _ _ q => q)
                  intro w135v w135x0
                  obtain ⟨w136n, w136⟩ : ∃ n : Nat, w111x4.toInt = (n : Int) := ⟨(w111x4.toInt).toNat, by omega⟩
                  have w137 := x1.2.1 w136n (by omega)
                  have w135q := w135x0 w136n (by omega) (by omega) (by omega) (by omega)
                  have w135g := zrg w135v
                  show zGo X l 2 0 0 109 65 [(0, .ref 242), (1, .ref 7), (2, .int (zI M 17 0)), (3, .int (zI M 17 1)), (4, .int w111x4), (5, .int w114x5)] [.int w135v, .int w134v, .ref 245] w114M _
                  obtain ⟨w138n, w138⟩ : ∃ n : Nat, w134v.toInt = (n : Int) := ⟨w134v.toInt.toNat, by omega⟩
                  have w139 : zIv cLo cHi (zsI w114M 245 w138n w135v) := zIv.put w114I (show (-2147483648) ≤ w135v.toInt ∧ w135v.toInt ≤ 2147483647 from zrg w135v)
                  refine zs_iast (pc := 65) t109_65 (j := w138n) (by decide) (zk1 (w114s.k fk_zMc_245)) w138 (zk2 (w114s.k fk_zMc_245) (by omega)) ?_
                  obtain ⟨w140v, w140e, w140⟩ := ziadd (a := w114x5) (b := Int32.ofInt 1) rfl (show (Int32.ofInt 1).toInt = 1 by decide) (by omega) (by omega)
                  refine zs_iinc (pc := 66) t109_66 (ls' := [(5, .int w140v), (0, .ref 242), (1, .ref 7), (2, .int (zI M 17 0)), (3, .int (zI M 17 1)), (4, .int w111x4)]) (zml mf109 (by decide)) rfl (c := w140v) w140e rfl ?_
                  refine zs_goto (pc := 69) t109_69 ?_
                  refine zGo.locals (ls' := [(0, .ref 242), (1, .ref 7), (2, .int (zI M 17 0)), (3, .int (zI M 17 1)), (4, .int w111x4), (5, .int w140v)]) (by simp) ?_
                  have w141 := w140
                  exact w114ih (w114m - 1) (by omega) w140v (zsI w114M 245 w138n w135v) ⟨by omega, by omega⟩ w114s w139 (((zFr.refl).trans (w114F.mono rfl)).put rfl) (by omega) (by omega) (w114t0.put (i := w136n) (o := w138n) (by omega) (by omega) (by omega) (by omega) ((congrArg Int32.toInt (zIs)).trans w135q) (fun j q => ((zIoj q).trans rfl))) (w114t1.fr (fun j => ((zIo (by decide)).trans rfl))) (by omega)
            refine zGo.locals (ls' := [(0, .ref 242), (1, .ref 7), (2, .int (zI M 17 0)), (3, .int (zI M 17 1)), (4, .int w111x4), (5, .int w113v)]) (by simp) ?_
            have w142 := w113
            exact w114L ((4 - (-(zI M 17 0).toInt) : Int).toNat) w113v w111M ⟨by omega, by omega⟩ w111s w111I zFr.refl (by omega) (by omega) (by have z := w111t0; rw [show -F 5 = w113v.toInt by omega] at z; exact z) w111t1 (by omega)
      refine zGo.locals (ls' := [(0, .ref 242), (1, .ref 7), (2, .int (zI M 17 0)), (3, .int (zI M 17 1)), (4, .int (0 : Int32))]) (by simp) ?_
      have w143 := li0
      exact w111L ((8 - 0 : Int).toNat) (0 : Int32) M ⟨by decide, by decide⟩ hs hI zFr.refl (by omega) (zBl2.zero (by first | decide | omega) (by omega)) (zSl2.zero (by first | decide | omega) (by omega)) (by omega)
set_option maxHeartbeats 8000000 in
theorem V107_166 {X : zX} {l : Launch} {M : zM} {Q : Option Value → zM → Prop} {a : Int32} (hs : zSk zMc M) (hI : zIv cLo cHi M) {F : Nat → Int} (x0 : zSo M 7 F) (x1 : zWF F) (hQ : ∀ M', zSk zMc M' → zIv cLo cHi M' → zFr [(166, 166, some 0), (166, 166, some 5), (166, 166, some 6), (167, 173, none)] M M' → (∃ (n : Nat) (φ : Nat → Nat) (m : Nat), zVt M' 166 171 172 173 F (zL0 F a.toInt) n φ ∧ zSl M' 166 167 168 F m ∧ zPn M' 166 169 170 F) → Q none M') : zCall X l 3 0 0 107 [.ref 166, .ref 7, .int a] M Q := by
  have ga := zrg a
  refine zs_in (by decide) mf107 (Nat.le_of_ble_eq_true rfl) ?_
  show zGo X l 3 0 0 107 0 [(0, .ref 166), (1, .ref 7), (2, .int a)] [] M _
  have f0 := x0.1
  have w1 := ib7_0 hI
  have w2 : (zI M 7 0).toInt = (zI M 7 0).toInt := (congrArg Int32.toInt rfl).trans rfl
  have w3 := ib7_3 hI
  have w4 : (zI M 7 3).toInt = (zI M 7 3).toInt := (congrArg Int32.toInt rfl).trans rfl
  have w5 := ib7_8 hI
  have w6 : (zI M 7 8).toInt = (zI M 7 8).toInt := (congrArg Int32.toInt rfl).trans rfl
  have f1 := x1.1
  have f3 := x1.2.2.2
  have f2 := (show (zI M 7 0).toInt = F 0 ∧ (zI M 7 3).toInt = F 1 ∧ (zI M 7 8).toInt = F 2 from ⟨x0.1.1, x0.1.2.1, x0.1.2.2.1⟩)
  refine zs_aload_n (pc := 0) t107_0 rfl ?_
  refine zs_iconst (pc := 1) t107_1 (v := 1) (by decide) ?_
  refine zs_aload_n (pc := 2) t107_2 rfl ?_
  refine zs_iconst (pc := 3) t107_3 (v := 2) (by decide) ?_
  refine zs_invV (pc := 4) (k := 7) (as' := [.int (2 : Int32)]) (st := [.int (1 : Int32), .ref 166]) t107_4 mf96 rfl rfl (Or.inl ⟨by decide, (zk1 (hs.k fk_zMc_7))⟩) ⟨by decide, by decide, Nat.le_of_ble_eq_true rfl, Nat.le_of_ble_eq_true rfl⟩ (zs_in (by decide) mf96 (Nat.le_of_ble_eq_true rfl) ?_) (fun _ _ q => q)
  show zGo X l 0 0 0 96 0 [(0, .ref 7), (1, .int (2 : Int32))] [] M _
  refine zs_iload_n (pc := 0) t96_0 rfl ?_
  refine zs_if_ltF (pc := 1) t96_1 li2 (by decide) ?_
  refine zs_iload_n (pc := 4) t96_4 rfl ?_
  refine zs_bipush (pc := 5) t96_5 (v := 9) (by decide) ?_
  refine zs_icmp_geF (pc := 7) t96_7 li2 li9 (by decide) ?_
  refine zs_aload_n (pc := 10) t96_10 rfl ?_
  refine zs_get (pc := 11) t96_11 (by decide) (zk1 (hs.k fk_zMc_7)) (hs.p rfl fv_zMc_7_12) ?_
  refine zs_iload_n (pc := 14) t96_14 rfl ?_
  have w7 := ib17 hI 2
  have w8 : (zI M 17 2).toInt = F 7 := x0.2.2.2.2.1 2 (by decide)
  refine zs_iald (pc := 15) t96_15 (j := 2) (by decide) (zk1 (hs.k fk_zMc_17)) li2 (zk2 (hs.k fk_zMc_17) (by decide)) rfl ?_
  refine zs_goto (pc := 16) t96_16 ?_
  refine zs_iret (pc := 20) t96_20 mr96 rfl ?_
  show zGo X l 3 0 0 107 7 [(0, .ref 166), (1, .ref 7), (2, .int a)] [.int (zI M 17 2), .int (1 : Int32), .ref 166] M _
  refine zs_invS (pc := 7) (as := [.int (1 : Int32), .int (zI M 17 2)]) (st := [.ref 166]) t107_7 (by decide) mf21 rfl rfl ⟨by decide, by decide, Nat.le_of_ble_eq_true rfl, Nat.le_of_ble_eq_true rfl⟩ (zs_in (by decide) mf21 (Nat.le_of_ble_eq_true rfl) ?_) (fun _ _ q => q)
  show zGo X l 0 0 0 21 0 [(0, .int (1 : Int32)), (1, .int (zI M 17 2))] [] M _
  refine zs_iload_n (pc := 0) t21_0 rfl ?_
  refine zs_iload_n (pc := 1) t21_1 rfl ?_
  by_cases w9 : 1 < (zI M 17 2).toInt
  · refine zs_icmp_ltT (pc := 2) t21_2 li1 rfl (by omega) ?_
    refine zs_iload_n (pc := 9) t21_9 rfl ?_
    refine zs_iret (pc := 10) t21_10 mr21 rfl ?_
    show zGo X l 3 0 0 107 10 [(0, .ref 166), (1, .ref 7), (2, .int a)] [.int (zI M 17 2), .ref 166] M _
    have w10 : zIv cLo cHi (zsI M 166 5 (zI M 17 2)) := zIv.put hI (show 1 ≤ (zI M 17 2).toInt ∧ (zI M 17 2).toInt ≤ 2147483647 from ⟨by omega, by omega⟩)
    refine zs_putI (pc := 10) t107_10 (zk1 (hs.k fk_zMc_166)) rfl ?_
    refine zs_aload_n (pc := 13) t107_13 rfl ?_
    refine zs_aload_n (pc := 14) t107_14 rfl ?_
    refine zs_iconst (pc := 15) t107_15 (v := 0) (by decide) ?_
    refine zs_invV (pc := 16) (k := 7) (as' := [.int (0 : Int32)]) (st := [.ref 166]) t107_16 mf96 rfl rfl (Or.inl ⟨by decide, (zk1 (hs.k fk_zMc_7))⟩) ⟨by decide, by decide, Nat.le_of_ble_eq_true rfl, Nat.le_of_ble_eq_true rfl⟩ (zs_in (by decide) mf96 (Nat.le_of_ble_eq_true rfl) ?_) (fun _ _ q => q)
    show zGo X l 0 0 0 96 0 [(0, .ref 7), (1, .int (0 : Int32))] [] (zsI M 166 5 (zI M 17 2)) _
    refine zs_iload_n (pc := 0) t96_0 rfl ?_
    refine zs_if_ltF (pc := 1) t96_1 li0 (by decide) ?_
    refine zs_iload_n (pc := 4) t96_4 rfl ?_
    refine zs_bipush (pc := 5) t96_5 (v := 9) (by decide) ?_
    refine zs_icmp_geF (pc := 7) t96_7 li0 li9 (by decide) ?_
    refine zs_aload_n (pc := 10) t96_10 rfl ?_
    refine zs_get (pc := 11) t96_11 (by decide) (zk1 (hs.k fk_zMc_7)) (hs.p rfl fv_zMc_7_12) ?_
    refine zs_iload_n (pc := 14) t96_14 rfl ?_
    have w11 := ib17 hI 0
    have w12 : (zI M 17 0).toInt = F 5 := x0.2.2.2.2.1 0 (by decide)
    refine zs_iald (pc := 15) t96_15 (j := 0) (by decide) (zk1 (hs.k fk_zMc_17)) li0 (zk2 (hs.k fk_zMc_17) (by decide)) ((zIo (by decide)).trans rfl) ?_
    refine zs_goto (pc := 16) t96_16 ?_
    refine zs_iret (pc := 20) t96_20 mr96 rfl ?_
    show zGo X l 3 0 0 107 19 [(0, .ref 166), (1, .ref 7), (2, .int a)] [.int (zI M 17 0), .ref 166] (zsI M 166 5 (zI M 17 2)) _
    refine zs_aload_n (pc := 19) t107_19 rfl ?_
    refine zs_iconst (pc := 20) t107_20 (v := 1) (by decide) ?_
    refine zs_invV (pc := 21) (k := 7) (as' := [.int (1 : Int32)]) (st := [.int (zI M 17 0), .ref 166]) t107_21 mf96 rfl rfl (Or.inl ⟨by decide, (zk1 (hs.k fk_zMc_7))⟩) ⟨by decide, by decide, Nat.le_of_ble_eq_true rfl, Nat.le_of_ble_eq_true rfl⟩ (zs_in (by decide) mf96 (Nat.le_of_ble_eq_true rfl) ?_) (fun _ _ q => q)
    show zGo X l 0 0 0 96 0 [(0, .ref 7), (1, .int (1 : Int32))] [] (zsI M 166 5 (zI M 17 2)) _
    refine zs_iload_n (pc := 0) t96_0 rfl ?_
    refine zs_if_ltF (pc := 1) t96_1 li1 (by decide) ?_
    refine zs_iload_n (pc := 4) t96_4 rfl ?_
    refine zs_bipush (pc := 5) t96_5 (v := 9) (by decide) ?_
    refine zs_icmp_geF (pc := 7) t96_7 li1 li9 (by decide) ?_
    refine zs_aload_n (pc := 10) t96_10 rfl ?_
    refine zs_get (pc := 11) t96_11 (by decide) (zk1 (hs.k fk_zMc_7)) (hs.p rfl fv_zMc_7_12) ?_
    refine zs_iload_n (pc := 14) t96_14 rfl ?_
    have w13 := ib17 hI 1
    have w14 : (zI M 17 1).toInt = F 6 := x0.2.2.2.2.1 1 (by decide)
    refine zs_iald (pc := 15) t96_15 (j := 1) (by decide) (zk1 (hs.k fk_zMc_17)) li1 (zk2 (hs.k fk_zMc_17) (by decide)) ((zIo (by decide)).trans rfl) ?_
    refine zs_goto (pc := 16) t96_16 ?_
    refine zs_iret (pc := 20) t96_20 mr96 rfl ?_
    show zGo X l 3 0 0 107 24 [(0, .ref 166), (1, .ref 7), (2, .int a)] [.int (zI M 17 1), .int (zI M 17 0), .ref 166] (zsI M 166 5 (zI M 17 2)) _
    refine zs_invV (pc := 24) (k := 166) (as' := [.int (zI M 17 0), .int (zI M 17 1)]) (st := []) t107_24 mf108 rfl rfl (Or.inl ⟨by decide, (zk1 (hs.k fk_zMc_166))⟩) ⟨by decide, by decide, Nat.le_of_ble_eq_true rfl, Nat.le_of_ble_eq_true rfl⟩ (V108_166 hs w10 ⟨by omega, by omega⟩ ⟨by omega, by omega⟩ x1 ⟨by omega, by omega⟩ ?_) (fun _ _ q => q)
    intro w15M w15s w15I w15F w15x0
    obtain ⟨w15m, w15z⟩ := w15x0
    show zGo X l 3 0 0 107 27 [(0, .ref 166), (1, .ref 7), (2, .int a)] [] w15M _
    refine zs_aload_n (pc := 27) t107_27 rfl ?_
    refine zs_aload_n (pc := 28) t107_28 rfl ?_
    refine zs_invV (pc := 29) (k := 166) (as' := [.ref 7]) (st := []) t107_29 mf109 rfl rfl (Or.inl ⟨by decide, (zk1 (w15s.k fk_zMc_166))⟩) ⟨by decide, by decide, Nat.le_of_ble_eq_true rfl, Nat.le_of_ble_eq_true rfl⟩ (V109_166 w15s w15I (zSo.fr x0 (zEq.tr (zEq.put rfl) (zFr.eq w15F rfl))) x1 ?_) (fun _ _ q => q)
    intro w16M w16s w16I w16F w16x0
    have w17 : (zI w16M 166 5).toInt = (zI M 17 2).toInt := (congrArg Int32.toInt ((w16F 166 5 rfl).trans ((w15F 166 5 rfl).trans zIs))).trans rfl
    have w16p := w16x0 (by omega)
    show zGo X l 3 0 0 107 32 [(0, .ref 166), (1, .ref 7), (2, .int a)] [] w16M _
    refine zs_aload_n (pc := 32) t107_32 rfl ?_
    refine zs_iconst (pc := 33) t107_33 (v := 0) (by decide) ?_
    have w18 : zIv cLo cHi (zsI w16M 166 6 (0 : Int32)) := zIv.put w16I (show 0 ≤ (0 : Int32).toInt ∧ (0 : Int32).toInt ≤ 60 from ⟨by decide, by decide⟩)
    refine zs_putI (pc := 34) t107_34 (zk1 (w16s.k fk_zMc_166)) rfl ?_
    refine zs_iconst (pc := 37) t107_37 (v := 0) (by decide) ?_
    refine zs_istore_n (pc := 38) t107_38 (ls' := [(3, .int (0 : Int32)), (0, .ref 166), (1, .ref 7), (2, .int a)]) (zml mf107 (by decide)) rfl ?_
    have w19L : ∀ (m : Nat) (w19x3 : Int32) (w19M : zM), (0 ≤ w19x3.toInt ∧ w19x3.toInt ≤ 60) → zSk zMc w19M → zIv cLo cHi w19M → zFr [(166, 166, some 6), (171, 173, none)] (zsI w16M 166 6 (0 : Int32)) w19M → (w19x3.toInt ≤ F 1) → (0 ≤ (zI w19M 166 6).toInt) → ((zI w19M 166 6).toInt ≤ w19x3.toInt) → (∀ h : Nat, (h : Int) = w19x3.toInt → ∃ (n : Nat) (φ : Nat → Nat), (zI w19M 166 6).toInt = (n : Int) ∧ zVj w19M 171 172 173 F (zL0 F a.toInt) n φ h) → 60 - w19x3.toInt ≤ (m : Int) → zGo X l 3 0 0 107 39 [(0, .ref 166), (1, .ref 7), (2, .int a), (3, .int w19x3)] [] w19M Q := by
      intro m
      induction m using Nat.strongRecOn with
      | ind w19m w19ih =>
        intro w19x3 w19M w19b3 w19s w19I w19F w19r0 w19r1 w19r2 w19t0 w19q
        obtain ⟨w20n, w20⟩ : ∃ n : Nat, w19x3.toInt = (n : Int) := ⟨(w19x3.toInt).toNat, by omega⟩
        obtain ⟨w19k, w19f, w19e, w19v⟩ := w19t0 w20n (by omega)
        have w21 := ib166_6 w19I
        refine zs_iload_n (pc := 39) t107_39 rfl ?_
        refine zs_aload_n (pc := 40) t107_40 rfl ?_
        refine zs_get (pc := 41) t107_41 (by decide) (zk1 (w19s.k fk_zMc_7)) (zfvi rfl ((w19F 7 3 rfl).trans ((zIo (by decide)).trans ((w16F 7 3 rfl).trans ((w15F 7 3 rfl).trans ((zIo (by decide)).trans rfl)))))) ?_
        by_cases w22 : (zI M 7 3).toInt ≤ w19x3.toInt
        · refine zs_icmp_geT (pc := 44) t107_44 rfl rfl (by omega) ?_
          exact zs_vret (pc := 121) t107_121 mr107 (hQ _ w19s w19I ((((((zFr.refl).put rfl).trans (w15F.mono rfl)).trans (w16F.mono rfl)).put rfl).trans (w19F.mono rfl)) ⟨w19k, w19f, w15m, w19v.vt (by omega) w19e (by omega), zSl.fr w15z ((w19F 166 0 rfl).trans ((zIoj (by decide)).trans (w16F 166 0 rfl))) (fun j => ((w19F 167 j rfl).trans ((zIo (by decide)).trans (w16F 167 j rfl)))) (fun j => ((w19F 168 j rfl).trans ((zIo (by decide)).trans (w16F 168 j rfl)))), zPn.fr w16p ((w19F 166 5 rfl).trans (zIoj (by decide))) (fun j => ((w19F 169 j rfl).trans (zIo (by decide)))) (fun j => ((w19F 170 j rfl).trans (zIo (by decide))))⟩)
        · refine zs_icmp_geF (pc := 44) t107_44 rfl rfl (by omega) ?_
          refine zs_aload_n (pc := 47) t107_47 rfl ?_
          refine zs_get (pc := 48) t107_48 (by decide) (zk1 (w19s.k fk_zMc_7)) (w19s.p rfl fv_zMc_7_4) ?_
          refine zs_iload_n (pc := 51) t107_51 rfl ?_
          have w23 := ib10 hI w20n
          have w24 : (zI M 10 w20n).toInt = F (30 + 4 * w20n) ∧ (zI M 11 w20n).toInt = F (31 + 4 * w20n) ∧ (zI M 12 w20n).toInt = F (32 + 4 * w20n) ∧ (zI M 13 w20n).toInt = F (33 + 4 * w20n) := x0.2.2.1 w20n (by omega)
          have w25 := x1.2.2.1 w20n (by omega)
          refine zs_iald (pc := 52) t107_52 (j := w20n) (by decide) (zk1 (w19s.k fk_zMc_10)) (show w19x3.toInt = ((w20n : Nat) : Int) by omega) (zk2 (w19s.k fk_zMc_10) (by omega)) ((w19F 10 w20n rfl).trans ((zIo (by decide)).trans ((w16F 10 w20n rfl).trans ((w15F 10 w20n rfl).trans ((zIo (by decide)).trans rfl))))) ?_
          refine zs_iload_n (pc := 53) t107_53 rfl ?_
          by_cases w26 : (zI M 10 w20n).toInt = a.toInt
          · refine zs_icmp_eqT (pc := 54) t107_54 rfl rfl (by omega) ?_
            obtain ⟨w27v, w27e, w27⟩ := ziadd (a := w19x3) (b := Int32.ofInt 1) rfl (show (Int32.ofInt 1).toInt = 1 by decide) (by omega) (by omega)
            refine zs_iinc (pc := 115) t107_115 (ls' := [(3, .int w27v), (0, .ref 166), (1, .ref 7), (2, .int a)]) (zml mf107 (by decide)) rfl (c := w27v) w27e rfl ?_
            refine zs_goto (pc := 118) t107_118 ?_
            refine zGo.locals (ls' := [(0, .ref 166), (1, .ref 7), (2, .int a), (3, .int w27v)]) (by simp) ?_
            have w28 := w27
            have w29 : (zI w19M 166 6).toInt = (zI w19M 166 6).toInt := (congrArg Int32.toInt rfl).trans rfl
            have w30 : (zI w19M 166 6).toInt = (zI w19M 166 6).toInt := (congrArg Int32.toInt rfl).trans rfl
            have w31 : (zI w19M 166 6).toInt = (zI w19M 166 6).toInt := (congrArg Int32.toInt rfl).trans rfl
            exact w19ih (w19m - 1) (by omega) w27v w19M ⟨by omega, by omega⟩ w19s w19I ((zFr.refl).trans (w19F.mono rfl)) (by omega) (by omega) (by omega) (fun h hh => by obtain rfl : h = w20n + 1 := (by omega); have hw := x1.2.2.1 w20n (by omega); exact ⟨w19k, w19f, by omega, w19v.skip (zL0.n (Or.inr (by omega)))⟩) (by omega)
          · refine zs_icmp_eqF (pc := 54) t107_54 rfl rfl (by omega) ?_
            refine zs_aload_n (pc := 57) t107_57 rfl ?_
            refine zs_iload_n (pc := 58) t107_58 rfl ?_
            refine zs_invV (pc := 59) (k := 7) (as' := [.int w19x3]) (st := []) t107_59 mf93 rfl rfl (Or.inl ⟨by decide, (zk1 (w19s.k fk_zMc_7))⟩) ⟨by decide, by decide, Nat.le_of_ble_eq_true rfl, Nat.le_of_ble_eq_true rfl⟩ (X93_7 w19s w19I (zSo.fr x0 (zEq.tr (zEq.tr (zEq.tr (zEq.tr (zEq.put rfl) (zFr.eq w15F rfl)) (zFr.eq w16F rfl)) (zEq.put rfl)) (zFr.eq w19F rfl))) x1 ?_) (fun _ _ q => q)
            intro w32v w32x0 w32a w32b
            show zGo X l 3 0 0 107 62 [(0, .ref 166), (1, .ref 7), (2, .int a), (3, .int w19x3)] [.int w32v] w19M _
            by_cases w33 : w32v.toInt = 0
            · refine zs_if_eqT (pc := 62) t107_62 rfl (by omega) ?_
              obtain ⟨w34v, w34e, w34⟩ := ziadd (a := w19x3) (b := Int32.ofInt 1) rfl (show (Int32.ofInt 1).toInt = 1 by decide) (by omega) (by omega)
              refine zs_iinc (pc := 115) t107_115 (ls' := [(3, .int w34v), (0, .ref 166), (1, .ref 7), (2, .int a)]) (zml mf107 (by decide)) rfl (c := w34v) w34e rfl ?_
              refine zs_goto (pc := 118) t107_118 ?_
              refine zGo.locals (ls' := [(0, .ref 166), (1, .ref 7), (2, .int a), (3, .int w34v)]) (by simp) ?_
              have w35 := w34
              have w36 : (zI w19M 166 6).toInt = (zI w19M 166 6).toInt := (congrArg Int32.toInt rfl).trans rfl
              have w37 : (zI w19M 166 6).toInt = (zI w19M 166 6).toInt := (congrArg Int32.toInt rfl).trans rfl
              have w38 : (zI w19M 166 6).toInt = (zI w19M 166 6).toInt := (congrArg Int32.toInt rfl).trans rfl
              exact w19ih (w19m - 1) (by omega) w34v w19M ⟨by omega, by omega⟩ w19s w19I ((zFr.refl).trans (w19F.mono rfl)) (by omega) (by omega) (by omega) (fun h hh => by obtain rfl : h = w20n + 1 := (by omega); have hw := x1.2.2.1 w20n (by omega); exact ⟨w19k, w19f, by omega, w19v.skip (zL0.n (Or.inl (((w32x0 w20n (by omega) (by omega)).resolve_left (fun q => by have z := q.1; omega)).2)))⟩) (by omega)
            · refine zs_if_eqF (pc := 62) t107_62 rfl (by omega) ?_
              refine zs_aload_n (pc := 65) t107_65 rfl ?_
              refine zs_get (pc := 66) t107_66 (by decide) (zk1 (w19s.k fk_zMc_166)) (w19s.p rfl fv_zMc_166_7) ?_
              refine zs_aload_n (pc := 69) t107_69 rfl ?_
              refine zs_get (pc := 70) t107_70 (by decide) (zk1 (w19s.k fk_zMc_166)) (zfvi rfl rfl) ?_
              refine zs_iload_n (pc := 73) t107_73 rfl ?_
              have w39 : zIv cLo cHi (zsI w19M 171 w19k w19x3) := zIv.put w19I (show 0 ≤ w19x3.toInt ∧ w19x3.toInt ≤ 59 from ⟨by omega, by omega⟩)
              refine zs_iast (pc := 74) t107_74 (j := w19k) (by decide) (zk1 (w19s.k fk_zMc_171)) (show (zI w19M 166 6).toInt = ((w19k : Nat) : Int) by omega) (zk2 (w19s.k fk_zMc_171) (by omega)) ?_
              refine zs_aload_n (pc := 75) t107_75 rfl ?_
              refine zs_get (pc := 76) t107_76 (by decide) (zk1 (w19s.k fk_zMc_166)) (w19s.p rfl fv_zMc_166_8) ?_
              refine zs_aload_n (pc := 79) t107_79 rfl ?_
              refine zs_get (pc := 80) t107_80 (by decide) (zk1 (w19s.k fk_zMc_166)) (zfvi rfl ((zIo (by decide)).trans rfl)) ?_
              refine zs_aload_n (pc := 83) t107_83 rfl ?_
              refine zs_get (pc := 84) t107_84 (by decide) (zk1 (w19s.k fk_zMc_7)) (w19s.p rfl fv_zMc_7_4) ?_
              refine zs_iload_n (pc := 87) t107_87 rfl ?_
              have w40 : (zI M 10 w20n).toInt = F (30 + 4 * w20n) ∧ (zI M 11 w20n).toInt = F (31 + 4 * w20n) ∧ (zI M 12 w20n).toInt = F (32 + 4 * w20n) ∧ (zI M 13 w20n).toInt = F (33 + 4 * w20n) := x0.2.2.1 w20n (by omega)
              have w41 := x1.2.2.1 w20n (by omega)
              refine zs_iald (pc := 88) t107_88 (j := w20n) (by decide) (zk1 (w19s.k fk_zMc_10)) (show w19x3.toInt = ((w20n : Nat) : Int) by omega) (zk2 (w19s.k fk_zMc_10) (by omega)) ((zIo (by decide)).trans ((w19F 10 w20n rfl).trans ((zIo (by decide)).trans ((w16F 10 w20n rfl).trans ((w15F 10 w20n rfl).trans ((zIo (by decide)).trans rfl)))))) ?_
              have w42 : zIv cLo cHi (zsI (zsI w19M 171 w19k w19x3) 172 w19k (zI M 10 w20n)) := zIv.put w39 (show 0 ≤ (zI M 10 w20n).toInt ∧ (zI M 10 w20n).toInt ≤ 7 from ⟨by omega, by omega⟩)
              refine zs_iast (pc := 89) t107_89 (j := w19k) (by decide) (zk1 (w19s.k fk_zMc_172)) (show (zI w19M 166 6).toInt = ((w19k : Nat) : Int) by omega) (zk2 (w19s.k fk_zMc_172) (by omega)) ?_
              refine zs_aload_n (pc := 90) t107_90 rfl ?_
              refine zs_get (pc := 91) t107_91 (by decide) (zk1 (w19s.k fk_zMc_166)) (w19s.p rfl fv_zMc_166_9) ?_
              refine zs_aload_n (pc := 94) t107_94 rfl ?_
              refine zs_get (pc := 95) t107_95 (by decide) (zk1 (w19s.k fk_zMc_166)) (zfvi rfl ((zIo (by decide)).trans ((zIo (by decide)).trans rfl))) ?_
              refine zs_aload_n (pc := 98) t107_98 rfl ?_
              refine zs_get (pc := 99) t107_99 (by decide) (zk1 (w19s.k fk_zMc_7)) (w19s.p rfl fv_zMc_7_5) ?_
              refine zs_iload_n (pc := 102) t107_102 rfl ?_
              have w43 := zrg (zI M 11 w20n)
              have w44 : (zI M 10 w20n).toInt = F (30 + 4 * w20n) ∧ (zI M 11 w20n).toInt = F (31 + 4 * w20n) ∧ (zI M 12 w20n).toInt = F (32 + 4 * w20n) ∧ (zI M 13 w20n).toInt = F (33 + 4 * w20n) := x0.2.2.1 w20n (by omega)
              have w45 := x1.2.2.1 w20n (by omega)
              refine zs_iald (pc := 103) t107_103 (j := w20n) (by decide) (zk1 (w19s.k fk_zMc_11)) (show w19x3.toInt = ((w20n : Nat) : Int) by omega) (zk2 (w19s.k fk_zMc_11) (by omega)) ((zIo (by decide)).trans ((zIo (by decide)).trans ((w19F 11 w20n rfl).trans ((zIo (by decide)).trans ((w16F 11 w20n rfl).trans ((w15F 11 w20n rfl).trans ((zIo (by decide)).trans rfl))))))) ?_
              have w46 : zIv cLo cHi (zsI (zsI (zsI w19M 171 w19k w19x3) 172 w19k (zI M 10 w20n)) 173 w19k (zI M 11 w20n)) := zIv.put w42 (show (-2147483648) ≤ (zI M 11 w20n).toInt ∧ (zI M 11 w20n).toInt ≤ 2147483647 from zrg (zI M 11 w20n))
              refine zs_iast (pc := 104) t107_104 (j := w19k) (by decide) (zk1 (w19s.k fk_zMc_173)) (show (zI w19M 166 6).toInt = ((w19k : Nat) : Int) by omega) (zk2 (w19s.k fk_zMc_173) (by omega)) ?_
              refine zs_aload_n (pc := 105) t107_105 rfl ?_
              refine zs_dup (pc := 106) t107_106 rfl ?_
              refine zs_get (pc := 107) t107_107 (by decide) (zk1 (w19s.k fk_zMc_166)) (zfvi rfl ((zIo (by decide)).trans ((zIo (by decide)).trans ((zIo (by decide)).trans rfl)))) ?_
              refine zs_iconst (pc := 110) t107_110 (v := 1) (by decide) ?_
              obtain ⟨w47v, w47e, w47⟩ := ziadd (a := (zI w19M 166 6)) (b := (1 : Int32)) rfl li1 (by omega) (by omega)
              refine zs_iadd (pc := 111) t107_111 (c := w47v) w47e ?_
              have w48 : zIv cLo cHi (zsI (zsI (zsI (zsI w19M 171 w19k w19x3) 172 w19k (zI M 10 w20n)) 173 w19k (zI M 11 w20n)) 166 6 w47v) := zIv.put w46 (show 0 ≤ w47v.toInt ∧ w47v.toInt ≤ 60 from ⟨by omega, by omega⟩)
              refine zs_putI (pc := 112) t107_112 (zk1 (w19s.k fk_zMc_166)) rfl ?_
              obtain ⟨w49v, w49e, w49⟩ := ziadd (a := w19x3) (b := Int32.ofInt 1) rfl (show (Int32.ofInt 1).toInt = 1 by decide) (by omega) (by omega)
              refine zs_iinc (pc := 115) t107_115 (ls' := [(3, .int w49v), (0, .ref 166), (1, .ref 7), (2, .int a)]) (zml mf107 (by decide)) rfl (c := w49v) w49e rfl ?_
              refine zs_goto (pc := 118) t107_118 ?_
              refine zGo.locals (ls' := [(0, .ref 166), (1, .ref 7), (2, .int a), (3, .int w49v)]) (by simp) ?_
              have w50 := w49
              have w51 : (zI (zsI (zsI (zsI (zsI w19M 171 w19k w19x3) 172 w19k (zI M 10 w20n)) 173 w19k (zI M 11 w20n)) 166 6 w47v) 166 6).toInt = ((zI w19M 166 6).toInt + 1) := (congrArg Int32.toInt zIs).trans w47
              have w52 : (zI (zsI (zsI (zsI (zsI w19M 171 w19k w19x3) 172 w19k (zI M 10 w20n)) 173 w19k (zI M 11 w20n)) 166 6 w47v) 166 6).toInt = ((zI w19M 166 6).toInt + 1) := (congrArg Int32.toInt zIs).trans w47
              have w53 : (zI (zsI (zsI (zsI (zsI w19M 171 w19k w19x3) 172 w19k (zI M 10 w20n)) 173 w19k (zI M 11 w20n)) 166 6 w47v) 166 6).toInt = ((zI w19M 166 6).toInt + 1) := (congrArg Int32.toInt zIs).trans w47
              exact w19ih (w19m - 1) (by omega) w49v (zsI (zsI (zsI (zsI w19M 171 w19k w19x3) 172 w19k (zI M 10 w20n)) 173 w19k (zI M 11 w20n)) 166 6 w47v) ⟨by omega, by omega⟩ w19s w48 ((((((zFr.refl).trans (w19F.mono rfl)).put rfl).put rfl).put rfl).put rfl) (by omega) (by omega) (by omega) (fun h hh => by obtain rfl : h = w20n + 1 := (by omega); have hw := x1.2.2.1 w20n (by omega); exact ⟨w19k + 1, uV w19f w19k w20n, by omega, w19v.put (zL0.y (((w32x0 w20n (by omega) (by omega)).resolve_right (fun q => by have z := q.1; omega)).2) (by omega)) ((congrArg Int32.toInt ((zIo (by decide)).trans ((zIo (by decide)).trans ((zIo (by decide)).trans (zIs))))).trans (by omega)) ((congrArg Int32.toInt ((zIo (by decide)).trans ((zIo (by decide)).trans (zIs)))).trans (by omega)) ((congrArg Int32.toInt ((zIo (by decide)).trans (zIs))).trans (by omega)) (fun j q => ((zIo (by decide)).trans ((zIo (by decide)).trans ((zIo (by decide)).trans ((zIoj q).trans rfl))))) (fun j q => ((zIo (by decide)).trans ((zIo (by decide)).trans ((zIoj q).trans ((zIo (by decide)).trans rfl))))) (fun j q => ((zIo (by decide)).trans ((zIoj q).trans ((zIo (by decide)).trans ((zIo (by decide)).trans rfl)))))⟩) (by omega)
    refine zGo.locals (ls' := [(0, .ref 166), (1, .ref 7), (2, .int a), (3, .int (0 : Int32))]) (by simp) ?_
    have w54 := li0
    have w55 : (zI (zsI w16M 166 6 (0 : Int32)) 166 6).toInt = 0 := (congrArg Int32.toInt zIs).trans li0
    have w56 : (zI (zsI w16M 166 6 (0 : Int32)) 166 6).toInt = 0 := (congrArg Int32.toInt zIs).trans li0
    have w57 : (zI (zsI w16M 166 6 (0 : Int32)) 166 6).toInt = 0 := (congrArg Int32.toInt zIs).trans li0
    exact w19L ((60 - 0 : Int).toNat) (0 : Int32) (zsI w16M 166 6 (0 : Int32)) ⟨by decide, by decide⟩ w16s w18 zFr.refl (by omega) (by omega) (by omega) (fun h hh => ⟨0, fun _ => 0, by omega, zVj.zero rfl (by omega)⟩) (by omega)
  · refine zs_icmp_ltF (pc := 2) t21_2 li1 rfl (by omega) ?_
    refine zs_iload_n (pc := 5) t21_5 rfl ?_
    refine zs_goto (pc := 6) t21_6 ?_
    refine zs_iret (pc := 10) t21_10 mr21 (by decide) ?_
    show zGo X l 3 0 0 107 10 [(0, .ref 166), (1, .ref 7), (2, .int a)] [.int (1 : Int32), .ref 166] M _
    have w58 : zIv cLo cHi (zsI M 166 5 (1 : Int32)) := zIv.put hI (show 1 ≤ (1 : Int32).toInt ∧ (1 : Int32).toInt ≤ 2147483647 from ⟨by decide, by decide⟩)
    refine zs_putI (pc := 10) t107_10 (zk1 (hs.k fk_zMc_166)) rfl ?_
    refine zs_aload_n (pc := 13) t107_13 rfl ?_
    refine zs_aload_n (pc := 14) t107_14 rfl ?_
    refine zs_iconst (pc := 15) t107_15 (v := 0) (by decide) ?_
    refine zs_invV (pc := 16) (k := 7) (as' := [.int (0 : Int32)]) (st := [.ref 166]) t107_16 mf96 rfl rfl (Or.inl ⟨by decide, (zk1 (hs.k fk_zMc_7))⟩) ⟨by decide, by decide, Nat.le_of_ble_eq_true rfl, Nat.le_of_ble_eq_true rfl⟩ (zs_in (by decide) mf96 (Nat.le_of_ble_eq_true rfl) ?_) (fun _ _ q => q)
    show zGo X l 0 0 0 96 0 [(0, .ref 7), (1, .int (0 : Int32))] [] (zsI M 166 5 (1 : Int32)) _
    refine zs_iload_n (pc := 0) t96_0 rfl ?_
    refine zs_if_ltF (pc := 1) t96_1 li0 (by decide) ?_
    refine zs_iload_n (pc := 4) t96_4 rfl ?_
    refine zs_bipush (pc := 5) t96_5 (v := 9) (by decide) ?_
    refine zs_icmp_geF (pc := 7) t96_7 li0 li9 (by decide) ?_
    refine zs_aload_n (pc := 10) t96_10 rfl ?_
    refine zs_get (pc := 11) t96_11 (by decide) (zk1 (hs.k fk_zMc_7)) (hs.p rfl fv_zMc_7_12) ?_
    refine zs_iload_n (pc := 14) t96_14 rfl ?_
    have w59 := ib17 hI 0
    have w60 : (zI M 17 0).toInt = F 5 := x0.2.2.2.2.1 0 (by decide)
    refine zs_iald (pc := 15) t96_15 (j := 0) (by decide) (zk1 (hs.k fk_zMc_17)) li0 (zk2 (hs.k fk_zMc_17) (by decide)) ((zIo (by decide)).trans rfl) ?_
    refine zs_goto (pc := 16) t96_16 ?_
    refine zs_iret (pc := 20) t96_20 mr96 rfl ?_
    show zGo X l 3 0 0 107 19 [(0, .ref 166), (1, .ref 7), (2, .int a)] [.int (zI M 17 0), .ref 166] (zsI M 166 5 (1 : Int32)) _
    refine zs_aload_n (pc := 19) t107_19 rfl ?_
    refine zs_iconst (pc := 20) t107_20 (v := 1) (by decide) ?_
    refine zs_invV (pc := 21) (k := 7) (as' := [.int (1 : Int32)]) (st := [.int (zI M 17 0), .ref 166]) t107_21 mf96 rfl rfl (Or.inl ⟨by decide, (zk1 (hs.k fk_zMc_7))⟩) ⟨by decide, by decide, Nat.le_of_ble_eq_true rfl, Nat.le_of_ble_eq_true rfl⟩ (zs_in (by decide) mf96 (Nat.le_of_ble_eq_true rfl) ?_) (fun _ _ q => q)
    show zGo X l 0 0 0 96 0 [(0, .ref 7), (1, .int (1 : Int32))] [] (zsI M 166 5 (1 : Int32)) _
    refine zs_iload_n (pc := 0) t96_0 rfl ?_
    refine zs_if_ltF (pc := 1) t96_1 li1 (by decide) ?_
    refine zs_iload_n (pc := 4) t96_4 rfl ?_
    refine zs_bipush (pc := 5) t96_5 (v := 9) (by decide) ?_
    refine zs_icmp_geF (pc := 7) t96_7 li1 li9 (by decide) ?_
    refine zs_aload_n (pc := 10) t96_10 rfl ?_
    refine zs_get (pc := 11) t96_11 (by decide) (zk1 (hs.k fk_zMc_7)) (hs.p rfl fv_zMc_7_12) ?_
    refine zs_iload_n (pc := 14) t96_14 rfl ?_
    have w61 := ib17 hI 1
    have w62 : (zI M 17 1).toInt = F 6 := x0.2.2.2.2.1 1 (by decide)
    refine zs_iald (pc := 15) t96_15 (j := 1) (by decide) (zk1 (hs.k fk_zMc_17)) li1 (zk2 (hs.k fk_zMc_17) (by decide)) ((zIo (by decide)).trans rfl) ?_
    refine zs_goto (pc := 16) t96_16 ?_
    refine zs_iret (pc := 20) t96_20 mr96 rfl ?_
    show zGo X l 3 0 0 107 24 [(0, .ref 166), (1, .ref 7), (2, .int a)] [.int (zI M 17 1), .int (zI M 17 0), .ref 166] (zsI M 166 5 (1 : Int32)) _
    refine zs_invV (pc := 24) (k := 166) (as' := [.int (zI M 17 0), .int (zI M 17 1)]) (st := []) t107_24 mf108 rfl rfl (Or.inl ⟨by decide, (zk1 (hs.k fk_zMc_166))⟩) ⟨by decide, by decide, Nat.le_of_ble_eq_true rfl, Nat.le_of_ble_eq_true rfl⟩ (V108_166 hs w58 ⟨by omega, by omega⟩ ⟨by omega, by omega⟩ x1 ⟨by omega, by omega⟩ ?_) (fun _ _ q => q)
    intro w63M w63s w63I w63F w63x0
    obtain ⟨w63m, w63z⟩ := w63x0
    show zGo X l 3 0 0 107 27 [(0, .ref 166), (1, .ref 7), (2, .int a)] [] w63M _
    refine zs_aload_n (pc := 27) t107_27 rfl ?_
    refine zs_aload_n (pc := 28) t107_28 rfl ?_
    refine zs_invV (pc := 29) (k := 166) (as' := [.ref 7]) (st := []) t107_29 mf109 rfl rfl (Or.inl ⟨by decide, (zk1 (w63s.k fk_zMc_166))⟩) ⟨by decide, by decide, Nat.le_of_ble_eq_true rfl, Nat.le_of_ble_eq_true rfl⟩ (V109_166 w63s w63I (zSo.fr x0 (zEq.tr (zEq.put rfl) (zFr.eq w63F rfl))) x1 ?_) (fun _ _ q => q)
    intro w64M w64s w64I w64F w64x0
    have w65 : (zI w64M 166 5).toInt = 1 := (congrArg Int32.toInt ((w64F 166 5 rfl).trans ((w63F 166 5 rfl).trans zIs))).trans li1
    have w64p := w64x0 (by omega)
    show zGo X l 3 0 0 107 32 [(0, .ref 166), (1, .ref 7), (2, .int a)] [] w64M _
    refine zs_aload_n (pc := 32) t107_32 rfl ?_
    refine zs_iconst (pc := 33) t107_33 (v := 0) (by decide) ?_
    have w66 : zIv cLo cHi (zsI w64M 166 6 (0 : Int32)) := zIv.put w64I (show 0 ≤ (0 : Int32).toInt ∧ (0 : Int32).toInt ≤ 60 from ⟨by decide, by decide⟩)
    refine zs_putI (pc := 34) t107_34 (zk1 (w64s.k fk_zMc_166)) rfl ?_
    refine zs_iconst (pc := 37) t107_37 (v := 0) (by decide) ?_
    refine zs_istore_n (pc := 38) t107_38 (ls' := [(3, .int (0 : Int32)), (0, .ref 166), (1, .ref 7), (2, .int a)]) (zml mf107 (by decide)) rfl ?_
    have w67L : ∀ (m : Nat) (w67x3 : Int32) (w67M : zM), (0 ≤ w67x3.toInt ∧ w67x3.toInt ≤ 60) → zSk zMc w67M → zIv cLo cHi w67M → zFr [(166, 166, some 6), (171, 173, none)] (zsI w64M 166 6 (0 : Int32)) w67M → (w67x3.toInt ≤ F 1) → (0 ≤ (zI w67M 166 6).toInt) → ((zI w67M 166 6).toInt ≤ w67x3.toInt) → (∀ h : Nat, (h : Int) = w67x3.toInt → ∃ (n : Nat) (φ : Nat → Nat), (zI w67M 166 6).toInt = (n : Int) ∧ zVj w67M 171 172 173 F (zL0 F a.toInt) n φ h) → 60 - w67x3.toInt ≤ (m : Int) → zGo X l 3 0 0 107 39 [(0, .ref 166), (1, .ref 7), (2, .int a), (3, .int w67x3)] [] w67M Q := by
      intro m
      induction m using Nat.strongRecOn with
      | ind w67m w67ih =>
        intro w67x3 w67M w67b3 w67s w67I w67F w67r0 w67r1 w67r2 w67t0 w67q
        obtain ⟨w68n, w68⟩ : ∃ n : Nat, w67x3.toInt = (n : Int) := ⟨(w67x3.toInt).toNat, by omega⟩
        obtain ⟨w67k, w67f, w67e, w67v⟩ := w67t0 w68n (by omega)
        have w69 := ib166_6 w67I
        refine zs_iload_n (pc := 39) t107_39 rfl ?_
        refine zs_aload_n (pc := 40) t107_40 rfl ?_
        refine zs_get (pc := 41) t107_41 (by decide) (zk1 (w67s.k fk_zMc_7)) (zfvi rfl ((w67F 7 3 rfl).trans ((zIo (by decide)).trans ((w64F 7 3 rfl).trans ((w63F 7 3 rfl).trans ((zIo (by decide)).trans rfl)))))) ?_
        by_cases w70 : (zI M 7 3).toInt ≤ w67x3.toInt
        · refine zs_icmp_geT (pc := 44) t107_44 rfl rfl (by omega) ?_
          exact zs_vret (pc := 121) t107_121 mr107 (hQ _ w67s w67I ((((((zFr.refl).put rfl).trans (w63F.mono rfl)).trans (w64F.mono rfl)).put rfl).trans (w67F.mono rfl)) ⟨w67k, w67f, w63m, w67v.vt (by omega) w67e (by omega), zSl.fr w63z ((w67F 166 0 rfl).trans ((zIoj (by decide)).trans (w64F 166 0 rfl))) (fun j => ((w67F 167 j rfl).trans ((zIo (by decide)).trans (w64F 167 j rfl)))) (fun j => ((w67F 168 j rfl).trans ((zIo (by decide)).trans (w64F 168 j rfl)))), zPn.fr w64p ((w67F 166 5 rfl).trans (zIoj (by decide))) (fun j => ((w67F 169 j rfl).trans (zIo (by decide)))) (fun j => ((w67F 170 j rfl).trans (zIo (by decide))))⟩)
        · refine zs_icmp_geF (pc := 44) t107_44 rfl rfl (by omega) ?_
          refine zs_aload_n (pc := 47) t107_47 rfl ?_
          refine zs_get (pc := 48) t107_48 (by decide) (zk1 (w67s.k fk_zMc_7)) (w67s.p rfl fv_zMc_7_4) ?_
          refine zs_iload_n (pc := 51) t107_51 rfl ?_
          have w71 := ib10 hI w68n
          have w72 : (zI M 10 w68n).toInt = F (30 + 4 * w68n) ∧ (zI M 11 w68n).toInt = F (31 + 4 * w68n) ∧ (zI M 12 w68n).toInt = F (32 + 4 * w68n) ∧ (zI M 13 w68n).toInt = F (33 + 4 * w68n) := x0.2.2.1 w68n (by omega)
          have w73 := x1.2.2.1 w68n (by omega)
          refine zs_iald (pc := 52) t107_52 (j := w68n) (by decide) (zk1 (w67s.k fk_zMc_10)) (show w67x3.toInt = ((w68n : Nat) : Int) by omega) (zk2 (w67s.k fk_zMc_10) (by omega)) ((w67F 10 w68n rfl).trans ((zIo (by decide)).trans ((w64F 10 w68n rfl).trans ((w63F 10 w68n rfl).trans ((zIo (by decide)).trans rfl))))) ?_
          refine zs_iload_n (pc := 53) t107_53 rfl ?_
          by_cases w74 : (zI M 10 w68n).toInt = a.toInt
          · refine zs_icmp_eqT (pc := 54) t107_54 rfl rfl (by omega) ?_
            obtain ⟨w75v, w75e, w75⟩ := ziadd (a := w67x3) (b := Int32.ofInt 1) rfl (show (Int32.ofInt 1).toInt = 1 by decide) (by omega) (by omega)
            refine zs_iinc (pc := 115) t107_115 (ls' := [(3, .int w75v), (0, .ref 166), (1, .ref 7), (2, .int a)]) (zml mf107 (by decide)) rfl (c := w75v) w75e rfl ?_
            refine zs_goto (pc := 118) t107_118 ?_
            refine zGo.locals (ls' := [(0, .ref 166), (1, .ref 7), (2, .int a), (3, .int w75v)]) (by simp) ?_
            have w76 := w75
            have w77 : (zI w67M 166 6).toInt = (zI w67M 166 6).toInt := (congrArg Int32.toInt rfl).trans rfl
            have w78 : (zI w67M 166 6).toInt = (zI w67M 166 6).toInt := (congrArg Int32.toInt rfl).trans rfl
            have w79 : (zI w67M 166 6).toInt = (zI w67M 166 6).toInt := (congrArg Int32.toInt rfl).trans rfl
            exact w67ih (w67m - 1) (by omega) w75v w67M ⟨by omega, by omega⟩ w67s w67I ((zFr.refl).trans (w67F.mono rfl)) (by omega) (by omega) (by omega) (fun h hh => by obtain rfl : h = w68n + 1 := (by omega); have hw := x1.2.2.1 w68n (by omega); exact ⟨w67k, w67f, by omega, w67v.skip (zL0.n (Or.inr (by omega)))⟩) (by omega)
          · refine zs_icmp_eqF (pc := 54) t107_54 rfl rfl (by omega) ?_
            refine zs_aload_n (pc := 57) t107_57 rfl ?_
            refine zs_iload_n (pc := 58) t107_58 rfl ?_
            refine zs_invV (pc := 59) (k := 7) (as' := [.int w67x3]) (st := []) t107_59 mf93 rfl rfl (Or.inl ⟨by decide, (zk1 (w67s.k fk_zMc_7))⟩) ⟨by decide, by decide, Nat.le_of_ble_eq_true rfl, Nat.le_of_ble_eq_true rfl⟩ (X93_7 w67s w67I (zSo.fr x0 (zEq.tr (zEq.tr (zEq.tr (zEq.tr (zEq.put rfl) (zFr.eq w63F rfl)) (zFr.eq w64F rfl)) (zEq.put rfl)) (zFr.eq w67F rfl))) x1 ?_) (fun _ _ q => q)
            intro w80v w80x0 w80a w80b
            show zGo X l 3 0 0 107 62 [(0, .ref 166), (1, .ref 7), (2, .int a), (3, .int w67x3)] [.int w80v] w67M _
            by_cases w81 : w80v.toInt = 0
            · refine zs_if_eqT (pc := 62) t107_62 rfl (by omega) ?_
              obtain ⟨w82v, w82e, w82⟩ := ziadd (a := w67x3) (b := Int32.ofInt 1) rfl (show (Int32.ofInt 1).toInt = 1 by decide) (by omega) (by omega)
              refine zs_iinc (pc := 115) t107_115 (ls' := [(3, .int w82v), (0, .ref 166), (1, .ref 7), (2, .int a)]) (zml mf107 (by decide)) rfl (c := w82v) w82e rfl ?_
              refine zs_goto (pc := 118) t107_118 ?_
              refine zGo.locals (ls' := [(0, .ref 166), (1, .ref 7), (2, .int a), (3, .int w82v)]) (by simp) ?_
              have w83 := w82
              have w84 : (zI w67M 166 6).toInt = (zI w67M 166 6).toInt := (congrArg Int32.toInt rfl).trans rfl
              have w85 : (zI w67M 166 6).toInt = (zI w67M 166 6).toInt := (congrArg Int32.toInt rfl).trans rfl
              have w86 : (zI w67M 166 6).toInt = (zI w67M 166 6).toInt := (congrArg Int32.toInt rfl).trans rfl
              exact w67ih (w67m - 1) (by omega) w82v w67M ⟨by omega, by omega⟩ w67s w67I ((zFr.refl).trans (w67F.mono rfl)) (by omega) (by omega) (by omega) (fun h hh => by obtain rfl : h = w68n + 1 := (by omega); have hw := x1.2.2.1 w68n (by omega); exact ⟨w67k, w67f, by omega, w67v.skip (zL0.n (Or.inl (((w80x0 w68n (by omega) (by omega)).resolve_left (fun q => by have z := q.1; omega)).2)))⟩) (by omega)
            · refine zs_if_eqF (pc := 62) t107_62 rfl (by omega) ?_
              refine zs_aload_n (pc := 65) t107_65 rfl ?_
              refine zs_get (pc := 66) t107_66 (by decide) (zk1 (w67s.k fk_zMc_166)) (w67s.p rfl fv_zMc_166_7) ?_
              refine zs_aload_n (pc := 69) t107_69 rfl ?_
              refine zs_get (pc := 70) t107_70 (by decide) (zk1 (w67s.k fk_zMc_166)) (zfvi rfl rfl) ?_
              refine zs_iload_n (pc := 73) t107_73 rfl ?_
              have w87 : zIv cLo cHi (zsI w67M 171 w67k w67x3) := zIv.put w67I (show 0 ≤ w67x3.toInt ∧ w67x3.toInt ≤ 59 from ⟨by omega, by omega⟩)
              refine zs_iast (pc := 74) t107_74 (j := w67k) (by decide) (zk1 (w67s.k fk_zMc_171)) (show (zI w67M 166 6).toInt = ((w67k : Nat) : Int) by omega) (zk2 (w67s.k fk_zMc_171) (by omega)) ?_
              refine zs_aload_n (pc := 75) t107_75 rfl ?_
              refine zs_get (pc := 76) t107_76 (by decide) (zk1 (w67s.k fk_zMc_166)) (w67s.p rfl fv_zMc_166_8) ?_
              refine zs_aload_n (pc := 79) t107_79 rfl ?_
              refine zs_get (pc := 80) t107_80 (by decide) (zk1 (w67s.k fk_zMc_166)) (zfvi rfl ((zIo (by decide)).trans rfl)) ?_
              refine zs_aload_n (pc := 83) t107_83 rfl ?_
              refine zs_get (pc := 84) t107_84 (by decide) (zk1 (w67s.k fk_zMc_7)) (w67s.p rfl fv_zMc_7_4) ?_
              refine zs_iload_n (pc := 87) t107_87 rfl ?_
              have w88 : (zI M 10 w68n).toInt = F (30 + 4 * w68n) ∧ (zI M 11 w68n).toInt = F (31 + 4 * w68n) ∧ (zI M 12 w68n).toInt = F (32 + 4 * w68n) ∧ (zI M 13 w68n).toInt = F (33 + 4 * w68n) := x0.2.2.1 w68n (by omega)
              have w89 := x1.2.2.1 w68n (by omega)
              refine zs_iald (pc := 88) t107_88 (j := w68n) (by decide) (zk1 (w67s.k fk_zMc_10)) (show w67x3.toInt = ((w68n : Nat) : Int) by omega) (zk2 (w67s.k fk_zMc_10) (by omega)) ((zIo (by decide)).trans ((w67F 10 w68n rfl).trans ((zIo (by decide)).trans ((w64F 10 w68n rfl).trans ((w63F 10 w68n rfl).trans ((zIo (by decide)).trans rfl)))))) ?_
              have w90 : zIv cLo cHi (zsI (zsI w67M 171 w67k w67x3) 172 w67k (zI M 10 w68n)) := zIv.put w87 (show 0 ≤ (zI M 10 w68n).toInt ∧ (zI M 10 w68n).toInt ≤ 7 from ⟨by omega, by omega⟩)
              refine zs_iast (pc := 89) t107_89 (j := w67k) (by decide) (zk1 (w67s.k fk_zMc_172)) (show (zI w67M 166 6).toInt = ((w67k : Nat) : Int) by omega) (zk2 (w67s.k fk_zMc_172) (by omega)) ?_
              refine zs_aload_n (pc := 90) t107_90 rfl ?_
              refine zs_get (pc := 91) t107_91 (by decide) (zk1 (w67s.k fk_zMc_166)) (w67s.p rfl fv_zMc_166_9) ?_
              refine zs_aload_n (pc := 94) t107_94 rfl ?_
              refine zs_get (pc := 95) t107_95 (by decide) (zk1 (w67s.k fk_zMc_166)) (zfvi rfl ((zIo (by decide)).trans ((zIo (by decide)).trans rfl))) ?_
              refine zs_aload_n (pc := 98) t107_98 rfl ?_
              refine zs_get (pc := 99) t107_99 (by decide) (zk1 (w67s.k fk_zMc_7)) (w67s.p rfl fv_zMc_7_5) ?_
              refine zs_iload_n (pc := 102) t107_102 rfl ?_
              have w91 := zrg (zI M 11 w68n)
              have w92 : (zI M 10 w68n).toInt = F (30 + 4 * w68n) ∧ (zI M 11 w68n).toInt = F (31 + 4 * w68n) ∧ (zI M 12 w68n).toInt = F (32 + 4 * w68n) ∧ (zI M 13 w68n).toInt = F (33 + 4 * w68n) := x0.2.2.1 w68n (by omega)
              have w93 := x1.2.2.1 w68n (by omega)
              refine zs_iald (pc := 103) t107_103 (j := w68n) (by decide) (zk1 (w67s.k fk_zMc_11)) (show w67x3.toInt = ((w68n : Nat) : Int) by omega) (zk2 (w67s.k fk_zMc_11) (by omega)) ((zIo (by decide)).trans ((zIo (by decide)).trans ((w67F 11 w68n rfl).trans ((zIo (by decide)).trans ((w64F 11 w68n rfl).trans ((w63F 11 w68n rfl).trans ((zIo (by decide)).trans rfl))))))) ?_
              have w94 : zIv cLo cHi (zsI (zsI (zsI w67M 171 w67k w67x3) 172 w67k (zI M 10 w68n)) 173 w67k (zI M 11 w68n)) := zIv.put w90 (show (-2147483648) ≤ (zI M 11 w68n).toInt ∧ (zI M 11 w68n).toInt ≤ 2147483647 from zrg (zI M 11 w68n))
              refine zs_iast (pc := 104) t107_104 (j := w67k) (by decide) (zk1 (w67s.k fk_zMc_173)) (show (zI w67M 166 6).toInt = ((w67k : Nat) : Int) by omega) (zk2 (w67s.k fk_zMc_173) (by omega)) ?_
              refine zs_aload_n (pc := 105) t107_105 rfl ?_
              refine zs_dup (pc := 106) t107_106 rfl ?_
              refine zs_get (pc := 107) t107_107 (by decide) (zk1 (w67s.k fk_zMc_166)) (zfvi rfl ((zIo (by decide)).trans ((zIo (by decide)).trans ((zIo (by decide)).trans rfl)))) ?_
              refine zs_iconst (pc := 110) t107_110 (v := 1) (by decide) ?_
              obtain ⟨w95v, w95e, w95⟩ := ziadd (a := (zI w67M 166 6)) (b := (1 : Int32)) rfl li1 (by omega) (by omega)
              refine zs_iadd (pc := 111) t107_111 (c := w95v) w95e ?_
              have w96 : zIv cLo cHi (zsI (zsI (zsI (zsI w67M 171 w67k w67x3) 172 w67k (zI M 10 w68n)) 173 w67k (zI M 11 w68n)) 166 6 w95v) := zIv.put w94 (show 0 ≤ w95v.toInt ∧ w95v.toInt ≤ 60 from ⟨by omega, by omega⟩)
              refine zs_putI (pc := 112) t107_112 (zk1 (w67s.k fk_zMc_166)) rfl ?_
              obtain ⟨w97v, w97e, w97⟩ := ziadd (a := w67x3) (b := Int32.ofInt 1) rfl (show (Int32.ofInt 1).toInt = 1 by decide) (by omega) (by omega)
              refine zs_iinc (pc := 115) t107_115 (ls' := [(3, .int w97v), (0, .ref 166), (1, .ref 7), (2, .int a)]) (zml mf107 (by decide)) rfl (c := w97v) w97e rfl ?_
              refine zs_goto (pc := 118) t107_118 ?_
              refine zGo.locals (ls' := [(0, .ref 166), (1, .ref 7), (2, .int a), (3, .int w97v)]) (by simp) ?_
              have w98 := w97
              have w99 : (zI (zsI (zsI (zsI (zsI w67M 171 w67k w67x3) 172 w67k (zI M 10 w68n)) 173 w67k (zI M 11 w68n)) 166 6 w95v) 166 6).toInt = ((zI w67M 166 6).toInt + 1) := (congrArg Int32.toInt zIs).trans w95
              have w100 : (zI (zsI (zsI (zsI (zsI w67M 171 w67k w67x3) 172 w67k (zI M 10 w68n)) 173 w67k (zI M 11 w68n)) 166 6 w95v) 166 6).toInt = ((zI w67M 166 6).toInt + 1) := (congrArg Int32.toInt zIs).trans w95
              have w101 : (zI (zsI (zsI (zsI (zsI w67M 171 w67k w67x3) 172 w67k (zI M 10 w68n)) 173 w67k (zI M 11 w68n)) 166 6 w95v) 166 6).toInt = ((zI w67M 166 6).toInt + 1) := (congrArg Int32.toInt zIs).trans w95
              exact w67ih (w67m - 1) (by omega) w97v (zsI (zsI (zsI (zsI w67M 171 w67k w67x3) 172 w67k (zI M 10 w68n)) 173 w67k (zI M 11 w68n)) 166 6 w95v) ⟨by omega, by omega⟩ w67s w96 ((((((zFr.refl).trans (w67F.mono rfl)).put rfl).put rfl).put rfl).put rfl) (by omega) (by omega) (by omega) (fun h hh => by obtain rfl : h = w68n + 1 := (by omega); have hw := x1.2.2.1 w68n (by omega); exact ⟨w67k + 1, uV w67f w67k w68n, by omega, w67v.put (zL0.y (((w80x0 w68n (by omega) (by omega)).resolve_right (fun q => by have z := q.1; omega)).2) (by omega)) ((congrArg Int32.toInt ((zIo (by decide)).trans ((zIo (by decide)).trans ((zIo (by decide)).trans (zIs))))).trans (by omega)) ((congrArg Int32.toInt ((zIo (by decide)).trans ((zIo (by decide)).trans (zIs)))).trans (by omega)) ((congrArg Int32.toInt ((zIo (by decide)).trans (zIs))).trans (by omega)) (fun j q => ((zIo (by decide)).trans ((zIo (by decide)).trans ((zIo (by decide)).trans ((zIoj q).trans rfl))))) (fun j q => ((zIo (by decide)).trans ((zIo (by decide)).trans ((zIoj q).trans ((zIo (by decide)).trans rfl))))) (fun j q => ((zIo (by decide)).trans ((zIoj q).trans ((zIo (by decide)).trans ((zIo (by decide)).trans rfl)))))⟩) (by omega)
    refine zGo.locals (ls' := [(0, .ref 166), (1, .ref 7), (2, .int a), (3, .int (0 : Int32))]) (by simp) ?_
    have w102 := li0
    have w103 : (zI (zsI w64M 166 6 (0 : Int32)) 166 6).toInt = 0 := (congrArg Int32.toInt zIs).trans li0
    have w104 : (zI (zsI w64M 166 6 (0 : Int32)) 166 6).toInt = 0 := (congrArg Int32.toInt zIs).trans li0
    have w105 : (zI (zsI w64M 166 6 (0 : Int32)) 166 6).toInt = 0 := (congrArg Int32.toInt zIs).trans li0
    exact w67L ((60 - 0 : Int).toNat) (0 : Int32) (zsI w64M 166 6 (0 : Int32)) ⟨by decide, by decide⟩ w64s w66 zFr.refl (by omega) (by omega) (by omega) (fun h hh => ⟨0, fun _ => 0, by omega, zVj.zero rfl (by omega)⟩) (by omega)
