theorem C127_164_7 {X : zX} {l : Launch} {M : zM} {Q : Option Value → zM → Prop} (hs : zSk zMc M) (hI : zIv cLo cHi M) (hQ : ∀ M', zSk zMc M' → zIv cLo cHi M' → zFr [(317, 319, none)] M M' → Q none M') : zCall X l 3 0 0 127 [.ref 164, .ref 7] M Q := by
  refine zs_in (by decide) mf127 (Nat.le_of_ble_eq_true rfl) ?_
  show zGo X l 3 0 0 127 0 [(0, .ref 164), (1, .ref 7)] [] M _
  refine zs_iconst (pc := 0) t127_0 (v := 0) (by decide) ?_
  refine zs_istore_n (pc := 1) t127_1 (ls' := [(2, .int (0 : Int32)), (0, .ref 164), (1, .ref 7)]) (zml mf127 (by decide)) rfl ?_
  have w1L : ∀ (m : Nat) (w1x2 : Int32) (w1M : zM), (0 ≤ w1x2.toInt ∧ w1x2.toInt ≤ 60) → zSk zMc w1M → zIv cLo cHi w1M → zFr [(317, 319, none)] M w1M → 60 - w1x2.toInt ≤ (m : Int) → zGo X l 3 0 0 127 2 [(0, .ref 164), (1, .ref 7), (2, .int w1x2)] [] w1M Q := by
    intro m
    induction m using Nat.strongRecOn with
    | ind w1m w1ih =>
      intro w1x2 w1M w1b2 w1s w1I w1F w1q
      refine zs_iload_n (pc := 2) t127_2 rfl ?_
      refine zs_bipush (pc := 3) t127_3 (v := 60) (by decide) ?_
      by_cases w2 : 60 ≤ w1x2.toInt
      · refine zs_icmp_geT (pc := 5) t127_5 rfl li60 (by omega) ?_
        refine zs_iconst (pc := 22) t127_22 (v := 0) (by decide) ?_
        refine zs_istore_n (pc := 23) t127_23 (ls' := [(2, .int (0 : Int32)), (0, .ref 164), (1, .ref 7)]) (zml mf127 (by decide)) rfl ?_
        have w3L : ∀ (m : Nat) (w3x2 : Int32) (w3M : zM), (0 ≤ w3x2.toInt ∧ w3x2.toInt ≤ 12) → zSk zMc w3M → zIv cLo cHi w3M → zFr [(317, 319, none)] w1M w3M → 12 - w3x2.toInt ≤ (m : Int) → zGo X l 3 0 0 127 24 [(0, .ref 164), (1, .ref 7), (2, .int w3x2)] [] w3M Q := by
          intro m
          induction m using Nat.strongRecOn with
          | ind w3m w3ih =>
            intro w3x2 w3M w3b2 w3s w3I w3F w3q
            refine zs_iload_n (pc := 24) t127_24 rfl ?_
            refine zs_aload_n (pc := 25) t127_25 rfl ?_
            have w4 := ib164_5 hI
            refine zs_get (pc := 26) t127_26 (by decide) (zk1 (w3s.k fk_zMc_164)) (zfvi rfl ((w3F 164 5 rfl).trans ((w1F 164 5 rfl).trans rfl))) ?_
            by_cases w5 : (zI M 164 5).toInt ≤ w3x2.toInt
            · refine zs_icmp_geT (pc := 29) t127_29 rfl rfl (by omega) ?_
              refine zs_iconst (pc := 75) t127_75 (v := 0) (by decide) ?_
              refine zs_istore_n (pc := 76) t127_76 (ls' := [(2, .int (0 : Int32)), (0, .ref 164), (1, .ref 7)]) (zml mf127 (by decide)) rfl ?_
              have w6L : ∀ (m : Nat) (w6x2 : Int32) (w6M : zM), (0 ≤ w6x2.toInt ∧ w6x2.toInt ≤ 20) → zSk zMc w6M → zIv cLo cHi w6M → zFr [(317, 319, none)] w3M w6M → 20 - w6x2.toInt ≤ (m : Int) → zGo X l 3 0 0 127 77 [(0, .ref 164), (1, .ref 7), (2, .int w6x2)] [] w6M Q := by
                intro m
                induction m using Nat.strongRecOn with
                | ind w6m w6ih =>
                  intro w6x2 w6M w6b2 w6s w6I w6F w6q
                  refine zs_iload_n (pc := 77) t127_77 rfl ?_
                  refine zs_aload_n (pc := 78) t127_78 rfl ?_
                  refine zs_get (pc := 79) t127_79 (by decide) (zk1 (w6s.k fk_zMc_164)) (w6s.p rfl fv_zMc_164_1) ?_
                  refine zs_invV (pc := 82) (k := 165) (as' := []) (st := [.int w6x2]) t127_82 mf125 rfl rfl (Or.inl ⟨by decide, (zk1 (w6s.k fk_zMc_165))⟩) ⟨by decide, by decide, Nat.le_of_ble_eq_true rfl, Nat.le_of_ble_eq_true rfl⟩ (zs_in (by decide) mf125 (Nat.le_of_ble_eq_true rfl) ?_) (fun _ _ q => q)
                  show zGo X l 0 0 0 125 0 [(0, .ref 165)] [] w6M _
                  refine zs_aload_n (pc := 0) t125_0 rfl ?_
                  have w7 := ib165_2 hI
                  refine zs_get (pc := 1) t125_1 (by decide) (zk1 (w6s.k fk_zMc_165)) (zfvi rfl ((w6F 165 2 rfl).trans ((w3F 165 2 rfl).trans ((w1F 165 2 rfl).trans rfl)))) ?_
                  refine zs_iret (pc := 4) t125_4 mr125 rfl ?_
                  show zGo X l 3 0 0 127 85 [(0, .ref 164), (1, .ref 7), (2, .int w6x2)] [.int (zI M 165 2), .int w6x2] w6M _
                  by_cases w8 : (zI M 165 2).toInt ≤ w6x2.toInt
                  · refine zs_icmp_geT (pc := 85) t127_85 rfl rfl (by omega) ?_
                    exact zs_vret (pc := 138) t127_138 mr127 (hQ _ w6s w6I ((((zFr.refl).trans (w1F.mono rfl)).trans (w3F.mono rfl)).trans (w6F.mono rfl)))
                  · refine zs_icmp_geF (pc := 85) t127_85 rfl rfl (by omega) ?_
                    refine zs_aload_n (pc := 88) t127_88 rfl ?_
                    refine zs_get (pc := 89) t127_89 (by decide) (zk1 (w6s.k fk_zMc_164)) (w6s.p rfl fv_zMc_164_1) ?_
                    refine zs_iload_n (pc := 92) t127_92 rfl ?_
                    refine zs_invV (pc := 93) (k := 165) (as' := [.int w6x2]) (st := []) t127_93 mf126 rfl rfl (Or.inl ⟨by decide, (zk1 (w6s.k fk_zMc_165))⟩) ⟨by decide, by decide, Nat.le_of_ble_eq_true rfl, Nat.le_of_ble_eq_true rfl⟩ (zs_in (by decide) mf126 (Nat.le_of_ble_eq_true rfl) ?_) (fun _ _ q => q)
                    show zGo X l 0 0 0 126 0 [(0, .ref 165), (1, .int w6x2)] [] w6M _
                    refine zs_iload_n (pc := 0) t126_0 rfl ?_
                    refine zs_if_ltF (pc := 1) t126_1 rfl (by omega) ?_
                    refine zs_iload_n (pc := 4) t126_4 rfl ?_
                    refine zs_aload_n (pc := 5) t126_5 rfl ?_
                    refine zs_get (pc := 6) t126_6 (by decide) (zk1 (w6s.k fk_zMc_165)) (zfvi rfl ((w6F 165 2 rfl).trans ((w3F 165 2 rfl).trans ((w1F 165 2 rfl).trans rfl)))) ?_
                    by_cases w9 : (zI M 165 2).toInt ≤ w6x2.toInt
                    · refine zs_icmp_geT (pc := 9) t126_9 rfl rfl (by omega) ?_
                      refine zs_aconst_null (pc := 21) t126_21 ?_
                      refine zs_aret0 (pc := 22) t126_22 (by rw [mr126]; rfl) ?_
                      show zGo X l 3 0 0 127 96 [(0, .ref 164), (1, .ref 7), (2, .int w6x2)] [.null] w6M _
                      refine zs_astore_n0 (pc := 96) t127_96 (ls' := [(3, .null), (0, .ref 164), (1, .ref 7), (2, .int w6x2)]) (zml mf127 (by decide)) rfl ?_
                      refine zs_iconst (pc := 97) t127_97 (v := 0) (by decide) ?_
                      refine zs_istore (pc := 98) t127_98 (ls' := [(4, .int (0 : Int32)), (3, .null), (0, .ref 164), (1, .ref 7), (2, .int w6x2)]) (zml mf127 (by decide)) rfl ?_
                      have w10L : ∀ (m : Nat) (w10x4 : Int32) (w10M : zM), (0 ≤ w10x4.toInt ∧ w10x4.toInt ≤ 8) → zSk zMc w10M → zIv cLo cHi w10M → zFr [(317, 319, none)] w6M w10M → 8 - w10x4.toInt ≤ (m : Int) → zGo X l 3 0 0 127 100 [(0, .ref 164), (1, .ref 7), (2, .int w6x2), (3, .null), (4, .int w10x4)] [] w10M Q := by
                        intro m
                        induction m using Nat.strongRecOn with
                        | ind w10m w10ih =>
                          intro w10x4 w10M w10b4 w10s w10I w10F w10q
                          refine zs_iload (pc := 100) t127_100 rfl ?_
                          refine zs_aload_n (pc := 102) t127_102 rfl ?_
                          have w11 := ib7_0 hI
                          refine zs_get (pc := 103) t127_103 (by decide) (zk1 (w10s.k fk_zMc_7)) (zfvi rfl ((w10F 7 0 rfl).trans ((w6F 7 0 rfl).trans ((w3F 7 0 rfl).trans ((w1F 7 0 rfl).trans rfl))))) ?_
                          by_cases w12 : (zI M 7 0).toInt ≤ w10x4.toInt
                          · refine zs_icmp_geT (pc := 106) t127_106 rfl rfl (by omega) ?_
                            obtain ⟨w13v, w13e, w13⟩ := ziadd (a := w6x2) (b := Int32.ofInt 1) rfl (show (Int32.ofInt 1).toInt = 1 by decide) (by omega) (by omega)
                            refine zs_iinc (pc := 132) t127_132 (ls' := [(2, .int w13v), (0, .ref 164), (1, .ref 7), (3, .null), (4, .int w10x4)]) (zml mf127 (by decide)) rfl (c := w13v) w13e rfl ?_
                            refine zs_goto (pc := 135) t127_135 ?_
                            refine zGo.locals (ls' := [(0, .ref 164), (1, .ref 7), (2, .int w13v)]) (by simp) ?_
                            exact w6ih (w6m - 1) (by omega) w13v w10M ⟨by omega, by omega⟩ w10s w10I (((zFr.refl).trans (w6F.mono rfl)).trans (w10F.mono rfl)) (by omega)
                          · refine zs_icmp_geF (pc := 106) t127_106 rfl rfl (by omega) ?_
                            refine zs_aload_n0 (pc := 109) t127_109 rfl ?_
                            refine zs_ifnullT (pc := 110) t127_110 ?_
                            obtain ⟨w14v, w14e, w14⟩ := ziadd (a := w6x2) (b := Int32.ofInt 1) rfl (show (Int32.ofInt 1).toInt = 1 by decide) (by omega) (by omega)
                            refine zs_iinc (pc := 132) t127_132 (ls' := [(2, .int w14v), (0, .ref 164), (1, .ref 7), (3, .null), (4, .int w10x4)]) (zml mf127 (by decide)) rfl (c := w14v) w14e rfl ?_
                            refine zs_goto (pc := 135) t127_135 ?_
                            refine zGo.locals (ls' := [(0, .ref 164), (1, .ref 7), (2, .int w14v)]) (by simp) ?_
                            exact w6ih (w6m - 1) (by omega) w14v w10M ⟨by omega, by omega⟩ w10s w10I (((zFr.refl).trans (w6F.mono rfl)).trans (w10F.mono rfl)) (by omega)
                      refine zGo.locals (ls' := [(0, .ref 164), (1, .ref 7), (2, .int w6x2), (3, .null), (4, .int (0 : Int32))]) (by simp) ?_
                      have w15 := li0
                      exact w10L ((8 - 0 : Int).toNat) (0 : Int32) w6M ⟨by decide, by decide⟩ w6s w6I zFr.refl (by omega)
                    · refine zs_icmp_geF (pc := 9) t126_9 rfl rfl (by omega) ?_
                      refine zs_aload_n (pc := 12) t126_12 rfl ?_
                      refine zs_get (pc := 13) t126_13 (by decide) (zk1 (w6s.k fk_zMc_165)) (w6s.p rfl fv_zMc_165_1) ?_
                      refine zs_iload_n (pc := 16) t126_16 rfl ?_
                      obtain ⟨w16n, w16⟩ : ∃ n : Nat, w6x2.toInt = (n : Int) := ⟨w6x2.toInt.toNat, by omega⟩
                      have w17 : w16n < 20 := by omega
                      refine zs_aald (pc := 17) t126_17 (j := w16n) (Or.inr (zk1 (w6s.k fk_zMc_179))) w16 (zk2 (w6s.k fk_zMc_179) (by omega)) (w6s.a (fpT181 w16n w17)) ?_
                      refine zs_goto (pc := 18) t126_18 ?_
                      refine zs_aret (pc := 22) t126_22 (by rw [mr126]; rfl) ?_
                      show zGo X l 3 0 0 127 96 [(0, .ref 164), (1, .ref 7), (2, .int w6x2)] [.ref (181 + 3 * w16n)] w6M _
                      refine zs_astore_n (pc := 96) t127_96 (ls' := [(3, .ref (181 + 3 * w16n)), (0, .ref 164), (1, .ref 7), (2, .int w6x2)]) (zml mf127 (by decide)) rfl ?_
                      refine zs_iconst (pc := 97) t127_97 (v := 0) (by decide) ?_
                      refine zs_istore (pc := 98) t127_98 (ls' := [(4, .int (0 : Int32)), (3, .ref (181 + 3 * w16n)), (0, .ref 164), (1, .ref 7), (2, .int w6x2)]) (zml mf127 (by decide)) rfl ?_
                      have w18L : ∀ (m : Nat) (w18x4 : Int32) (w18M : zM), (0 ≤ w18x4.toInt ∧ w18x4.toInt ≤ 8) → zSk zMc w18M → zIv cLo cHi w18M → zFr [(317, 319, none)] w6M w18M → 8 - w18x4.toInt ≤ (m : Int) → zGo X l 3 0 0 127 100 [(0, .ref 164), (1, .ref 7), (2, .int w6x2), (3, .ref (181 + 3 * w16n)), (4, .int w18x4)] [] w18M Q := by
                        intro m
                        induction m using Nat.strongRecOn with
                        | ind w18m w18ih =>
                          intro w18x4 w18M w18b4 w18s w18I w18F w18q
                          refine zs_iload (pc := 100) t127_100 rfl ?_
                          refine zs_aload_n (pc := 102) t127_102 rfl ?_
                          have w19 := ib7_0 hI
                          refine zs_get (pc := 103) t127_103 (by decide) (zk1 (w18s.k fk_zMc_7)) (zfvi rfl ((w18F 7 0 rfl).trans ((w6F 7 0 rfl).trans ((w3F 7 0 rfl).trans ((w1F 7 0 rfl).trans rfl))))) ?_
                          by_cases w20 : (zI M 7 0).toInt ≤ w18x4.toInt
                          · refine zs_icmp_geT (pc := 106) t127_106 rfl rfl (by omega) ?_
                            obtain ⟨w21v, w21e, w21⟩ := ziadd (a := w6x2) (b := Int32.ofInt 1) rfl (show (Int32.ofInt 1).toInt = 1 by decide) (by omega) (by omega)
                            refine zs_iinc (pc := 132) t127_132 (ls' := [(2, .int w21v), (0, .ref 164), (1, .ref 7), (3, .ref (181 + 3 * w16n)), (4, .int w18x4)]) (zml mf127 (by decide)) rfl (c := w21v) w21e rfl ?_
                            refine zs_goto (pc := 135) t127_135 ?_
                            refine zGo.locals (ls' := [(0, .ref 164), (1, .ref 7), (2, .int w21v)]) (by simp) ?_
                            exact w6ih (w6m - 1) (by omega) w21v w18M ⟨by omega, by omega⟩ w18s w18I (((zFr.refl).trans (w6F.mono rfl)).trans (w18F.mono rfl)) (by omega)
                          · refine zs_icmp_geF (pc := 106) t127_106 rfl rfl (by omega) ?_
                            refine zs_aload_n (pc := 109) t127_109 rfl ?_
                            refine zs_ifnullF (pc := 110) t127_110 ?_
                            refine zs_aload_n (pc := 113) t127_113 rfl ?_
                            refine zs_aload_n (pc := 114) t127_114 rfl ?_
                            refine zs_aload_n (pc := 115) t127_115 rfl ?_
                            refine zs_get (pc := 116) t127_116 (by decide) (zk1 (w18s.k (fT181_0 w16n w17))) (w18s.p rfl (fvT181_6 w16n w17)) ?_
                            refine zs_iload (pc := 119) t127_119 rfl ?_
                            obtain ⟨w22n, w22⟩ : ∃ n : Nat, w18x4.toInt = (n : Int) := ⟨w18x4.toInt.toNat, by omega⟩
                            have w23 := ibT181_1 w18I w17 w22n
                            refine zs_iald (pc := 121) t127_121 (j := w22n) (by omega) (zk1 (w18s.k (fT181_1 w16n w17))) w22 (zk2 (w18s.k (fT181_1 w16n w17)) (by omega)) rfl ?_
                            refine zs_iload_n (pc := 122) t127_122 rfl ?_
                            refine zs_invV (pc := 123) (k := 164) (as' := [.ref 7, .int (zI w18M (181 + 3 * w16n + 1) w22n), .int w6x2]) (st := []) t127_123 mf129 rfl rfl (Or.inl ⟨by decide, (zk1 (w18s.k fk_zMc_164))⟩) ⟨by decide, by decide, Nat.le_of_ble_eq_true rfl, Nat.le_of_ble_eq_true rfl⟩ (C129_164_7 w18s w18I ⟨by omega, by omega⟩ ?_) (fun _ _ q => q)
                            intro w24M w24s w24I w24F
                            show zGo X l 3 0 0 127 126 [(0, .ref 164), (1, .ref 7), (2, .int w6x2), (3, .ref (181 + 3 * w16n)), (4, .int w18x4)] [] w24M _
                            obtain ⟨w25v, w25e, w25⟩ := ziadd (a := w18x4) (b := Int32.ofInt 1) rfl (show (Int32.ofInt 1).toInt = 1 by decide) (by omega) (by omega)
                            refine zs_iinc (pc := 126) t127_126 (ls' := [(4, .int w25v), (0, .ref 164), (1, .ref 7), (2, .int w6x2), (3, .ref (181 + 3 * w16n))]) (zml mf127 (by decide)) rfl (c := w25v) w25e rfl ?_
                            refine zs_goto (pc := 129) t127_129 ?_
                            refine zGo.locals (ls' := [(0, .ref 164), (1, .ref 7), (2, .int w6x2), (3, .ref (181 + 3 * w16n)), (4, .int w25v)]) (by simp) ?_
                            exact w18ih (w18m - 1) (by omega) w25v w24M ⟨by omega, by omega⟩ w24s w24I (((zFr.refl).trans (w18F.mono rfl)).trans (w24F.mono rfl)) (by omega)
                      refine zGo.locals (ls' := [(0, .ref 164), (1, .ref 7), (2, .int w6x2), (3, .ref (181 + 3 * w16n)), (4, .int (0 : Int32))]) (by simp) ?_
                      have w26 := li0
                      exact w18L ((8 - 0 : Int).toNat) (0 : Int32) w6M ⟨by decide, by decide⟩ w6s w6I zFr.refl (by omega)
              refine zGo.locals (ls' := [(0, .ref 164), (1, .ref 7), (2, .int (0 : Int32))]) (by simp) ?_
              have w27 := li0
              exact w6L ((20 - 0 : Int).toNat) (0 : Int32) w3M ⟨by decide, by decide⟩ w3s w3I zFr.refl (by omega)
            · refine zs_icmp_geF (pc := 29) t127_29 rfl rfl (by omega) ?_
              refine zs_aload_n (pc := 32) t127_32 rfl ?_
              refine zs_get (pc := 33) t127_33 (by decide) (zk1 (w3s.k fk_zMc_164)) (w3s.p rfl fv_zMc_164_7) ?_
              refine zs_iload_n (pc := 36) t127_36 rfl ?_
              refine zs_aload_n (pc := 37) t127_37 rfl ?_
              refine zs_iload_n (pc := 38) t127_38 rfl ?_
              refine zs_invV (pc := 39) (k := 7) (as' := [.int w3x2]) (st := [.int w3x2, .ref 318]) t127_39 mf128 rfl rfl (Or.inl ⟨by decide, (zk1 (w3s.k fk_zMc_7))⟩) ⟨by decide, by decide, Nat.le_of_ble_eq_true rfl, Nat.le_of_ble_eq_true rfl⟩ (C128_7 w3s w3I ?_) (fun _ _ q => q)
              intro w28v w28a w28b
              show zGo X l 3 0 0 127 42 [(0, .ref 164), (1, .ref 7), (2, .int w3x2)] [.int w28v, .int w3x2, .ref 318] w3M _
              obtain ⟨w29n, w29⟩ : ∃ n : Nat, w3x2.toInt = (n : Int) := ⟨w3x2.toInt.toNat, by omega⟩
              have w30 : zIv cLo cHi (zsI w3M 318 w29n w28v) := zIv.put w3I (show (-2147483648) ≤ w28v.toInt ∧ w28v.toInt ≤ 2147483647 from (zrg w28v))
              refine zs_iast (pc := 42) t127_42 (j := w29n) (by decide) (zk1 (w3s.k fk_zMc_318)) w29 (zk2 (w3s.k fk_zMc_318) (by omega)) ?_
              refine zs_iconst (pc := 43) t127_43 (v := 0) (by decide) ?_
              refine zs_istore_n (pc := 44) t127_44 (ls' := [(3, .int (0 : Int32)), (0, .ref 164), (1, .ref 7), (2, .int w3x2)]) (zml mf127 (by decide)) rfl ?_
              have w31L : ∀ (m : Nat) (w31x3 : Int32) (w31M : zM), (0 ≤ w31x3.toInt ∧ w31x3.toInt ≤ 20) → zSk zMc w31M → zIv cLo cHi w31M → zFr [(317, 319, none)] (zsI w3M 318 w29n w28v) w31M → 20 - w31x3.toInt ≤ (m : Int) → zGo X l 3 0 0 127 45 [(0, .ref 164), (1, .ref 7), (2, .int w3x2), (3, .int w31x3)] [] w31M Q := by
                intro m
                induction m using Nat.strongRecOn with
                | ind w31m w31ih =>
                  intro w31x3 w31M w31b3 w31s w31I w31F w31q
                  refine zs_iload_n (pc := 45) t127_45 rfl ?_
                  refine zs_bipush (pc := 46) t127_46 (v := 20) (by decide) ?_
                  by_cases w32 : 20 ≤ w31x3.toInt
                  · refine zs_icmp_geT (pc := 48) t127_48 rfl li20 (by omega) ?_
                    obtain ⟨w33v, w33e, w33⟩ := ziadd (a := w3x2) (b := Int32.ofInt 1) rfl (show (Int32.ofInt 1).toInt = 1 by decide) (by omega) (by omega)
                    refine zs_iinc (pc := 69) t127_69 (ls' := [(2, .int w33v), (0, .ref 164), (1, .ref 7), (3, .int w31x3)]) (zml mf127 (by decide)) rfl (c := w33v) w33e rfl ?_
                    refine zs_goto (pc := 72) t127_72 ?_
                    refine zGo.locals (ls' := [(0, .ref 164), (1, .ref 7), (2, .int w33v)]) (by simp) ?_
                    exact w3ih (w3m - 1) (by omega) w33v w31M ⟨by omega, by omega⟩ w31s w31I ((((zFr.refl).trans (w3F.mono rfl)).put rfl).trans (w31F.mono rfl)) (by omega)
                  · refine zs_icmp_geF (pc := 48) t127_48 rfl li20 (by omega) ?_
                    refine zs_aload_n (pc := 51) t127_51 rfl ?_
                    refine zs_get (pc := 52) t127_52 (by decide) (zk1 (w31s.k fk_zMc_164)) (w31s.p rfl fv_zMc_164_8) ?_
                    refine zs_iload_n (pc := 55) t127_55 rfl ?_
                    refine zs_bipush (pc := 56) t127_56 (v := 20) (by decide) ?_
                    obtain ⟨w34v, w34⟩ : ∃ v, w3x2 * (20 : Int32) = v := ⟨_, rfl⟩
                    have w34g : w34v.toInt = w3x2.toInt * 20 := by rw [← w34]; exact zmulc rfl li20 (by omega) (by omega)
                    refine zs_imul (pc := 58) t127_58 (c := w34v) w34 ?_
                    refine zs_iload_n (pc := 59) t127_59 rfl ?_
                    obtain ⟨w35v, w35e, w35⟩ := ziadd (a := w34v) (b := w31x3) rfl rfl (by omega) (by omega)
                    refine zs_iadd (pc := 60) t127_60 (c := w35v) w35e ?_
                    refine zs_iconst (pc := 61) t127_61 (v := 0) (by decide) ?_
                    obtain ⟨w36n, w36⟩ : ∃ n : Nat, w35v.toInt = (n : Int) := ⟨w35v.toInt.toNat, by omega⟩
                    have w37 : zIv cLo cHi (zsI w31M 319 w36n (0 : Int32)) := zIv.put w31I (show (-2147483648) ≤ (0 : Int32).toInt ∧ (0 : Int32).toInt ≤ 2147483647 from (zrg (0 : Int32)))
                    refine zs_iast (pc := 62) t127_62 (j := w36n) (by decide) (zk1 (w31s.k fk_zMc_319)) w36 (zk2 (w31s.k fk_zMc_319) (by omega)) ?_
                    obtain ⟨w38v, w38e, w38⟩ := ziadd (a := w31x3) (b := Int32.ofInt 1) rfl (show (Int32.ofInt 1).toInt = 1 by decide) (by omega) (by omega)
                    refine zs_iinc (pc := 63) t127_63 (ls' := [(3, .int w38v), (0, .ref 164), (1, .ref 7), (2, .int w3x2)]) (zml mf127 (by decide)) rfl (c := w38v) w38e rfl ?_
                    refine zs_goto (pc := 66) t127_66 ?_
                    refine zGo.locals (ls' := [(0, .ref 164), (1, .ref 7), (2, .int w3x2), (3, .int w38v)]) (by simp) ?_
                    exact w31ih (w31m - 1) (by omega) w38v (zsI w31M 319 w36n (0 : Int32)) ⟨by omega, by omega⟩ w31s w37 (((zFr.refl).trans (w31F.mono rfl)).put rfl) (by omega)
              refine zGo.locals (ls' := [(0, .ref 164), (1, .ref 7), (2, .int w3x2), (3, .int (0 : Int32))]) (by simp) ?_
              have w39 := li0
              exact w31L ((20 - 0 : Int).toNat) (0 : Int32) (zsI w3M 318 w29n w28v) ⟨by decide, by decide⟩ w3s w30 zFr.refl (by omega)
        refine zGo.locals (ls' := [(0, .ref 164), (1, .ref 7), (2, .int (0 : Int32))]) (by simp) ?_
        have w40 := li0
        exact w3L ((12 - 0 : Int).toNat) (0 : Int32) w1M ⟨by decide, by decide⟩ w1s w1I zFr.refl (by omega)
      · refine zs_icmp_geF (pc := 5) t127_5 rfl li60 (by omega) ?_
        refine zs_aload_n (pc := 8) t127_8 rfl ?_
        refine zs_get (pc := 9) t127_9 (by decide) (zk1 (w1s.k fk_zMc_164)) (w1s.p rfl fv_zMc_164_6) ?_
        refine zs_iload_n (pc := 12) t127_12 rfl ?_
        refine zs_bipush (pc := 13) t127_13 (v := -2) (by decide) ?_
        obtain ⟨w41n, w41⟩ : ∃ n : Nat, w1x2.toInt = (n : Int) := ⟨w1x2.toInt.toNat, by omega⟩
        have w42 : zIv cLo cHi (zsI w1M 317 w41n (-2 : Int32)) := zIv.put w1I (show (-2147483648) ≤ (-2 : Int32).toInt ∧ (-2 : Int32).toInt ≤ 2147483647 from (zrg (-2 : Int32)))
        refine zs_iast (pc := 15) t127_15 (j := w41n) (by decide) (zk1 (w1s.k fk_zMc_317)) w41 (zk2 (w1s.k fk_zMc_317) (by omega)) ?_
        obtain ⟨w43v, w43e, w43⟩ := ziadd (a := w1x2) (b := Int32.ofInt 1) rfl (show (Int32.ofInt 1).toInt = 1 by decide) (by omega) (by omega)
        refine zs_iinc (pc := 16) t127_16 (ls' := [(2, .int w43v), (0, .ref 164), (1, .ref 7)]) (zml mf127 (by decide)) rfl (c := w43v) w43e rfl ?_
        refine zs_goto (pc := 19) t127_19 ?_
        refine zGo.locals (ls' := [(0, .ref 164), (1, .ref 7), (2, .int w43v)]) (by simp) ?_
        exact w1ih (w1m - 1) (by omega) w43v (zsI w1M 317 w41n (-2 : Int32)) ⟨by omega, by omega⟩ w1s w42 (((zFr.refl).trans (w1F.mono rfl)).put rfl) (by omega)
  refine zGo.locals (ls' := [(0, .ref 164), (1, .ref 7), (2, .int (0 : Int32))]) (by simp) ?_
  have w44 := li0
  exact w1L ((60 - 0 : Int).toNat) (0 : Int32) M ⟨by decide, by decide⟩ hs hI zFr.refl (by omega)
