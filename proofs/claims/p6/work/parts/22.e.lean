theorem C127_164_7 {X : zX} {l : Launch} {M : zM} {Q : Option Value → zM → Prop} (hs : zSk zMc M) (hI : zIv cLo cHi M) (hQ : ∀ M', zSk zMc M' → zIv cLo cHi M' → zFr [(317, 319, none)] M M' → Q none M') : zCall X l 3 0 0 127 [.ref 164, .ref 7] M Q := by
  refine zs_in (by decide) mf127 (Nat.le_of_ble_eq_true rfl) ?_
  show zGo X l 3 0 0 127 0 [(0, .ref 164), (1, .ref 7)] [] M _
  refine zs_iconst (pc := 0) t127_0 (v := 0) (by decide) ?_
  refine zs_istore_n (pc := 1) t127_1 (ls' := [(2, .int (0 : Int32)), (0, .ref 164), (1, .ref 7)]) (zml mf127 (by decide)) rfl ?_
  have w1L : ∀ (m : Nat) (w1x2 : Int32) (w1M : zM), (0 ≤ w1x2.toInt ∧ w1x2.toInt ≤ 60) → zSk zMc w1M → zIv cLo cHi w1M → zFr [(317, 319, none)] M w1M → 60 - w1x2.toInt ≤ (m : Int) → zGo X l 3 0 0 127 2 [(0, .ref 164), (1, .ref 7), (2, .int w1x2)] [] w1M Q := by
    intro m
    induction m using Nat.strongRecOn with
    | ind w1m w1ih =>
      intro w1x2 w1M w1b2 w1s w1I w1F w1q
      refine zs_iload_n (pc := 2) t127_2 rfl ?_
      refine zs_bipush (pc := 3) t127_3 (v := 60) (by decide) ?_
      by_cases w2 : 60 ≤ w1x2.toInt
      · refine zs_icmp_geT (pc := 5) t127_5 rfl li60 (by omega) ?_
        refine zs_iconst (pc := 22) t127_22 (v := 0) (by decide) ?_
        refine zs_istore_n (pc := 23) t127_23 (ls' := [(2, .int (0 : Int32)), (0, .ref 164), (1, .ref 7)]) (zml mf127 (by decide)) rfl ?_
        have w3L : ∀ (m : Nat) (w3x2 : Int32) (w3M : zM), (0 ≤ w3x2.toInt ∧ w3x2.toInt ≤ 12) → zSk zMc w3M → zIv cLo cHi w3M → zFr [(317, 319, none)] w1M w3M → 12 - w3x2.toInt ≤ (m : Int) → zGo X l 3 0 0 127 24 [(0, .ref 164), (1, .ref 7), (2, .int w3x2)] [] w3M Q := by
          intro m
          induction m using Nat.strongRecOn with
          | ind w3m w3ih =>
            intro w3x2 w3M w3b2 w3s w3I w3F w3q
            refine zs_iload_n (pc := 24) t127_24 rfl ?_
            refine zs_aload_n (pc := 25) t127_25 rfl ?_
            have w4 := ib164_5 hI
            refine zs_get (pc := 26) t127_26 (by decide) (zk1 (w3s.k fk_zMc_164)) (zfvi rfl ((w3F 164 5 rfl).trans ((w1F 164 5 rfl).trans rfl))) ?_
            by_cases w5 : (zI M 164 5).toInt ≤ w3x2.toInt
            · refine zs_icmp_geT (pc := 29) t127_29 rfl rfl (by omega) ?_
              refine zs_iconst (pc := 75) t127_75 (v := 0) (by decide) ?_
              refine zs_istore_n (pc := 76) t127_76 (ls' := [(2, .int (0 : Int32)), (0, .ref 164), (1, .ref 7)]) (zml mf127 (by decide)) rfl ?_
              have w6L : ∀ (m : Nat) (w6x2 : Int32) (w6M : zM), (0 ≤ w6x2.toInt ∧ w6x2.toInt ≤ 20) → zSk zMc w6M → zIv cLo cHi w6M → zFr [(317, 319, none)] w3M w6M → 20 - w6x2.toInt ≤ (m : Int) → zGo X l 3 0 0 127 77 [(0, .ref 164), (1, .ref 7), (2, .int w6x2)] [] w6M Q := by
                intro m
                induction m using Nat.strongRecOn with
                | ind w6m w6ih =>
                  intro w6x2 w6M w6b2 w6s w6I w6F w6q
                  refine zs_iload_n (pc := 77) t127_77 rfl ?_
                  refine zs_aload_n (pc := 78) t127_78 rfl ?_
                  refine zs_get (pc := 79) t127_79 (by decide) (zk1 (w6s.k fk_zMc_164)) (w6s.p rfl fv_zMc_164_1) ?_
                  refine zs_invV (pc := 82) (k := 165) (as' := []) (st := [.int w6x2]) t127_82 mf125 rfl rfl (Or.inl ⟨by decide, (zk1 (w6s.k fk_zMc_165))⟩) ⟨by decide, by decide, Nat.le_of_ble_eq_true rfl, Nat.le_of_ble_eq_true rfl⟩ (zs_in (by decide) mf125 (Nat.le_of_ble_eq_true rfl) ?_) (fun _ _ q => q)
                  show zGo X l 0 0 0 125 0 [(0, .ref 165)] [] w6M _
                  refine zs_aload_n (pc := 0) t125_0 rfl ?_
                  have w7 := ib165_2 hI
                  refine zs_get (pc := 1) t125_1 (by decide) (zk1 (w6s.k fk_zMc_165)) (zfvi rfl ((w6F 165 2 rfl).trans ((w3F 165 2 rfl).trans ((w1F 165 2 rfl).trans rfl)))) ?_
                  refine zs_iret (pc := 4) t125_4 mr125 rfl ?_
                  show zGo X l 3 0 0 127 85 [(0, .ref 164), (1, .ref 7), (2, .int w6x2)] [.int (zI M 165 2), .int w6x2] w6M _
                  by_cases w8 : (zI M 165 2).toInt ≤ w6x2.toInt
                  · refine zs_icmp_geT (pc := 85) t127_85 rfl rfl (by omega) ?_
                    exact zs_vret (pc := 138) t127_138 mr127 (hQ _ w6s w6I ((((zFr.refl).trans (w1F.mono rfl)).trans (w3F.mono rfl)).trans (w6F.mono rfl)))
                  · refine zs_icmp_geF (pc := 85) t127_85 rfl rfl (by omega) ?_
                    refine zs_aload_n (pc := 88) t127_88 rfl ?_
                    refine zs_get (pc := 89) t127_89 (by decide) (zk1 (w6s.k fk_zMc_164)) (w6s.p rfl fv_zMc_164_1) ?_
                    refine zs_iload_n (pc := 92) t127_92 rfl ?_
                    refine zs_invV (pc := 93) (k := 165) (as' := [.int w6x2]) (st := []) t127_93 mf126 rfl rfl (Or.inl ⟨by decide, (zk1 (w6s.k fk_zMc_165))⟩) ⟨by decide, by decide, Nat.le_of_ble_eq_true rfl, Nat.le_of_ble_eq_true rfl⟩ (zs_in (by decide) mf126 (Nat.le_of_ble_eq_true rfl) ?_) (fun _ _ q => q)
                    show zGo X l 0 0 0 126 0 [(0, .ref 165), (1, .int w6x2)] [] w6M _
                    refine zs_iload_n (pc := 0) t126_0 rfl ?_
                    refine zs_if_ltF (pc := 1) t126_1 rfl (by omega) ?_
                    refine zs_iload_n (pc := 4) t126_4 rfl ?_
                    refine zs_aload_n (pc := 5) t126_5 rfl ?_
                    refine zs_get (pc := 6) t126_6 (by decide) (zk1 (w6s.k fk_zMc_165)) (zfvi rfl ((w6F 165 2 rfl).trans ((w3F 165 2 rfl).trans ((w1F 165 2 rfl).trans rfl)))) ?_
                    by_cases w9 : (zI M 165 2).toInt ≤ w6x2.toInt
                    · refine zs_icmp_geT (pc := 9) t126_9 rfl rfl (by omega) ?_
                      refine zs_aconst_null (pc := 21) t126_21 ?_
                      refine zs_aret0 (pc := 22) t126_22 (by rw [mr126]; rfl) ?_
                      show zGo X l 3 0 0 127 96 [(0, .ref 164), (1, .ref 7), (2, .int w6x2)] [.null] w6M _
                      refine zs_astore_n0 (pc := 96) t127_96 (ls' := [(3, .null), (0, .ref 164), (1, .ref 7), (2, .int w6x2)]) (zml mf127 (by decide)) rfl ?_
                      refine zs_iconst (pc := 97) t127_97 (v := 0) (by decide) ?_
                      refine zs_istore (pc := 98) t127_98 (ls' := [(4, .int (0 : Int32)), (3, .null), (0, .ref 164), (1, .ref 7), (2, .int w6x2)]) (zml mf127 (by decide)) rfl ?_
                      have w10L : ∀ (m : Nat) (w10x4 : Int32) (w10M : zM), (0 ≤ w10x4.toInt ∧ w10x4.toInt ≤ 8) → zSk zMc w10M → zIv cLo cHi w10M → zFr [(317, 319, none)] w6M w10M → 8 - w10x4.toInt ≤ (m : Int) → zGo X l 3 0 0 127 100 [(0, .ref 164), (1, .ref 7), (2, .int w6x2), (3, .null), (4, .int w10x4)] [] w10M Q := by
                        intro m
                        induction m using Nat.strongRecOn with
                        | ind w10m w10ih =>
                          intro w10x4 w10M w10b4 w10s w10I w10F w10q
                          refine zs_iload (pc := 100) t127_100 rfl ?_
                          refine zs_aload_n (pc := 102) t127_102 rfl ?_
                          have w11 := ib7_0 hI
                          refine zs_get (pc := 103) t127_103 (by decide) (zk1 (w10s.k fk_zMc_7)) (zfvi rfl ((w10F 7 0 rfl).trans ((w6F 7 0 rfl).trans ((w3F 7 0 rfl).trans ((w1F 7 0 rfl).trans rfl))))) ?_
                          by_cases w12 : (zI M 7 0).toInt ≤ w10x4.toInt
                          · refine zs_icmp_geT (pc := 106) t127_106 rfl rfl (by omega) ?_
                            obtain ⟨w13v, w13e, w13⟩ := ziadd (a := w6x2) (b := Int32.ofInt 1) rfl (show (Int32.ofInt 1).toInt = 1 by decide) (by omega) (by omega)
                            refine zs_iinc (pc := 132) t127_132 (ls' := [(2, .int w13v), (0, .ref 164), (1, .ref 7), (3, .null), (4, .int w10x4)]) (zml mf127 (by decide)) rfl (c := w13v) w13e rfl ?_
                            refine zs_goto (pc := 135) t127_135 ?_
                            refine zGo.locals (ls' := [(0, .ref 164), (1, .ref 7), (2, .int w13v)]) (by simp) ?_
                            exact w6ih (w6m - 1) (by omega) w13v w10M ⟨by omega, by omega⟩ w10s w10I (((zFr.refl).trans (w6F.mono rfl)).trans (w10F.mono rfl)) (by omega)
                          · refine zs_icmp_geF (pc := 106) t127_106 rfl rfl (by omega) ?_
                            refine zs_aload_n0 (pc := 109) t127_109 rfl ?_
                            refine zs_ifnullT (pc := 110) t127_110 ?_
                            obtain ⟨w14v, w14e, w14⟩ := ziadd (a := w6x2) (b := Int32.ofInt 1) rfl (show (Int32.ofInt 1).toInt = 1 by decide) (by omega) (by omega)
                            refine zs_iinc (pc := 132) t127_132 (ls' := [(2, .int w14v), (0, .ref 164), (1, .ref 7), (3, .null), (4, .int w10x4)]) (zml mf127 (by decide)) rfl (c := w14v) w14e rfl ?_
                            refine zs_goto (pc := 135) t127_135 ?_
                            refine zGo.locals (ls' := [(0, .ref 164), (1, .ref 7), (2, .int w14v)]) (by simp) ?_
                            exact w6ih (w6m - 1) (by omega) w14v w10M ⟨by omega, by omega⟩ w10s w10I (((zFr.refl).trans (w6F.mono rfl)).trans (w10F.mono rfl)) (by omega)
                      refine zGo.locals (ls' := [(0, .ref 164), (1, .ref 7), (2, .int w6x2), (3, .null), (4, .int (0 : Int32))]) (by simp) ?_
                      have w15 := li0
                      exact w10L ((8 - 0 : Int).toNat) (0 : Int32) w6M ⟨by decide, by decide⟩ w6s w6I zFr.refl (by omega)
                    · refine zs_icmp_geF (pc := 9) t126_9 rfl rfl (by omega) ?_
                      refine zs_aload_n (pc := 12) t126_12 rfl ?_
                      refine zs_get (pc := 13) t126_13 (by decide) (zk1 (w6s.k fk_zMc_165)) (w6s.p rfl fv_zMc_165_1) ?_
                      refine zs_iload_n (pc := 16) t126_16 rfl ?_
                      obtain ⟨w16n, w16⟩ : ∃ n : Nat, w6x2.toInt = (n : Int) := ⟨w6x2.toInt.toNat, by omega⟩
                      have w17 : w16n < 20 := by omega
                      refine zs_aald (pc := 17) t126_17 (j := w16n) (Or.inr (zk1 (w6s.k fk_zMc_179))) w16 (zk2 (w6s.k fk_zMc_179) (by omega)) (w6s.a (fpT181 w16n w17)) ?_
                      refine zs_goto (pc := 18) t126_18 ?_
                      refine zs_aret (pc := 22) t126_22 (by rw [mr126]; rfl) ?_
                      show zGo X l 3 0 0 127 96 [(0, .ref 164), (1, .ref 7), (2, .int w6x2)] [.ref (181 + 3 * w16n)] w6M _
                      refine zs_astore_n (pc := 96) t127_96 (ls' := [(3, .ref (181 + 3 * w16n)), (0, .ref 164), (1, .ref 7), (2, .int w6x2)]) (zml mf127 (by decide)) rfl ?_
                      refine zs_iconst (pc := 97) t127_97 (v := 0) (by decide) ?_
                      refine zs_istore (pc := 98) t127_98 (ls' := [(4, .int (0 : Int32)), (3, .ref (181 + 3 * w16n)), (0, .ref 164), (1, .ref 7), (2, .int w6x2)]) (zml mf127 (by decide)) rfl ?_
                      have w18L : ∀ (m : Nat) (w18x4 : Int32) (w18M : zM), (0 ≤ w18x4.toInt ∧ w18x4.toInt ≤ 8) → zSk zMc w18M → zIv cLo cHi w18M → zFr [(317, 319, none)] w6M w18M → 8 - w18x4.toInt ≤ (m : Int) → zGo X l 3 0 0 127 100 [(0, .ref 164), (1, .ref 7), (2, .int w6x2), (3, .ref (181 + 3 * w16n)), (4, .int w18x4)] [] w18M Q := by
                        intro m
                        induction m using Nat.strongRecOn with
                        | ind w18m w18ih =>
                          intro w18x4 w18M w18b4 w18s w18I w18F w18q
                          refine zs_iload (pc := 100) t127_100 rfl ?_
                          refine zs_aload_n (pc := 102) t127_102 rfl ?_
                          have w19 := ib7_0 hI
                          refine zs_get (pc := 103) t127_103 (by decide) (zk1 (w18s.k fk_zMc_7)) (zfvi rfl ((w18F 7 0 rfl).trans ((w6F 7 0 rfl).trans ((w3F 7 0 rfl).trans ((w1F 7 0 rfl).trans rfl))))) ?_
                          by_cases w20 : (zI M 7 0).toInt ≤ w18x4.toInt
                          · refine zs_icmp_geT (pc := 106) t127_106 rfl rfl (by omega) ?_
                            obtain ⟨w21v, w21e, w21⟩ := ziadd (a := w6x2) (b := Int32.ofInt 1) rfl (show (Int32.ofInt 1).toInt = 1 by decide) (by omega) (by omega)
                            refine zs_iinc (pc := 132) t127_132 (ls' := [(2, .int w21v), (0, .ref 164), (1, .ref 7), (3, .ref (181 + 3 * w16n)), (4, .int w18x4)]) (zml mf127 (by decide)) rfl (c := w21v) w21e rfl ?_
                            refine zs_goto (pc := 135) t127_135 ?_
                            refine zGo.locals (ls' := [(0, .ref 164), (1, .ref 7), (2, .int w21v)]) (by simp) ?_
                            exact w6ih (w6m - 1) (by omega) w21v w18M ⟨by omega, by omega⟩ w18s w18I (((zFr.refl).trans (w6F.mono rfl)).trans (w18F.mono rfl)) (by omega)
                          · refine zs_icmp_geF (pc := 106) t127_106 rfl rfl (by omega) ?_
                            refine zs_aload_n (pc := 109) t127_109 rfl ?_
                            refine zs_ifnullF (pc := 110) t127_110 ?_
                            refine zs_aload_n (pc := 113) t127_113 rfl ?_
                            refine zs_aload_n (pc := 114) t127_114 rfl ?_
                            refine zs_aload_n (pc := 115) t127_115 rfl ?_
                            refine zs_get (pc := 116) t127_116 (by decide) (zk1 (w18s.k (fT181_0 w16n w17))) (w18s.p rfl (fvT181_6 w16n w17)) ?_
                            refine zs_iload (pc := 119) t127_119 rfl ?_
                            obtain ⟨w22n, w22⟩ : ∃ n : Nat, w18x4.toInt = (n : Int) := ⟨w18x4.toInt.toNat, by omega⟩
                            have w23 := ibT181_1 w18I w17 w22n
                            refine zs_iald (pc := 121) t127_121 (j := w22n) (by omega) (zk1 (w18s.k (fT181_1 w16n w17))) w22 (zk2 (w18s.k (fT181_1 w16n w17)) (by omega)) rfl ?_
                            refine zs_iload_n (pc := 122) t127_122 rfl ?_
                            refine zs_invV (pc := 123) (k := 164) (as' := [.ref 7, .int (zI w18M (181 + 3 * w16n + 1) w22n), .int w6x2]) (st := []) t127_123 mf129 rfl rfl (Or.inl ⟨by decide, (zk1 (w18s.k fk_zMc_164))⟩) ⟨by decide, by decide, Nat.le_of_ble_eq_true rfl, Nat.le_of_ble_eq_true rfl⟩ (C129_164_7 w18s w18I ⟨by omega, by omega⟩ ?_) (fun _ _ q => q)
                            intro w24M w24s w24I w24F
                            show zGo X l 3 0 0 127 126 [(0, .ref 164), (1, .ref 7), (2, .int w6x2), (3, .ref (181 + 3 * w16n)), (4, .int w18x4)] [] w24M _
                            obtain ⟨w25v, w25e, w25⟩ := ziadd (a := w18x4) (b := Int32.ofInt 1) rfl (show (Int32.ofInt 1).toInt = 1 by decide) (by omega) (by omega)
                            refine zs_iinc (pc := 126) t127_126 (ls' := [(4, .int w25v), (0, .ref 164), (1, .ref 7), (2, .int w6x2), (3, .ref (181 + 3 * w16n))]) (zml mf127 (by decide)) rfl (c := w25v) w25e rfl ?_
                            refine zs_goto (pc := 129) t127_129 ?_
                            refine zGo.locals (ls' := [(0, .ref 164), (1, .ref 7), (2, .int w6x2), (3, .ref (181 + 3 * w16n)), (4, .int w25v)]) (by simp) ?_
                            exact w18ih (w18m - 1) (by omega) w25v w24M ⟨by omega, by omega⟩ w24s w24I (((zFr.refl).trans (w18F.mono rfl)).trans (w24F.mono rfl)) (by omega)
                      refine zGo.locals (ls' := [(0, .ref 164), (1, .ref 7), (2, .int w6x2), (3, .ref (181 + 3 * w16n)), (4, .int (0 : Int32))]) (by simp) ?_
                      have w26 := li0
                      exact w18L ((8 - 0 : Int).toNat) (0 : Int32) w6M ⟨by decide, by decide⟩ w6s w6I zFr.refl (by omega)
              refine zGo.locals (ls' := [(0, .ref 164), (1, .ref 7), (2, .int (0 : Int32))]) (by simp) ?_
              have w27 := li0
              exact w6L ((20 - 0 : Int).toNat) (0 : Int32) w3M ⟨by decide, by decide⟩ w3s w3I zFr.refl (by omega)
            · refine zs_icmp_geF (pc := 29) t127_29 rfl rfl (by omega) ?_
              refine zs_aload_n (pc := 32) t127_32 rfl ?_
              refine zs_get (pc := 33) t127_33 (by decide) (zk1 (w3s.k fk_zMc_164)) (w3s.p rfl fv_zMc_164_7) ?_
              refine zs_iload_n (pc := 36) t127_36 rfl ?_
              refine zs_aload_n (pc := 37) t127_37 rfl ?_
              refine zs_iload_n (pc := 38) t127_38 rfl ?_
              refine zs_invV (pc := 39) (k := 7) (as' := [.int w3x2]) (st := [.int w3x2, .ref 318]) t127_39 mf128 rfl rfl (Or.inl ⟨by decide, (zk1 (w3s.k fk_zMc_7))⟩) ⟨by decide, by decide, Nat.le_of_ble_eq_true rfl, Nat.le_of_ble_eq_true rfl⟩ (C128_7 w3s w3I ?_) (fun _ _ q => q)
              intro w28v w28a w28b
              show zGo X l 3 0 0 127 42 [(0, .ref 164), (1, .ref 7), (2, .int w3x2)] [.int w28v, .int w3x2, .ref 318] w3M _
              obtain ⟨w29n, w29⟩ : ∃ n : Nat, w3x2.toInt = (n : Int) := ⟨w3x2.toInt.toNat, by omega⟩
              have w30 : zIv cLo cHi (zsI w3M 318 w29n w28v) := zIv.put w3I (show (-2147483648) ≤ w28v.toInt ∧ w28v.toInt ≤ 2147483647 from (zrg w28v))
              refine zs_iast (pc := 42) t127_42 (j := w29n) (by decide) (zk1 (w3s.k fk_zMc_318)) w29 (zk2 (w3s.k fk_zMc_318) (by omega)) ?_
              refine zs_iconst (pc := 43) t127_43 (v := 0) (by decide) ?_
              refine zs_istore_n (pc := 44) t127_44 (ls' := [(3, .int (0 : Int32)), (0, .ref 164), (1, .ref 7), (2, .int w3x2)]) (zml mf127 (by decide)) rfl ?_
              have w31L : ∀ (m : Nat) (w31x3 : Int32) (w31M : zM), (0 ≤ w31x3.toInt ∧ w31x3.toInt ≤ 20) → zSk zMc w31M → zIv cLo cHi w31M → zFr [(317, 319, none)] (zsI w3M 318 w29n w28v) w31M → 20 - w31x3.toInt ≤ (m : Int) → zGo X l 3 0 0 127 45 [(0, .ref 164), (1, .ref 7), (2, .int w3x2), (3, .int w31x3)] [] w31M Q := by
                intro m
                induction m using Nat.strongRecOn with
                | ind w31m w31ih =>
                  intro w31x3 w31M w31b3 w31s w31I w31F w31q
                  refine zs_iload_n (pc := 45) t127_45 rfl ?_
                  refine zs_bipush (pc := 46) t127_46 (v := 20) (by decide) ?_
                  by_cases w32 : 20 ≤ w31x3.toInt
                  · refine zs_icmp_geT (pc := 48) t127_48 rfl li20 (by omega) ?_
                    obtain ⟨w33v, w33e, w33⟩ := ziadd (a := w3x2) (b := Int32.ofInt 1) rfl (show (Int32.ofInt 1).toInt = 1 by decide) (by omega) (by omega)
                    refine zs_iinc (pc := 69) t127_69 (ls' := [(2, .int w33v), (0, .ref 164), (1, .ref 7), (3, .int w31x3)]) (zml mf127 (by decide)) rfl (c := w33v) w33e rfl ?_
                    refine zs_goto (pc := 72) t127_72 ?_
                    refine zGo.locals (ls' := [(0, .ref 164), (1, .ref 7), (2, .int w33v)]) (by simp) ?_
                    exact w3ih (w3m - 1) (by omega) w33v w31M ⟨by omega, by omega⟩ w31s w31I ((((zFr.refl).trans (w3F.mono rfl)).put rfl).trans (w31F.mono rfl)) (by omega)
                  · refine zs_icmp_geF (pc := 48) t127_48 rfl li20 (by omega) ?_
                    refine zs_aload_n (pc := 51) t127_51 rfl ?_
                    refine zs_get (pc := 52) t127_52 (by decide) (zk1 (w31s.k fk_zMc_164)) (w31s.p rfl fv_zMc_164_8) ?_
                    refine zs_iload_n (pc := 55) t127_55 rfl ?_
                    refine zs_bipush (pc := 56) t127_56 (v := 20) (by decide) ?_
                    obtain ⟨w34v, w34⟩ : ∃ v, w3x2 * (20 : Int32) = v := ⟨_, rfl⟩
                    have w34g : w34v.toInt = w3x2.toInt * 20 := by rw [← w34]; exact zmulc rfl li20 (by omega) (by omega)
                    refine zs_imul (pc := 58) t127_58 (c := w34v) w34 ?_
                    refine zs_iload_n (pc := 59) t127_59 rfl ?_
                    obtain ⟨w35v, w35e, w35⟩ := ziadd (a := w34v) (b := w31x3) rfl rfl (by omega) (by omega)
                    refine zs_iadd (pc := 60) t127_60 (c := w35v) w35e ?_
                    refine zs_iconst (pc := 61) t127_61 (v := 0) (by decide) ?_
                    obtain ⟨w36n, w36⟩ : ∃ n : Nat, w35v.toInt = (n : Int) := ⟨w35v.toInt.toNat, by omega⟩
                    have w37 : zIv cLo cHi (zsI w31M 319 w36n (0 : Int32)) := zIv.put w31I (show (-2147483648) ≤ (0 : Int32).toInt ∧ (0 : Int32).toInt ≤ 2147483647 from (zrg (0 : Int32)))
                    refine zs_iast (pc := 62) t127_62 (j := w36n) (by decide) (zk1 (w31s.k fk_zMc_319)) w36 (zk2 (w31s.k fk_zMc_319) (by omega)) ?_
                    obtain ⟨w38v, w38e, w38⟩ := ziadd (a := w31x3) (b := Int32.ofInt 1) rfl (show (Int32.ofInt 1).toInt = 1 by decide) (by omega) (by omega)
                    refine zs_iinc (pc := 63) t127_63 (ls' := [(3, .int w38v), (0, .ref 164), (1, .ref 7), (2, .int w3x2)]) (zml mf127 (by decide)) rfl (c := w38v) w38e rfl ?_
                    refine zs_goto (pc := 66) t127_66 ?_
                    refine zGo.locals (ls' := [(0, .ref 164), (1, .ref 7), (2, .int w3x2), (3, .int w38v)]) (by simp) ?_
                    exact w31ih (w31m - 1) (by omega) w38v (zsI w31M 319 w36n (0 : Int32)) ⟨by omega, by omega⟩ w31s w37 (((zFr.refl).trans (w31F.mono rfl)).put rfl) (by omega)
              refine zGo.locals (ls' := [(0, .ref 164), (1, .ref 7), (2, .int w3x2), (3, .int (0 : Int32))]) (by simp) ?_
              have w39 := li0
              exact w31L ((20 - 0 : Int).toNat) (0 : Int32) (zsI w3M 318 w29n w28v) ⟨by decide, by decide⟩ w3s w30 zFr.refl (by omega)
        refine zGo.locals (ls' := [(0, .ref 164), (1, .ref 7), (2, .int (0 : Int32))]) (by simp) ?_
        have w40 := li0
        exact w3L ((12 - 0 : Int).toNat) (0 : Int32) w1M ⟨by decide, by decide⟩ w1s w1I zFr.refl (by omega)
      · refine zs_icmp_geF (pc := 5) t127_5 rfl li60 (by omega) ?_
        refine zs_aload_n (pc := 8) t127_8 rfl ?_
        refine zs_get (pc := 9) t127_9 (by decide) (zk1 (w1s.k fk_zMc_164)) (w1s.p rfl fv_zMc_164_6) ?_
        refine zs_iload_n (pc := 12) t127_12 rfl ?_
        refine zs_bipush (pc := 13) t127_13 (v := -2) (by decide) ?_
        obtain ⟨w41n, w41⟩ : ∃ n : Nat, w1x2.toInt = (n : Int) := ⟨w1x2.toInt.toNat, by omega⟩
        have w42 : zIv cLo cHi (zsI w1M 317 w41n (-2 : Int32)) := zIv.put w1I (show (-2147483648) ≤ (-2 : Int32).toInt ∧ (-2 : Int32).toInt ≤ 2147483647 from (zrg (-2 : Int32)))
        refine zs_iast (pc := 15) t127_15 (j := w41n) (by decide) (zk1 (w1s.k fk_zMc_317)) w41 (zk2 (w1s.k fk_zMc_317) (by omega)) ?_
        obtain ⟨w43v, w43e, w43⟩ := ziadd (a := w1x2) (b := Int32.ofInt 1) rfl (show (Int32.ofInt 1).toInt = 1 by decide) (by omega) (by omega)
        refine zs_iinc (pc := 16) t127_16 (ls' := [(2, .int w43v), (0, .ref 164), (1, .ref 7)]) (zml mf127 (by decide)) rfl (c := w43v) w43e rfl ?_
        refine zs_goto (pc := 19) t127_19 ?_
        refine zGo.locals (ls' := [(0, .ref 164), (1, .ref 7), (2, .int w43v)]) (by simp) ?_
        exact w1ih (w1m - 1) (by omega) w43v (zsI w1M 317 w41n (-2 : Int32)) ⟨by omega, by omega⟩ w1s w42 (((zFr.refl).trans (w1F.mono rfl)).put rfl) (by omega)
  refine zGo.locals (ls' := [(0, .ref 164), (1, .ref 7), (2, .int (0 : Int32))]) (by simp) ?_
  have w44 := li0
  exact w1L ((60 - 0 : Int).toNat) (0 : Int32) M ⟨by decide, by decide⟩ hs hI zFr.refl (by omega)
theorem C131_164_7 {X : zX} {l : Launch} {M : zM} {Q : Option Value → zM → Prop} (hs : zSk zMc M) (hI : zIv cLo cHi M) (hQ : ∀ M', zSk zMc M' → zIv cLo cHi M' → zFr [(181, 240, none)] M M' → Q none M') : zCall X l 4 0 0 131 [.ref 164, .ref 7] M Q := by
  refine zs_in (by decide) mf131 (Nat.le_of_ble_eq_true rfl) ?_
  show zGo X l 4 0 0 131 0 [(0, .ref 164), (1, .ref 7)] [] M _
  refine zs_iconst (pc := 0) t131_0 (v := 0) (by decide) ?_
  refine zs_istore_n (pc := 1) t131_1 (ls' := [(2, .int (0 : Int32)), (0, .ref 164), (1, .ref 7)]) (zml mf131 (by decide)) rfl ?_
  have w1L : ∀ (m : Nat) (w1x2 : Int32) (w1M : zM), (0 ≤ w1x2.toInt ∧ w1x2.toInt ≤ 20) → zSk zMc w1M → zIv cLo cHi w1M → zFr [(181, 240, none)] M w1M → 20 - w1x2.toInt ≤ (m : Int) → zGo X l 4 0 0 131 2 [(0, .ref 164), (1, .ref 7), (2, .int w1x2)] [] w1M Q := by
    intro m
    induction m using Nat.strongRecOn with
    | ind w1m w1ih =>
      intro w1x2 w1M w1b2 w1s w1I w1F w1q
      refine zs_iload_n (pc := 2) t131_2 rfl ?_
      refine zs_aload_n (pc := 3) t131_3 rfl ?_
      have w2 := ib164_4 hI
      refine zs_get (pc := 4) t131_4 (by decide) (zk1 (w1s.k fk_zMc_164)) (zfvi rfl ((w1F 164 4 rfl).trans rfl)) ?_
      by_cases w3 : (zI M 164 4).toInt ≤ w1x2.toInt
      · refine zs_icmp_geT (pc := 7) t131_7 rfl rfl (by omega) ?_
        exact zs_vret (pc := 39) t131_39 mr131 (hQ _ w1s w1I ((zFr.refl).trans (w1F.mono rfl)))
      · refine zs_icmp_geF (pc := 7) t131_7 rfl rfl (by omega) ?_
        refine zs_aload_n (pc := 10) t131_10 rfl ?_
        refine zs_get (pc := 11) t131_11 (by decide) (zk1 (w1s.k fk_zMc_164)) (w1s.p rfl fv_zMc_164_1) ?_
        refine zs_iload_n (pc := 14) t131_14 rfl ?_
        refine zs_invV (pc := 15) (k := 165) (as' := [.int w1x2]) (st := []) t131_15 mf126 rfl rfl (Or.inl ⟨by decide, (zk1 (w1s.k fk_zMc_165))⟩) ⟨by decide, by decide, Nat.le_of_ble_eq_true rfl, Nat.le_of_ble_eq_true rfl⟩ (zs_in (by decide) mf126 (Nat.le_of_ble_eq_true rfl) ?_) (fun _ _ q => q)
        show zGo X l 0 0 0 126 0 [(0, .ref 165), (1, .int w1x2)] [] w1M _
        refine zs_iload_n (pc := 0) t126_0 rfl ?_
        refine zs_if_ltF (pc := 1) t126_1 rfl (by omega) ?_
        refine zs_iload_n (pc := 4) t126_4 rfl ?_
        refine zs_aload_n (pc := 5) t126_5 rfl ?_
        have w4 := ib165_2 hI
        refine zs_get (pc := 6) t126_6 (by decide) (zk1 (w1s.k fk_zMc_165)) (zfvi rfl ((w1F 165 2 rfl).trans rfl)) ?_
        by_cases w5 : (zI M 165 2).toInt ≤ w1x2.toInt
        · refine zs_icmp_geT (pc := 9) t126_9 rfl rfl (by omega) ?_
          refine zs_aconst_null (pc := 21) t126_21 ?_
          refine zs_aret0 (pc := 22) t126_22 (by rw [mr126]; rfl) ?_
          show zGo X l 4 0 0 131 18 [(0, .ref 164), (1, .ref 7), (2, .int w1x2)] [.null] w1M _
          refine zs_astore_n0 (pc := 18) t131_18 (ls' := [(3, .null), (0, .ref 164), (1, .ref 7), (2, .int w1x2)]) (zml mf131 (by decide)) rfl ?_
          refine zs_aload_n0 (pc := 19) t131_19 rfl ?_
          refine zs_ifnullT (pc := 20) t131_20 ?_
          obtain ⟨w6v, w6e, w6⟩ := ziadd (a := w1x2) (b := Int32.ofInt 1) rfl (show (Int32.ofInt 1).toInt = 1 by decide) (by omega) (by omega)
          refine zs_iinc (pc := 33) t131_33 (ls' := [(2, .int w6v), (3, .null), (0, .ref 164), (1, .ref 7)]) (zml mf131 (by decide)) rfl (c := w6v) w6e rfl ?_
          refine zs_goto (pc := 36) t131_36 ?_
          refine zGo.locals (ls' := [(0, .ref 164), (1, .ref 7), (2, .int w6v)]) (by simp) ?_
          exact w1ih (w1m - 1) (by omega) w6v w1M ⟨by omega, by omega⟩ w1s w1I ((zFr.refl).trans (w1F.mono rfl)) (by omega)
        · refine zs_icmp_geF (pc := 9) t126_9 rfl rfl (by omega) ?_
          refine zs_aload_n (pc := 12) t126_12 rfl ?_
          refine zs_get (pc := 13) t126_13 (by decide) (zk1 (w1s.k fk_zMc_165)) (w1s.p rfl fv_zMc_165_1) ?_
          refine zs_iload_n (pc := 16) t126_16 rfl ?_
          obtain ⟨w7n, w7⟩ : ∃ n : Nat, w1x2.toInt = (n : Int) := ⟨w1x2.toInt.toNat, by omega⟩
          have w8 : w7n < 20 := by omega
          refine zs_aald (pc := 17) t126_17 (j := w7n) (Or.inr (zk1 (w1s.k fk_zMc_179))) w7 (zk2 (w1s.k fk_zMc_179) (by omega)) (w1s.a (fpT181 w7n w8)) ?_
          refine zs_goto (pc := 18) t126_18 ?_
          refine zs_aret (pc := 22) t126_22 (by rw [mr126]; rfl) ?_
          show zGo X l 4 0 0 131 18 [(0, .ref 164), (1, .ref 7), (2, .int w1x2)] [.ref (181 + 3 * w7n)] w1M _
          refine zs_astore_n (pc := 18) t131_18 (ls' := [(3, .ref (181 + 3 * w7n)), (0, .ref 164), (1, .ref 7), (2, .int w1x2)]) (zml mf131 (by decide)) rfl ?_
          refine zs_aload_n (pc := 19) t131_19 rfl ?_
          refine zs_ifnullF (pc := 20) t131_20 ?_
          refine zs_aload_n (pc := 23) t131_23 rfl ?_
          refine zs_aload_n (pc := 24) t131_24 rfl ?_
          refine zs_invV (pc := 25) (k := (181 + 3 * w7n)) (as' := [.ref 7]) (st := []) t131_25 mf132 rfl rfl (Or.inl ⟨by decide, (zk1 (w1s.k (fT181_0 w7n w8)))⟩) ⟨by decide, by decide, Nat.le_of_ble_eq_true rfl, Nat.le_of_ble_eq_true rfl⟩ (C132_T181_7 w1s w1I w8 ?_) (fun _ _ q => q)
          intro w9M w9s w9I w9F
          show zGo X l 4 0 0 131 28 [(3, .ref (181 + 3 * w7n)), (0, .ref 164), (1, .ref 7), (2, .int w1x2)] [] w9M _
          refine zs_aload_n (pc := 28) t131_28 rfl ?_
          refine zs_aload_n (pc := 29) t131_29 rfl ?_
          refine zs_invV (pc := 30) (k := (181 + 3 * w7n)) (as' := [.ref 7]) (st := []) t131_30 mf135 rfl rfl (Or.inl ⟨by decide, (zk1 (w9s.k (fT181_0 w7n w8)))⟩) ⟨by decide, by decide, Nat.le_of_ble_eq_true rfl, Nat.le_of_ble_eq_true rfl⟩ (C135_T181_7 w9s w9I w8 ?_) (fun _ _ q => q)
          intro w10M w10s w10I w10F
          show zGo X l 4 0 0 131 33 [(3, .ref (181 + 3 * w7n)), (0, .ref 164), (1, .ref 7), (2, .int w1x2)] [] w10M _
          obtain ⟨w11v, w11e, w11⟩ := ziadd (a := w1x2) (b := Int32.ofInt 1) rfl (show (Int32.ofInt 1).toInt = 1 by decide) (by omega) (by omega)
          refine zs_iinc (pc := 33) t131_33 (ls' := [(2, .int w11v), (3, .ref (181 + 3 * w7n)), (0, .ref 164), (1, .ref 7)]) (zml mf131 (by decide)) rfl (c := w11v) w11e rfl ?_
          refine zs_goto (pc := 36) t131_36 ?_
          refine zGo.locals (ls' := [(0, .ref 164), (1, .ref 7), (2, .int w11v)]) (by simp) ?_
          exact w1ih (w1m - 1) (by omega) w11v w10M ⟨by omega, by omega⟩ w10s w10I ((((zFr.refl).trans (w1F.mono rfl)).trans (w9F.mono rfl)).trans (w10F.mono rfl)) (by omega)
  refine zGo.locals (ls' := [(0, .ref 164), (1, .ref 7), (2, .int (0 : Int32))]) (by simp) ?_
  have w12 := li0
  exact w1L ((20 - 0 : Int).toNat) (0 : Int32) M ⟨by decide, by decide⟩ hs hI zFr.refl (by omega)
theorem C138_164 {X : zX} {l : Launch} {M : zM} {Q : Option Value → zM → Prop} {a : Int32} (hs : zSk zMc M) (hI : zIv cLo cHi M) (hQ : ∀ v : Int32, (-2147483648) ≤ v.toInt → v.toInt ≤ 2147483647 → Q (some (.int v)) M) : zCall X l 2 0 0 138 [.ref 164, .int a] M Q := by
  have ga := zrg a
  refine zs_in (by decide) mf138 (Nat.le_of_ble_eq_true rfl) ?_
  show zGo X l 2 0 0 138 0 [(0, .ref 164), (1, .int a)] [] M _
  refine zs_aload_n (pc := 0) t138_0 rfl ?_
  refine zs_get (pc := 1) t138_1 (by decide) (zk1 (hs.k fk_zMc_164)) (hs.p rfl fv_zMc_164_1) ?_
  refine zs_iload_n (pc := 4) t138_4 rfl ?_
  refine zs_invV (pc := 5) (k := 165) (as' := [.int a]) (st := []) t138_5 mf126 rfl rfl (Or.inl ⟨by decide, (zk1 (hs.k fk_zMc_165))⟩) ⟨by decide, by decide, Nat.le_of_ble_eq_true rfl, Nat.le_of_ble_eq_true rfl⟩ (zs_in (by decide) mf126 (Nat.le_of_ble_eq_true rfl) ?_) (fun _ _ q => q)
  show zGo X l 0 0 0 126 0 [(0, .ref 165), (1, .int a)] [] M _
  refine zs_iload_n (pc := 0) t126_0 rfl ?_
  by_cases w1 : a.toInt < 0
  · refine zs_if_ltT (pc := 1) t126_1 rfl (by omega) ?_
    refine zs_aconst_null (pc := 21) t126_21 ?_
    refine zs_aret0 (pc := 22) t126_22 (by rw [mr126]; rfl) ?_
    show zGo X l 2 0 0 138 8 [(0, .ref 164), (1, .int a)] [.null] M _
    refine zs_astore_n0 (pc := 8) t138_8 (ls' := [(2, .null), (0, .ref 164), (1, .int a)]) (zml mf138 (by decide)) rfl ?_
    refine zs_aload_n0 (pc := 9) t138_9 rfl ?_
    refine zs_ifnonnullF (pc := 10) t138_10 ?_
    refine zs_iconst (pc := 13) t138_13 (v := 0) (by decide) ?_
    refine zs_goto (pc := 14) t138_14 ?_
    exact zs_iret (pc := 21) t138_21 mr138 (by decide) (hQ _ (zrg _).1 (zrg _).2)
  · refine zs_if_ltF (pc := 1) t126_1 rfl (by omega) ?_
    refine zs_iload_n (pc := 4) t126_4 rfl ?_
    refine zs_aload_n (pc := 5) t126_5 rfl ?_
    have w2 := ib165_2 hI
    refine zs_get (pc := 6) t126_6 (by decide) (zk1 (hs.k fk_zMc_165)) (zfvi rfl rfl) ?_
    by_cases w3 : (zI M 165 2).toInt ≤ a.toInt
    · refine zs_icmp_geT (pc := 9) t126_9 rfl rfl (by omega) ?_
      refine zs_aconst_null (pc := 21) t126_21 ?_
      refine zs_aret0 (pc := 22) t126_22 (by rw [mr126]; rfl) ?_
      show zGo X l 2 0 0 138 8 [(0, .ref 164), (1, .int a)] [.null] M _
      refine zs_astore_n0 (pc := 8) t138_8 (ls' := [(2, .null), (0, .ref 164), (1, .int a)]) (zml mf138 (by decide)) rfl ?_
      refine zs_aload_n0 (pc := 9) t138_9 rfl ?_
      refine zs_ifnonnullF (pc := 10) t138_10 ?_
      refine zs_iconst (pc := 13) t138_13 (v := 0) (by decide) ?_
      refine zs_goto (pc := 14) t138_14 ?_
      exact zs_iret (pc := 21) t138_21 mr138 (by decide) (hQ _ (zrg _).1 (zrg _).2)
    · refine zs_icmp_geF (pc := 9) t126_9 rfl rfl (by omega) ?_
      refine zs_aload_n (pc := 12) t126_12 rfl ?_
      refine zs_get (pc := 13) t126_13 (by decide) (zk1 (hs.k fk_zMc_165)) (hs.p rfl fv_zMc_165_1) ?_
      refine zs_iload_n (pc := 16) t126_16 rfl ?_
      obtain ⟨w4n, w4⟩ : ∃ n : Nat, a.toInt = (n : Int) := ⟨a.toInt.toNat, by omega⟩
      have w5 : w4n < 20 := by omega
      refine zs_aald (pc := 17) t126_17 (j := w4n) (Or.inr (zk1 (hs.k fk_zMc_179))) w4 (zk2 (hs.k fk_zMc_179) (by omega)) (hs.a (fpT181 w4n w5)) ?_
      refine zs_goto (pc := 18) t126_18 ?_
      refine zs_aret (pc := 22) t126_22 (by rw [mr126]; rfl) ?_
      show zGo X l 2 0 0 138 8 [(0, .ref 164), (1, .int a)] [.ref (181 + 3 * w4n)] M _
      refine zs_astore_n (pc := 8) t138_8 (ls' := [(2, .ref (181 + 3 * w4n)), (0, .ref 164), (1, .int a)]) (zml mf138 (by decide)) rfl ?_
      refine zs_aload_n (pc := 9) t138_9 rfl ?_
      refine zs_ifnonnullT (pc := 10) t138_10 ?_
      refine zs_aload_n (pc := 17) t138_17 rfl ?_
      refine zs_invV (pc := 18) (k := (181 + 3 * w4n)) (as' := []) (st := []) t138_18 mf139 rfl rfl (Or.inl ⟨by decide, (zk1 (hs.k (fT181_0 w4n w5)))⟩) ⟨by decide, by decide, Nat.le_of_ble_eq_true rfl, Nat.le_of_ble_eq_true rfl⟩ (zs_in (by decide) mf139 (Nat.le_of_ble_eq_true rfl) ?_) (fun _ _ q => q)
      show zGo X l 1 0 0 139 0 [(0, .ref (181 + 3 * w4n))] [] M _
      refine zs_aload_n (pc := 0) t139_0 rfl ?_
      refine zs_get (pc := 1) t139_1 (by decide) (zk1 (hs.k (fT181_0 w4n w5))) (zfvj rfl) ?_
      refine zs_lconst (pc := 4) t139_4 (v := 1) (by decide) ?_
      refine zs_aload_n (pc := 5) t139_5 rfl ?_
      refine zs_get (pc := 6) t139_6 (by decide) (zk1 (hs.k (fT181_0 w4n w5))) (zfvj rfl) ?_
      refine zs_invS (pc := 9) (as := [.long (1 : Int64), .long (zJ M (181 + 3 * w4n) 8)]) (st := [.long (zJ M (181 + 3 * w4n) 9)]) t139_9 (by decide) mf134 rfl rfl ⟨by decide, by decide, Nat.le_of_ble_eq_true rfl, Nat.le_of_ble_eq_true rfl⟩ (zs_in (by decide) mf134 (Nat.le_of_ble_eq_true rfl) ?_) (fun _ _ q => q)
      show zGo X l 0 0 0 134 0 [(0, .long (1 : Int64)), (2, .long (zJ M (181 + 3 * w4n) 8))] [] M _
      refine zs_lload_n (pc := 0) t134_0 rfl ?_
      refine zs_lload_n (pc := 1) t134_1 rfl ?_
      by_cases w6 : 1 < (zJ M (181 + 3 * w4n) 8).toInt
      · refine zs_lcmp (pc := 2) t134_2 (c := -1) (zlcL ll1 rfl (by omega)) ?_
        refine zs_if_ltT (pc := 3) t134_3 lin1 (by decide) ?_
        refine zs_lload_n (pc := 10) t134_10 rfl ?_
        refine zs_lret (pc := 11) t134_11 mr134 ?_
        show zGo X l 1 0 0 139 12 [(0, .ref (181 + 3 * w4n))] [.long (zJ M (181 + 3 * w4n) 8), .long (zJ M (181 + 3 * w4n) 9)] M _
        refine zs_invS (pc := 12) (as := [.long (zJ M (181 + 3 * w4n) 9), .long (zJ M (181 + 3 * w4n) 8)]) (st := []) t139_12 (by decide) mf140 rfl rfl ⟨by decide, by decide, Nat.le_of_ble_eq_true rfl, Nat.le_of_ble_eq_true rfl⟩ (zs_in (by decide) mf140 (Nat.le_of_ble_eq_true rfl) ?_) (fun _ _ q => q)
        show zGo X l 0 0 0 140 0 [(0, .long (zJ M (181 + 3 * w4n) 9)), (2, .long (zJ M (181 + 3 * w4n) 8))] [] M _
        refine zs_lload_n (pc := 0) t140_0 rfl ?_
        refine zs_lload_n (pc := 1) t140_1 rfl ?_
        obtain ⟨w7v, w7⟩ : ∃ v, (zJ M (181 + 3 * w4n) 9) / (zJ M (181 + 3 * w4n) 8) = v := ⟨_, rfl⟩
        have w7g := zrg64 w7v
        refine zs_ldiv (pc := 2) t140_2 (znz64 rfl (by omega)) (c := w7v) w7 ?_
        refine zs_lstore (pc := 3) t140_3 (ls' := [(4, .long w7v), (0, .long (zJ M (181 + 3 * w4n) 9)), (2, .long (zJ M (181 + 3 * w4n) 8))]) (zml mf140 (by decide)) rfl ?_
        refine zs_lload_n (pc := 5) t140_5 rfl ?_
        refine zs_lload_n (pc := 6) t140_6 rfl ?_
        obtain ⟨w8v, w8⟩ : ∃ v, (zJ M (181 + 3 * w4n) 9) ^^^ (zJ M (181 + 3 * w4n) 8) = v := ⟨_, rfl⟩
        have w8g := zrg64 w8v
        refine zs_lxor (pc := 7) t140_7 (c := w8v) w8 ?_
        refine zs_lconst (pc := 8) t140_8 (v := 0) (by decide) ?_
        by_cases w9 : w8v.toInt < 0
        · refine zs_lcmp (pc := 9) t140_9 (c := -1) (zlcL rfl ll0 (by omega)) ?_
          refine zs_if_geF (pc := 10) t140_10 lin1 (by decide) ?_
          refine zs_lload (pc := 13) t140_13 rfl ?_
          refine zs_lload_n (pc := 15) t140_15 rfl ?_
          obtain ⟨w10v, w10⟩ : ∃ v, w7v * (zJ M (181 + 3 * w4n) 8) = v := ⟨_, rfl⟩
          have w10g := zrg64 w10v
          refine zs_lmul (pc := 16) t140_16 (c := w10v) w10 ?_
          refine zs_lload_n (pc := 17) t140_17 rfl ?_
          by_cases w11 : w10v.toInt < (zJ M (181 + 3 * w4n) 9).toInt
          · refine zs_lcmp (pc := 18) t140_18 (c := -1) (zlcL rfl rfl (by omega)) ?_
            refine zs_if_eqF (pc := 19) t140_19 lin1 (by decide) ?_
            refine zs_lload (pc := 22) t140_22 rfl ?_
            refine zs_lconst (pc := 24) t140_24 (v := 1) (by decide) ?_
            obtain ⟨w12v, w12⟩ : ∃ v, w7v - (1 : Int64) = v := ⟨_, rfl⟩
            have w12g := zrg64 w12v
            refine zs_lsub (pc := 25) t140_25 (c := w12v) w12 ?_
            refine zs_lret (pc := 26) t140_26 mr140 ?_
            show zGo X l 1 0 0 139 15 [(0, .ref (181 + 3 * w4n))] [.long w12v] M _
            obtain ⟨w13v, w13⟩ : ∃ v, w12v.toInt32 = v := ⟨_, rfl⟩
            have w13g := zrg w13v
            refine zs_l2i (pc := 15) t139_15 (c := w13v) w13 ?_
            refine zs_iret (pc := 16) t139_16 mr139 rfl ?_
            show zGo X l 2 0 0 138 21 [(2, .ref (181 + 3 * w4n)), (0, .ref 164), (1, .int a)] [.int w13v] M _
            exact zs_iret (pc := 21) t138_21 mr138 rfl (hQ _ (zrg _).1 (zrg _).2)
          by_cases w14 : w10v.toInt = (zJ M (181 + 3 * w4n) 9).toInt
          · refine zs_lcmp (pc := 18) t140_18 (c := 0) (zlcE rfl rfl (by omega)) ?_
            refine zs_if_eqT (pc := 19) t140_19 li0 (by decide) ?_
            refine zs_lload (pc := 27) t140_27 rfl ?_
            refine zs_lret (pc := 29) t140_29 mr140 ?_
            show zGo X l 1 0 0 139 15 [(0, .ref (181 + 3 * w4n))] [.long w7v] M _
            obtain ⟨w15v, w15⟩ : ∃ v, w7v.toInt32 = v := ⟨_, rfl⟩
            have w15g := zrg w15v
            refine zs_l2i (pc := 15) t139_15 (c := w15v) w15 ?_
            refine zs_iret (pc := 16) t139_16 mr139 rfl ?_
            show zGo X l 2 0 0 138 21 [(2, .ref (181 + 3 * w4n)), (0, .ref 164), (1, .int a)] [.int w15v] M _
            exact zs_iret (pc := 21) t138_21 mr138 rfl (hQ _ (zrg _).1 (zrg _).2)
          refine zs_lcmp (pc := 18) t140_18 (c := 1) (zlcG rfl rfl (by omega)) ?_
          refine zs_if_eqF (pc := 19) t140_19 li1 (by decide) ?_
          refine zs_lload (pc := 22) t140_22 rfl ?_
          refine zs_lconst (pc := 24) t140_24 (v := 1) (by decide) ?_
          obtain ⟨w17v, w17⟩ : ∃ v, w7v - (1 : Int64) = v := ⟨_, rfl⟩
          have w17g := zrg64 w17v
          refine zs_lsub (pc := 25) t140_25 (c := w17v) w17 ?_
          refine zs_lret (pc := 26) t140_26 mr140 ?_
          show zGo X l 1 0 0 139 15 [(0, .ref (181 + 3 * w4n))] [.long w17v] M _
          obtain ⟨w18v, w18⟩ : ∃ v, w17v.toInt32 = v := ⟨_, rfl⟩
          have w18g := zrg w18v
          refine zs_l2i (pc := 15) t139_15 (c := w18v) w18 ?_
          refine zs_iret (pc := 16) t139_16 mr139 rfl ?_
          show zGo X l 2 0 0 138 21 [(2, .ref (181 + 3 * w4n)), (0, .ref 164), (1, .int a)] [.int w18v] M _
          exact zs_iret (pc := 21) t138_21 mr138 rfl (hQ _ (zrg _).1 (zrg _).2)
        by_cases w19 : w8v.toInt = 0
        · refine zs_lcmp (pc := 9) t140_9 (c := 0) (zlcE rfl ll0 (by omega)) ?_
          refine zs_if_geT (pc := 10) t140_10 li0 (by decide) ?_
          refine zs_lload (pc := 27) t140_27 rfl ?_
          refine zs_lret (pc := 29) t140_29 mr140 ?_
          show zGo X l 1 0 0 139 15 [(0, .ref (181 + 3 * w4n))] [.long w7v] M _
          obtain ⟨w20v, w20⟩ : ∃ v, w7v.toInt32 = v := ⟨_, rfl⟩
          have w20g := zrg w20v
          refine zs_l2i (pc := 15) t139_15 (c := w20v) w20 ?_
          refine zs_iret (pc := 16) t139_16 mr139 rfl ?_
          show zGo X l 2 0 0 138 21 [(2, .ref (181 + 3 * w4n)), (0, .ref 164), (1, .int a)] [.int w20v] M _
          exact zs_iret (pc := 21) t138_21 mr138 rfl (hQ _ (zrg _).1 (zrg _).2)
        refine zs_lcmp (pc := 9) t140_9 (c := 1) (zlcG rfl ll0 (by omega)) ?_
        refine zs_if_geT (pc := 10) t140_10 li1 (by decide) ?_
        refine zs_lload (pc := 27) t140_27 rfl ?_
        refine zs_lret (pc := 29) t140_29 mr140 ?_
        show zGo X l 1 0 0 139 15 [(0, .ref (181 + 3 * w4n))] [.long w7v] M _
        obtain ⟨w22v, w22⟩ : ∃ v, w7v.toInt32 = v := ⟨_, rfl⟩
        have w22g := zrg w22v
        refine zs_l2i (pc := 15) t139_15 (c := w22v) w22 ?_
        refine zs_iret (pc := 16) t139_16 mr139 rfl ?_
        show zGo X l 2 0 0 138 21 [(2, .ref (181 + 3 * w4n)), (0, .ref 164), (1, .int a)] [.int w22v] M _
        exact zs_iret (pc := 21) t138_21 mr138 rfl (hQ _ (zrg _).1 (zrg _).2)
      by_cases w23 : 1 = (zJ M (181 + 3 * w4n) 8).toInt
      · refine zs_lcmp (pc := 2) t134_2 (c := 0) (zlcE ll1 rfl (by omega)) ?_
        refine zs_if_ltF (pc := 3) t134_3 li0 (by decide) ?_
        refine zs_lload_n (pc := 6) t134_6 rfl ?_
        refine zs_goto (pc := 7) t134_7 ?_
        refine zs_lret (pc := 11) t134_11 mr134 ?_
        show zGo X l 1 0 0 139 12 [(0, .ref (181 + 3 * w4n))] [.long (1 : Int64), .long (zJ M (181 + 3 * w4n) 9)] M _
        refine zs_invS (pc := 12) (as := [.long (zJ M (181 + 3 * w4n) 9), .long (1 : Int64)]) (st := []) t139_12 (by decide) mf140 rfl rfl ⟨by decide, by decide, Nat.le_of_ble_eq_true rfl, Nat.le_of_ble_eq_true rfl⟩ (zs_in (by decide) mf140 (Nat.le_of_ble_eq_true rfl) ?_) (fun _ _ q => q)
        show zGo X l 0 0 0 140 0 [(0, .long (zJ M (181 + 3 * w4n) 9)), (2, .long (1 : Int64))] [] M _
        refine zs_lload_n (pc := 0) t140_0 rfl ?_
        refine zs_lload_n (pc := 1) t140_1 rfl ?_
        obtain ⟨w24v, w24⟩ : ∃ v, (zJ M (181 + 3 * w4n) 9) / (1 : Int64) = v := ⟨_, rfl⟩
        have w24g := zrg64 w24v
        refine zs_ldiv (pc := 2) t140_2 (by decide) (c := w24v) w24 ?_
        refine zs_lstore (pc := 3) t140_3 (ls' := [(4, .long w24v), (0, .long (zJ M (181 + 3 * w4n) 9)), (2, .long (1 : Int64))]) (zml mf140 (by decide)) rfl ?_
        refine zs_lload_n (pc := 5) t140_5 rfl ?_
        refine zs_lload_n (pc := 6) t140_6 rfl ?_
        obtain ⟨w25v, w25⟩ : ∃ v, (zJ M (181 + 3 * w4n) 9) ^^^ (1 : Int64) = v := ⟨_, rfl⟩
        have w25g := zrg64 w25v
        refine zs_lxor (pc := 7) t140_7 (c := w25v) w25 ?_
        refine zs_lconst (pc := 8) t140_8 (v := 0) (by decide) ?_
        by_cases w26 : w25v.toInt < 0
        · refine zs_lcmp (pc := 9) t140_9 (c := -1) (zlcL rfl ll0 (by omega)) ?_
          refine zs_if_geF (pc := 10) t140_10 lin1 (by decide) ?_
          refine zs_lload (pc := 13) t140_13 rfl ?_
          refine zs_lload_n (pc := 15) t140_15 rfl ?_
          obtain ⟨w27v, w27⟩ : ∃ v, w24v * (1 : Int64) = v := ⟨_, rfl⟩
          have w27g := zrg64 w27v
          refine zs_lmul (pc := 16) t140_16 (c := w27v) w27 ?_
          refine zs_lload_n (pc := 17) t140_17 rfl ?_
          by_cases w28 : w27v.toInt < (zJ M (181 + 3 * w4n) 9).toInt
          · refine zs_lcmp (pc := 18) t140_18 (c := -1) (zlcL rfl rfl (by omega)) ?_
            refine zs_if_eqF (pc := 19) t140_19 lin1 (by decide) ?_
            refine zs_lload (pc := 22) t140_22 rfl ?_
            refine zs_lconst (pc := 24) t140_24 (v := 1) (by decide) ?_
            obtain ⟨w29v, w29⟩ : ∃ v, w24v - (1 : Int64) = v := ⟨_, rfl⟩
            have w29g := zrg64 w29v
            refine zs_lsub (pc := 25) t140_25 (c := w29v) w29 ?_
            refine zs_lret (pc := 26) t140_26 mr140 ?_
            show zGo X l 1 0 0 139 15 [(0, .ref (181 + 3 * w4n))] [.long w29v] M _
            obtain ⟨w30v, w30⟩ : ∃ v, w29v.toInt32 = v := ⟨_, rfl⟩
            have w30g := zrg w30v
            refine zs_l2i (pc := 15) t139_15 (c := w30v) w30 ?_
            refine zs_iret (pc := 16) t139_16 mr139 rfl ?_
            show zGo X l 2 0 0 138 21 [(2, .ref (181 + 3 * w4n)), (0, .ref 164), (1, .int a)] [.int w30v] M _
            exact zs_iret (pc := 21) t138_21 mr138 rfl (hQ _ (zrg _).1 (zrg _).2)
          by_cases w31 : w27v.toInt = (zJ M (181 + 3 * w4n) 9).toInt
          · refine zs_lcmp (pc := 18) t140_18 (c := 0) (zlcE rfl rfl (by omega)) ?_
            refine zs_if_eqT (pc := 19) t140_19 li0 (by decide) ?_
            refine zs_lload (pc := 27) t140_27 rfl ?_
            refine zs_lret (pc := 29) t140_29 mr140 ?_
            show zGo X l 1 0 0 139 15 [(0, .ref (181 + 3 * w4n))] [.long w24v] M _
            obtain ⟨w32v, w32⟩ : ∃ v, w24v.toInt32 = v := ⟨_, rfl⟩
            have w32g := zrg w32v
            refine zs_l2i (pc := 15) t139_15 (c := w32v) w32 ?_
            refine zs_iret (pc := 16) t139_16 mr139 rfl ?_
            show zGo X l 2 0 0 138 21 [(2, .ref (181 + 3 * w4n)), (0, .ref 164), (1, .int a)] [.int w32v] M _
            exact zs_iret (pc := 21) t138_21 mr138 rfl (hQ _ (zrg _).1 (zrg _).2)
          refine zs_lcmp (pc := 18) t140_18 (c := 1) (zlcG rfl rfl (by omega)) ?_
          refine zs_if_eqF (pc := 19) t140_19 li1 (by decide) ?_
          refine zs_lload (pc := 22) t140_22 rfl ?_
          refine zs_lconst (pc := 24) t140_24 (v := 1) (by decide) ?_
          obtain ⟨w34v, w34⟩ : ∃ v, w24v - (1 : Int64) = v := ⟨_, rfl⟩
          have w34g := zrg64 w34v
          refine zs_lsub (pc := 25) t140_25 (c := w34v) w34 ?_
          refine zs_lret (pc := 26) t140_26 mr140 ?_
          show zGo X l 1 0 0 139 15 [(0, .ref (181 + 3 * w4n))] [.long w34v] M _
          obtain ⟨w35v, w35⟩ : ∃ v, w34v.toInt32 = v := ⟨_, rfl⟩
          have w35g := zrg w35v
          refine zs_l2i (pc := 15) t139_15 (c := w35v) w35 ?_
          refine zs_iret (pc := 16) t139_16 mr139 rfl ?_
          show zGo X l 2 0 0 138 21 [(2, .ref (181 + 3 * w4n)), (0, .ref 164), (1, .int a)] [.int w35v] M _
          exact zs_iret (pc := 21) t138_21 mr138 rfl (hQ _ (zrg _).1 (zrg _).2)
        by_cases w36 : w25v.toInt = 0
        · refine zs_lcmp (pc := 9) t140_9 (c := 0) (zlcE rfl ll0 (by omega)) ?_
          refine zs_if_geT (pc := 10) t140_10 li0 (by decide) ?_
          refine zs_lload (pc := 27) t140_27 rfl ?_
          refine zs_lret (pc := 29) t140_29 mr140 ?_
          show zGo X l 1 0 0 139 15 [(0, .ref (181 + 3 * w4n))] [.long w24v] M _
          obtain ⟨w37v, w37⟩ : ∃ v, w24v.toInt32 = v := ⟨_, rfl⟩
          have w37g := zrg w37v
          refine zs_l2i (pc := 15) t139_15 (c := w37v) w37 ?_
          refine zs_iret (pc := 16) t139_16 mr139 rfl ?_
          show zGo X l 2 0 0 138 21 [(2, .ref (181 + 3 * w4n)), (0, .ref 164), (1, .int a)] [.int w37v] M _
          exact zs_iret (pc := 21) t138_21 mr138 rfl (hQ _ (zrg _).1 (zrg _).2)
        refine zs_lcmp (pc := 9) t140_9 (c := 1) (zlcG rfl ll0 (by omega)) ?_
        refine zs_if_geT (pc := 10) t140_10 li1 (by decide) ?_
        refine zs_lload (pc := 27) t140_27 rfl ?_
        refine zs_lret (pc := 29) t140_29 mr140 ?_
        show zGo X l 1 0 0 139 15 [(0, .ref (181 + 3 * w4n))] [.long w24v] M _
        obtain ⟨w39v, w39⟩ : ∃ v, w24v.toInt32 = v := ⟨_, rfl⟩
        have w39g := zrg w39v
        refine zs_l2i (pc := 15) t139_15 (c := w39v) w39 ?_
        refine zs_iret (pc := 16) t139_16 mr139 rfl ?_
        show zGo X l 2 0 0 138 21 [(2, .ref (181 + 3 * w4n)), (0, .ref 164), (1, .int a)] [.int w39v] M _
        exact zs_iret (pc := 21) t138_21 mr138 rfl (hQ _ (zrg _).1 (zrg _).2)
      refine zs_lcmp (pc := 2) t134_2 (c := 1) (zlcG ll1 rfl (by omega)) ?_
      refine zs_if_ltF (pc := 3) t134_3 li1 (by decide) ?_
      refine zs_lload_n (pc := 6) t134_6 rfl ?_
      refine zs_goto (pc := 7) t134_7 ?_
      refine zs_lret (pc := 11) t134_11 mr134 ?_
      show zGo X l 1 0 0 139 12 [(0, .ref (181 + 3 * w4n))] [.long (1 : Int64), .long (zJ M (181 + 3 * w4n) 9)] M _
      refine zs_invS (pc := 12) (as := [.long (zJ M (181 + 3 * w4n) 9), .long (1 : Int64)]) (st := []) t139_12 (by decide) mf140 rfl rfl ⟨by decide, by decide, Nat.le_of_ble_eq_true rfl, Nat.le_of_ble_eq_true rfl⟩ (zs_in (by decide) mf140 (Nat.le_of_ble_eq_true rfl) ?_) (fun _ _ q => q)
      show zGo X l 0 0 0 140 0 [(0, .long (zJ M (181 + 3 * w4n) 9)), (2, .long (1 : Int64))] [] M _
      refine zs_lload_n (pc := 0) t140_0 rfl ?_
      refine zs_lload_n (pc := 1) t140_1 rfl ?_
      obtain ⟨w41v, w41⟩ : ∃ v, (zJ M (181 + 3 * w4n) 9) / (1 : Int64) = v := ⟨_, rfl⟩
      have w41g := zrg64 w41v
      refine zs_ldiv (pc := 2) t140_2 (by decide) (c := w41v) w41 ?_
      refine zs_lstore (pc := 3) t140_3 (ls' := [(4, .long w41v), (0, .long (zJ M (181 + 3 * w4n) 9)), (2, .long (1 : Int64))]) (zml mf140 (by decide)) rfl ?_
      refine zs_lload_n (pc := 5) t140_5 rfl ?_
      refine zs_lload_n (pc := 6) t140_6 rfl ?_
      obtain ⟨w42v, w42⟩ : ∃ v, (zJ M (181 + 3 * w4n) 9) ^^^ (1 : Int64) = v := ⟨_, rfl⟩
      have w42g := zrg64 w42v
      refine zs_lxor (pc := 7) t140_7 (c := w42v) w42 ?_
      refine zs_lconst (pc := 8) t140_8 (v := 0) (by decide) ?_
      by_cases w43 : w42v.toInt < 0
      · refine zs_lcmp (pc := 9) t140_9 (c := -1) (zlcL rfl ll0 (by omega)) ?_
        refine zs_if_geF (pc := 10) t140_10 lin1 (by decide) ?_
        refine zs_lload (pc := 13) t140_13 rfl ?_
        refine zs_lload_n (pc := 15) t140_15 rfl ?_
        obtain ⟨w44v, w44⟩ : ∃ v, w41v * (1 : Int64) = v := ⟨_, rfl⟩
        have w44g := zrg64 w44v
        refine zs_lmul (pc := 16) t140_16 (c := w44v) w44 ?_
        refine zs_lload_n (pc := 17) t140_17 rfl ?_
        by_cases w45 : w44v.toInt < (zJ M (181 + 3 * w4n) 9).toInt
        · refine zs_lcmp (pc := 18) t140_18 (c := -1) (zlcL rfl rfl (by omega)) ?_
          refine zs_if_eqF (pc := 19) t140_19 lin1 (by decide) ?_
          refine zs_lload (pc := 22) t140_22 rfl ?_
          refine zs_lconst (pc := 24) t140_24 (v := 1) (by decide) ?_
          obtain ⟨w46v, w46⟩ : ∃ v, w41v - (1 : Int64) = v := ⟨_, rfl⟩
          have w46g := zrg64 w46v
          refine zs_lsub (pc := 25) t140_25 (c := w46v) w46 ?_
          refine zs_lret (pc := 26) t140_26 mr140 ?_
          show zGo X l 1 0 0 139 15 [(0, .ref (181 + 3 * w4n))] [.long w46v] M _
          obtain ⟨w47v, w47⟩ : ∃ v, w46v.toInt32 = v := ⟨_, rfl⟩
          have w47g := zrg w47v
          refine zs_l2i (pc := 15) t139_15 (c := w47v) w47 ?_
          refine zs_iret (pc := 16) t139_16 mr139 rfl ?_
          show zGo X l 2 0 0 138 21 [(2, .ref (181 + 3 * w4n)), (0, .ref 164), (1, .int a)] [.int w47v] M _
          exact zs_iret (pc := 21) t138_21 mr138 rfl (hQ _ (zrg _).1 (zrg _).2)
        by_cases w48 : w44v.toInt = (zJ M (181 + 3 * w4n) 9).toInt
        · refine zs_lcmp (pc := 18) t140_18 (c := 0) (zlcE rfl rfl (by omega)) ?_
          refine zs_if_eqT (pc := 19) t140_19 li0 (by decide) ?_
          refine zs_lload (pc := 27) t140_27 rfl ?_
          refine zs_lret (pc := 29) t140_29 mr140 ?_
          show zGo X l 1 0 0 139 15 [(0, .ref (181 + 3 * w4n))] [.long w41v] M _
          obtain ⟨w49v, w49⟩ : ∃ v, w41v.toInt32 = v := ⟨_, rfl⟩
          have w49g := zrg w49v
          refine zs_l2i (pc := 15) t139_15 (c := w49v) w49 ?_
          refine zs_iret (pc := 16) t139_16 mr139 rfl ?_
          show zGo X l 2 0 0 138 21 [(2, .ref (181 + 3 * w4n)), (0, .ref 164), (1, .int a)] [.int w49v] M _
          exact zs_iret (pc := 21) t138_21 mr138 rfl (hQ _ (zrg _).1 (zrg _).2)
        refine zs_lcmp (pc := 18) t140_18 (c := 1) (zlcG rfl rfl (by omega)) ?_
        refine zs_if_eqF (pc := 19) t140_19 li1 (by decide) ?_
        refine zs_lload (pc := 22) t140_22 rfl ?_
        refine zs_lconst (pc := 24) t140_24 (v := 1) (by decide) ?_
        obtain ⟨w51v, w51⟩ : ∃ v, w41v - (1 : Int64) = v := ⟨_, rfl⟩
        have w51g := zrg64 w51v
        refine zs_lsub (pc := 25) t140_25 (c := w51v) w51 ?_
        refine zs_lret (pc := 26) t140_26 mr140 ?_
        show zGo X l 1 0 0 139 15 [(0, .ref (181 + 3 * w4n))] [.long w51v] M _
        obtain ⟨w52v, w52⟩ : ∃ v, w51v.toInt32 = v := ⟨_, rfl⟩
        have w52g := zrg w52v
        refine zs_l2i (pc := 15) t139_15 (c := w52v) w52 ?_
        refine zs_iret (pc := 16) t139_16 mr139 rfl ?_
        show zGo X l 2 0 0 138 21 [(2, .ref (181 + 3 * w4n)), (0, .ref 164), (1, .int a)] [.int w52v] M _
        exact zs_iret (pc := 21) t138_21 mr138 rfl (hQ _ (zrg _).1 (zrg _).2)
      by_cases w53 : w42v.toInt = 0
      · refine zs_lcmp (pc := 9) t140_9 (c := 0) (zlcE rfl ll0 (by omega)) ?_
        refine zs_if_geT (pc := 10) t140_10 li0 (by decide) ?_
        refine zs_lload (pc := 27) t140_27 rfl ?_
        refine zs_lret (pc := 29) t140_29 mr140 ?_
        show zGo X l 1 0 0 139 15 [(0, .ref (181 + 3 * w4n))] [.long w41v] M _
        obtain ⟨w54v, w54⟩ : ∃ v, w41v.toInt32 = v := ⟨_, rfl⟩
        have w54g := zrg w54v
        refine zs_l2i (pc := 15) t139_15 (c := w54v) w54 ?_
        refine zs_iret (pc := 16) t139_16 mr139 rfl ?_
        show zGo X l 2 0 0 138 21 [(2, .ref (181 + 3 * w4n)), (0, .ref 164), (1, .int a)] [.int w54v] M _
        exact zs_iret (pc := 21) t138_21 mr138 rfl (hQ _ (zrg _).1 (zrg _).2)
      refine zs_lcmp (pc := 9) t140_9 (c := 1) (zlcG rfl ll0 (by omega)) ?_
      refine zs_if_geT (pc := 10) t140_10 li1 (by decide) ?_
      refine zs_lload (pc := 27) t140_27 rfl ?_
      refine zs_lret (pc := 29) t140_29 mr140 ?_
      show zGo X l 1 0 0 139 15 [(0, .ref (181 + 3 * w4n))] [.long w41v] M _
      obtain ⟨w56v, w56⟩ : ∃ v, w41v.toInt32 = v := ⟨_, rfl⟩
      have w56g := zrg w56v
      refine zs_l2i (pc := 15) t139_15 (c := w56v) w56 ?_
      refine zs_iret (pc := 16) t139_16 mr139 rfl ?_
      show zGo X l 2 0 0 138 21 [(2, .ref (181 + 3 * w4n)), (0, .ref 164), (1, .int a)] [.int w56v] M _
      exact zs_iret (pc := 21) t138_21 mr138 rfl (hQ _ (zrg _).1 (zrg _).2)
theorem C137_164 {X : zX} {l : Launch} {M : zM} {Q : Option Value → zM → Prop} (hs : zSk zMc M) (hI : zIv cLo cHi M) (hQ : ∀ M', zSk zMc M' → zIv cLo cHi M' → zFr [(320, 320, none)] M M' → Q none M') : zCall X l 3 0 0 137 [.ref 164] M Q := by
  refine zs_in (by decide) mf137 (Nat.le_of_ble_eq_true rfl) ?_
  show zGo X l 3 0 0 137 0 [(0, .ref 164)] [] M _
  refine zs_iconst (pc := 0) t137_0 (v := 0) (by decide) ?_
  refine zs_istore_n (pc := 1) t137_1 (ls' := [(1, .int (0 : Int32)), (0, .ref 164)]) (zml mf137 (by decide)) rfl ?_
  have w1L : ∀ (m : Nat) (w1x1 : Int32) (w1M : zM), (0 ≤ w1x1.toInt ∧ w1x1.toInt ≤ 20) → zSk zMc w1M → zIv cLo cHi w1M → zFr [(320, 320, none)] M w1M → 20 - w1x1.toInt ≤ (m : Int) → zGo X l 3 0 0 137 2 [(0, .ref 164), (1, .int w1x1)] [] w1M Q := by
    intro m
    induction m using Nat.strongRecOn with
    | ind w1m w1ih =>
      intro w1x1 w1M w1b1 w1s w1I w1F w1q
      refine zs_iload_n (pc := 2) t137_2 rfl ?_
      refine zs_aload_n (pc := 3) t137_3 rfl ?_
      have w2 := ib164_4 hI
      refine zs_get (pc := 4) t137_4 (by decide) (zk1 (w1s.k fk_zMc_164)) (zfvi rfl ((w1F 164 4 rfl).trans rfl)) ?_
      by_cases w3 : (zI M 164 4).toInt ≤ w1x1.toInt
      · refine zs_icmp_geT (pc := 7) t137_7 rfl rfl (by omega) ?_
        exact zs_vret (pc := 69) t137_69 mr137 (hQ _ w1s w1I ((zFr.refl).trans (w1F.mono rfl)))
      · refine zs_icmp_geF (pc := 7) t137_7 rfl rfl (by omega) ?_
        refine zs_iload_n (pc := 10) t137_10 rfl ?_
        refine zs_istore_n (pc := 11) t137_11 (ls' := [(2, .int w1x1), (0, .ref 164), (1, .int w1x1)]) (zml mf137 (by decide)) rfl ?_
        have w4L : ∀ (m : Nat) (w4x2 : Int32) (w4M : zM), (0 ≤ w4x2.toInt ∧ w4x2.toInt ≤ 19) → zSk zMc w4M → zIv cLo cHi w4M → zFr [(320, 320, none)] w1M w4M → w4x2.toInt ≤ (m : Int) → zGo X l 3 0 0 137 12 [(0, .ref 164), (1, .int w1x1), (2, .int w4x2)] [] w4M Q := by
          intro m
          induction m using Nat.strongRecOn with
          | ind w4m w4ih =>
            intro w4x2 w4M w4b2 w4s w4I w4F w4q
            refine zs_iload_n (pc := 12) t137_12 rfl ?_
            by_cases w5 : w4x2.toInt ≤ 0
            · refine zs_if_leT (pc := 13) t137_13 rfl (by omega) ?_
              refine zs_aload_n (pc := 56) t137_56 rfl ?_
              refine zs_get (pc := 57) t137_57 (by decide) (zk1 (w4s.k fk_zMc_164)) (w4s.p rfl fv_zMc_164_10) ?_
              refine zs_iload_n (pc := 60) t137_60 rfl ?_
              refine zs_iload_n (pc := 61) t137_61 rfl ?_
              obtain ⟨w6n, w6⟩ : ∃ n : Nat, w4x2.toInt = (n : Int) := ⟨w4x2.toInt.toNat, by omega⟩
              have w7 : zIv cLo cHi (zsI w4M 320 w6n w1x1) := zIv.put w4I (show (-2147483648) ≤ w1x1.toInt ∧ w1x1.toInt ≤ 2147483647 from (zrg w1x1))
              refine zs_iast (pc := 62) t137_62 (j := w6n) (by decide) (zk1 (w4s.k fk_zMc_320)) w6 (zk2 (w4s.k fk_zMc_320) (by omega)) ?_
              obtain ⟨w8v, w8e, w8⟩ := ziadd (a := w1x1) (b := Int32.ofInt 1) rfl (show (Int32.ofInt 1).toInt = 1 by decide) (by omega) (by omega)
              refine zs_iinc (pc := 63) t137_63 (ls' := [(1, .int w8v), (0, .ref 164), (2, .int w4x2)]) (zml mf137 (by decide)) rfl (c := w8v) w8e rfl ?_
              refine zs_goto (pc := 66) t137_66 ?_
              refine zGo.locals (ls' := [(0, .ref 164), (1, .int w8v)]) (by simp) ?_
              exact w1ih (w1m - 1) (by omega) w8v (zsI w4M 320 w6n w1x1) ⟨by omega, by omega⟩ w4s w7 ((((zFr.refl).trans (w1F.mono rfl)).trans (w4F.mono rfl)).put rfl) (by omega)
            · refine zs_if_leF (pc := 13) t137_13 rfl (by omega) ?_
              refine zs_aload_n (pc := 16) t137_16 rfl ?_
              refine zs_aload_n (pc := 17) t137_17 rfl ?_
              refine zs_get (pc := 18) t137_18 (by decide) (zk1 (w4s.k fk_zMc_164)) (w4s.p rfl fv_zMc_164_10) ?_
              refine zs_iload_n (pc := 21) t137_21 rfl ?_
              refine zs_iconst (pc := 22) t137_22 (v := 1) (by decide) ?_
              obtain ⟨w9v, w9e, w9⟩ := zisub (a := w4x2) (b := (1 : Int32)) rfl li1 (by omega) (by omega)
              refine zs_isub (pc := 23) t137_23 (c := w9v) w9e ?_
              obtain ⟨w10n, w10⟩ : ∃ n : Nat, w9v.toInt = (n : Int) := ⟨w9v.toInt.toNat, by omega⟩
              have w11 := ib320 w4I w10n
              refine zs_iald (pc := 24) t137_24 (j := w10n) (by decide) (zk1 (w4s.k fk_zMc_320)) w10 (zk2 (w4s.k fk_zMc_320) (by omega)) rfl ?_
              refine zs_invV (pc := 25) (k := 164) (as' := [.int (zI w4M 320 w10n)]) (st := []) t137_25 mf138 rfl rfl (Or.inl ⟨by decide, (zk1 (w4s.k fk_zMc_164))⟩) ⟨by decide, by decide, Nat.le_of_ble_eq_true rfl, Nat.le_of_ble_eq_true rfl⟩ (C138_164 w4s w4I ?_) (fun _ _ q => q)
              intro w12v w12a w12b
              show zGo X l 3 0 0 137 28 [(0, .ref 164), (1, .int w1x1), (2, .int w4x2)] [.int w12v] w4M _
              refine zs_aload_n (pc := 28) t137_28 rfl ?_
              refine zs_iload_n (pc := 29) t137_29 rfl ?_
              refine zs_invV (pc := 30) (k := 164) (as' := [.int w1x1]) (st := [.int w12v]) t137_30 mf138 rfl rfl (Or.inl ⟨by decide, (zk1 (w4s.k fk_zMc_164))⟩) ⟨by decide, by decide, Nat.le_of_ble_eq_true rfl, Nat.le_of_ble_eq_true rfl⟩ (C138_164 w4s w4I ?_) (fun _ _ q => q)
              intro w13v w13a w13b
              show zGo X l 3 0 0 137 33 [(0, .ref 164), (1, .int w1x1), (2, .int w4x2)] [.int w13v, .int w12v] w4M _
              by_cases w14 : w12v.toInt ≤ w13v.toInt
              · refine zs_icmp_leT (pc := 33) t137_33 rfl rfl (by omega) ?_
                refine zs_aload_n (pc := 56) t137_56 rfl ?_
                refine zs_get (pc := 57) t137_57 (by decide) (zk1 (w4s.k fk_zMc_164)) (w4s.p rfl fv_zMc_164_10) ?_
                refine zs_iload_n (pc := 60) t137_60 rfl ?_
                refine zs_iload_n (pc := 61) t137_61 rfl ?_
                obtain ⟨w15n, w15⟩ : ∃ n : Nat, w4x2.toInt = (n : Int) := ⟨w4x2.toInt.toNat, by omega⟩
                have w16 : zIv cLo cHi (zsI w4M 320 w15n w1x1) := zIv.put w4I (show (-2147483648) ≤ w1x1.toInt ∧ w1x1.toInt ≤ 2147483647 from (zrg w1x1))
                refine zs_iast (pc := 62) t137_62 (j := w15n) (by decide) (zk1 (w4s.k fk_zMc_320)) w15 (zk2 (w4s.k fk_zMc_320) (by omega)) ?_
                obtain ⟨w17v, w17e, w17⟩ := ziadd (a := w1x1) (b := Int32.ofInt 1) rfl (show (Int32.ofInt 1).toInt = 1 by decide) (by omega) (by omega)
                refine zs_iinc (pc := 63) t137_63 (ls' := [(1, .int w17v), (0, .ref 164), (2, .int w4x2)]) (zml mf137 (by decide)) rfl (c := w17v) w17e rfl ?_
                refine zs_goto (pc := 66) t137_66 ?_
                refine zGo.locals (ls' := [(0, .ref 164), (1, .int w17v)]) (by simp) ?_
                exact w1ih (w1m - 1) (by omega) w17v (zsI w4M 320 w15n w1x1) ⟨by omega, by omega⟩ w4s w16 ((((zFr.refl).trans (w1F.mono rfl)).trans (w4F.mono rfl)).put rfl) (by omega)
              · refine zs_icmp_leF (pc := 33) t137_33 rfl rfl (by omega) ?_
                refine zs_aload_n (pc := 36) t137_36 rfl ?_
                refine zs_get (pc := 37) t137_37 (by decide) (zk1 (w4s.k fk_zMc_164)) (w4s.p rfl fv_zMc_164_10) ?_
                refine zs_iload_n (pc := 40) t137_40 rfl ?_
                refine zs_aload_n (pc := 41) t137_41 rfl ?_
                refine zs_get (pc := 42) t137_42 (by decide) (zk1 (w4s.k fk_zMc_164)) (w4s.p rfl fv_zMc_164_10) ?_
                refine zs_iload_n (pc := 45) t137_45 rfl ?_
                refine zs_iconst (pc := 46) t137_46 (v := 1) (by decide) ?_
                obtain ⟨w18v, w18e, w18⟩ := zisub (a := w4x2) (b := (1 : Int32)) rfl li1 (by omega) (by omega)
                refine zs_isub (pc := 47) t137_47 (c := w18v) w18e ?_
                obtain ⟨w19n, w19⟩ : ∃ n : Nat, w18v.toInt = (n : Int) := ⟨w18v.toInt.toNat, by omega⟩
                have w20 := ib320 w4I w19n
                refine zs_iald (pc := 48) t137_48 (j := w19n) (by decide) (zk1 (w4s.k fk_zMc_320)) w19 (zk2 (w4s.k fk_zMc_320) (by omega)) rfl ?_
                obtain ⟨w21n, w21⟩ : ∃ n : Nat, w4x2.toInt = (n : Int) := ⟨w4x2.toInt.toNat, by omega⟩
                have w22 : zIv cLo cHi (zsI w4M 320 w21n (zI w4M 320 w19n)) := zIv.put w4I (show (-2147483648) ≤ (zI w4M 320 w19n).toInt ∧ (zI w4M 320 w19n).toInt ≤ 2147483647 from (zrg (zI w4M 320 w19n)))
                refine zs_iast (pc := 49) t137_49 (j := w21n) (by decide) (zk1 (w4s.k fk_zMc_320)) w21 (zk2 (w4s.k fk_zMc_320) (by omega)) ?_
                obtain ⟨w23v, w23e, w23⟩ := ziadd (a := w4x2) (b := Int32.ofInt (-1)) rfl (show (Int32.ofInt (-1)).toInt = (-1) by decide) (by omega) (by omega)
                refine zs_iinc (pc := 50) t137_50 (ls' := [(2, .int w23v), (0, .ref 164), (1, .int w1x1)]) (zml mf137 (by decide)) rfl (c := w23v) w23e rfl ?_
                refine zs_goto (pc := 53) t137_53 ?_
                refine zGo.locals (ls' := [(0, .ref 164), (1, .int w1x1), (2, .int w23v)]) (by simp) ?_
                exact w4ih (w4m - 1) (by omega) w23v (zsI w4M 320 w21n (zI w4M 320 w19n)) ⟨by omega, by omega⟩ w4s w22 (((zFr.refl).trans (w4F.mono rfl)).put rfl) (by omega)
        refine zGo.locals (ls' := [(0, .ref 164), (1, .int w1x1), (2, .int w1x1)]) (by simp) ?_
        exact w4L ((w1x1.toInt : Int).toNat) w1x1 w1M ⟨by omega, by omega⟩ w1s w1I zFr.refl (by omega)
  refine zGo.locals (ls' := [(0, .ref 164), (1, .int (0 : Int32))]) (by simp) ?_
  have w24 := li0
  exact w1L ((20 - 0 : Int).toNat) (0 : Int32) M ⟨by decide, by decide⟩ hs hI zFr.refl (by omega)
theorem C141_164 {X : zX} {l : Launch} {M : zM} {Q : Option Value → zM → Prop} {a : Int32} (hs : zSk zMc M) (hI : zIv cLo cHi M) (hQ : ∀ M', zSk zMc M' → zIv cLo cHi M' → zFr [(164, 164, some 9), (321, 322, none), (181, 240, none)] M M' → Q none M') : zCall X l 3 0 0 141 [.ref 164, .int a] M Q := by
  have ga := zrg a
  refine zs_in (by decide) mf141 (Nat.le_of_ble_eq_true rfl) ?_
  show zGo X l 3 0 0 141 0 [(0, .ref 164), (1, .int a)] [] M _
  refine zs_aload_n (pc := 0) t141_0 rfl ?_
  refine zs_iconst (pc := 1) t141_1 (v := 0) (by decide) ?_
  have w1 : zIv cLo cHi (zsI M 164 9 (0 : Int32)) := zIv.put hI (show 0 ≤ (0 : Int32).toInt ∧ (0 : Int32).toInt ≤ 20 from ⟨by decide, by decide⟩)
  refine zs_putI (pc := 2) t141_2 (zk1 (hs.k fk_zMc_164)) rfl ?_
  refine zs_iconst (pc := 5) t141_5 (v := 0) (by decide) ?_
  refine zs_istore_n (pc := 6) t141_6 (ls' := [(2, .int (0 : Int32)), (0, .ref 164), (1, .int a)]) (zml mf141 (by decide)) rfl ?_
  have w2L : ∀ (m : Nat) (w2x2 : Int32) (w2M : zM), (0 ≤ w2x2.toInt ∧ w2x2.toInt ≤ 20) → zSk zMc w2M → zIv cLo cHi w2M → zFr [(164, 164, some 9), (321, 322, none), (181, 240, none)] (zsI M 164 9 (0 : Int32)) w2M → ((zI w2M 164 9).toInt ≤ w2x2.toInt) → (w2x2.toInt ≤ 20 * (zI w2M 164 9).toInt) → 20 - w2x2.toInt ≤ (m : Int) → zGo X l 3 0 0 141 7 [(0, .ref 164), (1, .int a), (2, .int w2x2)] [] w2M Q := by
    intro m
    induction m using Nat.strongRecOn with
    | ind w2m w2ih =>
      intro w2x2 w2M w2b2 w2s w2I w2F w2t0 w2t1 w2q
      refine zs_iload_n (pc := 7) t141_7 rfl ?_
      refine zs_aload_n (pc := 8) t141_8 rfl ?_
      have w3 := ib164_4 hI
      refine zs_get (pc := 9) t141_9 (by decide) (zk1 (w2s.k fk_zMc_164)) (zfvi rfl ((w2F 164 4 rfl).trans ((zIoj (by decide)).trans rfl))) ?_
      by_cases w4 : (zI M 164 4).toInt ≤ w2x2.toInt
      · refine zs_icmp_geT (pc := 12) t141_12 rfl rfl (by omega) ?_
        exact zs_vret (pc := 145) t141_145 mr141 (hQ _ w2s w2I (((zFr.refl).put rfl).trans (w2F.mono rfl)))
      · refine zs_icmp_geF (pc := 12) t141_12 rfl rfl (by omega) ?_
        refine zs_aload_n (pc := 15) t141_15 rfl ?_
        refine zs_aload_n (pc := 16) t141_16 rfl ?_
        refine zs_get (pc := 17) t141_17 (by decide) (zk1 (w2s.k fk_zMc_164)) (w2s.p rfl fv_zMc_164_10) ?_
        refine zs_iload_n (pc := 20) t141_20 rfl ?_
        obtain ⟨w5n, w5⟩ : ∃ n : Nat, w2x2.toInt = (n : Int) := ⟨w2x2.toInt.toNat, by omega⟩
        have w6 := ib320 hI w5n
        refine zs_iald (pc := 21) t141_21 (j := w5n) (by decide) (zk1 (w2s.k fk_zMc_320)) w5 (zk2 (w2s.k fk_zMc_320) (by omega)) ((w2F 320 w5n rfl).trans ((zIo (by decide)).trans rfl)) ?_
        refine zs_invV (pc := 22) (k := 164) (as' := [.int (zI M 320 w5n)]) (st := []) t141_22 mf138 rfl rfl (Or.inl ⟨by decide, (zk1 (w2s.k fk_zMc_164))⟩) ⟨by decide, by decide, Nat.le_of_ble_eq_true rfl, Nat.le_of_ble_eq_true rfl⟩ (C138_164 w2s w2I ?_) (fun _ _ q => q)
        intro w7v w7a w7b
        show zGo X l 3 0 0 141 25 [(0, .ref 164), (1, .int a), (2, .int w2x2)] [.int w7v] w2M _
        refine zs_istore_n (pc := 25) t141_25 (ls' := [(3, .int w7v), (0, .ref 164), (1, .int a), (2, .int w2x2)]) (zml mf141 (by decide)) rfl ?_
        refine zs_iload_n (pc := 26) t141_26 rfl ?_
        by_cases w8 : w2x2.toInt = 0
        · refine zs_if_eqT (pc := 27) t141_27 rfl (by omega) ?_
          refine zs_aload_n (pc := 48) t141_48 rfl ?_
          refine zs_get (pc := 49) t141_49 (by decide) (zk1 (w2s.k fk_zMc_164)) (w2s.p rfl fv_zMc_164_11) ?_
          refine zs_aload_n (pc := 52) t141_52 rfl ?_
          have w9 := ib164_9 w2I
          refine zs_get (pc := 53) t141_53 (by decide) (zk1 (w2s.k fk_zMc_164)) (zfvi rfl rfl) ?_
          refine zs_iconst (pc := 56) t141_56 (v := 0) (by decide) ?_
          obtain ⟨w10n, w10⟩ : ∃ n : Nat, (zI w2M 164 9).toInt = (n : Int) := ⟨(zI w2M 164 9).toInt.toNat, by omega⟩
          have w11 : zIv cLo cHi (zsI w2M 321 w10n (0 : Int32)) := zIv.put w2I (show (-2147483648) ≤ (0 : Int32).toInt ∧ (0 : Int32).toInt ≤ 2147483647 from (zrg (0 : Int32)))
          refine zs_iast (pc := 57) t141_57 (j := w10n) (by decide) (zk1 (w2s.k fk_zMc_321)) w10 (zk2 (w2s.k fk_zMc_321) (by omega)) ?_
          refine zs_aload_n (pc := 58) t141_58 rfl ?_
          refine zs_get (pc := 59) t141_59 (by decide) (zk1 (w2s.k fk_zMc_164)) (w2s.p rfl fv_zMc_164_12) ?_
          refine zs_aload_n (pc := 62) t141_62 rfl ?_
          refine zs_get (pc := 63) t141_63 (by decide) (zk1 (w2s.k fk_zMc_164)) (zfvi rfl ((zIo (by decide)).trans rfl)) ?_
          refine zs_iconst (pc := 66) t141_66 (v := 0) (by decide) ?_
          have w12 : zIv cLo cHi (zsI (zsI w2M 321 w10n (0 : Int32)) 322 w10n (0 : Int32)) := zIv.put w11 (show (-2147483648) ≤ (0 : Int32).toInt ∧ (0 : Int32).toInt ≤ 2147483647 from (zrg (0 : Int32)))
          refine zs_iast (pc := 67) t141_67 (j := w10n) (by decide) (zk1 (w2s.k fk_zMc_322)) w10 (zk2 (w2s.k fk_zMc_322) (by omega)) ?_
          refine zs_aload_n (pc := 68) t141_68 rfl ?_
          refine zs_dup (pc := 69) t141_69 rfl ?_
          refine zs_get (pc := 70) t141_70 (by decide) (zk1 (w2s.k fk_zMc_164)) (zfvi rfl ((zIo (by decide)).trans ((zIo (by decide)).trans rfl))) ?_
          refine zs_iconst (pc := 73) t141_73 (v := 1) (by decide) ?_
          obtain ⟨w13v, w13e, w13⟩ := ziadd (a := (zI w2M 164 9)) (b := (1 : Int32)) rfl li1 (by omega) (by omega)
          refine zs_iadd (pc := 74) t141_74 (c := w13v) w13e ?_
          have w14 : zIv cLo cHi (zsI (zsI (zsI w2M 321 w10n (0 : Int32)) 322 w10n (0 : Int32)) 164 9 w13v) := zIv.put w12 (show 0 ≤ w13v.toInt ∧ w13v.toInt ≤ 20 from ⟨by omega, by omega⟩)
          refine zs_putI (pc := 75) t141_75 (zk1 (w2s.k fk_zMc_164)) rfl ?_
          refine zs_aload_n (pc := 78) t141_78 rfl ?_
          refine zs_get (pc := 79) t141_79 (by decide) (zk1 (w2s.k fk_zMc_164)) (w2s.p rfl fv_zMc_164_11) ?_
          refine zs_aload_n (pc := 82) t141_82 rfl ?_
          refine zs_get (pc := 83) t141_83 (by decide) (zk1 (w2s.k fk_zMc_164)) (zfvi rfl zIs) ?_
          refine zs_iconst (pc := 86) t141_86 (v := 1) (by decide) ?_
          obtain ⟨w15v, w15e, w15⟩ := zisub (a := w13v) (b := (1 : Int32)) w13 li1 (by omega) (by omega)
          refine zs_isub (pc := 87) t141_87 (c := w15v) w15e ?_
          refine zs_dup2 (pc := 88) t141_88 ⟨rfl, rfl⟩ ?_
          obtain ⟨w16n, w16⟩ : ∃ n : Nat, w15v.toInt = (n : Int) := ⟨w15v.toInt.toNat, by omega⟩
          have w17 := ib321 w14 w16n
          refine zs_iald (pc := 89) t141_89 (j := w16n) (by decide) (zk1 (w2s.k fk_zMc_321)) w16 (zk2 (w2s.k fk_zMc_321) (by omega)) rfl ?_
          refine zs_iconst (pc := 90) t141_90 (v := 1) (by decide) ?_
          obtain ⟨w18v, w18⟩ : ∃ v, v = (zI (zsI (zsI (zsI w2M 321 w10n (0 : Int32)) 322 w10n (0 : Int32)) 164 9 w13v) 321 w16n) + (1 : Int32) := ⟨_, rfl⟩
          have w18g := zrg w18v
          refine zs_iadd (pc := 91) t141_91 (c := w18v) w18.symm ?_
          have w19 : zIv cLo cHi (zsI (zsI (zsI (zsI w2M 321 w10n (0 : Int32)) 322 w10n (0 : Int32)) 164 9 w13v) 321 w16n w18v) := zIv.put w14 (show (-2147483648) ≤ w18v.toInt ∧ w18v.toInt ≤ 2147483647 from (zrg w18v))
          refine zs_iast (pc := 92) t141_92 (j := w16n) (by decide) (zk1 (w2s.k fk_zMc_321)) w16 (zk2 (w2s.k fk_zMc_321) (by omega)) ?_
          refine zs_aload_n (pc := 93) t141_93 rfl ?_
          refine zs_get (pc := 94) t141_94 (by decide) (zk1 (w2s.k fk_zMc_164)) (w2s.p rfl fv_zMc_164_12) ?_
          refine zs_aload_n (pc := 97) t141_97 rfl ?_
          refine zs_get (pc := 98) t141_98 (by decide) (zk1 (w2s.k fk_zMc_164)) (zfvi rfl ((zIo (by decide)).trans zIs)) ?_
          refine zs_iconst (pc := 101) t141_101 (v := 1) (by decide) ?_
          obtain ⟨w20v, w20e, w20⟩ := zisub (a := w13v) (b := (1 : Int32)) w13 li1 (by omega) (by omega)
          refine zs_isub (pc := 102) t141_102 (c := w20v) w20e ?_
          refine zs_dup2 (pc := 103) t141_103 ⟨rfl, rfl⟩ ?_
          obtain ⟨w21n, w21⟩ : ∃ n : Nat, w20v.toInt = (n : Int) := ⟨w20v.toInt.toNat, by omega⟩
          have w22 := ib322 w19 w21n
          refine zs_iald (pc := 104) t141_104 (j := w21n) (by decide) (zk1 (w2s.k fk_zMc_322)) w21 (zk2 (w2s.k fk_zMc_322) (by omega)) rfl ?_
          refine zs_iload_n (pc := 105) t141_105 rfl ?_
          obtain ⟨w23v, w23⟩ : ∃ v, v = (zI (zsI (zsI (zsI (zsI w2M 321 w10n (0 : Int32)) 322 w10n (0 : Int32)) 164 9 w13v) 321 w16n w18v) 322 w21n) + w7v := ⟨_, rfl⟩
          have w23g := zrg w23v
          refine zs_iadd (pc := 106) t141_106 (c := w23v) w23.symm ?_
          have w24 : zIv cLo cHi (zsI (zsI (zsI (zsI (zsI w2M 321 w10n (0 : Int32)) 322 w10n (0 : Int32)) 164 9 w13v) 321 w16n w18v) 322 w21n w23v) := zIv.put w19 (show (-2147483648) ≤ w23v.toInt ∧ w23v.toInt ≤ 2147483647 from (zrg w23v))
          refine zs_iast (pc := 107) t141_107 (j := w21n) (by decide) (zk1 (w2s.k fk_zMc_322)) w21 (zk2 (w2s.k fk_zMc_322) (by omega)) ?_
          refine zs_aload_n (pc := 108) t141_108 rfl ?_
          refine zs_get (pc := 109) t141_109 (by decide) (zk1 (w2s.k fk_zMc_164)) (w2s.p rfl fv_zMc_164_1) ?_
          refine zs_aload_n (pc := 112) t141_112 rfl ?_
          refine zs_get (pc := 113) t141_113 (by decide) (zk1 (w2s.k fk_zMc_164)) (w2s.p rfl fv_zMc_164_10) ?_
          refine zs_iload_n (pc := 116) t141_116 rfl ?_
          refine zs_iald (pc := 117) t141_117 (j := w5n) (by decide) (zk1 (w2s.k fk_zMc_320)) w5 (zk2 (w2s.k fk_zMc_320) (by omega)) ((zIo (by decide)).trans ((zIo (by decide)).trans ((zIo (by decide)).trans ((zIo (by decide)).trans ((zIo (by decide)).trans ((w2F 320 w5n rfl).trans ((zIo (by decide)).trans rfl))))))) ?_
          refine zs_invV (pc := 118) (k := 165) (as' := [.int (zI M 320 w5n)]) (st := []) t141_118 mf126 rfl rfl (Or.inl ⟨by decide, (zk1 (w2s.k fk_zMc_165))⟩) ⟨by decide, by decide, Nat.le_of_ble_eq_true rfl, Nat.le_of_ble_eq_true rfl⟩ (zs_in (by decide) mf126 (Nat.le_of_ble_eq_true rfl) ?_) (fun _ _ q => q)
          show zGo X l 0 0 0 126 0 [(0, .ref 165), (1, .int (zI M 320 w5n))] [] (zsI (zsI (zsI (zsI (zsI w2M 321 w10n (0 : Int32)) 322 w10n (0 : Int32)) 164 9 w13v) 321 w16n w18v) 322 w21n w23v) _
          refine zs_iload_n (pc := 0) t126_0 rfl ?_
          by_cases w25 : (zI M 320 w5n).toInt < 0
          · refine zs_if_ltT (pc := 1) t126_1 rfl (by omega) ?_
            refine zs_aconst_null (pc := 21) t126_21 ?_
            refine zs_aret0 (pc := 22) t126_22 (by rw [mr126]; rfl) ?_
            show zGo X l 3 0 0 141 121 [(3, .int w7v), (0, .ref 164), (1, .int a), (2, .int w2x2)] [.null] (zsI (zsI (zsI (zsI (zsI w2M 321 w10n (0 : Int32)) 322 w10n (0 : Int32)) 164 9 w13v) 321 w16n w18v) 322 w21n w23v) _
            refine zs_astore0 (pc := 121) t141_121 (ls' := [(4, .null), (3, .int w7v), (0, .ref 164), (1, .int a), (2, .int w2x2)]) (zml mf141 (by decide)) rfl ?_
            refine zs_aload0 (pc := 123) t141_123 rfl ?_
            refine zs_ifnullT (pc := 125) t141_125 ?_
            obtain ⟨w26v, w26e, w26⟩ := ziadd (a := w2x2) (b := Int32.ofInt 1) rfl (show (Int32.ofInt 1).toInt = 1 by decide) (by omega) (by omega)
            refine zs_iinc (pc := 139) t141_139 (ls' := [(2, .int w26v), (4, .null), (3, .int w7v), (0, .ref 164), (1, .int a)]) (zml mf141 (by decide)) rfl (c := w26v) w26e rfl ?_
            refine zs_goto (pc := 142) t141_142 ?_
            refine zGo.locals (ls' := [(0, .ref 164), (1, .int a), (2, .int w26v)]) (by simp) ?_
            exact w2ih (w2m - 1) (by omega) w26v (zsI (zsI (zsI (zsI (zsI w2M 321 w10n (0 : Int32)) 322 w10n (0 : Int32)) 164 9 w13v) 321 w16n w18v) 322 w21n w23v) ⟨by omega, by omega⟩ w2s w24 (((((((zFr.refl).trans (w2F.mono rfl)).put rfl).put rfl).put rfl).put rfl).put rfl) (by rw [show zI (zsI (zsI (zsI (zsI (zsI w2M 321 w10n (0 : Int32)) 322 w10n (0 : Int32)) 164 9 w13v) 321 w16n w18v) 322 w21n w23v) 164 9 = w13v from ((zIo (by decide)).trans ((zIo (by decide)).trans zIs))]; omega) (by rw [show zI (zsI (zsI (zsI (zsI (zsI w2M 321 w10n (0 : Int32)) 322 w10n (0 : Int32)) 164 9 w13v) 321 w16n w18v) 322 w21n w23v) 164 9 = w13v from ((zIo (by decide)).trans ((zIo (by decide)).trans zIs))]; omega) (by omega)
          · refine zs_if_ltF (pc := 1) t126_1 rfl (by omega) ?_
            refine zs_iload_n (pc := 4) t126_4 rfl ?_
            refine zs_aload_n (pc := 5) t126_5 rfl ?_
            have w27 := ib165_2 hI
            refine zs_get (pc := 6) t126_6 (by decide) (zk1 (w2s.k fk_zMc_165)) (zfvi rfl ((zIo (by decide)).trans ((zIo (by decide)).trans ((zIo (by decide)).trans ((zIo (by decide)).trans ((zIo (by decide)).trans ((w2F 165 2 rfl).trans ((zIo (by decide)).trans rfl)))))))) ?_
            by_cases w28 : (zI M 165 2).toInt ≤ (zI M 320 w5n).toInt
            · refine zs_icmp_geT (pc := 9) t126_9 rfl rfl (by omega) ?_
              refine zs_aconst_null (pc := 21) t126_21 ?_
              refine zs_aret0 (pc := 22) t126_22 (by rw [mr126]; rfl) ?_
              show zGo X l 3 0 0 141 121 [(3, .int w7v), (0, .ref 164), (1, .int a), (2, .int w2x2)] [.null] (zsI (zsI (zsI (zsI (zsI w2M 321 w10n (0 : Int32)) 322 w10n (0 : Int32)) 164 9 w13v) 321 w16n w18v) 322 w21n w23v) _
              refine zs_astore0 (pc := 121) t141_121 (ls' := [(4, .null), (3, .int w7v), (0, .ref 164), (1, .int a), (2, .int w2x2)]) (zml mf141 (by decide)) rfl ?_
              refine zs_aload0 (pc := 123) t141_123 rfl ?_
              refine zs_ifnullT (pc := 125) t141_125 ?_
              obtain ⟨w29v, w29e, w29⟩ := ziadd (a := w2x2) (b := Int32.ofInt 1) rfl (show (Int32.ofInt 1).toInt = 1 by decide) (by omega) (by omega)
              refine zs_iinc (pc := 139) t141_139 (ls' := [(2, .int w29v), (4, .null), (3, .int w7v), (0, .ref 164), (1, .int a)]) (zml mf141 (by decide)) rfl (c := w29v) w29e rfl ?_
              refine zs_goto (pc := 142) t141_142 ?_
              refine zGo.locals (ls' := [(0, .ref 164), (1, .int a), (2, .int w29v)]) (by simp) ?_
              exact w2ih (w2m - 1) (by omega) w29v (zsI (zsI (zsI (zsI (zsI w2M 321 w10n (0 : Int32)) 322 w10n (0 : Int32)) 164 9 w13v) 321 w16n w18v) 322 w21n w23v) ⟨by omega, by omega⟩ w2s w24 (((((((zFr.refl).trans (w2F.mono rfl)).put rfl).put rfl).put rfl).put rfl).put rfl) (by rw [show zI (zsI (zsI (zsI (zsI (zsI w2M 321 w10n (0 : Int32)) 322 w10n (0 : Int32)) 164 9 w13v) 321 w16n w18v) 322 w21n w23v) 164 9 = w13v from ((zIo (by decide)).trans ((zIo (by decide)).trans zIs))]; omega) (by rw [show zI (zsI (zsI (zsI (zsI (zsI w2M 321 w10n (0 : Int32)) 322 w10n (0 : Int32)) 164 9 w13v) 321 w16n w18v) 322 w21n w23v) 164 9 = w13v from ((zIo (by decide)).trans ((zIo (by decide)).trans zIs))]; omega) (by omega)
            · refine zs_icmp_geF (pc := 9) t126_9 rfl rfl (by omega) ?_
              refine zs_aload_n (pc := 12) t126_12 rfl ?_
              refine zs_get (pc := 13) t126_13 (by decide) (zk1 (w2s.k fk_zMc_165)) (w2s.p rfl fv_zMc_165_1) ?_
              refine zs_iload_n (pc := 16) t126_16 rfl ?_
              obtain ⟨w30n, w30⟩ : ∃ n : Nat, (zI M 320 w5n).toInt = (n : Int) := ⟨(zI M 320 w5n).toInt.toNat, by omega⟩
              have w31 : w30n < 20 := by omega
              refine zs_aald (pc := 17) t126_17 (j := w30n) (Or.inr (zk1 (w2s.k fk_zMc_179))) w30 (zk2 (w2s.k fk_zMc_179) (by omega)) (w2s.a (fpT181 w30n w31)) ?_
              refine zs_goto (pc := 18) t126_18 ?_
              refine zs_aret (pc := 22) t126_22 (by rw [mr126]; rfl) ?_
              show zGo X l 3 0 0 141 121 [(3, .int w7v), (0, .ref 164), (1, .int a), (2, .int w2x2)] [.ref (181 + 3 * w30n)] (zsI (zsI (zsI (zsI (zsI w2M 321 w10n (0 : Int32)) 322 w10n (0 : Int32)) 164 9 w13v) 321 w16n w18v) 322 w21n w23v) _
              refine zs_astore (pc := 121) t141_121 (ls' := [(4, .ref (181 + 3 * w30n)), (3, .int w7v), (0, .ref 164), (1, .int a), (2, .int w2x2)]) (zml mf141 (by decide)) rfl ?_
              refine zs_aload (pc := 123) t141_123 rfl ?_
              refine zs_ifnullF (pc := 125) t141_125 ?_
              refine zs_aload (pc := 128) t141_128 rfl ?_
              refine zs_aload_n (pc := 130) t141_130 rfl ?_
              refine zs_get (pc := 131) t141_131 (by decide) (zk1 (w2s.k fk_zMc_164)) (zfvi rfl ((zIo (by decide)).trans ((zIo (by decide)).trans zIs))) ?_
              refine zs_iconst (pc := 134) t141_134 (v := 1) (by decide) ?_
              obtain ⟨w32v, w32e, w32⟩ := zisub (a := w13v) (b := (1 : Int32)) w13 li1 (by omega) (by omega)
              refine zs_isub (pc := 135) t141_135 (c := w32v) w32e ?_
              have w33 : zIv cLo cHi (zsI (zsI (zsI (zsI (zsI (zsI w2M 321 w10n (0 : Int32)) 322 w10n (0 : Int32)) 164 9 w13v) 321 w16n w18v) 322 w21n w23v) (181 + 3 * w30n) 4 w32v) := zIv.put w24 (by rw [(cT181_0_4 w30n w31).1, (cT181_0_4 w30n w31).2]; exact (zrg w32v))
              refine zs_putI (pc := 136) t141_136 (zk1 (w2s.k (fT181_0 w30n w31))) rfl ?_
              obtain ⟨w34v, w34e, w34⟩ := ziadd (a := w2x2) (b := Int32.ofInt 1) rfl (show (Int32.ofInt 1).toInt = 1 by decide) (by omega) (by omega)
              refine zs_iinc (pc := 139) t141_139 (ls' := [(2, .int w34v), (4, .ref (181 + 3 * w30n)), (3, .int w7v), (0, .ref 164), (1, .int a)]) (zml mf141 (by decide)) rfl (c := w34v) w34e rfl ?_
              refine zs_goto (pc := 142) t141_142 ?_
              refine zGo.locals (ls' := [(0, .ref 164), (1, .int a), (2, .int w34v)]) (by simp) ?_
              exact w2ih (w2m - 1) (by omega) w34v (zsI (zsI (zsI (zsI (zsI (zsI w2M 321 w10n (0 : Int32)) 322 w10n (0 : Int32)) 164 9 w13v) 321 w16n w18v) 322 w21n w23v) (181 + 3 * w30n) 4 w32v) ⟨by omega, by omega⟩ w2s w33 ((((((((zFr.refl).trans (w2F.mono rfl)).put rfl).put rfl).put rfl).put rfl).put rfl).put (zinW_r (lo := 181) (hi := 240) (by decide) (by omega) (by omega))) (by rw [show zI (zsI (zsI (zsI (zsI (zsI (zsI w2M 321 w10n (0 : Int32)) 322 w10n (0 : Int32)) 164 9 w13v) 321 w16n w18v) 322 w21n w23v) (181 + 3 * w30n) 4 w32v) 164 9 = w13v from ((zIo (by omega)).trans ((zIo (by decide)).trans ((zIo (by decide)).trans zIs)))]; omega) (by rw [show zI (zsI (zsI (zsI (zsI (zsI (zsI w2M 321 w10n (0 : Int32)) 322 w10n (0 : Int32)) 164 9 w13v) 321 w16n w18v) 322 w21n w23v) (181 + 3 * w30n) 4 w32v) 164 9 = w13v from ((zIo (by omega)).trans ((zIo (by decide)).trans ((zIo (by decide)).trans zIs)))]; omega) (by omega)
        · refine zs_if_eqF (pc := 27) t141_27 rfl (by omega) ?_
          refine zs_iload_n (pc := 30) t141_30 rfl ?_
          refine zs_aload_n (pc := 31) t141_31 rfl ?_
          refine zs_aload_n (pc := 32) t141_32 rfl ?_
          refine zs_get (pc := 33) t141_33 (by decide) (zk1 (w2s.k fk_zMc_164)) (w2s.p rfl fv_zMc_164_10) ?_
          refine zs_iload_n (pc := 36) t141_36 rfl ?_
          refine zs_iconst (pc := 37) t141_37 (v := 1) (by decide) ?_
          obtain ⟨w35v, w35e, w35⟩ := zisub (a := w2x2) (b := (1 : Int32)) rfl li1 (by omega) (by omega)
          refine zs_isub (pc := 38) t141_38 (c := w35v) w35e ?_
          obtain ⟨w36n, w36⟩ : ∃ n : Nat, w35v.toInt = (n : Int) := ⟨w35v.toInt.toNat, by omega⟩
          have w37 := ib320 hI w36n
          refine zs_iald (pc := 39) t141_39 (j := w36n) (by decide) (zk1 (w2s.k fk_zMc_320)) w36 (zk2 (w2s.k fk_zMc_320) (by omega)) ((w2F 320 w36n rfl).trans ((zIo (by decide)).trans rfl)) ?_
          refine zs_invV (pc := 40) (k := 164) (as' := [.int (zI M 320 w36n)]) (st := [.int w7v]) t141_40 mf138 rfl rfl (Or.inl ⟨by decide, (zk1 (w2s.k fk_zMc_164))⟩) ⟨by decide, by decide, Nat.le_of_ble_eq_true rfl, Nat.le_of_ble_eq_true rfl⟩ (C138_164 w2s w2I ?_) (fun _ _ q => q)
          intro w38v w38a w38b
          show zGo X l 3 0 0 141 43 [(3, .int w7v), (0, .ref 164), (1, .int a), (2, .int w2x2)] [.int w38v, .int w7v] w2M _
          obtain ⟨w39v, w39⟩ : ∃ v, v = w7v - w38v := ⟨_, rfl⟩
          have w39g := zrg w39v
          refine zs_isub (pc := 43) t141_43 (c := w39v) w39.symm ?_
          refine zs_iload_n (pc := 44) t141_44 rfl ?_
          by_cases w40 : w39v.toInt ≤ a.toInt
          · refine zs_icmp_leT (pc := 45) t141_45 rfl rfl (by omega) ?_
            refine zs_aload_n (pc := 78) t141_78 rfl ?_
            refine zs_get (pc := 79) t141_79 (by decide) (zk1 (w2s.k fk_zMc_164)) (w2s.p rfl fv_zMc_164_11) ?_
            refine zs_aload_n (pc := 82) t141_82 rfl ?_
            have w41 := ib164_9 w2I
            refine zs_get (pc := 83) t141_83 (by decide) (zk1 (w2s.k fk_zMc_164)) (zfvi rfl rfl) ?_
            refine zs_iconst (pc := 86) t141_86 (v := 1) (by decide) ?_
            obtain ⟨w42v, w42e, w42⟩ := zisub (a := (zI w2M 164 9)) (b := (1 : Int32)) rfl li1 (by omega) (by omega)
            refine zs_isub (pc := 87) t141_87 (c := w42v) w42e ?_
            refine zs_dup2 (pc := 88) t141_88 ⟨rfl, rfl⟩ ?_
            obtain ⟨w43n, w43⟩ : ∃ n : Nat, w42v.toInt = (n : Int) := ⟨w42v.toInt.toNat, by omega⟩
            have w44 := ib321 w2I w43n
            refine zs_iald (pc := 89) t141_89 (j := w43n) (by decide) (zk1 (w2s.k fk_zMc_321)) w43 (zk2 (w2s.k fk_zMc_321) (by omega)) rfl ?_
            refine zs_iconst (pc := 90) t141_90 (v := 1) (by decide) ?_
            obtain ⟨w45v, w45⟩ : ∃ v, v = (zI w2M 321 w43n) + (1 : Int32) := ⟨_, rfl⟩
            have w45g := zrg w45v
            refine zs_iadd (pc := 91) t141_91 (c := w45v) w45.symm ?_
            have w46 : zIv cLo cHi (zsI w2M 321 w43n w45v) := zIv.put w2I (show (-2147483648) ≤ w45v.toInt ∧ w45v.toInt ≤ 2147483647 from (zrg w45v))
            refine zs_iast (pc := 92) t141_92 (j := w43n) (by decide) (zk1 (w2s.k fk_zMc_321)) w43 (zk2 (w2s.k fk_zMc_321) (by omega)) ?_
            refine zs_aload_n (pc := 93) t141_93 rfl ?_
            refine zs_get (pc := 94) t141_94 (by decide) (zk1 (w2s.k fk_zMc_164)) (w2s.p rfl fv_zMc_164_12) ?_
            refine zs_aload_n (pc := 97) t141_97 rfl ?_
            refine zs_get (pc := 98) t141_98 (by decide) (zk1 (w2s.k fk_zMc_164)) (zfvi rfl ((zIo (by decide)).trans rfl)) ?_
            refine zs_iconst (pc := 101) t141_101 (v := 1) (by decide) ?_
            obtain ⟨w47v, w47e, w47⟩ := zisub (a := (zI w2M 164 9)) (b := (1 : Int32)) rfl li1 (by omega) (by omega)
            refine zs_isub (pc := 102) t141_102 (c := w47v) w47e ?_
            refine zs_dup2 (pc := 103) t141_103 ⟨rfl, rfl⟩ ?_
            obtain ⟨w48n, w48⟩ : ∃ n : Nat, w47v.toInt = (n : Int) := ⟨w47v.toInt.toNat, by omega⟩
            have w49 := ib322 w2I w48n
            refine zs_iald (pc := 104) t141_104 (j := w48n) (by decide) (zk1 (w2s.k fk_zMc_322)) w48 (zk2 (w2s.k fk_zMc_322) (by omega)) ((zIo (by decide)).trans rfl) ?_
            refine zs_iload_n (pc := 105) t141_105 rfl ?_
            obtain ⟨w50v, w50⟩ : ∃ v, v = (zI w2M 322 w48n) + w7v := ⟨_, rfl⟩
            have w50g := zrg w50v
            refine zs_iadd (pc := 106) t141_106 (c := w50v) w50.symm ?_
            have w51 : zIv cLo cHi (zsI (zsI w2M 321 w43n w45v) 322 w48n w50v) := zIv.put w46 (show (-2147483648) ≤ w50v.toInt ∧ w50v.toInt ≤ 2147483647 from (zrg w50v))
            refine zs_iast (pc := 107) t141_107 (j := w48n) (by decide) (zk1 (w2s.k fk_zMc_322)) w48 (zk2 (w2s.k fk_zMc_322) (by omega)) ?_
            refine zs_aload_n (pc := 108) t141_108 rfl ?_
            refine zs_get (pc := 109) t141_109 (by decide) (zk1 (w2s.k fk_zMc_164)) (w2s.p rfl fv_zMc_164_1) ?_
            refine zs_aload_n (pc := 112) t141_112 rfl ?_
            refine zs_get (pc := 113) t141_113 (by decide) (zk1 (w2s.k fk_zMc_164)) (w2s.p rfl fv_zMc_164_10) ?_
            refine zs_iload_n (pc := 116) t141_116 rfl ?_
            refine zs_iald (pc := 117) t141_117 (j := w5n) (by decide) (zk1 (w2s.k fk_zMc_320)) w5 (zk2 (w2s.k fk_zMc_320) (by omega)) ((zIo (by decide)).trans ((zIo (by decide)).trans ((w2F 320 w5n rfl).trans ((zIo (by decide)).trans rfl)))) ?_
            refine zs_invV (pc := 118) (k := 165) (as' := [.int (zI M 320 w5n)]) (st := []) t141_118 mf126 rfl rfl (Or.inl ⟨by decide, (zk1 (w2s.k fk_zMc_165))⟩) ⟨by decide, by decide, Nat.le_of_ble_eq_true rfl, Nat.le_of_ble_eq_true rfl⟩ (zs_in (by decide) mf126 (Nat.le_of_ble_eq_true rfl) ?_) (fun _ _ q => q)
            show zGo X l 0 0 0 126 0 [(0, .ref 165), (1, .int (zI M 320 w5n))] [] (zsI (zsI w2M 321 w43n w45v) 322 w48n w50v) _
            refine zs_iload_n (pc := 0) t126_0 rfl ?_
            by_cases w52 : (zI M 320 w5n).toInt < 0
            · refine zs_if_ltT (pc := 1) t126_1 rfl (by omega) ?_
              refine zs_aconst_null (pc := 21) t126_21 ?_
              refine zs_aret0 (pc := 22) t126_22 (by rw [mr126]; rfl) ?_
              show zGo X l 3 0 0 141 121 [(3, .int w7v), (0, .ref 164), (1, .int a), (2, .int w2x2)] [.null] (zsI (zsI w2M 321 w43n w45v) 322 w48n w50v) _
              refine zs_astore0 (pc := 121) t141_121 (ls' := [(4, .null), (3, .int w7v), (0, .ref 164), (1, .int a), (2, .int w2x2)]) (zml mf141 (by decide)) rfl ?_
              refine zs_aload0 (pc := 123) t141_123 rfl ?_
              refine zs_ifnullT (pc := 125) t141_125 ?_
              obtain ⟨w53v, w53e, w53⟩ := ziadd (a := w2x2) (b := Int32.ofInt 1) rfl (show (Int32.ofInt 1).toInt = 1 by decide) (by omega) (by omega)
              refine zs_iinc (pc := 139) t141_139 (ls' := [(2, .int w53v), (4, .null), (3, .int w7v), (0, .ref 164), (1, .int a)]) (zml mf141 (by decide)) rfl (c := w53v) w53e rfl ?_
              refine zs_goto (pc := 142) t141_142 ?_
              refine zGo.locals (ls' := [(0, .ref 164), (1, .int a), (2, .int w53v)]) (by simp) ?_
              exact w2ih (w2m - 1) (by omega) w53v (zsI (zsI w2M 321 w43n w45v) 322 w48n w50v) ⟨by omega, by omega⟩ w2s w51 ((((zFr.refl).trans (w2F.mono rfl)).put rfl).put rfl) (by rw [show zI (zsI (zsI w2M 321 w43n w45v) 322 w48n w50v) 164 9 = (zI w2M 164 9) from ((zIo (by decide)).trans ((zIo (by decide)).trans rfl))]; omega) (by rw [show zI (zsI (zsI w2M 321 w43n w45v) 322 w48n w50v) 164 9 = (zI w2M 164 9) from ((zIo (by decide)).trans ((zIo (by decide)).trans rfl))]; omega) (by omega)
            · refine zs_if_ltF (pc := 1) t126_1 rfl (by omega) ?_
              refine zs_iload_n (pc := 4) t126_4 rfl ?_
              refine zs_aload_n (pc := 5) t126_5 rfl ?_
              have w54 := ib165_2 hI
              refine zs_get (pc := 6) t126_6 (by decide) (zk1 (w2s.k fk_zMc_165)) (zfvi rfl ((zIo (by decide)).trans ((zIo (by decide)).trans ((w2F 165 2 rfl).trans ((zIo (by decide)).trans rfl))))) ?_
              by_cases w55 : (zI M 165 2).toInt ≤ (zI M 320 w5n).toInt
              · refine zs_icmp_geT (pc := 9) t126_9 rfl rfl (by omega) ?_
                refine zs_aconst_null (pc := 21) t126_21 ?_
                refine zs_aret0 (pc := 22) t126_22 (by rw [mr126]; rfl) ?_
                show zGo X l 3 0 0 141 121 [(3, .int w7v), (0, .ref 164), (1, .int a), (2, .int w2x2)] [.null] (zsI (zsI w2M 321 w43n w45v) 322 w48n w50v) _
                refine zs_astore0 (pc := 121) t141_121 (ls' := [(4, .null), (3, .int w7v), (0, .ref 164), (1, .int a), (2, .int w2x2)]) (zml mf141 (by decide)) rfl ?_
                refine zs_aload0 (pc := 123) t141_123 rfl ?_
                refine zs_ifnullT (pc := 125) t141_125 ?_
                obtain ⟨w56v, w56e, w56⟩ := ziadd (a := w2x2) (b := Int32.ofInt 1) rfl (show (Int32.ofInt 1).toInt = 1 by decide) (by omega) (by omega)
                refine zs_iinc (pc := 139) t141_139 (ls' := [(2, .int w56v), (4, .null), (3, .int w7v), (0, .ref 164), (1, .int a)]) (zml mf141 (by decide)) rfl (c := w56v) w56e rfl ?_
                refine zs_goto (pc := 142) t141_142 ?_
                refine zGo.locals (ls' := [(0, .ref 164), (1, .int a), (2, .int w56v)]) (by simp) ?_
                exact w2ih (w2m - 1) (by omega) w56v (zsI (zsI w2M 321 w43n w45v) 322 w48n w50v) ⟨by omega, by omega⟩ w2s w51 ((((zFr.refl).trans (w2F.mono rfl)).put rfl).put rfl) (by rw [show zI (zsI (zsI w2M 321 w43n w45v) 322 w48n w50v) 164 9 = (zI w2M 164 9) from ((zIo (by decide)).trans ((zIo (by decide)).trans rfl))]; omega) (by rw [show zI (zsI (zsI w2M 321 w43n w45v) 322 w48n w50v) 164 9 = (zI w2M 164 9) from ((zIo (by decide)).trans ((zIo (by decide)).trans rfl))]; omega) (by omega)
              · refine zs_icmp_geF (pc := 9) t126_9 rfl rfl (by omega) ?_
                refine zs_aload_n (pc := 12) t126_12 rfl ?_
                refine zs_get (pc := 13) t126_13 (by decide) (zk1 (w2s.k fk_zMc_165)) (w2s.p rfl fv_zMc_165_1) ?_
                refine zs_iload_n (pc := 16) t126_16 rfl ?_
                obtain ⟨w57n, w57⟩ : ∃ n : Nat, (zI M 320 w5n).toInt = (n : Int) := ⟨(zI M 320 w5n).toInt.toNat, by omega⟩
                have w58 : w57n < 20 := by omega
                refine zs_aald (pc := 17) t126_17 (j := w57n) (Or.inr (zk1 (w2s.k fk_zMc_179))) w57 (zk2 (w2s.k fk_zMc_179) (by omega)) (w2s.a (fpT181 w57n w58)) ?_
                refine zs_goto (pc := 18) t126_18 ?_
                refine zs_aret (pc := 22) t126_22 (by rw [mr126]; rfl) ?_
                show zGo X l 3 0 0 141 121 [(3, .int w7v), (0, .ref 164), (1, .int a), (2, .int w2x2)] [.ref (181 + 3 * w57n)] (zsI (zsI w2M 321 w43n w45v) 322 w48n w50v) _
                refine zs_astore (pc := 121) t141_121 (ls' := [(4, .ref (181 + 3 * w57n)), (3, .int w7v), (0, .ref 164), (1, .int a), (2, .int w2x2)]) (zml mf141 (by decide)) rfl ?_
                refine zs_aload (pc := 123) t141_123 rfl ?_
                refine zs_ifnullF (pc := 125) t141_125 ?_
                refine zs_aload (pc := 128) t141_128 rfl ?_
                refine zs_aload_n (pc := 130) t141_130 rfl ?_
                refine zs_get (pc := 131) t141_131 (by decide) (zk1 (w2s.k fk_zMc_164)) (zfvi rfl ((zIo (by decide)).trans ((zIo (by decide)).trans rfl))) ?_
                refine zs_iconst (pc := 134) t141_134 (v := 1) (by decide) ?_
                obtain ⟨w59v, w59e, w59⟩ := zisub (a := (zI w2M 164 9)) (b := (1 : Int32)) rfl li1 (by omega) (by omega)
                refine zs_isub (pc := 135) t141_135 (c := w59v) w59e ?_
                have w60 : zIv cLo cHi (zsI (zsI (zsI w2M 321 w43n w45v) 322 w48n w50v) (181 + 3 * w57n) 4 w59v) := zIv.put w51 (by rw [(cT181_0_4 w57n w58).1, (cT181_0_4 w57n w58).2]; exact (zrg w59v))
                refine zs_putI (pc := 136) t141_136 (zk1 (w2s.k (fT181_0 w57n w58))) rfl ?_
                obtain ⟨w61v, w61e, w61⟩ := ziadd (a := w2x2) (b := Int32.ofInt 1) rfl (show (Int32.ofInt 1).toInt = 1 by decide) (by omega) (by omega)
                refine zs_iinc (pc := 139) t141_139 (ls' := [(2, .int w61v), (4, .ref (181 + 3 * w57n)), (3, .int w7v), (0, .ref 164), (1, .int a)]) (zml mf141 (by decide)) rfl (c := w61v) w61e rfl ?_
                refine zs_goto (pc := 142) t141_142 ?_
                refine zGo.locals (ls' := [(0, .ref 164), (1, .int a), (2, .int w61v)]) (by simp) ?_
                exact w2ih (w2m - 1) (by omega) w61v (zsI (zsI (zsI w2M 321 w43n w45v) 322 w48n w50v) (181 + 3 * w57n) 4 w59v) ⟨by omega, by omega⟩ w2s w60 (((((zFr.refl).trans (w2F.mono rfl)).put rfl).put rfl).put (zinW_r (lo := 181) (hi := 240) (by decide) (by omega) (by omega))) (by rw [show zI (zsI (zsI (zsI w2M 321 w43n w45v) 322 w48n w50v) (181 + 3 * w57n) 4 w59v) 164 9 = (zI w2M 164 9) from ((zIo (by omega)).trans ((zIo (by decide)).trans ((zIo (by decide)).trans rfl)))]; omega) (by rw [show zI (zsI (zsI (zsI w2M 321 w43n w45v) 322 w48n w50v) (181 + 3 * w57n) 4 w59v) 164 9 = (zI w2M 164 9) from ((zIo (by omega)).trans ((zIo (by decide)).trans ((zIo (by decide)).trans rfl)))]; omega) (by omega)
          · refine zs_icmp_leF (pc := 45) t141_45 rfl rfl (by omega) ?_
            refine zs_aload_n (pc := 48) t141_48 rfl ?_
            refine zs_get (pc := 49) t141_49 (by decide) (zk1 (w2s.k fk_zMc_164)) (w2s.p rfl fv_zMc_164_11) ?_
            refine zs_aload_n (pc := 52) t141_52 rfl ?_
            have w62 := ib164_9 w2I
            refine zs_get (pc := 53) t141_53 (by decide) (zk1 (w2s.k fk_zMc_164)) (zfvi rfl rfl) ?_
            refine zs_iconst (pc := 56) t141_56 (v := 0) (by decide) ?_
            obtain ⟨w63n, w63⟩ : ∃ n : Nat, (zI w2M 164 9).toInt = (n : Int) := ⟨(zI w2M 164 9).toInt.toNat, by omega⟩
            have w64 : zIv cLo cHi (zsI w2M 321 w63n (0 : Int32)) := zIv.put w2I (show (-2147483648) ≤ (0 : Int32).toInt ∧ (0 : Int32).toInt ≤ 2147483647 from (zrg (0 : Int32)))
            refine zs_iast (pc := 57) t141_57 (j := w63n) (by decide) (zk1 (w2s.k fk_zMc_321)) w63 (zk2 (w2s.k fk_zMc_321) (by omega)) ?_
            refine zs_aload_n (pc := 58) t141_58 rfl ?_
            refine zs_get (pc := 59) t141_59 (by decide) (zk1 (w2s.k fk_zMc_164)) (w2s.p rfl fv_zMc_164_12) ?_
            refine zs_aload_n (pc := 62) t141_62 rfl ?_
            refine zs_get (pc := 63) t141_63 (by decide) (zk1 (w2s.k fk_zMc_164)) (zfvi rfl ((zIo (by decide)).trans rfl)) ?_
            refine zs_iconst (pc := 66) t141_66 (v := 0) (by decide) ?_
            have w65 : zIv cLo cHi (zsI (zsI w2M 321 w63n (0 : Int32)) 322 w63n (0 : Int32)) := zIv.put w64 (show (-2147483648) ≤ (0 : Int32).toInt ∧ (0 : Int32).toInt ≤ 2147483647 from (zrg (0 : Int32)))
            refine zs_iast (pc := 67) t141_67 (j := w63n) (by decide) (zk1 (w2s.k fk_zMc_322)) w63 (zk2 (w2s.k fk_zMc_322) (by omega)) ?_
            refine zs_aload_n (pc := 68) t141_68 rfl ?_
            refine zs_dup (pc := 69) t141_69 rfl ?_
            refine zs_get (pc := 70) t141_70 (by decide) (zk1 (w2s.k fk_zMc_164)) (zfvi rfl ((zIo (by decide)).trans ((zIo (by decide)).trans rfl))) ?_
            refine zs_iconst (pc := 73) t141_73 (v := 1) (by decide) ?_
            obtain ⟨w66v, w66e, w66⟩ := ziadd (a := (zI w2M 164 9)) (b := (1 : Int32)) rfl li1 (by omega) (by omega)
            refine zs_iadd (pc := 74) t141_74 (c := w66v) w66e ?_
            have w67 : zIv cLo cHi (zsI (zsI (zsI w2M 321 w63n (0 : Int32)) 322 w63n (0 : Int32)) 164 9 w66v) := zIv.put w65 (show 0 ≤ w66v.toInt ∧ w66v.toInt ≤ 20 from ⟨by omega, by omega⟩)
            refine zs_putI (pc := 75) t141_75 (zk1 (w2s.k fk_zMc_164)) rfl ?_
            refine zs_aload_n (pc := 78) t141_78 rfl ?_
            refine zs_get (pc := 79) t141_79 (by decide) (zk1 (w2s.k fk_zMc_164)) (w2s.p rfl fv_zMc_164_11) ?_
            refine zs_aload_n (pc := 82) t141_82 rfl ?_
            refine zs_get (pc := 83) t141_83 (by decide) (zk1 (w2s.k fk_zMc_164)) (zfvi rfl zIs) ?_
            refine zs_iconst (pc := 86) t141_86 (v := 1) (by decide) ?_
            obtain ⟨w68v, w68e, w68⟩ := zisub (a := w66v) (b := (1 : Int32)) w66 li1 (by omega) (by omega)
            refine zs_isub (pc := 87) t141_87 (c := w68v) w68e ?_
            refine zs_dup2 (pc := 88) t141_88 ⟨rfl, rfl⟩ ?_
            obtain ⟨w69n, w69⟩ : ∃ n : Nat, w68v.toInt = (n : Int) := ⟨w68v.toInt.toNat, by omega⟩
            have w70 := ib321 w67 w69n
            refine zs_iald (pc := 89) t141_89 (j := w69n) (by decide) (zk1 (w2s.k fk_zMc_321)) w69 (zk2 (w2s.k fk_zMc_321) (by omega)) rfl ?_
            refine zs_iconst (pc := 90) t141_90 (v := 1) (by decide) ?_
            obtain ⟨w71v, w71⟩ : ∃ v, v = (zI (zsI (zsI (zsI w2M 321 w63n (0 : Int32)) 322 w63n (0 : Int32)) 164 9 w66v) 321 w69n) + (1 : Int32) := ⟨_, rfl⟩
            have w71g := zrg w71v
            refine zs_iadd (pc := 91) t141_91 (c := w71v) w71.symm ?_
            have w72 : zIv cLo cHi (zsI (zsI (zsI (zsI w2M 321 w63n (0 : Int32)) 322 w63n (0 : Int32)) 164 9 w66v) 321 w69n w71v) := zIv.put w67 (show (-2147483648) ≤ w71v.toInt ∧ w71v.toInt ≤ 2147483647 from (zrg w71v))
            refine zs_iast (pc := 92) t141_92 (j := w69n) (by decide) (zk1 (w2s.k fk_zMc_321)) w69 (zk2 (w2s.k fk_zMc_321) (by omega)) ?_
            refine zs_aload_n (pc := 93) t141_93 rfl ?_
            refine zs_get (pc := 94) t141_94 (by decide) (zk1 (w2s.k fk_zMc_164)) (w2s.p rfl fv_zMc_164_12) ?_
            refine zs_aload_n (pc := 97) t141_97 rfl ?_
            refine zs_get (pc := 98) t141_98 (by decide) (zk1 (w2s.k fk_zMc_164)) (zfvi rfl ((zIo (by decide)).trans zIs)) ?_
            refine zs_iconst (pc := 101) t141_101 (v := 1) (by decide) ?_
            obtain ⟨w73v, w73e, w73⟩ := zisub (a := w66v) (b := (1 : Int32)) w66 li1 (by omega) (by omega)
            refine zs_isub (pc := 102) t141_102 (c := w73v) w73e ?_
            refine zs_dup2 (pc := 103) t141_103 ⟨rfl, rfl⟩ ?_
            obtain ⟨w74n, w74⟩ : ∃ n : Nat, w73v.toInt = (n : Int) := ⟨w73v.toInt.toNat, by omega⟩
            have w75 := ib322 w72 w74n
            refine zs_iald (pc := 104) t141_104 (j := w74n) (by decide) (zk1 (w2s.k fk_zMc_322)) w74 (zk2 (w2s.k fk_zMc_322) (by omega)) rfl ?_
            refine zs_iload_n (pc := 105) t141_105 rfl ?_
            obtain ⟨w76v, w76⟩ : ∃ v, v = (zI (zsI (zsI (zsI (zsI w2M 321 w63n (0 : Int32)) 322 w63n (0 : Int32)) 164 9 w66v) 321 w69n w71v) 322 w74n) + w7v := ⟨_, rfl⟩
            have w76g := zrg w76v
            refine zs_iadd (pc := 106) t141_106 (c := w76v) w76.symm ?_
            have w77 : zIv cLo cHi (zsI (zsI (zsI (zsI (zsI w2M 321 w63n (0 : Int32)) 322 w63n (0 : Int32)) 164 9 w66v) 321 w69n w71v) 322 w74n w76v) := zIv.put w72 (show (-2147483648) ≤ w76v.toInt ∧ w76v.toInt ≤ 2147483647 from (zrg w76v))
            refine zs_iast (pc := 107) t141_107 (j := w74n) (by decide) (zk1 (w2s.k fk_zMc_322)) w74 (zk2 (w2s.k fk_zMc_322) (by omega)) ?_
            refine zs_aload_n (pc := 108) t141_108 rfl ?_
            refine zs_get (pc := 109) t141_109 (by decide) (zk1 (w2s.k fk_zMc_164)) (w2s.p rfl fv_zMc_164_1) ?_
            refine zs_aload_n (pc := 112) t141_112 rfl ?_
            refine zs_get (pc := 113) t141_113 (by decide) (zk1 (w2s.k fk_zMc_164)) (w2s.p rfl fv_zMc_164_10) ?_
            refine zs_iload_n (pc := 116) t141_116 rfl ?_
            refine zs_iald (pc := 117) t141_117 (j := w5n) (by decide) (zk1 (w2s.k fk_zMc_320)) w5 (zk2 (w2s.k fk_zMc_320) (by omega)) ((zIo (by decide)).trans ((zIo (by decide)).trans ((zIo (by decide)).trans ((zIo (by decide)).trans ((zIo (by decide)).trans ((w2F 320 w5n rfl).trans ((zIo (by decide)).trans rfl))))))) ?_
            refine zs_invV (pc := 118) (k := 165) (as' := [.int (zI M 320 w5n)]) (st := []) t141_118 mf126 rfl rfl (Or.inl ⟨by decide, (zk1 (w2s.k fk_zMc_165))⟩) ⟨by decide, by decide, Nat.le_of_ble_eq_true rfl, Nat.le_of_ble_eq_true rfl⟩ (zs_in (by decide) mf126 (Nat.le_of_ble_eq_true rfl) ?_) (fun _ _ q => q)
            show zGo X l 0 0 0 126 0 [(0, .ref 165), (1, .int (zI M 320 w5n))] [] (zsI (zsI (zsI (zsI (zsI w2M 321 w63n (0 : Int32)) 322 w63n (0 : Int32)) 164 9 w66v) 321 w69n w71v) 322 w74n w76v) _
            refine zs_iload_n (pc := 0) t126_0 rfl ?_
            by_cases w78 : (zI M 320 w5n).toInt < 0
            · refine zs_if_ltT (pc := 1) t126_1 rfl (by omega) ?_
              refine zs_aconst_null (pc := 21) t126_21 ?_
              refine zs_aret0 (pc := 22) t126_22 (by rw [mr126]; rfl) ?_
              show zGo X l 3 0 0 141 121 [(3, .int w7v), (0, .ref 164), (1, .int a), (2, .int w2x2)] [.null] (zsI (zsI (zsI (zsI (zsI w2M 321 w63n (0 : Int32)) 322 w63n (0 : Int32)) 164 9 w66v) 321 w69n w71v) 322 w74n w76v) _
              refine zs_astore0 (pc := 121) t141_121 (ls' := [(4, .null), (3, .int w7v), (0, .ref 164), (1, .int a), (2, .int w2x2)]) (zml mf141 (by decide)) rfl ?_
              refine zs_aload0 (pc := 123) t141_123 rfl ?_
              refine zs_ifnullT (pc := 125) t141_125 ?_
              obtain ⟨w79v, w79e, w79⟩ := ziadd (a := w2x2) (b := Int32.ofInt 1) rfl (show (Int32.ofInt 1).toInt = 1 by decide) (by omega) (by omega)
              refine zs_iinc (pc := 139) t141_139 (ls' := [(2, .int w79v), (4, .null), (3, .int w7v), (0, .ref 164), (1, .int a)]) (zml mf141 (by decide)) rfl (c := w79v) w79e rfl ?_
              refine zs_goto (pc := 142) t141_142 ?_
              refine zGo.locals (ls' := [(0, .ref 164), (1, .int a), (2, .int w79v)]) (by simp) ?_
              exact w2ih (w2m - 1) (by omega) w79v (zsI (zsI (zsI (zsI (zsI w2M 321 w63n (0 : Int32)) 322 w63n (0 : Int32)) 164 9 w66v) 321 w69n w71v) 322 w74n w76v) ⟨by omega, by omega⟩ w2s w77 (((((((zFr.refl).trans (w2F.mono rfl)).put rfl).put rfl).put rfl).put rfl).put rfl) (by rw [show zI (zsI (zsI (zsI (zsI (zsI w2M 321 w63n (0 : Int32)) 322 w63n (0 : Int32)) 164 9 w66v) 321 w69n w71v) 322 w74n w76v) 164 9 = w66v from ((zIo (by decide)).trans ((zIo (by decide)).trans zIs))]; omega) (by rw [show zI (zsI (zsI (zsI (zsI (zsI w2M 321 w63n (0 : Int32)) 322 w63n (0 : Int32)) 164 9 w66v) 321 w69n w71v) 322 w74n w76v) 164 9 = w66v from ((zIo (by decide)).trans ((zIo (by decide)).trans zIs))]; omega) (by omega)
            · refine zs_if_ltF (pc := 1) t126_1 rfl (by omega) ?_
              refine zs_iload_n (pc := 4) t126_4 rfl ?_
              refine zs_aload_n (pc := 5) t126_5 rfl ?_
              have w80 := ib165_2 hI
              refine zs_get (pc := 6) t126_6 (by decide) (zk1 (w2s.k fk_zMc_165)) (zfvi rfl ((zIo (by decide)).trans ((zIo (by decide)).trans ((zIo (by decide)).trans ((zIo (by decide)).trans ((zIo (by decide)).trans ((w2F 165 2 rfl).trans ((zIo (by decide)).trans rfl)))))))) ?_
              by_cases w81 : (zI M 165 2).toInt ≤ (zI M 320 w5n).toInt
              · refine zs_icmp_geT (pc := 9) t126_9 rfl rfl (by omega) ?_
                refine zs_aconst_null (pc := 21) t126_21 ?_
                refine zs_aret0 (pc := 22) t126_22 (by rw [mr126]; rfl) ?_
                show zGo X l 3 0 0 141 121 [(3, .int w7v), (0, .ref 164), (1, .int a), (2, .int w2x2)] [.null] (zsI (zsI (zsI (zsI (zsI w2M 321 w63n (0 : Int32)) 322 w63n (0 : Int32)) 164 9 w66v) 321 w69n w71v) 322 w74n w76v) _
                refine zs_astore0 (pc := 121) t141_121 (ls' := [(4, .null), (3, .int w7v), (0, .ref 164), (1, .int a), (2, .int w2x2)]) (zml mf141 (by decide)) rfl ?_
                refine zs_aload0 (pc := 123) t141_123 rfl ?_
                refine zs_ifnullT (pc := 125) t141_125 ?_
                obtain ⟨w82v, w82e, w82⟩ := ziadd (a := w2x2) (b := Int32.ofInt 1) rfl (show (Int32.ofInt 1).toInt = 1 by decide) (by omega) (by omega)
                refine zs_iinc (pc := 139) t141_139 (ls' := [(2, .int w82v), (4, .null), (3, .int w7v), (0, .ref 164), (1, .int a)]) (zml mf141 (by decide)) rfl (c := w82v) w82e rfl ?_
                refine zs_goto (pc := 142) t141_142 ?_
                refine zGo.locals (ls' := [(0, .ref 164), (1, .int a), (2, .int w82v)]) (by simp) ?_
                exact w2ih (w2m - 1) (by omega) w82v (zsI (zsI (zsI (zsI (zsI w2M 321 w63n (0 : Int32)) 322 w63n (0 : Int32)) 164 9 w66v) 321 w69n w71v) 322 w74n w76v) ⟨by omega, by omega⟩ w2s w77 (((((((zFr.refl).trans (w2F.mono rfl)).put rfl).put rfl).put rfl).put rfl).put rfl) (by rw [show zI (zsI (zsI (zsI (zsI (zsI w2M 321 w63n (0 : Int32)) 322 w63n (0 : Int32)) 164 9 w66v) 321 w69n w71v) 322 w74n w76v) 164 9 = w66v from ((zIo (by decide)).trans ((zIo (by decide)).trans zIs))]; omega) (by rw [show zI (zsI (zsI (zsI (zsI (zsI w2M 321 w63n (0 : Int32)) 322 w63n (0 : Int32)) 164 9 w66v) 321 w69n w71v) 322 w74n w76v) 164 9 = w66v from ((zIo (by decide)).trans ((zIo (by decide)).trans zIs))]; omega) (by omega)
              · refine zs_icmp_geF (pc := 9) t126_9 rfl rfl (by omega) ?_
                refine zs_aload_n (pc := 12) t126_12 rfl ?_
                refine zs_get (pc := 13) t126_13 (by decide) (zk1 (w2s.k fk_zMc_165)) (w2s.p rfl fv_zMc_165_1) ?_
                refine zs_iload_n (pc := 16) t126_16 rfl ?_
                obtain ⟨w83n, w83⟩ : ∃ n : Nat, (zI M 320 w5n).toInt = (n : Int) := ⟨(zI M 320 w5n).toInt.toNat, by omega⟩
                have w84 : w83n < 20 := by omega
                refine zs_aald (pc := 17) t126_17 (j := w83n) (Or.inr (zk1 (w2s.k fk_zMc_179))) w83 (zk2 (w2s.k fk_zMc_179) (by omega)) (w2s.a (fpT181 w83n w84)) ?_
                refine zs_goto (pc := 18) t126_18 ?_
                refine zs_aret (pc := 22) t126_22 (by rw [mr126]; rfl) ?_
                show zGo X l 3 0 0 141 121 [(3, .int w7v), (0, .ref 164), (1, .int a), (2, .int w2x2)] [.ref (181 + 3 * w83n)] (zsI (zsI (zsI (zsI (zsI w2M 321 w63n (0 : Int32)) 322 w63n (0 : Int32)) 164 9 w66v) 321 w69n w71v) 322 w74n w76v) _
                refine zs_astore (pc := 121) t141_121 (ls' := [(4, .ref (181 + 3 * w83n)), (3, .int w7v), (0, .ref 164), (1, .int a), (2, .int w2x2)]) (zml mf141 (by decide)) rfl ?_
                refine zs_aload (pc := 123) t141_123 rfl ?_
                refine zs_ifnullF (pc := 125) t141_125 ?_
                refine zs_aload (pc := 128) t141_128 rfl ?_
                refine zs_aload_n (pc := 130) t141_130 rfl ?_
                refine zs_get (pc := 131) t141_131 (by decide) (zk1 (w2s.k fk_zMc_164)) (zfvi rfl ((zIo (by decide)).trans ((zIo (by decide)).trans zIs))) ?_
                refine zs_iconst (pc := 134) t141_134 (v := 1) (by decide) ?_
                obtain ⟨w85v, w85e, w85⟩ := zisub (a := w66v) (b := (1 : Int32)) w66 li1 (by omega) (by omega)
                refine zs_isub (pc := 135) t141_135 (c := w85v) w85e ?_
                have w86 : zIv cLo cHi (zsI (zsI (zsI (zsI (zsI (zsI w2M 321 w63n (0 : Int32)) 322 w63n (0 : Int32)) 164 9 w66v) 321 w69n w71v) 322 w74n w76v) (181 + 3 * w83n) 4 w85v) := zIv.put w77 (by rw [(cT181_0_4 w83n w84).1, (cT181_0_4 w83n w84).2]; exact (zrg w85v))
                refine zs_putI (pc := 136) t141_136 (zk1 (w2s.k (fT181_0 w83n w84))) rfl ?_
                obtain ⟨w87v, w87e, w87⟩ := ziadd (a := w2x2) (b := Int32.ofInt 1) rfl (show (Int32.ofInt 1).toInt = 1 by decide) (by omega) (by omega)
                refine zs_iinc (pc := 139) t141_139 (ls' := [(2, .int w87v), (4, .ref (181 + 3 * w83n)), (3, .int w7v), (0, .ref 164), (1, .int a)]) (zml mf141 (by decide)) rfl (c := w87v) w87e rfl ?_
                refine zs_goto (pc := 142) t141_142 ?_
                refine zGo.locals (ls' := [(0, .ref 164), (1, .int a), (2, .int w87v)]) (by simp) ?_
                exact w2ih (w2m - 1) (by omega) w87v (zsI (zsI (zsI (zsI (zsI (zsI w2M 321 w63n (0 : Int32)) 322 w63n (0 : Int32)) 164 9 w66v) 321 w69n w71v) 322 w74n w76v) (181 + 3 * w83n) 4 w85v) ⟨by omega, by omega⟩ w2s w86 ((((((((zFr.refl).trans (w2F.mono rfl)).put rfl).put rfl).put rfl).put rfl).put rfl).put (zinW_r (lo := 181) (hi := 240) (by decide) (by omega) (by omega))) (by rw [show zI (zsI (zsI (zsI (zsI (zsI (zsI w2M 321 w63n (0 : Int32)) 322 w63n (0 : Int32)) 164 9 w66v) 321 w69n w71v) 322 w74n w76v) (181 + 3 * w83n) 4 w85v) 164 9 = w66v from ((zIo (by omega)).trans ((zIo (by decide)).trans ((zIo (by decide)).trans zIs)))]; omega) (by rw [show zI (zsI (zsI (zsI (zsI (zsI (zsI w2M 321 w63n (0 : Int32)) 322 w63n (0 : Int32)) 164 9 w66v) 321 w69n w71v) 322 w74n w76v) (181 + 3 * w83n) 4 w85v) 164 9 = w66v from ((zIo (by omega)).trans ((zIo (by decide)).trans ((zIo (by decide)).trans zIs)))]; omega) (by omega)
  refine zGo.locals (ls' := [(0, .ref 164), (1, .int a), (2, .int (0 : Int32))]) (by simp) ?_
  have w88 := li0
  have w89 := li0
  have w90 := li0
  exact w2L ((20 - 0 : Int).toNat) (0 : Int32) (zsI M 164 9 (0 : Int32)) ⟨by decide, by decide⟩ hs w1 zFr.refl (by rw [show zI (zsI M 164 9 (0 : Int32)) 164 9 = (0 : Int32) from zIs]; omega) (by rw [show zI (zsI M 164 9 (0 : Int32)) 164 9 = (0 : Int32) from zIs]; omega) (by omega)
theorem C105_164_7 {X : zX} {l : Launch} {M : zM} {Q : Option Value → zM → Prop} (hs : zSk zMc M) (hI : zIv cLo cHi M) (hQ : ∀ M', zSk zMc M' → zIv cLo cHi M' → zFr [(164, 165, none), (166, 178, none), (180, 180, none), (181, 240, none), (317, 324, none)] M M' → Q (some (.ref 164)) M') : zCall X l 5 0 0 105 [.ref 164, .ref 7] M Q := by
  refine zs_in (by decide) mf105 (Nat.le_of_ble_eq_true rfl) ?_
  show zGo X l 5 0 0 105 0 [(0, .ref 164), (1, .ref 7)] [] M _
  refine zs_aload_n (pc := 0) t105_0 rfl ?_
  have w1 := ib164_0 hI
  refine zs_get (pc := 1) t105_1 (by decide) (zk1 (hs.k fk_zMc_164)) (zfvi rfl rfl) ?_
  by_cases w2 : (zI M 164 0).toInt = 0
  · refine zs_if_eqT (pc := 4) t105_4 rfl (by omega) ?_
    refine zs_aload_n (pc := 9) t105_9 rfl ?_
    refine zs_iconst (pc := 10) t105_10 (v := 1) (by decide) ?_
    have w3 : zIv cLo cHi (zsI M 164 0 (1 : Int32)) := zIv.put hI (show 0 ≤ (1 : Int32).toInt ∧ (1 : Int32).toInt ≤ 1 from ⟨by decide, by decide⟩)
    refine zs_putI (pc := 11) t105_11 (zk1 (hs.k fk_zMc_164)) (by decide) ?_
    refine zs_aload_n (pc := 14) t105_14 rfl ?_
    refine zs_aload_n (pc := 15) t105_15 rfl ?_
    refine zs_iconst (pc := 16) t105_16 (v := 3) (by decide) ?_
    refine zs_invV (pc := 17) (k := 7) (as' := [.int (3 : Int32)]) (st := [.ref 164]) t105_17 mf96 rfl rfl (Or.inl ⟨by decide, (zk1 (hs.k fk_zMc_7))⟩) ⟨by decide, by decide, Nat.le_of_ble_eq_true rfl, Nat.le_of_ble_eq_true rfl⟩ (zs_in (by decide) mf96 (Nat.le_of_ble_eq_true rfl) ?_) (fun _ _ q => q)
    show zGo X l 0 0 0 96 0 [(0, .ref 7), (1, .int (3 : Int32))] [] (zsI M 164 0 (1 : Int32)) _
    refine zs_iload_n (pc := 0) t96_0 rfl ?_
    refine zs_if_ltF (pc := 1) t96_1 li3 (by decide) ?_
    refine zs_iload_n (pc := 4) t96_4 rfl ?_
    refine zs_bipush (pc := 5) t96_5 (v := 9) (by decide) ?_
    refine zs_icmp_geF (pc := 7) t96_7 li3 li9 (by decide) ?_
    refine zs_aload_n (pc := 10) t96_10 rfl ?_
    refine zs_get (pc := 11) t96_11 (by decide) (zk1 (hs.k fk_zMc_7)) (hs.p rfl fv_zMc_7_12) ?_
    refine zs_iload_n (pc := 14) t96_14 rfl ?_
    have w4 := ib17 hI 3
    refine zs_iald (pc := 15) t96_15 (j := 3) (by decide) (zk1 (hs.k fk_zMc_17)) li3 (zk2 (hs.k fk_zMc_17) (by decide)) ((zIo (by decide)).trans rfl) ?_
    refine zs_goto (pc := 16) t96_16 ?_
    refine zs_iret (pc := 20) t96_20 mr96 rfl ?_
    show zGo X l 5 0 0 105 20 [(0, .ref 164), (1, .ref 7)] [.int (zI M 17 3), .ref 164] (zsI M 164 0 (1 : Int32)) _
    have w5 : zIv cLo cHi (zsI (zsI M 164 0 (1 : Int32)) 164 3 (zI M 17 3)) := zIv.put w3 (show (-2147483648) ≤ (zI M 17 3).toInt ∧ (zI M 17 3).toInt ≤ 2147483647 from (zrg (zI M 17 3)))
    refine zs_putI (pc := 20) t105_20 (zk1 (hs.k fk_zMc_164)) rfl ?_
    refine zs_aload_n (pc := 23) t105_23 rfl ?_
    refine zs_aload_n (pc := 24) t105_24 rfl ?_
    have w6 := ib7_8 hI
    refine zs_get (pc := 25) t105_25 (by decide) (zk1 (hs.k fk_zMc_7)) (zfvi rfl ((zIo (by decide)).trans ((zIo (by decide)).trans rfl))) ?_
    have w7 : zIv cLo cHi (zsI (zsI (zsI M 164 0 (1 : Int32)) 164 3 (zI M 17 3)) 164 5 (zI M 7 8)) := zIv.put w5 (show 0 ≤ (zI M 7 8).toInt ∧ (zI M 7 8).toInt ≤ 12 from ⟨by omega, by omega⟩)
    refine zs_putI (pc := 28) t105_28 (zk1 (hs.k fk_zMc_164)) rfl ?_
    refine zs_aload_n (pc := 31) t105_31 rfl ?_
    refine zs_get (pc := 32) t105_32 (by decide) (zk1 (hs.k fk_zMc_164)) (hs.p rfl fv_zMc_164_1) ?_
    refine zs_aload_n (pc := 35) t105_35 rfl ?_
    refine zs_iconst (pc := 36) t105_36 (v := -1) (by decide) ?_
    refine zs_iconst (pc := 37) t105_37 (v := 2) (by decide) ?_
    refine zs_invV (pc := 38) (k := 165) (as' := [.ref 7, .int (-1 : Int32), .int (2 : Int32)]) (st := []) t105_38 mf106 rfl rfl (Or.inl ⟨by decide, (zk1 (hs.k fk_zMc_165))⟩) ⟨by decide, by decide, Nat.le_of_ble_eq_true rfl, Nat.le_of_ble_eq_true rfl⟩ (C106_165_7 hs w7 ?_) (fun _ _ q => q)
    intro w8M w8s w8I w8F
    show zGo X l 5 0 0 105 41 [(0, .ref 164), (1, .ref 7)] [] w8M _
    refine zs_aload_n (pc := 41) t105_41 rfl ?_
    refine zs_aload_n (pc := 42) t105_42 rfl ?_
    refine zs_aload_n (pc := 43) t105_43 rfl ?_
    refine zs_get (pc := 44) t105_44 (by decide) (zk1 (w8s.k fk_zMc_164)) (zfvi rfl ((w8F 164 3 rfl).trans ((zIoj (by decide)).trans zIs))) ?_
    refine zs_invV (pc := 47) (k := 164) (as' := [.int (zI M 17 3)]) (st := [.ref 164]) t105_47 mf124 rfl rfl (Or.inl ⟨by decide, (zk1 (w8s.k fk_zMc_164))⟩) ⟨by decide, by decide, Nat.le_of_ble_eq_true rfl, Nat.le_of_ble_eq_true rfl⟩ (C124_164 w8s w8I ?_) (fun _ _ q => q)
    intro w9v w9a w9b
    show zGo X l 5 0 0 105 50 [(0, .ref 164), (1, .ref 7)] [.int w9v, .ref 164] w8M _
    have w10 : zIv cLo cHi (zsI w8M 164 4 w9v) := zIv.put w8I (show 0 ≤ w9v.toInt ∧ w9v.toInt ≤ 20 from ⟨by omega, by omega⟩)
    refine zs_putI (pc := 50) t105_50 (zk1 (w8s.k fk_zMc_164)) rfl ?_
    refine zs_iconst (pc := 53) t105_53 (v := 0) (by decide) ?_
    refine zs_istore_n (pc := 54) t105_54 (ls' := [(2, .int (0 : Int32)), (0, .ref 164), (1, .ref 7)]) (zml mf105 (by decide)) rfl ?_
    have w11L : ∀ (m : Nat) (w11x2 : Int32) (w11M : zM), (0 ≤ w11x2.toInt ∧ w11x2.toInt ≤ 8) → zSk zMc w11M → zIv cLo cHi w11M → zFr [(164, 165, none), (166, 178, none), (180, 180, none), (181, 240, none), (317, 324, none)] (zsI w8M 164 4 w9v) w11M → 8 - w11x2.toInt ≤ (m : Int) → zGo X l 5 0 0 105 55 [(0, .ref 164), (1, .ref 7), (2, .int w11x2)] [] w11M Q := by
      intro m
      induction m using Nat.strongRecOn with
      | ind w11m w11ih =>
        intro w11x2 w11M w11b2 w11s w11I w11F w11q
        refine zs_iload_n (pc := 55) t105_55 rfl ?_
        refine zs_bipush (pc := 56) t105_56 (v := 8) (by decide) ?_
        by_cases w12 : 8 ≤ w11x2.toInt
        · refine zs_icmp_geT (pc := 58) t105_58 rfl li8 (by omega) ?_
          refine zs_aload_n (pc := 74) t105_74 rfl ?_
          refine zs_aload_n (pc := 75) t105_75 rfl ?_
          refine zs_invV (pc := 76) (k := 164) (as' := [.ref 7]) (st := []) t105_76 mf127 rfl rfl (Or.inl ⟨by decide, (zk1 (w11s.k fk_zMc_164))⟩) ⟨by decide, by decide, Nat.le_of_ble_eq_true rfl, Nat.le_of_ble_eq_true rfl⟩ (C127_164_7 w11s w11I ?_) (fun _ _ q => q)
          intro w13M w13s w13I w13F
          show zGo X l 5 0 0 105 79 [(0, .ref 164), (1, .ref 7), (2, .int w11x2)] [] w13M _
          refine zs_aload_n (pc := 79) t105_79 rfl ?_
          refine zs_aload_n (pc := 80) t105_80 rfl ?_
          refine zs_invV (pc := 81) (k := 164) (as' := [.ref 7]) (st := []) t105_81 mf131 rfl rfl (Or.inl ⟨by decide, (zk1 (w13s.k fk_zMc_164))⟩) ⟨by decide, by decide, Nat.le_of_ble_eq_true rfl, Nat.le_of_ble_eq_true rfl⟩ (C131_164_7 w13s w13I ?_) (fun _ _ q => q)
          intro w14M w14s w14I w14F
          show zGo X l 5 0 0 105 84 [(0, .ref 164), (1, .ref 7), (2, .int w11x2)] [] w14M _
          refine zs_aload_n (pc := 84) t105_84 rfl ?_
          refine zs_invV (pc := 85) (k := 164) (as' := []) (st := []) t105_85 mf137 rfl rfl (Or.inl ⟨by decide, (zk1 (w14s.k fk_zMc_164))⟩) ⟨by decide, by decide, Nat.le_of_ble_eq_true rfl, Nat.le_of_ble_eq_true rfl⟩ (C137_164 w14s w14I ?_) (fun _ _ q => q)
          intro w15M w15s w15I w15F
          show zGo X l 5 0 0 105 88 [(0, .ref 164), (1, .ref 7), (2, .int w11x2)] [] w15M _
          refine zs_aload_n (pc := 88) t105_88 rfl ?_
          refine zs_aload_n (pc := 89) t105_89 rfl ?_
          refine zs_iconst (pc := 90) t105_90 (v := 4) (by decide) ?_
          refine zs_invV (pc := 91) (k := 7) (as' := [.int (4 : Int32)]) (st := [.ref 164]) t105_91 mf96 rfl rfl (Or.inl ⟨by decide, (zk1 (w15s.k fk_zMc_7))⟩) ⟨by decide, by decide, Nat.le_of_ble_eq_true rfl, Nat.le_of_ble_eq_true rfl⟩ (zs_in (by decide) mf96 (Nat.le_of_ble_eq_true rfl) ?_) (fun _ _ q => q)
          show zGo X l 0 0 0 96 0 [(0, .ref 7), (1, .int (4 : Int32))] [] w15M _
          refine zs_iload_n (pc := 0) t96_0 rfl ?_
          refine zs_if_ltF (pc := 1) t96_1 li4 (by decide) ?_
          refine zs_iload_n (pc := 4) t96_4 rfl ?_
          refine zs_bipush (pc := 5) t96_5 (v := 9) (by decide) ?_
          refine zs_icmp_geF (pc := 7) t96_7 li4 li9 (by decide) ?_
          refine zs_aload_n (pc := 10) t96_10 rfl ?_
          refine zs_get (pc := 11) t96_11 (by decide) (zk1 (w15s.k fk_zMc_7)) (w15s.p rfl fv_zMc_7_12) ?_
          refine zs_iload_n (pc := 14) t96_14 rfl ?_
          have w16 := ib17 hI 4
          refine zs_iald (pc := 15) t96_15 (j := 4) (by decide) (zk1 (w15s.k fk_zMc_17)) li4 (zk2 (w15s.k fk_zMc_17) (by decide)) ((w15F 17 4 rfl).trans ((w14F 17 4 rfl).trans ((w13F 17 4 rfl).trans ((w11F 17 4 rfl).trans ((zIo (by decide)).trans ((w8F 17 4 rfl).trans ((zIo (by decide)).trans ((zIo (by decide)).trans ((zIo (by decide)).trans rfl))))))))) ?_
          refine zs_goto (pc := 16) t96_16 ?_
          refine zs_iret (pc := 20) t96_20 mr96 rfl ?_
          show zGo X l 5 0 0 105 94 [(0, .ref 164), (1, .ref 7), (2, .int w11x2)] [.int (zI M 17 4), .ref 164] w15M _
          refine zs_invV (pc := 94) (k := 164) (as' := [.int (zI M 17 4)]) (st := []) t105_94 mf141 rfl rfl (Or.inl ⟨by decide, (zk1 (w15s.k fk_zMc_164))⟩) ⟨by decide, by decide, Nat.le_of_ble_eq_true rfl, Nat.le_of_ble_eq_true rfl⟩ (C141_164 w15s w15I ?_) (fun _ _ q => q)
          intro w17M w17s w17I w17F
          show zGo X l 5 0 0 105 97 [(0, .ref 164), (1, .ref 7), (2, .int w11x2)] [] w17M _
          refine zs_aload_n (pc := 97) t105_97 rfl ?_
          exact zs_aret (pc := 98) t105_98 (by rw [mr105]; rfl) (hQ _ w17s w17I (((((((((((zFr.refl).put rfl).put rfl).put rfl).trans (w8F.mono rfl)).put rfl).trans (w11F.mono rfl)).trans (w13F.mono rfl)).trans (w14F.mono rfl)).trans (w15F.mono rfl)).trans (w17F.mono rfl)))
        · refine zs_icmp_geF (pc := 58) t105_58 rfl li8 (by omega) ?_
          refine zs_aload_n (pc := 61) t105_61 rfl ?_
          refine zs_get (pc := 62) t105_62 (by decide) (zk1 (w11s.k fk_zMc_164)) (w11s.p rfl fv_zMc_164_13) ?_
          refine zs_iload_n (pc := 65) t105_65 rfl ?_
          refine zs_iconst (pc := 66) t105_66 (v := 0) (by decide) ?_
          obtain ⟨w18n, w18⟩ : ∃ n : Nat, w11x2.toInt = (n : Int) := ⟨w11x2.toInt.toNat, by omega⟩
          have w19e : vp_nar .boolean (0 : Int32) = (0 : Int32) := by decide
          have w20 : zIv cLo cHi (zsI w11M 323 w18n (0 : Int32)) := zIv.put w11I (show 0 ≤ (0 : Int32).toInt ∧ (0 : Int32).toInt ≤ 1 from ⟨by decide, by decide⟩)
          refine zs_bastZ (pc := 67) t105_67 (j := w18n) (by decide) (zk1 (w11s.k fk_zMc_323)) w18 (zk2 (w11s.k fk_zMc_323) (by omega)) w19e ?_
          obtain ⟨w21v, w21e, w21⟩ := ziadd (a := w11x2) (b := Int32.ofInt 1) rfl (show (Int32.ofInt 1).toInt = 1 by decide) (by omega) (by omega)
          refine zs_iinc (pc := 68) t105_68 (ls' := [(2, .int w21v), (0, .ref 164), (1, .ref 7)]) (zml mf105 (by decide)) rfl (c := w21v) w21e rfl ?_
          refine zs_goto (pc := 71) t105_71 ?_
          refine zGo.locals (ls' := [(0, .ref 164), (1, .ref 7), (2, .int w21v)]) (by simp) ?_
          exact w11ih (w11m - 1) (by omega) w21v (zsI w11M 323 w18n (0 : Int32)) ⟨by omega, by omega⟩ w11s w20 (((zFr.refl).trans (w11F.mono rfl)).put rfl) (by omega)
    refine zGo.locals (ls' := [(0, .ref 164), (1, .ref 7), (2, .int (0 : Int32))]) (by simp) ?_
    have w22 := li0
    exact w11L ((8 - 0 : Int).toNat) (0 : Int32) (zsI w8M 164 4 w9v) ⟨by decide, by decide⟩ w8s w10 zFr.refl (by omega)
  · refine zs_if_eqF (pc := 4) t105_4 rfl (by omega) ?_
    refine zs_aload_n (pc := 7) t105_7 rfl ?_
    exact zs_aret (pc := 8) t105_8 (by rw [mr105]; rfl) (hQ _ hs hI (zFr.refl))
