set_option maxHeartbeats 8000000 in
theorem V108_242 {X : zX} {l : Launch} {M : zM} {Q : Option Value → zM → Prop} {a b : Int32} (hs : zSk zMc M) (hI : zIv cLo cHi M) {F : Nat → Int} (ha : 0 ≤ a.toInt ∧ a.toInt ≤ 3) (hb : 0 ≤ b.toInt ∧ b.toInt ≤ 20) (x0 : zWF F) (x1 : a.toInt = F 5 ∧ b.toInt = F 6) (hQ : ∀ M', zSk zMc M' → zIv cLo cHi M' → zFr [(242, 242, some 0), (243, 244, none)] M M' → (∃ n : Nat, zSl M' 242 243 244 F n) → Q none M') : zCall X l 0 0 0 108 [.ref 242, .int a, .int b] M Q := by
  have ga := zrg a
  have gb := zrg b
  refine zs_in (by decide) mf108 (Nat.le_of_ble_eq_true rfl) ?_
  show zGo X l 0 0 0 108 0 [(0, .ref 242), (1, .int a), (2, .int b)] [] M _
  have f1 := x0.1
  have f3 := x0.2.2.2
  obtain ⟨xa, xb⟩ := x1
  refine zs_aload_n (pc := 0) t108_0 rfl ?_
  refine zs_iconst (pc := 1) t108_1 (v := 0) (by decide) ?_
  have w1 : zIv cLo cHi (zsI M 242 0 (0 : Int32)) := zIv.put hI (show 0 ≤ (0 : Int32).toInt ∧ (0 : Int32).toInt ≤ 287 from ⟨by decide, by decide⟩)
  refine zs_putI (pc := 2) t108_2 (zk1 (hs.k fk_zMc_242)) rfl ?_
  refine zs_iconst (pc := 5) t108_5 (v := 0) (by decide) ?_
  refine zs_istore_n (pc := 6) t108_6 (ls' := [(3, .int (0 : Int32)), (0, .ref 242), (1, .int a), (2, .int b)]) (zml mf108 (by decide)) rfl ?_
  have w2L : ∀ (m : Nat) (w2x3 : Int32) (w2M : zM), (0 ≤ w2x3.toInt ∧ w2x3.toInt ≤ 4) → zSk zMc w2M → zIv cLo cHi w2M → zFr [(242, 242, some 0), (243, 244, none)] (zsI M 242 0 (0 : Int32)) w2M → (0 ≤ (zI w2M 242 0).toInt) → (w2x3.toInt ≤ F 5 + 1) → (∀ n : Nat, (zI w2M 242 0).toInt = (n : Int) → zLs w2M 243 244 F n w2x3.toInt 0 0) → (zQ7 w2x3.toInt (zI w2M 242 0).toInt) → 4 - w2x3.toInt ≤ (m : Int) → zGo X l 0 0 0 108 7 [(0, .ref 242), (1, .int a), (2, .int b), (3, .int w2x3)] [] w2M Q := by
    intro m
    induction m using Nat.strongRecOn with
    | ind w2m w2ih =>
      intro w2x3 w2M w2b3 w2s w2I w2F w2r0 w2r1 w2t0 w2t1 w2q
      have w3 := ib242_0 w2I
      refine zs_iload_n (pc := 7) t108_7 rfl ?_
      refine zs_iload_n (pc := 8) t108_8 rfl ?_
      by_cases w4 : a.toInt < w2x3.toInt
      · refine zs_icmp_gtT (pc := 9) t108_9 rfl rfl (by omega) ?_
        obtain ⟨w5n, w5⟩ : ∃ n : Nat, (zI w2M 242 0).toInt = (n : Int) := ⟨((zI w2M 242 0).toInt).toNat, by omega⟩
        exact zs_vret (pc := 175) t108_175 mr108 (hQ _ w2s w2I (((zFr.refl).put rfl).trans (w2F.mono rfl)) ⟨w5n, (w2t0 w5n (by omega)).sl (by omega) (by omega) (by omega)⟩)
      · refine zs_icmp_gtF (pc := 9) t108_9 rfl rfl (by omega) ?_
        refine zs_iload_n (pc := 12) t108_12 rfl ?_
        refine zs_iconst (pc := 13) t108_13 (v := 3) (by decide) ?_
        refine zs_icmp_gtF (pc := 14) t108_14 rfl li3 (by omega) ?_
        refine zs_iconst (pc := 17) t108_17 (v := 0) (by decide) ?_
        refine zs_istore (pc := 18) t108_18 (ls' := [(4, .int (0 : Int32)), (0, .ref 242), (1, .int a), (2, .int b), (3, .int w2x3)]) (zml mf108 (by decide)) rfl ?_
        have w6L : ∀ (m : Nat) (w6x4 : Int32) (w6M : zM), (0 ≤ w6x4.toInt ∧ w6x4.toInt ≤ 21) → zSk zMc w6M → zIv cLo cHi w6M → zFr [(242, 242, some 0), (243, 244, none)] w2M w6M → (0 ≤ (zI w6M 242 0).toInt) → (w6x4.toInt ≤ F 6 + 1) → (∀ n : Nat, (zI w6M 242 0).toInt = (n : Int) → zLs w6M 243 244 F n w2x3.toInt w6x4.toInt 0) → (zQ20 w2x3.toInt w6x4.toInt (zI w6M 242 0).toInt) → 21 - w6x4.toInt ≤ (m : Int) → zGo X l 0 0 0 108 20 [(0, .ref 242), (1, .int a), (2, .int b), (3, .int w2x3), (4, .int w6x4)] [] w6M Q := by
          intro m
          induction m using Nat.strongRecOn with
          | ind w6m w6ih =>
            intro w6x4 w6M w6b4 w6s w6I w6F w6r0 w6r1 w6t0 w6t1 w6q
            have w7 := ib242_0 w6I
            refine zs_iload (pc := 20) t108_20 rfl ?_
            refine zs_iload_n (pc := 22) t108_22 rfl ?_
            by_cases w8 : b.toInt < w6x4.toInt
            · refine zs_icmp_gtT (pc := 23) t108_23 rfl rfl (by omega) ?_
              obtain ⟨w9v, w9e, w9⟩ := ziadd (a := w2x3) (b := Int32.ofInt 1) rfl (show (Int32.ofInt 1).toInt = 1 by decide) (by omega) (by omega)
              refine zs_iinc (pc := 169) t108_169 (ls' := [(3, .int w9v), (0, .ref 242), (1, .int a), (2, .int b), (4, .int w6x4)]) (zml mf108 (by decide)) rfl (c := w9v) w9e rfl ?_
              refine zs_goto (pc := 172) t108_172 ?_
              refine zGo.locals (ls' := [(0, .ref 242), (1, .int a), (2, .int b), (3, .int w9v)]) (by simp) ?_
              have w10 := w9
              have w11 : (zI w6M 242 0).toInt = (zI w6M 242 0).toInt := (congrArg Int32.toInt rfl).trans rfl
              exact w2ih (w2m - 1) (by omega) w9v w6M ⟨by omega, by omega⟩ w6s w6I (((zFr.refl).trans (w2F.mono rfl)).trans (w6F.mono rfl)) (by omega) (by omega) (fun n hn => (w6t0 n hn).row (by omega) (by omega)) (w6t1.b7 (by omega) (by omega) (by omega)) (by omega)
            · refine zs_icmp_gtF (pc := 23) t108_23 rfl rfl (by omega) ?_
              refine zs_iload (pc := 26) t108_26 rfl ?_
              refine zs_bipush (pc := 28) t108_28 (v := 20) (by decide) ?_
              refine zs_icmp_gtF (pc := 30) t108_30 rfl li20 (by omega) ?_
              refine zs_iconst (pc := 33) t108_33 (v := 0) (by decide) ?_
              refine zs_istore (pc := 34) t108_34 (ls' := [(5, .int (0 : Int32)), (0, .ref 242), (1, .int a), (2, .int b), (3, .int w2x3), (4, .int w6x4)]) (zml mf108 (by decide)) rfl ?_
              have w12L : ∀ (m : Nat) (w12x5 : Int32) (w12M : zM), (0 ≤ w12x5.toInt ∧ w12x5.toInt ≤ 4) → zSk zMc w12M → zIv cLo cHi w12M → zFr [(242, 242, some 0), (243, 244, none)] w6M w12M → (0 ≤ (zI w12M 242 0).toInt) → (∀ n : Nat, (zI w12M 242 0).toInt = (n : Int) → zLs w12M 243 244 F n w2x3.toInt w6x4.toInt w12x5.toInt) → (zQ36 w2x3.toInt w6x4.toInt w12x5.toInt (zI w12M 242 0).toInt) → 4 - w12x5.toInt ≤ (m : Int) → zGo X l 0 0 0 108 36 [(0, .ref 242), (1, .int a), (2, .int b), (3, .int w2x3), (4, .int w6x4), (5, .int w12x5)] [] w12M Q := by
                intro m
                induction m using Nat.strongRecOn with
                | ind w12m w12ih =>
                  intro w12x5 w12M w12b5 w12s w12I w12F w12r0 w12t0 w12t1 w12q
                  have w13 := w12t1.le (by omega) (by omega) (by omega)
                  have w14 := ib242_0 w12I
                  refine zs_iload (pc := 36) t108_36 rfl ?_
                  refine zs_iconst (pc := 38) t108_38 (v := 4) (by decide) ?_
                  by_cases w15 : 4 ≤ w12x5.toInt
                  · refine zs_icmp_geT (pc := 39) t108_39 rfl li4 (by omega) ?_
                    obtain ⟨w16v, w16e, w16⟩ := ziadd (a := w6x4) (b := Int32.ofInt 1) rfl (show (Int32.ofInt 1).toInt = 1 by decide) (by omega) (by omega)
                    refine zs_iinc (pc := 163) t108_163 (ls' := [(4, .int w16v), (0, .ref 242), (1, .int a), (2, .int b), (3, .int w2x3), (5, .int w12x5)]) (zml mf108 (by decide)) rfl (c := w16v) w16e rfl ?_
                    refine zs_goto (pc := 166) t108_166 ?_
                    refine zGo.locals (ls' := [(0, .ref 242), (1, .int a), (2, .int b), (3, .int w2x3), (4, .int w16v)]) (by simp) ?_
                    have w17 := w16
                    have w18 : (zI w12M 242 0).toInt = (zI w12M 242 0).toInt := (congrArg Int32.toInt rfl).trans rfl
                    exact w6ih (w6m - 1) (by omega) w16v w12M ⟨by omega, by omega⟩ w12s w12I (((zFr.refl).trans (w6F.mono rfl)).trans (w12F.mono rfl)) (by omega) (by omega) (fun n hn => (w12t0 n hn).side (by omega) (by omega)) (w12t1.b20 (by omega) (by omega)) (by omega)
                  · refine zs_icmp_geF (pc := 39) t108_39 rfl li4 (by omega) ?_
                    refine zs_iload (pc := 42) t108_42 rfl ?_
                    refine zs_iconst (pc := 44) t108_44 (v := 2) (by decide) ?_
                    by_cases w19 : w12x5.toInt < 2
                    · refine zs_icmp_ltT (pc := 45) t108_45 rfl li2 (by omega) ?_
                      refine zs_iconst (pc := 56) t108_56 (v := 0) (by decide) ?_
                      refine zs_istore (pc := 57) t108_57 (ls' := [(6, .int (0 : Int32)), (0, .ref 242), (1, .int a), (2, .int b), (3, .int w2x3), (4, .int w6x4), (5, .int w12x5)]) (zml mf108 (by decide)) rfl ?_
                      refine zs_iload (pc := 59) t108_59 rfl ?_
                      refine zs_iconst (pc := 61) t108_61 (v := 2) (by decide) ?_
                      obtain ⟨w20v, w20⟩ : ∃ v, w12x5 - w12x5 / (2 : Int32) * (2 : Int32) = v := ⟨_, rfl⟩
                      have w20g : 0 ≤ w20v.toInt ∧ w20v.toInt ≤ 1 := by rw [← w20]; exact zrem rfl li2 (by omega) (by decide)
                      have w20r : w20v.toInt = w12x5.toInt % 2 := by rw [← w20]; exact zremE rfl li2 (by omega) (by decide)
                      refine zs_irem (pc := 62) t108_62 (by decide) (c := w20v) w20 ?_
                      refine zs_iconst (pc := 63) t108_63 (v := 1) (by decide) ?_
                      by_cases w21 : w20v.toInt ≠ 1
                      · refine zs_icmp_neT (pc := 64) t108_64 rfl li1 (by omega) ?_
                        refine zs_iconst (pc := 76) t108_76 (v := 0) (by decide) ?_
                        refine zs_istore (pc := 77) t108_77 (ls' := [(7, .int (0 : Int32)), (6, .int (0 : Int32)), (0, .ref 242), (1, .int a), (2, .int b), (3, .int w2x3), (4, .int w6x4), (5, .int w12x5)]) (zml mf108 (by decide)) rfl ?_
                        refine zs_iload (pc := 79) t108_79 rfl ?_
                        refine zs_if_neF (pc := 81) t108_81 li0 (by decide) ?_
                        refine zs_iload (pc := 84) t108_84 rfl ?_
                        refine zs_if_neF (pc := 86) t108_86 li0 (by decide) ?_
                        refine zs_aload_n (pc := 89) t108_89 rfl ?_
                        refine zs_get (pc := 90) t108_90 (by decide) (zk1 (w12s.k fk_zMc_242)) (zfvi rfl rfl) ?_
                        refine zs_sipush (pc := 93) t108_93 (v := 287) (by decide) ?_
                        by_cases w22 : (zI w12M 242 0).toInt < 287
                        · refine zs_icmp_ltT (pc := 96) t108_96 rfl li287 (by omega) ?_
                          refine zs_aload_n (pc := 102) t108_102 rfl ?_
                          refine zs_get (pc := 103) t108_103 (by decide) (zk1 (w12s.k fk_zMc_242)) (w12s.p rfl fv_zMc_242_1) ?_
                          refine zs_aload_n (pc := 106) t108_106 rfl ?_
                          refine zs_get (pc := 107) t108_107 (by decide) (zk1 (w12s.k fk_zMc_242)) (zfvi rfl rfl) ?_
                          refine zs_iload (pc := 110) t108_110 rfl ?_
                          refine zs_iconst (pc := 112) t108_112 (v := 2) (by decide) ?_
                          refine zs_icmp_geF (pc := 113) t108_113 rfl li2 (by omega) ?_
                          refine zs_iload_n (pc := 116) t108_116 rfl ?_
                          obtain ⟨w23v, w23e⟩ : ∃ v, -w2x3 = v := ⟨_, rfl⟩
                          have w23 : w23v.toInt = -w2x3.toInt := by rw [← w23e]; exact zneg rfl (by omega)
                          refine zs_ineg (pc := 117) t108_117 (c := w23v) w23e ?_
                          refine zs_goto (pc := 118) t108_118 ?_
                          obtain ⟨w24n, w24⟩ : ∃ n : Nat, (zI w12M 242 0).toInt = (n : Int) := ⟨((zI w12M 242 0).toInt).toNat, by omega⟩
                          have w25 : zIv cLo cHi (zsI w12M 243 w24n w23v) := zIv.put w12I (show (-3) ≤ w23v.toInt ∧ w23v.toInt ≤ 3 from ⟨by omega, by omega⟩)
                          refine zs_iast (pc := 122) t108_122 (j := w24n) (by decide) (zk1 (w12s.k fk_zMc_243)) (show (zI w12M 242 0).toInt = ((w24n : Nat) : Int) by omega) (zk2 (w12s.k fk_zMc_243) (by omega)) ?_
                          refine zs_aload_n (pc := 123) t108_123 rfl ?_
                          refine zs_get (pc := 124) t108_124 (by decide) (zk1 (w12s.k fk_zMc_242)) (w12s.p rfl fv_zMc_242_2) ?_
                          refine zs_aload_n (pc := 127) t108_127 rfl ?_
                          refine zs_get (pc := 128) t108_128 (by decide) (zk1 (w12s.k fk_zMc_242)) (zfvi rfl ((zIo (by decide)).trans rfl)) ?_
                          refine zs_iload (pc := 131) t108_131 rfl ?_
                          refine zs_iconst (pc := 133) t108_133 (v := 2) (by decide) ?_
                          obtain ⟨w26v, w26⟩ : ∃ v, w12x5 - w12x5 / (2 : Int32) * (2 : Int32) = v := ⟨_, rfl⟩
                          have w26g : 0 ≤ w26v.toInt ∧ w26v.toInt ≤ 1 := by rw [← w26]; exact zrem rfl li2 (by omega) (by decide)
                          have w26r : w26v.toInt = w12x5.toInt % 2 := by rw [← w26]; exact zremE rfl li2 (by omega) (by decide)
                          refine zs_irem (pc := 134) t108_134 (by decide) (c := w26v) w26 ?_
                          by_cases w27 : w26v.toInt ≠ 0
                          · refine zs_if_neT (pc := 135) t108_135 rfl (by omega) ?_
                            refine zs_iload (pc := 144) t108_144 rfl ?_
                            have w28 : zIv cLo cHi (zsI (zsI w12M 243 w24n w23v) 244 w24n w6x4) := zIv.put w25 (show (-20) ≤ w6x4.toInt ∧ w6x4.toInt ≤ 20 from ⟨by omega, by omega⟩)
                            refine zs_iast (pc := 146) t108_146 (j := w24n) (by decide) (zk1 (w12s.k fk_zMc_244)) (show (zI w12M 242 0).toInt = ((w24n : Nat) : Int) by omega) (zk2 (w12s.k fk_zMc_244) (by omega)) ?_
                            refine zs_aload_n (pc := 147) t108_147 rfl ?_
                            refine zs_dup (pc := 148) t108_148 rfl ?_
                            refine zs_get (pc := 149) t108_149 (by decide) (zk1 (w12s.k fk_zMc_242)) (zfvi rfl ((zIo (by decide)).trans ((zIo (by decide)).trans rfl))) ?_
                            refine zs_iconst (pc := 152) t108_152 (v := 1) (by decide) ?_
                            obtain ⟨w29v, w29e, w29⟩ := ziadd (a := (zI w12M 242 0)) (b := (1 : Int32)) rfl li1 (by omega) (by omega)
                            refine zs_iadd (pc := 153) t108_153 (c := w29v) w29e ?_
                            have w30 : zIv cLo cHi (zsI (zsI (zsI w12M 243 w24n w23v) 244 w24n w6x4) 242 0 w29v) := zIv.put w28 (show 0 ≤ w29v.toInt ∧ w29v.toInt ≤ 287 from ⟨by omega, by omega⟩)
                            refine zs_putI (pc := 154) t108_154 (zk1 (w12s.k fk_zMc_242)) rfl ?_
                            obtain ⟨w31v, w31e, w31⟩ := ziadd (a := w12x5) (b := Int32.ofInt 1) rfl (show (Int32.ofInt 1).toInt = 1 by decide) (by omega) (by omega)
                            refine zs_iinc (pc := 157) t108_157 (ls' := [(5, .int w31v), (7, .int (0 : Int32)), (6, .int (0 : Int32)), (0, .ref 242), (1, .int a), (2, .int b), (3, .int w2x3), (4, .int w6x4)]) (zml mf108 (by decide)) rfl (c := w31v) w31e rfl ?_
                            refine zs_goto (pc := 160) t108_160 ?_
                            refine zGo.locals (ls' := [(0, .ref 242), (1, .int a), (2, .int b), (3, .int w2x3), (4, .int w6x4), (5, .int w31v)]) (by simp) ?_
                            have w32 := w31
                            have w33 : (zI (zsI (zsI (zsI w12M 243 w24n w23v) 244 w24n w6x4) 242 0 w29v) 242 0).toInt = ((zI w12M 242 0).toInt + 1) := (congrArg Int32.toInt zIs).trans w29
                            have w34 : (zI (zsI (zsI (zsI w12M 243 w24n w23v) 244 w24n w6x4) 242 0 w29v) 242 0).toInt = ((zI w12M 242 0).toInt + 1) := (congrArg Int32.toInt zIs).trans w29
                            have w35 := zrem2 w20 (by omega) (by omega)
                            have w36 := zrem2 w26 (by omega) (by omega)
                            have w37 : w23v.toInt = (-w2x3.toInt) := w23
                            exact w12ih (w12m - 1) (by omega) w31v (zsI (zsI (zsI w12M 243 w24n w23v) 244 w24n w6x4) 242 0 w29v) ⟨by omega, by omega⟩ w12s w30 (((((zFr.refl).trans (w12F.mono rfl)).put rfl).put rfl).put rfl) (by omega) (fun n hn => by obtain rfl : n = w24n + 1 := (by omega); exact zLs.put (k := w23v.toInt) (t := w6x4.toInt) (w12t0 w24n (by omega)) (by omega) (by omega) (by omega) ⟨by omega, by omega⟩ ⟨by omega, by omega⟩ (by omega) (by omega) (by omega) (by omega) (congrArg Int32.toInt ((zIo (by decide)).trans ((zIo (by decide)).trans (zIs)))) (congrArg Int32.toInt ((zIo (by decide)).trans (zIs))) (fun j q => ((zIo (by decide)).trans ((zIo (by decide)).trans ((zIoj q).trans rfl)))) (fun j q => ((zIo (by decide)).trans ((zIoj q).trans ((zIo (by decide)).trans rfl))))) (w12t1.put (by omega) (by omega) (by omega) (by omega) (by omega) (by omega)) (by omega)
                          · refine zs_if_neF (pc := 135) t108_135 rfl (by omega) ?_
                            refine zs_iload (pc := 138) t108_138 rfl ?_
                            obtain ⟨w38v, w38e⟩ : ∃ v, -w6x4 = v := ⟨_, rfl⟩
                            have w38 : w38v.toInt = -w6x4.toInt := by rw [← w38e]; exact zneg rfl (by omega)
                            refine zs_ineg (pc := 140) t108_140 (c := w38v) w38e ?_
                            refine zs_goto (pc := 141) t108_141 ?_
                            have w39 : zIv cLo cHi (zsI (zsI w12M 243 w24n w23v) 244 w24n w38v) := zIv.put w25 (show (-20) ≤ w38v.toInt ∧ w38v.toInt ≤ 20 from ⟨by omega, by omega⟩)
                            refine zs_iast (pc := 146) t108_146 (j := w24n) (by decide) (zk1 (w12s.k fk_zMc_244)) (show (zI w12M 242 0).toInt = ((w24n : Nat) : Int) by omega) (zk2 (w12s.k fk_zMc_244) (by omega)) ?_
                            refine zs_aload_n (pc := 147) t108_147 rfl ?_
                            refine zs_dup (pc := 148) t108_148 rfl ?_
                            refine zs_get (pc := 149) t108_149 (by decide) (zk1 (w12s.k fk_zMc_242)) (zfvi rfl ((zIo (by decide)).trans ((zIo (by decide)).trans rfl))) ?_
                            refine zs_iconst (pc := 152) t108_152 (v := 1) (by decide) ?_
                            obtain ⟨w40v, w40e, w40⟩ := ziadd (a := (zI w12M 242 0)) (b := (1 : Int32)) rfl li1 (by omega) (by omega)
                            refine zs_iadd (pc := 153) t108_153 (c := w40v) w40e ?_
                            have w41 : zIv cLo cHi (zsI (zsI (zsI w12M 243 w24n w23v) 244 w24n w38v) 242 0 w40v) := zIv.put w39 (show 0 ≤ w40v.toInt ∧ w40v.toInt ≤ 287 from ⟨by omega, by omega⟩)
                            refine zs_putI (pc := 154) t108_154 (zk1 (w12s.k fk_zMc_242)) rfl ?_
                            obtain ⟨w42v, w42e, w42⟩ := ziadd (a := w12x5) (b := Int32.ofInt 1) rfl (show (Int32.ofInt 1).toInt = 1 by decide) (by omega) (by omega)
                            refine zs_iinc (pc := 157) t108_157 (ls' := [(5, .int w42v), (7, .int (0 : Int32)), (6, .int (0 : Int32)), (0, .ref 242), (1, .int a), (2, .int b), (3, .int w2x3), (4, .int w6x4)]) (zml mf108 (by decide)) rfl (c := w42v) w42e rfl ?_
                            refine zs_goto (pc := 160) t108_160 ?_
                            refine zGo.locals (ls' := [(0, .ref 242), (1, .int a), (2, .int b), (3, .int w2x3), (4, .int w6x4), (5, .int w42v)]) (by simp) ?_
                            have w43 := w42
                            have w44 : (zI (zsI (zsI (zsI w12M 243 w24n w23v) 244 w24n w38v) 242 0 w40v) 242 0).toInt = ((zI w12M 242 0).toInt + 1) := (congrArg Int32.toInt zIs).trans w40
                            have w45 : (zI (zsI (zsI (zsI w12M 243 w24n w23v) 244 w24n w38v) 242 0 w40v) 242 0).toInt = ((zI w12M 242 0).toInt + 1) := (congrArg Int32.toInt zIs).trans w40
                            have w46 := zrem2 w20 (by omega) (by omega)
                            have w47 := zrem2 w26 (by omega) (by omega)
                            have w48 : w23v.toInt = (-w2x3.toInt) := w23
                            have w49 : w38v.toInt = (-w6x4.toInt) := w38
                            exact w12ih (w12m - 1) (by omega) w42v (zsI (zsI (zsI w12M 243 w24n w23v) 244 w24n w38v) 242 0 w40v) ⟨by omega, by omega⟩ w12s w41 (((((zFr.refl).trans (w12F.mono rfl)).put rfl).put rfl).put rfl) (by omega) (fun n hn => by obtain rfl : n = w24n + 1 := (by omega); exact zLs.put (k := w23v.toInt) (t := w38v.toInt) (w12t0 w24n (by omega)) (by omega) (by omega) (by omega) ⟨by omega, by omega⟩ ⟨by omega, by omega⟩ (by omega) (by omega) (by omega) (by omega) (congrArg Int32.toInt ((zIo (by decide)).trans ((zIo (by decide)).trans (zIs)))) (congrArg Int32.toInt ((zIo (by decide)).trans (zIs))) (fun j q => ((zIo (by decide)).trans ((zIo (by decide)).trans ((zIoj q).trans rfl)))) (fun j q => ((zIo (by decide)).trans ((zIoj q).trans ((zIo (by decide)).trans rfl))))) (w12t1.put (by omega) (by omega) (by omega) (by omega) (by omega) (by omega)) (by omega)
                        · refine zs_icmp_ltF (pc := 96) t108_96 rfl li287 (by omega) ?_
                          refine zs_goto (pc := 99) t108_99 ?_
                          obtain ⟨w50v, w50e, w50⟩ := ziadd (a := w12x5) (b := Int32.ofInt 1) rfl (show (Int32.ofInt 1).toInt = 1 by decide) (by omega) (by omega)
                          refine zs_iinc (pc := 157) t108_157 (ls' := [(5, .int w50v), (7, .int (0 : Int32)), (6, .int (0 : Int32)), (0, .ref 242), (1, .int a), (2, .int b), (3, .int w2x3), (4, .int w6x4)]) (zml mf108 (by decide)) rfl (c := w50v) w50e rfl ?_
                          refine zs_goto (pc := 160) t108_160 ?_
                          refine zGo.locals (ls' := [(0, .ref 242), (1, .int a), (2, .int b), (3, .int w2x3), (4, .int w6x4), (5, .int w50v)]) (by simp) ?_
                          have w51 := w50
                          have w52 : (zI w12M 242 0).toInt = (zI w12M 242 0).toInt := (congrArg Int32.toInt rfl).trans rfl
                          have w53 : (zI w12M 242 0).toInt = (zI w12M 242 0).toInt := (congrArg Int32.toInt rfl).trans rfl
                          have w54 := zrem2 w20 (by omega) (by omega)
                          exact w12ih (w12m - 1) (by omega) w50v w12M ⟨by omega, by omega⟩ w12s w12I ((zFr.refl).trans (w12F.mono rfl)) (by omega) (fun n hn => by have z := w12t0 n (by omega); first | exact z.skip (by omega) (by omega) (by omega) (by omega) | exact absurd hn (by omega)) (w12t1.skip (by omega) rfl (by omega) (by omega) (by omega)) (by omega)
                      · refine zs_icmp_neF (pc := 64) t108_64 rfl li1 (by omega) ?_
                        refine zs_iload (pc := 67) t108_67 rfl ?_
                        by_cases w55 : w6x4.toInt ≠ 0
                        · refine zs_if_neT (pc := 69) t108_69 rfl (by omega) ?_
                          refine zs_iconst (pc := 76) t108_76 (v := 0) (by decide) ?_
                          refine zs_istore (pc := 77) t108_77 (ls' := [(7, .int (0 : Int32)), (6, .int (0 : Int32)), (0, .ref 242), (1, .int a), (2, .int b), (3, .int w2x3), (4, .int w6x4), (5, .int w12x5)]) (zml mf108 (by decide)) rfl ?_
                          refine zs_iload (pc := 79) t108_79 rfl ?_
                          refine zs_if_neF (pc := 81) t108_81 li0 (by decide) ?_
                          refine zs_iload (pc := 84) t108_84 rfl ?_
                          refine zs_if_neF (pc := 86) t108_86 li0 (by decide) ?_
                          refine zs_aload_n (pc := 89) t108_89 rfl ?_
                          refine zs_get (pc := 90) t108_90 (by decide) (zk1 (w12s.k fk_zMc_242)) (zfvi rfl rfl) ?_
                          refine zs_sipush (pc := 93) t108_93 (v := 287) (by decide) ?_
                          by_cases w56 : (zI w12M 242 0).toInt < 287
                          · refine zs_icmp_ltT (pc := 96) t108_96 rfl li287 (by omega) ?_
                            refine zs_aload_n (pc := 102) t108_102 rfl ?_
                            refine zs_get (pc := 103) t108_103 (by decide) (zk1 (w12s.k fk_zMc_242)) (w12s.p rfl fv_zMc_242_1) ?_
                            refine zs_aload_n (pc := 106) t108_106 rfl ?_
                            refine zs_get (pc := 107) t108_107 (by decide) (zk1 (w12s.k fk_zMc_242)) (zfvi rfl rfl) ?_
                            refine zs_iload (pc := 110) t108_110 rfl ?_
                            refine zs_iconst (pc := 112) t108_112 (v := 2) (by decide) ?_
                            refine zs_icmp_geF (pc := 113) t108_113 rfl li2 (by omega) ?_
                            refine zs_iload_n (pc := 116) t108_116 rfl ?_
                            obtain ⟨w57v, w57e⟩ : ∃ v, -w2x3 = v := ⟨_, rfl⟩
                            have w57 : w57v.toInt = -w2x3.toInt := by rw [← w57e]; exact zneg rfl (by omega)
                            refine zs_ineg (pc := 117) t108_117 (c := w57v) w57e ?_
                            refine zs_goto (pc := 118) t108_118 ?_
                            obtain ⟨w58n, w58⟩ : ∃ n : Nat, (zI w12M 242 0).toInt = (n : Int) := ⟨((zI w12M 242 0).toInt).toNat, by omega⟩
                            have w59 : zIv cLo cHi (zsI w12M 243 w58n w57v) := zIv.put w12I (show (-3) ≤ w57v.toInt ∧ w57v.toInt ≤ 3 from ⟨by omega, by omega⟩)
                            refine zs_iast (pc := 122) t108_122 (j := w58n) (by decide) (zk1 (w12s.k fk_zMc_243)) (show (zI w12M 242 0).toInt = ((w58n : Nat) : Int) by omega) (zk2 (w12s.k fk_zMc_243) (by omega)) ?_
                            refine zs_aload_n (pc := 123) t108_123 rfl ?_
                            refine zs_get (pc := 124) t108_124 (by decide) (zk1 (w12s.k fk_zMc_242)) (w12s.p rfl fv_zMc_242_2) ?_
                            refine zs_aload_n (pc := 127) t108_127 rfl ?_
                            refine zs_get (pc := 128) t108_128 (by decide) (zk1 (w12s.k fk_zMc_242)) (zfvi rfl ((zIo (by decide)).trans rfl)) ?_
                            refine zs_iload (pc := 131) t108_131 rfl ?_
                            refine zs_iconst (pc := 133) t108_133 (v := 2) (by decide) ?_
                            obtain ⟨w60v, w60⟩ : ∃ v, w12x5 - w12x5 / (2 : Int32) * (2 : Int32) = v := ⟨_, rfl⟩
                            have w60g : 0 ≤ w60v.toInt ∧ w60v.toInt ≤ 1 := by rw [← w60]; exact zrem rfl li2 (by omega) (by decide)
                            have w60r : w60v.toInt = w12x5.toInt % 2 := by rw [← w60]; exact zremE rfl li2 (by omega) (by decide)
                            refine zs_irem (pc := 134) t108_134 (by decide) (c := w60v) w60 ?_
                            by_cases w61 : w60v.toInt ≠ 0
                            · refine zs_if_neT (pc := 135) t108_135 rfl (by omega) ?_
                              refine zs_iload (pc := 144) t108_144 rfl ?_
                              have w62 : zIv cLo cHi (zsI (zsI w12M 243 w58n w57v) 244 w58n w6x4) := zIv.put w59 (show (-20) ≤ w6x4.toInt ∧ w6x4.toInt ≤ 20 from ⟨by omega, by omega⟩)
                              refine zs_iast (pc := 146) t108_146 (j := w58n) (by decide) (zk1 (w12s.k fk_zMc_244)) (show (zI w12M 242 0).toInt = ((w58n : Nat) : Int) by omega) (zk2 (w12s.k fk_zMc_244) (by omega)) ?_
                              refine zs_aload_n (pc := 147) t108_147 rfl ?_
                              refine zs_dup (pc := 148) t108_148 rfl ?_
                              refine zs_get (pc := 149) t108_149 (by decide) (zk1 (w12s.k fk_zMc_242)) (zfvi rfl ((zIo (by decide)).trans ((zIo (by decide)).trans rfl))) ?_
                              refine zs_iconst (pc := 152) t108_152 (v := 1) (by decide) ?_
                              obtain ⟨w63v, w63e, w63⟩ := ziadd (a := (zI w12M 242 0)) (b := (1 : Int32)) rfl li1 (by omega) (by omega)
                              refine zs_iadd (pc := 153) t108_153 (c := w63v) w63e ?_
                              have w64 : zIv cLo cHi (zsI (zsI (zsI w12M 243 w58n w57v) 244 w58n w6x4) 242 0 w63v) := zIv.put w62 (show 0 ≤ w63v.toInt ∧ w63v.toInt ≤ 287 from ⟨by omega, by omega⟩)
                              refine zs_putI (pc := 154) t108_154 (zk1 (w12s.k fk_zMc_242)) rfl ?_
                              obtain ⟨w65v, w65e, w65⟩ := ziadd (a := w12x5) (b := Int32.ofInt 1) rfl (show (Int32.ofInt 1).toInt = 1 by decide) (by omega) (by omega)
                              refine zs_iinc (pc := 157) t108_157 (ls' := [(5, .int w65v), (7, .int (0 : Int32)), (6, .int (0 : Int32)), (0, .ref 242), (1, .int a), (2, .int b), (3, .int w2x3), (4, .int w6x4)]) (zml mf108 (by decide)) rfl (c := w65v) w65e rfl ?_
                              refine zs_goto (pc := 160) t108_160 ?_
                              refine zGo.locals (ls' := [(0, .ref 242), (1, .int a), (2, .int b), (3, .int w2x3), (4, .int w6x4), (5, .int w65v)]) (by simp) ?_
                              have w66 := w65
                              have w67 : (zI (zsI (zsI (zsI w12M 243 w58n w57v) 244 w58n w6x4) 242 0 w63v) 242 0).toInt = ((zI w12M 242 0).toInt + 1) := (congrArg Int32.toInt zIs).trans w63
                              have w68 : (zI (zsI (zsI (zsI w12M 243 w58n w57v) 244 w58n w6x4) 242 0 w63v) 242 0).toInt = ((zI w12M 242 0).toInt + 1) := (congrArg Int32.toInt zIs).trans w63
                              have w69 := zrem2 w20 (by omega) (by omega)
                              have w70 := zrem2 w60 (by omega) (by omega)
                              have w71 : w57v.toInt = (-w2x3.toInt) := w57
                              exact w12ih (w12m - 1) (by omega) w65v (zsI (zsI (zsI w12M 243 w58n w57v) 244 w58n w6x4) 242 0 w63v) ⟨by omega, by omega⟩ w12s w64 (((((zFr.refl).trans (w12F.mono rfl)).put rfl).put rfl).put rfl) (by omega) (fun n hn => by obtain rfl : n = w58n + 1 := (by omega); exact zLs.put (k := w57v.toInt) (t := w6x4.toInt) (w12t0 w58n (by omega)) (by omega) (by omega) (by omega) ⟨by omega, by omega⟩ ⟨by omega, by omega⟩ (by omega) (by omega) (by omega) (by omega) (congrArg Int32.toInt ((zIo (by decide)).trans ((zIo (by decide)).trans (zIs)))) (congrArg Int32.toInt ((zIo (by decide)).trans (zIs))) (fun j q => ((zIo (by decide)).trans ((zIo (by decide)).trans ((zIoj q).trans rfl)))) (fun j q => ((zIo (by decide)).trans ((zIoj q).trans ((zIo (by decide)).trans rfl))))) (w12t1.put (by omega) (by omega) (by omega) (by omega) (by omega) (by omega)) (by omega)
                            · refine zs_if_neF (pc := 135) t108_135 rfl (by omega) ?_
                              refine zs_iload (pc := 138) t108_138 rfl ?_
                              obtain ⟨w72v, w72e⟩ : ∃ v, -w6x4 = v := ⟨_, rfl⟩
                              have w72 : w72v.toInt = -w6x4.toInt := by rw [← w72e]; exact zneg rfl (by omega)
                              refine zs_ineg (pc := 140) t108_140 (c := w72v) w72e ?_
                              refine zs_goto (pc := 141) t108_141 ?_
                              have w73 : zIv cLo cHi (zsI (zsI w12M 243 w58n w57v) 244 w58n w72v) := zIv.put w59 (show (-20) ≤ w72v.toInt ∧ w72v.toInt ≤ 20 from ⟨by omega, by omega⟩)
                              refine zs_iast (pc := 146) t108_146 (j := w58n) (by decide) (zk1 (w12s.k fk_zMc_244)) (show (zI w12M 242 0).toInt = ((w58n : Nat) : Int) by omega) (zk2 (w12s.k fk_zMc_244) (by omega)) ?_
                              refine zs_aload_n (pc := 147) t108_147 rfl ?_
                              refine zs_dup (pc := 148) t108_148 rfl ?_
                              refine zs_get (pc := 149) t108_149 (by decide) (zk1 (w12s.k fk_zMc_242)) (zfvi rfl ((zIo (by decide)).trans ((zIo (by decide)).trans rfl))) ?_
                              refine zs_iconst (pc := 152) t108_152 (v := 1) (by decide) ?_
                              obtain ⟨w74v, w74e, w74⟩ := ziadd (a := (zI w12M 242 0)) (b := (1 : Int32)) rfl li1 (by omega) (by omega)
                              refine zs_iadd (pc := 153) t108_153 (c := w74v) w74e ?_
                              have w75 : zIv cLo cHi (zsI (zsI (zsI w12M 243 w58n w57v) 244 w58n w72v) 242 0 w74v) := zIv.put w73 (show 0 ≤ w74v.toInt ∧ w74v.toInt ≤ 287 from ⟨by omega, by omega⟩)
                              refine zs_putI (pc := 154) t108_154 (zk1 (w12s.k fk_zMc_242)) rfl ?_
                              obtain ⟨w76v, w76e, w76⟩ := ziadd (a := w12x5) (b := Int32.ofInt 1) rfl (show (Int32.ofInt 1).toInt = 1 by decide) (by omega) (by omega)
                              refine zs_iinc (pc := 157) t108_157 (ls' := [(5, .int w76v), (7, .int (0 : Int32)), (6, .int (0 : Int32)), (0, .ref 242), (1, .int a), (2, .int b), (3, .int w2x3), (4, .int w6x4)]) (zml mf108 (by decide)) rfl (c := w76v) w76e rfl ?_
                              refine zs_goto (pc := 160) t108_160 ?_
                              refine zGo.locals (ls' := [(0, .ref 242), (1, .int a), (2, .int b), (3, .int w2x3), (4, .int w6x4), (5, .int w76v)]) (by simp) ?_
                              have w77 := w76
                              have w78 : (zI (zsI (zsI (zsI w12M 243 w58n w57v) 244 w58n w72v) 242 0 w74v) 242 0).toInt = ((zI w12M 242 0).toInt + 1) := (congrArg Int32.toInt zIs).trans w74
                              have w79 : (zI (zsI (zsI (zsI w12M 243 w58n w57v) 244 w58n w72v) 242 0 w74v) 242 0).toInt = ((zI w12M 242 0).toInt + 1) := (congrArg Int32.toInt zIs).trans w74
                              have w80 := zrem2 w20 (by omega) (by omega)
                              have w81 := zrem2 w60 (by omega) (by omega)
                              have w82 : w57v.toInt = (-w2x3.toInt) := w57
                              have w83 : w72v.toInt = (-w6x4.toInt) := w72
                              exact w12ih (w12m - 1) (by omega) w76v (zsI (zsI (zsI w12M 243 w58n w57v) 244 w58n w72v) 242 0 w74v) ⟨by omega, by omega⟩ w12s w75 (((((zFr.refl).trans (w12F.mono rfl)).put rfl).put rfl).put rfl) (by omega) (fun n hn => by obtain rfl : n = w58n + 1 := (by omega); exact zLs.put (k := w57v.toInt) (t := w72v.toInt) (w12t0 w58n (by omega)) (by omega) (by omega) (by omega) ⟨by omega, by omega⟩ ⟨by omega, by omega⟩ (by omega) (by omega) (by omega) (by omega) (congrArg Int32.toInt ((zIo (by decide)).trans ((zIo (by decide)).trans (zIs)))) (congrArg Int32.toInt ((zIo (by decide)).trans (zIs))) (fun j q => ((zIo (by decide)).trans ((zIo (by decide)).trans ((zIoj q).trans rfl)))) (fun j q => ((zIo (by decide)).trans ((zIoj q).trans ((zIo (by decide)).trans rfl))))) (w12t1.put (by omega) (by omega) (by omega) (by omega) (by omega) (by omega)) (by omega)
                          · refine zs_icmp_ltF (pc := 96) t108_96 rfl li287 (by omega) ?_
                            refine zs_goto (pc := 99) t108_99 ?_
                            obtain ⟨w84v, w84e, w84⟩ := ziadd (a := w12x5) (b := Int32.ofInt 1) rfl (show (Int32.ofInt 1).toInt = 1 by decide) (by omega) (by omega)
                            refine zs_iinc (pc := 157) t108_157 (ls' := [(5, .int w84v), (7, .int (0 : Int32)), (6, .int (0 : Int32)), (0, .ref 242), (1, .int a), (2, .int b), (3, .int w2x3), (4, .int w6x4)]) (zml mf108 (by decide)) rfl (c := w84v) w84e rfl ?_
                            refine zs_goto (pc := 160) t108_160 ?_
                            refine zGo.locals (ls' := [(0, .ref 242), (1, .int a), (2, .int b), (3, .int w2x3), (4, .int w6x4), (5, .int w84v)]) (by simp) ?_
                            have w85 := w84
                            have w86 : (zI w12M 242 0).toInt = (zI w12M 242 0).toInt := (congrArg Int32.toInt rfl).trans rfl
                            have w87 : (zI w12M 242 0).toInt = (zI w12M 242 0).toInt := (congrArg Int32.toInt rfl).trans rfl
                            have w88 := zrem2 w20 (by omega) (by omega)
                            exact w12ih (w12m - 1) (by omega) w84v w12M ⟨by omega, by omega⟩ w12s w12I ((zFr.refl).trans (w12F.mono rfl)) (by omega) (fun n hn => by have z := w12t0 n (by omega); first | exact z.skip (by omega) (by omega) (by omega) (by omega) | exact absurd hn (by omega)) (w12t1.skip (by omega) rfl (by omega) (by omega) (by omega)) (by omega)
                        · refine zs_if_neF (pc := 69) t108_69 rfl (by omega) ?_
                          refine zs_iconst (pc := 72) t108_72 (v := 1) (by decide) ?_
                          refine zs_goto (pc := 73) t108_73 ?_
                          refine zs_istore (pc := 77) t108_77 (ls' := [(7, .int (1 : Int32)), (6, .int (0 : Int32)), (0, .ref 242), (1, .int a), (2, .int b), (3, .int w2x3), (4, .int w6x4), (5, .int w12x5)]) (zml mf108 (by decide)) rfl ?_
                          refine zs_iload (pc := 79) t108_79 rfl ?_
                          refine zs_if_neF (pc := 81) t108_81 li0 (by decide) ?_
                          refine zs_iload (pc := 84) t108_84 rfl ?_
                          refine zs_if_neT (pc := 86) t108_86 li1 (by decide) ?_
                          obtain ⟨w89v, w89e, w89⟩ := ziadd (a := w12x5) (b := Int32.ofInt 1) rfl (show (Int32.ofInt 1).toInt = 1 by decide) (by omega) (by omega)
                          refine zs_iinc (pc := 157) t108_157 (ls' := [(5, .int w89v), (7, .int (1 : Int32)), (6, .int (0 : Int32)), (0, .ref 242), (1, .int a), (2, .int b), (3, .int w2x3), (4, .int w6x4)]) (zml mf108 (by decide)) rfl (c := w89v) w89e rfl ?_
                          refine zs_goto (pc := 160) t108_160 ?_
                          refine zGo.locals (ls' := [(0, .ref 242), (1, .int a), (2, .int b), (3, .int w2x3), (4, .int w6x4), (5, .int w89v)]) (by simp) ?_
                          have w90 := w89
                          have w91 : (zI w12M 242 0).toInt = (zI w12M 242 0).toInt := (congrArg Int32.toInt rfl).trans rfl
                          have w92 : (zI w12M 242 0).toInt = (zI w12M 242 0).toInt := (congrArg Int32.toInt rfl).trans rfl
                          have w93 := zrem2 w20 (by omega) (by omega)
                          exact w12ih (w12m - 1) (by omega) w89v w12M ⟨by omega, by omega⟩ w12s w12I ((zFr.refl).trans (w12F.mono rfl)) (by omega) (fun n hn => by have z := w12t0 n (by omega); first | exact z.skip (by omega) (by omega) (by omega) (by omega) | exact absurd hn (by omega)) (w12t1.skip (by omega) rfl (by omega) (by omega) (by omega)) (by omega)
                    · refine zs_icmp_ltF (pc := 45) t108_45 rfl li2 (by omega) ?_
                      refine zs_iload_n (pc := 48) t108_48 rfl ?_
                      by_cases w94 : w2x3.toInt ≠ 0
                      · refine zs_if_neT (pc := 49) t108_49 rfl (by omega) ?_
                        refine zs_iconst (pc := 56) t108_56 (v := 0) (by decide) ?_
                        refine zs_istore (pc := 57) t108_57 (ls' := [(6, .int (0 : Int32)), (0, .ref 242), (1, .int a), (2, .int b), (3, .int w2x3), (4, .int w6x4), (5, .int w12x5)]) (zml mf108 (by decide)) rfl ?_
                        refine zs_iload (pc := 59) t108_59 rfl ?_
                        refine zs_iconst (pc := 61) t108_61 (v := 2) (by decide) ?_
                        obtain ⟨w95v, w95⟩ : ∃ v, w12x5 - w12x5 / (2 : Int32) * (2 : Int32) = v := ⟨_, rfl⟩
                        have w95g : 0 ≤ w95v.toInt ∧ w95v.toInt ≤ 1 := by rw [← w95]; exact zrem rfl li2 (by omega) (by decide)
                        have w95r : w95v.toInt = w12x5.toInt % 2 := by rw [← w95]; exact zremE rfl li2 (by omega) (by decide)
                        refine zs_irem (pc := 62) t108_62 (by decide) (c := w95v) w95 ?_
                        refine zs_iconst (pc := 63) t108_63 (v := 1) (by decide) ?_
                        by_cases w96 : w95v.toInt ≠ 1
                        · refine zs_icmp_neT (pc := 64) t108_64 rfl li1 (by omega) ?_
                          refine zs_iconst (pc := 76) t108_76 (v := 0) (by decide) ?_
                          refine zs_istore (pc := 77) t108_77 (ls' := [(7, .int (0 : Int32)), (6, .int (0 : Int32)), (0, .ref 242), (1, .int a), (2, .int b), (3, .int w2x3), (4, .int w6x4), (5, .int w12x5)]) (zml mf108 (by decide)) rfl ?_
                          refine zs_iload (pc := 79) t108_79 rfl ?_
                          refine zs_if_neF (pc := 81) t108_81 li0 (by decide) ?_
                          refine zs_iload (pc := 84) t108_84 rfl ?_
                          refine zs_if_neF (pc := 86) t108_86 li0 (by decide) ?_
                          refine zs_aload_n (pc := 89) t108_89 rfl ?_
                          refine zs_get (pc := 90) t108_90 (by decide) (zk1 (w12s.k fk_zMc_242)) (zfvi rfl rfl) ?_
                          refine zs_sipush (pc := 93) t108_93 (v := 287) (by decide) ?_
                          by_cases w97 : (zI w12M 242 0).toInt < 287
                          · refine zs_icmp_ltT (pc := 96) t108_96 rfl li287 (by omega) ?_
                            refine zs_aload_n (pc := 102) t108_102 rfl ?_
                            refine zs_get (pc := 103) t108_103 (by decide) (zk1 (w12s.k fk_zMc_242)) (w12s.p rfl fv_zMc_242_1) ?_
                            refine zs_aload_n (pc := 106) t108_106 rfl ?_
                            refine zs_get (pc := 107) t108_107 (by decide) (zk1 (w12s.k fk_zMc_242)) (zfvi rfl rfl) ?_
                            refine zs_iload (pc := 110) t108_110 rfl ?_
                            refine zs_iconst (pc := 112) t108_112 (v := 2) (by decide) ?_
                            refine zs_icmp_geT (pc := 113) t108_113 rfl li2 (by omega) ?_
                            refine zs_iload_n (pc := 121) t108_121 rfl ?_
                            obtain ⟨w98n, w98⟩ : ∃ n : Nat, (zI w12M 242 0).toInt = (n : Int) := ⟨((zI w12M 242 0).toInt).toNat, by omega⟩
                            have w99 : zIv cLo cHi (zsI w12M 243 w98n w2x3) := zIv.put w12I (show (-3) ≤ w2x3.toInt ∧ w2x3.toInt ≤ 3 from ⟨by omega, by omega⟩)
                            refine zs_iast (pc := 122) t108_122 (j := w98n) (by decide) (zk1 (w12s.k fk_zMc_243)) (show (zI w12M 242 0).toInt = ((w98n : Nat) : Int) by omega) (zk2 (w12s.k fk_zMc_243) (by omega)) ?_
                            refine zs_aload_n (pc := 123) t108_123 rfl ?_
                            refine zs_get (pc := 124) t108_124 (by decide) (zk1 (w12s.k fk_zMc_242)) (w12s.p rfl fv_zMc_242_2) ?_
                            refine zs_aload_n (pc := 127) t108_127 rfl ?_
                            refine zs_get (pc := 128) t108_128 (by decide) (zk1 (w12s.k fk_zMc_242)) (zfvi rfl ((zIo (by decide)).trans rfl)) ?_
                            refine zs_iload (pc := 131) t108_131 rfl ?_
                            refine zs_iconst (pc := 133) t108_133 (v := 2) (by decide) ?_
                            obtain ⟨w100v, w100⟩ : ∃ v, w12x5 - w12x5 / (2 : Int32) * (2 : Int32) = v := ⟨_, rfl⟩
                            have w100g : 0 ≤ w100v.toInt ∧ w100v.toInt ≤ 1 := by rw [← w100]; exact zrem rfl li2 (by omega) (by decide)
                            have w100r : w100v.toInt = w12x5.toInt % 2 := by rw [← w100]; exact zremE rfl li2 (by omega) (by decide)
                            refine zs_irem (pc := 134) t108_134 (by decide) (c := w100v) w100 ?_
                            by_cases w101 : w100v.toInt ≠ 0
                            · refine zs_if_neT (pc := 135) t108_135 rfl (by omega) ?_
                              refine zs_iload (pc := 144) t108_144 rfl ?_
                              have w102 : zIv cLo cHi (zsI (zsI w12M 243 w98n w2x3) 244 w98n w6x4) := zIv.put w99 (show (-20) ≤ w6x4.toInt ∧ w6x4.toInt ≤ 20 from ⟨by omega, by omega⟩)
                              refine zs_iast (pc := 146) t108_146 (j := w98n) (by decide) (zk1 (w12s.k fk_zMc_244)) (show (zI w12M 242 0).toInt = ((w98n : Nat) : Int) by omega) (zk2 (w12s.k fk_zMc_244) (by omega)) ?_
                              refine zs_aload_n (pc := 147) t108_147 rfl ?_
                              refine zs_dup (pc := 148) t108_148 rfl ?_
                              refine zs_get (pc := 149) t108_149 (by decide) (zk1 (w12s.k fk_zMc_242)) (zfvi rfl ((zIo (by decide)).trans ((zIo (by decide)).trans rfl))) ?_
                              refine zs_iconst (pc := 152) t108_152 (v := 1) (by decide) ?_
                              obtain ⟨w103v, w103e, w103⟩ := ziadd (a := (zI w12M 242 0)) (b := (1 : Int32)) rfl li1 (by omega) (by omega)
                              refine zs_iadd (pc := 153) t108_153 (c := w103v) w103e ?_
                              have w104 : zIv cLo cHi (zsI (zsI (zsI w12M 243 w98n w2x3) 244 w98n w6x4) 242 0 w103v) := zIv.put w102 (show 0 ≤ w103v.toInt ∧ w103v.toInt ≤ 287 from ⟨by omega, by omega⟩)
                              refine zs_putI (pc := 154) t108_154 (zk1 (w12s.k fk_zMc_242)) rfl ?_
                              obtain ⟨w105v, w105e, w105⟩ := ziadd (a := w12x5) (b := Int32.ofInt 1) rfl (show (Int32.ofInt 1).toInt = 1 by decide) (by omega) (by omega)
                              refine zs_iinc (pc := 157) t108_157 (ls' := [(5, .int w105v), (7, .int (0 : Int32)), (6, .int (0 : Int32)), (0, .ref 242), (1, .int a), (2, .int b), (3, .int w2x3), (4, .int w6x4)]) (zml mf108 (by decide)) rfl (c := w105v) w105e rfl ?_
                              refine zs_goto (pc := 160) t108_160 ?_
                              refine zGo.locals (ls' := [(0, .ref 242), (1, .int a), (2, .int b), (3, .int w2x3), (4, .int w6x4), (5, .int w105v)]) (by simp) ?_
                              have w106 := w105
                              have w107 : (zI (zsI (zsI (zsI w12M 243 w98n w2x3) 244 w98n w6x4) 242 0 w103v) 242 0).toInt = ((zI w12M 242 0).toInt + 1) := (congrArg Int32.toInt zIs).trans w103
                              have w108 : (zI (zsI (zsI (zsI w12M 243 w98n w2x3) 244 w98n w6x4) 242 0 w103v) 242 0).toInt = ((zI w12M 242 0).toInt + 1) := (congrArg Int32.toInt zIs).trans w103
                              have w109 := zrem2 w95 (by omega) (by omega)
                              have w110 := zrem2 w100 (by omega) (by omega)
                              exact w12ih (w12m - 1) (by omega) w105v (zsI (zsI (zsI w12M 243 w98n w2x3) 244 w98n w6x4) 242 0 w103v) ⟨by omega, by omega⟩ w12s w104 (((((zFr.refl).trans (w12F.mono rfl)).put rfl).put rfl).put rfl) (by omega) (fun n hn => by obtain rfl : n = w98n + 1 := (by omega); exact zLs.put (k := w2x3.toInt) (t := w6x4.toInt) (w12t0 w98n (by omega)) (by omega) (by omega) (by omega) ⟨by omega, by omega⟩ ⟨by omega, by omega⟩ (by omega) (by omega) (by omega) (by omega) (congrArg Int32.toInt ((zIo (by decide)).trans ((zIo (by decide)).trans (zIs)))) (congrArg Int32.toInt ((zIo (by decide)).trans (zIs))) (fun j q => ((zIo (by decide)).trans ((zIo (by decide)).trans ((zIoj q).trans rfl)))) (fun j q => ((zIo (by decide)).trans ((zIoj q).trans ((zIo (by decide)).trans rfl))))) (w12t1.put (by omega) (by omega) (by omega) (by omega) (by omega) (by omega)) (by omega)
                            · refine zs_if_neF (pc := 135) t108_135 rfl (by omega) ?_
                              refine zs_iload (pc := 138) t108_138 rfl ?_
                              obtain ⟨w111v, w111e⟩ : ∃ v, -w6x4 = v := ⟨_, rfl⟩
                              have w111 : w111v.toInt = -w6x4.toInt := by rw [← w111e]; exact zneg rfl (by omega)
                              refine zs_ineg (pc := 140) t108_140 (c := w111v) w111e ?_
                              refine zs_goto (pc := 141) t108_141 ?_
                              have w112 : zIv cLo cHi (zsI (zsI w12M 243 w98n w2x3) 244 w98n w111v) := zIv.put w99 (show (-20) ≤ w111v.toInt ∧ w111v.toInt ≤ 20 from ⟨by omega, by omega⟩)
                              refine zs_iast (pc := 146) t108_146 (j := w98n) (by decide) (zk1 (w12s.k fk_zMc_244)) (show (zI w12M 242 0).toInt = ((w98n : Nat) : Int) by omega) (zk2 (w12s.k fk_zMc_244) (by omega)) ?_
                              refine zs_aload_n (pc := 147) t108_147 rfl ?_
                              refine zs_dup (pc := 148) t108_148 rfl ?_
                              refine zs_get (pc := 149) t108_149 (by decide) (zk1 (w12s.k fk_zMc_242)) (zfvi rfl ((zIo (by decide)).trans ((zIo (by decide)).trans rfl))) ?_
                              refine zs_iconst (pc := 152) t108_152 (v := 1) (by decide) ?_
                              obtain ⟨w113v, w113e, w113⟩ := ziadd (a := (zI w12M 242 0)) (b := (1 : Int32)) rfl li1 (by omega) (by omega)
                              refine zs_iadd (pc := 153) t108_153 (c := w113v) w113e ?_
                              have w114 : zIv cLo cHi (zsI (zsI (zsI w12M 243 w98n w2x3) 244 w98n w111v) 242 0 w113v) := zIv.put w112 (show 0 ≤ w113v.toInt ∧ w113v.toInt ≤ 287 from ⟨by omega, by omega⟩)
                              refine zs_putI (pc := 154) t108_154 (zk1 (w12s.k fk_zMc_242)) rfl ?_
                              obtain ⟨w115v, w115e, w115⟩ := ziadd (a := w12x5) (b := Int32.ofInt 1) rfl (show (Int32.ofInt 1).toInt = 1 by decide) (by omega) (by omega)
                              refine zs_iinc (pc := 157) t108_157 (ls' := [(5, .int w115v), (7, .int (0 : Int32)), (6, .int (0 : Int32)), (0, .ref 242), (1, .int a), (2, .int b), (3, .int w2x3), (4, .int w6x4)]) (zml mf108 (by decide)) rfl (c := w115v) w115e rfl ?_
                              refine zs_goto (pc := 160) t108_160 ?_
                              refine zGo.locals (ls' := [(0, .ref 242), (1, .int a), (2, .int b), (3, .int w2x3), (4, .int w6x4), (5, .int w115v)]) (by simp) ?_
                              have w116 := w115
                              have w117 : (zI (zsI (zsI (zsI w12M 243 w98n w2x3) 244 w98n w111v) 242 0 w113v) 242 0).toInt = ((zI w12M 242 0).toInt + 1) := (congrArg Int32.toInt zIs).trans w113
                              have w118 : (zI (zsI (zsI (zsI w12M 243 w98n w2x3) 244 w98n w111v) 242 0 w113v) 242 0).toInt = ((zI w12M 242 0).toInt + 1) := (congrArg Int32.toInt zIs).trans w113
                              have w119 := zrem2 w95 (by omega) (by omega)
                              have w120 := zrem2 w100 (by omega) (by omega)
                              have w121 : w111v.toInt = (-w6x4.toInt) := w111
                              exact w12ih (w12m - 1) (by omega) w115v (zsI (zsI (zsI w12M 243 w98n w2x3) 244 w98n w111v) 242 0 w113v) ⟨by omega, by omega⟩ w12s w114 (((((zFr.refl).trans (w12F.mono rfl)).put rfl).put rfl).put rfl) (by omega) (fun n hn => by obtain rfl : n = w98n + 1 := (by omega); exact zLs.put (k := w2x3.toInt) (t := w111v.toInt) (w12t0 w98n (by omega)) (by omega) (by omega) (by omega) ⟨by omega, by omega⟩ ⟨by omega, by omega⟩ (by omega) (by omega) (by omega) (by omega) (congrArg Int32.toInt ((zIo (by decide)).trans ((zIo (by decide)).trans (zIs)))) (congrArg Int32.toInt ((zIo (by decide)).trans (zIs))) (fun j q => ((zIo (by decide)).trans ((zIo (by decide)).trans ((zIoj q).trans rfl)))) (fun j q => ((zIo (by decide)).trans ((zIoj q).trans ((zIo (by decide)).trans rfl))))) (w12t1.put (by omega) (by omega) (by omega) (by omega) (by omega) (by omega)) (by omega)
                          · refine zs_icmp_ltF (pc := 96) t108_96 rfl li287 (by omega) ?_
                            refine zs_goto (pc := 99) t108_99 ?_
                            obtain ⟨w122v, w122e, w122⟩ := ziadd (a := w12x5) (b := Int32.ofInt 1) rfl (show (Int32.ofInt 1).toInt = 1 by decide) (by omega) (by omega)
                            refine zs_iinc (pc := 157) t108_157 (ls' := [(5, .int w122v), (7, .int (0 : Int32)), (6, .int (0 : Int32)), (0, .ref 242), (1, .int a), (2, .int b), (3, .int w2x3), (4, .int w6x4)]) (zml mf108 (by decide)) rfl (c := w122v) w122e rfl ?_
                            refine zs_goto (pc := 160) t108_160 ?_
                            refine zGo.locals (ls' := [(0, .ref 242), (1, .int a), (2, .int b), (3, .int w2x3), (4, .int w6x4), (5, .int w122v)]) (by simp) ?_
                            have w123 := w122
                            have w124 : (zI w12M 242 0).toInt = (zI w12M 242 0).toInt := (congrArg Int32.toInt rfl).trans rfl
                            have w125 : (zI w12M 242 0).toInt = (zI w12M 242 0).toInt := (congrArg Int32.toInt rfl).trans rfl
                            have w126 := zrem2 w95 (by omega) (by omega)
                            exact w12ih (w12m - 1) (by omega) w122v w12M ⟨by omega, by omega⟩ w12s w12I ((zFr.refl).trans (w12F.mono rfl)) (by omega) (fun n hn => by have z := w12t0 n (by omega); first | exact z.skip (by omega) (by omega) (by omega) (by omega) | exact absurd hn (by omega)) (w12t1.skip (by omega) rfl (by omega) (by omega) (by omega)) (by omega)
                        · refine zs_icmp_neF (pc := 64) t108_64 rfl li1 (by omega) ?_
                          refine zs_iload (pc := 67) t108_67 rfl ?_
                          by_cases w127 : w6x4.toInt ≠ 0
                          · refine zs_if_neT (pc := 69) t108_69 rfl (by omega) ?_
                            refine zs_iconst (pc := 76) t108_76 (v := 0) (by decide) ?_
                            refine zs_istore (pc := 77) t108_77 (ls' := [(7, .int (0 : Int32)), (6, .int (0 : Int32)), (0, .ref 242), (1, .int a), (2, .int b), (3, .int w2x3), (4, .int w6x4), (5, .int w12x5)]) (zml mf108 (by decide)) rfl ?_
                            refine zs_iload (pc := 79) t108_79 rfl ?_
                            refine zs_if_neF (pc := 81) t108_81 li0 (by decide) ?_
                            refine zs_iload (pc := 84) t108_84 rfl ?_
                            refine zs_if_neF (pc := 86) t108_86 li0 (by decide) ?_
                            refine zs_aload_n (pc := 89) t108_89 rfl ?_
                            refine zs_get (pc := 90) t108_90 (by decide) (zk1 (w12s.k fk_zMc_242)) (zfvi rfl rfl) ?_
                            refine zs_sipush (pc := 93) t108_93 (v := 287) (by decide) ?_
                            by_cases w128 : (zI w12M 242 0).toInt < 287
                            · refine zs_icmp_ltT (pc := 96) t108_96 rfl li287 (by omega) ?_
                              refine zs_aload_n (pc := 102) t108_102 rfl ?_
                              refine zs_get (pc := 103) t108_103 (by decide) (zk1 (w12s.k fk_zMc_242)) (w12s.p rfl fv_zMc_242_1) ?_
                              refine zs_aload_n (pc := 106) t108_106 rfl ?_
                              refine zs_get (pc := 107) t108_107 (by decide) (zk1 (w12s.k fk_zMc_242)) (zfvi rfl rfl) ?_
                              refine zs_iload (pc := 110) t108_110 rfl ?_
                              refine zs_iconst (pc := 112) t108_112 (v := 2) (by decide) ?_
                              refine zs_icmp_geT (pc := 113) t108_113 rfl li2 (by omega) ?_
                              refine zs_iload_n (pc := 121) t108_121 rfl ?_
                              obtain ⟨w129n, w129⟩ : ∃ n : Nat, (zI w12M 242 0).toInt = (n : Int) := ⟨((zI w12M 242 0).toInt).toNat, by omega⟩
                              have w130 : zIv cLo cHi (zsI w12M 243 w129n w2x3) := zIv.put w12I (show (-3) ≤ w2x3.toInt ∧ w2x3.toInt ≤ 3 from ⟨by omega, by omega⟩)
                              refine zs_iast (pc := 122) t108_122 (j := w129n) (by decide) (zk1 (w12s.k fk_zMc_243)) (show (zI w12M 242 0).toInt = ((w129n : Nat) : Int) by omega) (zk2 (w12s.k fk_zMc_243) (by omega)) ?_
                              refine zs_aload_n (pc := 123) t108_123 rfl ?_
                              refine zs_get (pc := 124) t108_124 (by decide) (zk1 (w12s.k fk_zMc_242)) (w12s.p rfl fv_zMc_242_2) ?_
                              refine zs_aload_n (pc := 127) t108_127 rfl ?_
                              refine zs_get (pc := 128) t108_128 (by decide) (zk1 (w12s.k fk_zMc_242)) (zfvi rfl ((zIo (by decide)).trans rfl)) ?_
                              refine zs_iload (pc := 131) t108_131 rfl ?_
                              refine zs_iconst (pc := 133) t108_133 (v := 2) (by decide) ?_
                              obtain ⟨w131v, w131⟩ : ∃ v, w12x5 - w12x5 / (2 : Int32) * (2 : Int32) = v := ⟨_, rfl⟩
                              have w131g : 0 ≤ w131v.toInt ∧ w131v.toInt ≤ 1 := by rw [← w131]; exact zrem rfl li2 (by omega) (by decide)
                              have w131r : w131v.toInt = w12x5.toInt % 2 := by rw [← w131]; exact zremE rfl li2 (by omega) (by decide)
                              refine zs_irem (pc := 134) t108_134 (by decide) (c := w131v) w131 ?_
                              by_cases w132 : w131v.toInt ≠ 0
                              · refine zs_if_neT (pc := 135) t108_135 rfl (by omega) ?_
                                refine zs_iload (pc := 144) t108_144 rfl ?_
                                have w133 : zIv cLo cHi (zsI (zsI w12M 243 w129n w2x3) 244 w129n w6x4) := zIv.put w130 (show (-20) ≤ w6x4.toInt ∧ w6x4.toInt ≤ 20 from ⟨by omega, by omega⟩)
                                refine zs_iast (pc := 146) t108_146 (j := w129n) (by decide) (zk1 (w12s.k fk_zMc_244)) (show (zI w12M 242 0).toInt = ((w129n : Nat) : Int) by omega) (zk2 (w12s.k fk_zMc_244) (by omega)) ?_
                                refine zs_aload_n (pc := 147) t108_147 rfl ?_
                                refine zs_dup (pc := 148) t108_148 rfl ?_
                                refine zs_get (pc := 149) t108_149 (by decide) (zk1 (w12s.k fk_zMc_242)) (zfvi rfl ((zIo (by decide)).trans ((zIo (by decide)).trans rfl))) ?_
                                refine zs_iconst (pc := 152) t108_152 (v := 1) (by decide) ?_
                                obtain ⟨w134v, w134e, w134⟩ := ziadd (a := (zI w12M 242 0)) (b := (1 : Int32)) rfl li1 (by omega) (by omega)
                                refine zs_iadd (pc := 153) t108_153 (c := w134v) w134e ?_
                                have w135 : zIv cLo cHi (zsI (zsI (zsI w12M 243 w129n w2x3) 244 w129n w6x4) 242 0 w134v) := zIv.put w133 (show 0 ≤ w134v.toInt ∧ w134v.toInt ≤ 287 from ⟨by omega, by omega⟩)
                                refine zs_putI (pc := 154) t108_154 (zk1 (w12s.k fk_zMc_242)) rfl ?_
                                obtain ⟨w136v, w136e, w136⟩ := ziadd (a := w12x5) (b := Int32.ofInt 1) rfl (show (Int32.ofInt 1).toInt = 1 by decide) (by omega) (by omega)
                                refine zs_iinc (pc := 157) t108_157 (ls' := [(5, .int w136v), (7, .int (0 : Int32)), (6, .int (0 : Int32)), (0, .ref 242), (1, .int a), (2, .int b), (3, .int w2x3), (4, .int w6x4)]) (zml mf108 (by decide)) rfl (c := w136v) w136e rfl ?_
                                refine zs_goto (pc := 160) t108_160 ?_
                                refine zGo.locals (ls' := [(0, .ref 242), (1, .int a), (2, .int b), (3, .int w2x3), (4, .int w6x4), (5, .int w136v)]) (by simp) ?_
                                have w137 := w136
                                have w138 : (zI (zsI (zsI (zsI w12M 243 w129n w2x3) 244 w129n w6x4) 242 0 w134v) 242 0).toInt = ((zI w12M 242 0).toInt + 1) := (congrArg Int32.toInt zIs).trans w134
                                have w139 : (zI (zsI (zsI (zsI w12M 243 w129n w2x3) 244 w129n w6x4) 242 0 w134v) 242 0).toInt = ((zI w12M 242 0).toInt + 1) := (congrArg Int32.toInt zIs).trans w134
                                have w140 := zrem2 w95 (by omega) (by omega)
                                have w141 := zrem2 w131 (by omega) (by omega)
                                exact w12ih (w12m - 1) (by omega) w136v (zsI (zsI (zsI w12M 243 w129n w2x3) 244 w129n w6x4) 242 0 w134v) ⟨by omega, by omega⟩ w12s w135 (((((zFr.refl).trans (w12F.mono rfl)).put rfl).put rfl).put rfl) (by omega) (fun n hn => by obtain rfl : n = w129n + 1 := (by omega); exact zLs.put (k := w2x3.toInt) (t := w6x4.toInt) (w12t0 w129n (by omega)) (by omega) (by omega) (by omega) ⟨by omega, by omega⟩ ⟨by omega, by omega⟩ (by omega) (by omega) (by omega) (by omega) (congrArg Int32.toInt ((zIo (by decide)).trans ((zIo (by decide)).trans (zIs)))) (congrArg Int32.toInt ((zIo (by decide)).trans (zIs))) (fun j q => ((zIo (by decide)).trans ((zIo (by decide)).trans ((zIoj q).trans rfl)))) (fun j q => ((zIo (by decide)).trans ((zIoj q).trans ((zIo (by decide)).trans rfl))))) (w12t1.put (by omega) (by omega) (by omega) (by omega) (by omega) (by omega)) (by omega)
                              · refine zs_if_neF (pc := 135) t108_135 rfl (by omega) ?_
                                refine zs_iload (pc := 138) t108_138 rfl ?_
                                obtain ⟨w142v, w142e⟩ : ∃ v, -w6x4 = v := ⟨_, rfl⟩
                                have w142 : w142v.toInt = -w6x4.toInt := by rw [← w142e]; exact zneg rfl (by omega)
                                refine zs_ineg (pc := 140) t108_140 (c := w142v) w142e ?_
                                refine zs_goto (pc := 141) t108_141 ?_
                                have w143 : zIv cLo cHi (zsI (zsI w12M 243 w129n w2x3) 244 w129n w142v) := zIv.put w130 (show (-20) ≤ w142v.toInt ∧ w142v.toInt ≤ 20 from ⟨by omega, by omega⟩)
                                refine zs_iast (pc := 146) t108_146 (j := w129n) (by decide) (zk1 (w12s.k fk_zMc_244)) (show (zI w12M 242 0).toInt = ((w129n : Nat) : Int) by omega) (zk2 (w12s.k fk_zMc_244) (by omega)) ?_
                                refine zs_aload_n (pc := 147) t108_147 rfl ?_
                                refine zs_dup (pc := 148) t108_148 rfl ?_
                                refine zs_get (pc := 149) t108_149 (by decide) (zk1 (w12s.k fk_zMc_242)) (zfvi rfl ((zIo (by decide)).trans ((zIo (by decide)).trans rfl))) ?_
                                refine zs_iconst (pc := 152) t108_152 (v := 1) (by decide) ?_
                                obtain ⟨w144v, w144e, w144⟩ := ziadd (a := (zI w12M 242 0)) (b := (1 : Int32)) rfl li1 (by omega) (by omega)
                                refine zs_iadd (pc := 153) t108_153 (c := w144v) w144e ?_
                                have w145 : zIv cLo cHi (zsI (zsI (zsI w12M 243 w129n w2x3) 244 w129n w142v) 242 0 w144v) := zIv.put w143 (show 0 ≤ w144v.toInt ∧ w144v.toInt ≤ 287 from ⟨by omega, by omega⟩)
                                refine zs_putI (pc := 154) t108_154 (zk1 (w12s.k fk_zMc_242)) rfl ?_
                                obtain ⟨w146v, w146e, w146⟩ := ziadd (a := w12x5) (b := Int32.ofInt 1) rfl (show (Int32.ofInt 1).toInt = 1 by decide) (by omega) (by omega)
                                refine zs_iinc (pc := 157) t108_157 (ls' := [(5, .int w146v), (7, .int (0 : Int32)), (6, .int (0 : Int32)), (0, .ref 242), (1, .int a), (2, .int b), (3, .int w2x3), (4, .int w6x4)]) (zml mf108 (by decide)) rfl (c := w146v) w146e rfl ?_
                                refine zs_goto (pc := 160) t108_160 ?_
                                refine zGo.locals (ls' := [(0, .ref 242), (1, .int a), (2, .int b), (3, .int w2x3), (4, .int w6x4), (5, .int w146v)]) (by simp) ?_
                                have w147 := w146
                                have w148 : (zI (zsI (zsI (zsI w12M 243 w129n w2x3) 244 w129n w142v) 242 0 w144v) 242 0).toInt = ((zI w12M 242 0).toInt + 1) := (congrArg Int32.toInt zIs).trans w144
                                have w149 : (zI (zsI (zsI (zsI w12M 243 w129n w2x3) 244 w129n w142v) 242 0 w144v) 242 0).toInt = ((zI w12M 242 0).toInt + 1) := (congrArg Int32.toInt zIs).trans w144
                                have w150 := zrem2 w95 (by omega) (by omega)
                                have w151 := zrem2 w131 (by omega) (by omega)
                                have w152 : w142v.toInt = (-w6x4.toInt) := w142
                                exact w12ih (w12m - 1) (by omega) w146v (zsI (zsI (zsI w12M 243 w129n w2x3) 244 w129n w142v) 242 0 w144v) ⟨by omega, by omega⟩ w12s w145 (((((zFr.refl).trans (w12F.mono rfl)).put rfl).put rfl).put rfl) (by omega) (fun n hn => by obtain rfl : n = w129n + 1 := (by omega); exact zLs.put (k := w2x3.toInt) (t := w142v.toInt) (w12t0 w129n (by omega)) (by omega) (by omega) (by omega) ⟨by omega, by omega⟩ ⟨by omega, by omega⟩ (by omega) (by omega) (by omega) (by omega) (congrArg Int32.toInt ((zIo (by decide)).trans ((zIo (by decide)).trans (zIs)))) (congrArg Int32.toInt ((zIo (by decide)).trans (zIs))) (fun j q => ((zIo (by decide)).trans ((zIo (by decide)).trans ((zIoj q).trans rfl)))) (fun j q => ((zIo (by decide)).trans ((zIoj q).trans ((zIo (by decide)).trans rfl))))) (w12t1.put (by omega) (by omega) (by omega) (by omega) (by omega) (by omega)) (by omega)
                            · refine zs_icmp_ltF (pc := 96) t108_96 rfl li287 (by omega) ?_
                              refine zs_goto (pc := 99) t108_99 ?_
                              obtain ⟨w153v, w153e, w153⟩ := ziadd (a := w12x5) (b := Int32.ofInt 1) rfl (show (Int32.ofInt 1).toInt = 1 by decide) (by omega) (by omega)
                              refine zs_iinc (pc := 157) t108_157 (ls' := [(5, .int w153v), (7, .int (0 : Int32)), (6, .int (0 : Int32)), (0, .ref 242), (1, .int a), (2, .int b), (3, .int w2x3), (4, .int w6x4)]) (zml mf108 (by decide)) rfl (c := w153v) w153e rfl ?_
                              refine zs_goto (pc := 160) t108_160 ?_
                              refine zGo.locals (ls' := [(0, .ref 242), (1, .int a), (2, .int b), (3, .int w2x3), (4, .int w6x4), (5, .int w153v)]) (by simp) ?_
                              have w154 := w153
                              have w155 : (zI w12M 242 0).toInt = (zI w12M 242 0).toInt := (congrArg Int32.toInt rfl).trans rfl
                              have w156 : (zI w12M 242 0).toInt = (zI w12M 242 0).toInt := (congrArg Int32.toInt rfl).trans rfl
                              have w157 := zrem2 w95 (by omega) (by omega)
                              exact w12ih (w12m - 1) (by omega) w153v w12M ⟨by omega, by omega⟩ w12s w12I ((zFr.refl).trans (w12F.mono rfl)) (by omega) (fun n hn => by have z := w12t0 n (by omega); first | exact z.skip (by omega) (by omega) (by omega) (by omega) | exact absurd hn (by omega)) (w12t1.skip (by omega) rfl (by omega) (by omega) (by omega)) (by omega)
                          · refine zs_if_neF (pc := 69) t108_69 rfl (by omega) ?_
                            refine zs_iconst (pc := 72) t108_72 (v := 1) (by decide) ?_
                            refine zs_goto (pc := 73) t108_73 ?_
                            refine zs_istore (pc := 77) t108_77 (ls' := [(7, .int (1 : Int32)), (6, .int (0 : Int32)), (0, .ref 242), (1, .int a), (2, .int b), (3, .int w2x3), (4, .int w6x4), (5, .int w12x5)]) (zml mf108 (by decide)) rfl ?_
                            refine zs_iload (pc := 79) t108_79 rfl ?_
                            refine zs_if_neF (pc := 81) t108_81 li0 (by decide) ?_
                            refine zs_iload (pc := 84) t108_84 rfl ?_
                            refine zs_if_neT (pc := 86) t108_86 li1 (by decide) ?_
                            obtain ⟨w158v, w158e, w158⟩ := ziadd (a := w12x5) (b := Int32.ofInt 1) rfl (show (Int32.ofInt 1).toInt = 1 by decide) (by omega) (by omega)
                            refine zs_iinc (pc := 157) t108_157 (ls' := [(5, .int w158v), (7, .int (1 : Int32)), (6, .int (0 : Int32)), (0, .ref 242), (1, .int a), (2, .int b), (3, .int w2x3), (4, .int w6x4)]) (zml mf108 (by decide)) rfl (c := w158v) w158e rfl ?_
                            refine zs_goto (pc := 160) t108_160 ?_
                            refine zGo.locals (ls' := [(0, .ref 242), (1, .int a), (2, .int b), (3, .int w2x3), (4, .int w6x4), (5, .int w158v)]) (by simp) ?_
                            have w159 := w158
                            have w160 : (zI w12M 242 0).toInt = (zI w12M 242 0).toInt := (congrArg Int32.toInt rfl).trans rfl
                            have w161 : (zI w12M 242 0).toInt = (zI w12M 242 0).toInt := (congrArg Int32.toInt rfl).trans rfl
                            have w162 := zrem2 w95 (by omega) (by omega)
                            exact w12ih (w12m - 1) (by omega) w158v w12M ⟨by omega, by omega⟩ w12s w12I ((zFr.refl).trans (w12F.mono rfl)) (by omega) (fun n hn => by have z := w12t0 n (by omega); first | exact z.skip (by omega) (by omega) (by omega) (by omega) | exact absurd hn (by omega)) (w12t1.skip (by omega) rfl (by omega) (by omega) (by omega)) (by omega)
                      · refine zs_if_neF (pc := 49) t108_49 rfl (by omega) ?_
                        refine zs_iconst (pc := 52) t108_52 (v := 1) (by decide) ?_
                        refine zs_goto (pc := 53) t108_53 ?_
                        refine zs_istore (pc := 57) t108_57 (ls' := [(6, .int (1 : Int32)), (0, .ref 242), (1, .int a), (2, .int b), (3, .int w2x3), (4, .int w6x4), (5, .int w12x5)]) (zml mf108 (by decide)) rfl ?_
                        refine zs_iload (pc := 59) t108_59 rfl ?_
                        refine zs_iconst (pc := 61) t108_61 (v := 2) (by decide) ?_
                        obtain ⟨w163v, w163⟩ : ∃ v, w12x5 - w12x5 / (2 : Int32) * (2 : Int32) = v := ⟨_, rfl⟩
                        have w163g : 0 ≤ w163v.toInt ∧ w163v.toInt ≤ 1 := by rw [← w163]; exact zrem rfl li2 (by omega) (by decide)
                        have w163r : w163v.toInt = w12x5.toInt % 2 := by rw [← w163]; exact zremE rfl li2 (by omega) (by decide)
                        refine zs_irem (pc := 62) t108_62 (by decide) (c := w163v) w163 ?_
                        refine zs_iconst (pc := 63) t108_63 (v := 1) (by decide) ?_
                        by_cases w164 : w163v.toInt ≠ 1
                        · refine zs_icmp_neT (pc := 64) t108_64 rfl li1 (by omega) ?_
                          refine zs_iconst (pc := 76) t108_76 (v := 0) (by decide) ?_
                          refine zs_istore (pc := 77) t108_77 (ls' := [(7, .int (0 : Int32)), (6, .int (1 : Int32)), (0, .ref 242), (1, .int a), (2, .int b), (3, .int w2x3), (4, .int w6x4), (5, .int w12x5)]) (zml mf108 (by decide)) rfl ?_
                          refine zs_iload (pc := 79) t108_79 rfl ?_
                          refine zs_if_neT (pc := 81) t108_81 li1 (by decide) ?_
                          obtain ⟨w165v, w165e, w165⟩ := ziadd (a := w12x5) (b := Int32.ofInt 1) rfl (show (Int32.ofInt 1).toInt = 1 by decide) (by omega) (by omega)
                          refine zs_iinc (pc := 157) t108_157 (ls' := [(5, .int w165v), (7, .int (0 : Int32)), (6, .int (1 : Int32)), (0, .ref 242), (1, .int a), (2, .int b), (3, .int w2x3), (4, .int w6x4)]) (zml mf108 (by decide)) rfl (c := w165v) w165e rfl ?_
                          refine zs_goto (pc := 160) t108_160 ?_
                          refine zGo.locals (ls' := [(0, .ref 242), (1, .int a), (2, .int b), (3, .int w2x3), (4, .int w6x4), (5, .int w165v)]) (by simp) ?_
                          have w166 := w165
                          have w167 : (zI w12M 242 0).toInt = (zI w12M 242 0).toInt := (congrArg Int32.toInt rfl).trans rfl
                          have w168 : (zI w12M 242 0).toInt = (zI w12M 242 0).toInt := (congrArg Int32.toInt rfl).trans rfl
                          have w169 := zrem2 w163 (by omega) (by omega)
                          exact w12ih (w12m - 1) (by omega) w165v w12M ⟨by omega, by omega⟩ w12s w12I ((zFr.refl).trans (w12F.mono rfl)) (by omega) (fun n hn => by have z := w12t0 n (by omega); first | exact z.skip (by omega) (by omega) (by omega) (by omega) | exact absurd hn (by omega)) (w12t1.skip (by omega) rfl (by omega) (by omega) (by omega)) (by omega)
                        · refine zs_icmp_neF (pc := 64) t108_64 rfl li1 (by omega) ?_
                          refine zs_iload (pc := 67) t108_67 rfl ?_
                          by_cases w170 : w6x4.toInt ≠ 0
                          · refine zs_if_neT (pc := 69) t108_69 rfl (by omega) ?_
                            refine zs_iconst (pc := 76) t108_76 (v := 0) (by decide) ?_
                            refine zs_istore (pc := 77) t108_77 (ls' := [(7, .int (0 : Int32)), (6, .int (1 : Int32)), (0, .ref 242), (1, .int a), (2, .int b), (3, .int w2x3), (4, .int w6x4), (5, .int w12x5)]) (zml mf108 (by decide)) rfl ?_
                            refine zs_iload (pc := 79) t108_79 rfl ?_
                            refine zs_if_neT (pc := 81) t108_81 li1 (by decide) ?_
                            obtain ⟨w171v, w171e, w171⟩ := ziadd (a := w12x5) (b := Int32.ofInt 1) rfl (show (Int32.ofInt 1).toInt = 1 by decide) (by omega) (by omega)
                            refine zs_iinc (pc := 157) t108_157 (ls' := [(5, .int w171v), (7, .int (0 : Int32)), (6, .int (1 : Int32)), (0, .ref 242), (1, .int a), (2, .int b), (3, .int w2x3), (4, .int w6x4)]) (zml mf108 (by decide)) rfl (c := w171v) w171e rfl ?_
                            refine zs_goto (pc := 160) t108_160 ?_
                            refine zGo.locals (ls' := [(0, .ref 242), (1, .int a), (2, .int b), (3, .int w2x3), (4, .int w6x4), (5, .int w171v)]) (by simp) ?_
                            have w172 := w171
                            have w173 : (zI w12M 242 0).toInt = (zI w12M 242 0).toInt := (congrArg Int32.toInt rfl).trans rfl
                            have w174 : (zI w12M 242 0).toInt = (zI w12M 242 0).toInt := (congrArg Int32.toInt rfl).trans rfl
                            have w175 := zrem2 w163 (by omega) (by omega)
                            exact w12ih (w12m - 1) (by omega) w171v w12M ⟨by omega, by omega⟩ w12s w12I ((zFr.refl).trans (w12F.mono rfl)) (by omega) (fun n hn => by have z := w12t0 n (by omega); first | exact z.skip (by omega) (by omega) (by omega) (by omega) | exact absurd hn (by omega)) (w12t1.skip (by omega) rfl (by omega) (by omega) (by omega)) (by omega)
                          · refine zs_if_neF (pc := 69) t108_69 rfl (by omega) ?_
                            refine zs_iconst (pc := 72) t108_72 (v := 1) (by decide) ?_
                            refine zs_goto (pc := 73) t108_73 ?_
                            refine zs_istore (pc := 77) t108_77 (ls' := [(7, .int (1 : Int32)), (6, .int (1 : Int32)), (0, .ref 242), (1, .int a), (2, .int b), (3, .int w2x3), (4, .int w6x4), (5, .int w12x5)]) (zml mf108 (by decide)) rfl ?_
                            refine zs_iload (pc := 79) t108_79 rfl ?_
                            refine zs_if_neT (pc := 81) t108_81 li1 (by decide) ?_
                            obtain ⟨w176v, w176e, w176⟩ := ziadd (a := w12x5) (b := Int32.ofInt 1) rfl (show (Int32.ofInt 1).toInt = 1 by decide) (by omega) (by omega)
                            refine zs_iinc (pc := 157) t108_157 (ls' := [(5, .int w176v), (7, .int (1 : Int32)), (6, .int (1 : Int32)), (0, .ref 242), (1, .int a), (2, .int b), (3, .int w2x3), (4, .int w6x4)]) (zml mf108 (by decide)) rfl (c := w176v) w176e rfl ?_
                            refine zs_goto (pc := 160) t108_160 ?_
                            refine zGo.locals (ls' := [(0, .ref 242), (1, .int a), (2, .int b), (3, .int w2x3), (4, .int w6x4), (5, .int w176v)]) (by simp) ?_
                            have w177 := w176
                            have w178 : (zI w12M 242 0).toInt = (zI w12M 242 0).toInt := (congrArg Int32.toInt rfl).trans rfl
                            have w179 : (zI w12M 242 0).toInt = (zI w12M 242 0).toInt := (congrArg Int32.toInt rfl).trans rfl
                            have w180 := zrem2 w163 (by omega) (by omega)
                            exact w12ih (w12m - 1) (by omega) w176v w12M ⟨by omega, by omega⟩ w12s w12I ((zFr.refl).trans (w12F.mono rfl)) (by omega) (fun n hn => by have z := w12t0 n (by omega); first | exact z.skip (by omega) (by omega) (by omega) (by omega) | exact absurd hn (by omega)) (w12t1.skip (by omega) rfl (by omega) (by omega) (by omega)) (by omega)
              refine zGo.locals (ls' := [(0, .ref 242), (1, .int a), (2, .int b), (3, .int w2x3), (4, .int w6x4), (5, .int (0 : Int32))]) (by simp) ?_
              have w181 := li0
              have w182 : (zI w6M 242 0).toInt = (zI w6M 242 0).toInt := (congrArg Int32.toInt rfl).trans rfl
              exact w12L ((4 - 0 : Int).toNat) (0 : Int32) w6M ⟨by decide, by decide⟩ w6s w6I zFr.refl (by omega) (fun n hn => by have z := w6t0 n hn; rw [show (0 : Int32).toInt = (0 : Int) by decide]; exact z) (w6t1.e36 (by first | decide | omega)) (by omega)
        refine zGo.locals (ls' := [(0, .ref 242), (1, .int a), (2, .int b), (3, .int w2x3), (4, .int (0 : Int32))]) (by simp) ?_
        have w183 := li0
        have w184 : (zI w2M 242 0).toInt = (zI w2M 242 0).toInt := (congrArg Int32.toInt rfl).trans rfl
        exact w6L ((21 - 0 : Int).toNat) (0 : Int32) w2M ⟨by decide, by decide⟩ w2s w2I zFr.refl (by omega) (by omega) (fun n hn => by have z := w2t0 n hn; rw [show (0 : Int32).toInt = (0 : Int) by decide]; exact z) (w2t1.e20 (by first | decide | omega)) (by omega)
  refine zGo.locals (ls' := [(0, .ref 242), (1, .int a), (2, .int b), (3, .int (0 : Int32))]) (by simp) ?_
  have w185 := li0
  have w186 : (zI (zsI M 242 0 (0 : Int32)) 242 0).toInt = 0 := (congrArg Int32.toInt zIs).trans li0
  have w187 : (zI (zsI M 242 0 (0 : Int32)) 242 0).toInt = 0 := (congrArg Int32.toInt zIs).trans li0
  have w188 : (zI (zsI M 242 0 (0 : Int32)) 242 0).toInt = 0 := (congrArg Int32.toInt zIs).trans li0
  exact w2L ((4 - 0 : Int).toNat) (0 : Int32) (zsI M 242 0 (0 : Int32)) ⟨by decide, by decide⟩ hs w1 zFr.refl (by omega) (by omega) (fun n hn => zLs.zero (by omega) (by first | decide | omega) rfl rfl) (zQ7.z (by first | decide | omega) (by omega)) (by omega)
