theorem K325 {X : zX} {l : Launch} {M : zM} {Q : Option Value → zM → Prop} {a b c d : Int32} (hs : zSk zMm M) (hI : zIv mLo mHi M) (pR : zPR M) (pF : zPF M) (ha : 1 ≤ a.toInt ∧ a.toInt ≤ 200) (hb : 1 ≤ b.toInt ∧ b.toInt ≤ 999) (hc : 1 ≤ c.toInt ∧ c.toInt ≤ 8) (hd : 0 ≤ d.toInt ∧ d.toInt ≤ 50) (hQ : ∀ M', zSk zMm M' → zIv mLo mHi M' → zFr [(344, 344, none), (349, 349, none), (350, 350, none), (343, 343, none), (345, 345, none), (346, 346, none), (347, 347, none), (348, 348, none), (336, 336, some 22), (336, 336, some 18), (336, 336, some 19), (336, 336, some 20), (336, 336, some 21), (351, 354, none), (358, 358, none), (336, 336, some 37), (356, 356, none), (355, 355, none), (343, 343, none), (344, 344, none), (336, 336, some 39), (359, 359, none), (336, 336, some 3), (360, 360, none), (361, 361, none), (336, 336, some 42), (336, 336, some 43), (336, 336, some 44), (336, 336, some 45)] M M' → zPF M' → Q none M') : zCall X l 8 0 0 325 [.ref 336, .int a, .int b, .int c, .int d] M Q := by
  have ga := zrg a
  have gb := zrg b
  have gc := zrg c
  have gd := zrg d
  refine zs_in (by decide) mf325 (Nat.le_of_ble_eq_true rfl) ?_
  show zGo X l 8 0 0 325 0 [(0, .ref 336), (1, .int a), (2, .int b), (3, .int c), (4, .int d)] [] M _
  refine zs_aload_n (pc := 0) t325_0 rfl ?_
  refine zs_invV (pc := 1) (k := 336) (as' := []) (st := []) t325_1 mf322 rfl rfl (Or.inl ⟨by decide, (zk1 (hs.k fk_zMm_336))⟩) ⟨by decide, by decide, Nat.le_of_ble_eq_true rfl, Nat.le_of_ble_eq_true rfl⟩ (K322 hs hI pR pF ?_) (fun _ _ q => q)
  intro w1M w1v w1s w1I w1F w1PF w1PD w1PV
  have w1g := zrg w1v
  show zGo X l 8 0 0 325 4 [(0, .ref 336), (1, .int a), (2, .int b), (3, .int c), (4, .int d)] [.int w1v] w1M _
  refine zs_aload_n (pc := 4) t325_4 rfl ?_
  refine zs_get (pc := 5) t325_5 (by decide) (zk1 (w1s.k fk_zMm_336)) (w1s.p rfl fv_zMm_336_0) ?_
  refine zs_bipush (pc := 8) t325_8 (v := 12) (by decide) ?_
  have w2 := ibA12 hI
  refine zs_iald (pc := 10) t325_10 (j := 12) (by decide) (zk1 (w1s.k fk_zMm_337)) li12 (zk2 (w1s.k fk_zMm_337) (by decide)) ((w1F 337 12 rfl).trans rfl) ?_
  obtain ⟨w3v, w3⟩ : ∃ v, v = w1v + (zI M 337 12) := ⟨_, rfl⟩
  have w3g := zrg w3v
  refine zs_iadd (pc := 11) t325_11 (c := w3v) w3.symm ?_
  refine zs_iconst (pc := 12) t325_12 (v := 1) (by decide) ?_
  obtain ⟨w4v, w4⟩ : ∃ v, v = w3v - (1 : Int32) := ⟨_, rfl⟩
  have w4g := zrg w4v
  refine zs_isub (pc := 13) t325_13 (c := w4v) w4.symm ?_
  refine zs_aload_n (pc := 14) t325_14 rfl ?_
  refine zs_get (pc := 15) t325_15 (by decide) (zk1 (w1s.k fk_zMm_336)) (w1s.p rfl fv_zMm_336_0) ?_
  refine zs_bipush (pc := 18) t325_18 (v := 12) (by decide) ?_
  refine zs_iald (pc := 20) t325_20 (j := 12) (by decide) (zk1 (w1s.k fk_zMm_337)) li12 (zk2 (w1s.k fk_zMm_337) (by decide)) ((w1F 337 12 rfl).trans rfl) ?_
  obtain ⟨w5v, w5⟩ : ∃ v, w4v / (zI M 337 12) = v := ⟨_, rfl⟩
  have w5g := zrg w5v
  refine zs_idiv (pc := 21) t325_21 (znz rfl (by omega)) (c := w5v) w5 ?_
  refine zs_istore (pc := 22) t325_22 (ls' := [(5, .int w5v), (0, .ref 336), (1, .int a), (2, .int b), (3, .int c), (4, .int d)]) (zml mf325 (by decide)) rfl ?_
  refine zs_iload (pc := 24) t325_24 rfl ?_
  refine zs_iconst (pc := 26) t325_26 (v := 1) (by decide) ?_
  by_cases w6 : 1 ≤ w5v.toInt
  · refine zs_icmp_geT (pc := 27) t325_27 rfl li1 (by omega) ?_
    refine zs_iload (pc := 34) t325_34 rfl ?_
    refine zs_istore (pc := 36) t325_36 (ls' := [(5, .int w5v), (0, .ref 336), (1, .int a), (2, .int b), (3, .int c), (4, .int d)]) (zml mf325 (by decide)) rfl ?_
    refine zs_iconst (pc := 38) t325_38 (v := 0) (by decide) ?_
    refine zs_istore (pc := 39) t325_39 (ls' := [(6, .int (0 : Int32)), (5, .int w5v), (0, .ref 336), (1, .int a), (2, .int b), (3, .int c), (4, .int d)]) (zml mf325 (by decide)) rfl ?_
    have w7L : ∀ (m : Nat) (w7x6 : Int32) (w7M : zM), (0 ≤ w7x6.toInt ∧ w7x6.toInt ≤ 8) → zSk zMm w7M → zIv mLo mHi w7M → zFr [(360, 360, none)] w1M w7M → zJ w7M 351 = zJ w1M 351 → 8 - w7x6.toInt ≤ (m : Int) → zGo X l 8 0 0 325 41 [(0, .ref 336), (1, .int a), (2, .int b), (3, .int c), (4, .int d), (5, .int w5v), (6, .int w7x6)] [] w7M Q := by
      intro m
      induction m using Nat.strongRecOn with
      | ind w7m w7ih =>
        intro w7x6 w7M w7b6 w7s w7I w7F w7J w7q
        refine zs_iload (pc := 41) t325_41 rfl ?_
        refine zs_iload_n (pc := 43) t325_43 rfl ?_
        by_cases w8 : c.toInt ≤ w7x6.toInt
        · refine zs_icmp_geT (pc := 44) t325_44 rfl rfl (by omega) ?_
          refine zs_aload_n (pc := 61) t325_61 rfl ?_
          refine zs_iconst (pc := 62) t325_62 (v := 0) (by decide) ?_
          have w9 : zIv mLo mHi (zsI w7M 336 42 (0 : Int32)) := zIv.put w7I (show (-2147483648) ≤ (0 : Int32).toInt ∧ (0 : Int32).toInt ≤ 2147483647 from zrg (0 : Int32))
          refine zs_putI (pc := 63) t325_63 (zk1 (w7s.k fk_zMm_336)) rfl ?_
          refine zs_aload_n (pc := 66) t325_66 rfl ?_
          refine zs_iconst (pc := 67) t325_67 (v := 0) (by decide) ?_
          have w10 : zIv mLo mHi (zsI (zsI w7M 336 42 (0 : Int32)) 336 43 (0 : Int32)) := zIv.put w9 (show (-2147483648) ≤ (0 : Int32).toInt ∧ (0 : Int32).toInt ≤ 2147483647 from zrg (0 : Int32))
          refine zs_putI (pc := 68) t325_68 (zk1 (w7s.k fk_zMm_336)) rfl ?_
          refine zs_aload_n (pc := 71) t325_71 rfl ?_
          refine zs_iconst (pc := 72) t325_72 (v := 0) (by decide) ?_
          have w11 : zIv mLo mHi (zsI (zsI (zsI w7M 336 42 (0 : Int32)) 336 43 (0 : Int32)) 336 44 (0 : Int32)) := zIv.put w10 (show (-2147483648) ≤ (0 : Int32).toInt ∧ (0 : Int32).toInt ≤ 2147483647 from zrg (0 : Int32))
          refine zs_putI (pc := 73) t325_73 (zk1 (w7s.k fk_zMm_336)) rfl ?_
          refine zs_aload_n (pc := 76) t325_76 rfl ?_
          refine zs_iconst (pc := 77) t325_77 (v := 0) (by decide) ?_
          have w12 : zIv mLo mHi (zsI (zsI (zsI (zsI w7M 336 42 (0 : Int32)) 336 43 (0 : Int32)) 336 44 (0 : Int32)) 336 45 (0 : Int32)) := zIv.put w11 (show (-2147483648) ≤ (0 : Int32).toInt ∧ (0 : Int32).toInt ≤ 2147483647 from zrg (0 : Int32))
          refine zs_putI (pc := 78) t325_78 (zk1 (w7s.k fk_zMm_336)) rfl ?_
          refine zs_iconst (pc := 81) t325_81 (v := 0) (by decide) ?_
          refine zs_istore (pc := 82) t325_82 (ls' := [(6, .int (0 : Int32)), (0, .ref 336), (1, .int a), (2, .int b), (3, .int c), (4, .int d), (5, .int w5v)]) (zml mf325 (by decide)) rfl ?_
          refine zs_iconst (pc := 84) t325_84 (v := 0) (by decide) ?_
          refine zs_istore (pc := 85) t325_85 (ls' := [(7, .int (0 : Int32)), (6, .int (0 : Int32)), (0, .ref 336), (1, .int a), (2, .int b), (3, .int c), (4, .int d), (5, .int w5v)]) (zml mf325 (by decide)) rfl ?_
          have w13L : ∀ (m : Nat) (w13x6 : Int32) (w13x7 : Int32) (w13M : zM), (0 ≤ w13x6.toInt ∧ w13x6.toInt ≤ 200) → (0 ≤ w13x7.toInt ∧ w13x7.toInt ≤ 200) → zSk zMm w13M → zIv mLo mHi w13M → zFr [(360, 360, none), (361, 361, none), (336, 336, some 42), (336, 336, some 43), (336, 336, some 44), (336, 336, some 45)] (zsI (zsI (zsI (zsI w7M 336 42 (0 : Int32)) 336 43 (0 : Int32)) 336 44 (0 : Int32)) 336 45 (0 : Int32)) w13M → zJ w13M 351 = zJ (zsI (zsI (zsI (zsI w7M 336 42 (0 : Int32)) 336 43 (0 : Int32)) 336 44 (0 : Int32)) 336 45 (0 : Int32)) 351 → (w13x6.toInt ≤ w13x7.toInt) → 200 - w13x7.toInt ≤ (m : Int) → zGo X l 8 0 0 325 87 [(0, .ref 336), (1, .int a), (2, .int b), (3, .int c), (4, .int d), (5, .int w5v), (6, .int w13x6), (7, .int w13x7)] [] w13M Q := by
            intro m
            induction m using Nat.strongRecOn with
            | ind w13m w13ih =>
              intro w13x6 w13x7 w13M w13b6 w13b7 w13s w13I w13F w13J w13r0 w13q
              refine zs_iload (pc := 87) t325_87 rfl ?_
              refine zs_iload_n (pc := 89) t325_89 rfl ?_
              by_cases w14 : a.toInt ≤ w13x7.toInt
              · refine zs_icmp_geT (pc := 90) t325_90 rfl rfl (by omega) ?_
                exact zs_vret (pc := 368) t325_368 mr325 (hQ _ w13s w13I ((((((((zFr.refl).trans (w1F.mono rfl)).trans (w7F.mono rfl)).put rfl).put rfl).put rfl).put rfl).trans (w13F.mono rfl)) (zPF.fr (zPF.fr (M' := (zsI (zsI (zsI (zsI w7M 336 42 (0 : Int32)) 336 43 (0 : Int32)) 336 44 (0 : Int32)) 336 45 (0 : Int32))) (zPF.fr (M' := (zsI (zsI (zsI w7M 336 42 (0 : Int32)) 336 43 (0 : Int32)) 336 44 (0 : Int32))) (zPF.fr (M' := (zsI (zsI w7M 336 42 (0 : Int32)) 336 43 (0 : Int32))) (zPF.fr (M' := (zsI w7M 336 42 (0 : Int32))) (zPF.fr w1PF (w7F.eq rfl) w7J) (zEq.put rfl) rfl) (zEq.put rfl) rfl) (zEq.put rfl) rfl) (zEq.put rfl) rfl) (w13F.eq rfl) w13J))
              · refine zs_icmp_geF (pc := 90) t325_90 rfl rfl (by omega) ?_
                refine zs_iload (pc := 93) t325_93 rfl ?_
                refine zs_iload_n (pc := 95) t325_95 rfl ?_
                obtain ⟨w15v, w15⟩ : ∃ v, w13x7 * b = v := ⟨_, rfl⟩
                have w15g := zrg w15v
                refine zs_imul (pc := 96) t325_96 (c := w15v) w15 ?_
                refine zs_istore (pc := 97) t325_97 (ls' := [(8, .int w15v), (0, .ref 336), (1, .int a), (2, .int b), (3, .int c), (4, .int d), (5, .int w5v), (6, .int w13x6), (7, .int w13x7)]) (zml mf325 (by decide)) rfl ?_
                refine zs_iconst (pc := 99) t325_99 (v := 0) (by decide) ?_
                refine zs_istore (pc := 100) t325_100 (ls' := [(9, .int (0 : Int32)), (8, .int w15v), (0, .ref 336), (1, .int a), (2, .int b), (3, .int c), (4, .int d), (5, .int w5v), (6, .int w13x6), (7, .int w13x7)]) (zml mf325 (by decide)) rfl ?_
                refine zs_iconst (pc := 102) t325_102 (v := 0) (by decide) ?_
                refine zs_istore (pc := 103) t325_103 (ls' := [(10, .int (0 : Int32)), (9, .int (0 : Int32)), (8, .int w15v), (0, .ref 336), (1, .int a), (2, .int b), (3, .int c), (4, .int d), (5, .int w5v), (6, .int w13x6), (7, .int w13x7)]) (zml mf325 (by decide)) rfl ?_
                have w16L : ∀ (m : Nat) (w16x9 : Int32) (w16x10 : Int32), (0 ≤ w16x10.toInt ∧ w16x10.toInt ≤ 200) → 200 - w16x10.toInt ≤ (m : Int) → zGo X l 8 0 0 325 105 [(0, .ref 336), (1, .int a), (2, .int b), (3, .int c), (4, .int d), (5, .int w5v), (6, .int w13x6), (7, .int w13x7), (8, .int w15v), (9, .int w16x9), (10, .int w16x10)] [] w13M Q := by
                  intro m
                  induction m using Nat.strongRecOn with
                  | ind w16m w16ih =>
                    intro w16x9 w16x10 w16b10 w16q
                    have w16g9 := zrg w16x9
                    refine zs_iload (pc := 105) t325_105 rfl ?_
                    refine zs_iload (pc := 107) t325_107 rfl ?_
                    by_cases w17 : w13x6.toInt ≤ w16x10.toInt
                    · refine zs_icmp_geT (pc := 109) t325_109 rfl rfl (by omega) ?_
                      refine zs_iconst (pc := 140) t325_140 (v := 0) (by decide) ?_
                      refine zs_istore (pc := 141) t325_141 (ls' := [(10, .int (0 : Int32)), (0, .ref 336), (1, .int a), (2, .int b), (3, .int c), (4, .int d), (5, .int w5v), (6, .int w13x6), (7, .int w13x7), (8, .int w15v), (9, .int w16x9)]) (zml mf325 (by decide)) rfl ?_
                      refine zs_iconst (pc := 143) t325_143 (v := 1) (by decide) ?_
                      refine zs_istore (pc := 144) t325_144 (ls' := [(11, .int (1 : Int32)), (10, .int (0 : Int32)), (0, .ref 336), (1, .int a), (2, .int b), (3, .int c), (4, .int d), (5, .int w5v), (6, .int w13x6), (7, .int w13x7), (8, .int w15v), (9, .int w16x9)]) (zml mf325 (by decide)) rfl ?_
                      have w18L : ∀ (m : Nat) (w18x10 : Int32) (w18x11 : Int32), (0 ≤ w18x10.toInt ∧ w18x10.toInt ≤ 7) → (1 ≤ w18x11.toInt ∧ w18x11.toInt ≤ 8) → 8 - w18x11.toInt ≤ (m : Int) → zGo X l 8 0 0 325 146 [(0, .ref 336), (1, .int a), (2, .int b), (3, .int c), (4, .int d), (5, .int w5v), (6, .int w13x6), (7, .int w13x7), (8, .int w15v), (9, .int w16x9), (10, .int w18x10), (11, .int w18x11)] [] w13M Q := by
                        intro m
                        induction m using Nat.strongRecOn with
                        | ind w18m w18ih =>
                          intro w18x10 w18x11 w18b10 w18b11 w18q
                          refine zs_iload (pc := 146) t325_146 rfl ?_
                          refine zs_iload_n (pc := 148) t325_148 rfl ?_
                          by_cases w19 : c.toInt ≤ w18x11.toInt
                          · refine zs_icmp_geT (pc := 149) t325_149 rfl rfl (by omega) ?_
                            refine zs_aload_n (pc := 184) t325_184 rfl ?_
                            refine zs_get (pc := 185) t325_185 (by decide) (zk1 (w13s.k fk_zMm_336)) (w13s.p rfl fv_zMm_336_40) ?_
                            refine zs_iload (pc := 188) t325_188 rfl ?_
                            obtain ⟨w20n, w20⟩ : ∃ n : Nat, w18x10.toInt = (n : Int) := ⟨(w18x10.toInt).toNat, by omega⟩
                            have w21 := zrg (zI w13M 360 w20n)
                            refine zs_iald (pc := 190) t325_190 (j := w20n) (by decide) (zk1 (w13s.k fk_zMm_360)) (show w18x10.toInt = ((w20n : Nat) : Int) by omega) (zk2 (w13s.k fk_zMm_360) (by omega)) rfl ?_
                            refine zs_iload (pc := 191) t325_191 rfl ?_
                            by_cases w22 : w15v.toInt < (zI w13M 360 w20n).toInt
                            · refine zs_icmp_gtT (pc := 193) t325_193 rfl rfl (by omega) ?_
                              refine zs_iconst (pc := 200) t325_200 (v := 0) (by decide) ?_
                              refine zs_istore (pc := 201) t325_201 (ls' := [(11, .int (0 : Int32)), (0, .ref 336), (1, .int a), (2, .int b), (3, .int c), (4, .int d), (5, .int w5v), (6, .int w13x6), (7, .int w13x7), (8, .int w15v), (9, .int w16x9), (10, .int w18x10)]) (zml mf325 (by decide)) rfl ?_
                              refine zs_iload (pc := 203) t325_203 rfl ?_
                              refine zs_if_neF (pc := 205) t325_205 li0 (by decide) ?_
                              refine zs_iload (pc := 208) t325_208 rfl ?_
                              refine zs_iload (pc := 210) t325_210 rfl ?_
                              by_cases w23 : w16x9.toInt ≠ d.toInt
                              · refine zs_icmp_neT (pc := 212) t325_212 rfl rfl (by omega) ?_
                                refine zs_iload (pc := 228) t325_228 rfl ?_
                                refine zs_if_neF (pc := 230) t325_230 li0 (by decide) ?_
                                refine zs_iload (pc := 233) t325_233 rfl ?_
                                refine zs_iconst (pc := 235) t325_235 (v := 1) (by decide) ?_
                                obtain ⟨w24v, w24⟩ : ∃ v, v = w16x9 + (1 : Int32) := ⟨_, rfl⟩
                                have w24g := zrg w24v
                                refine zs_iadd (pc := 236) t325_236 (c := w24v) w24.symm ?_
                                refine zs_aload_n (pc := 237) t325_237 rfl ?_
                                have w25 := zrg (zI w13M 336 44)
                                refine zs_get (pc := 238) t325_238 (by decide) (zk1 (w13s.k fk_zMm_336)) (zfvi rfl rfl) ?_
                                by_cases w26 : w24v.toInt ≤ (zI w13M 336 44).toInt
                                · refine zs_icmp_leT (pc := 241) t325_241 rfl rfl (by omega) ?_
                                  refine zs_aload_n (pc := 252) t325_252 rfl ?_
                                  refine zs_get (pc := 253) t325_253 (by decide) (zk1 (w13s.k fk_zMm_336)) (w13s.p rfl fv_zMm_336_41) ?_
                                  refine zs_iload (pc := 256) t325_256 rfl ?_
                                  refine zs_iload (pc := 258) t325_258 rfl ?_
                                  refine zs_if_eqT (pc := 260) t325_260 li0 (by decide) ?_
                                  refine zs_aload_n (pc := 268) t325_268 rfl ?_
                                  refine zs_get (pc := 269) t325_269 (by decide) (zk1 (w13s.k fk_zMm_336)) (w13s.p rfl fv_zMm_336_40) ?_
                                  refine zs_iload (pc := 272) t325_272 rfl ?_
                                  refine zs_iald (pc := 274) t325_274 (j := w20n) (by decide) (zk1 (w13s.k fk_zMm_360)) (show w18x10.toInt = ((w20n : Nat) : Int) by omega) (zk2 (w13s.k fk_zMm_360) (by omega)) rfl ?_
                                  obtain ⟨w27n, w27⟩ : ∃ n : Nat, w13x6.toInt = (n : Int) := ⟨(w13x6.toInt).toNat, by omega⟩
                                  have w28 : zIv mLo mHi (zsI w13M 361 w27n (zI w13M 360 w20n)) := zIv.put w13I (show (-2147483648) ≤ (zI w13M 360 w20n).toInt ∧ (zI w13M 360 w20n).toInt ≤ 2147483647 from zrg (zI w13M 360 w20n))
                                  refine zs_iast (pc := 275) t325_275 (j := w27n) (by decide) (zk1 (w13s.k fk_zMm_361)) (show w13x6.toInt = ((w27n : Nat) : Int) by omega) (zk2 (w13s.k fk_zMm_361) (by omega)) ?_
                                  refine zs_aload_n (pc := 276) t325_276 rfl ?_
                                  refine zs_get (pc := 277) t325_277 (by decide) (zk1 (w13s.k fk_zMm_336)) (w13s.p rfl fv_zMm_336_40) ?_
                                  refine zs_iload (pc := 280) t325_280 rfl ?_
                                  refine zs_aload_n (pc := 282) t325_282 rfl ?_
                                  refine zs_get (pc := 283) t325_283 (by decide) (zk1 (w13s.k fk_zMm_336)) (w13s.p rfl fv_zMm_336_41) ?_
                                  refine zs_iload (pc := 286) t325_286 rfl ?_
                                  refine zs_iald (pc := 288) t325_288 (j := w27n) (by decide) (zk1 (w13s.k fk_zMm_361)) (show w13x6.toInt = ((w27n : Nat) : Int) by omega) (zk2 (w13s.k fk_zMm_361) (by omega)) zIs ?_
                                  refine zs_iload (pc := 289) t325_289 rfl ?_
                                  obtain ⟨w29v, w29⟩ : ∃ v, v = (zI w13M 360 w20n) + w5v := ⟨_, rfl⟩
                                  have w29g := zrg w29v
                                  refine zs_iadd (pc := 291) t325_291 (c := w29v) w29.symm ?_
                                  have w30 : zIv mLo mHi (zsI (zsI w13M 361 w27n (zI w13M 360 w20n)) 360 w20n w29v) := zIv.put w28 (show (-2147483648) ≤ w29v.toInt ∧ w29v.toInt ≤ 2147483647 from zrg w29v)
                                  refine zs_iast (pc := 292) t325_292 (j := w20n) (by decide) (zk1 (w13s.k fk_zMm_360)) (show w18x10.toInt = ((w20n : Nat) : Int) by omega) (zk2 (w13s.k fk_zMm_360) (by omega)) ?_
                                  refine zs_aload_n (pc := 293) t325_293 rfl ?_
                                  refine zs_dup (pc := 294) t325_294 rfl ?_
                                  have w31 := zrg (zI w13M 336 43)
                                  refine zs_get (pc := 295) t325_295 (by decide) (zk1 (w13s.k fk_zMm_336)) (zfvi rfl ((zIo (by decide)).trans ((zIo (by decide)).trans rfl))) ?_
                                  refine zs_aload_n (pc := 298) t325_298 rfl ?_
                                  refine zs_get (pc := 299) t325_299 (by decide) (zk1 (w13s.k fk_zMm_336)) (w13s.p rfl fv_zMm_336_40) ?_
                                  refine zs_iload (pc := 302) t325_302 rfl ?_
                                  refine zs_iald (pc := 304) t325_304 (j := w20n) (by decide) (zk1 (w13s.k fk_zMm_360)) (show w18x10.toInt = ((w20n : Nat) : Int) by omega) (zk2 (w13s.k fk_zMm_360) (by omega)) zIs ?_
                                  refine zs_iload (pc := 305) t325_305 rfl ?_
                                  obtain ⟨w32v, w32⟩ : ∃ v, v = w29v - w15v := ⟨_, rfl⟩
                                  have w32g := zrg w32v
                                  refine zs_isub (pc := 307) t325_307 (c := w32v) w32.symm ?_
                                  refine zs_aload_n (pc := 308) t325_308 rfl ?_
                                  refine zs_get (pc := 309) t325_309 (by decide) (zk1 (w13s.k fk_zMm_336)) (w13s.p rfl fv_zMm_336_0) ?_
                                  refine zs_bipush (pc := 312) t325_312 (v := 13) (by decide) ?_
                                  have w33 := ibA13 hI
                                  refine zs_iald (pc := 314) t325_314 (j := 13) (by decide) (zk1 (w13s.k fk_zMm_337)) li13 (zk2 (w13s.k fk_zMm_337) (by decide)) ((zIo (by decide)).trans ((zIo (by decide)).trans ((w13F 337 13 rfl).trans ((zIo (by decide)).trans ((zIo (by decide)).trans ((zIo (by decide)).trans ((zIo (by decide)).trans ((w7F 337 13 rfl).trans ((w1F 337 13 rfl).trans rfl))))))))) ?_
                                  by_cases w34 : w32v.toInt ≤ (zI M 337 13).toInt
                                  · refine zs_icmp_leT (pc := 315) t325_315 rfl rfl (by omega) ?_
                                    refine zs_iconst (pc := 322) t325_322 (v := 0) (by decide) ?_
                                    obtain ⟨w35v, w35e, w35⟩ := ziadd (a := (zI w13M 336 43)) (b := (0 : Int32)) rfl li0 (by omega) (by omega)
                                    refine zs_iadd (pc := 323) t325_323 (c := w35v) w35e ?_
                                    have w36 : zIv mLo mHi (zsI (zsI (zsI w13M 361 w27n (zI w13M 360 w20n)) 360 w20n w29v) 336 43 w35v) := zIv.put w30 (show (-2147483648) ≤ w35v.toInt ∧ w35v.toInt ≤ 2147483647 from zrg w35v)
                                    refine zs_putI (pc := 324) t325_324 (zk1 (w13s.k fk_zMm_336)) rfl ?_
                                    refine zs_aload_n (pc := 327) t325_327 rfl ?_
                                    refine zs_aload_n (pc := 328) t325_328 rfl ?_
                                    refine zs_get (pc := 329) t325_329 (by decide) (zk1 (w13s.k fk_zMm_336)) (w13s.p rfl fv_zMm_336_40) ?_
                                    refine zs_iload (pc := 332) t325_332 rfl ?_
                                    refine zs_iald (pc := 334) t325_334 (j := w20n) (by decide) (zk1 (w13s.k fk_zMm_360)) (show w18x10.toInt = ((w20n : Nat) : Int) by omega) (zk2 (w13s.k fk_zMm_360) (by omega)) ((zIo (by decide)).trans zIs) ?_
                                    refine zs_aload_n (pc := 335) t325_335 rfl ?_
                                    have w37 := zrg (zI w13M 336 45)
                                    refine zs_get (pc := 336) t325_336 (by decide) (zk1 (w13s.k fk_zMm_336)) (zfvi rfl ((zIoj (by decide)).trans ((zIo (by decide)).trans ((zIo (by decide)).trans rfl)))) ?_
                                    by_cases w38 : w29v.toInt ≤ (zI w13M 336 45).toInt
                                    · refine zs_icmp_leT (pc := 339) t325_339 rfl rfl (by omega) ?_
                                      refine zs_aload_n (pc := 352) t325_352 rfl ?_
                                      refine zs_get (pc := 353) t325_353 (by decide) (zk1 (w13s.k fk_zMm_336)) (zfvi rfl ((zIoj (by decide)).trans ((zIo (by decide)).trans ((zIo (by decide)).trans rfl)))) ?_
                                      have w39 : zIv mLo mHi (zsI (zsI (zsI (zsI w13M 361 w27n (zI w13M 360 w20n)) 360 w20n w29v) 336 43 w35v) 336 45 (zI w13M 336 45)) := zIv.put w36 (show (-2147483648) ≤ (zI w13M 336 45).toInt ∧ (zI w13M 336 45).toInt ≤ 2147483647 from zrg (zI w13M 336 45))
                                      refine zs_putI (pc := 356) t325_356 (zk1 (w13s.k fk_zMm_336)) rfl ?_
                                      obtain ⟨w40v, w40e, w40⟩ := ziadd (a := w13x6) (b := Int32.ofInt 1) rfl (show (Int32.ofInt 1).toInt = 1 by decide) (by omega) (by omega)
                                      refine zs_iinc (pc := 359) t325_359 (ls' := [(6, .int w40v), (11, .int (0 : Int32)), (0, .ref 336), (1, .int a), (2, .int b), (3, .int c), (4, .int d), (5, .int w5v), (7, .int w13x7), (8, .int w15v), (9, .int w16x9), (10, .int w18x10)]) (zml mf325 (by decide)) rfl (c := w40v) w40e rfl ?_
                                      obtain ⟨w41v, w41e, w41⟩ := ziadd (a := w13x7) (b := Int32.ofInt 1) rfl (show (Int32.ofInt 1).toInt = 1 by decide) (by omega) (by omega)
                                      refine zs_iinc (pc := 362) t325_362 (ls' := [(7, .int w41v), (6, .int w40v), (11, .int (0 : Int32)), (0, .ref 336), (1, .int a), (2, .int b), (3, .int c), (4, .int d), (5, .int w5v), (8, .int w15v), (9, .int w16x9), (10, .int w18x10)]) (zml mf325 (by decide)) rfl (c := w41v) w41e rfl ?_
                                      refine zs_goto (pc := 365) t325_365 ?_
                                      refine zGo.locals (ls' := [(0, .ref 336), (1, .int a), (2, .int b), (3, .int c), (4, .int d), (5, .int w5v), (6, .int w40v), (7, .int w41v)]) (by simp) ?_
                                      have w42 := w40
                                      have w43 := w41
                                      exact w13ih (w13m - 1) (by omega) w40v w41v (zsI (zsI (zsI (zsI w13M 361 w27n (zI w13M 360 w20n)) 360 w20n w29v) 336 43 w35v) 336 45 (zI w13M 336 45)) ⟨by omega, by omega⟩ ⟨by omega, by omega⟩ w13s w39 ((((((zFr.refl).trans (w13F.mono rfl)).put rfl).put rfl).put rfl).put rfl) w13J (by omega) (by omega)
                                    · refine zs_icmp_leF (pc := 339) t325_339 rfl rfl (by omega) ?_
                                      refine zs_aload_n (pc := 342) t325_342 rfl ?_
                                      refine zs_get (pc := 343) t325_343 (by decide) (zk1 (w13s.k fk_zMm_336)) (w13s.p rfl fv_zMm_336_40) ?_
                                      refine zs_iload (pc := 346) t325_346 rfl ?_
                                      refine zs_iald (pc := 348) t325_348 (j := w20n) (by decide) (zk1 (w13s.k fk_zMm_360)) (show w18x10.toInt = ((w20n : Nat) : Int) by omega) (zk2 (w13s.k fk_zMm_360) (by omega)) ((zIo (by decide)).trans zIs) ?_
                                      refine zs_goto (pc := 349) t325_349 ?_
                                      have w44 : zIv mLo mHi (zsI (zsI (zsI (zsI w13M 361 w27n (zI w13M 360 w20n)) 360 w20n w29v) 336 43 w35v) 336 45 w29v) := zIv.put w36 (show (-2147483648) ≤ w29v.toInt ∧ w29v.toInt ≤ 2147483647 from zrg w29v)
                                      refine zs_putI (pc := 356) t325_356 (zk1 (w13s.k fk_zMm_336)) rfl ?_
                                      obtain ⟨w45v, w45e, w45⟩ := ziadd (a := w13x6) (b := Int32.ofInt 1) rfl (show (Int32.ofInt 1).toInt = 1 by decide) (by omega) (by omega)
                                      refine zs_iinc (pc := 359) t325_359 (ls' := [(6, .int w45v), (11, .int (0 : Int32)), (0, .ref 336), (1, .int a), (2, .int b), (3, .int c), (4, .int d), (5, .int w5v), (7, .int w13x7), (8, .int w15v), (9, .int w16x9), (10, .int w18x10)]) (zml mf325 (by decide)) rfl (c := w45v) w45e rfl ?_
                                      obtain ⟨w46v, w46e, w46⟩ := ziadd (a := w13x7) (b := Int32.ofInt 1) rfl (show (Int32.ofInt 1).toInt = 1 by decide) (by omega) (by omega)
                                      refine zs_iinc (pc := 362) t325_362 (ls' := [(7, .int w46v), (6, .int w45v), (11, .int (0 : Int32)), (0, .ref 336), (1, .int a), (2, .int b), (3, .int c), (4, .int d), (5, .int w5v), (8, .int w15v), (9, .int w16x9), (10, .int w18x10)]) (zml mf325 (by decide)) rfl (c := w46v) w46e rfl ?_
                                      refine zs_goto (pc := 365) t325_365 ?_
                                      refine zGo.locals (ls' := [(0, .ref 336), (1, .int a), (2, .int b), (3, .int c), (4, .int d), (5, .int w5v), (6, .int w45v), (7, .int w46v)]) (by simp) ?_
                                      have w47 := w45
                                      have w48 := w46
                                      exact w13ih (w13m - 1) (by omega) w45v w46v (zsI (zsI (zsI (zsI w13M 361 w27n (zI w13M 360 w20n)) 360 w20n w29v) 336 43 w35v) 336 45 w29v) ⟨by omega, by omega⟩ ⟨by omega, by omega⟩ w13s w44 ((((((zFr.refl).trans (w13F.mono rfl)).put rfl).put rfl).put rfl).put rfl) w13J (by omega) (by omega)
                                  · refine zs_icmp_leF (pc := 315) t325_315 rfl rfl (by omega) ?_
                                    refine zs_iconst (pc := 318) t325_318 (v := 1) (by decide) ?_
                                    refine zs_goto (pc := 319) t325_319 ?_
                                    obtain ⟨w49v, w49⟩ : ∃ v, v = (zI w13M 336 43) + (1 : Int32) := ⟨_, rfl⟩
                                    have w49g := zrg w49v
                                    refine zs_iadd (pc := 323) t325_323 (c := w49v) w49.symm ?_
                                    have w50 : zIv mLo mHi (zsI (zsI (zsI w13M 361 w27n (zI w13M 360 w20n)) 360 w20n w29v) 336 43 w49v) := zIv.put w30 (show (-2147483648) ≤ w49v.toInt ∧ w49v.toInt ≤ 2147483647 from zrg w49v)
                                    refine zs_putI (pc := 324) t325_324 (zk1 (w13s.k fk_zMm_336)) rfl ?_
                                    refine zs_aload_n (pc := 327) t325_327 rfl ?_
                                    refine zs_aload_n (pc := 328) t325_328 rfl ?_
                                    refine zs_get (pc := 329) t325_329 (by decide) (zk1 (w13s.k fk_zMm_336)) (w13s.p rfl fv_zMm_336_40) ?_
                                    refine zs_iload (pc := 332) t325_332 rfl ?_
                                    refine zs_iald (pc := 334) t325_334 (j := w20n) (by decide) (zk1 (w13s.k fk_zMm_360)) (show w18x10.toInt = ((w20n : Nat) : Int) by omega) (zk2 (w13s.k fk_zMm_360) (by omega)) ((zIo (by decide)).trans zIs) ?_
                                    refine zs_aload_n (pc := 335) t325_335 rfl ?_
                                    have w51 := zrg (zI w13M 336 45)
                                    refine zs_get (pc := 336) t325_336 (by decide) (zk1 (w13s.k fk_zMm_336)) (zfvi rfl ((zIoj (by decide)).trans ((zIo (by decide)).trans ((zIo (by decide)).trans rfl)))) ?_
                                    by_cases w52 : w29v.toInt ≤ (zI w13M 336 45).toInt
                                    · refine zs_icmp_leT (pc := 339) t325_339 rfl rfl (by omega) ?_
                                      refine zs_aload_n (pc := 352) t325_352 rfl ?_
                                      refine zs_get (pc := 353) t325_353 (by decide) (zk1 (w13s.k fk_zMm_336)) (zfvi rfl ((zIoj (by decide)).trans ((zIo (by decide)).trans ((zIo (by decide)).trans rfl)))) ?_
                                      have w53 : zIv mLo mHi (zsI (zsI (zsI (zsI w13M 361 w27n (zI w13M 360 w20n)) 360 w20n w29v) 336 43 w49v) 336 45 (zI w13M 336 45)) := zIv.put w50 (show (-2147483648) ≤ (zI w13M 336 45).toInt ∧ (zI w13M 336 45).toInt ≤ 2147483647 from zrg (zI w13M 336 45))
                                      refine zs_putI (pc := 356) t325_356 (zk1 (w13s.k fk_zMm_336)) rfl ?_
                                      obtain ⟨w54v, w54e, w54⟩ := ziadd (a := w13x6) (b := Int32.ofInt 1) rfl (show (Int32.ofInt 1).toInt = 1 by decide) (by omega) (by omega)
                                      refine zs_iinc (pc := 359) t325_359 (ls' := [(6, .int w54v), (11, .int (0 : Int32)), (0, .ref 336), (1, .int a), (2, .int b), (3, .int c), (4, .int d), (5, .int w5v), (7, .int w13x7), (8, .int w15v), (9, .int w16x9), (10, .int w18x10)]) (zml mf325 (by decide)) rfl (c := w54v) w54e rfl ?_
                                      obtain ⟨w55v, w55e, w55⟩ := ziadd (a := w13x7) (b := Int32.ofInt 1) rfl (show (Int32.ofInt 1).toInt = 1 by decide) (by omega) (by omega)
                                      refine zs_iinc (pc := 362) t325_362 (ls' := [(7, .int w55v), (6, .int w54v), (11, .int (0 : Int32)), (0, .ref 336), (1, .int a), (2, .int b), (3, .int c), (4, .int d), (5, .int w5v), (8, .int w15v), (9, .int w16x9), (10, .int w18x10)]) (zml mf325 (by decide)) rfl (c := w55v) w55e rfl ?_
                                      refine zs_goto (pc := 365) t325_365 ?_
                                      refine zGo.locals (ls' := [(0, .ref 336), (1, .int a), (2, .int b), (3, .int c), (4, .int d), (5, .int w5v), (6, .int w54v), (7, .int w55v)]) (by simp) ?_
                                      have w56 := w54
                                      have w57 := w55
                                      exact w13ih (w13m - 1) (by omega) w54v w55v (zsI (zsI (zsI (zsI w13M 361 w27n (zI w13M 360 w20n)) 360 w20n w29v) 336 43 w49v) 336 45 (zI w13M 336 45)) ⟨by omega, by omega⟩ ⟨by omega, by omega⟩ w13s w53 ((((((zFr.refl).trans (w13F.mono rfl)).put rfl).put rfl).put rfl).put rfl) w13J (by omega) (by omega)
                                    · refine zs_icmp_leF (pc := 339) t325_339 rfl rfl (by omega) ?_
                                      refine zs_aload_n (pc := 342) t325_342 rfl ?_
                                      refine zs_get (pc := 343) t325_343 (by decide) (zk1 (w13s.k fk_zMm_336)) (w13s.p rfl fv_zMm_336_40) ?_
                                      refine zs_iload (pc := 346) t325_346 rfl ?_
                                      refine zs_iald (pc := 348) t325_348 (j := w20n) (by decide) (zk1 (w13s.k fk_zMm_360)) (show w18x10.toInt = ((w20n : Nat) : Int) by omega) (zk2 (w13s.k fk_zMm_360) (by omega)) ((zIo (by decide)).trans zIs) ?_
                                      refine zs_goto (pc := 349) t325_349 ?_
                                      have w58 : zIv mLo mHi (zsI (zsI (zsI (zsI w13M 361 w27n (zI w13M 360 w20n)) 360 w20n w29v) 336 43 w49v) 336 45 w29v) := zIv.put w50 (show (-2147483648) ≤ w29v.toInt ∧ w29v.toInt ≤ 2147483647 from zrg w29v)
                                      refine zs_putI (pc := 356) t325_356 (zk1 (w13s.k fk_zMm_336)) rfl ?_
                                      obtain ⟨w59v, w59e, w59⟩ := ziadd (a := w13x6) (b := Int32.ofInt 1) rfl (show (Int32.ofInt 1).toInt = 1 by decide) (by omega) (by omega)
                                      refine zs_iinc (pc := 359) t325_359 (ls' := [(6, .int w59v), (11, .int (0 : Int32)), (0, .ref 336), (1, .int a), (2, .int b), (3, .int c), (4, .int d), (5, .int w5v), (7, .int w13x7), (8, .int w15v), (9, .int w16x9), (10, .int w18x10)]) (zml mf325 (by decide)) rfl (c := w59v) w59e rfl ?_
                                      obtain ⟨w60v, w60e, w60⟩ := ziadd (a := w13x7) (b := Int32.ofInt 1) rfl (show (Int32.ofInt 1).toInt = 1 by decide) (by omega) (by omega)
                                      refine zs_iinc (pc := 362) t325_362 (ls' := [(7, .int w60v), (6, .int w59v), (11, .int (0 : Int32)), (0, .ref 336), (1, .int a), (2, .int b), (3, .int c), (4, .int d), (5, .int w5v), (8, .int w15v), (9, .int w16x9), (10, .int w18x10)]) (zml mf325 (by decide)) rfl (c := w60v) w60e rfl ?_
                                      refine zs_goto (pc := 365) t325_365 ?_
                                      refine zGo.locals (ls' := [(0, .ref 336), (1, .int a), (2, .int b), (3, .int c), (4, .int d), (5, .int w5v), (6, .int w59v), (7, .int w60v)]) (by simp) ?_
                                      have w61 := w59
                                      have w62 := w60
                                      exact w13ih (w13m - 1) (by omega) w59v w60v (zsI (zsI (zsI (zsI w13M 361 w27n (zI w13M 360 w20n)) 360 w20n w29v) 336 43 w49v) 336 45 w29v) ⟨by omega, by omega⟩ ⟨by omega, by omega⟩ w13s w58 ((((((zFr.refl).trans (w13F.mono rfl)).put rfl).put rfl).put rfl).put rfl) w13J (by omega) (by omega)
                                · refine zs_icmp_leF (pc := 241) t325_241 rfl rfl (by omega) ?_
                                  refine zs_aload_n (pc := 244) t325_244 rfl ?_
                                  refine zs_iload (pc := 245) t325_245 rfl ?_
                                  refine zs_iconst (pc := 247) t325_247 (v := 1) (by decide) ?_
                                  obtain ⟨w63v, w63⟩ : ∃ v, v = w16x9 + (1 : Int32) := ⟨_, rfl⟩
                                  have w63g := zrg w63v
                                  refine zs_iadd (pc := 248) t325_248 (c := w63v) w63.symm ?_
                                  have w64 : zIv mLo mHi (zsI w13M 336 44 w63v) := zIv.put w13I (show (-2147483648) ≤ w63v.toInt ∧ w63v.toInt ≤ 2147483647 from zrg w63v)
                                  refine zs_putI (pc := 249) t325_249 (zk1 (w13s.k fk_zMm_336)) rfl ?_
                                  refine zs_aload_n (pc := 252) t325_252 rfl ?_
                                  refine zs_get (pc := 253) t325_253 (by decide) (zk1 (w13s.k fk_zMm_336)) (w13s.p rfl fv_zMm_336_41) ?_
                                  refine zs_iload (pc := 256) t325_256 rfl ?_
                                  refine zs_iload (pc := 258) t325_258 rfl ?_
                                  refine zs_if_eqT (pc := 260) t325_260 li0 (by decide) ?_
                                  refine zs_aload_n (pc := 268) t325_268 rfl ?_
                                  refine zs_get (pc := 269) t325_269 (by decide) (zk1 (w13s.k fk_zMm_336)) (w13s.p rfl fv_zMm_336_40) ?_
                                  refine zs_iload (pc := 272) t325_272 rfl ?_
                                  refine zs_iald (pc := 274) t325_274 (j := w20n) (by decide) (zk1 (w13s.k fk_zMm_360)) (show w18x10.toInt = ((w20n : Nat) : Int) by omega) (zk2 (w13s.k fk_zMm_360) (by omega)) ((zIo (by decide)).trans rfl) ?_
                                  obtain ⟨w65n, w65⟩ : ∃ n : Nat, w13x6.toInt = (n : Int) := ⟨(w13x6.toInt).toNat, by omega⟩
                                  have w66 : zIv mLo mHi (zsI (zsI w13M 336 44 w63v) 361 w65n (zI w13M 360 w20n)) := zIv.put w64 (show (-2147483648) ≤ (zI w13M 360 w20n).toInt ∧ (zI w13M 360 w20n).toInt ≤ 2147483647 from zrg (zI w13M 360 w20n))
                                  refine zs_iast (pc := 275) t325_275 (j := w65n) (by decide) (zk1 (w13s.k fk_zMm_361)) (show w13x6.toInt = ((w65n : Nat) : Int) by omega) (zk2 (w13s.k fk_zMm_361) (by omega)) ?_
                                  refine zs_aload_n (pc := 276) t325_276 rfl ?_
                                  refine zs_get (pc := 277) t325_277 (by decide) (zk1 (w13s.k fk_zMm_336)) (w13s.p rfl fv_zMm_336_40) ?_
                                  refine zs_iload (pc := 280) t325_280 rfl ?_
                                  refine zs_aload_n (pc := 282) t325_282 rfl ?_
                                  refine zs_get (pc := 283) t325_283 (by decide) (zk1 (w13s.k fk_zMm_336)) (w13s.p rfl fv_zMm_336_41) ?_
                                  refine zs_iload (pc := 286) t325_286 rfl ?_
                                  refine zs_iald (pc := 288) t325_288 (j := w65n) (by decide) (zk1 (w13s.k fk_zMm_361)) (show w13x6.toInt = ((w65n : Nat) : Int) by omega) (zk2 (w13s.k fk_zMm_361) (by omega)) zIs ?_
                                  refine zs_iload (pc := 289) t325_289 rfl ?_
                                  obtain ⟨w67v, w67⟩ : ∃ v, v = (zI w13M 360 w20n) + w5v := ⟨_, rfl⟩
                                  have w67g := zrg w67v
                                  refine zs_iadd (pc := 291) t325_291 (c := w67v) w67.symm ?_
                                  have w68 : zIv mLo mHi (zsI (zsI (zsI w13M 336 44 w63v) 361 w65n (zI w13M 360 w20n)) 360 w20n w67v) := zIv.put w66 (show (-2147483648) ≤ w67v.toInt ∧ w67v.toInt ≤ 2147483647 from zrg w67v)
                                  refine zs_iast (pc := 292) t325_292 (j := w20n) (by decide) (zk1 (w13s.k fk_zMm_360)) (show w18x10.toInt = ((w20n : Nat) : Int) by omega) (zk2 (w13s.k fk_zMm_360) (by omega)) ?_
                                  refine zs_aload_n (pc := 293) t325_293 rfl ?_
                                  refine zs_dup (pc := 294) t325_294 rfl ?_
                                  have w69 := zrg (zI w13M 336 43)
                                  refine zs_get (pc := 295) t325_295 (by decide) (zk1 (w13s.k fk_zMm_336)) (zfvi rfl ((zIo (by decide)).trans ((zIo (by decide)).trans ((zIoj (by decide)).trans rfl)))) ?_
                                  refine zs_aload_n (pc := 298) t325_298 rfl ?_
                                  refine zs_get (pc := 299) t325_299 (by decide) (zk1 (w13s.k fk_zMm_336)) (w13s.p rfl fv_zMm_336_40) ?_
                                  refine zs_iload (pc := 302) t325_302 rfl ?_
                                  refine zs_iald (pc := 304) t325_304 (j := w20n) (by decide) (zk1 (w13s.k fk_zMm_360)) (show w18x10.toInt = ((w20n : Nat) : Int) by omega) (zk2 (w13s.k fk_zMm_360) (by omega)) zIs ?_
                                  refine zs_iload (pc := 305) t325_305 rfl ?_
                                  obtain ⟨w70v, w70⟩ : ∃ v, v = w67v - w15v := ⟨_, rfl⟩
                                  have w70g := zrg w70v
                                  refine zs_isub (pc := 307) t325_307 (c := w70v) w70.symm ?_
                                  refine zs_aload_n (pc := 308) t325_308 rfl ?_
                                  refine zs_get (pc := 309) t325_309 (by decide) (zk1 (w13s.k fk_zMm_336)) (w13s.p rfl fv_zMm_336_0) ?_
                                  refine zs_bipush (pc := 312) t325_312 (v := 13) (by decide) ?_
                                  refine zs_iald (pc := 314) t325_314 (j := 13) (by decide) (zk1 (w13s.k fk_zMm_337)) li13 (zk2 (w13s.k fk_zMm_337) (by decide)) ((zIo (by decide)).trans ((zIo (by decide)).trans ((zIo (by decide)).trans ((w13F 337 13 rfl).trans ((zIo (by decide)).trans ((zIo (by decide)).trans ((zIo (by decide)).trans ((zIo (by decide)).trans ((w7F 337 13 rfl).trans ((w1F 337 13 rfl).trans rfl)))))))))) ?_
                                  by_cases w71 : w70v.toInt ≤ (zI M 337 13).toInt
                                  · refine zs_icmp_leT (pc := 315) t325_315 rfl rfl (by omega) ?_
                                    refine zs_iconst (pc := 322) t325_322 (v := 0) (by decide) ?_
                                    obtain ⟨w72v, w72e, w72⟩ := ziadd (a := (zI w13M 336 43)) (b := (0 : Int32)) rfl li0 (by omega) (by omega)
                                    refine zs_iadd (pc := 323) t325_323 (c := w72v) w72e ?_
                                    have w73 : zIv mLo mHi (zsI (zsI (zsI (zsI w13M 336 44 w63v) 361 w65n (zI w13M 360 w20n)) 360 w20n w67v) 336 43 w72v) := zIv.put w68 (show (-2147483648) ≤ w72v.toInt ∧ w72v.toInt ≤ 2147483647 from zrg w72v)
                                    refine zs_putI (pc := 324) t325_324 (zk1 (w13s.k fk_zMm_336)) rfl ?_
                                    refine zs_aload_n (pc := 327) t325_327 rfl ?_
                                    refine zs_aload_n (pc := 328) t325_328 rfl ?_
                                    refine zs_get (pc := 329) t325_329 (by decide) (zk1 (w13s.k fk_zMm_336)) (w13s.p rfl fv_zMm_336_40) ?_
                                    refine zs_iload (pc := 332) t325_332 rfl ?_
                                    refine zs_iald (pc := 334) t325_334 (j := w20n) (by decide) (zk1 (w13s.k fk_zMm_360)) (show w18x10.toInt = ((w20n : Nat) : Int) by omega) (zk2 (w13s.k fk_zMm_360) (by omega)) ((zIo (by decide)).trans zIs) ?_
                                    refine zs_aload_n (pc := 335) t325_335 rfl ?_
                                    have w74 := zrg (zI w13M 336 45)
                                    refine zs_get (pc := 336) t325_336 (by decide) (zk1 (w13s.k fk_zMm_336)) (zfvi rfl ((zIoj (by decide)).trans ((zIo (by decide)).trans ((zIo (by decide)).trans ((zIoj (by decide)).trans rfl))))) ?_
                                    by_cases w75 : w67v.toInt ≤ (zI w13M 336 45).toInt
                                    · refine zs_icmp_leT (pc := 339) t325_339 rfl rfl (by omega) ?_
                                      refine zs_aload_n (pc := 352) t325_352 rfl ?_
                                      refine zs_get (pc := 353) t325_353 (by decide) (zk1 (w13s.k fk_zMm_336)) (zfvi rfl ((zIoj (by decide)).trans ((zIo (by decide)).trans ((zIo (by decide)).trans ((zIoj (by decide)).trans rfl))))) ?_
                                      have w76 : zIv mLo mHi (zsI (zsI (zsI (zsI (zsI w13M 336 44 w63v) 361 w65n (zI w13M 360 w20n)) 360 w20n w67v) 336 43 w72v) 336 45 (zI w13M 336 45)) := zIv.put w73 (show (-2147483648) ≤ (zI w13M 336 45).toInt ∧ (zI w13M 336 45).toInt ≤ 2147483647 from zrg (zI w13M 336 45))
                                      refine zs_putI (pc := 356) t325_356 (zk1 (w13s.k fk_zMm_336)) rfl ?_
                                      obtain ⟨w77v, w77e, w77⟩ := ziadd (a := w13x6) (b := Int32.ofInt 1) rfl (show (Int32.ofInt 1).toInt = 1 by decide) (by omega) (by omega)
                                      refine zs_iinc (pc := 359) t325_359 (ls' := [(6, .int w77v), (11, .int (0 : Int32)), (0, .ref 336), (1, .int a), (2, .int b), (3, .int c), (4, .int d), (5, .int w5v), (7, .int w13x7), (8, .int w15v), (9, .int w16x9), (10, .int w18x10)]) (zml mf325 (by decide)) rfl (c := w77v) w77e rfl ?_
                                      obtain ⟨w78v, w78e, w78⟩ := ziadd (a := w13x7) (b := Int32.ofInt 1) rfl (show (Int32.ofInt 1).toInt = 1 by decide) (by omega) (by omega)
                                      refine zs_iinc (pc := 362) t325_362 (ls' := [(7, .int w78v), (6, .int w77v), (11, .int (0 : Int32)), (0, .ref 336), (1, .int a), (2, .int b), (3, .int c), (4, .int d), (5, .int w5v), (8, .int w15v), (9, .int w16x9), (10, .int w18x10)]) (zml mf325 (by decide)) rfl (c := w78v) w78e rfl ?_
                                      refine zs_goto (pc := 365) t325_365 ?_
                                      refine zGo.locals (ls' := [(0, .ref 336), (1, .int a), (2, .int b), (3, .int c), (4, .int d), (5, .int w5v), (6, .int w77v), (7, .int w78v)]) (by simp) ?_
                                      have w79 := w77
                                      have w80 := w78
                                      exact w13ih (w13m - 1) (by omega) w77v w78v (zsI (zsI (zsI (zsI (zsI w13M 336 44 w63v) 361 w65n (zI w13M 360 w20n)) 360 w20n w67v) 336 43 w72v) 336 45 (zI w13M 336 45)) ⟨by omega, by omega⟩ ⟨by omega, by omega⟩ w13s w76 (((((((zFr.refl).trans (w13F.mono rfl)).put rfl).put rfl).put rfl).put rfl).put rfl) w13J (by omega) (by omega)
                                    · refine zs_icmp_leF (pc := 339) t325_339 rfl rfl (by omega) ?_
                                      refine zs_aload_n (pc := 342) t325_342 rfl ?_
                                      refine zs_get (pc := 343) t325_343 (by decide) (zk1 (w13s.k fk_zMm_336)) (w13s.p rfl fv_zMm_336_40) ?_
                                      refine zs_iload (pc := 346) t325_346 rfl ?_
                                      refine zs_iald (pc := 348) t325_348 (j := w20n) (by decide) (zk1 (w13s.k fk_zMm_360)) (show w18x10.toInt = ((w20n : Nat) : Int) by omega) (zk2 (w13s.k fk_zMm_360) (by omega)) ((zIo (by decide)).trans zIs) ?_
                                      refine zs_goto (pc := 349) t325_349 ?_
                                      have w81 : zIv mLo mHi (zsI (zsI (zsI (zsI (zsI w13M 336 44 w63v) 361 w65n (zI w13M 360 w20n)) 360 w20n w67v) 336 43 w72v) 336 45 w67v) := zIv.put w73 (show (-2147483648) ≤ w67v.toInt ∧ w67v.toInt ≤ 2147483647 from zrg w67v)
                                      refine zs_putI (pc := 356) t325_356 (zk1 (w13s.k fk_zMm_336)) rfl ?_
                                      obtain ⟨w82v, w82e, w82⟩ := ziadd (a := w13x6) (b := Int32.ofInt 1) rfl (show (Int32.ofInt 1).toInt = 1 by decide) (by omega) (by omega)
                                      refine zs_iinc (pc := 359) t325_359 (ls' := [(6, .int w82v), (11, .int (0 : Int32)), (0, .ref 336), (1, .int a), (2, .int b), (3, .int c), (4, .int d), (5, .int w5v), (7, .int w13x7), (8, .int w15v), (9, .int w16x9), (10, .int w18x10)]) (zml mf325 (by decide)) rfl (c := w82v) w82e rfl ?_
                                      obtain ⟨w83v, w83e, w83⟩ := ziadd (a := w13x7) (b := Int32.ofInt 1) rfl (show (Int32.ofInt 1).toInt = 1 by decide) (by omega) (by omega)
                                      refine zs_iinc (pc := 362) t325_362 (ls' := [(7, .int w83v), (6, .int w82v), (11, .int (0 : Int32)), (0, .ref 336), (1, .int a), (2, .int b), (3, .int c), (4, .int d), (5, .int w5v), (8, .int w15v), (9, .int w16x9), (10, .int w18x10)]) (zml mf325 (by decide)) rfl (c := w83v) w83e rfl ?_
                                      refine zs_goto (pc := 365) t325_365 ?_
                                      refine zGo.locals (ls' := [(0, .ref 336), (1, .int a), (2, .int b), (3, .int c), (4, .int d), (5, .int w5v), (6, .int w82v), (7, .int w83v)]) (by simp) ?_
                                      have w84 := w82
                                      have w85 := w83
                                      exact w13ih (w13m - 1) (by omega) w82v w83v (zsI (zsI (zsI (zsI (zsI w13M 336 44 w63v) 361 w65n (zI w13M 360 w20n)) 360 w20n w67v) 336 43 w72v) 336 45 w67v) ⟨by omega, by omega⟩ ⟨by omega, by omega⟩ w13s w81 (((((((zFr.refl).trans (w13F.mono rfl)).put rfl).put rfl).put rfl).put rfl).put rfl) w13J (by omega) (by omega)
                                  · refine zs_icmp_leF (pc := 315) t325_315 rfl rfl (by omega) ?_
                                    refine zs_iconst (pc := 318) t325_318 (v := 1) (by decide) ?_
                                    refine zs_goto (pc := 319) t325_319 ?_
                                    obtain ⟨w86v, w86⟩ : ∃ v, v = (zI w13M 336 43) + (1 : Int32) := ⟨_, rfl⟩
                                    have w86g := zrg w86v
                                    refine zs_iadd (pc := 323) t325_323 (c := w86v) w86.symm ?_
                                    have w87 : zIv mLo mHi (zsI (zsI (zsI (zsI w13M 336 44 w63v) 361 w65n (zI w13M 360 w20n)) 360 w20n w67v) 336 43 w86v) := zIv.put w68 (show (-2147483648) ≤ w86v.toInt ∧ w86v.toInt ≤ 2147483647 from zrg w86v)
                                    refine zs_putI (pc := 324) t325_324 (zk1 (w13s.k fk_zMm_336)) rfl ?_
                                    refine zs_aload_n (pc := 327) t325_327 rfl ?_
                                    refine zs_aload_n (pc := 328) t325_328 rfl ?_
                                    refine zs_get (pc := 329) t325_329 (by decide) (zk1 (w13s.k fk_zMm_336)) (w13s.p rfl fv_zMm_336_40) ?_
                                    refine zs_iload (pc := 332) t325_332 rfl ?_
                                    refine zs_iald (pc := 334) t325_334 (j := w20n) (by decide) (zk1 (w13s.k fk_zMm_360)) (show w18x10.toInt = ((w20n : Nat) : Int) by omega) (zk2 (w13s.k fk_zMm_360) (by omega)) ((zIo (by decide)).trans zIs) ?_
                                    refine zs_aload_n (pc := 335) t325_335 rfl ?_
                                    have w88 := zrg (zI w13M 336 45)
                                    refine zs_get (pc := 336) t325_336 (by decide) (zk1 (w13s.k fk_zMm_336)) (zfvi rfl ((zIoj (by decide)).trans ((zIo (by decide)).trans ((zIo (by decide)).trans ((zIoj (by decide)).trans rfl))))) ?_
                                    by_cases w89 : w67v.toInt ≤ (zI w13M 336 45).toInt
                                    · refine zs_icmp_leT (pc := 339) t325_339 rfl rfl (by omega) ?_
                                      refine zs_aload_n (pc := 352) t325_352 rfl ?_
                                      refine zs_get (pc := 353) t325_353 (by decide) (zk1 (w13s.k fk_zMm_336)) (zfvi rfl ((zIoj (by decide)).trans ((zIo (by decide)).trans ((zIo (by decide)).trans ((zIoj (by decide)).trans rfl))))) ?_
                                      have w90 : zIv mLo mHi (zsI (zsI (zsI (zsI (zsI w13M 336 44 w63v) 361 w65n (zI w13M 360 w20n)) 360 w20n w67v) 336 43 w86v) 336 45 (zI w13M 336 45)) := zIv.put w87 (show (-2147483648) ≤ (zI w13M 336 45).toInt ∧ (zI w13M 336 45).toInt ≤ 2147483647 from zrg (zI w13M 336 45))
                                      refine zs_putI (pc := 356) t325_356 (zk1 (w13s.k fk_zMm_336)) rfl ?_
                                      obtain ⟨w91v, w91e, w91⟩ := ziadd (a := w13x6) (b := Int32.ofInt 1) rfl (show (Int32.ofInt 1).toInt = 1 by decide) (by omega) (by omega)
                                      refine zs_iinc (pc := 359) t325_359 (ls' := [(6, .int w91v), (11, .int (0 : Int32)), (0, .ref 336), (1, .int a), (2, .int b), (3, .int c), (4, .int d), (5, .int w5v), (7, .int w13x7), (8, .int w15v), (9, .int w16x9), (10, .int w18x10)]) (zml mf325 (by decide)) rfl (c := w91v) w91e rfl ?_
                                      obtain ⟨w92v, w92e, w92⟩ := ziadd (a := w13x7) (b := Int32.ofInt 1) rfl (show (Int32.ofInt 1).toInt = 1 by decide) (by omega) (by omega)
                                      refine zs_iinc (pc := 362) t325_362 (ls' := [(7, .int w92v), (6, .int w91v), (11, .int (0 : Int32)), (0, .ref 336), (1, .int a), (2, .int b), (3, .int c), (4, .int d), (5, .int w5v), (8, .int w15v), (9, .int w16x9), (10, .int w18x10)]) (zml mf325 (by decide)) rfl (c := w92v) w92e rfl ?_
                                      refine zs_goto (pc := 365) t325_365 ?_
                                      refine zGo.locals (ls' := [(0, .ref 336), (1, .int a), (2, .int b), (3, .int c), (4, .int d), (5, .int w5v), (6, .int w91v), (7, .int w92v)]) (by simp) ?_
                                      have w93 := w91
                                      have w94 := w92
                                      exact w13ih (w13m - 1) (by omega) w91v w92v (zsI (zsI (zsI (zsI (zsI w13M 336 44 w63v) 361 w65n (zI w13M 360 w20n)) 360 w20n w67v) 336 43 w86v) 336 45 (zI w13M 336 45)) ⟨by omega, by omega⟩ ⟨by omega, by omega⟩ w13s w90 (((((((zFr.refl).trans (w13F.mono rfl)).put rfl).put rfl).put rfl).put rfl).put rfl) w13J (by omega) (by omega)
                                    · refine zs_icmp_leF (pc := 339) t325_339 rfl rfl (by omega) ?_
                                      refine zs_aload_n (pc := 342) t325_342 rfl ?_
                                      refine zs_get (pc := 343) t325_343 (by decide) (zk1 (w13s.k fk_zMm_336)) (w13s.p rfl fv_zMm_336_40) ?_
                                      refine zs_iload (pc := 346) t325_346 rfl ?_
                                      refine zs_iald (pc := 348) t325_348 (j := w20n) (by decide) (zk1 (w13s.k fk_zMm_360)) (show w18x10.toInt = ((w20n : Nat) : Int) by omega) (zk2 (w13s.k fk_zMm_360) (by omega)) ((zIo (by decide)).trans zIs) ?_
                                      refine zs_goto (pc := 349) t325_349 ?_
                                      have w95 : zIv mLo mHi (zsI (zsI (zsI (zsI (zsI w13M 336 44 w63v) 361 w65n (zI w13M 360 w20n)) 360 w20n w67v) 336 43 w86v) 336 45 w67v) := zIv.put w87 (show (-2147483648) ≤ w67v.toInt ∧ w67v.toInt ≤ 2147483647 from zrg w67v)
                                      refine zs_putI (pc := 356) t325_356 (zk1 (w13s.k fk_zMm_336)) rfl ?_
                                      obtain ⟨w96v, w96e, w96⟩ := ziadd (a := w13x6) (b := Int32.ofInt 1) rfl (show (Int32.ofInt 1).toInt = 1 by decide) (by omega) (by omega)
                                      refine zs_iinc (pc := 359) t325_359 (ls' := [(6, .int w96v), (11, .int (0 : Int32)), (0, .ref 336), (1, .int a), (2, .int b), (3, .int c), (4, .int d), (5, .int w5v), (7, .int w13x7), (8, .int w15v), (9, .int w16x9), (10, .int w18x10)]) (zml mf325 (by decide)) rfl (c := w96v) w96e rfl ?_
                                      obtain ⟨w97v, w97e, w97⟩ := ziadd (a := w13x7) (b := Int32.ofInt 1) rfl (show (Int32.ofInt 1).toInt = 1 by decide) (by omega) (by omega)
                                      refine zs_iinc (pc := 362) t325_362 (ls' := [(7, .int w97v), (6, .int w96v), (11, .int (0 : Int32)), (0, .ref 336), (1, .int a), (2, .int b), (3, .int c), (4, .int d), (5, .int w5v), (8, .int w15v), (9, .int w16x9), (10, .int w18x10)]) (zml mf325 (by decide)) rfl (c := w97v) w97e rfl ?_
                                      refine zs_goto (pc := 365) t325_365 ?_
                                      refine zGo.locals (ls' := [(0, .ref 336), (1, .int a), (2, .int b), (3, .int c), (4, .int d), (5, .int w5v), (6, .int w96v), (7, .int w97v)]) (by simp) ?_
                                      have w98 := w96
                                      have w99 := w97
                                      exact w13ih (w13m - 1) (by omega) w96v w97v (zsI (zsI (zsI (zsI (zsI w13M 336 44 w63v) 361 w65n (zI w13M 360 w20n)) 360 w20n w67v) 336 43 w86v) 336 45 w67v) ⟨by omega, by omega⟩ ⟨by omega, by omega⟩ w13s w95 (((((((zFr.refl).trans (w13F.mono rfl)).put rfl).put rfl).put rfl).put rfl).put rfl) w13J (by omega) (by omega)
                              · refine zs_icmp_neF (pc := 212) t325_212 rfl rfl (by omega) ?_
                                refine zs_aload_n (pc := 215) t325_215 rfl ?_
                                refine zs_dup (pc := 216) t325_216 rfl ?_
                                have w100 := zrg (zI w13M 336 42)
                                refine zs_get (pc := 217) t325_217 (by decide) (zk1 (w13s.k fk_zMm_336)) (zfvi rfl rfl) ?_
                                refine zs_iconst (pc := 220) t325_220 (v := 1) (by decide) ?_
                                obtain ⟨w101v, w101⟩ : ∃ v, v = (zI w13M 336 42) + (1 : Int32) := ⟨_, rfl⟩
                                have w101g := zrg w101v
                                refine zs_iadd (pc := 221) t325_221 (c := w101v) w101.symm ?_
                                have w102 : zIv mLo mHi (zsI w13M 336 42 w101v) := zIv.put w13I (show (-2147483648) ≤ w101v.toInt ∧ w101v.toInt ≤ 2147483647 from zrg w101v)
                                refine zs_putI (pc := 222) t325_222 (zk1 (w13s.k fk_zMm_336)) rfl ?_
                                refine zs_goto (pc := 225) t325_225 ?_
                                obtain ⟨w103v, w103e, w103⟩ := ziadd (a := w13x7) (b := Int32.ofInt 1) rfl (show (Int32.ofInt 1).toInt = 1 by decide) (by omega) (by omega)
                                refine zs_iinc (pc := 362) t325_362 (ls' := [(7, .int w103v), (11, .int (0 : Int32)), (0, .ref 336), (1, .int a), (2, .int b), (3, .int c), (4, .int d), (5, .int w5v), (6, .int w13x6), (8, .int w15v), (9, .int w16x9), (10, .int w18x10)]) (zml mf325 (by decide)) rfl (c := w103v) w103e rfl ?_
                                refine zs_goto (pc := 365) t325_365 ?_
                                refine zGo.locals (ls' := [(0, .ref 336), (1, .int a), (2, .int b), (3, .int c), (4, .int d), (5, .int w5v), (6, .int w13x6), (7, .int w103v)]) (by simp) ?_
                                have w104 := w103
                                exact w13ih (w13m - 1) (by omega) w13x6 w103v (zsI w13M 336 42 w101v) ⟨by omega, by omega⟩ ⟨by omega, by omega⟩ w13s w102 (((zFr.refl).trans (w13F.mono rfl)).put rfl) w13J (by omega) (by omega)
                            · refine zs_icmp_gtF (pc := 193) t325_193 rfl rfl (by omega) ?_
                              refine zs_iconst (pc := 196) t325_196 (v := 1) (by decide) ?_
                              refine zs_goto (pc := 197) t325_197 ?_
                              refine zs_istore (pc := 201) t325_201 (ls' := [(11, .int (1 : Int32)), (0, .ref 336), (1, .int a), (2, .int b), (3, .int c), (4, .int d), (5, .int w5v), (6, .int w13x6), (7, .int w13x7), (8, .int w15v), (9, .int w16x9), (10, .int w18x10)]) (zml mf325 (by decide)) rfl ?_
                              refine zs_iload (pc := 203) t325_203 rfl ?_
                              refine zs_if_neT (pc := 205) t325_205 li1 (by decide) ?_
                              refine zs_iload (pc := 228) t325_228 rfl ?_
                              refine zs_if_neT (pc := 230) t325_230 li1 (by decide) ?_
                              refine zs_aload_n (pc := 252) t325_252 rfl ?_
                              refine zs_get (pc := 253) t325_253 (by decide) (zk1 (w13s.k fk_zMm_336)) (w13s.p rfl fv_zMm_336_41) ?_
                              refine zs_iload (pc := 256) t325_256 rfl ?_
                              refine zs_iload (pc := 258) t325_258 rfl ?_
                              refine zs_if_eqF (pc := 260) t325_260 li1 (by decide) ?_
                              refine zs_iload (pc := 263) t325_263 rfl ?_
                              refine zs_goto (pc := 265) t325_265 ?_
                              obtain ⟨w105n, w105⟩ : ∃ n : Nat, w13x6.toInt = (n : Int) := ⟨(w13x6.toInt).toNat, by omega⟩
                              have w106 : zIv mLo mHi (zsI w13M 361 w105n w15v) := zIv.put w13I (show (-2147483648) ≤ w15v.toInt ∧ w15v.toInt ≤ 2147483647 from zrg w15v)
                              refine zs_iast (pc := 275) t325_275 (j := w105n) (by decide) (zk1 (w13s.k fk_zMm_361)) (show w13x6.toInt = ((w105n : Nat) : Int) by omega) (zk2 (w13s.k fk_zMm_361) (by omega)) ?_
                              refine zs_aload_n (pc := 276) t325_276 rfl ?_
                              refine zs_get (pc := 277) t325_277 (by decide) (zk1 (w13s.k fk_zMm_336)) (w13s.p rfl fv_zMm_336_40) ?_
                              refine zs_iload (pc := 280) t325_280 rfl ?_
                              refine zs_aload_n (pc := 282) t325_282 rfl ?_
                              refine zs_get (pc := 283) t325_283 (by decide) (zk1 (w13s.k fk_zMm_336)) (w13s.p rfl fv_zMm_336_41) ?_
                              refine zs_iload (pc := 286) t325_286 rfl ?_
                              refine zs_iald (pc := 288) t325_288 (j := w105n) (by decide) (zk1 (w13s.k fk_zMm_361)) (show w13x6.toInt = ((w105n : Nat) : Int) by omega) (zk2 (w13s.k fk_zMm_361) (by omega)) zIs ?_
                              refine zs_iload (pc := 289) t325_289 rfl ?_
                              obtain ⟨w107v, w107⟩ : ∃ v, v = w15v + w5v := ⟨_, rfl⟩
                              have w107g := zrg w107v
                              refine zs_iadd (pc := 291) t325_291 (c := w107v) w107.symm ?_
                              have w108 : zIv mLo mHi (zsI (zsI w13M 361 w105n w15v) 360 w20n w107v) := zIv.put w106 (show (-2147483648) ≤ w107v.toInt ∧ w107v.toInt ≤ 2147483647 from zrg w107v)
                              refine zs_iast (pc := 292) t325_292 (j := w20n) (by decide) (zk1 (w13s.k fk_zMm_360)) (show w18x10.toInt = ((w20n : Nat) : Int) by omega) (zk2 (w13s.k fk_zMm_360) (by omega)) ?_
                              refine zs_aload_n (pc := 293) t325_293 rfl ?_
                              refine zs_dup (pc := 294) t325_294 rfl ?_
                              have w109 := zrg (zI w13M 336 43)
                              refine zs_get (pc := 295) t325_295 (by decide) (zk1 (w13s.k fk_zMm_336)) (zfvi rfl ((zIo (by decide)).trans ((zIo (by decide)).trans rfl))) ?_
                              refine zs_aload_n (pc := 298) t325_298 rfl ?_
                              refine zs_get (pc := 299) t325_299 (by decide) (zk1 (w13s.k fk_zMm_336)) (w13s.p rfl fv_zMm_336_40) ?_
                              refine zs_iload (pc := 302) t325_302 rfl ?_
                              refine zs_iald (pc := 304) t325_304 (j := w20n) (by decide) (zk1 (w13s.k fk_zMm_360)) (show w18x10.toInt = ((w20n : Nat) : Int) by omega) (zk2 (w13s.k fk_zMm_360) (by omega)) zIs ?_
                              refine zs_iload (pc := 305) t325_305 rfl ?_
                              obtain ⟨w110v, w110⟩ : ∃ v, v = w107v - w15v := ⟨_, rfl⟩
                              have w110g := zrg w110v
                              refine zs_isub (pc := 307) t325_307 (c := w110v) w110.symm ?_
                              refine zs_aload_n (pc := 308) t325_308 rfl ?_
                              refine zs_get (pc := 309) t325_309 (by decide) (zk1 (w13s.k fk_zMm_336)) (w13s.p rfl fv_zMm_336_0) ?_
                              refine zs_bipush (pc := 312) t325_312 (v := 13) (by decide) ?_
                              refine zs_iald (pc := 314) t325_314 (j := 13) (by decide) (zk1 (w13s.k fk_zMm_337)) li13 (zk2 (w13s.k fk_zMm_337) (by decide)) ((zIo (by decide)).trans ((zIo (by decide)).trans ((w13F 337 13 rfl).trans ((zIo (by decide)).trans ((zIo (by decide)).trans ((zIo (by decide)).trans ((zIo (by decide)).trans ((w7F 337 13 rfl).trans ((w1F 337 13 rfl).trans rfl))))))))) ?_
                              by_cases w111 : w110v.toInt ≤ (zI M 337 13).toInt
                              · refine zs_icmp_leT (pc := 315) t325_315 rfl rfl (by omega) ?_
                                refine zs_iconst (pc := 322) t325_322 (v := 0) (by decide) ?_
                                obtain ⟨w112v, w112e, w112⟩ := ziadd (a := (zI w13M 336 43)) (b := (0 : Int32)) rfl li0 (by omega) (by omega)
                                refine zs_iadd (pc := 323) t325_323 (c := w112v) w112e ?_
                                have w113 : zIv mLo mHi (zsI (zsI (zsI w13M 361 w105n w15v) 360 w20n w107v) 336 43 w112v) := zIv.put w108 (show (-2147483648) ≤ w112v.toInt ∧ w112v.toInt ≤ 2147483647 from zrg w112v)
                                refine zs_putI (pc := 324) t325_324 (zk1 (w13s.k fk_zMm_336)) rfl ?_
                                refine zs_aload_n (pc := 327) t325_327 rfl ?_
                                refine zs_aload_n (pc := 328) t325_328 rfl ?_
                                refine zs_get (pc := 329) t325_329 (by decide) (zk1 (w13s.k fk_zMm_336)) (w13s.p rfl fv_zMm_336_40) ?_
                                refine zs_iload (pc := 332) t325_332 rfl ?_
                                refine zs_iald (pc := 334) t325_334 (j := w20n) (by decide) (zk1 (w13s.k fk_zMm_360)) (show w18x10.toInt = ((w20n : Nat) : Int) by omega) (zk2 (w13s.k fk_zMm_360) (by omega)) ((zIo (by decide)).trans zIs) ?_
                                refine zs_aload_n (pc := 335) t325_335 rfl ?_
                                have w114 := zrg (zI w13M 336 45)
                                refine zs_get (pc := 336) t325_336 (by decide) (zk1 (w13s.k fk_zMm_336)) (zfvi rfl ((zIoj (by decide)).trans ((zIo (by decide)).trans ((zIo (by decide)).trans rfl)))) ?_
                                by_cases w115 : w107v.toInt ≤ (zI w13M 336 45).toInt
                                · refine zs_icmp_leT (pc := 339) t325_339 rfl rfl (by omega) ?_
                                  refine zs_aload_n (pc := 352) t325_352 rfl ?_
                                  refine zs_get (pc := 353) t325_353 (by decide) (zk1 (w13s.k fk_zMm_336)) (zfvi rfl ((zIoj (by decide)).trans ((zIo (by decide)).trans ((zIo (by decide)).trans rfl)))) ?_
                                  have w116 : zIv mLo mHi (zsI (zsI (zsI (zsI w13M 361 w105n w15v) 360 w20n w107v) 336 43 w112v) 336 45 (zI w13M 336 45)) := zIv.put w113 (show (-2147483648) ≤ (zI w13M 336 45).toInt ∧ (zI w13M 336 45).toInt ≤ 2147483647 from zrg (zI w13M 336 45))
                                  refine zs_putI (pc := 356) t325_356 (zk1 (w13s.k fk_zMm_336)) rfl ?_
                                  obtain ⟨w117v, w117e, w117⟩ := ziadd (a := w13x6) (b := Int32.ofInt 1) rfl (show (Int32.ofInt 1).toInt = 1 by decide) (by omega) (by omega)
                                  refine zs_iinc (pc := 359) t325_359 (ls' := [(6, .int w117v), (11, .int (1 : Int32)), (0, .ref 336), (1, .int a), (2, .int b), (3, .int c), (4, .int d), (5, .int w5v), (7, .int w13x7), (8, .int w15v), (9, .int w16x9), (10, .int w18x10)]) (zml mf325 (by decide)) rfl (c := w117v) w117e rfl ?_
                                  obtain ⟨w118v, w118e, w118⟩ := ziadd (a := w13x7) (b := Int32.ofInt 1) rfl (show (Int32.ofInt 1).toInt = 1 by decide) (by omega) (by omega)
                                  refine zs_iinc (pc := 362) t325_362 (ls' := [(7, .int w118v), (6, .int w117v), (11, .int (1 : Int32)), (0, .ref 336), (1, .int a), (2, .int b), (3, .int c), (4, .int d), (5, .int w5v), (8, .int w15v), (9, .int w16x9), (10, .int w18x10)]) (zml mf325 (by decide)) rfl (c := w118v) w118e rfl ?_
                                  refine zs_goto (pc := 365) t325_365 ?_
                                  refine zGo.locals (ls' := [(0, .ref 336), (1, .int a), (2, .int b), (3, .int c), (4, .int d), (5, .int w5v), (6, .int w117v), (7, .int w118v)]) (by simp) ?_
                                  have w119 := w117
                                  have w120 := w118
                                  exact w13ih (w13m - 1) (by omega) w117v w118v (zsI (zsI (zsI (zsI w13M 361 w105n w15v) 360 w20n w107v) 336 43 w112v) 336 45 (zI w13M 336 45)) ⟨by omega, by omega⟩ ⟨by omega, by omega⟩ w13s w116 ((((((zFr.refl).trans (w13F.mono rfl)).put rfl).put rfl).put rfl).put rfl) w13J (by omega) (by omega)
                                · refine zs_icmp_leF (pc := 339) t325_339 rfl rfl (by omega) ?_
                                  refine zs_aload_n (pc := 342) t325_342 rfl ?_
                                  refine zs_get (pc := 343) t325_343 (by decide) (zk1 (w13s.k fk_zMm_336)) (w13s.p rfl fv_zMm_336_40) ?_
                                  refine zs_iload (pc := 346) t325_346 rfl ?_
                                  refine zs_iald (pc := 348) t325_348 (j := w20n) (by decide) (zk1 (w13s.k fk_zMm_360)) (show w18x10.toInt = ((w20n : Nat) : Int) by omega) (zk2 (w13s.k fk_zMm_360) (by omega)) ((zIo (by decide)).trans zIs) ?_
                                  refine zs_goto (pc := 349) t325_349 ?_
                                  have w121 : zIv mLo mHi (zsI (zsI (zsI (zsI w13M 361 w105n w15v) 360 w20n w107v) 336 43 w112v) 336 45 w107v) := zIv.put w113 (show (-2147483648) ≤ w107v.toInt ∧ w107v.toInt ≤ 2147483647 from zrg w107v)
                                  refine zs_putI (pc := 356) t325_356 (zk1 (w13s.k fk_zMm_336)) rfl ?_
                                  obtain ⟨w122v, w122e, w122⟩ := ziadd (a := w13x6) (b := Int32.ofInt 1) rfl (show (Int32.ofInt 1).toInt = 1 by decide) (by omega) (by omega)
                                  refine zs_iinc (pc := 359) t325_359 (ls' := [(6, .int w122v), (11, .int (1 : Int32)), (0, .ref 336), (1, .int a), (2, .int b), (3, .int c), (4, .int d), (5, .int w5v), (7, .int w13x7), (8, .int w15v), (9, .int w16x9), (10, .int w18x10)]) (zml mf325 (by decide)) rfl (c := w122v) w122e rfl ?_
                                  obtain ⟨w123v, w123e, w123⟩ := ziadd (a := w13x7) (b := Int32.ofInt 1) rfl (show (Int32.ofInt 1).toInt = 1 by decide) (by omega) (by omega)
                                  refine zs_iinc (pc := 362) t325_362 (ls' := [(7, .int w123v), (6, .int w122v), (11, .int (1 : Int32)), (0, .ref 336), (1, .int a), (2, .int b), (3, .int c), (4, .int d), (5, .int w5v), (8, .int w15v), (9, .int w16x9), (10, .int w18x10)]) (zml mf325 (by decide)) rfl (c := w123v) w123e rfl ?_
                                  refine zs_goto (pc := 365) t325_365 ?_
                                  refine zGo.locals (ls' := [(0, .ref 336), (1, .int a), (2, .int b), (3, .int c), (4, .int d), (5, .int w5v), (6, .int w122v), (7, .int w123v)]) (by simp) ?_
                                  have w124 := w122
                                  have w125 := w123
                                  exact w13ih (w13m - 1) (by omega) w122v w123v (zsI (zsI (zsI (zsI w13M 361 w105n w15v) 360 w20n w107v) 336 43 w112v) 336 45 w107v) ⟨by omega, by omega⟩ ⟨by omega, by omega⟩ w13s w121 ((((((zFr.refl).trans (w13F.mono rfl)).put rfl).put rfl).put rfl).put rfl) w13J (by omega) (by omega)
                              · refine zs_icmp_leF (pc := 315) t325_315 rfl rfl (by omega) ?_
                                refine zs_iconst (pc := 318) t325_318 (v := 1) (by decide) ?_
                                refine zs_goto (pc := 319) t325_319 ?_
                                obtain ⟨w126v, w126⟩ : ∃ v, v = (zI w13M 336 43) + (1 : Int32) := ⟨_, rfl⟩
                                have w126g := zrg w126v
                                refine zs_iadd (pc := 323) t325_323 (c := w126v) w126.symm ?_
                                have w127 : zIv mLo mHi (zsI (zsI (zsI w13M 361 w105n w15v) 360 w20n w107v) 336 43 w126v) := zIv.put w108 (show (-2147483648) ≤ w126v.toInt ∧ w126v.toInt ≤ 2147483647 from zrg w126v)
                                refine zs_putI (pc := 324) t325_324 (zk1 (w13s.k fk_zMm_336)) rfl ?_
                                refine zs_aload_n (pc := 327) t325_327 rfl ?_
                                refine zs_aload_n (pc := 328) t325_328 rfl ?_
                                refine zs_get (pc := 329) t325_329 (by decide) (zk1 (w13s.k fk_zMm_336)) (w13s.p rfl fv_zMm_336_40) ?_
                                refine zs_iload (pc := 332) t325_332 rfl ?_
                                refine zs_iald (pc := 334) t325_334 (j := w20n) (by decide) (zk1 (w13s.k fk_zMm_360)) (show w18x10.toInt = ((w20n : Nat) : Int) by omega) (zk2 (w13s.k fk_zMm_360) (by omega)) ((zIo (by decide)).trans zIs) ?_
                                refine zs_aload_n (pc := 335) t325_335 rfl ?_
                                have w128 := zrg (zI w13M 336 45)
                                refine zs_get (pc := 336) t325_336 (by decide) (zk1 (w13s.k fk_zMm_336)) (zfvi rfl ((zIoj (by decide)).trans ((zIo (by decide)).trans ((zIo (by decide)).trans rfl)))) ?_
                                by_cases w129 : w107v.toInt ≤ (zI w13M 336 45).toInt
                                · refine zs_icmp_leT (pc := 339) t325_339 rfl rfl (by omega) ?_
                                  refine zs_aload_n (pc := 352) t325_352 rfl ?_
                                  refine zs_get (pc := 353) t325_353 (by decide) (zk1 (w13s.k fk_zMm_336)) (zfvi rfl ((zIoj (by decide)).trans ((zIo (by decide)).trans ((zIo (by decide)).trans rfl)))) ?_
                                  have w130 : zIv mLo mHi (zsI (zsI (zsI (zsI w13M 361 w105n w15v) 360 w20n w107v) 336 43 w126v) 336 45 (zI w13M 336 45)) := zIv.put w127 (show (-2147483648) ≤ (zI w13M 336 45).toInt ∧ (zI w13M 336 45).toInt ≤ 2147483647 from zrg (zI w13M 336 45))
                                  refine zs_putI (pc := 356) t325_356 (zk1 (w13s.k fk_zMm_336)) rfl ?_
                                  obtain ⟨w131v, w131e, w131⟩ := ziadd (a := w13x6) (b := Int32.ofInt 1) rfl (show (Int32.ofInt 1).toInt = 1 by decide) (by omega) (by omega)
                                  refine zs_iinc (pc := 359) t325_359 (ls' := [(6, .int w131v), (11, .int (1 : Int32)), (0, .ref 336), (1, .int a), (2, .int b), (3, .int c), (4, .int d), (5, .int w5v), (7, .int w13x7), (8, .int w15v), (9, .int w16x9), (10, .int w18x10)]) (zml mf325 (by decide)) rfl (c := w131v) w131e rfl ?_
                                  obtain ⟨w132v, w132e, w132⟩ := ziadd (a := w13x7) (b := Int32.ofInt 1) rfl (show (Int32.ofInt 1).toInt = 1 by decide) (by omega) (by omega)
                                  refine zs_iinc (pc := 362) t325_362 (ls' := [(7, .int w132v), (6, .int w131v), (11, .int (1 : Int32)), (0, .ref 336), (1, .int a), (2, .int b), (3, .int c), (4, .int d), (5, .int w5v), (8, .int w15v), (9, .int w16x9), (10, .int w18x10)]) (zml mf325 (by decide)) rfl (c := w132v) w132e rfl ?_
                                  refine zs_goto (pc := 365) t325_365 ?_
                                  refine zGo.locals (ls' := [(0, .ref 336), (1, .int a), (2, .int b), (3, .int c), (4, .int d), (5, .int w5v), (6, .int w131v), (7, .int w132v)]) (by simp) ?_
                                  have w133 := w131
                                  have w134 := w132
                                  exact w13ih (w13m - 1) (by omega) w131v w132v (zsI (zsI (zsI (zsI w13M 361 w105n w15v) 360 w20n w107v) 336 43 w126v) 336 45 (zI w13M 336 45)) ⟨by omega, by omega⟩ ⟨by omega, by omega⟩ w13s w130 ((((((zFr.refl).trans (w13F.mono rfl)).put rfl).put rfl).put rfl).put rfl) w13J (by omega) (by omega)
                                · refine zs_icmp_leF (pc := 339) t325_339 rfl rfl (by omega) ?_
                                  refine zs_aload_n (pc := 342) t325_342 rfl ?_
                                  refine zs_get (pc := 343) t325_343 (by decide) (zk1 (w13s.k fk_zMm_336)) (w13s.p rfl fv_zMm_336_40) ?_
                                  refine zs_iload (pc := 346) t325_346 rfl ?_
                                  refine zs_iald (pc := 348) t325_348 (j := w20n) (by decide) (zk1 (w13s.k fk_zMm_360)) (show w18x10.toInt = ((w20n : Nat) : Int) by omega) (zk2 (w13s.k fk_zMm_360) (by omega)) ((zIo (by decide)).trans zIs) ?_
                                  refine zs_goto (pc := 349) t325_349 ?_
                                  have w135 : zIv mLo mHi (zsI (zsI (zsI (zsI w13M 361 w105n w15v) 360 w20n w107v) 336 43 w126v) 336 45 w107v) := zIv.put w127 (show (-2147483648) ≤ w107v.toInt ∧ w107v.toInt ≤ 2147483647 from zrg w107v)
                                  refine zs_putI (pc := 356) t325_356 (zk1 (w13s.k fk_zMm_336)) rfl ?_
                                  obtain ⟨w136v, w136e, w136⟩ := ziadd (a := w13x6) (b := Int32.ofInt 1) rfl (show (Int32.ofInt 1).toInt = 1 by decide) (by omega) (by omega)
                                  refine zs_iinc (pc := 359) t325_359 (ls' := [(6, .int w136v), (11, .int (1 : Int32)), (0, .ref 336), (1, .int a), (2, .int b), (3, .int c), (4, .int d), (5, .int w5v), (7, .int w13x7), (8, .int w15v), (9, .int w16x9), (10, .int w18x10)]) (zml mf325 (by decide)) rfl (c := w136v) w136e rfl ?_
                                  obtain ⟨w137v, w137e, w137⟩ := ziadd (a := w13x7) (b := Int32.ofInt 1) rfl (show (Int32.ofInt 1).toInt = 1 by decide) (by omega) (by omega)
                                  refine zs_iinc (pc := 362) t325_362 (ls' := [(7, .int w137v), (6, .int w136v), (11, .int (1 : Int32)), (0, .ref 336), (1, .int a), (2, .int b), (3, .int c), (4, .int d), (5, .int w5v), (8, .int w15v), (9, .int w16x9), (10, .int w18x10)]) (zml mf325 (by decide)) rfl (c := w137v) w137e rfl ?_
                                  refine zs_goto (pc := 365) t325_365 ?_
                                  refine zGo.locals (ls' := [(0, .ref 336), (1, .int a), (2, .int b), (3, .int c), (4, .int d), (5, .int w5v), (6, .int w136v), (7, .int w137v)]) (by simp) ?_
                                  have w138 := w136
                                  have w139 := w137
                                  exact w13ih (w13m - 1) (by omega) w136v w137v (zsI (zsI (zsI (zsI w13M 361 w105n w15v) 360 w20n w107v) 336 43 w126v) 336 45 w107v) ⟨by omega, by omega⟩ ⟨by omega, by omega⟩ w13s w135 ((((((zFr.refl).trans (w13F.mono rfl)).put rfl).put rfl).put rfl).put rfl) w13J (by omega) (by omega)
                          · refine zs_icmp_geF (pc := 149) t325_149 rfl rfl (by omega) ?_
                            refine zs_aload_n (pc := 152) t325_152 rfl ?_
                            refine zs_get (pc := 153) t325_153 (by decide) (zk1 (w13s.k fk_zMm_336)) (w13s.p rfl fv_zMm_336_40) ?_
                            refine zs_iload (pc := 156) t325_156 rfl ?_
                            obtain ⟨w140n, w140⟩ : ∃ n : Nat, w18x11.toInt = (n : Int) := ⟨(w18x11.toInt).toNat, by omega⟩
                            have w141 := zrg (zI w13M 360 w140n)
                            refine zs_iald (pc := 158) t325_158 (j := w140n) (by decide) (zk1 (w13s.k fk_zMm_360)) (show w18x11.toInt = ((w140n : Nat) : Int) by omega) (zk2 (w13s.k fk_zMm_360) (by omega)) rfl ?_
                            refine zs_aload_n (pc := 159) t325_159 rfl ?_
                            refine zs_get (pc := 160) t325_160 (by decide) (zk1 (w13s.k fk_zMm_336)) (w13s.p rfl fv_zMm_336_40) ?_
                            refine zs_iload (pc := 163) t325_163 rfl ?_
                            obtain ⟨w142n, w142⟩ : ∃ n : Nat, w18x10.toInt = (n : Int) := ⟨(w18x10.toInt).toNat, by omega⟩
                            have w143 := zrg (zI w13M 360 w142n)
                            refine zs_iald (pc := 165) t325_165 (j := w142n) (by decide) (zk1 (w13s.k fk_zMm_360)) (show w18x10.toInt = ((w142n : Nat) : Int) by omega) (zk2 (w13s.k fk_zMm_360) (by omega)) rfl ?_
                            by_cases w144 : (zI w13M 360 w142n).toInt ≤ (zI w13M 360 w140n).toInt
                            · refine zs_icmp_geT (pc := 166) t325_166 rfl rfl (by omega) ?_
                              refine zs_iload (pc := 174) t325_174 rfl ?_
                              refine zs_istore (pc := 176) t325_176 (ls' := [(10, .int w18x10), (0, .ref 336), (1, .int a), (2, .int b), (3, .int c), (4, .int d), (5, .int w5v), (6, .int w13x6), (7, .int w13x7), (8, .int w15v), (9, .int w16x9), (11, .int w18x11)]) (zml mf325 (by decide)) rfl ?_
                              obtain ⟨w145v, w145e, w145⟩ := ziadd (a := w18x11) (b := Int32.ofInt 1) rfl (show (Int32.ofInt 1).toInt = 1 by decide) (by omega) (by omega)
                              refine zs_iinc (pc := 178) t325_178 (ls' := [(11, .int w145v), (10, .int w18x10), (0, .ref 336), (1, .int a), (2, .int b), (3, .int c), (4, .int d), (5, .int w5v), (6, .int w13x6), (7, .int w13x7), (8, .int w15v), (9, .int w16x9)]) (zml mf325 (by decide)) rfl (c := w145v) w145e rfl ?_
                              refine zs_goto (pc := 181) t325_181 ?_
                              refine zGo.locals (ls' := [(0, .ref 336), (1, .int a), (2, .int b), (3, .int c), (4, .int d), (5, .int w5v), (6, .int w13x6), (7, .int w13x7), (8, .int w15v), (9, .int w16x9), (10, .int w18x10), (11, .int w145v)]) (by simp) ?_
                              have w146 := w145
                              exact w18ih (w18m - 1) (by omega) w18x10 w145v ⟨by omega, by omega⟩ ⟨by omega, by omega⟩ (by omega)
                            · refine zs_icmp_geF (pc := 166) t325_166 rfl rfl (by omega) ?_
                              refine zs_iload (pc := 169) t325_169 rfl ?_
                              refine zs_goto (pc := 171) t325_171 ?_
                              refine zs_istore (pc := 176) t325_176 (ls' := [(10, .int w18x11), (0, .ref 336), (1, .int a), (2, .int b), (3, .int c), (4, .int d), (5, .int w5v), (6, .int w13x6), (7, .int w13x7), (8, .int w15v), (9, .int w16x9), (11, .int w18x11)]) (zml mf325 (by decide)) rfl ?_
                              obtain ⟨w147v, w147e, w147⟩ := ziadd (a := w18x11) (b := Int32.ofInt 1) rfl (show (Int32.ofInt 1).toInt = 1 by decide) (by omega) (by omega)
                              refine zs_iinc (pc := 178) t325_178 (ls' := [(11, .int w147v), (10, .int w18x11), (0, .ref 336), (1, .int a), (2, .int b), (3, .int c), (4, .int d), (5, .int w5v), (6, .int w13x6), (7, .int w13x7), (8, .int w15v), (9, .int w16x9)]) (zml mf325 (by decide)) rfl (c := w147v) w147e rfl ?_
                              refine zs_goto (pc := 181) t325_181 ?_
                              refine zGo.locals (ls' := [(0, .ref 336), (1, .int a), (2, .int b), (3, .int c), (4, .int d), (5, .int w5v), (6, .int w13x6), (7, .int w13x7), (8, .int w15v), (9, .int w16x9), (10, .int w18x11), (11, .int w147v)]) (by simp) ?_
                              have w148 := w147
                              exact w18ih (w18m - 1) (by omega) w18x11 w147v ⟨by omega, by omega⟩ ⟨by omega, by omega⟩ (by omega)
                      refine zGo.locals (ls' := [(0, .ref 336), (1, .int a), (2, .int b), (3, .int c), (4, .int d), (5, .int w5v), (6, .int w13x6), (7, .int w13x7), (8, .int w15v), (9, .int w16x9), (10, .int (0 : Int32)), (11, .int (1 : Int32))]) (by simp) ?_
                      have w149 := li0
                      have w150 := li1
                      exact w18L ((8 - 1 : Int).toNat) (0 : Int32) (1 : Int32) ⟨by decide, by decide⟩ ⟨by decide, by decide⟩ (by omega)
                    · refine zs_icmp_geF (pc := 109) t325_109 rfl rfl (by omega) ?_
                      refine zs_iload (pc := 112) t325_112 rfl ?_
                      refine zs_aload_n (pc := 114) t325_114 rfl ?_
                      refine zs_get (pc := 115) t325_115 (by decide) (zk1 (w13s.k fk_zMm_336)) (w13s.p rfl fv_zMm_336_41) ?_
                      refine zs_iload (pc := 118) t325_118 rfl ?_
                      obtain ⟨w151n, w151⟩ : ∃ n : Nat, w16x10.toInt = (n : Int) := ⟨(w16x10.toInt).toNat, by omega⟩
                      have w152 := zrg (zI w13M 361 w151n)
                      refine zs_iald (pc := 120) t325_120 (j := w151n) (by decide) (zk1 (w13s.k fk_zMm_361)) (show w16x10.toInt = ((w151n : Nat) : Int) by omega) (zk2 (w13s.k fk_zMm_361) (by omega)) rfl ?_
                      refine zs_iload (pc := 121) t325_121 rfl ?_
                      by_cases w153 : (zI w13M 361 w151n).toInt ≤ w15v.toInt
                      · refine zs_icmp_leT (pc := 123) t325_123 rfl rfl (by omega) ?_
                        refine zs_iconst (pc := 130) t325_130 (v := 0) (by decide) ?_
                        obtain ⟨w154v, w154e, w154⟩ := ziadd (a := w16x9) (b := (0 : Int32)) rfl li0 (by omega) (by omega)
                        refine zs_iadd (pc := 131) t325_131 (c := w154v) w154e ?_
                        refine zs_istore (pc := 132) t325_132 (ls' := [(9, .int w154v), (0, .ref 336), (1, .int a), (2, .int b), (3, .int c), (4, .int d), (5, .int w5v), (6, .int w13x6), (7, .int w13x7), (8, .int w15v), (10, .int w16x10)]) (zml mf325 (by decide)) rfl ?_
                        obtain ⟨w155v, w155e, w155⟩ := ziadd (a := w16x10) (b := Int32.ofInt 1) rfl (show (Int32.ofInt 1).toInt = 1 by decide) (by omega) (by omega)
                        refine zs_iinc (pc := 134) t325_134 (ls' := [(10, .int w155v), (9, .int w154v), (0, .ref 336), (1, .int a), (2, .int b), (3, .int c), (4, .int d), (5, .int w5v), (6, .int w13x6), (7, .int w13x7), (8, .int w15v)]) (zml mf325 (by decide)) rfl (c := w155v) w155e rfl ?_
                        refine zs_goto (pc := 137) t325_137 ?_
                        refine zGo.locals (ls' := [(0, .ref 336), (1, .int a), (2, .int b), (3, .int c), (4, .int d), (5, .int w5v), (6, .int w13x6), (7, .int w13x7), (8, .int w15v), (9, .int w154v), (10, .int w155v)]) (by simp) ?_
                        have w156 := w154
                        have w157 := w155
                        exact w16ih (w16m - 1) (by omega) w154v w155v ⟨by omega, by omega⟩ (by omega)
                      · refine zs_icmp_leF (pc := 123) t325_123 rfl rfl (by omega) ?_
                        refine zs_iconst (pc := 126) t325_126 (v := 1) (by decide) ?_
                        refine zs_goto (pc := 127) t325_127 ?_
                        obtain ⟨w158v, w158⟩ : ∃ v, v = w16x9 + (1 : Int32) := ⟨_, rfl⟩
                        have w158g := zrg w158v
                        refine zs_iadd (pc := 131) t325_131 (c := w158v) w158.symm ?_
                        refine zs_istore (pc := 132) t325_132 (ls' := [(9, .int w158v), (0, .ref 336), (1, .int a), (2, .int b), (3, .int c), (4, .int d), (5, .int w5v), (6, .int w13x6), (7, .int w13x7), (8, .int w15v), (10, .int w16x10)]) (zml mf325 (by decide)) rfl ?_
                        obtain ⟨w159v, w159e, w159⟩ := ziadd (a := w16x10) (b := Int32.ofInt 1) rfl (show (Int32.ofInt 1).toInt = 1 by decide) (by omega) (by omega)
                        refine zs_iinc (pc := 134) t325_134 (ls' := [(10, .int w159v), (9, .int w158v), (0, .ref 336), (1, .int a), (2, .int b), (3, .int c), (4, .int d), (5, .int w5v), (6, .int w13x6), (7, .int w13x7), (8, .int w15v)]) (zml mf325 (by decide)) rfl (c := w159v) w159e rfl ?_
                        refine zs_goto (pc := 137) t325_137 ?_
                        refine zGo.locals (ls' := [(0, .ref 336), (1, .int a), (2, .int b), (3, .int c), (4, .int d), (5, .int w5v), (6, .int w13x6), (7, .int w13x7), (8, .int w15v), (9, .int w158v), (10, .int w159v)]) (by simp) ?_
                        have w160 := w159
                        exact w16ih (w16m - 1) (by omega) w158v w159v ⟨by omega, by omega⟩ (by omega)
                refine zGo.locals (ls' := [(0, .ref 336), (1, .int a), (2, .int b), (3, .int c), (4, .int d), (5, .int w5v), (6, .int w13x6), (7, .int w13x7), (8, .int w15v), (9, .int (0 : Int32)), (10, .int (0 : Int32))]) (by simp) ?_
                have w161 := li0
                have w162 := li0
                exact w16L ((200 - 0 : Int).toNat) (0 : Int32) (0 : Int32) ⟨by decide, by decide⟩ (by omega)
          refine zGo.locals (ls' := [(0, .ref 336), (1, .int a), (2, .int b), (3, .int c), (4, .int d), (5, .int w5v), (6, .int (0 : Int32)), (7, .int (0 : Int32))]) (by simp) ?_
          have w163 := li0
          have w164 := li0
          exact w13L ((200 - 0 : Int).toNat) (0 : Int32) (0 : Int32) (zsI (zsI (zsI (zsI w7M 336 42 (0 : Int32)) 336 43 (0 : Int32)) 336 44 (0 : Int32)) 336 45 (0 : Int32)) ⟨by decide, by decide⟩ ⟨by decide, by decide⟩ w7s w12 zFr.refl rfl (by omega) (by omega)
        · refine zs_icmp_geF (pc := 44) t325_44 rfl rfl (by omega) ?_
          refine zs_aload_n (pc := 47) t325_47 rfl ?_
          refine zs_get (pc := 48) t325_48 (by decide) (zk1 (w7s.k fk_zMm_336)) (w7s.p rfl fv_zMm_336_40) ?_
          refine zs_iload (pc := 51) t325_51 rfl ?_
          refine zs_iconst (pc := 53) t325_53 (v := 0) (by decide) ?_
          obtain ⟨w165n, w165⟩ : ∃ n : Nat, w7x6.toInt = (n : Int) := ⟨(w7x6.toInt).toNat, by omega⟩
          have w166 : zIv mLo mHi (zsI w7M 360 w165n (0 : Int32)) := zIv.put w7I (show (-2147483648) ≤ (0 : Int32).toInt ∧ (0 : Int32).toInt ≤ 2147483647 from zrg (0 : Int32))
          refine zs_iast (pc := 54) t325_54 (j := w165n) (by decide) (zk1 (w7s.k fk_zMm_360)) (show w7x6.toInt = ((w165n : Nat) : Int) by omega) (zk2 (w7s.k fk_zMm_360) (by omega)) ?_
          obtain ⟨w167v, w167e, w167⟩ := ziadd (a := w7x6) (b := Int32.ofInt 1) rfl (show (Int32.ofInt 1).toInt = 1 by decide) (by omega) (by omega)
          refine zs_iinc (pc := 55) t325_55 (ls' := [(6, .int w167v), (0, .ref 336), (1, .int a), (2, .int b), (3, .int c), (4, .int d), (5, .int w5v)]) (zml mf325 (by decide)) rfl (c := w167v) w167e rfl ?_
          refine zs_goto (pc := 58) t325_58 ?_
          refine zGo.locals (ls' := [(0, .ref 336), (1, .int a), (2, .int b), (3, .int c), (4, .int d), (5, .int w5v), (6, .int w167v)]) (by simp) ?_
          have w168 := w167
          exact w7ih (w7m - 1) (by omega) w167v (zsI w7M 360 w165n (0 : Int32)) ⟨by omega, by omega⟩ w7s w166 (((zFr.refl).trans (w7F.mono rfl)).put rfl) w7J (by omega)
    refine zGo.locals (ls' := [(0, .ref 336), (1, .int a), (2, .int b), (3, .int c), (4, .int d), (5, .int w5v), (6, .int (0 : Int32))]) (by simp) ?_
    have w169 := li0
    exact w7L ((8 - 0 : Int).toNat) (0 : Int32) w1M ⟨by decide, by decide⟩ w1s w1I zFr.refl rfl (by omega)
  · refine zs_icmp_geF (pc := 27) t325_27 rfl li1 (by omega) ?_
    refine zs_iconst (pc := 30) t325_30 (v := 1) (by decide) ?_
    refine zs_goto (pc := 31) t325_31 ?_
    refine zs_istore (pc := 36) t325_36 (ls' := [(5, .int (1 : Int32)), (0, .ref 336), (1, .int a), (2, .int b), (3, .int c), (4, .int d)]) (zml mf325 (by decide)) rfl ?_
    refine zs_iconst (pc := 38) t325_38 (v := 0) (by decide) ?_
    refine zs_istore (pc := 39) t325_39 (ls' := [(6, .int (0 : Int32)), (5, .int (1 : Int32)), (0, .ref 336), (1, .int a), (2, .int b), (3, .int c), (4, .int d)]) (zml mf325 (by decide)) rfl ?_
    have w170L : ∀ (m : Nat) (w170x6 : Int32) (w170M : zM), (0 ≤ w170x6.toInt ∧ w170x6.toInt ≤ 8) → zSk zMm w170M → zIv mLo mHi w170M → zFr [(360, 360, none)] w1M w170M → zJ w170M 351 = zJ w1M 351 → 8 - w170x6.toInt ≤ (m : Int) → zGo X l 8 0 0 325 41 [(0, .ref 336), (1, .int a), (2, .int b), (3, .int c), (4, .int d), (5, .int (1 : Int32)), (6, .int w170x6)] [] w170M Q := by
      intro m
      induction m using Nat.strongRecOn with
      | ind w170m w170ih =>
        intro w170x6 w170M w170b6 w170s w170I w170F w170J w170q
        refine zs_iload (pc := 41) t325_41 rfl ?_
        refine zs_iload_n (pc := 43) t325_43 rfl ?_
        by_cases w171 : c.toInt ≤ w170x6.toInt
        · refine zs_icmp_geT (pc := 44) t325_44 rfl rfl (by omega) ?_
          refine zs_aload_n (pc := 61) t325_61 rfl ?_
          refine zs_iconst (pc := 62) t325_62 (v := 0) (by decide) ?_
          have w172 : zIv mLo mHi (zsI w170M 336 42 (0 : Int32)) := zIv.put w170I (show (-2147483648) ≤ (0 : Int32).toInt ∧ (0 : Int32).toInt ≤ 2147483647 from zrg (0 : Int32))
          refine zs_putI (pc := 63) t325_63 (zk1 (w170s.k fk_zMm_336)) rfl ?_
          refine zs_aload_n (pc := 66) t325_66 rfl ?_
          refine zs_iconst (pc := 67) t325_67 (v := 0) (by decide) ?_
          have w173 : zIv mLo mHi (zsI (zsI w170M 336 42 (0 : Int32)) 336 43 (0 : Int32)) := zIv.put w172 (show (-2147483648) ≤ (0 : Int32).toInt ∧ (0 : Int32).toInt ≤ 2147483647 from zrg (0 : Int32))
          refine zs_putI (pc := 68) t325_68 (zk1 (w170s.k fk_zMm_336)) rfl ?_
          refine zs_aload_n (pc := 71) t325_71 rfl ?_
          refine zs_iconst (pc := 72) t325_72 (v := 0) (by decide) ?_
          have w174 : zIv mLo mHi (zsI (zsI (zsI w170M 336 42 (0 : Int32)) 336 43 (0 : Int32)) 336 44 (0 : Int32)) := zIv.put w173 (show (-2147483648) ≤ (0 : Int32).toInt ∧ (0 : Int32).toInt ≤ 2147483647 from zrg (0 : Int32))
          refine zs_putI (pc := 73) t325_73 (zk1 (w170s.k fk_zMm_336)) rfl ?_
          refine zs_aload_n (pc := 76) t325_76 rfl ?_
          refine zs_iconst (pc := 77) t325_77 (v := 0) (by decide) ?_
          have w175 : zIv mLo mHi (zsI (zsI (zsI (zsI w170M 336 42 (0 : Int32)) 336 43 (0 : Int32)) 336 44 (0 : Int32)) 336 45 (0 : Int32)) := zIv.put w174 (show (-2147483648) ≤ (0 : Int32).toInt ∧ (0 : Int32).toInt ≤ 2147483647 from zrg (0 : Int32))
          refine zs_putI (pc := 78) t325_78 (zk1 (w170s.k fk_zMm_336)) rfl ?_
          refine zs_iconst (pc := 81) t325_81 (v := 0) (by decide) ?_
          refine zs_istore (pc := 82) t325_82 (ls' := [(6, .int (0 : Int32)), (0, .ref 336), (1, .int a), (2, .int b), (3, .int c), (4, .int d), (5, .int (1 : Int32))]) (zml mf325 (by decide)) rfl ?_
          refine zs_iconst (pc := 84) t325_84 (v := 0) (by decide) ?_
          refine zs_istore (pc := 85) t325_85 (ls' := [(7, .int (0 : Int32)), (6, .int (0 : Int32)), (0, .ref 336), (1, .int a), (2, .int b), (3, .int c), (4, .int d), (5, .int (1 : Int32))]) (zml mf325 (by decide)) rfl ?_
          have w176L : ∀ (m : Nat) (w176x6 : Int32) (w176x7 : Int32) (w176M : zM), (0 ≤ w176x6.toInt ∧ w176x6.toInt ≤ 200) → (0 ≤ w176x7.toInt ∧ w176x7.toInt ≤ 200) → zSk zMm w176M → zIv mLo mHi w176M → zFr [(360, 360, none), (361, 361, none), (336, 336, some 42), (336, 336, some 43), (336, 336, some 44), (336, 336, some 45)] (zsI (zsI (zsI (zsI w170M 336 42 (0 : Int32)) 336 43 (0 : Int32)) 336 44 (0 : Int32)) 336 45 (0 : Int32)) w176M → zJ w176M 351 = zJ (zsI (zsI (zsI (zsI w170M 336 42 (0 : Int32)) 336 43 (0 : Int32)) 336 44 (0 : Int32)) 336 45 (0 : Int32)) 351 → (w176x6.toInt ≤ w176x7.toInt) → 200 - w176x7.toInt ≤ (m : Int) → zGo X l 8 0 0 325 87 [(0, .ref 336), (1, .int a), (2, .int b), (3, .int c), (4, .int d), (5, .int (1 : Int32)), (6, .int w176x6), (7, .int w176x7)] [] w176M Q := by
            intro m
            induction m using Nat.strongRecOn with
            | ind w176m w176ih =>
              intro w176x6 w176x7 w176M w176b6 w176b7 w176s w176I w176F w176J w176r0 w176q
              refine zs_iload (pc := 87) t325_87 rfl ?_
              refine zs_iload_n (pc := 89) t325_89 rfl ?_
              by_cases w177 : a.toInt ≤ w176x7.toInt
              · refine zs_icmp_geT (pc := 90) t325_90 rfl rfl (by omega) ?_
                exact zs_vret (pc := 368) t325_368 mr325 (hQ _ w176s w176I ((((((((zFr.refl).trans (w1F.mono rfl)).trans (w170F.mono rfl)).put rfl).put rfl).put rfl).put rfl).trans (w176F.mono rfl)) (zPF.fr (zPF.fr (M' := (zsI (zsI (zsI (zsI w170M 336 42 (0 : Int32)) 336 43 (0 : Int32)) 336 44 (0 : Int32)) 336 45 (0 : Int32))) (zPF.fr (M' := (zsI (zsI (zsI w170M 336 42 (0 : Int32)) 336 43 (0 : Int32)) 336 44 (0 : Int32))) (zPF.fr (M' := (zsI (zsI w170M 336 42 (0 : Int32)) 336 43 (0 : Int32))) (zPF.fr (M' := (zsI w170M 336 42 (0 : Int32))) (zPF.fr w1PF (w170F.eq rfl) w170J) (zEq.put rfl) rfl) (zEq.put rfl) rfl) (zEq.put rfl) rfl) (zEq.put rfl) rfl) (w176F.eq rfl) w176J))
              · refine zs_icmp_geF (pc := 90) t325_90 rfl rfl (by omega) ?_
                refine zs_iload (pc := 93) t325_93 rfl ?_
                refine zs_iload_n (pc := 95) t325_95 rfl ?_
                obtain ⟨w178v, w178⟩ : ∃ v, w176x7 * b = v := ⟨_, rfl⟩
                have w178g := zrg w178v
                refine zs_imul (pc := 96) t325_96 (c := w178v) w178 ?_
                refine zs_istore (pc := 97) t325_97 (ls' := [(8, .int w178v), (0, .ref 336), (1, .int a), (2, .int b), (3, .int c), (4, .int d), (5, .int (1 : Int32)), (6, .int w176x6), (7, .int w176x7)]) (zml mf325 (by decide)) rfl ?_
                refine zs_iconst (pc := 99) t325_99 (v := 0) (by decide) ?_
                refine zs_istore (pc := 100) t325_100 (ls' := [(9, .int (0 : Int32)), (8, .int w178v), (0, .ref 336), (1, .int a), (2, .int b), (3, .int c), (4, .int d), (5, .int (1 : Int32)), (6, .int w176x6), (7, .int w176x7)]) (zml mf325 (by decide)) rfl ?_
                refine zs_iconst (pc := 102) t325_102 (v := 0) (by decide) ?_
                refine zs_istore (pc := 103) t325_103 (ls' := [(10, .int (0 : Int32)), (9, .int (0 : Int32)), (8, .int w178v), (0, .ref 336), (1, .int a), (2, .int b), (3, .int c), (4, .int d), (5, .int (1 : Int32)), (6, .int w176x6), (7, .int w176x7)]) (zml mf325 (by decide)) rfl ?_
                have w179L : ∀ (m : Nat) (w179x9 : Int32) (w179x10 : Int32), (0 ≤ w179x10.toInt ∧ w179x10.toInt ≤ 200) → 200 - w179x10.toInt ≤ (m : Int) → zGo X l 8 0 0 325 105 [(0, .ref 336), (1, .int a), (2, .int b), (3, .int c), (4, .int d), (5, .int (1 : Int32)), (6, .int w176x6), (7, .int w176x7), (8, .int w178v), (9, .int w179x9), (10, .int w179x10)] [] w176M Q := by
                  intro m
                  induction m using Nat.strongRecOn with
                  | ind w179m w179ih =>
                    intro w179x9 w179x10 w179b10 w179q
                    have w179g9 := zrg w179x9
                    refine zs_iload (pc := 105) t325_105 rfl ?_
                    refine zs_iload (pc := 107) t325_107 rfl ?_
                    by_cases w180 : w176x6.toInt ≤ w179x10.toInt
                    · refine zs_icmp_geT (pc := 109) t325_109 rfl rfl (by omega) ?_
                      refine zs_iconst (pc := 140) t325_140 (v := 0) (by decide) ?_
                      refine zs_istore (pc := 141) t325_141 (ls' := [(10, .int (0 : Int32)), (0, .ref 336), (1, .int a), (2, .int b), (3, .int c), (4, .int d), (5, .int (1 : Int32)), (6, .int w176x6), (7, .int w176x7), (8, .int w178v), (9, .int w179x9)]) (zml mf325 (by decide)) rfl ?_
                      refine zs_iconst (pc := 143) t325_143 (v := 1) (by decide) ?_
                      refine zs_istore (pc := 144) t325_144 (ls' := [(11, .int (1 : Int32)), (10, .int (0 : Int32)), (0, .ref 336), (1, .int a), (2, .int b), (3, .int c), (4, .int d), (5, .int (1 : Int32)), (6, .int w176x6), (7, .int w176x7), (8, .int w178v), (9, .int w179x9)]) (zml mf325 (by decide)) rfl ?_
                      have w181L : ∀ (m : Nat) (w181x10 : Int32) (w181x11 : Int32), (0 ≤ w181x10.toInt ∧ w181x10.toInt ≤ 7) → (1 ≤ w181x11.toInt ∧ w181x11.toInt ≤ 8) → 8 - w181x11.toInt ≤ (m : Int) → zGo X l 8 0 0 325 146 [(0, .ref 336), (1, .int a), (2, .int b), (3, .int c), (4, .int d), (5, .int (1 : Int32)), (6, .int w176x6), (7, .int w176x7), (8, .int w178v), (9, .int w179x9), (10, .int w181x10), (11, .int w181x11)] [] w176M Q := by
                        intro m
                        induction m using Nat.strongRecOn with
                        | ind w181m w181ih =>
                          intro w181x10 w181x11 w181b10 w181b11 w181q
                          refine zs_iload (pc := 146) t325_146 rfl ?_
                          refine zs_iload_n (pc := 148) t325_148 rfl ?_
                          by_cases w182 : c.toInt ≤ w181x11.toInt
                          · refine zs_icmp_geT (pc := 149) t325_149 rfl rfl (by omega) ?_
                            refine zs_aload_n (pc := 184) t325_184 rfl ?_
                            refine zs_get (pc := 185) t325_185 (by decide) (zk1 (w176s.k fk_zMm_336)) (w176s.p rfl fv_zMm_336_40) ?_
                            refine zs_iload (pc := 188) t325_188 rfl ?_
                            obtain ⟨w183n, w183⟩ : ∃ n : Nat, w181x10.toInt = (n : Int) := ⟨(w181x10.toInt).toNat, by omega⟩
                            have w184 := zrg (zI w176M 360 w183n)
                            refine zs_iald (pc := 190) t325_190 (j := w183n) (by decide) (zk1 (w176s.k fk_zMm_360)) (show w181x10.toInt = ((w183n : Nat) : Int) by omega) (zk2 (w176s.k fk_zMm_360) (by omega)) rfl ?_
                            refine zs_iload (pc := 191) t325_191 rfl ?_
                            by_cases w185 : w178v.toInt < (zI w176M 360 w183n).toInt
                            · refine zs_icmp_gtT (pc := 193) t325_193 rfl rfl (by omega) ?_
                              refine zs_iconst (pc := 200) t325_200 (v := 0) (by decide) ?_
                              refine zs_istore (pc := 201) t325_201 (ls' := [(11, .int (0 : Int32)), (0, .ref 336), (1, .int a), (2, .int b), (3, .int c), (4, .int d), (5, .int (1 : Int32)), (6, .int w176x6), (7, .int w176x7), (8, .int w178v), (9, .int w179x9), (10, .int w181x10)]) (zml mf325 (by decide)) rfl ?_
                              refine zs_iload (pc := 203) t325_203 rfl ?_
                              refine zs_if_neF (pc := 205) t325_205 li0 (by decide) ?_
                              refine zs_iload (pc := 208) t325_208 rfl ?_
                              refine zs_iload (pc := 210) t325_210 rfl ?_
                              by_cases w186 : w179x9.toInt ≠ d.toInt
                              · refine zs_icmp_neT (pc := 212) t325_212 rfl rfl (by omega) ?_
                                refine zs_iload (pc := 228) t325_228 rfl ?_
                                refine zs_if_neF (pc := 230) t325_230 li0 (by decide) ?_
                                refine zs_iload (pc := 233) t325_233 rfl ?_
                                refine zs_iconst (pc := 235) t325_235 (v := 1) (by decide) ?_
                                obtain ⟨w187v, w187⟩ : ∃ v, v = w179x9 + (1 : Int32) := ⟨_, rfl⟩
                                have w187g := zrg w187v
                                refine zs_iadd (pc := 236) t325_236 (c := w187v) w187.symm ?_
                                refine zs_aload_n (pc := 237) t325_237 rfl ?_
                                have w188 := zrg (zI w176M 336 44)
                                refine zs_get (pc := 238) t325_238 (by decide) (zk1 (w176s.k fk_zMm_336)) (zfvi rfl rfl) ?_
                                by_cases w189 : w187v.toInt ≤ (zI w176M 336 44).toInt
                                · refine zs_icmp_leT (pc := 241) t325_241 rfl rfl (by omega) ?_
                                  refine zs_aload_n (pc := 252) t325_252 rfl ?_
                                  refine zs_get (pc := 253) t325_253 (by decide) (zk1 (w176s.k fk_zMm_336)) (w176s.p rfl fv_zMm_336_41) ?_
                                  refine zs_iload (pc := 256) t325_256 rfl ?_
                                  refine zs_iload (pc := 258) t325_258 rfl ?_
                                  refine zs_if_eqT (pc := 260) t325_260 li0 (by decide) ?_
                                  refine zs_aload_n (pc := 268) t325_268 rfl ?_
                                  refine zs_get (pc := 269) t325_269 (by decide) (zk1 (w176s.k fk_zMm_336)) (w176s.p rfl fv_zMm_336_40) ?_
                                  refine zs_iload (pc := 272) t325_272 rfl ?_
                                  refine zs_iald (pc := 274) t325_274 (j := w183n) (by decide) (zk1 (w176s.k fk_zMm_360)) (show w181x10.toInt = ((w183n : Nat) : Int) by omega) (zk2 (w176s.k fk_zMm_360) (by omega)) rfl ?_
                                  obtain ⟨w190n, w190⟩ : ∃ n : Nat, w176x6.toInt = (n : Int) := ⟨(w176x6.toInt).toNat, by omega⟩
                                  have w191 : zIv mLo mHi (zsI w176M 361 w190n (zI w176M 360 w183n)) := zIv.put w176I (show (-2147483648) ≤ (zI w176M 360 w183n).toInt ∧ (zI w176M 360 w183n).toInt ≤ 2147483647 from zrg (zI w176M 360 w183n))
                                  refine zs_iast (pc := 275) t325_275 (j := w190n) (by decide) (zk1 (w176s.k fk_zMm_361)) (show w176x6.toInt = ((w190n : Nat) : Int) by omega) (zk2 (w176s.k fk_zMm_361) (by omega)) ?_
                                  refine zs_aload_n (pc := 276) t325_276 rfl ?_
                                  refine zs_get (pc := 277) t325_277 (by decide) (zk1 (w176s.k fk_zMm_336)) (w176s.p rfl fv_zMm_336_40) ?_
                                  refine zs_iload (pc := 280) t325_280 rfl ?_
                                  refine zs_aload_n (pc := 282) t325_282 rfl ?_
                                  refine zs_get (pc := 283) t325_283 (by decide) (zk1 (w176s.k fk_zMm_336)) (w176s.p rfl fv_zMm_336_41) ?_
                                  refine zs_iload (pc := 286) t325_286 rfl ?_
                                  refine zs_iald (pc := 288) t325_288 (j := w190n) (by decide) (zk1 (w176s.k fk_zMm_361)) (show w176x6.toInt = ((w190n : Nat) : Int) by omega) (zk2 (w176s.k fk_zMm_361) (by omega)) zIs ?_
                                  refine zs_iload (pc := 289) t325_289 rfl ?_
                                  obtain ⟨w192v, w192⟩ : ∃ v, v = (zI w176M 360 w183n) + (1 : Int32) := ⟨_, rfl⟩
                                  have w192g := zrg w192v
                                  refine zs_iadd (pc := 291) t325_291 (c := w192v) w192.symm ?_
                                  have w193 : zIv mLo mHi (zsI (zsI w176M 361 w190n (zI w176M 360 w183n)) 360 w183n w192v) := zIv.put w191 (show (-2147483648) ≤ w192v.toInt ∧ w192v.toInt ≤ 2147483647 from zrg w192v)
                                  refine zs_iast (pc := 292) t325_292 (j := w183n) (by decide) (zk1 (w176s.k fk_zMm_360)) (show w181x10.toInt = ((w183n : Nat) : Int) by omega) (zk2 (w176s.k fk_zMm_360) (by omega)) ?_
                                  refine zs_aload_n (pc := 293) t325_293 rfl ?_
                                  refine zs_dup (pc := 294) t325_294 rfl ?_
                                  have w194 := zrg (zI w176M 336 43)
                                  refine zs_get (pc := 295) t325_295 (by decide) (zk1 (w176s.k fk_zMm_336)) (zfvi rfl ((zIo (by decide)).trans ((zIo (by decide)).trans rfl))) ?_
                                  refine zs_aload_n (pc := 298) t325_298 rfl ?_
                                  refine zs_get (pc := 299) t325_299 (by decide) (zk1 (w176s.k fk_zMm_336)) (w176s.p rfl fv_zMm_336_40) ?_
                                  refine zs_iload (pc := 302) t325_302 rfl ?_
                                  refine zs_iald (pc := 304) t325_304 (j := w183n) (by decide) (zk1 (w176s.k fk_zMm_360)) (show w181x10.toInt = ((w183n : Nat) : Int) by omega) (zk2 (w176s.k fk_zMm_360) (by omega)) zIs ?_
                                  refine zs_iload (pc := 305) t325_305 rfl ?_
                                  obtain ⟨w195v, w195⟩ : ∃ v, v = w192v - w178v := ⟨_, rfl⟩
                                  have w195g := zrg w195v
                                  refine zs_isub (pc := 307) t325_307 (c := w195v) w195.symm ?_
                                  refine zs_aload_n (pc := 308) t325_308 rfl ?_
                                  refine zs_get (pc := 309) t325_309 (by decide) (zk1 (w176s.k fk_zMm_336)) (w176s.p rfl fv_zMm_336_0) ?_
                                  refine zs_bipush (pc := 312) t325_312 (v := 13) (by decide) ?_
                                  refine zs_iald (pc := 314) t325_314 (j := 13) (by decide) (zk1 (w176s.k fk_zMm_337)) li13 (zk2 (w176s.k fk_zMm_337) (by decide)) ((zIo (by decide)).trans ((zIo (by decide)).trans ((w176F 337 13 rfl).trans ((zIo (by decide)).trans ((zIo (by decide)).trans ((zIo (by decide)).trans ((zIo (by decide)).trans ((w170F 337 13 rfl).trans ((w1F 337 13 rfl).trans rfl))))))))) ?_
                                  by_cases w196 : w195v.toInt ≤ (zI M 337 13).toInt
                                  · refine zs_icmp_leT (pc := 315) t325_315 rfl rfl (by omega) ?_
                                    refine zs_iconst (pc := 322) t325_322 (v := 0) (by decide) ?_
                                    obtain ⟨w197v, w197e, w197⟩ := ziadd (a := (zI w176M 336 43)) (b := (0 : Int32)) rfl li0 (by omega) (by omega)
                                    refine zs_iadd (pc := 323) t325_323 (c := w197v) w197e ?_
                                    have w198 : zIv mLo mHi (zsI (zsI (zsI w176M 361 w190n (zI w176M 360 w183n)) 360 w183n w192v) 336 43 w197v) := zIv.put w193 (show (-2147483648) ≤ w197v.toInt ∧ w197v.toInt ≤ 2147483647 from zrg w197v)
                                    refine zs_putI (pc := 324) t325_324 (zk1 (w176s.k fk_zMm_336)) rfl ?_
                                    refine zs_aload_n (pc := 327) t325_327 rfl ?_
                                    refine zs_aload_n (pc := 328) t325_328 rfl ?_
                                    refine zs_get (pc := 329) t325_329 (by decide) (zk1 (w176s.k fk_zMm_336)) (w176s.p rfl fv_zMm_336_40) ?_
                                    refine zs_iload (pc := 332) t325_332 rfl ?_
                                    refine zs_iald (pc := 334) t325_334 (j := w183n) (by decide) (zk1 (w176s.k fk_zMm_360)) (show w181x10.toInt = ((w183n : Nat) : Int) by omega) (zk2 (w176s.k fk_zMm_360) (by omega)) ((zIo (by decide)).trans zIs) ?_
                                    refine zs_aload_n (pc := 335) t325_335 rfl ?_
                                    have w199 := zrg (zI w176M 336 45)
                                    refine zs_get (pc := 336) t325_336 (by decide) (zk1 (w176s.k fk_zMm_336)) (zfvi rfl ((zIoj (by decide)).trans ((zIo (by decide)).trans ((zIo (by decide)).trans rfl)))) ?_
                                    by_cases w200 : w192v.toInt ≤ (zI w176M 336 45).toInt
                                    · refine zs_icmp_leT (pc := 339) t325_339 rfl rfl (by omega) ?_
                                      refine zs_aload_n (pc := 352) t325_352 rfl ?_
                                      refine zs_get (pc := 353) t325_353 (by decide) (zk1 (w176s.k fk_zMm_336)) (zfvi rfl ((zIoj (by decide)).trans ((zIo (by decide)).trans ((zIo (by decide)).trans rfl)))) ?_
                                      have w201 : zIv mLo mHi (zsI (zsI (zsI (zsI w176M 361 w190n (zI w176M 360 w183n)) 360 w183n w192v) 336 43 w197v) 336 45 (zI w176M 336 45)) := zIv.put w198 (show (-2147483648) ≤ (zI w176M 336 45).toInt ∧ (zI w176M 336 45).toInt ≤ 2147483647 from zrg (zI w176M 336 45))
                                      refine zs_putI (pc := 356) t325_356 (zk1 (w176s.k fk_zMm_336)) rfl ?_
                                      obtain ⟨w202v, w202e, w202⟩ := ziadd (a := w176x6) (b := Int32.ofInt 1) rfl (show (Int32.ofInt 1).toInt = 1 by decide) (by omega) (by omega)
                                      refine zs_iinc (pc := 359) t325_359 (ls' := [(6, .int w202v), (11, .int (0 : Int32)), (0, .ref 336), (1, .int a), (2, .int b), (3, .int c), (4, .int d), (5, .int (1 : Int32)), (7, .int w176x7), (8, .int w178v), (9, .int w179x9), (10, .int w181x10)]) (zml mf325 (by decide)) rfl (c := w202v) w202e rfl ?_
                                      obtain ⟨w203v, w203e, w203⟩ := ziadd (a := w176x7) (b := Int32.ofInt 1) rfl (show (Int32.ofInt 1).toInt = 1 by decide) (by omega) (by omega)
                                      refine zs_iinc (pc := 362) t325_362 (ls' := [(7, .int w203v), (6, .int w202v), (11, .int (0 : Int32)), (0, .ref 336), (1, .int a), (2, .int b), (3, .int c), (4, .int d), (5, .int (1 : Int32)), (8, .int w178v), (9, .int w179x9), (10, .int w181x10)]) (zml mf325 (by decide)) rfl (c := w203v) w203e rfl ?_
                                      refine zs_goto (pc := 365) t325_365 ?_
                                      refine zGo.locals (ls' := [(0, .ref 336), (1, .int a), (2, .int b), (3, .int c), (4, .int d), (5, .int (1 : Int32)), (6, .int w202v), (7, .int w203v)]) (by simp) ?_
                                      have w204 := w202
                                      have w205 := w203
                                      exact w176ih (w176m - 1) (by omega) w202v w203v (zsI (zsI (zsI (zsI w176M 361 w190n (zI w176M 360 w183n)) 360 w183n w192v) 336 43 w197v) 336 45 (zI w176M 336 45)) ⟨by omega, by omega⟩ ⟨by omega, by omega⟩ w176s w201 ((((((zFr.refl).trans (w176F.mono rfl)).put rfl).put rfl).put rfl).put rfl) w176J (by omega) (by omega)
                                    · refine zs_icmp_leF (pc := 339) t325_339 rfl rfl (by omega) ?_
                                      refine zs_aload_n (pc := 342) t325_342 rfl ?_
                                      refine zs_get (pc := 343) t325_343 (by decide) (zk1 (w176s.k fk_zMm_336)) (w176s.p rfl fv_zMm_336_40) ?_
                                      refine zs_iload (pc := 346) t325_346 rfl ?_
                                      refine zs_iald (pc := 348) t325_348 (j := w183n) (by decide) (zk1 (w176s.k fk_zMm_360)) (show w181x10.toInt = ((w183n : Nat) : Int) by omega) (zk2 (w176s.k fk_zMm_360) (by omega)) ((zIo (by decide)).trans zIs) ?_
                                      refine zs_goto (pc := 349) t325_349 ?_
                                      have w206 : zIv mLo mHi (zsI (zsI (zsI (zsI w176M 361 w190n (zI w176M 360 w183n)) 360 w183n w192v) 336 43 w197v) 336 45 w192v) := zIv.put w198 (show (-2147483648) ≤ w192v.toInt ∧ w192v.toInt ≤ 2147483647 from zrg w192v)
                                      refine zs_putI (pc := 356) t325_356 (zk1 (w176s.k fk_zMm_336)) rfl ?_
                                      obtain ⟨w207v, w207e, w207⟩ := ziadd (a := w176x6) (b := Int32.ofInt 1) rfl (show (Int32.ofInt 1).toInt = 1 by decide) (by omega) (by omega)
                                      refine zs_iinc (pc := 359) t325_359 (ls' := [(6, .int w207v), (11, .int (0 : Int32)), (0, .ref 336), (1, .int a), (2, .int b), (3, .int c), (4, .int d), (5, .int (1 : Int32)), (7, .int w176x7), (8, .int w178v), (9, .int w179x9), (10, .int w181x10)]) (zml mf325 (by decide)) rfl (c := w207v) w207e rfl ?_
                                      obtain ⟨w208v, w208e, w208⟩ := ziadd (a := w176x7) (b := Int32.ofInt 1) rfl (show (Int32.ofInt 1).toInt = 1 by decide) (by omega) (by omega)
                                      refine zs_iinc (pc := 362) t325_362 (ls' := [(7, .int w208v), (6, .int w207v), (11, .int (0 : Int32)), (0, .ref 336), (1, .int a), (2, .int b), (3, .int c), (4, .int d), (5, .int (1 : Int32)), (8, .int w178v), (9, .int w179x9), (10, .int w181x10)]) (zml mf325 (by decide)) rfl (c := w208v) w208e rfl ?_
                                      refine zs_goto (pc := 365) t325_365 ?_
                                      refine zGo.locals (ls' := [(0, .ref 336), (1, .int a), (2, .int b), (3, .int c), (4, .int d), (5, .int (1 : Int32)), (6, .int w207v), (7, .int w208v)]) (by simp) ?_
                                      have w209 := w207
                                      have w210 := w208
                                      exact w176ih (w176m - 1) (by omega) w207v w208v (zsI (zsI (zsI (zsI w176M 361 w190n (zI w176M 360 w183n)) 360 w183n w192v) 336 43 w197v) 336 45 w192v) ⟨by omega, by omega⟩ ⟨by omega, by omega⟩ w176s w206 ((((((zFr.refl).trans (w176F.mono rfl)).put rfl).put rfl).put rfl).put rfl) w176J (by omega) (by omega)
                                  · refine zs_icmp_leF (pc := 315) t325_315 rfl rfl (by omega) ?_
                                    refine zs_iconst (pc := 318) t325_318 (v := 1) (by decide) ?_
                                    refine zs_goto (pc := 319) t325_319 ?_
                                    obtain ⟨w211v, w211⟩ : ∃ v, v = (zI w176M 336 43) + (1 : Int32) := ⟨_, rfl⟩
                                    have w211g := zrg w211v
                                    refine zs_iadd (pc := 323) t325_323 (c := w211v) w211.symm ?_
                                    have w212 : zIv mLo mHi (zsI (zsI (zsI w176M 361 w190n (zI w176M 360 w183n)) 360 w183n w192v) 336 43 w211v) := zIv.put w193 (show (-2147483648) ≤ w211v.toInt ∧ w211v.toInt ≤ 2147483647 from zrg w211v)
                                    refine zs_putI (pc := 324) t325_324 (zk1 (w176s.k fk_zMm_336)) rfl ?_
                                    refine zs_aload_n (pc := 327) t325_327 rfl ?_
                                    refine zs_aload_n (pc := 328) t325_328 rfl ?_
                                    refine zs_get (pc := 329) t325_329 (by decide) (zk1 (w176s.k fk_zMm_336)) (w176s.p rfl fv_zMm_336_40) ?_
                                    refine zs_iload (pc := 332) t325_332 rfl ?_
                                    refine zs_iald (pc := 334) t325_334 (j := w183n) (by decide) (zk1 (w176s.k fk_zMm_360)) (show w181x10.toInt = ((w183n : Nat) : Int) by omega) (zk2 (w176s.k fk_zMm_360) (by omega)) ((zIo (by decide)).trans zIs) ?_
                                    refine zs_aload_n (pc := 335) t325_335 rfl ?_
                                    have w213 := zrg (zI w176M 336 45)
                                    refine zs_get (pc := 336) t325_336 (by decide) (zk1 (w176s.k fk_zMm_336)) (zfvi rfl ((zIoj (by decide)).trans ((zIo (by decide)).trans ((zIo (by decide)).trans rfl)))) ?_
                                    by_cases w214 : w192v.toInt ≤ (zI w176M 336 45).toInt
                                    · refine zs_icmp_leT (pc := 339) t325_339 rfl rfl (by omega) ?_
                                      refine zs_aload_n (pc := 352) t325_352 rfl ?_
                                      refine zs_get (pc := 353) t325_353 (by decide) (zk1 (w176s.k fk_zMm_336)) (zfvi rfl ((zIoj (by decide)).trans ((zIo (by decide)).trans ((zIo (by decide)).trans rfl)))) ?_
                                      have w215 : zIv mLo mHi (zsI (zsI (zsI (zsI w176M 361 w190n (zI w176M 360 w183n)) 360 w183n w192v) 336 43 w211v) 336 45 (zI w176M 336 45)) := zIv.put w212 (show (-2147483648) ≤ (zI w176M 336 45).toInt ∧ (zI w176M 336 45).toInt ≤ 2147483647 from zrg (zI w176M 336 45))
                                      refine zs_putI (pc := 356) t325_356 (zk1 (w176s.k fk_zMm_336)) rfl ?_
                                      obtain ⟨w216v, w216e, w216⟩ := ziadd (a := w176x6) (b := Int32.ofInt 1) rfl (show (Int32.ofInt 1).toInt = 1 by decide) (by omega) (by omega)
                                      refine zs_iinc (pc := 359) t325_359 (ls' := [(6, .int w216v), (11, .int (0 : Int32)), (0, .ref 336), (1, .int a), (2, .int b), (3, .int c), (4, .int d), (5, .int (1 : Int32)), (7, .int w176x7), (8, .int w178v), (9, .int w179x9), (10, .int w181x10)]) (zml mf325 (by decide)) rfl (c := w216v) w216e rfl ?_
                                      obtain ⟨w217v, w217e, w217⟩ := ziadd (a := w176x7) (b := Int32.ofInt 1) rfl (show (Int32.ofInt 1).toInt = 1 by decide) (by omega) (by omega)
                                      refine zs_iinc (pc := 362) t325_362 (ls' := [(7, .int w217v), (6, .int w216v), (11, .int (0 : Int32)), (0, .ref 336), (1, .int a), (2, .int b), (3, .int c), (4, .int d), (5, .int (1 : Int32)), (8, .int w178v), (9, .int w179x9), (10, .int w181x10)]) (zml mf325 (by decide)) rfl (c := w217v) w217e rfl ?_
                                      refine zs_goto (pc := 365) t325_365 ?_
                                      refine zGo.locals (ls' := [(0, .ref 336), (1, .int a), (2, .int b), (3, .int c), (4, .int d), (5, .int (1 : Int32)), (6, .int w216v), (7, .int w217v)]) (by simp) ?_
                                      have w218 := w216
                                      have w219 := w217
                                      exact w176ih (w176m - 1) (by omega) w216v w217v (zsI (zsI (zsI (zsI w176M 361 w190n (zI w176M 360 w183n)) 360 w183n w192v) 336 43 w211v) 336 45 (zI w176M 336 45)) ⟨by omega, by omega⟩ ⟨by omega, by omega⟩ w176s w215 ((((((zFr.refl).trans (w176F.mono rfl)).put rfl).put rfl).put rfl).put rfl) w176J (by omega) (by omega)
                                    · refine zs_icmp_leF (pc := 339) t325_339 rfl rfl (by omega) ?_
                                      refine zs_aload_n (pc := 342) t325_342 rfl ?_
                                      refine zs_get (pc := 343) t325_343 (by decide) (zk1 (w176s.k fk_zMm_336)) (w176s.p rfl fv_zMm_336_40) ?_
                                      refine zs_iload (pc := 346) t325_346 rfl ?_
                                      refine zs_iald (pc := 348) t325_348 (j := w183n) (by decide) (zk1 (w176s.k fk_zMm_360)) (show w181x10.toInt = ((w183n : Nat) : Int) by omega) (zk2 (w176s.k fk_zMm_360) (by omega)) ((zIo (by decide)).trans zIs) ?_
                                      refine zs_goto (pc := 349) t325_349 ?_
                                      have w220 : zIv mLo mHi (zsI (zsI (zsI (zsI w176M 361 w190n (zI w176M 360 w183n)) 360 w183n w192v) 336 43 w211v) 336 45 w192v) := zIv.put w212 (show (-2147483648) ≤ w192v.toInt ∧ w192v.toInt ≤ 2147483647 from zrg w192v)
                                      refine zs_putI (pc := 356) t325_356 (zk1 (w176s.k fk_zMm_336)) rfl ?_
                                      obtain ⟨w221v, w221e, w221⟩ := ziadd (a := w176x6) (b := Int32.ofInt 1) rfl (show (Int32.ofInt 1).toInt = 1 by decide) (by omega) (by omega)
                                      refine zs_iinc (pc := 359) t325_359 (ls' := [(6, .int w221v), (11, .int (0 : Int32)), (0, .ref 336), (1, .int a), (2, .int b), (3, .int c), (4, .int d), (5, .int (1 : Int32)), (7, .int w176x7), (8, .int w178v), (9, .int w179x9), (10, .int w181x10)]) (zml mf325 (by decide)) rfl (c := w221v) w221e rfl ?_
                                      obtain ⟨w222v, w222e, w222⟩ := ziadd (a := w176x7) (b := Int32.ofInt 1) rfl (show (Int32.ofInt 1).toInt = 1 by decide) (by omega) (by omega)
                                      refine zs_iinc (pc := 362) t325_362 (ls' := [(7, .int w222v), (6, .int w221v), (11, .int (0 : Int32)), (0, .ref 336), (1, .int a), (2, .int b), (3, .int c), (4, .int d), (5, .int (1 : Int32)), (8, .int w178v), (9, .int w179x9), (10, .int w181x10)]) (zml mf325 (by decide)) rfl (c := w222v) w222e rfl ?_
                                      refine zs_goto (pc := 365) t325_365 ?_
                                      refine zGo.locals (ls' := [(0, .ref 336), (1, .int a), (2, .int b), (3, .int c), (4, .int d), (5, .int (1 : Int32)), (6, .int w221v), (7, .int w222v)]) (by simp) ?_
                                      have w223 := w221
                                      have w224 := w222
                                      exact w176ih (w176m - 1) (by omega) w221v w222v (zsI (zsI (zsI (zsI w176M 361 w190n (zI w176M 360 w183n)) 360 w183n w192v) 336 43 w211v) 336 45 w192v) ⟨by omega, by omega⟩ ⟨by omega, by omega⟩ w176s w220 ((((((zFr.refl).trans (w176F.mono rfl)).put rfl).put rfl).put rfl).put rfl) w176J (by omega) (by omega)
                                · refine zs_icmp_leF (pc := 241) t325_241 rfl rfl (by omega) ?_
                                  refine zs_aload_n (pc := 244) t325_244 rfl ?_
                                  refine zs_iload (pc := 245) t325_245 rfl ?_
                                  refine zs_iconst (pc := 247) t325_247 (v := 1) (by decide) ?_
                                  obtain ⟨w225v, w225⟩ : ∃ v, v = w179x9 + (1 : Int32) := ⟨_, rfl⟩
                                  have w225g := zrg w225v
                                  refine zs_iadd (pc := 248) t325_248 (c := w225v) w225.symm ?_
                                  have w226 : zIv mLo mHi (zsI w176M 336 44 w225v) := zIv.put w176I (show (-2147483648) ≤ w225v.toInt ∧ w225v.toInt ≤ 2147483647 from zrg w225v)
                                  refine zs_putI (pc := 249) t325_249 (zk1 (w176s.k fk_zMm_336)) rfl ?_
                                  refine zs_aload_n (pc := 252) t325_252 rfl ?_
                                  refine zs_get (pc := 253) t325_253 (by decide) (zk1 (w176s.k fk_zMm_336)) (w176s.p rfl fv_zMm_336_41) ?_
                                  refine zs_iload (pc := 256) t325_256 rfl ?_
                                  refine zs_iload (pc := 258) t325_258 rfl ?_
                                  refine zs_if_eqT (pc := 260) t325_260 li0 (by decide) ?_
                                  refine zs_aload_n (pc := 268) t325_268 rfl ?_
                                  refine zs_get (pc := 269) t325_269 (by decide) (zk1 (w176s.k fk_zMm_336)) (w176s.p rfl fv_zMm_336_40) ?_
                                  refine zs_iload (pc := 272) t325_272 rfl ?_
                                  refine zs_iald (pc := 274) t325_274 (j := w183n) (by decide) (zk1 (w176s.k fk_zMm_360)) (show w181x10.toInt = ((w183n : Nat) : Int) by omega) (zk2 (w176s.k fk_zMm_360) (by omega)) ((zIo (by decide)).trans rfl) ?_
                                  obtain ⟨w227n, w227⟩ : ∃ n : Nat, w176x6.toInt = (n : Int) := ⟨(w176x6.toInt).toNat, by omega⟩
                                  have w228 : zIv mLo mHi (zsI (zsI w176M 336 44 w225v) 361 w227n (zI w176M 360 w183n)) := zIv.put w226 (show (-2147483648) ≤ (zI w176M 360 w183n).toInt ∧ (zI w176M 360 w183n).toInt ≤ 2147483647 from zrg (zI w176M 360 w183n))
                                  refine zs_iast (pc := 275) t325_275 (j := w227n) (by decide) (zk1 (w176s.k fk_zMm_361)) (show w176x6.toInt = ((w227n : Nat) : Int) by omega) (zk2 (w176s.k fk_zMm_361) (by omega)) ?_
                                  refine zs_aload_n (pc := 276) t325_276 rfl ?_
                                  refine zs_get (pc := 277) t325_277 (by decide) (zk1 (w176s.k fk_zMm_336)) (w176s.p rfl fv_zMm_336_40) ?_
                                  refine zs_iload (pc := 280) t325_280 rfl ?_
                                  refine zs_aload_n (pc := 282) t325_282 rfl ?_
                                  refine zs_get (pc := 283) t325_283 (by decide) (zk1 (w176s.k fk_zMm_336)) (w176s.p rfl fv_zMm_336_41) ?_
                                  refine zs_iload (pc := 286) t325_286 rfl ?_
                                  refine zs_iald (pc := 288) t325_288 (j := w227n) (by decide) (zk1 (w176s.k fk_zMm_361)) (show w176x6.toInt = ((w227n : Nat) : Int) by omega) (zk2 (w176s.k fk_zMm_361) (by omega)) zIs ?_
                                  refine zs_iload (pc := 289) t325_289 rfl ?_
                                  obtain ⟨w229v, w229⟩ : ∃ v, v = (zI w176M 360 w183n) + (1 : Int32) := ⟨_, rfl⟩
                                  have w229g := zrg w229v
                                  refine zs_iadd (pc := 291) t325_291 (c := w229v) w229.symm ?_
                                  have w230 : zIv mLo mHi (zsI (zsI (zsI w176M 336 44 w225v) 361 w227n (zI w176M 360 w183n)) 360 w183n w229v) := zIv.put w228 (show (-2147483648) ≤ w229v.toInt ∧ w229v.toInt ≤ 2147483647 from zrg w229v)
                                  refine zs_iast (pc := 292) t325_292 (j := w183n) (by decide) (zk1 (w176s.k fk_zMm_360)) (show w181x10.toInt = ((w183n : Nat) : Int) by omega) (zk2 (w176s.k fk_zMm_360) (by omega)) ?_
                                  refine zs_aload_n (pc := 293) t325_293 rfl ?_
                                  refine zs_dup (pc := 294) t325_294 rfl ?_
                                  have w231 := zrg (zI w176M 336 43)
                                  refine zs_get (pc := 295) t325_295 (by decide) (zk1 (w176s.k fk_zMm_336)) (zfvi rfl ((zIo (by decide)).trans ((zIo (by decide)).trans ((zIoj (by decide)).trans rfl)))) ?_
                                  refine zs_aload_n (pc := 298) t325_298 rfl ?_
                                  refine zs_get (pc := 299) t325_299 (by decide) (zk1 (w176s.k fk_zMm_336)) (w176s.p rfl fv_zMm_336_40) ?_
                                  refine zs_iload (pc := 302) t325_302 rfl ?_
                                  refine zs_iald (pc := 304) t325_304 (j := w183n) (by decide) (zk1 (w176s.k fk_zMm_360)) (show w181x10.toInt = ((w183n : Nat) : Int) by omega) (zk2 (w176s.k fk_zMm_360) (by omega)) zIs ?_
                                  refine zs_iload (pc := 305) t325_305 rfl ?_
                                  obtain ⟨w232v, w232⟩ : ∃ v, v = w229v - w178v := ⟨_, rfl⟩
                                  have w232g := zrg w232v
                                  refine zs_isub (pc := 307) t325_307 (c := w232v) w232.symm ?_
                                  refine zs_aload_n (pc := 308) t325_308 rfl ?_
                                  refine zs_get (pc := 309) t325_309 (by decide) (zk1 (w176s.k fk_zMm_336)) (w176s.p rfl fv_zMm_336_0) ?_
                                  refine zs_bipush (pc := 312) t325_312 (v := 13) (by decide) ?_
                                  refine zs_iald (pc := 314) t325_314 (j := 13) (by decide) (zk1 (w176s.k fk_zMm_337)) li13 (zk2 (w176s.k fk_zMm_337) (by decide)) ((zIo (by decide)).trans ((zIo (by decide)).trans ((zIo (by decide)).trans ((w176F 337 13 rfl).trans ((zIo (by decide)).trans ((zIo (by decide)).trans ((zIo (by decide)).trans ((zIo (by decide)).trans ((w170F 337 13 rfl).trans ((w1F 337 13 rfl).trans rfl)))))))))) ?_
                                  by_cases w233 : w232v.toInt ≤ (zI M 337 13).toInt
                                  · refine zs_icmp_leT (pc := 315) t325_315 rfl rfl (by omega) ?_
                                    refine zs_iconst (pc := 322) t325_322 (v := 0) (by decide) ?_
                                    obtain ⟨w234v, w234e, w234⟩ := ziadd (a := (zI w176M 336 43)) (b := (0 : Int32)) rfl li0 (by omega) (by omega)
                                    refine zs_iadd (pc := 323) t325_323 (c := w234v) w234e ?_
                                    have w235 : zIv mLo mHi (zsI (zsI (zsI (zsI w176M 336 44 w225v) 361 w227n (zI w176M 360 w183n)) 360 w183n w229v) 336 43 w234v) := zIv.put w230 (show (-2147483648) ≤ w234v.toInt ∧ w234v.toInt ≤ 2147483647 from zrg w234v)
                                    refine zs_putI (pc := 324) t325_324 (zk1 (w176s.k fk_zMm_336)) rfl ?_
                                    refine zs_aload_n (pc := 327) t325_327 rfl ?_
                                    refine zs_aload_n (pc := 328) t325_328 rfl ?_
                                    refine zs_get (pc := 329) t325_329 (by decide) (zk1 (w176s.k fk_zMm_336)) (w176s.p rfl fv_zMm_336_40) ?_
                                    refine zs_iload (pc := 332) t325_332 rfl ?_
                                    refine zs_iald (pc := 334) t325_334 (j := w183n) (by decide) (zk1 (w176s.k fk_zMm_360)) (show w181x10.toInt = ((w183n : Nat) : Int) by omega) (zk2 (w176s.k fk_zMm_360) (by omega)) ((zIo (by decide)).trans zIs) ?_
                                    refine zs_aload_n (pc := 335) t325_335 rfl ?_
                                    have w236 := zrg (zI w176M 336 45)
                                    refine zs_get (pc := 336) t325_336 (by decide) (zk1 (w176s.k fk_zMm_336)) (zfvi rfl ((zIoj (by decide)).trans ((zIo (by decide)).trans ((zIo (by decide)).trans ((zIoj (by decide)).trans rfl))))) ?_
                                    by_cases w237 : w229v.toInt ≤ (zI w176M 336 45).toInt
                                    · refine zs_icmp_leT (pc := 339) t325_339 rfl rfl (by omega) ?_
                                      refine zs_aload_n (pc := 352) t325_352 rfl ?_
                                      refine zs_get (pc := 353) t325_353 (by decide) (zk1 (w176s.k fk_zMm_336)) (zfvi rfl ((zIoj (by decide)).trans ((zIo (by decide)).trans ((zIo (by decide)).trans ((zIoj (by decide)).trans rfl))))) ?_
                                      have w238 : zIv mLo mHi (zsI (zsI (zsI (zsI (zsI w176M 336 44 w225v) 361 w227n (zI w176M 360 w183n)) 360 w183n w229v) 336 43 w234v) 336 45 (zI w176M 336 45)) := zIv.put w235 (show (-2147483648) ≤ (zI w176M 336 45).toInt ∧ (zI w176M 336 45).toInt ≤ 2147483647 from zrg (zI w176M 336 45))
                                      refine zs_putI (pc := 356) t325_356 (zk1 (w176s.k fk_zMm_336)) rfl ?_
                                      obtain ⟨w239v, w239e, w239⟩ := ziadd (a := w176x6) (b := Int32.ofInt 1) rfl (show (Int32.ofInt 1).toInt = 1 by decide) (by omega) (by omega)
                                      refine zs_iinc (pc := 359) t325_359 (ls' := [(6, .int w239v), (11, .int (0 : Int32)), (0, .ref 336), (1, .int a), (2, .int b), (3, .int c), (4, .int d), (5, .int (1 : Int32)), (7, .int w176x7), (8, .int w178v), (9, .int w179x9), (10, .int w181x10)]) (zml mf325 (by decide)) rfl (c := w239v) w239e rfl ?_
                                      obtain ⟨w240v, w240e, w240⟩ := ziadd (a := w176x7) (b := Int32.ofInt 1) rfl (show (Int32.ofInt 1).toInt = 1 by decide) (by omega) (by omega)
                                      refine zs_iinc (pc := 362) t325_362 (ls' := [(7, .int w240v), (6, .int w239v), (11, .int (0 : Int32)), (0, .ref 336), (1, .int a), (2, .int b), (3, .int c), (4, .int d), (5, .int (1 : Int32)), (8, .int w178v), (9, .int w179x9), (10, .int w181x10)]) (zml mf325 (by decide)) rfl (c := w240v) w240e rfl ?_
                                      refine zs_goto (pc := 365) t325_365 ?_
                                      refine zGo.locals (ls' := [(0, .ref 336), (1, .int a), (2, .int b), (3, .int c), (4, .int d), (5, .int (1 : Int32)), (6, .int w239v), (7, .int w240v)]) (by simp) ?_
                                      have w241 := w239
                                      have w242 := w240
                                      exact w176ih (w176m - 1) (by omega) w239v w240v (zsI (zsI (zsI (zsI (zsI w176M 336 44 w225v) 361 w227n (zI w176M 360 w183n)) 360 w183n w229v) 336 43 w234v) 336 45 (zI w176M 336 45)) ⟨by omega, by omega⟩ ⟨by omega, by omega⟩ w176s w238 (((((((zFr.refl).trans (w176F.mono rfl)).put rfl).put rfl).put rfl).put rfl).put rfl) w176J (by omega) (by omega)
                                    · refine zs_icmp_leF (pc := 339) t325_339 rfl rfl (by omega) ?_
                                      refine zs_aload_n (pc := 342) t325_342 rfl ?_
                                      refine zs_get (pc := 343) t325_343 (by decide) (zk1 (w176s.k fk_zMm_336)) (w176s.p rfl fv_zMm_336_40) ?_
                                      refine zs_iload (pc := 346) t325_346 rfl ?_
                                      refine zs_iald (pc := 348) t325_348 (j := w183n) (by decide) (zk1 (w176s.k fk_zMm_360)) (show w181x10.toInt = ((w183n : Nat) : Int) by omega) (zk2 (w176s.k fk_zMm_360) (by omega)) ((zIo (by decide)).trans zIs) ?_
                                      refine zs_goto (pc := 349) t325_349 ?_
                                      have w243 : zIv mLo mHi (zsI (zsI (zsI (zsI (zsI w176M 336 44 w225v) 361 w227n (zI w176M 360 w183n)) 360 w183n w229v) 336 43 w234v) 336 45 w229v) := zIv.put w235 (show (-2147483648) ≤ w229v.toInt ∧ w229v.toInt ≤ 2147483647 from zrg w229v)
                                      refine zs_putI (pc := 356) t325_356 (zk1 (w176s.k fk_zMm_336)) rfl ?_
                                      obtain ⟨w244v, w244e, w244⟩ := ziadd (a := w176x6) (b := Int32.ofInt 1) rfl (show (Int32.ofInt 1).toInt = 1 by decide) (by omega) (by omega)
                                      refine zs_iinc (pc := 359) t325_359 (ls' := [(6, .int w244v), (11, .int (0 : Int32)), (0, .ref 336), (1, .int a), (2, .int b), (3, .int c), (4, .int d), (5, .int (1 : Int32)), (7, .int w176x7), (8, .int w178v), (9, .int w179x9), (10, .int w181x10)]) (zml mf325 (by decide)) rfl (c := w244v) w244e rfl ?_
                                      obtain ⟨w245v, w245e, w245⟩ := ziadd (a := w176x7) (b := Int32.ofInt 1) rfl (show (Int32.ofInt 1).toInt = 1 by decide) (by omega) (by omega)
                                      refine zs_iinc (pc := 362) t325_362 (ls' := [(7, .int w245v), (6, .int w244v), (11, .int (0 : Int32)), (0, .ref 336), (1, .int a), (2, .int b), (3, .int c), (4, .int d), (5, .int (1 : Int32)), (8, .int w178v), (9, .int w179x9), (10, .int w181x10)]) (zml mf325 (by decide)) rfl (c := w245v) w245e rfl ?_
                                      refine zs_goto (pc := 365) t325_365 ?_
                                      refine zGo.locals (ls' := [(0, .ref 336), (1, .int a), (2, .int b), (3, .int c), (4, .int d), (5, .int (1 : Int32)), (6, .int w244v), (7, .int w245v)]) (by simp) ?_
                                      have w246 := w244
                                      have w247 := w245
                                      exact w176ih (w176m - 1) (by omega) w244v w245v (zsI (zsI (zsI (zsI (zsI w176M 336 44 w225v) 361 w227n (zI w176M 360 w183n)) 360 w183n w229v) 336 43 w234v) 336 45 w229v) ⟨by omega, by omega⟩ ⟨by omega, by omega⟩ w176s w243 (((((((zFr.refl).trans (w176F.mono rfl)).put rfl).put rfl).put rfl).put rfl).put rfl) w176J (by omega) (by omega)
                                  · refine zs_icmp_leF (pc := 315) t325_315 rfl rfl (by omega) ?_
                                    refine zs_iconst (pc := 318) t325_318 (v := 1) (by decide) ?_
                                    refine zs_goto (pc := 319) t325_319 ?_
                                    obtain ⟨w248v, w248⟩ : ∃ v, v = (zI w176M 336 43) + (1 : Int32) := ⟨_, rfl⟩
                                    have w248g := zrg w248v
                                    refine zs_iadd (pc := 323) t325_323 (c := w248v) w248.symm ?_
                                    have w249 : zIv mLo mHi (zsI (zsI (zsI (zsI w176M 336 44 w225v) 361 w227n (zI w176M 360 w183n)) 360 w183n w229v) 336 43 w248v) := zIv.put w230 (show (-2147483648) ≤ w248v.toInt ∧ w248v.toInt ≤ 2147483647 from zrg w248v)
                                    refine zs_putI (pc := 324) t325_324 (zk1 (w176s.k fk_zMm_336)) rfl ?_
                                    refine zs_aload_n (pc := 327) t325_327 rfl ?_
                                    refine zs_aload_n (pc := 328) t325_328 rfl ?_
                                    refine zs_get (pc := 329) t325_329 (by decide) (zk1 (w176s.k fk_zMm_336)) (w176s.p rfl fv_zMm_336_40) ?_
                                    refine zs_iload (pc := 332) t325_332 rfl ?_
                                    refine zs_iald (pc := 334) t325_334 (j := w183n) (by decide) (zk1 (w176s.k fk_zMm_360)) (show w181x10.toInt = ((w183n : Nat) : Int) by omega) (zk2 (w176s.k fk_zMm_360) (by omega)) ((zIo (by decide)).trans zIs) ?_
                                    refine zs_aload_n (pc := 335) t325_335 rfl ?_
                                    have w250 := zrg (zI w176M 336 45)
                                    refine zs_get (pc := 336) t325_336 (by decide) (zk1 (w176s.k fk_zMm_336)) (zfvi rfl ((zIoj (by decide)).trans ((zIo (by decide)).trans ((zIo (by decide)).trans ((zIoj (by decide)).trans rfl))))) ?_
                                    by_cases w251 : w229v.toInt ≤ (zI w176M 336 45).toInt
                                    · refine zs_icmp_leT (pc := 339) t325_339 rfl rfl (by omega) ?_
                                      refine zs_aload_n (pc := 352) t325_352 rfl ?_
                                      refine zs_get (pc := 353) t325_353 (by decide) (zk1 (w176s.k fk_zMm_336)) (zfvi rfl ((zIoj (by decide)).trans ((zIo (by decide)).trans ((zIo (by decide)).trans ((zIoj (by decide)).trans rfl))))) ?_
                                      have w252 : zIv mLo mHi (zsI (zsI (zsI (zsI (zsI w176M 336 44 w225v) 361 w227n (zI w176M 360 w183n)) 360 w183n w229v) 336 43 w248v) 336 45 (zI w176M 336 45)) := zIv.put w249 (show (-2147483648) ≤ (zI w176M 336 45).toInt ∧ (zI w176M 336 45).toInt ≤ 2147483647 from zrg (zI w176M 336 45))
                                      refine zs_putI (pc := 356) t325_356 (zk1 (w176s.k fk_zMm_336)) rfl ?_
                                      obtain ⟨w253v, w253e, w253⟩ := ziadd (a := w176x6) (b := Int32.ofInt 1) rfl (show (Int32.ofInt 1).toInt = 1 by decide) (by omega) (by omega)
                                      refine zs_iinc (pc := 359) t325_359 (ls' := [(6, .int w253v), (11, .int (0 : Int32)), (0, .ref 336), (1, .int a), (2, .int b), (3, .int c), (4, .int d), (5, .int (1 : Int32)), (7, .int w176x7), (8, .int w178v), (9, .int w179x9), (10, .int w181x10)]) (zml mf325 (by decide)) rfl (c := w253v) w253e rfl ?_
                                      obtain ⟨w254v, w254e, w254⟩ := ziadd (a := w176x7) (b := Int32.ofInt 1) rfl (show (Int32.ofInt 1).toInt = 1 by decide) (by omega) (by omega)
                                      refine zs_iinc (pc := 362) t325_362 (ls' := [(7, .int w254v), (6, .int w253v), (11, .int (0 : Int32)), (0, .ref 336), (1, .int a), (2, .int b), (3, .int c), (4, .int d), (5, .int (1 : Int32)), (8, .int w178v), (9, .int w179x9), (10, .int w181x10)]) (zml mf325 (by decide)) rfl (c := w254v) w254e rfl ?_
                                      refine zs_goto (pc := 365) t325_365 ?_
                                      refine zGo.locals (ls' := [(0, .ref 336), (1, .int a), (2, .int b), (3, .int c), (4, .int d), (5, .int (1 : Int32)), (6, .int w253v), (7, .int w254v)]) (by simp) ?_
                                      have w255 := w253
                                      have w256 := w254
                                      exact w176ih (w176m - 1) (by omega) w253v w254v (zsI (zsI (zsI (zsI (zsI w176M 336 44 w225v) 361 w227n (zI w176M 360 w183n)) 360 w183n w229v) 336 43 w248v) 336 45 (zI w176M 336 45)) ⟨by omega, by omega⟩ ⟨by omega, by omega⟩ w176s w252 (((((((zFr.refl).trans (w176F.mono rfl)).put rfl).put rfl).put rfl).put rfl).put rfl) w176J (by omega) (by omega)
                                    · refine zs_icmp_leF (pc := 339) t325_339 rfl rfl (by omega) ?_
                                      refine zs_aload_n (pc := 342) t325_342 rfl ?_
                                      refine zs_get (pc := 343) t325_343 (by decide) (zk1 (w176s.k fk_zMm_336)) (w176s.p rfl fv_zMm_336_40) ?_
                                      refine zs_iload (pc := 346) t325_346 rfl ?_
                                      refine zs_iald (pc := 348) t325_348 (j := w183n) (by decide) (zk1 (w176s.k fk_zMm_360)) (show w181x10.toInt = ((w183n : Nat) : Int) by omega) (zk2 (w176s.k fk_zMm_360) (by omega)) ((zIo (by decide)).trans zIs) ?_
                                      refine zs_goto (pc := 349) t325_349 ?_
                                      have w257 : zIv mLo mHi (zsI (zsI (zsI (zsI (zsI w176M 336 44 w225v) 361 w227n (zI w176M 360 w183n)) 360 w183n w229v) 336 43 w248v) 336 45 w229v) := zIv.put w249 (show (-2147483648) ≤ w229v.toInt ∧ w229v.toInt ≤ 2147483647 from zrg w229v)
                                      refine zs_putI (pc := 356) t325_356 (zk1 (w176s.k fk_zMm_336)) rfl ?_
                                      obtain ⟨w258v, w258e, w258⟩ := ziadd (a := w176x6) (b := Int32.ofInt 1) rfl (show (Int32.ofInt 1).toInt = 1 by decide) (by omega) (by omega)
                                      refine zs_iinc (pc := 359) t325_359 (ls' := [(6, .int w258v), (11, .int (0 : Int32)), (0, .ref 336), (1, .int a), (2, .int b), (3, .int c), (4, .int d), (5, .int (1 : Int32)), (7, .int w176x7), (8, .int w178v), (9, .int w179x9), (10, .int w181x10)]) (zml mf325 (by decide)) rfl (c := w258v) w258e rfl ?_
                                      obtain ⟨w259v, w259e, w259⟩ := ziadd (a := w176x7) (b := Int32.ofInt 1) rfl (show (Int32.ofInt 1).toInt = 1 by decide) (by omega) (by omega)
                                      refine zs_iinc (pc := 362) t325_362 (ls' := [(7, .int w259v), (6, .int w258v), (11, .int (0 : Int32)), (0, .ref 336), (1, .int a), (2, .int b), (3, .int c), (4, .int d), (5, .int (1 : Int32)), (8, .int w178v), (9, .int w179x9), (10, .int w181x10)]) (zml mf325 (by decide)) rfl (c := w259v) w259e rfl ?_
                                      refine zs_goto (pc := 365) t325_365 ?_
                                      refine zGo.locals (ls' := [(0, .ref 336), (1, .int a), (2, .int b), (3, .int c), (4, .int d), (5, .int (1 : Int32)), (6, .int w258v), (7, .int w259v)]) (by simp) ?_
                                      have w260 := w258
                                      have w261 := w259
                                      exact w176ih (w176m - 1) (by omega) w258v w259v (zsI (zsI (zsI (zsI (zsI w176M 336 44 w225v) 361 w227n (zI w176M 360 w183n)) 360 w183n w229v) 336 43 w248v) 336 45 w229v) ⟨by omega, by omega⟩ ⟨by omega, by omega⟩ w176s w257 (((((((zFr.refl).trans (w176F.mono rfl)).put rfl).put rfl).put rfl).put rfl).put rfl) w176J (by omega) (by omega)
                              · refine zs_icmp_neF (pc := 212) t325_212 rfl rfl (by omega) ?_
                                refine zs_aload_n (pc := 215) t325_215 rfl ?_
                                refine zs_dup (pc := 216) t325_216 rfl ?_
                                have w262 := zrg (zI w176M 336 42)
                                refine zs_get (pc := 217) t325_217 (by decide) (zk1 (w176s.k fk_zMm_336)) (zfvi rfl rfl) ?_
                                refine zs_iconst (pc := 220) t325_220 (v := 1) (by decide) ?_
                                obtain ⟨w263v, w263⟩ : ∃ v, v = (zI w176M 336 42) + (1 : Int32) := ⟨_, rfl⟩
                                have w263g := zrg w263v
                                refine zs_iadd (pc := 221) t325_221 (c := w263v) w263.symm ?_
                                have w264 : zIv mLo mHi (zsI w176M 336 42 w263v) := zIv.put w176I (show (-2147483648) ≤ w263v.toInt ∧ w263v.toInt ≤ 2147483647 from zrg w263v)
                                refine zs_putI (pc := 222) t325_222 (zk1 (w176s.k fk_zMm_336)) rfl ?_
                                refine zs_goto (pc := 225) t325_225 ?_
                                obtain ⟨w265v, w265e, w265⟩ := ziadd (a := w176x7) (b := Int32.ofInt 1) rfl (show (Int32.ofInt 1).toInt = 1 by decide) (by omega) (by omega)
                                refine zs_iinc (pc := 362) t325_362 (ls' := [(7, .int w265v), (11, .int (0 : Int32)), (0, .ref 336), (1, .int a), (2, .int b), (3, .int c), (4, .int d), (5, .int (1 : Int32)), (6, .int w176x6), (8, .int w178v), (9, .int w179x9), (10, .int w181x10)]) (zml mf325 (by decide)) rfl (c := w265v) w265e rfl ?_
                                refine zs_goto (pc := 365) t325_365 ?_
                                refine zGo.locals (ls' := [(0, .ref 336), (1, .int a), (2, .int b), (3, .int c), (4, .int d), (5, .int (1 : Int32)), (6, .int w176x6), (7, .int w265v)]) (by simp) ?_
                                have w266 := w265
                                exact w176ih (w176m - 1) (by omega) w176x6 w265v (zsI w176M 336 42 w263v) ⟨by omega, by omega⟩ ⟨by omega, by omega⟩ w176s w264 (((zFr.refl).trans (w176F.mono rfl)).put rfl) w176J (by omega) (by omega)
                            · refine zs_icmp_gtF (pc := 193) t325_193 rfl rfl (by omega) ?_
                              refine zs_iconst (pc := 196) t325_196 (v := 1) (by decide) ?_
                              refine zs_goto (pc := 197) t325_197 ?_
                              refine zs_istore (pc := 201) t325_201 (ls' := [(11, .int (1 : Int32)), (0, .ref 336), (1, .int a), (2, .int b), (3, .int c), (4, .int d), (5, .int (1 : Int32)), (6, .int w176x6), (7, .int w176x7), (8, .int w178v), (9, .int w179x9), (10, .int w181x10)]) (zml mf325 (by decide)) rfl ?_
                              refine zs_iload (pc := 203) t325_203 rfl ?_
                              refine zs_if_neT (pc := 205) t325_205 li1 (by decide) ?_
                              refine zs_iload (pc := 228) t325_228 rfl ?_
                              refine zs_if_neT (pc := 230) t325_230 li1 (by decide) ?_
                              refine zs_aload_n (pc := 252) t325_252 rfl ?_
                              refine zs_get (pc := 253) t325_253 (by decide) (zk1 (w176s.k fk_zMm_336)) (w176s.p rfl fv_zMm_336_41) ?_
                              refine zs_iload (pc := 256) t325_256 rfl ?_
                              refine zs_iload (pc := 258) t325_258 rfl ?_
                              refine zs_if_eqF (pc := 260) t325_260 li1 (by decide) ?_
                              refine zs_iload (pc := 263) t325_263 rfl ?_
                              refine zs_goto (pc := 265) t325_265 ?_
                              obtain ⟨w267n, w267⟩ : ∃ n : Nat, w176x6.toInt = (n : Int) := ⟨(w176x6.toInt).toNat, by omega⟩
                              have w268 : zIv mLo mHi (zsI w176M 361 w267n w178v) := zIv.put w176I (show (-2147483648) ≤ w178v.toInt ∧ w178v.toInt ≤ 2147483647 from zrg w178v)
                              refine zs_iast (pc := 275) t325_275 (j := w267n) (by decide) (zk1 (w176s.k fk_zMm_361)) (show w176x6.toInt = ((w267n : Nat) : Int) by omega) (zk2 (w176s.k fk_zMm_361) (by omega)) ?_
                              refine zs_aload_n (pc := 276) t325_276 rfl ?_
                              refine zs_get (pc := 277) t325_277 (by decide) (zk1 (w176s.k fk_zMm_336)) (w176s.p rfl fv_zMm_336_40) ?_
                              refine zs_iload (pc := 280) t325_280 rfl ?_
                              refine zs_aload_n (pc := 282) t325_282 rfl ?_
                              refine zs_get (pc := 283) t325_283 (by decide) (zk1 (w176s.k fk_zMm_336)) (w176s.p rfl fv_zMm_336_41) ?_
                              refine zs_iload (pc := 286) t325_286 rfl ?_
                              refine zs_iald (pc := 288) t325_288 (j := w267n) (by decide) (zk1 (w176s.k fk_zMm_361)) (show w176x6.toInt = ((w267n : Nat) : Int) by omega) (zk2 (w176s.k fk_zMm_361) (by omega)) zIs ?_
                              refine zs_iload (pc := 289) t325_289 rfl ?_
                              obtain ⟨w269v, w269⟩ : ∃ v, v = w178v + (1 : Int32) := ⟨_, rfl⟩
                              have w269g := zrg w269v
                              refine zs_iadd (pc := 291) t325_291 (c := w269v) w269.symm ?_
                              have w270 : zIv mLo mHi (zsI (zsI w176M 361 w267n w178v) 360 w183n w269v) := zIv.put w268 (show (-2147483648) ≤ w269v.toInt ∧ w269v.toInt ≤ 2147483647 from zrg w269v)
                              refine zs_iast (pc := 292) t325_292 (j := w183n) (by decide) (zk1 (w176s.k fk_zMm_360)) (show w181x10.toInt = ((w183n : Nat) : Int) by omega) (zk2 (w176s.k fk_zMm_360) (by omega)) ?_
                              refine zs_aload_n (pc := 293) t325_293 rfl ?_
                              refine zs_dup (pc := 294) t325_294 rfl ?_
                              have w271 := zrg (zI w176M 336 43)
                              refine zs_get (pc := 295) t325_295 (by decide) (zk1 (w176s.k fk_zMm_336)) (zfvi rfl ((zIo (by decide)).trans ((zIo (by decide)).trans rfl))) ?_
                              refine zs_aload_n (pc := 298) t325_298 rfl ?_
                              refine zs_get (pc := 299) t325_299 (by decide) (zk1 (w176s.k fk_zMm_336)) (w176s.p rfl fv_zMm_336_40) ?_
                              refine zs_iload (pc := 302) t325_302 rfl ?_
                              refine zs_iald (pc := 304) t325_304 (j := w183n) (by decide) (zk1 (w176s.k fk_zMm_360)) (show w181x10.toInt = ((w183n : Nat) : Int) by omega) (zk2 (w176s.k fk_zMm_360) (by omega)) zIs ?_
                              refine zs_iload (pc := 305) t325_305 rfl ?_
                              obtain ⟨w272v, w272⟩ : ∃ v, v = w269v - w178v := ⟨_, rfl⟩
                              have w272g := zrg w272v
                              refine zs_isub (pc := 307) t325_307 (c := w272v) w272.symm ?_
                              refine zs_aload_n (pc := 308) t325_308 rfl ?_
                              refine zs_get (pc := 309) t325_309 (by decide) (zk1 (w176s.k fk_zMm_336)) (w176s.p rfl fv_zMm_336_0) ?_
                              refine zs_bipush (pc := 312) t325_312 (v := 13) (by decide) ?_
                              refine zs_iald (pc := 314) t325_314 (j := 13) (by decide) (zk1 (w176s.k fk_zMm_337)) li13 (zk2 (w176s.k fk_zMm_337) (by decide)) ((zIo (by decide)).trans ((zIo (by decide)).trans ((w176F 337 13 rfl).trans ((zIo (by decide)).trans ((zIo (by decide)).trans ((zIo (by decide)).trans ((zIo (by decide)).trans ((w170F 337 13 rfl).trans ((w1F 337 13 rfl).trans rfl))))))))) ?_
                              by_cases w273 : w272v.toInt ≤ (zI M 337 13).toInt
                              · refine zs_icmp_leT (pc := 315) t325_315 rfl rfl (by omega) ?_
                                refine zs_iconst (pc := 322) t325_322 (v := 0) (by decide) ?_
                                obtain ⟨w274v, w274e, w274⟩ := ziadd (a := (zI w176M 336 43)) (b := (0 : Int32)) rfl li0 (by omega) (by omega)
                                refine zs_iadd (pc := 323) t325_323 (c := w274v) w274e ?_
                                have w275 : zIv mLo mHi (zsI (zsI (zsI w176M 361 w267n w178v) 360 w183n w269v) 336 43 w274v) := zIv.put w270 (show (-2147483648) ≤ w274v.toInt ∧ w274v.toInt ≤ 2147483647 from zrg w274v)
                                refine zs_putI (pc := 324) t325_324 (zk1 (w176s.k fk_zMm_336)) rfl ?_
                                refine zs_aload_n (pc := 327) t325_327 rfl ?_
                                refine zs_aload_n (pc := 328) t325_328 rfl ?_
                                refine zs_get (pc := 329) t325_329 (by decide) (zk1 (w176s.k fk_zMm_336)) (w176s.p rfl fv_zMm_336_40) ?_
                                refine zs_iload (pc := 332) t325_332 rfl ?_
                                refine zs_iald (pc := 334) t325_334 (j := w183n) (by decide) (zk1 (w176s.k fk_zMm_360)) (show w181x10.toInt = ((w183n : Nat) : Int) by omega) (zk2 (w176s.k fk_zMm_360) (by omega)) ((zIo (by decide)).trans zIs) ?_
                                refine zs_aload_n (pc := 335) t325_335 rfl ?_
                                have w276 := zrg (zI w176M 336 45)
                                refine zs_get (pc := 336) t325_336 (by decide) (zk1 (w176s.k fk_zMm_336)) (zfvi rfl ((zIoj (by decide)).trans ((zIo (by decide)).trans ((zIo (by decide)).trans rfl)))) ?_
                                by_cases w277 : w269v.toInt ≤ (zI w176M 336 45).toInt
                                · refine zs_icmp_leT (pc := 339) t325_339 rfl rfl (by omega) ?_
                                  refine zs_aload_n (pc := 352) t325_352 rfl ?_
                                  refine zs_get (pc := 353) t325_353 (by decide) (zk1 (w176s.k fk_zMm_336)) (zfvi rfl ((zIoj (by decide)).trans ((zIo (by decide)).trans ((zIo (by decide)).trans rfl)))) ?_
                                  have w278 : zIv mLo mHi (zsI (zsI (zsI (zsI w176M 361 w267n w178v) 360 w183n w269v) 336 43 w274v) 336 45 (zI w176M 336 45)) := zIv.put w275 (show (-2147483648) ≤ (zI w176M 336 45).toInt ∧ (zI w176M 336 45).toInt ≤ 2147483647 from zrg (zI w176M 336 45))
                                  refine zs_putI (pc := 356) t325_356 (zk1 (w176s.k fk_zMm_336)) rfl ?_
                                  obtain ⟨w279v, w279e, w279⟩ := ziadd (a := w176x6) (b := Int32.ofInt 1) rfl (show (Int32.ofInt 1).toInt = 1 by decide) (by omega) (by omega)
                                  refine zs_iinc (pc := 359) t325_359 (ls' := [(6, .int w279v), (11, .int (1 : Int32)), (0, .ref 336), (1, .int a), (2, .int b), (3, .int c), (4, .int d), (5, .int (1 : Int32)), (7, .int w176x7), (8, .int w178v), (9, .int w179x9), (10, .int w181x10)]) (zml mf325 (by decide)) rfl (c := w279v) w279e rfl ?_
                                  obtain ⟨w280v, w280e, w280⟩ := ziadd (a := w176x7) (b := Int32.ofInt 1) rfl (show (Int32.ofInt 1).toInt = 1 by decide) (by omega) (by omega)
                                  refine zs_iinc (pc := 362) t325_362 (ls' := [(7, .int w280v), (6, .int w279v), (11, .int (1 : Int32)), (0, .ref 336), (1, .int a), (2, .int b), (3, .int c), (4, .int d), (5, .int (1 : Int32)), (8, .int w178v), (9, .int w179x9), (10, .int w181x10)]) (zml mf325 (by decide)) rfl (c := w280v) w280e rfl ?_
                                  refine zs_goto (pc := 365) t325_365 ?_
                                  refine zGo.locals (ls' := [(0, .ref 336), (1, .int a), (2, .int b), (3, .int c), (4, .int d), (5, .int (1 : Int32)), (6, .int w279v), (7, .int w280v)]) (by simp) ?_
                                  have w281 := w279
                                  have w282 := w280
                                  exact w176ih (w176m - 1) (by omega) w279v w280v (zsI (zsI (zsI (zsI w176M 361 w267n w178v) 360 w183n w269v) 336 43 w274v) 336 45 (zI w176M 336 45)) ⟨by omega, by omega⟩ ⟨by omega, by omega⟩ w176s w278 ((((((zFr.refl).trans (w176F.mono rfl)).put rfl).put rfl).put rfl).put rfl) w176J (by omega) (by omega)
                                · refine zs_icmp_leF (pc := 339) t325_339 rfl rfl (by omega) ?_
                                  refine zs_aload_n (pc := 342) t325_342 rfl ?_
                                  refine zs_get (pc := 343) t325_343 (by decide) (zk1 (w176s.k fk_zMm_336)) (w176s.p rfl fv_zMm_336_40) ?_
                                  refine zs_iload (pc := 346) t325_346 rfl ?_
                                  refine zs_iald (pc := 348) t325_348 (j := w183n) (by decide) (zk1 (w176s.k fk_zMm_360)) (show w181x10.toInt = ((w183n : Nat) : Int) by omega) (zk2 (w176s.k fk_zMm_360) (by omega)) ((zIo (by decide)).trans zIs) ?_
                                  refine zs_goto (pc := 349) t325_349 ?_
                                  have w283 : zIv mLo mHi (zsI (zsI (zsI (zsI w176M 361 w267n w178v) 360 w183n w269v) 336 43 w274v) 336 45 w269v) := zIv.put w275 (show (-2147483648) ≤ w269v.toInt ∧ w269v.toInt ≤ 2147483647 from zrg w269v)
                                  refine zs_putI (pc := 356) t325_356 (zk1 (w176s.k fk_zMm_336)) rfl ?_
                                  obtain ⟨w284v, w284e, w284⟩ := ziadd (a := w176x6) (b := Int32.ofInt 1) rfl (show (Int32.ofInt 1).toInt = 1 by decide) (by omega) (by omega)
                                  refine zs_iinc (pc := 359) t325_359 (ls' := [(6, .int w284v), (11, .int (1 : Int32)), (0, .ref 336), (1, .int a), (2, .int b), (3, .int c), (4, .int d), (5, .int (1 : Int32)), (7, .int w176x7), (8, .int w178v), (9, .int w179x9), (10, .int w181x10)]) (zml mf325 (by decide)) rfl (c := w284v) w284e rfl ?_
                                  obtain ⟨w285v, w285e, w285⟩ := ziadd (a := w176x7) (b := Int32.ofInt 1) rfl (show (Int32.ofInt 1).toInt = 1 by decide) (by omega) (by omega)
                                  refine zs_iinc (pc := 362) t325_362 (ls' := [(7, .int w285v), (6, .int w284v), (11, .int (1 : Int32)), (0, .ref 336), (1, .int a), (2, .int b), (3, .int c), (4, .int d), (5, .int (1 : Int32)), (8, .int w178v), (9, .int w179x9), (10, .int w181x10)]) (zml mf325 (by decide)) rfl (c := w285v) w285e rfl ?_
                                  refine zs_goto (pc := 365) t325_365 ?_
                                  refine zGo.locals (ls' := [(0, .ref 336), (1, .int a), (2, .int b), (3, .int c), (4, .int d), (5, .int (1 : Int32)), (6, .int w284v), (7, .int w285v)]) (by simp) ?_
                                  have w286 := w284
                                  have w287 := w285
                                  exact w176ih (w176m - 1) (by omega) w284v w285v (zsI (zsI (zsI (zsI w176M 361 w267n w178v) 360 w183n w269v) 336 43 w274v) 336 45 w269v) ⟨by omega, by omega⟩ ⟨by omega, by omega⟩ w176s w283 ((((((zFr.refl).trans (w176F.mono rfl)).put rfl).put rfl).put rfl).put rfl) w176J (by omega) (by omega)
                              · refine zs_icmp_leF (pc := 315) t325_315 rfl rfl (by omega) ?_
                                refine zs_iconst (pc := 318) t325_318 (v := 1) (by decide) ?_
                                refine zs_goto (pc := 319) t325_319 ?_
                                obtain ⟨w288v, w288⟩ : ∃ v, v = (zI w176M 336 43) + (1 : Int32) := ⟨_, rfl⟩
                                have w288g := zrg w288v
                                refine zs_iadd (pc := 323) t325_323 (c := w288v) w288.symm ?_
                                have w289 : zIv mLo mHi (zsI (zsI (zsI w176M 361 w267n w178v) 360 w183n w269v) 336 43 w288v) := zIv.put w270 (show (-2147483648) ≤ w288v.toInt ∧ w288v.toInt ≤ 2147483647 from zrg w288v)
                                refine zs_putI (pc := 324) t325_324 (zk1 (w176s.k fk_zMm_336)) rfl ?_
                                refine zs_aload_n (pc := 327) t325_327 rfl ?_
                                refine zs_aload_n (pc := 328) t325_328 rfl ?_
                                refine zs_get (pc := 329) t325_329 (by decide) (zk1 (w176s.k fk_zMm_336)) (w176s.p rfl fv_zMm_336_40) ?_
                                refine zs_iload (pc := 332) t325_332 rfl ?_
                                refine zs_iald (pc := 334) t325_334 (j := w183n) (by decide) (zk1 (w176s.k fk_zMm_360)) (show w181x10.toInt = ((w183n : Nat) : Int) by omega) (zk2 (w176s.k fk_zMm_360) (by omega)) ((zIo (by decide)).trans zIs) ?_
                                refine zs_aload_n (pc := 335) t325_335 rfl ?_
                                have w290 := zrg (zI w176M 336 45)
                                refine zs_get (pc := 336) t325_336 (by decide) (zk1 (w176s.k fk_zMm_336)) (zfvi rfl ((zIoj (by decide)).trans ((zIo (by decide)).trans ((zIo (by decide)).trans rfl)))) ?_
                                by_cases w291 : w269v.toInt ≤ (zI w176M 336 45).toInt
                                · refine zs_icmp_leT (pc := 339) t325_339 rfl rfl (by omega) ?_
                                  refine zs_aload_n (pc := 352) t325_352 rfl ?_
                                  refine zs_get (pc := 353) t325_353 (by decide) (zk1 (w176s.k fk_zMm_336)) (zfvi rfl ((zIoj (by decide)).trans ((zIo (by decide)).trans ((zIo (by decide)).trans rfl)))) ?_
                                  have w292 : zIv mLo mHi (zsI (zsI (zsI (zsI w176M 361 w267n w178v) 360 w183n w269v) 336 43 w288v) 336 45 (zI w176M 336 45)) := zIv.put w289 (show (-2147483648) ≤ (zI w176M 336 45).toInt ∧ (zI w176M 336 45).toInt ≤ 2147483647 from zrg (zI w176M 336 45))
                                  refine zs_putI (pc := 356) t325_356 (zk1 (w176s.k fk_zMm_336)) rfl ?_
                                  obtain ⟨w293v, w293e, w293⟩ := ziadd (a := w176x6) (b := Int32.ofInt 1) rfl (show (Int32.ofInt 1).toInt = 1 by decide) (by omega) (by omega)
                                  refine zs_iinc (pc := 359) t325_359 (ls' := [(6, .int w293v), (11, .int (1 : Int32)), (0, .ref 336), (1, .int a), (2, .int b), (3, .int c), (4, .int d), (5, .int (1 : Int32)), (7, .int w176x7), (8, .int w178v), (9, .int w179x9), (10, .int w181x10)]) (zml mf325 (by decide)) rfl (c := w293v) w293e rfl ?_
                                  obtain ⟨w294v, w294e, w294⟩ := ziadd (a := w176x7) (b := Int32.ofInt 1) rfl (show (Int32.ofInt 1).toInt = 1 by decide) (by omega) (by omega)
                                  refine zs_iinc (pc := 362) t325_362 (ls' := [(7, .int w294v), (6, .int w293v), (11, .int (1 : Int32)), (0, .ref 336), (1, .int a), (2, .int b), (3, .int c), (4, .int d), (5, .int (1 : Int32)), (8, .int w178v), (9, .int w179x9), (10, .int w181x10)]) (zml mf325 (by decide)) rfl (c := w294v) w294e rfl ?_
                                  refine zs_goto (pc := 365) t325_365 ?_
                                  refine zGo.locals (ls' := [(0, .ref 336), (1, .int a), (2, .int b), (3, .int c), (4, .int d), (5, .int (1 : Int32)), (6, .int w293v), (7, .int w294v)]) (by simp) ?_
                                  have w295 := w293
                                  have w296 := w294
                                  exact w176ih (w176m - 1) (by omega) w293v w294v (zsI (zsI (zsI (zsI w176M 361 w267n w178v) 360 w183n w269v) 336 43 w288v) 336 45 (zI w176M 336 45)) ⟨by omega, by omega⟩ ⟨by omega, by omega⟩ w176s w292 ((((((zFr.refl).trans (w176F.mono rfl)).put rfl).put rfl).put rfl).put rfl) w176J (by omega) (by omega)
                                · refine zs_icmp_leF (pc := 339) t325_339 rfl rfl (by omega) ?_
                                  refine zs_aload_n (pc := 342) t325_342 rfl ?_
                                  refine zs_get (pc := 343) t325_343 (by decide) (zk1 (w176s.k fk_zMm_336)) (w176s.p rfl fv_zMm_336_40) ?_
                                  refine zs_iload (pc := 346) t325_346 rfl ?_
                                  refine zs_iald (pc := 348) t325_348 (j := w183n) (by decide) (zk1 (w176s.k fk_zMm_360)) (show w181x10.toInt = ((w183n : Nat) : Int) by omega) (zk2 (w176s.k fk_zMm_360) (by omega)) ((zIo (by decide)).trans zIs) ?_
                                  refine zs_goto (pc := 349) t325_349 ?_
                                  have w297 : zIv mLo mHi (zsI (zsI (zsI (zsI w176M 361 w267n w178v) 360 w183n w269v) 336 43 w288v) 336 45 w269v) := zIv.put w289 (show (-2147483648) ≤ w269v.toInt ∧ w269v.toInt ≤ 2147483647 from zrg w269v)
                                  refine zs_putI (pc := 356) t325_356 (zk1 (w176s.k fk_zMm_336)) rfl ?_
                                  obtain ⟨w298v, w298e, w298⟩ := ziadd (a := w176x6) (b := Int32.ofInt 1) rfl (show (Int32.ofInt 1).toInt = 1 by decide) (by omega) (by omega)
                                  refine zs_iinc (pc := 359) t325_359 (ls' := [(6, .int w298v), (11, .int (1 : Int32)), (0, .ref 336), (1, .int a), (2, .int b), (3, .int c), (4, .int d), (5, .int (1 : Int32)), (7, .int w176x7), (8, .int w178v), (9, .int w179x9), (10, .int w181x10)]) (zml mf325 (by decide)) rfl (c := w298v) w298e rfl ?_
                                  obtain ⟨w299v, w299e, w299⟩ := ziadd (a := w176x7) (b := Int32.ofInt 1) rfl (show (Int32.ofInt 1).toInt = 1 by decide) (by omega) (by omega)
                                  refine zs_iinc (pc := 362) t325_362 (ls' := [(7, .int w299v), (6, .int w298v), (11, .int (1 : Int32)), (0, .ref 336), (1, .int a), (2, .int b), (3, .int c), (4, .int d), (5, .int (1 : Int32)), (8, .int w178v), (9, .int w179x9), (10, .int w181x10)]) (zml mf325 (by decide)) rfl (c := w299v) w299e rfl ?_
                                  refine zs_goto (pc := 365) t325_365 ?_
                                  refine zGo.locals (ls' := [(0, .ref 336), (1, .int a), (2, .int b), (3, .int c), (4, .int d), (5, .int (1 : Int32)), (6, .int w298v), (7, .int w299v)]) (by simp) ?_
                                  have w300 := w298
                                  have w301 := w299
                                  exact w176ih (w176m - 1) (by omega) w298v w299v (zsI (zsI (zsI (zsI w176M 361 w267n w178v) 360 w183n w269v) 336 43 w288v) 336 45 w269v) ⟨by omega, by omega⟩ ⟨by omega, by omega⟩ w176s w297 ((((((zFr.refl).trans (w176F.mono rfl)).put rfl).put rfl).put rfl).put rfl) w176J (by omega) (by omega)
                          · refine zs_icmp_geF (pc := 149) t325_149 rfl rfl (by omega) ?_
                            refine zs_aload_n (pc := 152) t325_152 rfl ?_
                            refine zs_get (pc := 153) t325_153 (by decide) (zk1 (w176s.k fk_zMm_336)) (w176s.p rfl fv_zMm_336_40) ?_
                            refine zs_iload (pc := 156) t325_156 rfl ?_
                            obtain ⟨w302n, w302⟩ : ∃ n : Nat, w181x11.toInt = (n : Int) := ⟨(w181x11.toInt).toNat, by omega⟩
                            have w303 := zrg (zI w176M 360 w302n)
                            refine zs_iald (pc := 158) t325_158 (j := w302n) (by decide) (zk1 (w176s.k fk_zMm_360)) (show w181x11.toInt = ((w302n : Nat) : Int) by omega) (zk2 (w176s.k fk_zMm_360) (by omega)) rfl ?_
                            refine zs_aload_n (pc := 159) t325_159 rfl ?_
                            refine zs_get (pc := 160) t325_160 (by decide) (zk1 (w176s.k fk_zMm_336)) (w176s.p rfl fv_zMm_336_40) ?_
                            refine zs_iload (pc := 163) t325_163 rfl ?_
                            obtain ⟨w304n, w304⟩ : ∃ n : Nat, w181x10.toInt = (n : Int) := ⟨(w181x10.toInt).toNat, by omega⟩
                            have w305 := zrg (zI w176M 360 w304n)
                            refine zs_iald (pc := 165) t325_165 (j := w304n) (by decide) (zk1 (w176s.k fk_zMm_360)) (show w181x10.toInt = ((w304n : Nat) : Int) by omega) (zk2 (w176s.k fk_zMm_360) (by omega)) rfl ?_
                            by_cases w306 : (zI w176M 360 w304n).toInt ≤ (zI w176M 360 w302n).toInt
                            · refine zs_icmp_geT (pc := 166) t325_166 rfl rfl (by omega) ?_
                              refine zs_iload (pc := 174) t325_174 rfl ?_
                              refine zs_istore (pc := 176) t325_176 (ls' := [(10, .int w181x10), (0, .ref 336), (1, .int a), (2, .int b), (3, .int c), (4, .int d), (5, .int (1 : Int32)), (6, .int w176x6), (7, .int w176x7), (8, .int w178v), (9, .int w179x9), (11, .int w181x11)]) (zml mf325 (by decide)) rfl ?_
                              obtain ⟨w307v, w307e, w307⟩ := ziadd (a := w181x11) (b := Int32.ofInt 1) rfl (show (Int32.ofInt 1).toInt = 1 by decide) (by omega) (by omega)
                              refine zs_iinc (pc := 178) t325_178 (ls' := [(11, .int w307v), (10, .int w181x10), (0, .ref 336), (1, .int a), (2, .int b), (3, .int c), (4, .int d), (5, .int (1 : Int32)), (6, .int w176x6), (7, .int w176x7), (8, .int w178v), (9, .int w179x9)]) (zml mf325 (by decide)) rfl (c := w307v) w307e rfl ?_
                              refine zs_goto (pc := 181) t325_181 ?_
                              refine zGo.locals (ls' := [(0, .ref 336), (1, .int a), (2, .int b), (3, .int c), (4, .int d), (5, .int (1 : Int32)), (6, .int w176x6), (7, .int w176x7), (8, .int w178v), (9, .int w179x9), (10, .int w181x10), (11, .int w307v)]) (by simp) ?_
                              have w308 := w307
                              exact w181ih (w181m - 1) (by omega) w181x10 w307v ⟨by omega, by omega⟩ ⟨by omega, by omega⟩ (by omega)
                            · refine zs_icmp_geF (pc := 166) t325_166 rfl rfl (by omega) ?_
                              refine zs_iload (pc := 169) t325_169 rfl ?_
                              refine zs_goto (pc := 171) t325_171 ?_
                              refine zs_istore (pc := 176) t325_176 (ls' := [(10, .int w181x11), (0, .ref 336), (1, .int a), (2, .int b), (3, .int c), (4, .int d), (5, .int (1 : Int32)), (6, .int w176x6), (7, .int w176x7), (8, .int w178v), (9, .int w179x9), (11, .int w181x11)]) (zml mf325 (by decide)) rfl ?_
                              obtain ⟨w309v, w309e, w309⟩ := ziadd (a := w181x11) (b := Int32.ofInt 1) rfl (show (Int32.ofInt 1).toInt = 1 by decide) (by omega) (by omega)
                              refine zs_iinc (pc := 178) t325_178 (ls' := [(11, .int w309v), (10, .int w181x11), (0, .ref 336), (1, .int a), (2, .int b), (3, .int c), (4, .int d), (5, .int (1 : Int32)), (6, .int w176x6), (7, .int w176x7), (8, .int w178v), (9, .int w179x9)]) (zml mf325 (by decide)) rfl (c := w309v) w309e rfl ?_
                              refine zs_goto (pc := 181) t325_181 ?_
                              refine zGo.locals (ls' := [(0, .ref 336), (1, .int a), (2, .int b), (3, .int c), (4, .int d), (5, .int (1 : Int32)), (6, .int w176x6), (7, .int w176x7), (8, .int w178v), (9, .int w179x9), (10, .int w181x11), (11, .int w309v)]) (by simp) ?_
                              have w310 := w309
                              exact w181ih (w181m - 1) (by omega) w181x11 w309v ⟨by omega, by omega⟩ ⟨by omega, by omega⟩ (by omega)
                      refine zGo.locals (ls' := [(0, .ref 336), (1, .int a), (2, .int b), (3, .int c), (4, .int d), (5, .int (1 : Int32)), (6, .int w176x6), (7, .int w176x7), (8, .int w178v), (9, .int w179x9), (10, .int (0 : Int32)), (11, .int (1 : Int32))]) (by simp) ?_
                      have w311 := li0
                      have w312 := li1
                      exact w181L ((8 - 1 : Int).toNat) (0 : Int32) (1 : Int32) ⟨by decide, by decide⟩ ⟨by decide, by decide⟩ (by omega)
                    · refine zs_icmp_geF (pc := 109) t325_109 rfl rfl (by omega) ?_
                      refine zs_iload (pc := 112) t325_112 rfl ?_
                      refine zs_aload_n (pc := 114) t325_114 rfl ?_
                      refine zs_get (pc := 115) t325_115 (by decide) (zk1 (w176s.k fk_zMm_336)) (w176s.p rfl fv_zMm_336_41) ?_
                      refine zs_iload (pc := 118) t325_118 rfl ?_
                      obtain ⟨w313n, w313⟩ : ∃ n : Nat, w179x10.toInt = (n : Int) := ⟨(w179x10.toInt).toNat, by omega⟩
                      have w314 := zrg (zI w176M 361 w313n)
                      refine zs_iald (pc := 120) t325_120 (j := w313n) (by decide) (zk1 (w176s.k fk_zMm_361)) (show w179x10.toInt = ((w313n : Nat) : Int) by omega) (zk2 (w176s.k fk_zMm_361) (by omega)) rfl ?_
                      refine zs_iload (pc := 121) t325_121 rfl ?_
                      by_cases w315 : (zI w176M 361 w313n).toInt ≤ w178v.toInt
                      · refine zs_icmp_leT (pc := 123) t325_123 rfl rfl (by omega) ?_
                        refine zs_iconst (pc := 130) t325_130 (v := 0) (by decide) ?_
                        obtain ⟨w316v, w316e, w316⟩ := ziadd (a := w179x9) (b := (0 : Int32)) rfl li0 (by omega) (by omega)
                        refine zs_iadd (pc := 131) t325_131 (c := w316v) w316e ?_
                        refine zs_istore (pc := 132) t325_132 (ls' := [(9, .int w316v), (0, .ref 336), (1, .int a), (2, .int b), (3, .int c), (4, .int d), (5, .int (1 : Int32)), (6, .int w176x6), (7, .int w176x7), (8, .int w178v), (10, .int w179x10)]) (zml mf325 (by decide)) rfl ?_
                        obtain ⟨w317v, w317e, w317⟩ := ziadd (a := w179x10) (b := Int32.ofInt 1) rfl (show (Int32.ofInt 1).toInt = 1 by decide) (by omega) (by omega)
                        refine zs_iinc (pc := 134) t325_134 (ls' := [(10, .int w317v), (9, .int w316v), (0, .ref 336), (1, .int a), (2, .int b), (3, .int c), (4, .int d), (5, .int (1 : Int32)), (6, .int w176x6), (7, .int w176x7), (8, .int w178v)]) (zml mf325 (by decide)) rfl (c := w317v) w317e rfl ?_
                        refine zs_goto (pc := 137) t325_137 ?_
                        refine zGo.locals (ls' := [(0, .ref 336), (1, .int a), (2, .int b), (3, .int c), (4, .int d), (5, .int (1 : Int32)), (6, .int w176x6), (7, .int w176x7), (8, .int w178v), (9, .int w316v), (10, .int w317v)]) (by simp) ?_
                        have w318 := w316
                        have w319 := w317
                        exact w179ih (w179m - 1) (by omega) w316v w317v ⟨by omega, by omega⟩ (by omega)
                      · refine zs_icmp_leF (pc := 123) t325_123 rfl rfl (by omega) ?_
                        refine zs_iconst (pc := 126) t325_126 (v := 1) (by decide) ?_
                        refine zs_goto (pc := 127) t325_127 ?_
                        obtain ⟨w320v, w320⟩ : ∃ v, v = w179x9 + (1 : Int32) := ⟨_, rfl⟩
                        have w320g := zrg w320v
                        refine zs_iadd (pc := 131) t325_131 (c := w320v) w320.symm ?_
                        refine zs_istore (pc := 132) t325_132 (ls' := [(9, .int w320v), (0, .ref 336), (1, .int a), (2, .int b), (3, .int c), (4, .int d), (5, .int (1 : Int32)), (6, .int w176x6), (7, .int w176x7), (8, .int w178v), (10, .int w179x10)]) (zml mf325 (by decide)) rfl ?_
                        obtain ⟨w321v, w321e, w321⟩ := ziadd (a := w179x10) (b := Int32.ofInt 1) rfl (show (Int32.ofInt 1).toInt = 1 by decide) (by omega) (by omega)
                        refine zs_iinc (pc := 134) t325_134 (ls' := [(10, .int w321v), (9, .int w320v), (0, .ref 336), (1, .int a), (2, .int b), (3, .int c), (4, .int d), (5, .int (1 : Int32)), (6, .int w176x6), (7, .int w176x7), (8, .int w178v)]) (zml mf325 (by decide)) rfl (c := w321v) w321e rfl ?_
                        refine zs_goto (pc := 137) t325_137 ?_
                        refine zGo.locals (ls' := [(0, .ref 336), (1, .int a), (2, .int b), (3, .int c), (4, .int d), (5, .int (1 : Int32)), (6, .int w176x6), (7, .int w176x7), (8, .int w178v), (9, .int w320v), (10, .int w321v)]) (by simp) ?_
                        have w322 := w321
                        exact w179ih (w179m - 1) (by omega) w320v w321v ⟨by omega, by omega⟩ (by omega)
                refine zGo.locals (ls' := [(0, .ref 336), (1, .int a), (2, .int b), (3, .int c), (4, .int d), (5, .int (1 : Int32)), (6, .int w176x6), (7, .int w176x7), (8, .int w178v), (9, .int (0 : Int32)), (10, .int (0 : Int32))]) (by simp) ?_
                have w323 := li0
                have w324 := li0
                exact w179L ((200 - 0 : Int).toNat) (0 : Int32) (0 : Int32) ⟨by decide, by decide⟩ (by omega)
          refine zGo.locals (ls' := [(0, .ref 336), (1, .int a), (2, .int b), (3, .int c), (4, .int d), (5, .int (1 : Int32)), (6, .int (0 : Int32)), (7, .int (0 : Int32))]) (by simp) ?_
          have w325 := li0
          have w326 := li0
          exact w176L ((200 - 0 : Int).toNat) (0 : Int32) (0 : Int32) (zsI (zsI (zsI (zsI w170M 336 42 (0 : Int32)) 336 43 (0 : Int32)) 336 44 (0 : Int32)) 336 45 (0 : Int32)) ⟨by decide, by decide⟩ ⟨by decide, by decide⟩ w170s w175 zFr.refl rfl (by omega) (by omega)
        · refine zs_icmp_geF (pc := 44) t325_44 rfl rfl (by omega) ?_
          refine zs_aload_n (pc := 47) t325_47 rfl ?_
          refine zs_get (pc := 48) t325_48 (by decide) (zk1 (w170s.k fk_zMm_336)) (w170s.p rfl fv_zMm_336_40) ?_
          refine zs_iload (pc := 51) t325_51 rfl ?_
          refine zs_iconst (pc := 53) t325_53 (v := 0) (by decide) ?_
          obtain ⟨w327n, w327⟩ : ∃ n : Nat, w170x6.toInt = (n : Int) := ⟨(w170x6.toInt).toNat, by omega⟩
          have w328 : zIv mLo mHi (zsI w170M 360 w327n (0 : Int32)) := zIv.put w170I (show (-2147483648) ≤ (0 : Int32).toInt ∧ (0 : Int32).toInt ≤ 2147483647 from zrg (0 : Int32))
          refine zs_iast (pc := 54) t325_54 (j := w327n) (by decide) (zk1 (w170s.k fk_zMm_360)) (show w170x6.toInt = ((w327n : Nat) : Int) by omega) (zk2 (w170s.k fk_zMm_360) (by omega)) ?_
          obtain ⟨w329v, w329e, w329⟩ := ziadd (a := w170x6) (b := Int32.ofInt 1) rfl (show (Int32.ofInt 1).toInt = 1 by decide) (by omega) (by omega)
          refine zs_iinc (pc := 55) t325_55 (ls' := [(6, .int w329v), (0, .ref 336), (1, .int a), (2, .int b), (3, .int c), (4, .int d), (5, .int (1 : Int32))]) (zml mf325 (by decide)) rfl (c := w329v) w329e rfl ?_
          refine zs_goto (pc := 58) t325_58 ?_
          refine zGo.locals (ls' := [(0, .ref 336), (1, .int a), (2, .int b), (3, .int c), (4, .int d), (5, .int (1 : Int32)), (6, .int w329v)]) (by simp) ?_
          have w330 := w329
          exact w170ih (w170m - 1) (by omega) w329v (zsI w170M 360 w327n (0 : Int32)) ⟨by omega, by omega⟩ w170s w328 (((zFr.refl).trans (w170F.mono rfl)).put rfl) w170J (by omega)
    refine zGo.locals (ls' := [(0, .ref 336), (1, .int a), (2, .int b), (3, .int c), (4, .int d), (5, .int (1 : Int32)), (6, .int (0 : Int32))]) (by simp) ?_
    have w331 := li0
    exact w170L ((8 - 0 : Int).toNat) (0 : Int32) w1M ⟨by decide, by decide⟩ w1s w1I zFr.refl rfl (by omega)
