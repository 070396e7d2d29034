theorem R244p {X : zX} {l : Launch} {M : zM} {Q : Option Value → zM → Prop} {a b c : Int32} (hs : zSk zMm M) (hI : zIv mLo mHi M) {gg : Nat → Int} {nn : Int} (ha : 0 ≤ a.toInt ∧ a.toInt ≤ 500) (u0 : (zI M 336 6).toInt ≤ (zI M 336 5).toInt) (u1 : 0 ≤ (zI M 336 6).toInt) (u2 : (zI M 336 7).toInt = -1) (x0 : zTm M gg nn) (hQ : ∀ (M' : zM) (v : Int32), zSk zMm M' → zIv mLo mHi M' → zFr [(336, 336, some 6), (336, 336, some 7), (336, 336, some 8)] M M' → zJ M' 351 = zJ M 351 → ((zI M 336 6).toInt ≤ (zI M' 336 6).toInt) → (∀ p : Nat, (zI M 336 6).toInt = (p : Int) → ∃ (e k : Nat) (x : Int), pDg gg 4 p = e ∧ e = p + k ∧ pVal gg p k = x ∧ (e : Int) ≤ nn ∧ 0 ≤ x ∧ x ≤ 9999 ∧ ((v.toInt = 1 ∧ e ≠ p ∧ ¬ (48 ≤ gg e ∧ gg e ≤ 57) ∧ (zI M' 336 6).toInt = (e : Int) ∧ (zI M' 336 8).toInt = x ∧ b.toInt ≤ x ∧ x ≤ c.toInt ∧ (zI M' 336 7).toInt = -1) ∨ (v.toInt = 0 ∧ (zI M' 336 7).toInt ≠ -1 ∧ (e = p ∨ (48 ≤ gg e ∧ gg e ≤ 57) ∨ x < b.toInt ∨ c.toInt < x)))) → 0 ≤ v.toInt → v.toInt ≤ 1 → Q (some (.int v)) M') : zCall X l 1 0 0 244 [.ref 336, .int a, .int (1 : Int32), .int b, .int c] M Q := by
  have ga := zrg a
  have gb := zrg b
  have gc := zrg c
  refine zs_in (by decide) mf244 (Nat.le_of_ble_eq_true rfl) ?_
  show zGo X l 1 0 0 244 0 [(0, .ref 336), (1, .int a), (2, .int (1 : Int32)), (3, .int b), (4, .int c)] [] M _
  have hn := x0.2
  have w1 := ib336_5 hI
  have w2 : (zI M 336 5).toInt = (zI M 336 5).toInt := (congrArg Int32.toInt rfl).trans rfl
  have w3 := ib336_6 hI
  have w4 : (zI M 336 6).toInt = (zI M 336 6).toInt := (congrArg Int32.toInt rfl).trans rfl
  have w5 := ib336_7 hI
  have w6 : (zI M 336 7).toInt = (zI M 336 7).toInt := (congrArg Int32.toInt rfl).trans rfl
  obtain ⟨w7n, w7⟩ : ∃ n : Nat, (zI M 336 6).toInt = (n : Int) := ⟨((zI M 336 6).toInt).toNat, by omega⟩
  refine zs_aload_n (pc := 0) t244_0 rfl ?_
  refine zs_get (pc := 1) t244_1 (by decide) (zk1 (hs.k fk_zMm_336)) (zfvi rfl rfl) ?_
  refine zs_istore (pc := 4) t244_4 (ls' := [(5, .int (zI M 336 6)), (0, .ref 336), (1, .int a), (2, .int (1 : Int32)), (3, .int b), (4, .int c)]) (zml mf244 (by decide)) rfl ?_
  refine zs_aload_n (pc := 6) t244_6 rfl ?_
  refine zs_iconst (pc := 7) t244_7 (v := 0) (by decide) ?_
  have w8 : zIv mLo mHi (zsI M 336 8 (0 : Int32)) := zIv.put hI (show (-2147483648) ≤ (0 : Int32).toInt ∧ (0 : Int32).toInt ≤ 2147483647 from zrg (0 : Int32))
  refine zs_putI (pc := 8) t244_8 (zk1 (hs.k fk_zMm_336)) rfl ?_
  have w9L : ∀ (m : Nat) (w9M : zM), zSk zMm w9M → zIv mLo mHi w9M → zFr [(336, 336, some 6), (336, 336, some 7), (336, 336, some 8)] (zsI M 336 8 (0 : Int32)) w9M → zJ w9M 351 = zJ (zsI M 336 8 (0 : Int32)) 351 → ((zI w9M 336 7).toInt = (zI (zsI M 336 8 (0 : Int32)) 336 7).toInt) → (((zI w9M 336 6).toInt = (zI M 336 6).toInt ∧ (zI w9M 336 8).toInt = 0) ∨ ((zI w9M 336 6).toInt = (zI M 336 6).toInt + 1 ∧ 0 ≤ (zI w9M 336 8).toInt ∧ (zI w9M 336 8).toInt ≤ 9) ∨ ((zI w9M 336 6).toInt = (zI M 336 6).toInt + 2 ∧ 0 ≤ (zI w9M 336 8).toInt ∧ (zI w9M 336 8).toInt ≤ 99) ∨ ((zI w9M 336 6).toInt = (zI M 336 6).toInt + 3 ∧ 0 ≤ (zI w9M 336 8).toInt ∧ (zI w9M 336 8).toInt ≤ 999) ∨ ((zI w9M 336 6).toInt = (zI M 336 6).toInt + 4 ∧ 0 ≤ (zI w9M 336 8).toInt ∧ (zI w9M 336 8).toInt ≤ 9999)) → ((zI w9M 336 6).toInt ≤ nn) → (∀ k q : Nat, (zI w9M 336 6).toInt = (q : Int) → (k : Int) = (zI M 336 6).toInt + 4 - (q : Int) → pDg gg 4 w7n = pDg gg k q) → (∀ d : Nat, (d : Int) = (zI w9M 336 6).toInt - (zI M 336 6).toInt → (zI w9M 336 8).toInt = pVal gg w7n d) → 500 - (zI w9M 336 6).toInt ≤ (m : Int) → zGo X l 1 0 0 244 11 [(0, .ref 336), (1, .int a), (2, .int (1 : Int32)), (3, .int b), (4, .int c), (5, .int (zI M 336 6))] [] w9M Q := by
    intro m
    induction m using Nat.strongRecOn with
    | ind w9m w9ih =>
      intro w9M w9s w9I w9F w9J w9r0 w9r1 w9r2 w9t0 w9t1 w9q
      have w10 := ib336_7 w9I
      have w11 : (zI (zsI M 336 8 (0 : Int32)) 336 7).toInt = (zI M 336 7).toInt := (congrArg Int32.toInt ((zIoj (by decide)).trans rfl)).trans rfl
      have w12 := ib336_6 w9I
      have w13 := zrg (zI w9M 336 8)
      refine zs_aload_n (pc := 11) t244_11 rfl ?_
      refine zs_invV (pc := 12) (k := 336) (as' := []) (st := []) t244_12 mf238 rfl rfl (Or.inl ⟨by decide, (zk1 (w9s.k fk_zMm_336))⟩) ⟨by decide, by decide, Nat.le_of_ble_eq_true rfl, Nat.le_of_ble_eq_true rfl⟩ (H238 w9s w9I ?_) (fun _ _ q => q)
      have w14 := zhere.rg (M := w9M)
      have w15 : (zI w9M 336 6).toInt = (zI w9M 336 6).toInt := (congrArg Int32.toInt rfl).trans rfl
      have w16 : (zI w9M 336 5).toInt = (zI M 336 5).toInt := (congrArg Int32.toInt ((w9F 336 5 rfl).trans ((zIoj (by decide)).trans rfl))).trans rfl
      have w17 : (zI w9M 336 6).toInt = (zI w9M 336 6).toInt := (congrArg Int32.toInt rfl).trans rfl
      obtain ⟨w18n, w18⟩ : ∃ n : Nat, (zI w9M 336 6).toInt = (n : Int) := ⟨((zI w9M 336 6).toInt).toNat, by omega⟩
      have w19 : (zI w9M 336 5).toInt = (zI M 336 5).toInt := (congrArg Int32.toInt ((w9F 336 5 rfl).trans ((zIoj (by decide)).trans rfl))).trans rfl
      have w20 : (zhere w9M).toInt = gg w18n := zhere.tr (zTm.mk x0 (fun j => ((w9F 339 j rfl).trans (zIo (by decide)))) ((w9F 336 5 rfl).trans (zIoj (by decide)))) (by omega)
      have w21 := zTm.rg x0 w18n
      show zGo X l 1 0 0 244 15 [(0, .ref 336), (1, .int a), (2, .int (1 : Int32)), (3, .int b), (4, .int c), (5, .int (zI M 336 6))] [.int (zhere w9M)] w9M _
      refine zs_invS (pc := 15) (as := [.int (zhere w9M)]) (st := []) t244_15 (by decide) mf245 rfl rfl ⟨by decide, by decide, Nat.le_of_ble_eq_true rfl, Nat.le_of_ble_eq_true rfl⟩ (K245 w9s w9I ?_) (fun _ _ q => q)
      intro w22v w22t0 w22a w22b
      show zGo X l 1 0 0 244 18 [(0, .ref 336), (1, .int a), (2, .int (1 : Int32)), (3, .int b), (4, .int c), (5, .int (zI M 336 6))] [.int w22v] w9M _
      by_cases w23 : w22v.toInt = 0
      · refine zs_if_eqT (pc := 18) t244_18 rfl (by omega) ?_
        refine zs_aload_n (pc := 64) t244_64 rfl ?_
        refine zs_get (pc := 65) t244_65 (by decide) (zk1 (w9s.k fk_zMm_336)) (zfvi rfl rfl) ?_
        refine zs_iload (pc := 68) t244_68 rfl ?_
        by_cases w24 : (zI w9M 336 6).toInt = (zI M 336 6).toInt
        · refine zs_icmp_eqT (pc := 70) t244_70 rfl rfl (by omega) ?_
          refine zs_aload_n (pc := 83) t244_83 rfl ?_
          refine zs_aload_n (pc := 84) t244_84 rfl ?_
          refine zs_get (pc := 85) t244_85 (by decide) (zk1 (w9s.k fk_zMm_336)) (zfvi rfl rfl) ?_
          refine zs_invV (pc := 88) (k := 336) (as' := [.int (zI w9M 336 6)]) (st := []) t244_88 mf239 rfl rfl (Or.inl ⟨by decide, (zk1 (w9s.k fk_zMm_336))⟩) ⟨by decide, by decide, Nat.le_of_ble_eq_true rfl, Nat.le_of_ble_eq_true rfl⟩ (zs_in (by decide) mf239 (Nat.le_of_ble_eq_true rfl) ?_) (fun _ _ q => q)
          show zGo X l 0 0 0 239 0 [(0, .ref 336), (1, .int (zI w9M 336 6))] [] w9M _
          refine zs_aload_n (pc := 0) t239_0 rfl ?_
          refine zs_iload_n (pc := 1) t239_1 rfl ?_
          have w25 : zIv mLo mHi (zsI w9M 336 7 (zI w9M 336 6)) := zIv.put w9I (show (-1) ≤ (zI w9M 336 6).toInt ∧ (zI w9M 336 6).toInt ≤ 500 from ⟨by omega, by omega⟩)
          refine zs_putI (pc := 2) t239_2 (zk1 (w9s.k fk_zMm_336)) rfl ?_
          refine zs_iconst (pc := 5) t239_5 (v := 0) (by decide) ?_
          refine zs_iret (pc := 6) t239_6 mr239 (by decide) ?_
          show zGo X l 1 0 0 244 91 [(0, .ref 336), (1, .int a), (2, .int (1 : Int32)), (3, .int b), (4, .int c), (5, .int (zI M 336 6))] [.int (0 : Int32)] (zsI w9M 336 7 (zI w9M 336 6)) _
          have w26 : (0 : Int32).toInt = 0 := li0
          have w27 : (zI (zsI w9M 336 7 (zI w9M 336 6)) 336 6).toInt = (zI w9M 336 6).toInt := (congrArg Int32.toInt ((zIoj (by decide)).trans rfl)).trans rfl
          have w28 := li0
          have w29 : (zI (zsI w9M 336 7 (zI w9M 336 6)) 336 6).toInt = (zI w9M 336 6).toInt := (congrArg Int32.toInt ((zIoj (by decide)).trans rfl)).trans rfl
          have w30 : (zI (zsI w9M 336 7 (zI w9M 336 6)) 336 7).toInt = (zI w9M 336 6).toInt := (congrArg Int32.toInt zIs).trans rfl
          have w31 : (zI (zsI w9M 336 7 (zI w9M 336 6)) 336 8).toInt = (zI w9M 336 8).toInt := (congrArg Int32.toInt ((zIoj (by decide)).trans rfl)).trans rfl
          have w32 : pDg gg 4 w7n = w18n := by first | exact w9t0 0 w18n (by omega) (by omega) | exact (w9t0 (w7n + 4 - w18n) w18n (by omega) (by omega)).trans (pDg.z (by omega))
          exact zs_iret (pc := 91) t244_91 mr244 (by decide) (hQ _ _ w9s w25 ((((zFr.refl).put rfl).trans (w9F.mono rfl)).put rfl) w9J (by omega) (fun p hp => by obtain rfl : w7n = p := (by omega); exact ⟨w18n, w18n - w7n, (zI w9M 336 8).toInt, w32, by omega, (w9t1 (w18n - w7n) (by omega)).symm, by omega, by omega, by omega, by omega⟩) (by decide) (by decide))
        · refine zs_icmp_eqF (pc := 70) t244_70 rfl rfl (by omega) ?_
          refine zs_aload_n (pc := 73) t244_73 rfl ?_
          refine zs_invV (pc := 74) (k := 336) (as' := []) (st := []) t244_74 mf238 rfl rfl (Or.inl ⟨by decide, (zk1 (w9s.k fk_zMm_336))⟩) ⟨by decide, by decide, Nat.le_of_ble_eq_true rfl, Nat.le_of_ble_eq_true rfl⟩ (H238 w9s w9I ?_) (fun _ _ q => q)
          have w33 := zhere.rg (M := w9M)
          have w34 : (zI w9M 336 6).toInt = (zI w9M 336 6).toInt := (congrArg Int32.toInt rfl).trans rfl
          have w35 : (zI w9M 336 5).toInt = (zI M 336 5).toInt := (congrArg Int32.toInt ((w9F 336 5 rfl).trans ((zIoj (by decide)).trans rfl))).trans rfl
          have w36 : (zI w9M 336 6).toInt = (zI w9M 336 6).toInt := (congrArg Int32.toInt rfl).trans rfl
          have w37 : (zI w9M 336 5).toInt = (zI M 336 5).toInt := (congrArg Int32.toInt ((w9F 336 5 rfl).trans ((zIoj (by decide)).trans rfl))).trans rfl
          have w38 : (zhere w9M).toInt = gg w18n := zhere.tr (zTm.mk x0 (fun j => ((w9F 339 j rfl).trans (zIo (by decide)))) ((w9F 336 5 rfl).trans (zIoj (by decide)))) (by omega)
          have w39 := zTm.rg x0 w18n
          show zGo X l 1 0 0 244 77 [(0, .ref 336), (1, .int a), (2, .int (1 : Int32)), (3, .int b), (4, .int c), (5, .int (zI M 336 6))] [.int (zhere w9M)] w9M _
          refine zs_invS (pc := 77) (as := [.int (zhere w9M)]) (st := []) t244_77 (by decide) mf245 rfl rfl ⟨by decide, by decide, Nat.le_of_ble_eq_true rfl, Nat.le_of_ble_eq_true rfl⟩ (K245 w9s w9I ?_) (fun _ _ q => q)
          intro w40v w40t0 w40a w40b
          show zGo X l 1 0 0 244 80 [(0, .ref 336), (1, .int a), (2, .int (1 : Int32)), (3, .int b), (4, .int c), (5, .int (zI M 336 6))] [.int w40v] w9M _
          by_cases w41 : w40v.toInt = 0
          · refine zs_if_eqT (pc := 80) t244_80 rfl (by omega) ?_
            refine zs_aload_n (pc := 92) t244_92 rfl ?_
            refine zs_dup (pc := 93) t244_93 rfl ?_
            refine zs_get (pc := 94) t244_94 (by decide) (zk1 (w9s.k fk_zMm_336)) (zfvi rfl rfl) ?_
            refine zs_iload_n (pc := 97) t244_97 rfl ?_
            obtain ⟨w42v, w42⟩ : ∃ v, (zI w9M 336 8) * (1 : Int32) = v := ⟨_, rfl⟩
            have w42g : w42v.toInt = (zI w9M 336 8).toInt * 1 := by rw [← w42]; exact zmulc rfl li1 (by omega) (by omega)
            refine zs_imul (pc := 98) t244_98 (c := w42v) w42 ?_
            have w43 : zIv mLo mHi (zsI w9M 336 8 w42v) := zIv.put w9I (show (-2147483648) ≤ w42v.toInt ∧ w42v.toInt ≤ 2147483647 from zrg w42v)
            refine zs_putI (pc := 99) t244_99 (zk1 (w9s.k fk_zMm_336)) rfl ?_
            refine zs_aload_n (pc := 102) t244_102 rfl ?_
            refine zs_get (pc := 103) t244_103 (by decide) (zk1 (w9s.k fk_zMm_336)) (zfvi rfl zIs) ?_
            refine zs_i2l (pc := 106) t244_106 rfl ?_
            refine zs_iload_n (pc := 107) t244_107 rfl ?_
            refine zs_i2l (pc := 108) t244_108 rfl ?_
            refine zs_iload (pc := 109) t244_109 rfl ?_
            refine zs_i2l (pc := 111) t244_111 rfl ?_
            by_cases w44 : b.toInt ≤ ((zI w9M 336 8).toInt * 1) ∧ ((zI w9M 336 8).toInt * 1) ≤ c.toInt
            · refine zs_invS (pc := 112) (as := [.long w42v.toInt64, .long b.toInt64, .long c.toInt64]) (st := []) t244_112 (by decide) mf228 rfl rfl ⟨by decide, by decide, Nat.le_of_ble_eq_true rfl, Nat.le_of_ble_eq_true rfl⟩ (K228T (zi2l w42g) (zi2l rfl) (zi2l rfl) (by omega) ?_) (fun _ _ q => q)
              show zGo X l 1 0 0 244 115 [(0, .ref 336), (1, .int a), (2, .int (1 : Int32)), (3, .int b), (4, .int c), (5, .int (zI M 336 6))] [.int (1 : Int32)] (zsI w9M 336 8 w42v) _
              refine zs_if_neT (pc := 115) t244_115 li1 (by decide) ?_
              refine zs_iconst (pc := 126) t244_126 (v := 1) (by decide) ?_
              refine zs_goto (pc := 127) t244_127 ?_
              have w45 : (1 : Int32).toInt = 1 := li1
              have w46 : (zI (zsI w9M 336 8 w42v) 336 6).toInt = (zI w9M 336 6).toInt := (congrArg Int32.toInt ((zIoj (by decide)).trans rfl)).trans rfl
              have w47 := li1
              have w48 : (zI (zsI w9M 336 8 w42v) 336 6).toInt = (zI w9M 336 6).toInt := (congrArg Int32.toInt ((zIoj (by decide)).trans rfl)).trans rfl
              have w49 : (zI (zsI w9M 336 8 w42v) 336 7).toInt = (zI w9M 336 7).toInt := (congrArg Int32.toInt ((zIoj (by decide)).trans rfl)).trans rfl
              have w50 : (zI (zsI w9M 336 8 w42v) 336 8).toInt = ((zI w9M 336 8).toInt * 1) := (congrArg Int32.toInt zIs).trans w42g
              have w51 : pDg gg 4 w7n = w18n := by first | exact w9t0 0 w18n (by omega) (by omega) | exact (w9t0 (w7n + 4 - w18n) w18n (by omega) (by omega)).trans (pDg.z (by omega))
              exact zs_iret (pc := 131) t244_131 mr244 (by decide) (hQ _ _ w9s w43 ((((zFr.refl).put rfl).trans (w9F.mono rfl)).put rfl) w9J (by omega) (fun p hp => by obtain rfl : w7n = p := (by omega); exact ⟨w18n, w18n - w7n, (zI w9M 336 8).toInt, w51, by omega, (w9t1 (w18n - w7n) (by omega)).symm, by omega, by omega, by omega, by omega⟩) (by decide) (by decide))
            · refine zs_invS (pc := 112) (as := [.long w42v.toInt64, .long b.toInt64, .long c.toInt64]) (st := []) t244_112 (by decide) mf228 rfl rfl ⟨by decide, by decide, Nat.le_of_ble_eq_true rfl, Nat.le_of_ble_eq_true rfl⟩ (K228F (zi2l w42g) (zi2l rfl) (zi2l rfl) (by omega) ?_) (fun _ _ q => q)
              show zGo X l 1 0 0 244 115 [(0, .ref 336), (1, .int a), (2, .int (1 : Int32)), (3, .int b), (4, .int c), (5, .int (zI M 336 6))] [.int (0 : Int32)] (zsI w9M 336 8 w42v) _
              refine zs_if_neF (pc := 115) t244_115 li0 (by decide) ?_
              refine zs_aload_n (pc := 118) t244_118 rfl ?_
              refine zs_iload_n (pc := 119) t244_119 rfl ?_
              refine zs_invV (pc := 120) (k := 336) (as' := [.int a]) (st := []) t244_120 mf239 rfl rfl (Or.inl ⟨by decide, (zk1 (w9s.k fk_zMm_336))⟩) ⟨by decide, by decide, Nat.le_of_ble_eq_true rfl, Nat.le_of_ble_eq_true rfl⟩ (zs_in (by decide) mf239 (Nat.le_of_ble_eq_true rfl) ?_) (fun _ _ q => q)
              show zGo X l 0 0 0 239 0 [(0, .ref 336), (1, .int a)] [] (zsI w9M 336 8 w42v) _
              refine zs_aload_n (pc := 0) t239_0 rfl ?_
              refine zs_iload_n (pc := 1) t239_1 rfl ?_
              have w52 : zIv mLo mHi (zsI (zsI w9M 336 8 w42v) 336 7 a) := zIv.put w43 (show (-1) ≤ a.toInt ∧ a.toInt ≤ 500 from ⟨by omega, by omega⟩)
              refine zs_putI (pc := 2) t239_2 (zk1 (w9s.k fk_zMm_336)) rfl ?_
              refine zs_iconst (pc := 5) t239_5 (v := 0) (by decide) ?_
              refine zs_iret (pc := 6) t239_6 mr239 (by decide) ?_
              show zGo X l 1 0 0 244 123 [(0, .ref 336), (1, .int a), (2, .int (1 : Int32)), (3, .int b), (4, .int c), (5, .int (zI M 336 6))] [.int (0 : Int32)] (zsI (zsI w9M 336 8 w42v) 336 7 a) _
              refine zs_if_eqT (pc := 123) t244_123 li0 (by decide) ?_
              refine zs_iconst (pc := 130) t244_130 (v := 0) (by decide) ?_
              have w53 : (0 : Int32).toInt = 0 := li0
              have w54 : (zI (zsI (zsI w9M 336 8 w42v) 336 7 a) 336 6).toInt = (zI w9M 336 6).toInt := (congrArg Int32.toInt ((zIoj (by decide)).trans ((zIoj (by decide)).trans rfl))).trans rfl
              have w55 := li0
              have w56 : (zI (zsI (zsI w9M 336 8 w42v) 336 7 a) 336 6).toInt = (zI w9M 336 6).toInt := (congrArg Int32.toInt ((zIoj (by decide)).trans ((zIoj (by decide)).trans rfl))).trans rfl
              have w57 : (zI (zsI (zsI w9M 336 8 w42v) 336 7 a) 336 7).toInt = a.toInt := (congrArg Int32.toInt zIs).trans rfl
              have w58 : (zI (zsI (zsI w9M 336 8 w42v) 336 7 a) 336 8).toInt = ((zI w9M 336 8).toInt * 1) := (congrArg Int32.toInt ((zIoj (by decide)).trans zIs)).trans w42g
              have w59 : pDg gg 4 w7n = w18n := by first | exact w9t0 0 w18n (by omega) (by omega) | exact (w9t0 (w7n + 4 - w18n) w18n (by omega) (by omega)).trans (pDg.z (by omega))
              exact zs_iret (pc := 131) t244_131 mr244 (by decide) (hQ _ _ w9s w52 (((((zFr.refl).put rfl).trans (w9F.mono rfl)).put rfl).put rfl) w9J (by omega) (fun p hp => by obtain rfl : w7n = p := (by omega); exact ⟨w18n, w18n - w7n, (zI w9M 336 8).toInt, w59, by omega, (w9t1 (w18n - w7n) (by omega)).symm, by omega, by omega, by omega, by omega⟩) (by decide) (by decide))
          · refine zs_if_eqF (pc := 80) t244_80 rfl (by omega) ?_
            refine zs_aload_n (pc := 83) t244_83 rfl ?_
            refine zs_aload_n (pc := 84) t244_84 rfl ?_
            refine zs_get (pc := 85) t244_85 (by decide) (zk1 (w9s.k fk_zMm_336)) (zfvi rfl rfl) ?_
            refine zs_invV (pc := 88) (k := 336) (as' := [.int (zI w9M 336 6)]) (st := []) t244_88 mf239 rfl rfl (Or.inl ⟨by decide, (zk1 (w9s.k fk_zMm_336))⟩) ⟨by decide, by decide, Nat.le_of_ble_eq_true rfl, Nat.le_of_ble_eq_true rfl⟩ (zs_in (by decide) mf239 (Nat.le_of_ble_eq_true rfl) ?_) (fun _ _ q => q)
            show zGo X l 0 0 0 239 0 [(0, .ref 336), (1, .int (zI w9M 336 6))] [] w9M _
            refine zs_aload_n (pc := 0) t239_0 rfl ?_
            refine zs_iload_n (pc := 1) t239_1 rfl ?_
            have w60 : zIv mLo mHi (zsI w9M 336 7 (zI w9M 336 6)) := zIv.put w9I (show (-1) ≤ (zI w9M 336 6).toInt ∧ (zI w9M 336 6).toInt ≤ 500 from ⟨by omega, by omega⟩)
            refine zs_putI (pc := 2) t239_2 (zk1 (w9s.k fk_zMm_336)) rfl ?_
            refine zs_iconst (pc := 5) t239_5 (v := 0) (by decide) ?_
            refine zs_iret (pc := 6) t239_6 mr239 (by decide) ?_
            show zGo X l 1 0 0 244 91 [(0, .ref 336), (1, .int a), (2, .int (1 : Int32)), (3, .int b), (4, .int c), (5, .int (zI M 336 6))] [.int (0 : Int32)] (zsI w9M 336 7 (zI w9M 336 6)) _
            have w61 : (0 : Int32).toInt = 0 := li0
            have w62 : (zI (zsI w9M 336 7 (zI w9M 336 6)) 336 6).toInt = (zI w9M 336 6).toInt := (congrArg Int32.toInt ((zIoj (by decide)).trans rfl)).trans rfl
            have w63 := li0
            have w64 : (zI (zsI w9M 336 7 (zI w9M 336 6)) 336 6).toInt = (zI w9M 336 6).toInt := (congrArg Int32.toInt ((zIoj (by decide)).trans rfl)).trans rfl
            have w65 : (zI (zsI w9M 336 7 (zI w9M 336 6)) 336 7).toInt = (zI w9M 336 6).toInt := (congrArg Int32.toInt zIs).trans rfl
            have w66 : (zI (zsI w9M 336 7 (zI w9M 336 6)) 336 8).toInt = (zI w9M 336 8).toInt := (congrArg Int32.toInt ((zIoj (by decide)).trans rfl)).trans rfl
            have w67 : pDg gg 4 w7n = w18n := by first | exact w9t0 0 w18n (by omega) (by omega) | exact (w9t0 (w7n + 4 - w18n) w18n (by omega) (by omega)).trans (pDg.z (by omega))
            exact zs_iret (pc := 91) t244_91 mr244 (by decide) (hQ _ _ w9s w60 ((((zFr.refl).put rfl).trans (w9F.mono rfl)).put rfl) w9J (by omega) (fun p hp => by obtain rfl : w7n = p := (by omega); exact ⟨w18n, w18n - w7n, (zI w9M 336 8).toInt, w67, by omega, (w9t1 (w18n - w7n) (by omega)).symm, by omega, by omega, by omega, by omega⟩) (by decide) (by decide))
      · refine zs_if_eqF (pc := 18) t244_18 rfl (by omega) ?_
        refine zs_aload_n (pc := 21) t244_21 rfl ?_
        refine zs_get (pc := 22) t244_22 (by decide) (zk1 (w9s.k fk_zMm_336)) (zfvi rfl rfl) ?_
        refine zs_iload (pc := 25) t244_25 rfl ?_
        obtain ⟨w68v, w68e, w68⟩ := zisub (a := (zI w9M 336 6)) (b := (zI M 336 6)) rfl rfl (by omega) (by omega)
        refine zs_isub (pc := 27) t244_27 (c := w68v) w68e ?_
        refine zs_iconst (pc := 28) t244_28 (v := 4) (by decide) ?_
        by_cases w69 : 4 ≤ ((zI w9M 336 6).toInt - (zI M 336 6).toInt)
        · refine zs_icmp_geT (pc := 29) t244_29 w68 li4 (by omega) ?_
          refine zs_aload_n (pc := 64) t244_64 rfl ?_
          refine zs_get (pc := 65) t244_65 (by decide) (zk1 (w9s.k fk_zMm_336)) (zfvi rfl rfl) ?_
          refine zs_iload (pc := 68) t244_68 rfl ?_
          by_cases w70 : (zI w9M 336 6).toInt = (zI M 336 6).toInt
          · refine zs_icmp_eqT (pc := 70) t244_70 rfl rfl (by omega) ?_
            refine zs_aload_n (pc := 83) t244_83 rfl ?_
            refine zs_aload_n (pc := 84) t244_84 rfl ?_
            refine zs_get (pc := 85) t244_85 (by decide) (zk1 (w9s.k fk_zMm_336)) (zfvi rfl rfl) ?_
            refine zs_invV (pc := 88) (k := 336) (as' := [.int (zI w9M 336 6)]) (st := []) t244_88 mf239 rfl rfl (Or.inl ⟨by decide, (zk1 (w9s.k fk_zMm_336))⟩) ⟨by decide, by decide, Nat.le_of_ble_eq_true rfl, Nat.le_of_ble_eq_true rfl⟩ (zs_in (by decide) mf239 (Nat.le_of_ble_eq_true rfl) ?_) (fun _ _ q => q)
            show zGo X l 0 0 0 239 0 [(0, .ref 336), (1, .int (zI w9M 336 6))] [] w9M _
            refine zs_aload_n (pc := 0) t239_0 rfl ?_
            refine zs_iload_n (pc := 1) t239_1 rfl ?_
            have w71 : zIv mLo mHi (zsI w9M 336 7 (zI w9M 336 6)) := zIv.put w9I (show (-1) ≤ (zI w9M 336 6).toInt ∧ (zI w9M 336 6).toInt ≤ 500 from ⟨by omega, by omega⟩)
            refine zs_putI (pc := 2) t239_2 (zk1 (w9s.k fk_zMm_336)) rfl ?_
            refine zs_iconst (pc := 5) t239_5 (v := 0) (by decide) ?_
            refine zs_iret (pc := 6) t239_6 mr239 (by decide) ?_
            show zGo X l 1 0 0 244 91 [(0, .ref 336), (1, .int a), (2, .int (1 : Int32)), (3, .int b), (4, .int c), (5, .int (zI M 336 6))] [.int (0 : Int32)] (zsI w9M 336 7 (zI w9M 336 6)) _
            have w72 : (0 : Int32).toInt = 0 := li0
            have w73 : (zI (zsI w9M 336 7 (zI w9M 336 6)) 336 6).toInt = (zI w9M 336 6).toInt := (congrArg Int32.toInt ((zIoj (by decide)).trans rfl)).trans rfl
            have w74 := li0
            have w75 : (zI (zsI w9M 336 7 (zI w9M 336 6)) 336 6).toInt = (zI w9M 336 6).toInt := (congrArg Int32.toInt ((zIoj (by decide)).trans rfl)).trans rfl
            have w76 : (zI (zsI w9M 336 7 (zI w9M 336 6)) 336 7).toInt = (zI w9M 336 6).toInt := (congrArg Int32.toInt zIs).trans rfl
            have w77 : (zI (zsI w9M 336 7 (zI w9M 336 6)) 336 8).toInt = (zI w9M 336 8).toInt := (congrArg Int32.toInt ((zIoj (by decide)).trans rfl)).trans rfl
            have w78 : pDg gg 4 w7n = w18n := by first | exact w9t0 0 w18n (by omega) (by omega) | exact (w9t0 (w7n + 4 - w18n) w18n (by omega) (by omega)).trans (pDg.z (by omega))
            exact zs_iret (pc := 91) t244_91 mr244 (by decide) (hQ _ _ w9s w71 ((((zFr.refl).put rfl).trans (w9F.mono rfl)).put rfl) w9J (by omega) (fun p hp => by obtain rfl : w7n = p := (by omega); exact ⟨w18n, w18n - w7n, (zI w9M 336 8).toInt, w78, by omega, (w9t1 (w18n - w7n) (by omega)).symm, by omega, by omega, by omega, by omega⟩) (by decide) (by decide))
          · refine zs_icmp_eqF (pc := 70) t244_70 rfl rfl (by omega) ?_
            refine zs_aload_n (pc := 73) t244_73 rfl ?_
            refine zs_invV (pc := 74) (k := 336) (as' := []) (st := []) t244_74 mf238 rfl rfl (Or.inl ⟨by decide, (zk1 (w9s.k fk_zMm_336))⟩) ⟨by decide, by decide, Nat.le_of_ble_eq_true rfl, Nat.le_of_ble_eq_true rfl⟩ (H238 w9s w9I ?_) (fun _ _ q => q)
            have w79 := zhere.rg (M := w9M)
            have w80 : (zI w9M 336 6).toInt = (zI w9M 336 6).toInt := (congrArg Int32.toInt rfl).trans rfl
            have w81 : (zI w9M 336 5).toInt = (zI M 336 5).toInt := (congrArg Int32.toInt ((w9F 336 5 rfl).trans ((zIoj (by decide)).trans rfl))).trans rfl
            have w82 : (zI w9M 336 6).toInt = (zI w9M 336 6).toInt := (congrArg Int32.toInt rfl).trans rfl
            have w83 : (zI w9M 336 5).toInt = (zI M 336 5).toInt := (congrArg Int32.toInt ((w9F 336 5 rfl).trans ((zIoj (by decide)).trans rfl))).trans rfl
            have w84 : (zhere w9M).toInt = gg w18n := zhere.tr (zTm.mk x0 (fun j => ((w9F 339 j rfl).trans (zIo (by decide)))) ((w9F 336 5 rfl).trans (zIoj (by decide)))) (by omega)
            have w85 := zTm.rg x0 w18n
            show zGo X l 1 0 0 244 77 [(0, .ref 336), (1, .int a), (2, .int (1 : Int32)), (3, .int b), (4, .int c), (5, .int (zI M 336 6))] [.int (zhere w9M)] w9M _
            refine zs_invS (pc := 77) (as := [.int (zhere w9M)]) (st := []) t244_77 (by decide) mf245 rfl rfl ⟨by decide, by decide, Nat.le_of_ble_eq_true rfl, Nat.le_of_ble_eq_true rfl⟩ (K245 w9s w9I ?_) (fun _ _ q => q)
            intro w86v w86t0 w86a w86b
            show zGo X l 1 0 0 244 80 [(0, .ref 336), (1, .int a), (2, .int (1 : Int32)), (3, .int b), (4, .int c), (5, .int (zI M 336 6))] [.int w86v] w9M _
            by_cases w87 : w86v.toInt = 0
            · refine zs_if_eqT (pc := 80) t244_80 rfl (by omega) ?_
              refine zs_aload_n (pc := 92) t244_92 rfl ?_
              refine zs_dup (pc := 93) t244_93 rfl ?_
              refine zs_get (pc := 94) t244_94 (by decide) (zk1 (w9s.k fk_zMm_336)) (zfvi rfl rfl) ?_
              refine zs_iload_n (pc := 97) t244_97 rfl ?_
              obtain ⟨w88v, w88⟩ : ∃ v, (zI w9M 336 8) * (1 : Int32) = v := ⟨_, rfl⟩
              have w88g : w88v.toInt = (zI w9M 336 8).toInt * 1 := by rw [← w88]; exact zmulc rfl li1 (by omega) (by omega)
              refine zs_imul (pc := 98) t244_98 (c := w88v) w88 ?_
              have w89 : zIv mLo mHi (zsI w9M 336 8 w88v) := zIv.put w9I (show (-2147483648) ≤ w88v.toInt ∧ w88v.toInt ≤ 2147483647 from zrg w88v)
              refine zs_putI (pc := 99) t244_99 (zk1 (w9s.k fk_zMm_336)) rfl ?_
              refine zs_aload_n (pc := 102) t244_102 rfl ?_
              refine zs_get (pc := 103) t244_103 (by decide) (zk1 (w9s.k fk_zMm_336)) (zfvi rfl zIs) ?_
              refine zs_i2l (pc := 106) t244_106 rfl ?_
              refine zs_iload_n (pc := 107) t244_107 rfl ?_
              refine zs_i2l (pc := 108) t244_108 rfl ?_
              refine zs_iload (pc := 109) t244_109 rfl ?_
              refine zs_i2l (pc := 111) t244_111 rfl ?_
              by_cases w90 : b.toInt ≤ ((zI w9M 336 8).toInt * 1) ∧ ((zI w9M 336 8).toInt * 1) ≤ c.toInt
              · refine zs_invS (pc := 112) (as := [.long w88v.toInt64, .long b.toInt64, .long c.toInt64]) (st := []) t244_112 (by decide) mf228 rfl rfl ⟨by decide, by decide, Nat.le_of_ble_eq_true rfl, Nat.le_of_ble_eq_true rfl⟩ (K228T (zi2l w88g) (zi2l rfl) (zi2l rfl) (by omega) ?_) (fun _ _ q => q)
                show zGo X l 1 0 0 244 115 [(0, .ref 336), (1, .int a), (2, .int (1 : Int32)), (3, .int b), (4, .int c), (5, .int (zI M 336 6))] [.int (1 : Int32)] (zsI w9M 336 8 w88v) _
                refine zs_if_neT (pc := 115) t244_115 li1 (by decide) ?_
                refine zs_iconst (pc := 126) t244_126 (v := 1) (by decide) ?_
                refine zs_goto (pc := 127) t244_127 ?_
                have w91 : (1 : Int32).toInt = 1 := li1
                have w92 : (zI (zsI w9M 336 8 w88v) 336 6).toInt = (zI w9M 336 6).toInt := (congrArg Int32.toInt ((zIoj (by decide)).trans rfl)).trans rfl
                have w93 := li1
                have w94 : (zI (zsI w9M 336 8 w88v) 336 6).toInt = (zI w9M 336 6).toInt := (congrArg Int32.toInt ((zIoj (by decide)).trans rfl)).trans rfl
                have w95 : (zI (zsI w9M 336 8 w88v) 336 7).toInt = (zI w9M 336 7).toInt := (congrArg Int32.toInt ((zIoj (by decide)).trans rfl)).trans rfl
                have w96 : (zI (zsI w9M 336 8 w88v) 336 8).toInt = ((zI w9M 336 8).toInt * 1) := (congrArg Int32.toInt zIs).trans w88g
                have w97 : pDg gg 4 w7n = w18n := by first | exact w9t0 0 w18n (by omega) (by omega) | exact (w9t0 (w7n + 4 - w18n) w18n (by omega) (by omega)).trans (pDg.z (by omega))
                exact zs_iret (pc := 131) t244_131 mr244 (by decide) (hQ _ _ w9s w89 ((((zFr.refl).put rfl).trans (w9F.mono rfl)).put rfl) w9J (by omega) (fun p hp => by obtain rfl : w7n = p := (by omega); exact ⟨w18n, w18n - w7n, (zI w9M 336 8).toInt, w97, by omega, (w9t1 (w18n - w7n) (by omega)).symm, by omega, by omega, by omega, by omega⟩) (by decide) (by decide))
              · refine zs_invS (pc := 112) (as := [.long w88v.toInt64, .long b.toInt64, .long c.toInt64]) (st := []) t244_112 (by decide) mf228 rfl rfl ⟨by decide, by decide, Nat.le_of_ble_eq_true rfl, Nat.le_of_ble_eq_true rfl⟩ (K228F (zi2l w88g) (zi2l rfl) (zi2l rfl) (by omega) ?_) (fun _ _ q => q)
                show zGo X l 1 0 0 244 115 [(0, .ref 336), (1, .int a), (2, .int (1 : Int32)), (3, .int b), (4, .int c), (5, .int (zI M 336 6))] [.int (0 : Int32)] (zsI w9M 336 8 w88v) _
                refine zs_if_neF (pc := 115) t244_115 li0 (by decide) ?_
                refine zs_aload_n (pc := 118) t244_118 rfl ?_
                refine zs_iload_n (pc := 119) t244_119 rfl ?_
                refine zs_invV (pc := 120) (k := 336) (as' := [.int a]) (st := []) t244_120 mf239 rfl rfl (Or.inl ⟨by decide, (zk1 (w9s.k fk_zMm_336))⟩) ⟨by decide, by decide, Nat.le_of_ble_eq_true rfl, Nat.le_of_ble_eq_true rfl⟩ (zs_in (by decide) mf239 (Nat.le_of_ble_eq_true rfl) ?_) (fun _ _ q => q)
                show zGo X l 0 0 0 239 0 [(0, .ref 336), (1, .int a)] [] (zsI w9M 336 8 w88v) _
                refine zs_aload_n (pc := 0) t239_0 rfl ?_
                refine zs_iload_n (pc := 1) t239_1 rfl ?_
                have w98 : zIv mLo mHi (zsI (zsI w9M 336 8 w88v) 336 7 a) := zIv.put w89 (show (-1) ≤ a.toInt ∧ a.toInt ≤ 500 from ⟨by omega, by omega⟩)
                refine zs_putI (pc := 2) t239_2 (zk1 (w9s.k fk_zMm_336)) rfl ?_
                refine zs_iconst (pc := 5) t239_5 (v := 0) (by decide) ?_
                refine zs_iret (pc := 6) t239_6 mr239 (by decide) ?_
                show zGo X l 1 0 0 244 123 [(0, .ref 336), (1, .int a), (2, .int (1 : Int32)), (3, .int b), (4, .int c), (5, .int (zI M 336 6))] [.int (0 : Int32)] (zsI (zsI w9M 336 8 w88v) 336 7 a) _
                refine zs_if_eqT (pc := 123) t244_123 li0 (by decide) ?_
                refine zs_iconst (pc := 130) t244_130 (v := 0) (by decide) ?_
                have w99 : (0 : Int32).toInt = 0 := li0
                have w100 : (zI (zsI (zsI w9M 336 8 w88v) 336 7 a) 336 6).toInt = (zI w9M 336 6).toInt := (congrArg Int32.toInt ((zIoj (by decide)).trans ((zIoj (by decide)).trans rfl))).trans rfl
                have w101 := li0
                have w102 : (zI (zsI (zsI w9M 336 8 w88v) 336 7 a) 336 6).toInt = (zI w9M 336 6).toInt := (congrArg Int32.toInt ((zIoj (by decide)).trans ((zIoj (by decide)).trans rfl))).trans rfl
                have w103 : (zI (zsI (zsI w9M 336 8 w88v) 336 7 a) 336 7).toInt = a.toInt := (congrArg Int32.toInt zIs).trans rfl
                have w104 : (zI (zsI (zsI w9M 336 8 w88v) 336 7 a) 336 8).toInt = ((zI w9M 336 8).toInt * 1) := (congrArg Int32.toInt ((zIoj (by decide)).trans zIs)).trans w88g
                have w105 : pDg gg 4 w7n = w18n := by first | exact w9t0 0 w18n (by omega) (by omega) | exact (w9t0 (w7n + 4 - w18n) w18n (by omega) (by omega)).trans (pDg.z (by omega))
                exact zs_iret (pc := 131) t244_131 mr244 (by decide) (hQ _ _ w9s w98 (((((zFr.refl).put rfl).trans (w9F.mono rfl)).put rfl).put rfl) w9J (by omega) (fun p hp => by obtain rfl : w7n = p := (by omega); exact ⟨w18n, w18n - w7n, (zI w9M 336 8).toInt, w105, by omega, (w9t1 (w18n - w7n) (by omega)).symm, by omega, by omega, by omega, by omega⟩) (by decide) (by decide))
            · refine zs_if_eqF (pc := 80) t244_80 rfl (by omega) ?_
              refine zs_aload_n (pc := 83) t244_83 rfl ?_
              refine zs_aload_n (pc := 84) t244_84 rfl ?_
              refine zs_get (pc := 85) t244_85 (by decide) (zk1 (w9s.k fk_zMm_336)) (zfvi rfl rfl) ?_
              refine zs_invV (pc := 88) (k := 336) (as' := [.int (zI w9M 336 6)]) (st := []) t244_88 mf239 rfl rfl (Or.inl ⟨by decide, (zk1 (w9s.k fk_zMm_336))⟩) ⟨by decide, by decide, Nat.le_of_ble_eq_true rfl, Nat.le_of_ble_eq_true rfl⟩ (zs_in (by decide) mf239 (Nat.le_of_ble_eq_true rfl) ?_) (fun _ _ q => q)
              show zGo X l 0 0 0 239 0 [(0, .ref 336), (1, .int (zI w9M 336 6))] [] w9M _
              refine zs_aload_n (pc := 0) t239_0 rfl ?_
              refine zs_iload_n (pc := 1) t239_1 rfl ?_
              have w106 : zIv mLo mHi (zsI w9M 336 7 (zI w9M 336 6)) := zIv.put w9I (show (-1) ≤ (zI w9M 336 6).toInt ∧ (zI w9M 336 6).toInt ≤ 500 from ⟨by omega, by omega⟩)
              refine zs_putI (pc := 2) t239_2 (zk1 (w9s.k fk_zMm_336)) rfl ?_
              refine zs_iconst (pc := 5) t239_5 (v := 0) (by decide) ?_
              refine zs_iret (pc := 6) t239_6 mr239 (by decide) ?_
              show zGo X l 1 0 0 244 91 [(0, .ref 336), (1, .int a), (2, .int (1 : Int32)), (3, .int b), (4, .int c), (5, .int (zI M 336 6))] [.int (0 : Int32)] (zsI w9M 336 7 (zI w9M 336 6)) _
              have w107 : (0 : Int32).toInt = 0 := li0
              have w108 : (zI (zsI w9M 336 7 (zI w9M 336 6)) 336 6).toInt = (zI w9M 336 6).toInt := (congrArg Int32.toInt ((zIoj (by decide)).trans rfl)).trans rfl
              have w109 := li0
              have w110 : (zI (zsI w9M 336 7 (zI w9M 336 6)) 336 6).toInt = (zI w9M 336 6).toInt := (congrArg Int32.toInt ((zIoj (by decide)).trans rfl)).trans rfl
              have w111 : (zI (zsI w9M 336 7 (zI w9M 336 6)) 336 7).toInt = (zI w9M 336 6).toInt := (congrArg Int32.toInt zIs).trans rfl
              have w112 : (zI (zsI w9M 336 7 (zI w9M 336 6)) 336 8).toInt = (zI w9M 336 8).toInt := (congrArg Int32.toInt ((zIoj (by decide)).trans rfl)).trans rfl
              have w113 : pDg gg 4 w7n = w18n := by first | exact w9t0 0 w18n (by omega) (by omega) | exact (w9t0 (w7n + 4 - w18n) w18n (by omega) (by omega)).trans (pDg.z (by omega))
              exact zs_iret (pc := 91) t244_91 mr244 (by decide) (hQ _ _ w9s w106 ((((zFr.refl).put rfl).trans (w9F.mono rfl)).put rfl) w9J (by omega) (fun p hp => by obtain rfl : w7n = p := (by omega); exact ⟨w18n, w18n - w7n, (zI w9M 336 8).toInt, w113, by omega, (w9t1 (w18n - w7n) (by omega)).symm, by omega, by omega, by omega, by omega⟩) (by decide) (by decide))
        · refine zs_icmp_geF (pc := 29) t244_29 w68 li4 (by omega) ?_
          refine zs_aload_n (pc := 32) t244_32 rfl ?_
          refine zs_bipush (pc := 33) t244_33 (v := 10) (by decide) ?_
          refine zs_aload_n (pc := 35) t244_35 rfl ?_
          refine zs_get (pc := 36) t244_36 (by decide) (zk1 (w9s.k fk_zMm_336)) (zfvi rfl rfl) ?_
          obtain ⟨w114v, w114⟩ : ∃ v, (10 : Int32) * (zI w9M 336 8) = v := ⟨_, rfl⟩
          have w114g : w114v.toInt = 10 * (zI w9M 336 8).toInt := by rw [← w114]; exact zmulc li10 rfl (by omega) (by omega)
          refine zs_imul (pc := 39) t244_39 (c := w114v) w114 ?_
          refine zs_aload_n (pc := 40) t244_40 rfl ?_
          refine zs_invV (pc := 41) (k := 336) (as' := []) (st := [.int w114v, .ref 336]) t244_41 mf238 rfl rfl (Or.inl ⟨by decide, (zk1 (w9s.k fk_zMm_336))⟩) ⟨by decide, by decide, Nat.le_of_ble_eq_true rfl, Nat.le_of_ble_eq_true rfl⟩ (H238 w9s w9I ?_) (fun _ _ q => q)
          have w115 := zhere.rg (M := w9M)
          have w116 : (zI w9M 336 6).toInt = (zI w9M 336 6).toInt := (congrArg Int32.toInt rfl).trans rfl
          have w117 : (zI w9M 336 5).toInt = (zI M 336 5).toInt := (congrArg Int32.toInt ((w9F 336 5 rfl).trans ((zIoj (by decide)).trans rfl))).trans rfl
          have w118 : (zI w9M 336 6).toInt = (zI w9M 336 6).toInt := (congrArg Int32.toInt rfl).trans rfl
          have w119 : (zI w9M 336 5).toInt = (zI M 336 5).toInt := (congrArg Int32.toInt ((w9F 336 5 rfl).trans ((zIoj (by decide)).trans rfl))).trans rfl
          have w120 : (zhere w9M).toInt = gg w18n := zhere.tr (zTm.mk x0 (fun j => ((w9F 339 j rfl).trans (zIo (by decide)))) ((w9F 336 5 rfl).trans (zIoj (by decide)))) (by omega)
          have w121 := zTm.rg x0 w18n
          show zGo X l 1 0 0 244 44 [(0, .ref 336), (1, .int a), (2, .int (1 : Int32)), (3, .int b), (4, .int c), (5, .int (zI M 336 6))] [.int (zhere w9M), .int w114v, .ref 336] w9M _
          obtain ⟨w122v, w122e, w122⟩ := ziadd (a := w114v) (b := (zhere w9M)) w114g rfl (by omega) (by omega)
          refine zs_iadd (pc := 44) t244_44 (c := w122v) w122e ?_
          refine zs_bipush (pc := 45) t244_45 (v := 48) (by decide) ?_
          obtain ⟨w123v, w123e, w123⟩ := zisub (a := w122v) (b := (48 : Int32)) w122 li48 (by omega) (by omega)
          refine zs_isub (pc := 47) t244_47 (c := w123v) w123e ?_
          have w124 : zIv mLo mHi (zsI w9M 336 8 w123v) := zIv.put w9I (show (-2147483648) ≤ w123v.toInt ∧ w123v.toInt ≤ 2147483647 from zrg w123v)
          refine zs_putI (pc := 48) t244_48 (zk1 (w9s.k fk_zMm_336)) rfl ?_
          refine zs_aload_n (pc := 51) t244_51 rfl ?_
          refine zs_dup (pc := 52) t244_52 rfl ?_
          refine zs_get (pc := 53) t244_53 (by decide) (zk1 (w9s.k fk_zMm_336)) (zfvi rfl ((zIoj (by decide)).trans rfl)) ?_
          refine zs_iconst (pc := 56) t244_56 (v := 1) (by decide) ?_
          obtain ⟨w125v, w125e, w125⟩ := ziadd (a := (zI w9M 336 6)) (b := (1 : Int32)) rfl li1 (by omega) (by omega)
          refine zs_iadd (pc := 57) t244_57 (c := w125v) w125e ?_
          have w126 : zIv mLo mHi (zsI (zsI w9M 336 8 w123v) 336 6 w125v) := zIv.put w124 (show 0 ≤ w125v.toInt ∧ w125v.toInt ≤ 500 from ⟨by omega, by omega⟩)
          refine zs_putI (pc := 58) t244_58 (zk1 (w9s.k fk_zMm_336)) rfl ?_
          refine zs_goto (pc := 61) t244_61 ?_
          refine zGo.locals (ls' := [(0, .ref 336), (1, .int a), (2, .int (1 : Int32)), (3, .int b), (4, .int c), (5, .int (zI M 336 6))]) (by simp) ?_
          have w127 : (zI (zsI (zsI w9M 336 8 w123v) 336 6 w125v) 336 7).toInt = (zI w9M 336 7).toInt := (congrArg Int32.toInt ((zIoj (by decide)).trans ((zIoj (by decide)).trans rfl))).trans rfl
          have w128 : (zI (zsI (zsI w9M 336 8 w123v) 336 6 w125v) 336 6).toInt = ((zI w9M 336 6).toInt + 1) := (congrArg Int32.toInt zIs).trans w125
          have w129 : (zI (zsI (zsI w9M 336 8 w123v) 336 6 w125v) 336 8).toInt = (((10 * (zI w9M 336 8).toInt) + (zhere w9M).toInt) - 48) := (congrArg Int32.toInt ((zIoj (by decide)).trans zIs)).trans w123
          have w130 : (zI (zsI (zsI w9M 336 8 w123v) 336 6 w125v) 336 6).toInt = ((zI w9M 336 6).toInt + 1) := (congrArg Int32.toInt zIs).trans w125
          have w131 : (zI (zsI (zsI w9M 336 8 w123v) 336 6 w125v) 336 6).toInt = ((zI w9M 336 6).toInt + 1) := (congrArg Int32.toInt zIs).trans w125
          have w132 : (zI (zsI (zsI w9M 336 8 w123v) 336 6 w125v) 336 8).toInt = (((10 * (zI w9M 336 8).toInt) + (zhere w9M).toInt) - 48) := (congrArg Int32.toInt ((zIoj (by decide)).trans zIs)).trans w123
          have w133 : (zI (zsI (zsI w9M 336 8 w123v) 336 6 w125v) 336 6).toInt = ((zI w9M 336 6).toInt + 1) := (congrArg Int32.toInt zIs).trans w125
          exact w9ih (w9m - 1) (by omega) (zsI (zsI w9M 336 8 w123v) 336 6 w125v) w9s w126 ((((zFr.refl).trans (w9F.mono rfl)).put rfl).put rfl) w9J (by omega) (by omega) (by omega) (fun k q h1 h2 => (w9t0 (k + 1) w18n (by omega) (by omega)).trans ((pDg.y (by omega)).trans (congrArg (pDg gg k) (by omega)))) (fun d hd => by obtain rfl : d = (w18n - w7n) + 1 := (by omega); show _ = 10 * pVal gg w7n (w18n - w7n) + (gg (w7n + (w18n - w7n)) - 48); rw [show w7n + (w18n - w7n) = w18n by omega]; have z := w9t1 (w18n - w7n) (by omega); omega) (by omega)
  refine zGo.locals (ls' := [(0, .ref 336), (1, .int a), (2, .int (1 : Int32)), (3, .int b), (4, .int c), (5, .int (zI M 336 6))]) (by simp) ?_
  have w134 : (zI (zsI M 336 8 (0 : Int32)) 336 7).toInt = (zI M 336 7).toInt := (congrArg Int32.toInt ((zIoj (by decide)).trans rfl)).trans rfl
  have w135 : (zI (zsI M 336 8 (0 : Int32)) 336 6).toInt = (zI M 336 6).toInt := (congrArg Int32.toInt ((zIoj (by decide)).trans rfl)).trans rfl
  have w136 : (zI (zsI M 336 8 (0 : Int32)) 336 8).toInt = 0 := (congrArg Int32.toInt zIs).trans li0
  have w137 : (zI (zsI M 336 8 (0 : Int32)) 336 6).toInt = (zI M 336 6).toInt := (congrArg Int32.toInt ((zIoj (by decide)).trans rfl)).trans rfl
  have w138 : (zI (zsI M 336 8 (0 : Int32)) 336 8).toInt = 0 := (congrArg Int32.toInt zIs).trans li0
  have w139 : (zI (zsI M 336 8 (0 : Int32)) 336 6).toInt = (zI M 336 6).toInt := (congrArg Int32.toInt ((zIoj (by decide)).trans rfl)).trans rfl
  exact w9L ((500 - (zI (zsI M 336 8 (0 : Int32)) 336 6).toInt : Int).toNat) (zsI M 336 8 (0 : Int32)) hs w8 zFr.refl rfl (by omega) (by omega) (by omega) (fun k q h1 h2 => by obtain rfl : w7n = q := (by omega); obtain rfl : k = 4 := (by omega); rfl) (fun d hd => by obtain rfl : d = 0 := (by omega); show _ = (0 : Int); omega) (by omega)
