theorem R244p {X : zX} {l : Launch} {M : zM} {Q : Option Value → zM → Prop} {a b c : Int32} (hs : zSk zMm M) (hI : zIv mLo mHi M) {gg : Nat → Int} {nn : Int} (ha : 0 ≤ a.toInt ∧ a.toInt ≤ 500) (u0 : (zI M 336 6).toInt ≤ (zI M 336 5).toInt) (u1 : 0 ≤ (zI M 336 6).toInt) (u2 : (zI M 336 7).toInt = -1) (x0 : zTm M gg nn) (hQ : ∀ (M' : zM) (v : Int32), zSk zMm M' → zIv mLo mHi M' → zFr [(336, 336, some 6), (336, 336, some 7), (336, 336, some 8)] M M' → zJ M' 351 = zJ M 351 → (∀ p : Nat, (zI M 336 6).toInt = (p : Int) → ∃ (e k : Nat) (x : Int), pDg gg 4 p = e ∧ e = p + k ∧ pVal gg p k = x ∧ (e : Int) ≤ nn ∧ 0 ≤ x ∧ x ≤ 9999 ∧ ((v.toInt = 1 ∧ e ≠ p ∧ ¬ (48 ≤ gg e ∧ gg e ≤ 57) ∧ (zI M' 336 6).toInt = (e : Int) ∧ (zI M' 336 8).toInt = x ∧ b.toInt ≤ x ∧ x ≤ c.toInt ∧ (zI M' 336 7).toInt = -1) ∨ (v.toInt = 0 ∧ (zI M' 336 7).toInt ≠ -1 ∧ (e = p ∨ (48 ≤ gg e ∧ gg e ≤ 57) ∨ x < b.toInt ∨ c.toInt < x)))) → 0 ≤ v.toInt → v.toInt ≤ 1 → Q (some (.int v)) M') : zCall X l 1 0 0 244 [.ref 336, .int a, .int (1 : Int32), .int b, .int c] M Q := by
  have ga := zrg a
  have gb := zrg b
  have gc := zrg c
  refine zs_in (by decide) mf244 (Nat.le_of_ble_eq_true rfl) ?_
  show zGo X l 1 0 0 244 0 [(0, .ref 336), (1, .int a), (2, .int (1 : Int32)), (3, .int b), (4, .int c)] [] M _
  have hn := x0.2
  have w1 := ib336_5 hI
  have w2 : (zI M 336 5).toInt = (zI M 336 5).toInt := (congrArg Int32.toInt rfl).trans rfl
  have w3 := ib336_6 hI
  have w4 : (zI M 336 6).toInt = (zI M 336 6).toInt := (congrArg Int32.toInt rfl).trans rfl
  have w5 := ib336_7 hI
  have w6 : (zI M 336 7).toInt = (zI M 336 7).toInt := (congrArg Int32.toInt rfl).trans rfl
  obtain ⟨w7n, w7⟩ : ∃ n : Nat, (zI M 336 6).toInt = (n : Int) := ⟨((zI M 336 6).toInt).toNat, by omega⟩
  refine zs_aload_n (pc := 0) t244_0 rfl ?_
  refine zs_get (pc := 1) t244_1 (by decide) (zk1 (hs.k fk_zMm_336)) (zfvi rfl rfl) ?_
  refine zs_istore (pc := 4) t244_4 (ls' := [(5, .int (zI M 336 6)), (0, .ref 336), (1, .int a), (2, .int (1 : Int32)), (3, .int b), (4, .int c)]) (zml mf244 (by decide)) rfl ?_
  refine zs_aload_n (pc := 6) t244_6 rfl ?_
  refine zs_iconst (pc := 7) t244_7 (v := 0) (by decide) ?_
  have w8 : zIv mLo mHi (zsI M 336 8 (0 : Int32)) := zIv.put hI (show (-2147483648) ≤ (0 : Int32).toInt ∧ (0 : Int32).toInt ≤ 2147483647 from zrg (0 : Int32))
  refine zs_putI (pc := 8) t244_8 (zk1 (hs.k fk_zMm_336)) rfl ?_
  have w9L : ∀ (m : Nat) (w9M : zM), zSk zMm w9M → zIv mLo mHi w9M → zFr [(336, 336, some 6), (336, 336, some 7), (336, 336, some 8)] (zsI M 336 8 (0 : Int32)) w9M → zJ w9M 351 = zJ (zsI M 336 8 (0 : Int32)) 351 → ((zI w9M 336 7).toInt = (zI (zsI M 336 8 (0 : Int32)) 336 7).toInt) → (((zI w9M 336 6).toInt = (zI M 336 6).toInt ∧ (zI w9M 336 8).toInt = 0) ∨ ((zI w9M 336 6).toInt = (zI M 336 6).toInt + 1 ∧ 0 ≤ (zI w9M 336 8).toInt ∧ (zI w9M 336 8).toInt ≤ 9) ∨ ((zI w9M 336 6).toInt = (zI M 336 6).toInt + 2 ∧ 0 ≤ (zI w9M 336 8).toInt ∧ (zI w9M 336 8).toInt ≤ 99) ∨ ((zI w9M 336 6).toInt = (zI M 336 6).toInt + 3 ∧ 0 ≤ (zI w9M 336 8).toInt ∧ (zI w9M 336 8).toInt ≤ 999) ∨ ((zI w9M 336 6).toInt = (zI M 336 6).toInt + 4 ∧ 0 ≤ (zI w9M 336 8).toInt ∧ (zI w9M 336 8).toInt ≤ 9999)) → ((zI w9M 336 6).toInt ≤ nn) → (∀ k q : Nat, (zI w9M 336 6).toInt = (q : Int) → (k : Int) = (zI M 336 6).toInt + 4 - (q : Int) → pDg gg 4 w7n = pDg gg k q) → (∀ d : Nat, (d : Int) = (zI w9M 336 6).toInt - (zI M 336 6).toInt → (zI w9M 336 8).toInt = pVal gg w7n d) → 500 - (zI w9M 336 6).toInt ≤ (m : Int) → zGo X l 1 0 0 244 11 [(0, .ref 336), (1, .int a), (2, .int (1 : Int32)), (3, .int b), (4, .int c), (5, .int (zI M 336 6))] [] w9M Q := by
    intro m
    induction m using Nat.strongRecOn with
    | ind w9m w9ih =>
      intro w9M w9s w9I w9F w9J w9r0 w9r1 w9r2 w9t0 w9t1 w9q
      have w10 := ib336_7 w9I
      have w11 : (zI (zsI M 336 8 (0 : Int32)) 336 7).toInt = (zI M 336 7).toInt := (congrArg Int32.toInt ((zIoj (by decide)).trans rfl)).trans rfl
      have w12 := zrg (zI w9M 336 8)
      have w13 := ib336_6 w9I
      refine zs_aload_n (pc := 11) t244_11 rfl ?_
      refine zs_invV (pc := 12) (k := 336) (as' := []) (st := []) t244_12 mf238 rfl rfl (Or.inl ⟨by decide, (zk1 (w9s.k fk_zMm_336))⟩) ⟨by decide, by decide, Nat.le_of_ble_eq_true rfl, Nat.le_of_ble_eq_true rfl⟩ (H238 w9s w9I ?_) (fun _ _ q => q)
      have w14 := zhere.rg (M := w9M)
      have w15 : (zI w9M 336 6).toInt = (zI w9M 336 6).toInt := (congrArg Int32.toInt rfl).trans rfl
      have w16 : (zI w9M 336 5).toInt = (zI M 336 5).toInt := (congrArg Int32.toInt ((w9F 336 5 rfl).trans ((zIoj (by decide)).trans rfl))).trans rfl
      have w17 : (zI w9M 336 6).toInt = (zI w9M 336 6).toInt := (congrArg Int32.toInt rfl).trans rfl
      obtain ⟨w18n, w18⟩ : ∃ n : Nat, (zI w9M 336 6).toInt = (n : Int) := ⟨((zI w9M 336 6).toInt).toNat, by omega⟩
      have w19 : (zI w9M 336 5).toInt = (zI M 336 5).toInt := (congrArg Int32.toInt ((w9F 336 5 rfl).trans ((zIoj (by decide)).trans rfl))).trans rfl
      have w20 : (zhere w9M).toInt = gg w18n := zhere.tr (zTm.mk x0 (fun j => ((w9F 339 j rfl).trans (zIo (by decide)))) ((w9F 336 5 rfl).trans (zIoj (by decide)))) (by omega)
      have w21 := zTm.rg x0 w18n
      show zGo X l 1 0 0 244 15 [(0, .ref 336), (1, .int a), (2, .int (1 : Int32)), (3, .int b), (4, .int c), (5, .int (zI M 336 6))] [.int (zhere w9M)] w9M _
      refine zs_invS (pc := 15) (as := [.int (zhere w9M)]) (st := []) t244_15 (by decide) mf245 rfl rfl ⟨by decide, by decide, Nat.le_of_ble_eq_true rfl, Nat.le_of_ble_eq_true rfl⟩ (K245 w9s w9I ?_) (fun _ _ q => q)
      intro w22v w22t0 w22a w22b
      show zGo X l 1 0 0 244 18 [(0, .ref 336), (1, .int a), (2, .int (1 : Int32)), (3, .int b), (4, .int c), (5, .int (zI M 336 6))] [.int w22v] w9M _
      by_cases w23 : w22v.toInt = 0
      · refine zs_if_eqT (pc := 18) t244_18 rfl (by omega) ?_
        refine zs_aload_n (pc := 64) t244_64 rfl ?_
        refine zs_get (pc := 65) t244_65 (by decide) (zk1 (w9s.k fk_zMm_336)) (zfvi rfl rfl) ?_
        refine zs_iload (pc := 68) t244_68 rfl ?_
        by_cases w24 : (zI w9M 336 6).toInt = (zI M 336 6).toInt
        · refine zs_icmp_eqT (pc := 70) t244_70 rfl rfl (by omega) ?_
          refine zs_aload_n (pc := 83) t244_83 rfl ?_
          refine zs_aload_n (pc := 84) t244_84 rfl ?_
          refine zs_get (pc := 85) t244_85 (by decide) (zk1 (w9s.k fk_zMm_336)) (zfvi rfl rfl) ?_
          refine zs_invV (pc := 88) (k := 336) (as' := [.int (zI w9M 336 6)]) (st := []) t244_88 mf239 rfl rfl (Or.inl ⟨by decide, (zk1 (w9s.k fk_zMm_336))⟩) ⟨by decide, by decide, Nat.le_of_ble_eq_true rfl, Nat.le_of_ble_eq_true rfl⟩ (zs_in (by decide) mf239 (Nat.le_of_ble_eq_true rfl) ?_) (fun _ _ q => q)
          show zGo X l 0 0 0 239 0 [(0, .ref 336), (1, .int (zI w9M 336 6))] [] w9M _
          refine zs_aload_n (pc := 0) t239_0 rfl ?_
          refine zs_iload_n (pc := 1) t239_1 rfl ?_
          have w25 : zIv mLo mHi (zsI w9M 336 7 (zI w9M 336 6)) := zIv.put w9I (show (-1) ≤ (zI w9M 336 6).toInt ∧ (zI w9M 336 6).toInt ≤ 500 from ⟨by omega, by omega⟩)
          refine zs_putI (pc := 2) t239_2 (zk1 (w9s.k fk_zMm_336)) rfl ?_
          refine zs_iconst (pc := 5) t239_5 (v := 0) (by decide) ?_
          refine zs_iret (pc := 6) t239_6 mr239 (by decide) ?_
          show zGo X l 1 0 0 244 91 [(0, .ref 336), (1, .int a), (2, .int (1 : Int32)), (3, .int b), (4, .int c), (5, .int (zI M 336 6))] [.int (0 : Int32)] (zsI w9M 336 7 (zI w9M 336 6)) _
          have w26 : (zI (zsI w9M 336 7 (zI w9M 336 6)) 336 6).toInt = (zI w9M 336 6).toInt := (congrArg Int32.toInt ((zIoj (by decide)).trans rfl)).trans rfl
          have w27 : (zI (zsI w9M 336 7 (zI w9M 336 6)) 336 7).toInt = (zI w9M 336 6).toInt := (congrArg Int32.toInt zIs).trans rfl
          have w28 : (zI (zsI w9M 336 7 (zI w9M 336 6)) 336 8).toInt = (zI w9M 336 8).toInt := (congrArg Int32.toInt ((zIoj (by decide)).trans rfl)).trans rfl
          have w29 : pDg gg 4 w7n = w18n := by first | exact w9t0 0 w18n (by omega) (by omega) | exact (w9t0 (w7n + 4 - w18n) w18n (by omega) (by omega)).trans (pDg.z (by omega))
          exact zs_iret (pc := 91) t244_91 mr244 (by decide) (hQ _ _ w9s w25 ((((zFr.refl).put rfl).trans (w9F.mono rfl)).put rfl) w9J (fun p hp => by obtain rfl : w7n = p := (by omega); exact ⟨w18n, w18n - w7n, (zI w9M 336 8).toInt, w29, by omega, (w9t1 (w18n - w7n) (by omega)).symm, by omega, by omega, by omega, by omega⟩) (by decide) (by decide))
        · refine zs_icmp_eqF (pc := 70) t244_70 rfl rfl (by omega) ?_
          refine zs_aload_n (pc := 73) t244_73 rfl ?_
          refine zs_invV (pc := 74) (k := 336) (as' := []) (st := []) t244_74 mf238 rfl rfl (Or.inl ⟨by decide, (zk1 (w9s.k fk_zMm_336))⟩) ⟨by decide, by decide, Nat.le_of_ble_eq_true rfl, Nat.le_of_ble_eq_true rfl⟩ (H238 w9s w9I ?_) (fun _ _ q => q)
          have w30 := zhere.rg (M := w9M)
          have w31 : (zI w9M 336 6).toInt = (zI w9M 336 6).toInt := (congrArg Int32.toInt rfl).trans rfl
          have w32 : (zI w9M 336 5).toInt = (zI M 336 5).toInt := (congrArg Int32.toInt ((w9F 336 5 rfl).trans ((zIoj (by decide)).trans rfl))).trans rfl
          have w33 : (zI w9M 336 6).toInt = (zI w9M 336 6).toInt := (congrArg Int32.toInt rfl).trans rfl
          have w34 : (zI w9M 336 5).toInt = (zI M 336 5).toInt := (congrArg Int32.toInt ((w9F 336 5 rfl).trans ((zIoj (by decide)).trans rfl))).trans rfl
          have w35 : (zhere w9M).toInt = gg w18n := zhere.tr (zTm.mk x0 (fun j => ((w9F 339 j rfl).trans (zIo (by decide)))) ((w9F 336 5 rfl).trans (zIoj (by decide)))) (by omega)
          have w36 := zTm.rg x0 w18n
          show zGo X l 1 0 0 244 77 [(0, .ref 336), (1, .int a), (2, .int (1 : Int32)), (3, .int b), (4, .int c), (5, .int (zI M 336 6))] [.int (zhere w9M)] w9M _
          refine zs_invS (pc := 77) (as := [.int (zhere w9M)]) (st := []) t244_77 (by decide) mf245 rfl rfl ⟨by decide, by decide, Nat.le_of_ble_eq_true rfl, Nat.le_of_ble_eq_true rfl⟩ (K245 w9s w9I ?_) (fun _ _ q => q)
          intro w37v w37t0 w37a w37b
          show zGo X l 1 0 0 244 80 [(0, .ref 336), (1, .int a), (2, .int (1 : Int32)), (3, .int b), (4, .int c), (5, .int (zI M 336 6))] [.int w37v] w9M _
          by_cases w38 : w37v.toInt = 0
          · refine zs_if_eqT (pc := 80) t244_80 rfl (by omega) ?_
            refine zs_aload_n (pc := 92) t244_92 rfl ?_
            refine zs_dup (pc := 93) t244_93 rfl ?_
            refine zs_get (pc := 94) t244_94 (by decide) (zk1 (w9s.k fk_zMm_336)) (zfvi rfl rfl) ?_
            refine zs_iload_n (pc := 97) t244_97 rfl ?_
            obtain ⟨w39v, w39⟩ : ∃ v, (zI w9M 336 8) * (1 : Int32) = v := ⟨_, rfl⟩
            have w39g : w39v.toInt = (zI w9M 336 8).toInt * 1 := by rw [← w39]; exact zmulc rfl li1 (by omega) (by omega)
            refine zs_imul (pc := 98) t244_98 (c := w39v) w39 ?_
            have w40 : zIv mLo mHi (zsI w9M 336 8 w39v) := zIv.put w9I (show (-2147483648) ≤ w39v.toInt ∧ w39v.toInt ≤ 2147483647 from zrg w39v)
            refine zs_putI (pc := 99) t244_99 (zk1 (w9s.k fk_zMm_336)) rfl ?_
            refine zs_aload_n (pc := 102) t244_102 rfl ?_
            refine zs_get (pc := 103) t244_103 (by decide) (zk1 (w9s.k fk_zMm_336)) (zfvi rfl zIs) ?_
            refine zs_i2l (pc := 106) t244_106 rfl ?_
            refine zs_iload_n (pc := 107) t244_107 rfl ?_
            refine zs_i2l (pc := 108) t244_108 rfl ?_
            refine zs_iload (pc := 109) t244_109 rfl ?_
            refine zs_i2l (pc := 111) t244_111 rfl ?_
            by_cases w41 : b.toInt ≤ ((zI w9M 336 8).toInt * 1) ∧ ((zI w9M 336 8).toInt * 1) ≤ c.toInt
            · refine zs_invS (pc := 112) (as := [.long w39v.toInt64, .long b.toInt64, .long c.toInt64]) (st := []) t244_112 (by decide) mf228 rfl rfl ⟨by decide, by decide, Nat.le_of_ble_eq_true rfl, Nat.le_of_ble_eq_true rfl⟩ (K228T (zi2l w39g) (zi2l rfl) (zi2l rfl) (by omega) ?_) (fun _ _ q => q)
              show zGo X l 1 0 0 244 115 [(0, .ref 336), (1, .int a), (2, .int (1 : Int32)), (3, .int b), (4, .int c), (5, .int (zI M 336 6))] [.int (1 : Int32)] (zsI w9M 336 8 w39v) _
              refine zs_if_neT (pc := 115) t244_115 li1 (by decide) ?_
              refine zs_iconst (pc := 126) t244_126 (v := 1) (by decide) ?_
              refine zs_goto (pc := 127) t244_127 ?_
              have w42 : (zI (zsI w9M 336 8 w39v) 336 6).toInt = (zI w9M 336 6).toInt := (congrArg Int32.toInt ((zIoj (by decide)).trans rfl)).trans rfl
              have w43 : (zI (zsI w9M 336 8 w39v) 336 7).toInt = (zI w9M 336 7).toInt := (congrArg Int32.toInt ((zIoj (by decide)).trans rfl)).trans rfl
              have w44 : (zI (zsI w9M 336 8 w39v) 336 8).toInt = ((zI w9M 336 8).toInt * 1) := (congrArg Int32.toInt zIs).trans w39g
              have w45 : pDg gg 4 w7n = w18n := by first | exact w9t0 0 w18n (by omega) (by omega) | exact (w9t0 (w7n + 4 - w18n) w18n (by omega) (by omega)).trans (pDg.z (by omega))
              exact zs_iret (pc := 131) t244_131 mr244 (by decide) (hQ _ _ w9s w40 ((((zFr.refl).put rfl).trans (w9F.mono rfl)).put rfl) w9J (fun p hp => by obtain rfl : w7n = p := (by omega); exact ⟨w18n, w18n - w7n, (zI w9M 336 8).toInt, w45, by omega, (w9t1 (w18n - w7n) (by omega)).symm, by omega, by omega, by omega, by omega⟩) (by decide) (by decide))
            · refine zs_invS (pc := 112) (as := [.long w39v.toInt64, .long b.toInt64, .long c.toInt64]) (st := []) t244_112 (by decide) mf228 rfl rfl ⟨by decide, by decide, Nat.le_of_ble_eq_true rfl, Nat.le_of_ble_eq_true rfl⟩ (K228F (zi2l w39g) (zi2l rfl) (zi2l rfl) (by omega) ?_) (fun _ _ q => q)
              show zGo X l 1 0 0 244 115 [(0, .ref 336), (1, .int a), (2, .int (1 : Int32)), (3, .int b), (4, .int c), (5, .int (zI M 336 6))] [.int (0 : Int32)] (zsI w9M 336 8 w39v) _
              refine zs_if_neF (pc := 115) t244_115 li0 (by decide) ?_
              refine zs_aload_n (pc := 118) t244_118 rfl ?_
              refine zs_iload_n (pc := 119) t244_119 rfl ?_
              refine zs_invV (pc := 120) (k := 336) (as' := [.int a]) (st := []) t244_120 mf239 rfl rfl (Or.inl ⟨by decide, (zk1 (w9s.k fk_zMm_336))⟩) ⟨by decide, by decide, Nat.le_of_ble_eq_true rfl, Nat.le_of_ble_eq_true rfl⟩ (zs_in (by decide) mf239 (Nat.le_of_ble_eq_true rfl) ?_) (fun _ _ q => q)
              show zGo X l 0 0 0 239 0 [(0, .ref 336), (1, .int a)] [] (zsI w9M 336 8 w39v) _
              refine zs_aload_n (pc := 0) t239_0 rfl ?_
              refine zs_iload_n (pc := 1) t239_1 rfl ?_
              have w46 : zIv mLo mHi (zsI (zsI w9M 336 8 w39v) 336 7 a) := zIv.put w40 (show (-1) ≤ a.toInt ∧ a.toInt ≤ 500 from ⟨by omega, by omega⟩)
              refine zs_putI (pc := 2) t239_2 (zk1 (w9s.k fk_zMm_336)) rfl ?_
              refine zs_iconst (pc := 5) t239_5 (v := 0) (by decide) ?_
              refine zs_iret (pc := 6) t239_6 mr239 (by decide) ?_
              show zGo X l 1 0 0 244 123 [(0, .ref 336), (1, .int a), (2, .int (1 : Int32)), (3, .int b), (4, .int c), (5, .int (zI M 336 6))] [.int (0 : Int32)] (zsI (zsI w9M 336 8 w39v) 336 7 a) _
              refine zs_if_eqT (pc := 123) t244_123 li0 (by decide) ?_
              refine zs_iconst (pc := 130) t244_130 (v := 0) (by decide) ?_
              have w47 : (zI (zsI (zsI w9M 336 8 w39v) 336 7 a) 336 6).toInt = (zI w9M 336 6).toInt := (congrArg Int32.toInt ((zIoj (by decide)).trans ((zIoj (by decide)).trans rfl))).trans rfl
              have w48 : (zI (zsI (zsI w9M 336 8 w39v) 336 7 a) 336 7).toInt = a.toInt := (congrArg Int32.toInt zIs).trans rfl
              have w49 : (zI (zsI (zsI w9M 336 8 w39v) 336 7 a) 336 8).toInt = ((zI w9M 336 8).toInt * 1) := (congrArg Int32.toInt ((zIoj (by decide)).trans zIs)).trans w39g
              have w50 : pDg gg 4 w7n = w18n := by first | exact w9t0 0 w18n (by omega) (by omega) | exact (w9t0 (w7n + 4 - w18n) w18n (by omega) (by omega)).trans (pDg.z (by omega))
              exact zs_iret (pc := 131) t244_131 mr244 (by decide) (hQ _ _ w9s w46 (((((zFr.refl).put rfl).trans (w9F.mono rfl)).put rfl).put rfl) w9J (fun p hp => by obtain rfl : w7n = p := (by omega); exact ⟨w18n, w18n - w7n, (zI w9M 336 8).toInt, w50, by omega, (w9t1 (w18n - w7n) (by omega)).symm, by omega, by omega, by omega, by omega⟩) (by decide) (by decide))
          · refine zs_if_eqF (pc := 80) t244_80 rfl (by omega) ?_
            refine zs_aload_n (pc := 83) t244_83 rfl ?_
            refine zs_aload_n (pc := 84) t244_84 rfl ?_
            refine zs_get (pc := 85) t244_85 (by decide) (zk1 (w9s.k fk_zMm_336)) (zfvi rfl rfl) ?_
            refine zs_invV (pc := 88) (k := 336) (as' := [.int (zI w9M 336 6)]) (st := []) t244_88 mf239 rfl rfl (Or.inl ⟨by decide, (zk1 (w9s.k fk_zMm_336))⟩) ⟨by decide, by decide, Nat.le_of_ble_eq_true rfl, Nat.le_of_ble_eq_true rfl⟩ (zs_in (by decide) mf239 (Nat.le_of_ble_eq_true rfl) ?_) (fun _ _ q => q)
            show zGo X l 0 0 0 239 0 [(0, .ref 336), (1, .int (zI w9M 336 6))] [] w9M _
            refine zs_aload_n (pc := 0) t239_0 rfl ?_
            refine zs_iload_n (pc := 1) t239_1 rfl ?_
            have w51 : zIv mLo mHi (zsI w9M 336 7 (zI w9M 336 6)) := zIv.put w9I (show (-1) ≤ (zI w9M 336 6).toInt ∧ (zI w9M 336 6).toInt ≤ 500 from ⟨by omega, by omega⟩)
            refine zs_putI (pc := 2) t239_2 (zk1 (w9s.k fk_zMm_336)) rfl ?_
            refine zs_iconst (pc := 5) t239_5 (v := 0) (by decide) ?_
            refine zs_iret (pc := 6) t239_6 mr239 (by decide) ?_
            show zGo X l 1 0 0 244 91 [(0, .ref 336), (1, .int a), (2, .int (1 : Int32)), (3, .int b), (4, .int c), (5, .int (zI M 336 6))] [.int (0 : Int32)] (zsI w9M 336 7 (zI w9M 336 6)) _
            have w52 : (zI (zsI w9M 336 7 (zI w9M 336 6)) 336 6).toInt = (zI w9M 336 6).toInt := (congrArg Int32.toInt ((zIoj (by decide)).trans rfl)).trans rfl
            have w53 : (zI (zsI w9M 336 7 (zI w9M 336 6)) 336 7).toInt = (zI w9M 336 6).toInt := (congrArg Int32.toInt zIs).trans rfl
            have w54 : (zI (zsI w9M 336 7 (zI w9M 336 6)) 336 8).toInt = (zI w9M 336 8).toInt := (congrArg Int32.toInt ((zIoj (by decide)).trans rfl)).trans rfl
            have w55 : pDg gg 4 w7n = w18n := by first | exact w9t0 0 w18n (by omega) (by omega) | exact (w9t0 (w7n + 4 - w18n) w18n (by omega) (by omega)).trans (pDg.z (by omega))
            exact zs_iret (pc := 91) t244_91 mr244 (by decide) (hQ _ _ w9s w51 ((((zFr.refl).put rfl).trans (w9F.mono rfl)).put rfl) w9J (fun p hp => by obtain rfl : w7n = p := (by omega); exact ⟨w18n, w18n - w7n, (zI w9M 336 8).toInt, w55, by omega, (w9t1 (w18n - w7n) (by omega)).symm, by omega, by omega, by omega, by omega⟩) (by decide) (by decide))
      · refine zs_if_eqF (pc := 18) t244_18 rfl (by omega) ?_
        refine zs_aload_n (pc := 21) t244_21 rfl ?_
        refine zs_get (pc := 22) t244_22 (by decide) (zk1 (w9s.k fk_zMm_336)) (zfvi rfl rfl) ?_
        refine zs_iload (pc := 25) t244_25 rfl ?_
        obtain ⟨w56v, w56e, w56⟩ := zisub (a := (zI w9M 336 6)) (b := (zI M 336 6)) rfl rfl (by omega) (by omega)
        refine zs_isub (pc := 27) t244_27 (c := w56v) w56e ?_
        refine zs_iconst (pc := 28) t244_28 (v := 4) (by decide) ?_
        by_cases w57 : 4 ≤ ((zI w9M 336 6).toInt - (zI M 336 6).toInt)
        · refine zs_icmp_geT (pc := 29) t244_29 w56 li4 (by omega) ?_
          refine zs_aload_n (pc := 64) t244_64 rfl ?_
          refine zs_get (pc := 65) t244_65 (by decide) (zk1 (w9s.k fk_zMm_336)) (zfvi rfl rfl) ?_
          refine zs_iload (pc := 68) t244_68 rfl ?_
          by_cases w58 : (zI w9M 336 6).toInt = (zI M 336 6).toInt
          · refine zs_icmp_eqT (pc := 70) t244_70 rfl rfl (by omega) ?_
            refine zs_aload_n (pc := 83) t244_83 rfl ?_
            refine zs_aload_n (pc := 84) t244_84 rfl ?_
            refine zs_get (pc := 85) t244_85 (by decide) (zk1 (w9s.k fk_zMm_336)) (zfvi rfl rfl) ?_
            refine zs_invV (pc := 88) (k := 336) (as' := [.int (zI w9M 336 6)]) (st := []) t244_88 mf239 rfl rfl (Or.inl ⟨by decide, (zk1 (w9s.k fk_zMm_336))⟩) ⟨by decide, by decide, Nat.le_of_ble_eq_true rfl, Nat.le_of_ble_eq_true rfl⟩ (zs_in (by decide) mf239 (Nat.le_of_ble_eq_true rfl) ?_) (fun _ _ q => q)
            show zGo X l 0 0 0 239 0 [(0, .ref 336), (1, .int (zI w9M 336 6))] [] w9M _
            refine zs_aload_n (pc := 0) t239_0 rfl ?_
            refine zs_iload_n (pc := 1) t239_1 rfl ?_
            have w59 : zIv mLo mHi (zsI w9M 336 7 (zI w9M 336 6)) := zIv.put w9I (show (-1) ≤ (zI w9M 336 6).toInt ∧ (zI w9M 336 6).toInt ≤ 500 from ⟨by omega, by omega⟩)
            refine zs_putI (pc := 2) t239_2 (zk1 (w9s.k fk_zMm_336)) rfl ?_
            refine zs_iconst (pc := 5) t239_5 (v := 0) (by decide) ?_
            refine zs_iret (pc := 6) t239_6 mr239 (by decide) ?_
            show zGo X l 1 0 0 244 91 [(0, .ref 336), (1, .int a), (2, .int (1 : Int32)), (3, .int b), (4, .int c), (5, .int (zI M 336 6))] [.int (0 : Int32)] (zsI w9M 336 7 (zI w9M 336 6)) _
            have w60 : (zI (zsI w9M 336 7 (zI w9M 336 6)) 336 6).toInt = (zI w9M 336 6).toInt := (congrArg Int32.toInt ((zIoj (by decide)).trans rfl)).trans rfl
            have w61 : (zI (zsI w9M 336 7 (zI w9M 336 6)) 336 7).toInt = (zI w9M 336 6).toInt := (congrArg Int32.toInt zIs).trans rfl
            have w62 : (zI (zsI w9M 336 7 (zI w9M 336 6)) 336 8).toInt = (zI w9M 336 8).toInt := (congrArg Int32.toInt ((zIoj (by decide)).trans rfl)).trans rfl
            have w63 : pDg gg 4 w7n = w18n := by first | exact w9t0 0 w18n (by omega) (by omega) | exact (w9t0 (w7n + 4 - w18n) w18n (by omega) (by omega)).trans (pDg.z (by omega))
            exact zs_iret (pc := 91) t244_91 mr244 (by decide) (hQ _ _ w9s w59 ((((zFr.refl).put rfl).trans (w9F.mono rfl)).put rfl) w9J (fun p hp => by obtain rfl : w7n = p := (by omega); exact ⟨w18n, w18n - w7n, (zI w9M 336 8).toInt, w63, by omega, (w9t1 (w18n - w7n) (by omega)).symm, by omega, by omega, by omega, by omega⟩) (by decide) (by decide))
          · refine zs_icmp_eqF (pc := 70) t244_70 rfl rfl (by omega) ?_
            refine zs_aload_n (pc := 73) t244_73 rfl ?_
            refine zs_invV (pc := 74) (k := 336) (as' := []) (st := []) t244_74 mf238 rfl rfl (Or.inl ⟨by decide, (zk1 (w9s.k fk_zMm_336))⟩) ⟨by decide, by decide, Nat.le_of_ble_eq_true rfl, Nat.le_of_ble_eq_true rfl⟩ (H238 w9s w9I ?_) (fun _ _ q => q)
            have w64 := zhere.rg (M := w9M)
            have w65 : (zI w9M 336 6).toInt = (zI w9M 336 6).toInt := (congrArg Int32.toInt rfl).trans rfl
            have w66 : (zI w9M 336 5).toInt = (zI M 336 5).toInt := (congrArg Int32.toInt ((w9F 336 5 rfl).trans ((zIoj (by decide)).trans rfl))).trans rfl
            have w67 : (zI w9M 336 6).toInt = (zI w9M 336 6).toInt := (congrArg Int32.toInt rfl).trans rfl
            have w68 : (zI w9M 336 5).toInt = (zI M 336 5).toInt := (congrArg Int32.toInt ((w9F 336 5 rfl).trans ((zIoj (by decide)).trans rfl))).trans rfl
            have w69 : (zhere w9M).toInt = gg w18n := zhere.tr (zTm.mk x0 (fun j => ((w9F 339 j rfl).trans (zIo (by decide)))) ((w9F 336 5 rfl).trans (zIoj (by decide)))) (by omega)
            have w70 := zTm.rg x0 w18n
            show zGo X l 1 0 0 244 77 [(0, .ref 336), (1, .int a), (2, .int (1 : Int32)), (3, .int b), (4, .int c), (5, .int (zI M 336 6))] [.int (zhere w9M)] w9M _
            refine zs_invS (pc := 77) (as := [.int (zhere w9M)]) (st := []) t244_77 (by decide) mf245 rfl rfl ⟨by decide, by decide, Nat.le_of_ble_eq_true rfl, Nat.le_of_ble_eq_true rfl⟩ (K245 w9s w9I ?_) (fun _ _ q => q)
            intro w71v w71t0 w71a w71b
            show zGo X l 1 0 0 244 80 [(0, .ref 336), (1, .int a), (2, .int (1 : Int32)), (3, .int b), (4, .int c), (5, .int (zI M 336 6))] [.int w71v] w9M _
            by_cases w72 : w71v.toInt = 0
            · refine zs_if_eqT (pc := 80) t244_80 rfl (by omega) ?_
              refine zs_aload_n (pc := 92) t244_92 rfl ?_
              refine zs_dup (pc := 93) t244_93 rfl ?_
              refine zs_get (pc := 94) t244_94 (by decide) (zk1 (w9s.k fk_zMm_336)) (zfvi rfl rfl) ?_
              refine zs_iload_n (pc := 97) t244_97 rfl ?_
              obtain ⟨w73v, w73⟩ : ∃ v, (zI w9M 336 8) * (1 : Int32) = v := ⟨_, rfl⟩
              have w73g : w73v.toInt = (zI w9M 336 8).toInt * 1 := by rw [← w73]; exact zmulc rfl li1 (by omega) (by omega)
              refine zs_imul (pc := 98) t244_98 (c := w73v) w73 ?_
              have w74 : zIv mLo mHi (zsI w9M 336 8 w73v) := zIv.put w9I (show (-2147483648) ≤ w73v.toInt ∧ w73v.toInt ≤ 2147483647 from zrg w73v)
              refine zs_putI (pc := 99) t244_99 (zk1 (w9s.k fk_zMm_336)) rfl ?_
              refine zs_aload_n (pc := 102) t244_102 rfl ?_
              refine zs_get (pc := 103) t244_103 (by decide) (zk1 (w9s.k fk_zMm_336)) (zfvi rfl zIs) ?_
              refine zs_i2l (pc := 106) t244_106 rfl ?_
              refine zs_iload_n (pc := 107) t244_107 rfl ?_
              refine zs_i2l (pc := 108) t244_108 rfl ?_
              refine zs_iload (pc := 109) t244_109 rfl ?_
              refine zs_i2l (pc := 111) t244_111 rfl ?_
              by_cases w75 : b.toInt ≤ ((zI w9M 336 8).toInt * 1) ∧ ((zI w9M 336 8).toInt * 1) ≤ c.toInt
              · refine zs_invS (pc := 112) (as := [.long w73v.toInt64, .long b.toInt64, .long c.toInt64]) (st := []) t244_112 (by decide) mf228 rfl rfl ⟨by decide, by decide, Nat.le_of_ble_eq_true rfl, Nat.le_of_ble_eq_true rfl⟩ (K228T (zi2l w73g) (zi2l rfl) (zi2l rfl) (by omega) ?_) (fun _ _ q => q)
                show zGo X l 1 0 0 244 115 [(0, .ref 336), (1, .int a), (2, .int (1 : Int32)), (3, .int b), (4, .int c), (5, .int (zI M 336 6))] [.int (1 : Int32)] (zsI w9M 336 8 w73v) _
                refine zs_if_neT (pc := 115) t244_115 li1 (by decide) ?_
                refine zs_iconst (pc := 126) t244_126 (v := 1) (by decide) ?_
                refine zs_goto (pc := 127) t244_127 ?_
                have w76 : (zI (zsI w9M 336 8 w73v) 336 6).toInt = (zI w9M 336 6).toInt := (congrArg Int32.toInt ((zIoj (by decide)).trans rfl)).trans rfl
                have w77 : (zI (zsI w9M 336 8 w73v) 336 7).toInt = (zI w9M 336 7).toInt := (congrArg Int32.toInt ((zIoj (by decide)).trans rfl)).trans rfl
                have w78 : (zI (zsI w9M 336 8 w73v) 336 8).toInt = ((zI w9M 336 8).toInt * 1) := (congrArg Int32.toInt zIs).trans w73g
                have w79 : pDg gg 4 w7n = w18n := by first | exact w9t0 0 w18n (by omega) (by omega) | exact (w9t0 (w7n + 4 - w18n) w18n (by omega) (by omega)).trans (pDg.z (by omega))
                exact zs_iret (pc := 131) t244_131 mr244 (by decide) (hQ _ _ w9s w74 ((((zFr.refl).put rfl).trans (w9F.mono rfl)).put rfl) w9J (fun p hp => by obtain rfl : w7n = p := (by omega); exact ⟨w18n, w18n - w7n, (zI w9M 336 8).toInt, w79, by omega, (w9t1 (w18n - w7n) (by omega)).symm, by omega, by omega, by omega, by omega⟩) (by decide) (by decide))
              · refine zs_invS (pc := 112) (as := [.long w73v.toInt64, .long b.toInt64, .long c.toInt64]) (st := []) t244_112 (by decide) mf228 rfl rfl ⟨by decide, by decide, Nat.le_of_ble_eq_true rfl, Nat.le_of_ble_eq_true rfl⟩ (K228F (zi2l w73g) (zi2l rfl) (zi2l rfl) (by omega) ?_) (fun _ _ q => q)
                show zGo X l 1 0 0 244 115 [(0, .ref 336), (1, .int a), (2, .int (1 : Int32)), (3, .int b), (4, .int c), (5, .int (zI M 336 6))] [.int (0 : Int32)] (zsI w9M 336 8 w73v) _
                refine zs_if_neF (pc := 115) t244_115 li0 (by decide) ?_
                refine zs_aload_n (pc := 118) t244_118 rfl ?_
                refine zs_iload_n (pc := 119) t244_119 rfl ?_
                refine zs_invV (pc := 120) (k := 336) (as' := [.int a]) (st := []) t244_120 mf239 rfl rfl (Or.inl ⟨by decide, (zk1 (w9s.k fk_zMm_336))⟩) ⟨by decide, by decide, Nat.le_of_ble_eq_true rfl, Nat.le_of_ble_eq_true rfl⟩ (zs_in (by decide) mf239 (Nat.le_of_ble_eq_true rfl) ?_) (fun _ _ q => q)
                show zGo X l 0 0 0 239 0 [(0, .ref 336), (1, .int a)] [] (zsI w9M 336 8 w73v) _
                refine zs_aload_n (pc := 0) t239_0 rfl ?_
                refine zs_iload_n (pc := 1) t239_1 rfl ?_
                have w80 : zIv mLo mHi (zsI (zsI w9M 336 8 w73v) 336 7 a) := zIv.put w74 (show (-1) ≤ a.toInt ∧ a.toInt ≤ 500 from ⟨by omega, by omega⟩)
                refine zs_putI (pc := 2) t239_2 (zk1 (w9s.k fk_zMm_336)) rfl ?_
                refine zs_iconst (pc := 5) t239_5 (v := 0) (by decide) ?_
                refine zs_iret (pc := 6) t239_6 mr239 (by decide) ?_
                show zGo X l 1 0 0 244 123 [(0, .ref 336), (1, .int a), (2, .int (1 : Int32)), (3, .int b), (4, .int c), (5, .int (zI M 336 6))] [.int (0 : Int32)] (zsI (zsI w9M 336 8 w73v) 336 7 a) _
                refine zs_if_eqT (pc := 123) t244_123 li0 (by decide) ?_
                refine zs_iconst (pc := 130) t244_130 (v := 0) (by decide) ?_
                have w81 : (zI (zsI (zsI w9M 336 8 w73v) 336 7 a) 336 6).toInt = (zI w9M 336 6).toInt := (congrArg Int32.toInt ((zIoj (by decide)).trans ((zIoj (by decide)).trans rfl))).trans rfl
                have w82 : (zI (zsI (zsI w9M 336 8 w73v) 336 7 a) 336 7).toInt = a.toInt := (congrArg Int32.toInt zIs).trans rfl
                have w83 : (zI (zsI (zsI w9M 336 8 w73v) 336 7 a) 336 8).toInt = ((zI w9M 336 8).toInt * 1) := (congrArg Int32.toInt ((zIoj (by decide)).trans zIs)).trans w73g
                have w84 : pDg gg 4 w7n = w18n := by first | exact w9t0 0 w18n (by omega) (by omega) | exact (w9t0 (w7n + 4 - w18n) w18n (by omega) (by omega)).trans (pDg.z (by omega))
                exact zs_iret (pc := 131) t244_131 mr244 (by decide) (hQ _ _ w9s w80 (((((zFr.refl).put rfl).trans (w9F.mono rfl)).put rfl).put rfl) w9J (fun p hp => by obtain rfl : w7n = p := (by omega); exact ⟨w18n, w18n - w7n, (zI w9M 336 8).toInt, w84, by omega, (w9t1 (w18n - w7n) (by omega)).symm, by omega, by omega, by omega, by omega⟩) (by decide) (by decide))
            · refine zs_if_eqF (pc := 80) t244_80 rfl (by omega) ?_
              refine zs_aload_n (pc := 83) t244_83 rfl ?_
              refine zs_aload_n (pc := 84) t244_84 rfl ?_
              refine zs_get (pc := 85) t244_85 (by decide) (zk1 (w9s.k fk_zMm_336)) (zfvi rfl rfl) ?_
              refine zs_invV (pc := 88) (k := 336) (as' := [.int (zI w9M 336 6)]) (st := []) t244_88 mf239 rfl rfl (Or.inl ⟨by decide, (zk1 (w9s.k fk_zMm_336))⟩) ⟨by decide, by decide, Nat.le_of_ble_eq_true rfl, Nat.le_of_ble_eq_true rfl⟩ (zs_in (by decide) mf239 (Nat.le_of_ble_eq_true rfl) ?_) (fun _ _ q => q)
              show zGo X l 0 0 0 239 0 [(0, .ref 336), (1, .int (zI w9M 336 6))] [] w9M _
              refine zs_aload_n (pc := 0) t239_0 rfl ?_
              refine zs_iload_n (pc := 1) t239_1 rfl ?_
              have w85 : zIv mLo mHi (zsI w9M 336 7 (zI w9M 336 6)) := zIv.put w9I (show (-1) ≤ (zI w9M 336 6).toInt ∧ (zI w9M 336 6).toInt ≤ 500 from ⟨by omega, by omega⟩)
              refine zs_putI (pc := 2) t239_2 (zk1 (w9s.k fk_zMm_336)) rfl ?_
              refine zs_iconst (pc := 5) t239_5 (v := 0) (by decide) ?_
              refine zs_iret (pc := 6) t239_6 mr239 (by decide) ?_
              show zGo X l 1 0 0 244 91 [(0, .ref 336), (1, .int a), (2, .int (1 : Int32)), (3, .int b), (4, .int c), (5, .int (zI M 336 6))] [.int (0 : Int32)] (zsI w9M 336 7 (zI w9M 336 6)) _
              have w86 : (zI (zsI w9M 336 7 (zI w9M 336 6)) 336 6).toInt = (zI w9M 336 6).toInt := (congrArg Int32.toInt ((zIoj (by decide)).trans rfl)).trans rfl
              have w87 : (zI (zsI w9M 336 7 (zI w9M 336 6)) 336 7).toInt = (zI w9M 336 6).toInt := (congrArg Int32.toInt zIs).trans rfl
              have w88 : (zI (zsI w9M 336 7 (zI w9M 336 6)) 336 8).toInt = (zI w9M 336 8).toInt := (congrArg Int32.toInt ((zIoj (by decide)).trans rfl)).trans rfl
              have w89 : pDg gg 4 w7n = w18n := by first | exact w9t0 0 w18n (by omega) (by omega) | exact (w9t0 (w7n + 4 - w18n) w18n (by omega) (by omega)).trans (pDg.z (by omega))
              exact zs_iret (pc := 91) t244_91 mr244 (by decide) (hQ _ _ w9s w85 ((((zFr.refl).put rfl).trans (w9F.mono rfl)).put rfl) w9J (fun p hp => by obtain rfl : w7n = p := (by omega); exact ⟨w18n, w18n - w7n, (zI w9M 336 8).toInt, w89, by omega, (w9t1 (w18n - w7n) (by omega)).symm, by omega, by omega, by omega, by omega⟩) (by decide) (by decide))
        · refine zs_icmp_geF (pc := 29) t244_29 w56 li4 (by omega) ?_
          refine zs_aload_n (pc := 32) t244_32 rfl ?_
          refine zs_bipush (pc := 33) t244_33 (v := 10) (by decide) ?_
          refine zs_aload_n (pc := 35) t244_35 rfl ?_
          refine zs_get (pc := 36) t244_36 (by decide) (zk1 (w9s.k fk_zMm_336)) (zfvi rfl rfl) ?_
          obtain ⟨w90v, w90⟩ : ∃ v, (10 : Int32) * (zI w9M 336 8) = v := ⟨_, rfl⟩
          have w90g : w90v.toInt = 10 * (zI w9M 336 8).toInt := by rw [← w90]; exact zmulc li10 rfl (by omega) (by omega)
          refine zs_imul (pc := 39) t244_39 (c := w90v) w90 ?_
          refine zs_aload_n (pc := 40) t244_40 rfl ?_
          refine zs_invV (pc := 41) (k := 336) (as' := []) (st := [.int w90v, .ref 336]) t244_41 mf238 rfl rfl (Or.inl ⟨by decide, (zk1 (w9s.k fk_zMm_336))⟩) ⟨by decide, by decide, Nat.le_of_ble_eq_true rfl, Nat.le_of_ble_eq_true rfl⟩ (H238 w9s w9I ?_) (fun _ _ q => q)
          have w91 := zhere.rg (M := w9M)
          have w92 : (zI w9M 336 6).toInt = (zI w9M 336 6).toInt := (congrArg Int32.toInt rfl).trans rfl
          have w93 : (zI w9M 336 5).toInt = (zI M 336 5).toInt := (congrArg Int32.toInt ((w9F 336 5 rfl).trans ((zIoj (by decide)).trans rfl))).trans rfl
          have w94 : (zI w9M 336 6).toInt = (zI w9M 336 6).toInt := (congrArg Int32.toInt rfl).trans rfl
          have w95 : (zI w9M 336 5).toInt = (zI M 336 5).toInt := (congrArg Int32.toInt ((w9F 336 5 rfl).trans ((zIoj (by decide)).trans rfl))).trans rfl
          have w96 : (zhere w9M).toInt = gg w18n := zhere.tr (zTm.mk x0 (fun j => ((w9F 339 j rfl).trans (zIo (by decide)))) ((w9F 336 5 rfl).trans (zIoj (by decide)))) (by omega)
          have w97 := zTm.rg x0 w18n
          show zGo X l 1 0 0 244 44 [(0, .ref 336), (1, .int a), (2, .int (1 : Int32)), (3, .int b), (4, .int c), (5, .int (zI M 336 6))] [.int (zhere w9M), .int w90v, .ref 336] w9M _
          obtain ⟨w98v, w98e, w98⟩ := ziadd (a := w90v) (b := (zhere w9M)) w90g rfl (by omega) (by omega)
          refine zs_iadd (pc := 44) t244_44 (c := w98v) w98e ?_
          refine zs_bipush (pc := 45) t244_45 (v := 48) (by decide) ?_
          obtain ⟨w99v, w99e, w99⟩ := zisub (a := w98v) (b := (48 : Int32)) w98 li48 (by omega) (by omega)
          refine zs_isub (pc := 47) t244_47 (c := w99v) w99e ?_
          have w100 : zIv mLo mHi (zsI w9M 336 8 w99v) := zIv.put w9I (show (-2147483648) ≤ w99v.toInt ∧ w99v.toInt ≤ 2147483647 from zrg w99v)
          refine zs_putI (pc := 48) t244_48 (zk1 (w9s.k fk_zMm_336)) rfl ?_
          refine zs_aload_n (pc := 51) t244_51 rfl ?_
          refine zs_dup (pc := 52) t244_52 rfl ?_
          refine zs_get (pc := 53) t244_53 (by decide) (zk1 (w9s.k fk_zMm_336)) (zfvi rfl ((zIoj (by decide)).trans rfl)) ?_
          refine zs_iconst (pc := 56) t244_56 (v := 1) (by decide) ?_
          obtain ⟨w101v, w101e, w101⟩ := ziadd (a := (zI w9M 336 6)) (b := (1 : Int32)) rfl li1 (by omega) (by omega)
          refine zs_iadd (pc := 57) t244_57 (c := w101v) w101e ?_
          have w102 : zIv mLo mHi (zsI (zsI w9M 336 8 w99v) 336 6 w101v) := zIv.put w100 (show 0 ≤ w101v.toInt ∧ w101v.toInt ≤ 500 from ⟨by omega, by omega⟩)
          refine zs_putI (pc := 58) t244_58 (zk1 (w9s.k fk_zMm_336)) rfl ?_
          refine zs_goto (pc := 61) t244_61 ?_
          refine zGo.locals (ls' := [(0, .ref 336), (1, .int a), (2, .int (1 : Int32)), (3, .int b), (4, .int c), (5, .int (zI M 336 6))]) (by simp) ?_
          have w103 : (zI (zsI (zsI w9M 336 8 w99v) 336 6 w101v) 336 7).toInt = (zI w9M 336 7).toInt := (congrArg Int32.toInt ((zIoj (by decide)).trans ((zIoj (by decide)).trans rfl))).trans rfl
          have w104 : (zI (zsI (zsI w9M 336 8 w99v) 336 6 w101v) 336 8).toInt = (((10 * (zI w9M 336 8).toInt) + (zhere w9M).toInt) - 48) := (congrArg Int32.toInt ((zIoj (by decide)).trans zIs)).trans w99
          have w105 : (zI (zsI (zsI w9M 336 8 w99v) 336 6 w101v) 336 6).toInt = ((zI w9M 336 6).toInt + 1) := (congrArg Int32.toInt zIs).trans w101
          have w106 : (zI (zsI (zsI w9M 336 8 w99v) 336 6 w101v) 336 6).toInt = ((zI w9M 336 6).toInt + 1) := (congrArg Int32.toInt zIs).trans w101
          have w107 : (zI (zsI (zsI w9M 336 8 w99v) 336 6 w101v) 336 6).toInt = ((zI w9M 336 6).toInt + 1) := (congrArg Int32.toInt zIs).trans w101
          have w108 : (zI (zsI (zsI w9M 336 8 w99v) 336 6 w101v) 336 8).toInt = (((10 * (zI w9M 336 8).toInt) + (zhere w9M).toInt) - 48) := (congrArg Int32.toInt ((zIoj (by decide)).trans zIs)).trans w99
          have w109 : (zI (zsI (zsI w9M 336 8 w99v) 336 6 w101v) 336 6).toInt = ((zI w9M 336 6).toInt + 1) := (congrArg Int32.toInt zIs).trans w101
          exact w9ih (w9m - 1) (by omega) (zsI (zsI w9M 336 8 w99v) 336 6 w101v) w9s w102 ((((zFr.refl).trans (w9F.mono rfl)).put rfl).put rfl) w9J (by omega) (by omega) (by omega) (fun k q h1 h2 => (w9t0 (k + 1) w18n (by omega) (by omega)).trans ((pDg.y (by omega)).trans (congrArg (pDg gg k) (by omega)))) (fun d hd => by obtain rfl : d = (w18n - w7n) + 1 := (by omega); show _ = 10 * pVal gg w7n (w18n - w7n) + (gg (w7n + (w18n - w7n)) - 48); rw [show w7n + (w18n - w7n) = w18n by omega]; have z := w9t1 (w18n - w7n) (by omega); omega) (by omega)
  refine zGo.locals (ls' := [(0, .ref 336), (1, .int a), (2, .int (1 : Int32)), (3, .int b), (4, .int c), (5, .int (zI M 336 6))]) (by simp) ?_
  have w110 : (zI (zsI M 336 8 (0 : Int32)) 336 7).toInt = (zI M 336 7).toInt := (congrArg Int32.toInt ((zIoj (by decide)).trans rfl)).trans rfl
  have w111 : (zI (zsI M 336 8 (0 : Int32)) 336 8).toInt = 0 := (congrArg Int32.toInt zIs).trans li0
  have w112 : (zI (zsI M 336 8 (0 : Int32)) 336 6).toInt = (zI M 336 6).toInt := (congrArg Int32.toInt ((zIoj (by decide)).trans rfl)).trans rfl
  have w113 : (zI (zsI M 336 8 (0 : Int32)) 336 6).toInt = (zI M 336 6).toInt := (congrArg Int32.toInt ((zIoj (by decide)).trans rfl)).trans rfl
  have w114 : (zI (zsI M 336 8 (0 : Int32)) 336 8).toInt = 0 := (congrArg Int32.toInt zIs).trans li0
  have w115 : (zI (zsI M 336 8 (0 : Int32)) 336 6).toInt = (zI M 336 6).toInt := (congrArg Int32.toInt ((zIoj (by decide)).trans rfl)).trans rfl
  exact w9L ((500 - (zI (zsI M 336 8 (0 : Int32)) 336 6).toInt : Int).toNat) (zsI M 336 8 (0 : Int32)) hs w8 zFr.refl rfl (by omega) (by omega) (by omega) (fun k q h1 h2 => by obtain rfl : w7n = q := (by omega); obtain rfl : k = 4 := (by omega); rfl) (fun d hd => by obtain rfl : d = 0 := (by omega); show _ = (0 : Int); omega) (by omega)
theorem R244m {X : zX} {l : Launch} {M : zM} {Q : Option Value → zM → Prop} {a b c : Int32} (hs : zSk zMm M) (hI : zIv mLo mHi M) {gg : Nat → Int} {nn : Int} (ha : 0 ≤ a.toInt ∧ a.toInt ≤ 500) (u0 : (zI M 336 6).toInt ≤ (zI M 336 5).toInt) (u1 : 0 ≤ (zI M 336 6).toInt) (u2 : (zI M 336 7).toInt = -1) (x0 : zTm M gg nn) (hQ : ∀ (M' : zM) (v : Int32), zSk zMm M' → zIv mLo mHi M' → zFr [(336, 336, some 6), (336, 336, some 7), (336, 336, some 8)] M M' → zJ M' 351 = zJ M 351 → (∀ p : Nat, (zI M 336 6).toInt = (p : Int) → ∃ (e k : Nat) (x : Int), pDg gg 4 p = e ∧ e = p + k ∧ pVal gg p k = x ∧ (e : Int) ≤ nn ∧ 0 ≤ x ∧ x ≤ 9999 ∧ ((v.toInt = 1 ∧ e ≠ p ∧ ¬ (48 ≤ gg e ∧ gg e ≤ 57) ∧ (zI M' 336 6).toInt = (e : Int) ∧ (zI M' 336 8).toInt = -x ∧ b.toInt ≤ -x ∧ -x ≤ c.toInt ∧ (zI M' 336 7).toInt = -1) ∨ (v.toInt = 0 ∧ (zI M' 336 7).toInt ≠ -1 ∧ (e = p ∨ (48 ≤ gg e ∧ gg e ≤ 57) ∨ -x < b.toInt ∨ c.toInt < -x)))) → 0 ≤ v.toInt → v.toInt ≤ 1 → Q (some (.int v)) M') : zCall X l 1 0 0 244 [.ref 336, .int a, .int (-1 : Int32), .int b, .int c] M Q := by
  have ga := zrg a
  have gb := zrg b
  have gc := zrg c
  refine zs_in (by decide) mf244 (Nat.le_of_ble_eq_true rfl) ?_
  show zGo X l 1 0 0 244 0 [(0, .ref 336), (1, .int a), (2, .int (-1 : Int32)), (3, .int b), (4, .int c)] [] M _
  have hn := x0.2
  have w1 := ib336_5 hI
  have w2 : (zI M 336 5).toInt = (zI M 336 5).toInt := (congrArg Int32.toInt rfl).trans rfl
  have w3 := ib336_6 hI
  have w4 : (zI M 336 6).toInt = (zI M 336 6).toInt := (congrArg Int32.toInt rfl).trans rfl
  have w5 := ib336_7 hI
  have w6 : (zI M 336 7).toInt = (zI M 336 7).toInt := (congrArg Int32.toInt rfl).trans rfl
  obtain ⟨w7n, w7⟩ : ∃ n : Nat, (zI M 336 6).toInt = (n : Int) := ⟨((zI M 336 6).toInt).toNat, by omega⟩
  refine zs_aload_n (pc := 0) t244_0 rfl ?_
  refine zs_get (pc := 1) t244_1 (by decide) (zk1 (hs.k fk_zMm_336)) (zfvi rfl rfl) ?_
  refine zs_istore (pc := 4) t244_4 (ls' := [(5, .int (zI M 336 6)), (0, .ref 336), (1, .int a), (2, .int (-1 : Int32)), (3, .int b), (4, .int c)]) (zml mf244 (by decide)) rfl ?_
  refine zs_aload_n (pc := 6) t244_6 rfl ?_
  refine zs_iconst (pc := 7) t244_7 (v := 0) (by decide) ?_
  have w8 : zIv mLo mHi (zsI M 336 8 (0 : Int32)) := zIv.put hI (show (-2147483648) ≤ (0 : Int32).toInt ∧ (0 : Int32).toInt ≤ 2147483647 from zrg (0 : Int32))
  refine zs_putI (pc := 8) t244_8 (zk1 (hs.k fk_zMm_336)) rfl ?_
  have w9L : ∀ (m : Nat) (w9M : zM), zSk zMm w9M → zIv mLo mHi w9M → zFr [(336, 336, some 6), (336, 336, some 7), (336, 336, some 8)] (zsI M 336 8 (0 : Int32)) w9M → zJ w9M 351 = zJ (zsI M 336 8 (0 : Int32)) 351 → ((zI w9M 336 7).toInt = (zI (zsI M 336 8 (0 : Int32)) 336 7).toInt) → (((zI w9M 336 6).toInt = (zI M 336 6).toInt ∧ (zI w9M 336 8).toInt = 0) ∨ ((zI w9M 336 6).toInt = (zI M 336 6).toInt + 1 ∧ 0 ≤ (zI w9M 336 8).toInt ∧ (zI w9M 336 8).toInt ≤ 9) ∨ ((zI w9M 336 6).toInt = (zI M 336 6).toInt + 2 ∧ 0 ≤ (zI w9M 336 8).toInt ∧ (zI w9M 336 8).toInt ≤ 99) ∨ ((zI w9M 336 6).toInt = (zI M 336 6).toInt + 3 ∧ 0 ≤ (zI w9M 336 8).toInt ∧ (zI w9M 336 8).toInt ≤ 999) ∨ ((zI w9M 336 6).toInt = (zI M 336 6).toInt + 4 ∧ 0 ≤ (zI w9M 336 8).toInt ∧ (zI w9M 336 8).toInt ≤ 9999)) → ((zI w9M 336 6).toInt ≤ nn) → (∀ k q : Nat, (zI w9M 336 6).toInt = (q : Int) → (k : Int) = (zI M 336 6).toInt + 4 - (q : Int) → pDg gg 4 w7n = pDg gg k q) → (∀ d : Nat, (d : Int) = (zI w9M 336 6).toInt - (zI M 336 6).toInt → (zI w9M 336 8).toInt = pVal gg w7n d) → 500 - (zI w9M 336 6).toInt ≤ (m : Int) → zGo X l 1 0 0 244 11 [(0, .ref 336), (1, .int a), (2, .int (-1 : Int32)), (3, .int b), (4, .int c), (5, .int (zI M 336 6))] [] w9M Q := by
    intro m
    induction m using Nat.strongRecOn with
    | ind w9m w9ih =>
      intro w9M w9s w9I w9F w9J w9r0 w9r1 w9r2 w9t0 w9t1 w9q
      have w10 := ib336_7 w9I
      have w11 : (zI (zsI M 336 8 (0 : Int32)) 336 7).toInt = (zI M 336 7).toInt := (congrArg Int32.toInt ((zIoj (by decide)).trans rfl)).trans rfl
      have w12 := zrg (zI w9M 336 8)
      have w13 := ib336_6 w9I
      refine zs_aload_n (pc := 11) t244_11 rfl ?_
      refine zs_invV (pc := 12) (k := 336) (as' := []) (st := []) t244_12 mf238 rfl rfl (Or.inl ⟨by decide, (zk1 (w9s.k fk_zMm_336))⟩) ⟨by decide, by decide, Nat.le_of_ble_eq_true rfl, Nat.le_of_ble_eq_true rfl⟩ (H238 w9s w9I ?_) (fun _ _ q => q)
      have w14 := zhere.rg (M := w9M)
      have w15 : (zI w9M 336 6).toInt = (zI w9M 336 6).toInt := (congrArg Int32.toInt rfl).trans rfl
      have w16 : (zI w9M 336 5).toInt = (zI M 336 5).toInt := (congrArg Int32.toInt ((w9F 336 5 rfl).trans ((zIoj (by decide)).trans rfl))).trans rfl
      have w17 : (zI w9M 336 6).toInt = (zI w9M 336 6).toInt := (congrArg Int32.toInt rfl).trans rfl
      obtain ⟨w18n, w18⟩ : ∃ n : Nat, (zI w9M 336 6).toInt = (n : Int) := ⟨((zI w9M 336 6).toInt).toNat, by omega⟩
      have w19 : (zI w9M 336 5).toInt = (zI M 336 5).toInt := (congrArg Int32.toInt ((w9F 336 5 rfl).trans ((zIoj (by decide)).trans rfl))).trans rfl
      have w20 : (zhere w9M).toInt = gg w18n := zhere.tr (zTm.mk x0 (fun j => ((w9F 339 j rfl).trans (zIo (by decide)))) ((w9F 336 5 rfl).trans (zIoj (by decide)))) (by omega)
      have w21 := zTm.rg x0 w18n
      show zGo X l 1 0 0 244 15 [(0, .ref 336), (1, .int a), (2, .int (-1 : Int32)), (3, .int b), (4, .int c), (5, .int (zI M 336 6))] [.int (zhere w9M)] w9M _
      refine zs_invS (pc := 15) (as := [.int (zhere w9M)]) (st := []) t244_15 (by decide) mf245 rfl rfl ⟨by decide, by decide, Nat.le_of_ble_eq_true rfl, Nat.le_of_ble_eq_true rfl⟩ (K245 w9s w9I ?_) (fun _ _ q => q)
      intro w22v w22t0 w22a w22b
      show zGo X l 1 0 0 244 18 [(0, .ref 336), (1, .int a), (2, .int (-1 : Int32)), (3, .int b), (4, .int c), (5, .int (zI M 336 6))] [.int w22v] w9M _
      by_cases w23 : w22v.toInt = 0
      · refine zs_if_eqT (pc := 18) t244_18 rfl (by omega) ?_
        refine zs_aload_n (pc := 64) t244_64 rfl ?_
        refine zs_get (pc := 65) t244_65 (by decide) (zk1 (w9s.k fk_zMm_336)) (zfvi rfl rfl) ?_
        refine zs_iload (pc := 68) t244_68 rfl ?_
        by_cases w24 : (zI w9M 336 6).toInt = (zI M 336 6).toInt
        · refine zs_icmp_eqT (pc := 70) t244_70 rfl rfl (by omega) ?_
          refine zs_aload_n (pc := 83) t244_83 rfl ?_
          refine zs_aload_n (pc := 84) t244_84 rfl ?_
          refine zs_get (pc := 85) t244_85 (by decide) (zk1 (w9s.k fk_zMm_336)) (zfvi rfl rfl) ?_
          refine zs_invV (pc := 88) (k := 336) (as' := [.int (zI w9M 336 6)]) (st := []) t244_88 mf239 rfl rfl (Or.inl ⟨by decide, (zk1 (w9s.k fk_zMm_336))⟩) ⟨by decide, by decide, Nat.le_of_ble_eq_true rfl, Nat.le_of_ble_eq_true rfl⟩ (zs_in (by decide) mf239 (Nat.le_of_ble_eq_true rfl) ?_) (fun _ _ q => q)
          show zGo X l 0 0 0 239 0 [(0, .ref 336), (1, .int (zI w9M 336 6))] [] w9M _
          refine zs_aload_n (pc := 0) t239_0 rfl ?_
          refine zs_iload_n (pc := 1) t239_1 rfl ?_
          have w25 : zIv mLo mHi (zsI w9M 336 7 (zI w9M 336 6)) := zIv.put w9I (show (-1) ≤ (zI w9M 336 6).toInt ∧ (zI w9M 336 6).toInt ≤ 500 from ⟨by omega, by omega⟩)
          refine zs_putI (pc := 2) t239_2 (zk1 (w9s.k fk_zMm_336)) rfl ?_
          refine zs_iconst (pc := 5) t239_5 (v := 0) (by decide) ?_
          refine zs_iret (pc := 6) t239_6 mr239 (by decide) ?_
          show zGo X l 1 0 0 244 91 [(0, .ref 336), (1, .int a), (2, .int (-1 : Int32)), (3, .int b), (4, .int c), (5, .int (zI M 336 6))] [.int (0 : Int32)] (zsI w9M 336 7 (zI w9M 336 6)) _
          have w26 : (zI (zsI w9M 336 7 (zI w9M 336 6)) 336 6).toInt = (zI w9M 336 6).toInt := (congrArg Int32.toInt ((zIoj (by decide)).trans rfl)).trans rfl
          have w27 : (zI (zsI w9M 336 7 (zI w9M 336 6)) 336 7).toInt = (zI w9M 336 6).toInt := (congrArg Int32.toInt zIs).trans rfl
          have w28 : (zI (zsI w9M 336 7 (zI w9M 336 6)) 336 8).toInt = (zI w9M 336 8).toInt := (congrArg Int32.toInt ((zIoj (by decide)).trans rfl)).trans rfl
          have w29 : pDg gg 4 w7n = w18n := by first | exact w9t0 0 w18n (by omega) (by omega) | exact (w9t0 (w7n + 4 - w18n) w18n (by omega) (by omega)).trans (pDg.z (by omega))
          exact zs_iret (pc := 91) t244_91 mr244 (by decide) (hQ _ _ w9s w25 ((((zFr.refl).put rfl).trans (w9F.mono rfl)).put rfl) w9J (fun p hp => by obtain rfl : w7n = p := (by omega); exact ⟨w18n, w18n - w7n, (zI w9M 336 8).toInt, w29, by omega, (w9t1 (w18n - w7n) (by omega)).symm, by omega, by omega, by omega, by omega⟩) (by decide) (by decide))
        · refine zs_icmp_eqF (pc := 70) t244_70 rfl rfl (by omega) ?_
          refine zs_aload_n (pc := 73) t244_73 rfl ?_
          refine zs_invV (pc := 74) (k := 336) (as' := []) (st := []) t244_74 mf238 rfl rfl (Or.inl ⟨by decide, (zk1 (w9s.k fk_zMm_336))⟩) ⟨by decide, by decide, Nat.le_of_ble_eq_true rfl, Nat.le_of_ble_eq_true rfl⟩ (H238 w9s w9I ?_) (fun _ _ q => q)
          have w30 := zhere.rg (M := w9M)
          have w31 : (zI w9M 336 6).toInt = (zI w9M 336 6).toInt := (congrArg Int32.toInt rfl).trans rfl
          have w32 : (zI w9M 336 5).toInt = (zI M 336 5).toInt := (congrArg Int32.toInt ((w9F 336 5 rfl).trans ((zIoj (by decide)).trans rfl))).trans rfl
          have w33 : (zI w9M 336 6).toInt = (zI w9M 336 6).toInt := (congrArg Int32.toInt rfl).trans rfl
          have w34 : (zI w9M 336 5).toInt = (zI M 336 5).toInt := (congrArg Int32.toInt ((w9F 336 5 rfl).trans ((zIoj (by decide)).trans rfl))).trans rfl
          have w35 : (zhere w9M).toInt = gg w18n := zhere.tr (zTm.mk x0 (fun j => ((w9F 339 j rfl).trans (zIo (by decide)))) ((w9F 336 5 rfl).trans (zIoj (by decide)))) (by omega)
          have w36 := zTm.rg x0 w18n
          show zGo X l 1 0 0 244 77 [(0, .ref 336), (1, .int a), (2, .int (-1 : Int32)), (3, .int b), (4, .int c), (5, .int (zI M 336 6))] [.int (zhere w9M)] w9M _
          refine zs_invS (pc := 77) (as := [.int (zhere w9M)]) (st := []) t244_77 (by decide) mf245 rfl rfl ⟨by decide, by decide, Nat.le_of_ble_eq_true rfl, Nat.le_of_ble_eq_true rfl⟩ (K245 w9s w9I ?_) (fun _ _ q => q)
          intro w37v w37t0 w37a w37b
          show zGo X l 1 0 0 244 80 [(0, .ref 336), (1, .int a), (2, .int (-1 : Int32)), (3, .int b), (4, .int c), (5, .int (zI M 336 6))] [.int w37v] w9M _
          by_cases w38 : w37v.toInt = 0
          · refine zs_if_eqT (pc := 80) t244_80 rfl (by omega) ?_
            refine zs_aload_n (pc := 92) t244_92 rfl ?_
            refine zs_dup (pc := 93) t244_93 rfl ?_
            refine zs_get (pc := 94) t244_94 (by decide) (zk1 (w9s.k fk_zMm_336)) (zfvi rfl rfl) ?_
            refine zs_iload_n (pc := 97) t244_97 rfl ?_
            obtain ⟨w39v, w39⟩ : ∃ v, (zI w9M 336 8) * (-1 : Int32) = v := ⟨_, rfl⟩
            have w39g : w39v.toInt = (zI w9M 336 8).toInt * (-1) := by rw [← w39]; exact zmulc rfl lin1 (by omega) (by omega)
            refine zs_imul (pc := 98) t244_98 (c := w39v) w39 ?_
            have w40 : zIv mLo mHi (zsI w9M 336 8 w39v) := zIv.put w9I (show (-2147483648) ≤ w39v.toInt ∧ w39v.toInt ≤ 2147483647 from zrg w39v)
            refine zs_putI (pc := 99) t244_99 (zk1 (w9s.k fk_zMm_336)) rfl ?_
            refine zs_aload_n (pc := 102) t244_102 rfl ?_
            refine zs_get (pc := 103) t244_103 (by decide) (zk1 (w9s.k fk_zMm_336)) (zfvi rfl zIs) ?_
            refine zs_i2l (pc := 106) t244_106 rfl ?_
            refine zs_iload_n (pc := 107) t244_107 rfl ?_
            refine zs_i2l (pc := 108) t244_108 rfl ?_
            refine zs_iload (pc := 109) t244_109 rfl ?_
            refine zs_i2l (pc := 111) t244_111 rfl ?_
            by_cases w41 : b.toInt ≤ ((zI w9M 336 8).toInt * (-1)) ∧ ((zI w9M 336 8).toInt * (-1)) ≤ c.toInt
            · refine zs_invS (pc := 112) (as := [.long w39v.toInt64, .long b.toInt64, .long c.toInt64]) (st := []) t244_112 (by decide) mf228 rfl rfl ⟨by decide, by decide, Nat.le_of_ble_eq_true rfl, Nat.le_of_ble_eq_true rfl⟩ (K228T (zi2l w39g) (zi2l rfl) (zi2l rfl) (by omega) ?_) (fun _ _ q => q)
              show zGo X l 1 0 0 244 115 [(0, .ref 336), (1, .int a), (2, .int (-1 : Int32)), (3, .int b), (4, .int c), (5, .int (zI M 336 6))] [.int (1 : Int32)] (zsI w9M 336 8 w39v) _
              refine zs_if_neT (pc := 115) t244_115 li1 (by decide) ?_
              refine zs_iconst (pc := 126) t244_126 (v := 1) (by decide) ?_
              refine zs_goto (pc := 127) t244_127 ?_
              have w42 : (zI (zsI w9M 336 8 w39v) 336 6).toInt = (zI w9M 336 6).toInt := (congrArg Int32.toInt ((zIoj (by decide)).trans rfl)).trans rfl
              have w43 : (zI (zsI w9M 336 8 w39v) 336 7).toInt = (zI w9M 336 7).toInt := (congrArg Int32.toInt ((zIoj (by decide)).trans rfl)).trans rfl
              have w44 : (zI (zsI w9M 336 8 w39v) 336 8).toInt = ((zI w9M 336 8).toInt * (-1)) := (congrArg Int32.toInt zIs).trans w39g
              have w45 : pDg gg 4 w7n = w18n := by first | exact w9t0 0 w18n (by omega) (by omega) | exact (w9t0 (w7n + 4 - w18n) w18n (by omega) (by omega)).trans (pDg.z (by omega))
              exact zs_iret (pc := 131) t244_131 mr244 (by decide) (hQ _ _ w9s w40 ((((zFr.refl).put rfl).trans (w9F.mono rfl)).put rfl) w9J (fun p hp => by obtain rfl : w7n = p := (by omega); exact ⟨w18n, w18n - w7n, (zI w9M 336 8).toInt, w45, by omega, (w9t1 (w18n - w7n) (by omega)).symm, by omega, by omega, by omega, by omega⟩) (by decide) (by decide))
            · refine zs_invS (pc := 112) (as := [.long w39v.toInt64, .long b.toInt64, .long c.toInt64]) (st := []) t244_112 (by decide) mf228 rfl rfl ⟨by decide, by decide, Nat.le_of_ble_eq_true rfl, Nat.le_of_ble_eq_true rfl⟩ (K228F (zi2l w39g) (zi2l rfl) (zi2l rfl) (by omega) ?_) (fun _ _ q => q)
              show zGo X l 1 0 0 244 115 [(0, .ref 336), (1, .int a), (2, .int (-1 : Int32)), (3, .int b), (4, .int c), (5, .int (zI M 336 6))] [.int (0 : Int32)] (zsI w9M 336 8 w39v) _
              refine zs_if_neF (pc := 115) t244_115 li0 (by decide) ?_
              refine zs_aload_n (pc := 118) t244_118 rfl ?_
              refine zs_iload_n (pc := 119) t244_119 rfl ?_
              refine zs_invV (pc := 120) (k := 336) (as' := [.int a]) (st := []) t244_120 mf239 rfl rfl (Or.inl ⟨by decide, (zk1 (w9s.k fk_zMm_336))⟩) ⟨by decide, by decide, Nat.le_of_ble_eq_true rfl, Nat.le_of_ble_eq_true rfl⟩ (zs_in (by decide) mf239 (Nat.le_of_ble_eq_true rfl) ?_) (fun _ _ q => q)
              show zGo X l 0 0 0 239 0 [(0, .ref 336), (1, .int a)] [] (zsI w9M 336 8 w39v) _
              refine zs_aload_n (pc := 0) t239_0 rfl ?_
              refine zs_iload_n (pc := 1) t239_1 rfl ?_
              have w46 : zIv mLo mHi (zsI (zsI w9M 336 8 w39v) 336 7 a) := zIv.put w40 (show (-1) ≤ a.toInt ∧ a.toInt ≤ 500 from ⟨by omega, by omega⟩)
              refine zs_putI (pc := 2) t239_2 (zk1 (w9s.k fk_zMm_336)) rfl ?_
              refine zs_iconst (pc := 5) t239_5 (v := 0) (by decide) ?_
              refine zs_iret (pc := 6) t239_6 mr239 (by decide) ?_
              show zGo X l 1 0 0 244 123 [(0, .ref 336), (1, .int a), (2, .int (-1 : Int32)), (3, .int b), (4, .int c), (5, .int (zI M 336 6))] [.int (0 : Int32)] (zsI (zsI w9M 336 8 w39v) 336 7 a) _
              refine zs_if_eqT (pc := 123) t244_123 li0 (by decide) ?_
              refine zs_iconst (pc := 130) t244_130 (v := 0) (by decide) ?_
              have w47 : (zI (zsI (zsI w9M 336 8 w39v) 336 7 a) 336 6).toInt = (zI w9M 336 6).toInt := (congrArg Int32.toInt ((zIoj (by decide)).trans ((zIoj (by decide)).trans rfl))).trans rfl
              have w48 : (zI (zsI (zsI w9M 336 8 w39v) 336 7 a) 336 7).toInt = a.toInt := (congrArg Int32.toInt zIs).trans rfl
              have w49 : (zI (zsI (zsI w9M 336 8 w39v) 336 7 a) 336 8).toInt = ((zI w9M 336 8).toInt * (-1)) := (congrArg Int32.toInt ((zIoj (by decide)).trans zIs)).trans w39g
              have w50 : pDg gg 4 w7n = w18n := by first | exact w9t0 0 w18n (by omega) (by omega) | exact (w9t0 (w7n + 4 - w18n) w18n (by omega) (by omega)).trans (pDg.z (by omega))
              exact zs_iret (pc := 131) t244_131 mr244 (by decide) (hQ _ _ w9s w46 (((((zFr.refl).put rfl).trans (w9F.mono rfl)).put rfl).put rfl) w9J (fun p hp => by obtain rfl : w7n = p := (by omega); exact ⟨w18n, w18n - w7n, (zI w9M 336 8).toInt, w50, by omega, (w9t1 (w18n - w7n) (by omega)).symm, by omega, by omega, by omega, by omega⟩) (by decide) (by decide))
          · refine zs_if_eqF (pc := 80) t244_80 rfl (by omega) ?_
            refine zs_aload_n (pc := 83) t244_83 rfl ?_
            refine zs_aload_n (pc := 84) t244_84 rfl ?_
            refine zs_get (pc := 85) t244_85 (by decide) (zk1 (w9s.k fk_zMm_336)) (zfvi rfl rfl) ?_
            refine zs_invV (pc := 88) (k := 336) (as' := [.int (zI w9M 336 6)]) (st := []) t244_88 mf239 rfl rfl (Or.inl ⟨by decide, (zk1 (w9s.k fk_zMm_336))⟩) ⟨by decide, by decide, Nat.le_of_ble_eq_true rfl, Nat.le_of_ble_eq_true rfl⟩ (zs_in (by decide) mf239 (Nat.le_of_ble_eq_true rfl) ?_) (fun _ _ q => q)
            show zGo X l 0 0 0 239 0 [(0, .ref 336), (1, .int (zI w9M 336 6))] [] w9M _
            refine zs_aload_n (pc := 0) t239_0 rfl ?_
            refine zs_iload_n (pc := 1) t239_1 rfl ?_
            have w51 : zIv mLo mHi (zsI w9M 336 7 (zI w9M 336 6)) := zIv.put w9I (show (-1) ≤ (zI w9M 336 6).toInt ∧ (zI w9M 336 6).toInt ≤ 500 from ⟨by omega, by omega⟩)
            refine zs_putI (pc := 2) t239_2 (zk1 (w9s.k fk_zMm_336)) rfl ?_
            refine zs_iconst (pc := 5) t239_5 (v := 0) (by decide) ?_
            refine zs_iret (pc := 6) t239_6 mr239 (by decide) ?_
            show zGo X l 1 0 0 244 91 [(0, .ref 336), (1, .int a), (2, .int (-1 : Int32)), (3, .int b), (4, .int c), (5, .int (zI M 336 6))] [.int (0 : Int32)] (zsI w9M 336 7 (zI w9M 336 6)) _
            have w52 : (zI (zsI w9M 336 7 (zI w9M 336 6)) 336 6).toInt = (zI w9M 336 6).toInt := (congrArg Int32.toInt ((zIoj (by decide)).trans rfl)).trans rfl
            have w53 : (zI (zsI w9M 336 7 (zI w9M 336 6)) 336 7).toInt = (zI w9M 336 6).toInt := (congrArg Int32.toInt zIs).trans rfl
            have w54 : (zI (zsI w9M 336 7 (zI w9M 336 6)) 336 8).toInt = (zI w9M 336 8).toInt := (congrArg Int32.toInt ((zIoj (by decide)).trans rfl)).trans rfl
            have w55 : pDg gg 4 w7n = w18n := by first | exact w9t0 0 w18n (by omega) (by omega) | exact (w9t0 (w7n + 4 - w18n) w18n (by omega) (by omega)).trans (pDg.z (by omega))
            exact zs_iret (pc := 91) t244_91 mr244 (by decide) (hQ _ _ w9s w51 ((((zFr.refl).put rfl).trans (w9F.mono rfl)).put rfl) w9J (fun p hp => by obtain rfl : w7n = p := (by omega); exact ⟨w18n, w18n - w7n, (zI w9M 336 8).toInt, w55, by omega, (w9t1 (w18n - w7n) (by omega)).symm, by omega, by omega, by omega, by omega⟩) (by decide) (by decide))
      · refine zs_if_eqF (pc := 18) t244_18 rfl (by omega) ?_
        refine zs_aload_n (pc := 21) t244_21 rfl ?_
        refine zs_get (pc := 22) t244_22 (by decide) (zk1 (w9s.k fk_zMm_336)) (zfvi rfl rfl) ?_
        refine zs_iload (pc := 25) t244_25 rfl ?_
        obtain ⟨w56v, w56e, w56⟩ := zisub (a := (zI w9M 336 6)) (b := (zI M 336 6)) rfl rfl (by omega) (by omega)
        refine zs_isub (pc := 27) t244_27 (c := w56v) w56e ?_
        refine zs_iconst (pc := 28) t244_28 (v := 4) (by decide) ?_
        by_cases w57 : 4 ≤ ((zI w9M 336 6).toInt - (zI M 336 6).toInt)
        · refine zs_icmp_geT (pc := 29) t244_29 w56 li4 (by omega) ?_
          refine zs_aload_n (pc := 64) t244_64 rfl ?_
          refine zs_get (pc := 65) t244_65 (by decide) (zk1 (w9s.k fk_zMm_336)) (zfvi rfl rfl) ?_
          refine zs_iload (pc := 68) t244_68 rfl ?_
          by_cases w58 : (zI w9M 336 6).toInt = (zI M 336 6).toInt
          · refine zs_icmp_eqT (pc := 70) t244_70 rfl rfl (by omega) ?_
            refine zs_aload_n (pc := 83) t244_83 rfl ?_
            refine zs_aload_n (pc := 84) t244_84 rfl ?_
            refine zs_get (pc := 85) t244_85 (by decide) (zk1 (w9s.k fk_zMm_336)) (zfvi rfl rfl) ?_
            refine zs_invV (pc := 88) (k := 336) (as' := [.int (zI w9M 336 6)]) (st := []) t244_88 mf239 rfl rfl (Or.inl ⟨by decide, (zk1 (w9s.k fk_zMm_336))⟩) ⟨by decide, by decide, Nat.le_of_ble_eq_true rfl, Nat.le_of_ble_eq_true rfl⟩ (zs_in (by decide) mf239 (Nat.le_of_ble_eq_true rfl) ?_) (fun _ _ q => q)
            show zGo X l 0 0 0 239 0 [(0, .ref 336), (1, .int (zI w9M 336 6))] [] w9M _
            refine zs_aload_n (pc := 0) t239_0 rfl ?_
            refine zs_iload_n (pc := 1) t239_1 rfl ?_
            have w59 : zIv mLo mHi (zsI w9M 336 7 (zI w9M 336 6)) := zIv.put w9I (show (-1) ≤ (zI w9M 336 6).toInt ∧ (zI w9M 336 6).toInt ≤ 500 from ⟨by omega, by omega⟩)
            refine zs_putI (pc := 2) t239_2 (zk1 (w9s.k fk_zMm_336)) rfl ?_
            refine zs_iconst (pc := 5) t239_5 (v := 0) (by decide) ?_
            refine zs_iret (pc := 6) t239_6 mr239 (by decide) ?_
            show zGo X l 1 0 0 244 91 [(0, .ref 336), (1, .int a), (2, .int (-1 : Int32)), (3, .int b), (4, .int c), (5, .int (zI M 336 6))] [.int (0 : Int32)] (zsI w9M 336 7 (zI w9M 336 6)) _
            have w60 : (zI (zsI w9M 336 7 (zI w9M 336 6)) 336 6).toInt = (zI w9M 336 6).toInt := (congrArg Int32.toInt ((zIoj (by decide)).trans rfl)).trans rfl
            have w61 : (zI (zsI w9M 336 7 (zI w9M 336 6)) 336 7).toInt = (zI w9M 336 6).toInt := (congrArg Int32.toInt zIs).trans rfl
            have w62 : (zI (zsI w9M 336 7 (zI w9M 336 6)) 336 8).toInt = (zI w9M 336 8).toInt := (congrArg Int32.toInt ((zIoj (by decide)).trans rfl)).trans rfl
            have w63 : pDg gg 4 w7n = w18n := by first | exact w9t0 0 w18n (by omega) (by omega) | exact (w9t0 (w7n + 4 - w18n) w18n (by omega) (by omega)).trans (pDg.z (by omega))
            exact zs_iret (pc := 91) t244_91 mr244 (by decide) (hQ _ _ w9s w59 ((((zFr.refl).put rfl).trans (w9F.mono rfl)).put rfl) w9J (fun p hp => by obtain rfl : w7n = p := (by omega); exact ⟨w18n, w18n - w7n, (zI w9M 336 8).toInt, w63, by omega, (w9t1 (w18n - w7n) (by omega)).symm, by omega, by omega, by omega, by omega⟩) (by decide) (by decide))
          · refine zs_icmp_eqF (pc := 70) t244_70 rfl rfl (by omega) ?_
            refine zs_aload_n (pc := 73) t244_73 rfl ?_
            refine zs_invV (pc := 74) (k := 336) (as' := []) (st := []) t244_74 mf238 rfl rfl (Or.inl ⟨by decide, (zk1 (w9s.k fk_zMm_336))⟩) ⟨by decide, by decide, Nat.le_of_ble_eq_true rfl, Nat.le_of_ble_eq_true rfl⟩ (H238 w9s w9I ?_) (fun _ _ q => q)
            have w64 := zhere.rg (M := w9M)
            have w65 : (zI w9M 336 6).toInt = (zI w9M 336 6).toInt := (congrArg Int32.toInt rfl).trans rfl
            have w66 : (zI w9M 336 5).toInt = (zI M 336 5).toInt := (congrArg Int32.toInt ((w9F 336 5 rfl).trans ((zIoj (by decide)).trans rfl))).trans rfl
            have w67 : (zI w9M 336 6).toInt = (zI w9M 336 6).toInt := (congrArg Int32.toInt rfl).trans rfl
            have w68 : (zI w9M 336 5).toInt = (zI M 336 5).toInt := (congrArg Int32.toInt ((w9F 336 5 rfl).trans ((zIoj (by decide)).trans rfl))).trans rfl
            have w69 : (zhere w9M).toInt = gg w18n := zhere.tr (zTm.mk x0 (fun j => ((w9F 339 j rfl).trans (zIo (by decide)))) ((w9F 336 5 rfl).trans (zIoj (by decide)))) (by omega)
            have w70 := zTm.rg x0 w18n
            show zGo X l 1 0 0 244 77 [(0, .ref 336), (1, .int a), (2, .int (-1 : Int32)), (3, .int b), (4, .int c), (5, .int (zI M 336 6))] [.int (zhere w9M)] w9M _
            refine zs_invS (pc := 77) (as := [.int (zhere w9M)]) (st := []) t244_77 (by decide) mf245 rfl rfl ⟨by decide, by decide, Nat.le_of_ble_eq_true rfl, Nat.le_of_ble_eq_true rfl⟩ (K245 w9s w9I ?_) (fun _ _ q => q)
            intro w71v w71t0 w71a w71b
            show zGo X l 1 0 0 244 80 [(0, .ref 336), (1, .int a), (2, .int (-1 : Int32)), (3, .int b), (4, .int c), (5, .int (zI M 336 6))] [.int w71v] w9M _
            by_cases w72 : w71v.toInt = 0
            · refine zs_if_eqT (pc := 80) t244_80 rfl (by omega) ?_
              refine zs_aload_n (pc := 92) t244_92 rfl ?_
              refine zs_dup (pc := 93) t244_93 rfl ?_
              refine zs_get (pc := 94) t244_94 (by decide) (zk1 (w9s.k fk_zMm_336)) (zfvi rfl rfl) ?_
              refine zs_iload_n (pc := 97) t244_97 rfl ?_
              obtain ⟨w73v, w73⟩ : ∃ v, (zI w9M 336 8) * (-1 : Int32) = v := ⟨_, rfl⟩
              have w73g : w73v.toInt = (zI w9M 336 8).toInt * (-1) := by rw [← w73]; exact zmulc rfl lin1 (by omega) (by omega)
              refine zs_imul (pc := 98) t244_98 (c := w73v) w73 ?_
              have w74 : zIv mLo mHi (zsI w9M 336 8 w73v) := zIv.put w9I (show (-2147483648) ≤ w73v.toInt ∧ w73v.toInt ≤ 2147483647 from zrg w73v)
              refine zs_putI (pc := 99) t244_99 (zk1 (w9s.k fk_zMm_336)) rfl ?_
              refine zs_aload_n (pc := 102) t244_102 rfl ?_
              refine zs_get (pc := 103) t244_103 (by decide) (zk1 (w9s.k fk_zMm_336)) (zfvi rfl zIs) ?_
              refine zs_i2l (pc := 106) t244_106 rfl ?_
              refine zs_iload_n (pc := 107) t244_107 rfl ?_
              refine zs_i2l (pc := 108) t244_108 rfl ?_
              refine zs_iload (pc := 109) t244_109 rfl ?_
              refine zs_i2l (pc := 111) t244_111 rfl ?_
              by_cases w75 : b.toInt ≤ ((zI w9M 336 8).toInt * (-1)) ∧ ((zI w9M 336 8).toInt * (-1)) ≤ c.toInt
              · refine zs_invS (pc := 112) (as := [.long w73v.toInt64, .long b.toInt64, .long c.toInt64]) (st := []) t244_112 (by decide) mf228 rfl rfl ⟨by decide, by decide, Nat.le_of_ble_eq_true rfl, Nat.le_of_ble_eq_true rfl⟩ (K228T (zi2l w73g) (zi2l rfl) (zi2l rfl) (by omega) ?_) (fun _ _ q => q)
                show zGo X l 1 0 0 244 115 [(0, .ref 336), (1, .int a), (2, .int (-1 : Int32)), (3, .int b), (4, .int c), (5, .int (zI M 336 6))] [.int (1 : Int32)] (zsI w9M 336 8 w73v) _
                refine zs_if_neT (pc := 115) t244_115 li1 (by decide) ?_
                refine zs_iconst (pc := 126) t244_126 (v := 1) (by decide) ?_
                refine zs_goto (pc := 127) t244_127 ?_
                have w76 : (zI (zsI w9M 336 8 w73v) 336 6).toInt = (zI w9M 336 6).toInt := (congrArg Int32.toInt ((zIoj (by decide)).trans rfl)).trans rfl
                have w77 : (zI (zsI w9M 336 8 w73v) 336 7).toInt = (zI w9M 336 7).toInt := (congrArg Int32.toInt ((zIoj (by decide)).trans rfl)).trans rfl
                have w78 : (zI (zsI w9M 336 8 w73v) 336 8).toInt = ((zI w9M 336 8).toInt * (-1)) := (congrArg Int32.toInt zIs).trans w73g
                have w79 : pDg gg 4 w7n = w18n := by first | exact w9t0 0 w18n (by omega) (by omega) | exact (w9t0 (w7n + 4 - w18n) w18n (by omega) (by omega)).trans (pDg.z (by omega))
                exact zs_iret (pc := 131) t244_131 mr244 (by decide) (hQ _ _ w9s w74 ((((zFr.refl).put rfl).trans (w9F.mono rfl)).put rfl) w9J (fun p hp => by obtain rfl : w7n = p := (by omega); exact ⟨w18n, w18n - w7n, (zI w9M 336 8).toInt, w79, by omega, (w9t1 (w18n - w7n) (by omega)).symm, by omega, by omega, by omega, by omega⟩) (by decide) (by decide))
              · refine zs_invS (pc := 112) (as := [.long w73v.toInt64, .long b.toInt64, .long c.toInt64]) (st := []) t244_112 (by decide) mf228 rfl rfl ⟨by decide, by decide, Nat.le_of_ble_eq_true rfl, Nat.le_of_ble_eq_true rfl⟩ (K228F (zi2l w73g) (zi2l rfl) (zi2l rfl) (by omega) ?_) (fun _ _ q => q)
                show zGo X l 1 0 0 244 115 [(0, .ref 336), (1, .int a), (2, .int (-1 : Int32)), (3, .int b), (4, .int c), (5, .int (zI M 336 6))] [.int (0 : Int32)] (zsI w9M 336 8 w73v) _
                refine zs_if_neF (pc := 115) t244_115 li0 (by decide) ?_
                refine zs_aload_n (pc := 118) t244_118 rfl ?_
                refine zs_iload_n (pc := 119) t244_119 rfl ?_
                refine zs_invV (pc := 120) (k := 336) (as' := [.int a]) (st := []) t244_120 mf239 rfl rfl (Or.inl ⟨by decide, (zk1 (w9s.k fk_zMm_336))⟩) ⟨by decide, by decide, Nat.le_of_ble_eq_true rfl, Nat.le_of_ble_eq_true rfl⟩ (zs_in (by decide) mf239 (Nat.le_of_ble_eq_true rfl) ?_) (fun _ _ q => q)
                show zGo X l 0 0 0 239 0 [(0, .ref 336), (1, .int a)] [] (zsI w9M 336 8 w73v) _
                refine zs_aload_n (pc := 0) t239_0 rfl ?_
                refine zs_iload_n (pc := 1) t239_1 rfl ?_
                have w80 : zIv mLo mHi (zsI (zsI w9M 336 8 w73v) 336 7 a) := zIv.put w74 (show (-1) ≤ a.toInt ∧ a.toInt ≤ 500 from ⟨by omega, by omega⟩)
                refine zs_putI (pc := 2) t239_2 (zk1 (w9s.k fk_zMm_336)) rfl ?_
                refine zs_iconst (pc := 5) t239_5 (v := 0) (by decide) ?_
                refine zs_iret (pc := 6) t239_6 mr239 (by decide) ?_
                show zGo X l 1 0 0 244 123 [(0, .ref 336), (1, .int a), (2, .int (-1 : Int32)), (3, .int b), (4, .int c), (5, .int (zI M 336 6))] [.int (0 : Int32)] (zsI (zsI w9M 336 8 w73v) 336 7 a) _
                refine zs_if_eqT (pc := 123) t244_123 li0 (by decide) ?_
                refine zs_iconst (pc := 130) t244_130 (v := 0) (by decide) ?_
                have w81 : (zI (zsI (zsI w9M 336 8 w73v) 336 7 a) 336 6).toInt = (zI w9M 336 6).toInt := (congrArg Int32.toInt ((zIoj (by decide)).trans ((zIoj (by decide)).trans rfl))).trans rfl
                have w82 : (zI (zsI (zsI w9M 336 8 w73v) 336 7 a) 336 7).toInt = a.toInt := (congrArg Int32.toInt zIs).trans rfl
                have w83 : (zI (zsI (zsI w9M 336 8 w73v) 336 7 a) 336 8).toInt = ((zI w9M 336 8).toInt * (-1)) := (congrArg Int32.toInt ((zIoj (by decide)).trans zIs)).trans w73g
                have w84 : pDg gg 4 w7n = w18n := by first | exact w9t0 0 w18n (by omega) (by omega) | exact (w9t0 (w7n + 4 - w18n) w18n (by omega) (by omega)).trans (pDg.z (by omega))
                exact zs_iret (pc := 131) t244_131 mr244 (by decide) (hQ _ _ w9s w80 (((((zFr.refl).put rfl).trans (w9F.mono rfl)).put rfl).put rfl) w9J (fun p hp => by obtain rfl : w7n = p := (by omega); exact ⟨w18n, w18n - w7n, (zI w9M 336 8).toInt, w84, by omega, (w9t1 (w18n - w7n) (by omega)).symm, by omega, by omega, by omega, by omega⟩) (by decide) (by decide))
            · refine zs_if_eqF (pc := 80) t244_80 rfl (by omega) ?_
              refine zs_aload_n (pc := 83) t244_83 rfl ?_
              refine zs_aload_n (pc := 84) t244_84 rfl ?_
              refine zs_get (pc := 85) t244_85 (by decide) (zk1 (w9s.k fk_zMm_336)) (zfvi rfl rfl) ?_
              refine zs_invV (pc := 88) (k := 336) (as' := [.int (zI w9M 336 6)]) (st := []) t244_88 mf239 rfl rfl (Or.inl ⟨by decide, (zk1 (w9s.k fk_zMm_336))⟩) ⟨by decide, by decide, Nat.le_of_ble_eq_true rfl, Nat.le_of_ble_eq_true rfl⟩ (zs_in (by decide) mf239 (Nat.le_of_ble_eq_true rfl) ?_) (fun _ _ q => q)
              show zGo X l 0 0 0 239 0 [(0, .ref 336), (1, .int (zI w9M 336 6))] [] w9M _
              refine zs_aload_n (pc := 0) t239_0 rfl ?_
              refine zs_iload_n (pc := 1) t239_1 rfl ?_
              have w85 : zIv mLo mHi (zsI w9M 336 7 (zI w9M 336 6)) := zIv.put w9I (show (-1) ≤ (zI w9M 336 6).toInt ∧ (zI w9M 336 6).toInt ≤ 500 from ⟨by omega, by omega⟩)
              refine zs_putI (pc := 2) t239_2 (zk1 (w9s.k fk_zMm_336)) rfl ?_
              refine zs_iconst (pc := 5) t239_5 (v := 0) (by decide) ?_
              refine zs_iret (pc := 6) t239_6 mr239 (by decide) ?_
              show zGo X l 1 0 0 244 91 [(0, .ref 336), (1, .int a), (2, .int (-1 : Int32)), (3, .int b), (4, .int c), (5, .int (zI M 336 6))] [.int (0 : Int32)] (zsI w9M 336 7 (zI w9M 336 6)) _
              have w86 : (zI (zsI w9M 336 7 (zI w9M 336 6)) 336 6).toInt = (zI w9M 336 6).toInt := (congrArg Int32.toInt ((zIoj (by decide)).trans rfl)).trans rfl
              have w87 : (zI (zsI w9M 336 7 (zI w9M 336 6)) 336 7).toInt = (zI w9M 336 6).toInt := (congrArg Int32.toInt zIs).trans rfl
              have w88 : (zI (zsI w9M 336 7 (zI w9M 336 6)) 336 8).toInt = (zI w9M 336 8).toInt := (congrArg Int32.toInt ((zIoj (by decide)).trans rfl)).trans rfl
              have w89 : pDg gg 4 w7n = w18n := by first | exact w9t0 0 w18n (by omega) (by omega) | exact (w9t0 (w7n + 4 - w18n) w18n (by omega) (by omega)).trans (pDg.z (by omega))
              exact zs_iret (pc := 91) t244_91 mr244 (by decide) (hQ _ _ w9s w85 ((((zFr.refl).put rfl).trans (w9F.mono rfl)).put rfl) w9J (fun p hp => by obtain rfl : w7n = p := (by omega); exact ⟨w18n, w18n - w7n, (zI w9M 336 8).toInt, w89, by omega, (w9t1 (w18n - w7n) (by omega)).symm, by omega, by omega, by omega, by omega⟩) (by decide) (by decide))
        · refine zs_icmp_geF (pc := 29) t244_29 w56 li4 (by omega) ?_
          refine zs_aload_n (pc := 32) t244_32 rfl ?_
          refine zs_bipush (pc := 33) t244_33 (v := 10) (by decide) ?_
          refine zs_aload_n (pc := 35) t244_35 rfl ?_
          refine zs_get (pc := 36) t244_36 (by decide) (zk1 (w9s.k fk_zMm_336)) (zfvi rfl rfl) ?_
          obtain ⟨w90v, w90⟩ : ∃ v, (10 : Int32) * (zI w9M 336 8) = v := ⟨_, rfl⟩
          have w90g : w90v.toInt = 10 * (zI w9M 336 8).toInt := by rw [← w90]; exact zmulc li10 rfl (by omega) (by omega)
          refine zs_imul (pc := 39) t244_39 (c := w90v) w90 ?_
          refine zs_aload_n (pc := 40) t244_40 rfl ?_
          refine zs_invV (pc := 41) (k := 336) (as' := []) (st := [.int w90v, .ref 336]) t244_41 mf238 rfl rfl (Or.inl ⟨by decide, (zk1 (w9s.k fk_zMm_336))⟩) ⟨by decide, by decide, Nat.le_of_ble_eq_true rfl, Nat.le_of_ble_eq_true rfl⟩ (H238 w9s w9I ?_) (fun _ _ q => q)
          have w91 := zhere.rg (M := w9M)
          have w92 : (zI w9M 336 6).toInt = (zI w9M 336 6).toInt := (congrArg Int32.toInt rfl).trans rfl
          have w93 : (zI w9M 336 5).toInt = (zI M 336 5).toInt := (congrArg Int32.toInt ((w9F 336 5 rfl).trans ((zIoj (by decide)).trans rfl))).trans rfl
          have w94 : (zI w9M 336 6).toInt = (zI w9M 336 6).toInt := (congrArg Int32.toInt rfl).trans rfl
          have w95 : (zI w9M 336 5).toInt = (zI M 336 5).toInt := (congrArg Int32.toInt ((w9F 336 5 rfl).trans ((zIoj (by decide)).trans rfl))).trans rfl
          have w96 : (zhere w9M).toInt = gg w18n := zhere.tr (zTm.mk x0 (fun j => ((w9F 339 j rfl).trans (zIo (by decide)))) ((w9F 336 5 rfl).trans (zIoj (by decide)))) (by omega)
          have w97 := zTm.rg x0 w18n
          show zGo X l 1 0 0 244 44 [(0, .ref 336), (1, .int a), (2, .int (-1 : Int32)), (3, .int b), (4, .int c), (5, .int (zI M 336 6))] [.int (zhere w9M), .int w90v, .ref 336] w9M _
          obtain ⟨w98v, w98e, w98⟩ := ziadd (a := w90v) (b := (zhere w9M)) w90g rfl (by omega) (by omega)
          refine zs_iadd (pc := 44) t244_44 (c := w98v) w98e ?_
          refine zs_bipush (pc := 45) t244_45 (v := 48) (by decide) ?_
          obtain ⟨w99v, w99e, w99⟩ := zisub (a := w98v) (b := (48 : Int32)) w98 li48 (by omega) (by omega)
          refine zs_isub (pc := 47) t244_47 (c := w99v) w99e ?_
          have w100 : zIv mLo mHi (zsI w9M 336 8 w99v) := zIv.put w9I (show (-2147483648) ≤ w99v.toInt ∧ w99v.toInt ≤ 2147483647 from zrg w99v)
          refine zs_putI (pc := 48) t244_48 (zk1 (w9s.k fk_zMm_336)) rfl ?_
          refine zs_aload_n (pc := 51) t244_51 rfl ?_
          refine zs_dup (pc := 52) t244_52 rfl ?_
          refine zs_get (pc := 53) t244_53 (by decide) (zk1 (w9s.k fk_zMm_336)) (zfvi rfl ((zIoj (by decide)).trans rfl)) ?_
          refine zs_iconst (pc := 56) t244_56 (v := 1) (by decide) ?_
          obtain ⟨w101v, w101e, w101⟩ := ziadd (a := (zI w9M 336 6)) (b := (1 : Int32)) rfl li1 (by omega) (by omega)
          refine zs_iadd (pc := 57) t244_57 (c := w101v) w101e ?_
          have w102 : zIv mLo mHi (zsI (zsI w9M 336 8 w99v) 336 6 w101v) := zIv.put w100 (show 0 ≤ w101v.toInt ∧ w101v.toInt ≤ 500 from ⟨by omega, by omega⟩)
          refine zs_putI (pc := 58) t244_58 (zk1 (w9s.k fk_zMm_336)) rfl ?_
          refine zs_goto (pc := 61) t244_61 ?_
          refine zGo.locals (ls' := [(0, .ref 336), (1, .int a), (2, .int (-1 : Int32)), (3, .int b), (4, .int c), (5, .int (zI M 336 6))]) (by simp) ?_
          have w103 : (zI (zsI (zsI w9M 336 8 w99v) 336 6 w101v) 336 7).toInt = (zI w9M 336 7).toInt := (congrArg Int32.toInt ((zIoj (by decide)).trans ((zIoj (by decide)).trans rfl))).trans rfl
          have w104 : (zI (zsI (zsI w9M 336 8 w99v) 336 6 w101v) 336 8).toInt = (((10 * (zI w9M 336 8).toInt) + (zhere w9M).toInt) - 48) := (congrArg Int32.toInt ((zIoj (by decide)).trans zIs)).trans w99
          have w105 : (zI (zsI (zsI w9M 336 8 w99v) 336 6 w101v) 336 6).toInt = ((zI w9M 336 6).toInt + 1) := (congrArg Int32.toInt zIs).trans w101
          have w106 : (zI (zsI (zsI w9M 336 8 w99v) 336 6 w101v) 336 6).toInt = ((zI w9M 336 6).toInt + 1) := (congrArg Int32.toInt zIs).trans w101
          have w107 : (zI (zsI (zsI w9M 336 8 w99v) 336 6 w101v) 336 6).toInt = ((zI w9M 336 6).toInt + 1) := (congrArg Int32.toInt zIs).trans w101
          have w108 : (zI (zsI (zsI w9M 336 8 w99v) 336 6 w101v) 336 8).toInt = (((10 * (zI w9M 336 8).toInt) + (zhere w9M).toInt) - 48) := (congrArg Int32.toInt ((zIoj (by decide)).trans zIs)).trans w99
          have w109 : (zI (zsI (zsI w9M 336 8 w99v) 336 6 w101v) 336 6).toInt = ((zI w9M 336 6).toInt + 1) := (congrArg Int32.toInt zIs).trans w101
          exact w9ih (w9m - 1) (by omega) (zsI (zsI w9M 336 8 w99v) 336 6 w101v) w9s w102 ((((zFr.refl).trans (w9F.mono rfl)).put rfl).put rfl) w9J (by omega) (by omega) (by omega) (fun k q h1 h2 => (w9t0 (k + 1) w18n (by omega) (by omega)).trans ((pDg.y (by omega)).trans (congrArg (pDg gg k) (by omega)))) (fun d hd => by obtain rfl : d = (w18n - w7n) + 1 := (by omega); show _ = 10 * pVal gg w7n (w18n - w7n) + (gg (w7n + (w18n - w7n)) - 48); rw [show w7n + (w18n - w7n) = w18n by omega]; have z := w9t1 (w18n - w7n) (by omega); omega) (by omega)
  refine zGo.locals (ls' := [(0, .ref 336), (1, .int a), (2, .int (-1 : Int32)), (3, .int b), (4, .int c), (5, .int (zI M 336 6))]) (by simp) ?_
  have w110 : (zI (zsI M 336 8 (0 : Int32)) 336 7).toInt = (zI M 336 7).toInt := (congrArg Int32.toInt ((zIoj (by decide)).trans rfl)).trans rfl
  have w111 : (zI (zsI M 336 8 (0 : Int32)) 336 8).toInt = 0 := (congrArg Int32.toInt zIs).trans li0
  have w112 : (zI (zsI M 336 8 (0 : Int32)) 336 6).toInt = (zI M 336 6).toInt := (congrArg Int32.toInt ((zIoj (by decide)).trans rfl)).trans rfl
  have w113 : (zI (zsI M 336 8 (0 : Int32)) 336 6).toInt = (zI M 336 6).toInt := (congrArg Int32.toInt ((zIoj (by decide)).trans rfl)).trans rfl
  have w114 : (zI (zsI M 336 8 (0 : Int32)) 336 8).toInt = 0 := (congrArg Int32.toInt zIs).trans li0
  have w115 : (zI (zsI M 336 8 (0 : Int32)) 336 6).toInt = (zI M 336 6).toInt := (congrArg Int32.toInt ((zIoj (by decide)).trans rfl)).trans rfl
  exact w9L ((500 - (zI (zsI M 336 8 (0 : Int32)) 336 6).toInt : Int).toNat) (zsI M 336 8 (0 : Int32)) hs w8 zFr.refl rfl (by omega) (by omega) (by omega) (fun k q h1 h2 => by obtain rfl : w7n = q := (by omega); obtain rfl : k = 4 := (by omega); rfl) (fun d hd => by obtain rfl : d = 0 := (by omega); show _ = (0 : Int); omega) (by omega)
theorem R243 {X : zX} {l : Launch} {M : zM} {Q : Option Value → zM → Prop} {a b : Int32} (hs : zSk zMm M) (hI : zIv mLo mHi M) {gg : Nat → Int} {nn : Int} (u0 : (zI M 336 6).toInt ≤ (zI M 336 5).toInt) (u1 : 0 ≤ (zI M 336 6).toInt) (u2 : (zI M 336 7).toInt = -1) (x0 : zTm M gg nn) (hQ : ∀ (M' : zM) (v : Int32), zSk zMm M' → zIv mLo mHi M' → zFr [(336, 336, some 6), (336, 336, some 7), (336, 336, some 8)] M M' → zJ M' 351 = zJ M 351 → (∀ p : Nat, (zI M 336 6).toInt = (p : Int) → (v.toInt = 1 ∧ ∃ (e : Nat) (x : Int), pN gg p = some (e, x) ∧ a.toInt ≤ x ∧ x ≤ b.toInt ∧ (zI M' 336 6).toInt = (e : Int) ∧ (zI M' 336 8).toInt = x ∧ p < e ∧ (e : Int) ≤ nn ∧ (zI M' 336 7).toInt = -1 ∧ -9999 ≤ x ∧ x ≤ 9999) ∨ (v.toInt = 0 ∧ (zI M' 336 7).toInt ≠ -1 ∧ (pN gg p = none ∨ ∃ (e : Nat) (x : Int), pN gg p = some (e, x) ∧ (x < a.toInt ∨ b.toInt < x)))) → 0 ≤ v.toInt → v.toInt ≤ 1 → Q (some (.int v)) M') : zCall X l 2 0 0 243 [.ref 336, .int a, .int b] M Q := by
  have ga := zrg a
  have gb := zrg b
  refine zs_in (by decide) mf243 (Nat.le_of_ble_eq_true rfl) ?_
  show zGo X l 2 0 0 243 0 [(0, .ref 336), (1, .int a), (2, .int b)] [] M _
  have hn := x0.2
  have w1 := ib336_5 hI
  have w2 : (zI M 336 5).toInt = (zI M 336 5).toInt := (congrArg Int32.toInt rfl).trans rfl
  have w3 := ib336_6 hI
  have w4 : (zI M 336 6).toInt = (zI M 336 6).toInt := (congrArg Int32.toInt rfl).trans rfl
  have w5 := ib336_7 hI
  have w6 : (zI M 336 7).toInt = (zI M 336 7).toInt := (congrArg Int32.toInt rfl).trans rfl
  obtain ⟨w7n, w7⟩ : ∃ n : Nat, (zI M 336 6).toInt = (n : Int) := ⟨((zI M 336 6).toInt).toNat, by omega⟩
  refine zs_aload_n (pc := 0) t243_0 rfl ?_
  refine zs_get (pc := 1) t243_1 (by decide) (zk1 (hs.k fk_zMm_336)) (zfvi rfl rfl) ?_
  refine zs_istore_n (pc := 4) t243_4 (ls' := [(3, .int (zI M 336 6)), (0, .ref 336), (1, .int a), (2, .int b)]) (zml mf243 (by decide)) rfl ?_
  refine zs_aload_n (pc := 5) t243_5 rfl ?_
  refine zs_invV (pc := 6) (k := 336) (as' := []) (st := []) t243_6 mf238 rfl rfl (Or.inl ⟨by decide, (zk1 (hs.k fk_zMm_336))⟩) ⟨by decide, by decide, Nat.le_of_ble_eq_true rfl, Nat.le_of_ble_eq_true rfl⟩ (H238 hs hI ?_) (fun _ _ q => q)
  have w8 := zhere.rg (M := M)
  have w9 : (zI M 336 6).toInt = (zI M 336 6).toInt := (congrArg Int32.toInt rfl).trans rfl
  have w10 : (zI M 336 5).toInt = (zI M 336 5).toInt := (congrArg Int32.toInt rfl).trans rfl
  have w11 : (zI M 336 6).toInt = (zI M 336 6).toInt := (congrArg Int32.toInt rfl).trans rfl
  have w12 : (zI M 336 5).toInt = (zI M 336 5).toInt := (congrArg Int32.toInt rfl).trans rfl
  have w13 : (zhere M).toInt = gg w7n := zhere.tr x0 (by omega)
  have w14 := zTm.rg x0 w7n
  show zGo X l 2 0 0 243 9 [(3, .int (zI M 336 6)), (0, .ref 336), (1, .int a), (2, .int b)] [.int (zhere M)] M _
  refine zs_bipush (pc := 9) t243_9 (v := 45) (by decide) ?_
  by_cases w15 : (zhere M).toInt ≠ 45
  · refine zs_icmp_neT (pc := 11) t243_11 rfl li45 (by omega) ?_
    refine zs_iconst (pc := 18) t243_18 (v := 0) (by decide) ?_
    refine zs_istore (pc := 19) t243_19 (ls' := [(4, .int (0 : Int32)), (3, .int (zI M 336 6)), (0, .ref 336), (1, .int a), (2, .int b)]) (zml mf243 (by decide)) rfl ?_
    refine zs_iload (pc := 21) t243_21 rfl ?_
    refine zs_if_eqT (pc := 23) t243_23 li0 (by decide) ?_
    refine zs_aload_n (pc := 36) t243_36 rfl ?_
    refine zs_iload_n (pc := 37) t243_37 rfl ?_
    refine zs_iload (pc := 38) t243_38 rfl ?_
    refine zs_if_eqT (pc := 40) t243_40 li0 (by decide) ?_
    refine zs_iconst (pc := 47) t243_47 (v := 1) (by decide) ?_
    refine zs_iload_n (pc := 48) t243_48 rfl ?_
    refine zs_iload_n (pc := 49) t243_49 rfl ?_
    have w16 : (zI M 336 6).toInt = (zI M 336 6).toInt := (congrArg Int32.toInt rfl).trans rfl
    have w17 : (zI M 336 5).toInt = (zI M 336 5).toInt := (congrArg Int32.toInt rfl).trans rfl
    have w18 : (zI M 336 7).toInt = (zI M 336 7).toInt := (congrArg Int32.toInt rfl).trans rfl
    have w19 : (zI M 336 6).toInt = (zI M 336 6).toInt := (congrArg Int32.toInt rfl).trans rfl
    refine zs_invV (pc := 50) (k := 336) (as' := [.int (zI M 336 6), .int (1 : Int32), .int a, .int b]) (st := []) t243_50 mf244 rfl rfl (Or.inl ⟨by decide, (zk1 (hs.k fk_zMm_336))⟩) ⟨by decide, by decide, Nat.le_of_ble_eq_true rfl, Nat.le_of_ble_eq_true rfl⟩ (R244p hs hI ⟨by omega, by omega⟩ (by omega) (by omega) (by omega) x0 ?_) (fun _ _ q => q)
    intro w20M w20v w20s w20I w20F w20J w20x0 w20a w20b
    show zGo X l 2 0 0 243 53 [(4, .int (0 : Int32)), (3, .int (zI M 336 6)), (0, .ref 336), (1, .int a), (2, .int b)] [.int w20v] w20M _
    obtain ⟨w20e, w20k, w20x, w20_1, w20_2, w20_3, w20_4, w20_5, w20_6, w20c⟩ := w20x0 w7n (by omega)
    have w22 := ib336_6 w20I
    have w23 : (zI w20M 336 6).toInt = (zI w20M 336 6).toInt := (congrArg Int32.toInt rfl).trans rfl
    have w24 := ib336_7 w20I
    have w25 : (zI w20M 336 7).toInt = (zI w20M 336 7).toInt := (congrArg Int32.toInt rfl).trans rfl
    have w26 := zrg (zI w20M 336 8)
    have w27 : (zI w20M 336 8).toInt = (zI w20M 336 8).toInt := (congrArg Int32.toInt rfl).trans rfl
    have w21 : pNq gg w7n = w7n := by first | exact (pNq.m (by omega)).trans (by omega) | exact (pNq.o (by omega)).trans (by omega)
    exact zs_iret (pc := 53) t243_53 mr243 (zfb01 (by omega)) (hQ _ _ w20s w20I ((zFr.refl).trans (w20F.mono rfl)) w20J (fun p hp => by
        obtain rfl : w7n = p := (by omega)
        rcases w20c with q1 | q1
        · exact Or.inl ⟨by omega, w20e, w20x, pN.y (x := w20x) w21 w20_1 q1.2.1 q1.2.2.1 w20_2 w20_3 (Or.inr ⟨by omega, rfl⟩), by omega, by omega, by omega, by omega, by omega, by omega, by omega, by omega, by omega⟩
        · by_cases z : w20e = w7n ∨ (48 ≤ gg w20e ∧ gg w20e ≤ 57)
          · exact Or.inr ⟨by omega, by omega, Or.inl (pN.n w21 w20_1 z)⟩
          · exact Or.inr ⟨by omega, by omega, Or.inr ⟨w20e, w20x, pN.y (x := w20x) w21 w20_1 (fun z1 => z (Or.inl z1)) (fun z1 => z (Or.inr z1)) w20_2 w20_3 (Or.inr ⟨by omega, rfl⟩), by omega⟩⟩) (by omega) (by omega))
  · refine zs_icmp_neF (pc := 11) t243_11 rfl li45 (by omega) ?_
    refine zs_iconst (pc := 14) t243_14 (v := 1) (by decide) ?_
    refine zs_goto (pc := 15) t243_15 ?_
    refine zs_istore (pc := 19) t243_19 (ls' := [(4, .int (1 : Int32)), (3, .int (zI M 336 6)), (0, .ref 336), (1, .int a), (2, .int b)]) (zml mf243 (by decide)) rfl ?_
    refine zs_iload (pc := 21) t243_21 rfl ?_
    refine zs_if_eqF (pc := 23) t243_23 li1 (by decide) ?_
    refine zs_aload_n (pc := 26) t243_26 rfl ?_
    refine zs_dup (pc := 27) t243_27 rfl ?_
    refine zs_get (pc := 28) t243_28 (by decide) (zk1 (hs.k fk_zMm_336)) (zfvi rfl rfl) ?_
    refine zs_iconst (pc := 31) t243_31 (v := 1) (by decide) ?_
    obtain ⟨w28v, w28e, w28⟩ := ziadd (a := (zI M 336 6)) (b := (1 : Int32)) rfl li1 (by omega) (by omega)
    refine zs_iadd (pc := 32) t243_32 (c := w28v) w28e ?_
    have w29 : zIv mLo mHi (zsI M 336 6 w28v) := zIv.put hI (show 0 ≤ w28v.toInt ∧ w28v.toInt ≤ 500 from ⟨by omega, by omega⟩)
    refine zs_putI (pc := 33) t243_33 (zk1 (hs.k fk_zMm_336)) rfl ?_
    refine zs_aload_n (pc := 36) t243_36 rfl ?_
    refine zs_iload_n (pc := 37) t243_37 rfl ?_
    refine zs_iload (pc := 38) t243_38 rfl ?_
    refine zs_if_eqF (pc := 40) t243_40 li1 (by decide) ?_
    refine zs_iconst (pc := 43) t243_43 (v := -1) (by decide) ?_
    refine zs_goto (pc := 44) t243_44 ?_
    refine zs_iload_n (pc := 48) t243_48 rfl ?_
    refine zs_iload_n (pc := 49) t243_49 rfl ?_
    have w30 : (zI (zsI M 336 6 w28v) 336 6).toInt = ((zI M 336 6).toInt + 1) := (congrArg Int32.toInt zIs).trans w28
    have w31 : (zI (zsI M 336 6 w28v) 336 5).toInt = (zI M 336 5).toInt := (congrArg Int32.toInt ((zIoj (by decide)).trans rfl)).trans rfl
    have w32 : (zI (zsI M 336 6 w28v) 336 7).toInt = (zI M 336 7).toInt := (congrArg Int32.toInt ((zIoj (by decide)).trans rfl)).trans rfl
    have w33 : (zI (zsI M 336 6 w28v) 336 6).toInt = ((zI M 336 6).toInt + 1) := (congrArg Int32.toInt zIs).trans w28
    refine zs_invV (pc := 50) (k := 336) (as' := [.int (zI M 336 6), .int (-1 : Int32), .int a, .int b]) (st := []) t243_50 mf244 rfl rfl (Or.inl ⟨by decide, (zk1 (hs.k fk_zMm_336))⟩) ⟨by decide, by decide, Nat.le_of_ble_eq_true rfl, Nat.le_of_ble_eq_true rfl⟩ (R244m hs w29 ⟨by omega, by omega⟩ (by omega) (by omega) (by omega) (zTm.mk x0 (fun j => (zIo (by decide))) (zIoj (by decide))) ?_) (fun _ _ q => q)
    intro w34M w34v w34s w34I w34F w34J w34x0 w34a w34b
    show zGo X l 2 0 0 243 53 [(4, .int (1 : Int32)), (3, .int (zI M 336 6)), (0, .ref 336), (1, .int a), (2, .int b)] [.int w34v] w34M _
    obtain ⟨w34e, w34k, w34x, w34_1, w34_2, w34_3, w34_4, w34_5, w34_6, w34c⟩ := w34x0 (w7n + 1) (by omega)
    have w36 := ib336_6 w34I
    have w37 : (zI w34M 336 6).toInt = (zI w34M 336 6).toInt := (congrArg Int32.toInt rfl).trans rfl
    have w38 := ib336_7 w34I
    have w39 : (zI w34M 336 7).toInt = (zI w34M 336 7).toInt := (congrArg Int32.toInt rfl).trans rfl
    have w40 := zrg (zI w34M 336 8)
    have w41 : (zI w34M 336 8).toInt = (zI w34M 336 8).toInt := (congrArg Int32.toInt rfl).trans rfl
    have w35 : pNq gg w7n = (w7n + 1) := by first | exact (pNq.m (by omega)).trans (by omega) | exact (pNq.o (by omega)).trans (by omega)
    exact zs_iret (pc := 53) t243_53 mr243 (zfb01 (by omega)) (hQ _ _ w34s w34I (((zFr.refl).put rfl).trans (w34F.mono rfl)) w34J (fun p hp => by
        obtain rfl : w7n = p := (by omega)
        rcases w34c with q1 | q1
        · exact Or.inl ⟨by omega, w34e, (-w34x), pN.y (x := (-w34x)) w35 w34_1 q1.2.1 q1.2.2.1 w34_2 w34_3 (Or.inl ⟨by omega, rfl⟩), by omega, by omega, by omega, by omega, by omega, by omega, by omega, by omega, by omega⟩
        · by_cases z : w34e = (w7n + 1) ∨ (48 ≤ gg w34e ∧ gg w34e ≤ 57)
          · exact Or.inr ⟨by omega, by omega, Or.inl (pN.n w35 w34_1 z)⟩
          · exact Or.inr ⟨by omega, by omega, Or.inr ⟨w34e, (-w34x), pN.y (x := (-w34x)) w35 w34_1 (fun z1 => z (Or.inl z1)) (fun z1 => z (Or.inr z1)) w34_2 w34_3 (Or.inl ⟨by omega, rfl⟩), by omega⟩⟩) (by omega) (by omega))
theorem R246 {X : zX} {l : Launch} {M : zM} {Q : Option Value → zM → Prop} {a : Int32} (hs : zSk zMm M) (hI : zIv mLo mHi M) {gg : Nat → Int} {nn : Int} (ha : 0 ≤ a.toInt ∧ a.toInt ≤ 255) (u0 : (zI M 336 6).toInt ≤ (zI M 336 5).toInt) (u1 : 0 ≤ (zI M 336 6).toInt) (u2 : (zI M 336 7).toInt = -1) (x0 : zTm M gg nn) (hQ : ∀ (M' : zM) (v : Int32), zSk zMm M' → zIv mLo mHi M' → zFr [(336, 336, some 6), (336, 336, some 7)] M M' → zJ M' 351 = zJ M 351 → (∀ p : Nat, (zI M 336 6).toInt = (p : Int) → (v.toInt = 1 ∧ gg p = a.toInt ∧ (p : Int) < nn ∧ (zI M' 336 6).toInt = (p : Int) + 1 ∧ (zI M' 336 7).toInt = -1) ∨ (v.toInt = 0 ∧ gg p ≠ a.toInt ∧ (zI M' 336 7).toInt ≠ -1)) → 0 ≤ v.toInt → v.toInt ≤ 1 → Q (some (.int v)) M') : zCall X l 1 0 0 246 [.ref 336, .int a] M Q := by
  have ga := zrg a
  refine zs_in (by decide) mf246 (Nat.le_of_ble_eq_true rfl) ?_
  show zGo X l 1 0 0 246 0 [(0, .ref 336), (1, .int a)] [] M _
  have hn := x0.2
  have w1 := ib336_5 hI
  have w2 : (zI M 336 5).toInt = (zI M 336 5).toInt := (congrArg Int32.toInt rfl).trans rfl
  have w3 := ib336_6 hI
  have w4 : (zI M 336 6).toInt = (zI M 336 6).toInt := (congrArg Int32.toInt rfl).trans rfl
  have w5 := ib336_7 hI
  have w6 : (zI M 336 7).toInt = (zI M 336 7).toInt := (congrArg Int32.toInt rfl).trans rfl
  obtain ⟨w7n, w7⟩ : ∃ n : Nat, (zI M 336 6).toInt = (n : Int) := ⟨((zI M 336 6).toInt).toNat, by omega⟩
  refine zs_aload_n (pc := 0) t246_0 rfl ?_
  refine zs_invV (pc := 1) (k := 336) (as' := []) (st := []) t246_1 mf238 rfl rfl (Or.inl ⟨by decide, (zk1 (hs.k fk_zMm_336))⟩) ⟨by decide, by decide, Nat.le_of_ble_eq_true rfl, Nat.le_of_ble_eq_true rfl⟩ (H238 hs hI ?_) (fun _ _ q => q)
  have w8 := zhere.rg (M := M)
  have w9 : (zI M 336 6).toInt = (zI M 336 6).toInt := (congrArg Int32.toInt rfl).trans rfl
  have w10 : (zI M 336 5).toInt = (zI M 336 5).toInt := (congrArg Int32.toInt rfl).trans rfl
  have w11 : (zI M 336 6).toInt = (zI M 336 6).toInt := (congrArg Int32.toInt rfl).trans rfl
  have w12 : (zI M 336 5).toInt = (zI M 336 5).toInt := (congrArg Int32.toInt rfl).trans rfl
  have w13 : (zhere M).toInt = gg w7n := zhere.tr x0 (by omega)
  have w14 := zTm.rg x0 w7n
  show zGo X l 1 0 0 246 4 [(0, .ref 336), (1, .int a)] [.int (zhere M)] M _
  refine zs_iload_n (pc := 4) t246_4 rfl ?_
  by_cases w15 : (zhere M).toInt = a.toInt
  · refine zs_icmp_eqT (pc := 5) t246_5 rfl rfl (by omega) ?_
    refine zs_aload_n (pc := 17) t246_17 rfl ?_
    refine zs_dup (pc := 18) t246_18 rfl ?_
    refine zs_get (pc := 19) t246_19 (by decide) (zk1 (hs.k fk_zMm_336)) (zfvi rfl rfl) ?_
    refine zs_iconst (pc := 22) t246_22 (v := 1) (by decide) ?_
    obtain ⟨w16v, w16e, w16⟩ := ziadd (a := (zI M 336 6)) (b := (1 : Int32)) rfl li1 (by omega) (by omega)
    refine zs_iadd (pc := 23) t246_23 (c := w16v) w16e ?_
    have w17 : zIv mLo mHi (zsI M 336 6 w16v) := zIv.put hI (show 0 ≤ w16v.toInt ∧ w16v.toInt ≤ 500 from ⟨by omega, by omega⟩)
    refine zs_putI (pc := 24) t246_24 (zk1 (hs.k fk_zMm_336)) rfl ?_
    refine zs_iconst (pc := 27) t246_27 (v := 1) (by decide) ?_
    have w18 : (zI (zsI M 336 6 w16v) 336 6).toInt = ((zI M 336 6).toInt + 1) := (congrArg Int32.toInt zIs).trans w16
    have w19 : (zI (zsI M 336 6 w16v) 336 7).toInt = (zI M 336 7).toInt := (congrArg Int32.toInt ((zIoj (by decide)).trans rfl)).trans rfl
    exact zs_iret (pc := 28) t246_28 mr246 (by decide) (hQ _ _ hs w17 ((zFr.refl).put rfl) rfl (fun p hp => by obtain rfl : w7n = p := (by omega); omega) (by decide) (by decide))
  · refine zs_icmp_eqF (pc := 5) t246_5 rfl rfl (by omega) ?_
    refine zs_aload_n (pc := 8) t246_8 rfl ?_
    refine zs_aload_n (pc := 9) t246_9 rfl ?_
    refine zs_get (pc := 10) t246_10 (by decide) (zk1 (hs.k fk_zMm_336)) (zfvi rfl rfl) ?_
    refine zs_invV (pc := 13) (k := 336) (as' := [.int (zI M 336 6)]) (st := []) t246_13 mf239 rfl rfl (Or.inl ⟨by decide, (zk1 (hs.k fk_zMm_336))⟩) ⟨by decide, by decide, Nat.le_of_ble_eq_true rfl, Nat.le_of_ble_eq_true rfl⟩ (zs_in (by decide) mf239 (Nat.le_of_ble_eq_true rfl) ?_) (fun _ _ q => q)
    show zGo X l 0 0 0 239 0 [(0, .ref 336), (1, .int (zI M 336 6))] [] M _
    refine zs_aload_n (pc := 0) t239_0 rfl ?_
    refine zs_iload_n (pc := 1) t239_1 rfl ?_
    have w20 : zIv mLo mHi (zsI M 336 7 (zI M 336 6)) := zIv.put hI (show (-1) ≤ (zI M 336 6).toInt ∧ (zI M 336 6).toInt ≤ 500 from ⟨by omega, by omega⟩)
    refine zs_putI (pc := 2) t239_2 (zk1 (hs.k fk_zMm_336)) rfl ?_
    refine zs_iconst (pc := 5) t239_5 (v := 0) (by decide) ?_
    refine zs_iret (pc := 6) t239_6 mr239 (by decide) ?_
    show zGo X l 1 0 0 246 16 [(0, .ref 336), (1, .int a)] [.int (0 : Int32)] (zsI M 336 7 (zI M 336 6)) _
    have w21 : (zI (zsI M 336 7 (zI M 336 6)) 336 6).toInt = (zI M 336 6).toInt := (congrArg Int32.toInt ((zIoj (by decide)).trans rfl)).trans rfl
    have w22 : (zI (zsI M 336 7 (zI M 336 6)) 336 7).toInt = (zI M 336 6).toInt := (congrArg Int32.toInt zIs).trans rfl
    exact zs_iret (pc := 16) t246_16 mr246 (by decide) (hQ _ _ hs w20 ((zFr.refl).put rfl) rfl (fun p hp => by obtain rfl : w7n = p := (by omega); omega) (by decide) (by decide))
theorem R242 {X : zX} {l : Launch} {M : zM} {Q : Option Value → zM → Prop} {a b c d : Int32} (hs : zSk zMm M) (hI : zIv mLo mHi M) {F : Nat → Int} {gg : Nat → Int} {nn : Int} (pR : zPR M) (pC : zPC M) (ha : 5 ≤ a.toInt ∧ a.toInt ≤ 305) (hd : 0 ≤ d.toInt ∧ d.toInt ≤ 255) (u0 : a.toInt < 14 ∨ 30 ≤ a.toInt ∨ 14 + 2 * (zI M 337 0).toInt ≤ a.toInt) (u1 : a.toInt < 30 ∨ 270 ≤ a.toInt ∨ a.toInt % 4 ≠ 2 ∨ 30 + 4 * (zI M 337 1).toInt ≤ a.toInt) (u2 : (zI M 336 6).toInt ≤ (zI M 336 5).toInt) (u3 : 0 ≤ (zI M 336 6).toInt) (u4 : (zI M 336 7).toInt = -1) (x0 : aLo a.toInt.toNat ≤ b.toInt ∧ c.toInt ≤ aHi a.toInt.toNat) (x1 : zRw M 0 F) (x2 : zTm M gg nn) (hQ : ∀ (M' : zM) (v : Int32), zSk zMm M' → zIv mLo mHi M' → zFr [(336, 336, some 6), (336, 336, some 7), (336, 336, some 8), (337, 337, none)] M M' → zJ M' 351 = zJ M 351 → zUp M M' → zPR M' → zPC M' → ((zI M 336 6).toInt ≤ (zI M' 336 6).toInt) → ((v.toInt = 1 ∧ (zI M' 336 7).toInt = (zI M 336 7).toInt) ∨ (v.toInt = 0 ∧ 0 ≤ (zI M' 336 7).toInt)) → ((zI M' 337 0).toInt = (zI M 337 0).toInt) → ((zI M' 337 1).toInt = (zI M 337 1).toInt) → ((zI M' 337 2).toInt = (zI M 337 2).toInt) → (∀ j : Nat, (j : Int) ≠ a.toInt → zI M' 337 j = zI M 337 j) → (v.toInt = 0 ∨ ∀ j : Nat, (j : Int) = a.toInt → b.toInt ≤ (zI M' 337 j).toInt ∧ (zI M' 337 j).toInt ≤ c.toInt) → (∀ p : Nat, (zI M 336 6).toInt = (p : Int) → (v.toInt = 1 ∧ ∃ (q : Nat) (x : Int), pRd gg p b.toInt c.toInt d.toInt = some (q, x) ∧ (zI M' 336 6).toInt = (q : Int) ∧ p < q ∧ (q : Int) ≤ nn ∧ (zI M' 336 7).toInt = -1 ∧ b.toInt ≤ x ∧ x ≤ c.toInt ∧ zRw M' 0 (uS F a.toInt.toNat x)) ∨ (v.toInt = 0 ∧ (zI M' 336 7).toInt ≠ -1 ∧ pRd gg p b.toInt c.toInt d.toInt = none)) → 0 ≤ v.toInt → v.toInt ≤ 1 → Q (some (.int v)) M') : zCall X l 3 0 0 242 [.ref 336, .int a, .int b, .int c, .int d] M Q := by
  have ga := zrg a
  have gb := zrg b
  have gc := zrg c
  have gd := zrg d
  refine zs_in (by decide) mf242 (Nat.le_of_ble_eq_true rfl) ?_
  show zGo X l 3 0 0 242 0 [(0, .ref 336), (1, .int a), (2, .int b), (3, .int c), (4, .int d)] [] M _
  have hn := x2.2
  have w1 := ib336_5 hI
  have w2 : (zI M 336 5).toInt = (zI M 336 5).toInt := (congrArg Int32.toInt rfl).trans rfl
  have w3 := ib336_6 hI
  have w4 : (zI M 336 6).toInt = (zI M 336 6).toInt := (congrArg Int32.toInt rfl).trans rfl
  have w5 := ib336_7 hI
  have w6 : (zI M 336 7).toInt = (zI M 336 7).toInt := (congrArg Int32.toInt rfl).trans rfl
  obtain ⟨w7n, w7⟩ : ∃ n : Nat, (zI M 336 6).toInt = (n : Int) := ⟨((zI M 336 6).toInt).toNat, by omega⟩
  have w8 := ibA0 hI
  have w9 : (zI M 337 0).toInt = (zI M 337 0).toInt := (congrArg Int32.toInt rfl).trans rfl
  have e0 : (zI M 337 0).toInt = F 0 := x1.at (by decide) (by decide) (by decide)
  have w10 := ibA1 hI
  have w11 : (zI M 337 1).toInt = (zI M 337 1).toInt := (congrArg Int32.toInt rfl).trans rfl
  have e1 : (zI M 337 1).toInt = F 1 := x1.at (by decide) (by decide) (by decide)
  have w12 := ibA2 hI
  have w13 : (zI M 337 2).toInt = (zI M 337 2).toInt := (congrArg Int32.toInt rfl).trans rfl
  have e2 : (zI M 337 2).toInt = F 2 := x1.at (by decide) (by decide) (by decide)
  refine zs_aload_n (pc := 0) t242_0 rfl ?_
  refine zs_iload_n (pc := 1) t242_1 rfl ?_
  refine zs_iload_n (pc := 2) t242_2 rfl ?_
  have w14 : (zI M 336 6).toInt = (zI M 336 6).toInt := (congrArg Int32.toInt rfl).trans rfl
  have w15 : (zI M 336 5).toInt = (zI M 336 5).toInt := (congrArg Int32.toInt rfl).trans rfl
  have w16 : (zI M 336 7).toInt = (zI M 336 7).toInt := (congrArg Int32.toInt rfl).trans rfl
  have w17 : (zI M 336 6).toInt = (zI M 336 6).toInt := (congrArg Int32.toInt rfl).trans rfl
  refine zs_invV (pc := 3) (k := 336) (as' := [.int b, .int c]) (st := []) t242_3 mf243 rfl rfl (Or.inl ⟨by decide, (zk1 (hs.k fk_zMm_336))⟩) ⟨by decide, by decide, Nat.le_of_ble_eq_true rfl, Nat.le_of_ble_eq_true rfl⟩ (R243 hs hI (by omega) (by omega) (by omega) x2 ?_) (fun _ _ q => q)
  intro w18M w18v w18s w18I w18F w18J w18x0 w18a w18b
  show zGo X l 3 0 0 242 6 [(0, .ref 336), (1, .int a), (2, .int b), (3, .int c), (4, .int d)] [.int w18v] w18M _
  rcases w18x0 w7n (by omega) with ⟨w19v, w19e, w19x, w19_1, w19_2, w19_3, w19_4, w19_5, w19_6, w19_7, w19_8, w19_9, w19_10⟩ | ⟨w19v, w19_8, w19z⟩
  · skip
    refine zs_if_neF (pc := 6) t242_6 rfl (by omega) ?_
    refine zs_iconst (pc := 9) t242_9 (v := 0) (by decide) ?_
    have w20 : (zI w18M 337 0).toInt = (zI M 337 0).toInt := (congrArg Int32.toInt ((w18F 337 0 rfl).trans rfl)).trans rfl
    have w21 : (zI w18M 337 2).toInt = (zI M 337 2).toInt := (congrArg Int32.toInt ((w18F 337 2 rfl).trans rfl)).trans rfl
    have w22 := ib336_6 w18I
    have w23 : (zI w18M 336 6).toInt = (zI w18M 336 6).toInt := (congrArg Int32.toInt rfl).trans rfl
    have w24 := ib336_7 w18I
    have w25 : (zI w18M 336 7).toInt = (zI w18M 336 7).toInt := (congrArg Int32.toInt rfl).trans rfl
    have w26 : (zI w18M 337 1).toInt = (zI M 337 1).toInt := (congrArg Int32.toInt ((w18F 337 1 rfl).trans rfl)).trans rfl
    have w27 := li0
    have w28 : (zI w18M 336 6).toInt = (zI w18M 336 6).toInt := (congrArg Int32.toInt rfl).trans rfl
    have w29 : (zI w18M 336 7).toInt = (zI w18M 336 7).toInt := (congrArg Int32.toInt rfl).trans rfl
    exact zs_iret (pc := 10) t242_10 mr242 (by decide) (hQ _ _ w18s w18I ((zFr.refl).trans (w18F.mono rfl)) w18J ((zUp.refl).trans (zUp.fr w18F rfl)) (zPR.fr pR (w18F.eq rfl)) (zPC.fr pC (w18F.eq rfl)) (by omega) (by omega) (by omega) (by omega) (by omega) (fun j hj => (w18F 337 j rfl)) (Or.inl (by decide)) (fun p hp => by
        obtain rfl : w7n = p := (by omega)
        exact Or.inr ⟨by decide, by omega, by rcases w19z with q | ⟨e, x, q, q2⟩; exact pRd.f q; exact pRd.n q (by omega)⟩) (by decide) (by decide))
  · skip
    refine zs_if_neT (pc := 6) t242_6 rfl (by omega) ?_
    refine zs_aload_n (pc := 11) t242_11 rfl ?_
    refine zs_get (pc := 12) t242_12 (by decide) (zk1 (w18s.k fk_zMm_336)) (w18s.p rfl fv_zMm_336_0) ?_
    refine zs_iload_n (pc := 15) t242_15 rfl ?_
    refine zs_aload_n (pc := 16) t242_16 rfl ?_
    have w30 := zrg (zI w18M 336 8)
    refine zs_get (pc := 17) t242_17 (by decide) (zk1 (w18s.k fk_zMm_336)) (zfvi rfl rfl) ?_
    obtain ⟨w31n, w31⟩ : ∃ n : Nat, a.toInt = (n : Int) := ⟨(a.toInt).toNat, by omega⟩
    have w32 : zIv mLo mHi (zsI w18M 337 w31n (zI w18M 336 8)) := zIv.putA w18I (by omega) (by rw [show w31n = a.toInt.toNat by omega]; exact ⟨by omega, by omega⟩)
    have w33 : (zI w18M 337 0).toInt = (zI M 337 0).toInt := (congrArg Int32.toInt ((w18F 337 0 rfl).trans rfl)).trans rfl
    have w34 : (zI w18M 337 1).toInt = (zI M 337 1).toInt := (congrArg Int32.toInt ((w18F 337 1 rfl).trans rfl)).trans rfl
    have w35 : zPR (zsI w18M 337 w31n (zI w18M 336 8)) := zPR.put (zPR.fr pR (w18F.eq rfl)) (by omega) (by omega) (by omega) (by omega)
    have w36 : zPC (zsI w18M 337 w31n (zI w18M 336 8)) := zPC.put (zPC.fr pC (w18F.eq rfl)) (by omega) (by omega)
    have w37 : zRw (zsI w18M 337 w31n (zI w18M 336 8)) 0 (uS F w31n w19x) := zRw.put (zRw.fr' x1 (fun j hj => (w18F 337 j rfl))) (by omega)
    refine zs_iast (pc := 20) t242_20 (j := w31n) (by decide) (zk1 (w18s.k fk_zMm_337)) (show a.toInt = ((w31n : Nat) : Int) by omega) (zk2 (w18s.k fk_zMm_337) (by omega)) ?_
    refine zs_aload_n (pc := 21) t242_21 rfl ?_
    refine zs_iload (pc := 22) t242_22 rfl ?_
    have w38 := ib336_6 w18I
    have w39 : (zI (zsI w18M 337 w31n (zI w18M 336 8)) 336 6).toInt = (zI w18M 336 6).toInt := (congrArg Int32.toInt ((zIo (by decide)).trans rfl)).trans rfl
    have w40 : (zI (zsI w18M 337 w31n (zI w18M 336 8)) 336 5).toInt = (zI M 336 5).toInt := (congrArg Int32.toInt ((zIo (by decide)).trans ((w18F 336 5 rfl).trans rfl))).trans rfl
    have w41 := ib336_7 w18I
    have w42 : (zI (zsI w18M 337 w31n (zI w18M 336 8)) 336 7).toInt = (zI w18M 336 7).toInt := (congrArg Int32.toInt ((zIo (by decide)).trans rfl)).trans rfl
    have w43 : (zI (zsI w18M 337 w31n (zI w18M 336 8)) 336 6).toInt = (zI w18M 336 6).toInt := (congrArg Int32.toInt ((zIo (by decide)).trans rfl)).trans rfl
    refine zs_invV (pc := 24) (k := 336) (as' := [.int d]) (st := []) t242_24 mf246 rfl rfl (Or.inl ⟨by decide, (zk1 (w18s.k fk_zMm_336))⟩) ⟨by decide, by decide, Nat.le_of_ble_eq_true rfl, Nat.le_of_ble_eq_true rfl⟩ (R246 w18s w32 ⟨by omega, by omega⟩ (by omega) (by omega) (by omega) (zTm.mk x2 (fun j => ((zIo (by decide)).trans (w18F 339 j rfl))) ((zIo (by decide)).trans (w18F 336 5 rfl))) ?_) (fun _ _ q => q)
    intro w44M w44v w44s w44I w44F w44J w44x0 w44a w44b
    show zGo X l 3 0 0 242 27 [(0, .ref 336), (1, .int a), (2, .int b), (3, .int c), (4, .int d)] [.int w44v] w44M _
    have w45 : (zI w44M 337 0).toInt = (zI M 337 0).toInt := (congrArg Int32.toInt ((w44F 337 0 rfl).trans ((zIoj (by omega)).trans ((w18F 337 0 rfl).trans rfl)))).trans rfl
    have w46 : (zI w44M 337 2).toInt = (zI M 337 2).toInt := (congrArg Int32.toInt ((w44F 337 2 rfl).trans ((zIoj (by omega)).trans ((w18F 337 2 rfl).trans rfl)))).trans rfl
    have w47 := ib336_6 w44I
    have w48 : (zI w44M 336 6).toInt = (zI w44M 336 6).toInt := (congrArg Int32.toInt rfl).trans rfl
    have w49 := ib336_7 w44I
    have w50 : (zI w44M 336 7).toInt = (zI w44M 336 7).toInt := (congrArg Int32.toInt rfl).trans rfl
    have w51 : (zI w44M 337 1).toInt = (zI M 337 1).toInt := (congrArg Int32.toInt ((w44F 337 1 rfl).trans ((zIoj (by omega)).trans ((w18F 337 1 rfl).trans rfl)))).trans rfl
    have w52 : (zI w44M 336 6).toInt = (zI w44M 336 6).toInt := (congrArg Int32.toInt rfl).trans rfl
    have w53 : (zI w44M 336 7).toInt = (zI w44M 336 7).toInt := (congrArg Int32.toInt rfl).trans rfl
    have w44y := x2.rg w19e
    exact zs_iret (pc := 27) t242_27 mr242 (zfb01 (by omega)) (hQ _ _ w44s w44I ((((zFr.refl).trans (w18F.mono rfl)).put rfl).trans (w44F.mono rfl)) (w44J.trans w18J) ((((zUp.refl).trans (zUp.fr w18F rfl)).put (Or.inr (by omega))).trans (zUp.fr w44F rfl)) (zPR.fr w35 (w44F.eq rfl)) (zPC.fr w36 (w44F.eq rfl)) (by omega) (by omega) (by omega) (by omega) (by omega) (fun j hj => ((w44F 337 j rfl).trans ((zIoj (by omega)).trans (w18F 337 j rfl)))) (Or.inr (fun j hj => by
        obtain rfl : j = w31n := by omega
        rw [w44F 337 _ rfl, zIs]
        exact ⟨by omega, by omega⟩)) (fun p hp => by
        obtain rfl : w7n = p := (by omega)
        rcases w44x0 w19e (by omega) with ⟨q1, q2, q3, q4, q5⟩ | ⟨q1, q2, q3⟩
        · exact Or.inl ⟨by omega, w19e + 1, w19x, pRd.y w19_1 (by omega) (by omega) (by omega), by omega, by omega, by omega, by omega, by omega, by omega, by rw [show a.toInt.toNat = w31n by omega]; exact (zRw.fr' w37 (fun j hj => (w44F 337 j rfl)))⟩
        · exact Or.inr ⟨by omega, by omega, pRd.n w19_1 (by omega)⟩) (by omega) (by omega))
