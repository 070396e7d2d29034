theorem R244m {X : zX} {l : Launch} {M : zM} {Q : Option Value → zM → Prop} {a b c : Int32} (hs : zSk zMm M) (hI : zIv mLo mHi M) {gg : Nat → Int} {nn : Int} (ha : 0 ≤ a.toInt ∧ a.toInt ≤ 500) (u0 : (zI M 336 6).toInt ≤ (zI M 336 5).toInt) (u1 : 0 ≤ (zI M 336 6).toInt) (u2 : (zI M 336 7).toInt = -1) (x0 : zTm M gg nn) (hQ : ∀ (M' : zM) (v : Int32), zSk zMm M' → zIv mLo mHi M' → zFr [(336, 336, some 6), (336, 336, some 7), (336, 336, some 8)] M M' → zJ M' 351 = zJ M 351 → (∀ p : Nat, (zI M 336 6).toInt = (p : Int) → ∃ (e k : Nat) (x : Int), pDg gg 4 p = e ∧ e = p + k ∧ pVal gg p k = x ∧ (e : Int) ≤ nn ∧ 0 ≤ x ∧ x ≤ 9999 ∧ ((v.toInt = 1 ∧ e ≠ p ∧ ¬ (48 ≤ gg e ∧ gg e ≤ 57) ∧ (zI M' 336 6).toInt = (e : Int) ∧ (zI M' 336 8).toInt = -x ∧ b.toInt ≤ -x ∧ -x ≤ c.toInt ∧ (zI M' 336 7).toInt = -1) ∨ (v.toInt = 0 ∧ (zI M' 336 7).toInt ≠ -1 ∧ (e = p ∨ (48 ≤ gg e ∧ gg e ≤ 57) ∨ -x < b.toInt ∨ c.toInt < -x)))) → 0 ≤ v.toInt → v.toInt ≤ 1 → Q (some (.int v)) M') : zCall X l 1 0 0 244 [.ref 336, .int a, .int (-1 : Int32), .int b, .int c] M Q := by
  have ga := zrg a
  have gb := zrg b
  have gc := zrg c
  refine zs_in (by decide) mf244 (Nat.le_of_ble_eq_true rfl) ?_
  show zGo X l 1 0 0 244 0 [(0, .ref 336), (1, .int a), (2, .int (-1 : Int32)), (3, .int b), (4, .int c)] [] M _
  have hn := x0.2
  have w1 := ib336_5 hI
  have w2 : (zI M 336 5).toInt = (zI M 336 5).toInt := (congrArg Int32.toInt rfl).trans rfl
  have w3 := ib336_6 hI
  have w4 : (zI M 336 6).toInt = (zI M 336 6).toInt := (congrArg Int32.toInt rfl).trans rfl
  have w5 := ib336_7 hI
  have w6 : (zI M 336 7).toInt = (zI M 336 7).toInt := (congrArg Int32.toInt rfl).trans rfl
  obtain ⟨w7n, w7⟩ : ∃ n : Nat, (zI M 336 6).toInt = (n : Int) := ⟨((zI M 336 6).toInt).toNat, by omega⟩
  refine zs_aload_n (pc := 0) t244_0 rfl ?_
  refine zs_get (pc := 1) t244_1 (by decide) (zk1 (hs.k fk_zMm_336)) (zfvi rfl rfl) ?_
  refine zs_istore (pc := 4) t244_4 (ls' := [(5, .int (zI M 336 6)), (0, .ref 336), (1, .int a), (2, .int (-1 : Int32)), (3, .int b), (4, .int c)]) (zml mf244 (by decide)) rfl ?_
  refine zs_aload_n (pc := 6) t244_6 rfl ?_
  refine zs_iconst (pc := 7) t244_7 (v := 0) (by decide) ?_
  have w8 : zIv mLo mHi (zsI M 336 8 (0 : Int32)) := zIv.put hI (show (-2147483648) ≤ (0 : Int32).toInt ∧ (0 : Int32).toInt ≤ 2147483647 from zrg (0 : Int32))
  refine zs_putI (pc := 8) t244_8 (zk1 (hs.k fk_zMm_336)) rfl ?_
  have w9L : ∀ (m : Nat) (w9M : zM), zSk zMm w9M → zIv mLo mHi w9M → zFr [(336, 336, some 6), (336, 336, some 7), (336, 336, some 8)] (zsI M 336 8 (0 : Int32)) w9M → zJ w9M 351 = zJ (zsI M 336 8 (0 : Int32)) 351 → ((zI w9M 336 7).toInt = (zI (zsI M 336 8 (0 : Int32)) 336 7).toInt) → (((zI w9M 336 6).toInt = (zI M 336 6).toInt ∧ (zI w9M 336 8).toInt = 0) ∨ ((zI w9M 336 6).toInt = (zI M 336 6).toInt + 1 ∧ 0 ≤ (zI w9M 336 8).toInt ∧ (zI w9M 336 8).toInt ≤ 9) ∨ ((zI w9M 336 6).toInt = (zI M 336 6).toInt + 2 ∧ 0 ≤ (zI w9M 336 8).toInt ∧ (zI w9M 336 8).toInt ≤ 99) ∨ ((zI w9M 336 6).toInt = (zI M 336 6).toInt + 3 ∧ 0 ≤ (zI w9M 336 8).toInt ∧ (zI w9M 336 8).toInt ≤ 999) ∨ ((zI w9M 336 6).toInt = (zI M 336 6).toInt + 4 ∧ 0 ≤ (zI w9M 336 8).toInt ∧ (zI w9M 336 8).toInt ≤ 9999)) → ((zI w9M 336 6).toInt ≤ nn) → (∀ k q : Nat, (zI w9M 336 6).toInt = (q : Int) → (k : Int) = (zI M 336 6).toInt + 4 - (q : Int) → pDg gg 4 w7n = pDg gg k q) → (∀ d : Nat, (d : Int) = (zI w9M 336 6).toInt - (zI M 336 6).toInt → (zI w9M 336 8).toInt = pVal gg w7n d) → 500 - (zI w9M 336 6).toInt ≤ (m : Int) → zGo X l 1 0 0 244 11 [(0, .ref 336), (1, .int a), (2, .int (-1 : Int32)), (3, .int b), (4, .int c), (5, .int (zI M 336 6))] [] w9M Q := by
    intro m
    induction m using Nat.strongRecOn with
    | ind w9m w9ih =>
      intro w9M w9s w9I w9F w9J w9r0 w9r1 w9r2 w9t0 w9t1 w9q
      have w10 := ib336_7 w9I
      have w11 : (zI (zsI M 336 8 (0 : Int32)) 336 7).toInt = (zI M 336 7).toInt := (congrArg Int32.toInt ((zIoj (by decide)).trans rfl)).trans rfl
      have w12 := ib336_6 w9I
      have w13 := zrg (zI w9M 336 8)
      refine zs_aload_n (pc := 11) t244_11 rfl ?_
      refine zs_invV (pc := 12) (k := 336) (as' := []) (st := []) t244_12 mf238 rfl rfl (Or.inl ⟨by decide, (zk1 (w9s.k fk_zMm_336))⟩) ⟨by decide, by decide, Nat.le_of_ble_eq_true rfl, Nat.le_of_ble_eq_true rfl⟩ (H238 w9s w9I ?_) (fun _ _ q => q)
      have w14 := zhere.rg (M := w9M)
      have w15 : (zI w9M 336 6).toInt = (zI w9M 336 6).toInt := (congrArg Int32.toInt rfl).trans rfl
      have w16 : (zI w9M 336 5).toInt = (zI M 336 5).toInt := (congrArg Int32.toInt ((w9F 336 5 rfl).trans ((zIoj (by decide)).trans rfl))).trans rfl
      have w17 : (zI w9M 336 6).toInt = (zI w9M 336 6).toInt := (congrArg Int32.toInt rfl).trans rfl
      obtain ⟨w18n, w18⟩ : ∃ n : Nat, (zI w9M 336 6).toInt = (n : Int) := ⟨((zI w9M 336 6).toInt).toNat, by omega⟩
      have w19 : (zI w9M 336 5).toInt = (zI M 336 5).toInt := (congrArg Int32.toInt ((w9F 336 5 rfl).trans ((zIoj (by decide)).trans rfl))).trans rfl
      have w20 : (zhere w9M).toInt = gg w18n := zhere.tr (zTm.mk x0 (fun j => ((w9F 339 j rfl).trans (zIo (by decide)))) ((w9F 336 5 rfl).trans (zIoj (by decide)))) (by omega)
      have w21 := zTm.rg x0 w18n
      show zGo X l 1 0 0 244 15 [(0, .ref 336), (1, .int a), (2, .int (-1 : Int32)), (3, .int b), (4, .int c), (5, .int (zI M 336 6))] [.int (zhere w9M)] w9M _
      refine zs_invS (pc := 15) (as := [.int (zhere w9M)]) (st := []) t244_15 (by decide) mf245 rfl rfl ⟨by decide, by decide, Nat.le_of_ble_eq_true rfl, Nat.le_of_ble_eq_true rfl⟩ (K245 w9s w9I ?_) (fun _ _ q => q)
      intro w22v w22t0 w22a w22b
      show zGo X l 1 0 0 244 18 [(0, .ref 336), (1, .int a), (2, .int (-1 : Int32)), (3, .int b), (4, .int c), (5, .int (zI M 336 6))] [.int w22v] w9M _
      by_cases w23 : w22v.toInt = 0
      · refine zs_if_eqT (pc := 18) t244_18 rfl (by omega) ?_
        refine zs_aload_n (pc := 64) t244_64 rfl ?_
        refine zs_get (pc := 65) t244_65 (by decide) (zk1 (w9s.k fk_zMm_336)) (zfvi rfl rfl) ?_
        refine zs_iload (pc := 68) t244_68 rfl ?_
        by_cases w24 : (zI w9M 336 6).toInt = (zI M 336 6).toInt
        · refine zs_icmp_eqT (pc := 70) t244_70 rfl rfl (by omega) ?_
          refine zs_aload_n (pc := 83) t244_83 rfl ?_
          refine zs_aload_n (pc := 84) t244_84 rfl ?_
          refine zs_get (pc := 85) t244_85 (by decide) (zk1 (w9s.k fk_zMm_336)) (zfvi rfl rfl) ?_
          refine zs_invV (pc := 88) (k := 336) (as' := [.int (zI w9M 336 6)]) (st := []) t244_88 mf239 rfl rfl (Or.inl ⟨by decide, (zk1 (w9s.k fk_zMm_336))⟩) ⟨by decide, by decide, Nat.le_of_ble_eq_true rfl, Nat.le_of_ble_eq_true rfl⟩ (zs_in (by decide) mf239 (Nat.le_of_ble_eq_true rfl) ?_) (fun _ _ q => q)
          show zGo X l 0 0 0 239 0 [(0, .ref 336), (1, .int (zI w9M 336 6))] [] w9M _
          refine zs_aload_n (pc := 0) t239_0 rfl ?_
          refine zs_iload_n (pc := 1) t239_1 rfl ?_
          have w25 : zIv mLo mHi (zsI w9M 336 7 (zI w9M 336 6)) := zIv.put w9I (show (-1) ≤ (zI w9M 336 6).toInt ∧ (zI w9M 336 6).toInt ≤ 500 from ⟨by omega, by omega⟩)
          refine zs_putI (pc := 2) t239_2 (zk1 (w9s.k fk_zMm_336)) rfl ?_
          refine zs_iconst (pc := 5) t239_5 (v := 0) (by decide) ?_
          refine zs_iret (pc := 6) t239_6 mr239 (by decide) ?_
          show zGo X l 1 0 0 244 91 [(0, .ref 336), (1, .int a), (2, .int (-1 : Int32)), (3, .int b), (4, .int c), (5, .int (zI M 336 6))] [.int (0 : Int32)] (zsI w9M 336 7 (zI w9M 336 6)) _
          have w26 : (0 : Int32).toInt = 0 := li0
          have w27 : (zI (zsI w9M 336 7 (zI w9M 336 6)) 336 6).toInt = (zI w9M 336 6).toInt := (congrArg Int32.toInt ((zIoj (by decide)).trans rfl)).trans rfl
          have w28 : (zI (zsI w9M 336 7 (zI w9M 336 6)) 336 7).toInt = (zI w9M 336 6).toInt := (congrArg Int32.toInt zIs).trans rfl
          have w29 : (zI (zsI w9M 336 7 (zI w9M 336 6)) 336 8).toInt = (zI w9M 336 8).toInt := (congrArg Int32.toInt ((zIoj (by decide)).trans rfl)).trans rfl
          have w30 : pDg gg 4 w7n = w18n := by first | exact w9t0 0 w18n (by omega) (by omega) | exact (w9t0 (w7n + 4 - w18n) w18n (by omega) (by omega)).trans (pDg.z (by omega))
          exact zs_iret (pc := 91) t244_91 mr244 (by decide) (hQ _ _ w9s w25 ((((zFr.refl).put rfl).trans (w9F.mono rfl)).put rfl) w9J (fun p hp => by obtain rfl : w7n = p := (by omega); exact ⟨w18n, w18n - w7n, (zI w9M 336 8).toInt, w30, by omega, (w9t1 (w18n - w7n) (by omega)).symm, by omega, by omega, by omega, by omega⟩) (by decide) (by decide))
        · refine zs_icmp_eqF (pc := 70) t244_70 rfl rfl (by omega) ?_
          refine zs_aload_n (pc := 73) t244_73 rfl ?_
          refine zs_invV (pc := 74) (k := 336) (as' := []) (st := []) t244_74 mf238 rfl rfl (Or.inl ⟨by decide, (zk1 (w9s.k fk_zMm_336))⟩) ⟨by decide, by decide, Nat.le_of_ble_eq_true rfl, Nat.le_of_ble_eq_true rfl⟩ (H238 w9s w9I ?_) (fun _ _ q => q)
          have w31 := zhere.rg (M := w9M)
          have w32 : (zI w9M 336 6).toInt = (zI w9M 336 6).toInt := (congrArg Int32.toInt rfl).trans rfl
          have w33 : (zI w9M 336 5).toInt = (zI M 336 5).toInt := (congrArg Int32.toInt ((w9F 336 5 rfl).trans ((zIoj (by decide)).trans rfl))).trans rfl
          have w34 : (zI w9M 336 6).toInt = (zI w9M 336 6).toInt := (congrArg Int32.toInt rfl).trans rfl
          have w35 : (zI w9M 336 5).toInt = (zI M 336 5).toInt := (congrArg Int32.toInt ((w9F 336 5 rfl).trans ((zIoj (by decide)).trans rfl))).trans rfl
          have w36 : (zhere w9M).toInt = gg w18n := zhere.tr (zTm.mk x0 (fun j => ((w9F 339 j rfl).trans (zIo (by decide)))) ((w9F 336 5 rfl).trans (zIoj (by decide)))) (by omega)
          have w37 := zTm.rg x0 w18n
          show zGo X l 1 0 0 244 77 [(0, .ref 336), (1, .int a), (2, .int (-1 : Int32)), (3, .int b), (4, .int c), (5, .int (zI M 336 6))] [.int (zhere w9M)] w9M _
          refine zs_invS (pc := 77) (as := [.int (zhere w9M)]) (st := []) t244_77 (by decide) mf245 rfl rfl ⟨by decide, by decide, Nat.le_of_ble_eq_true rfl, Nat.le_of_ble_eq_true rfl⟩ (K245 w9s w9I ?_) (fun _ _ q => q)
          intro w38v w38t0 w38a w38b
          show zGo X l 1 0 0 244 80 [(0, .ref 336), (1, .int a), (2, .int (-1 : Int32)), (3, .int b), (4, .int c), (5, .int (zI M 336 6))] [.int w38v] w9M _
          by_cases w39 : w38v.toInt = 0
          · refine zs_if_eqT (pc := 80) t244_80 rfl (by omega) ?_
            refine zs_aload_n (pc := 92) t244_92 rfl ?_
            refine zs_dup (pc := 93) t244_93 rfl ?_
            refine zs_get (pc := 94) t244_94 (by decide) (zk1 (w9s.k fk_zMm_336)) (zfvi rfl rfl) ?_
            refine zs_iload_n (pc := 97) t244_97 rfl ?_
            obtain ⟨w40v, w40⟩ : ∃ v, (zI w9M 336 8) * (-1 : Int32) = v := ⟨_, rfl⟩
            have w40g : w40v.toInt = (zI w9M 336 8).toInt * (-1) := by rw [← w40]; exact zmulc rfl lin1 (by omega) (by omega)
            refine zs_imul (pc := 98) t244_98 (c := w40v) w40 ?_
            have w41 : zIv mLo mHi (zsI w9M 336 8 w40v) := zIv.put w9I (show (-2147483648) ≤ w40v.toInt ∧ w40v.toInt ≤ 2147483647 from zrg w40v)
            refine zs_putI (pc := 99) t244_99 (zk1 (w9s.k fk_zMm_336)) rfl ?_
            refine zs_aload_n (pc := 102) t244_102 rfl ?_
            refine zs_get (pc := 103) t244_103 (by decide) (zk1 (w9s.k fk_zMm_336)) (zfvi rfl zIs) ?_
            refine zs_i2l (pc := 106) t244_106 rfl ?_
            refine zs_iload_n (pc := 107) t244_107 rfl ?_
            refine zs_i2l (pc := 108) t244_108 rfl ?_
            refine zs_iload (pc := 109) t244_109 rfl ?_
            refine zs_i2l (pc := 111) t244_111 rfl ?_
            by_cases w42 : b.toInt ≤ ((zI w9M 336 8).toInt * (-1)) ∧ ((zI w9M 336 8).toInt * (-1)) ≤ c.toInt
            · refine zs_invS (pc := 112) (as := [.long w40v.toInt64, .long b.toInt64, .long c.toInt64]) (st := []) t244_112 (by decide) mf228 rfl rfl ⟨by decide, by decide, Nat.le_of_ble_eq_true rfl, Nat.le_of_ble_eq_true rfl⟩ (K228T (zi2l w40g) (zi2l rfl) (zi2l rfl) (by omega) ?_) (fun _ _ q => q)
              show zGo X l 1 0 0 244 115 [(0, .ref 336), (1, .int a), (2, .int (-1 : Int32)), (3, .int b), (4, .int c), (5, .int (zI M 336 6))] [.int (1 : Int32)] (zsI w9M 336 8 w40v) _
              refine zs_if_neT (pc := 115) t244_115 li1 (by decide) ?_
              refine zs_iconst (pc := 126) t244_126 (v := 1) (by decide) ?_
              refine zs_goto (pc := 127) t244_127 ?_
              have w43 : (1 : Int32).toInt = 1 := li1
              have w44 : (zI (zsI w9M 336 8 w40v) 336 6).toInt = (zI w9M 336 6).toInt := (congrArg Int32.toInt ((zIoj (by decide)).trans rfl)).trans rfl
              have w45 : (zI (zsI w9M 336 8 w40v) 336 7).toInt = (zI w9M 336 7).toInt := (congrArg Int32.toInt ((zIoj (by decide)).trans rfl)).trans rfl
              have w46 : (zI (zsI w9M 336 8 w40v) 336 8).toInt = ((zI w9M 336 8).toInt * (-1)) := (congrArg Int32.toInt zIs).trans w40g
              have w47 : pDg gg 4 w7n = w18n := by first | exact w9t0 0 w18n (by omega) (by omega) | exact (w9t0 (w7n + 4 - w18n) w18n (by omega) (by omega)).trans (pDg.z (by omega))
              exact zs_iret (pc := 131) t244_131 mr244 (by decide) (hQ _ _ w9s w41 ((((zFr.refl).put rfl).trans (w9F.mono rfl)).put rfl) w9J (fun p hp => by obtain rfl : w7n = p := (by omega); exact ⟨w18n, w18n - w7n, (zI w9M 336 8).toInt, w47, by omega, (w9t1 (w18n - w7n) (by omega)).symm, by omega, by omega, by omega, by omega⟩) (by decide) (by decide))
            · refine zs_invS (pc := 112) (as := [.long w40v.toInt64, .long b.toInt64, .long c.toInt64]) (st := []) t244_112 (by decide) mf228 rfl rfl ⟨by decide, by decide, Nat.le_of_ble_eq_true rfl, Nat.le_of_ble_eq_true rfl⟩ (K228F (zi2l w40g) (zi2l rfl) (zi2l rfl) (by omega) ?_) (fun _ _ q => q)
              show zGo X l 1 0 0 244 115 [(0, .ref 336), (1, .int a), (2, .int (-1 : Int32)), (3, .int b), (4, .int c), (5, .int (zI M 336 6))] [.int (0 : Int32)] (zsI w9M 336 8 w40v) _
              refine zs_if_neF (pc := 115) t244_115 li0 (by decide) ?_
              refine zs_aload_n (pc := 118) t244_118 rfl ?_
              refine zs_iload_n (pc := 119) t244_119 rfl ?_
              refine zs_invV (pc := 120) (k := 336) (as' := [.int a]) (st := []) t244_120 mf239 rfl rfl (Or.inl ⟨by decide, (zk1 (w9s.k fk_zMm_336))⟩) ⟨by decide, by decide, Nat.le_of_ble_eq_true rfl, Nat.le_of_ble_eq_true rfl⟩ (zs_in (by decide) mf239 (Nat.le_of_ble_eq_true rfl) ?_) (fun _ _ q => q)
              show zGo X l 0 0 0 239 0 [(0, .ref 336), (1, .int a)] [] (zsI w9M 336 8 w40v) _
              refine zs_aload_n (pc := 0) t239_0 rfl ?_
              refine zs_iload_n (pc := 1) t239_1 rfl ?_
              have w48 : zIv mLo mHi (zsI (zsI w9M 336 8 w40v) 336 7 a) := zIv.put w41 (show (-1) ≤ a.toInt ∧ a.toInt ≤ 500 from ⟨by omega, by omega⟩)
              refine zs_putI (pc := 2) t239_2 (zk1 (w9s.k fk_zMm_336)) rfl ?_
              refine zs_iconst (pc := 5) t239_5 (v := 0) (by decide) ?_
              refine zs_iret (pc := 6) t239_6 mr239 (by decide) ?_
              show zGo X l 1 0 0 244 123 [(0, .ref 336), (1, .int a), (2, .int (-1 : Int32)), (3, .int b), (4, .int c), (5, .int (zI M 336 6))] [.int (0 : Int32)] (zsI (zsI w9M 336 8 w40v) 336 7 a) _
              refine zs_if_eqT (pc := 123) t244_123 li0 (by decide) ?_
              refine zs_iconst (pc := 130) t244_130 (v := 0) (by decide) ?_
              have w49 : (0 : Int32).toInt = 0 := li0
              have w50 : (zI (zsI (zsI w9M 336 8 w40v) 336 7 a) 336 6).toInt = (zI w9M 336 6).toInt := (congrArg Int32.toInt ((zIoj (by decide)).trans ((zIoj (by decide)).trans rfl))).trans rfl
              have w51 : (zI (zsI (zsI w9M 336 8 w40v) 336 7 a) 336 7).toInt = a.toInt := (congrArg Int32.toInt zIs).trans rfl
              have w52 : (zI (zsI (zsI w9M 336 8 w40v) 336 7 a) 336 8).toInt = ((zI w9M 336 8).toInt * (-1)) := (congrArg Int32.toInt ((zIoj (by decide)).trans zIs)).trans w40g
              have w53 : pDg gg 4 w7n = w18n := by first | exact w9t0 0 w18n (by omega) (by omega) | exact (w9t0 (w7n + 4 - w18n) w18n (by omega) (by omega)).trans (pDg.z (by omega))
              exact zs_iret (pc := 131) t244_131 mr244 (by decide) (hQ _ _ w9s w48 (((((zFr.refl).put rfl).trans (w9F.mono rfl)).put rfl).put rfl) w9J (fun p hp => by obtain rfl : w7n = p := (by omega); exact ⟨w18n, w18n - w7n, (zI w9M 336 8).toInt, w53, by omega, (w9t1 (w18n - w7n) (by omega)).symm, by omega, by omega, by omega, by omega⟩) (by decide) (by decide))
          · refine zs_if_eqF (pc := 80) t244_80 rfl (by omega) ?_
            refine zs_aload_n (pc := 83) t244_83 rfl ?_
            refine zs_aload_n (pc := 84) t244_84 rfl ?_
            refine zs_get (pc := 85) t244_85 (by decide) (zk1 (w9s.k fk_zMm_336)) (zfvi rfl rfl) ?_
            refine zs_invV (pc := 88) (k := 336) (as' := [.int (zI w9M 336 6)]) (st := []) t244_88 mf239 rfl rfl (Or.inl ⟨by decide, (zk1 (w9s.k fk_zMm_336))⟩) ⟨by decide, by decide, Nat.le_of_ble_eq_true rfl, Nat.le_of_ble_eq_true rfl⟩ (zs_in (by decide) mf239 (Nat.le_of_ble_eq_true rfl) ?_) (fun _ _ q => q)
            show zGo X l 0 0 0 239 0 [(0, .ref 336), (1, .int (zI w9M 336 6))] [] w9M _
            refine zs_aload_n (pc := 0) t239_0 rfl ?_
            refine zs_iload_n (pc := 1) t239_1 rfl ?_
            have w54 : zIv mLo mHi (zsI w9M 336 7 (zI w9M 336 6)) := zIv.put w9I (show (-1) ≤ (zI w9M 336 6).toInt ∧ (zI w9M 336 6).toInt ≤ 500 from ⟨by omega, by omega⟩)
            refine zs_putI (pc := 2) t239_2 (zk1 (w9s.k fk_zMm_336)) rfl ?_
            refine zs_iconst (pc := 5) t239_5 (v := 0) (by decide) ?_
            refine zs_iret (pc := 6) t239_6 mr239 (by decide) ?_
            show zGo X l 1 0 0 244 91 [(0, .ref 336), (1, .int a), (2, .int (-1 : Int32)), (3, .int b), (4, .int c), (5, .int (zI M 336 6))] [.int (0 : Int32)] (zsI w9M 336 7 (zI w9M 336 6)) _
            have w55 : (0 : Int32).toInt = 0 := li0
            have w56 : (zI (zsI w9M 336 7 (zI w9M 336 6)) 336 6).toInt = (zI w9M 336 6).toInt := (congrArg Int32.toInt ((zIoj (by decide)).trans rfl)).trans rfl
            have w57 : (zI (zsI w9M 336 7 (zI w9M 336 6)) 336 7).toInt = (zI w9M 336 6).toInt := (congrArg Int32.toInt zIs).trans rfl
            have w58 : (zI (zsI w9M 336 7 (zI w9M 336 6)) 336 8).toInt = (zI w9M 336 8).toInt := (congrArg Int32.toInt ((zIoj (by decide)).trans rfl)).trans rfl
            have w59 : pDg gg 4 w7n = w18n := by first | exact w9t0 0 w18n (by omega) (by omega) | exact (w9t0 (w7n + 4 - w18n) w18n (by omega) (by omega)).trans (pDg.z (by omega))
            exact zs_iret (pc := 91) t244_91 mr244 (by decide) (hQ _ _ w9s w54 ((((zFr.refl).put rfl).trans (w9F.mono rfl)).put rfl) w9J (fun p hp => by obtain rfl : w7n = p := (by omega); exact ⟨w18n, w18n - w7n, (zI w9M 336 8).toInt, w59, by omega, (w9t1 (w18n - w7n) (by omega)).symm, by omega, by omega, by omega, by omega⟩) (by decide) (by decide))
      · refine zs_if_eqF (pc := 18) t244_18 rfl (by omega) ?_
        refine zs_aload_n (pc := 21) t244_21 rfl ?_
        refine zs_get (pc := 22) t244_22 (by decide) (zk1 (w9s.k fk_zMm_336)) (zfvi rfl rfl) ?_
        refine zs_iload (pc := 25) t244_25 rfl ?_
        obtain ⟨w60v, w60e, w60⟩ := zisub (a := (zI w9M 336 6)) (b := (zI M 336 6)) rfl rfl (by omega) (by omega)
        refine zs_isub (pc := 27) t244_27 (c := w60v) w60e ?_
        refine zs_iconst (pc := 28) t244_28 (v := 4) (by decide) ?_
        by_cases w61 : 4 ≤ ((zI w9M 336 6).toInt - (zI M 336 6).toInt)
        · refine zs_icmp_geT (pc := 29) t244_29 w60 li4 (by omega) ?_
          refine zs_aload_n (pc := 64) t244_64 rfl ?_
          refine zs_get (pc := 65) t244_65 (by decide) (zk1 (w9s.k fk_zMm_336)) (zfvi rfl rfl) ?_
          refine zs_iload (pc := 68) t244_68 rfl ?_
          by_cases w62 : (zI w9M 336 6).toInt = (zI M 336 6).toInt
          · refine zs_icmp_eqT (pc := 70) t244_70 rfl rfl (by omega) ?_
            refine zs_aload_n (pc := 83) t244_83 rfl ?_
            refine zs_aload_n (pc := 84) t244_84 rfl ?_
            refine zs_get (pc := 85) t244_85 (by decide) (zk1 (w9s.k fk_zMm_336)) (zfvi rfl rfl) ?_
            refine zs_invV (pc := 88) (k := 336) (as' := [.int (zI w9M 336 6)]) (st := []) t244_88 mf239 rfl rfl (Or.inl ⟨by decide, (zk1 (w9s.k fk_zMm_336))⟩) ⟨by decide, by decide, Nat.le_of_ble_eq_true rfl, Nat.le_of_ble_eq_true rfl⟩ (zs_in (by decide) mf239 (Nat.le_of_ble_eq_true rfl) ?_) (fun _ _ q => q)
            show zGo X l 0 0 0 239 0 [(0, .ref 336), (1, .int (zI w9M 336 6))] [] w9M _
            refine zs_aload_n (pc := 0) t239_0 rfl ?_
            refine zs_iload_n (pc := 1) t239_1 rfl ?_
            have w63 : zIv mLo mHi (zsI w9M 336 7 (zI w9M 336 6)) := zIv.put w9I (show (-1) ≤ (zI w9M 336 6).toInt ∧ (zI w9M 336 6).toInt ≤ 500 from ⟨by omega, by omega⟩)
            refine zs_putI (pc := 2) t239_2 (zk1 (w9s.k fk_zMm_336)) rfl ?_
            refine zs_iconst (pc := 5) t239_5 (v := 0) (by decide) ?_
            refine zs_iret (pc := 6) t239_6 mr239 (by decide) ?_
            show zGo X l 1 0 0 244 91 [(0, .ref 336), (1, .int a), (2, .int (-1 : Int32)), (3, .int b), (4, .int c), (5, .int (zI M 336 6))] [.int (0 : Int32)] (zsI w9M 336 7 (zI w9M 336 6)) _
            have w64 : (0 : Int32).toInt = 0 := li0
            have w65 : (zI (zsI w9M 336 7 (zI w9M 336 6)) 336 6).toInt = (zI w9M 336 6).toInt := (congrArg Int32.toInt ((zIoj (by decide)).trans rfl)).trans rfl
            have w66 : (zI (zsI w9M 336 7 (zI w9M 336 6)) 336 7).toInt = (zI w9M 336 6).toInt := (congrArg Int32.toInt zIs).trans rfl
            have w67 : (zI (zsI w9M 336 7 (zI w9M 336 6)) 336 8).toInt = (zI w9M 336 8).toInt := (congrArg Int32.toInt ((zIoj (by decide)).trans rfl)).trans rfl
            have w68 : pDg gg 4 w7n = w18n := by first | exact w9t0 0 w18n (by omega) (by omega) | exact (w9t0 (w7n + 4 - w18n) w18n (by omega) (by omega)).trans (pDg.z (by omega))
            exact zs_iret (pc := 91) t244_91 mr244 (by decide) (hQ _ _ w9s w63 ((((zFr.refl).put rfl).trans (w9F.mono rfl)).put rfl) w9J (fun p hp => by obtain rfl : w7n = p := (by omega); exact ⟨w18n, w18n - w7n, (zI w9M 336 8).toInt, w68, by omega, (w9t1 (w18n - w7n) (by omega)).symm, by omega, by omega, by omega, by omega⟩) (by decide) (by decide))
          · refine zs_icmp_eqF (pc := 70) t244_70 rfl rfl (by omega) ?_
            refine zs_aload_n (pc := 73) t244_73 rfl ?_
            refine zs_invV (pc := 74) (k := 336) (as' := []) (st := []) t244_74 mf238 rfl rfl (Or.inl ⟨by decide, (zk1 (w9s.k fk_zMm_336))⟩) ⟨by decide, by decide, Nat.le_of_ble_eq_true rfl, Nat.le_of_ble_eq_true rfl⟩ (H238 w9s w9I ?_) (fun _ _ q => q)
            have w69 := zhere.rg (M := w9M)
            have w70 : (zI w9M 336 6).toInt = (zI w9M 336 6).toInt := (congrArg Int32.toInt rfl).trans rfl
            have w71 : (zI w9M 336 5).toInt = (zI M 336 5).toInt := (congrArg Int32.toInt ((w9F 336 5 rfl).trans ((zIoj (by decide)).trans rfl))).trans rfl
            have w72 : (zI w9M 336 6).toInt = (zI w9M 336 6).toInt := (congrArg Int32.toInt rfl).trans rfl
            have w73 : (zI w9M 336 5).toInt = (zI M 336 5).toInt := (congrArg Int32.toInt ((w9F 336 5 rfl).trans ((zIoj (by decide)).trans rfl))).trans rfl
            have w74 : (zhere w9M).toInt = gg w18n := zhere.tr (zTm.mk x0 (fun j => ((w9F 339 j rfl).trans (zIo (by decide)))) ((w9F 336 5 rfl).trans (zIoj (by decide)))) (by omega)
            have w75 := zTm.rg x0 w18n
            show zGo X l 1 0 0 244 77 [(0, .ref 336), (1, .int a), (2, .int (-1 : Int32)), (3, .int b), (4, .int c), (5, .int (zI M 336 6))] [.int (zhere w9M)] w9M _
            refine zs_invS (pc := 77) (as := [.int (zhere w9M)]) (st := []) t244_77 (by decide) mf245 rfl rfl ⟨by decide, by decide, Nat.le_of_ble_eq_true rfl, Nat.le_of_ble_eq_true rfl⟩ (K245 w9s w9I ?_) (fun _ _ q => q)
            intro w76v w76t0 w76a w76b
            show zGo X l 1 0 0 244 80 [(0, .ref 336), (1, .int a), (2, .int (-1 : Int32)), (3, .int b), (4, .int c), (5, .int (zI M 336 6))] [.int w76v] w9M _
            by_cases w77 : w76v.toInt = 0
            · refine zs_if_eqT (pc := 80) t244_80 rfl (by omega) ?_
              refine zs_aload_n (pc := 92) t244_92 rfl ?_
              refine zs_dup (pc := 93) t244_93 rfl ?_
              refine zs_get (pc := 94) t244_94 (by decide) (zk1 (w9s.k fk_zMm_336)) (zfvi rfl rfl) ?_
              refine zs_iload_n (pc := 97) t244_97 rfl ?_
              obtain ⟨w78v, w78⟩ : ∃ v, (zI w9M 336 8) * (-1 : Int32) = v := ⟨_, rfl⟩
              have w78g : w78v.toInt = (zI w9M 336 8).toInt * (-1) := by rw [← w78]; exact zmulc rfl lin1 (by omega) (by omega)
              refine zs_imul (pc := 98) t244_98 (c := w78v) w78 ?_
              have w79 : zIv mLo mHi (zsI w9M 336 8 w78v) := zIv.put w9I (show (-2147483648) ≤ w78v.toInt ∧ w78v.toInt ≤ 2147483647 from zrg w78v)
              refine zs_putI (pc := 99) t244_99 (zk1 (w9s.k fk_zMm_336)) rfl ?_
              refine zs_aload_n (pc := 102) t244_102 rfl ?_
              refine zs_get (pc := 103) t244_103 (by decide) (zk1 (w9s.k fk_zMm_336)) (zfvi rfl zIs) ?_
              refine zs_i2l (pc := 106) t244_106 rfl ?_
              refine zs_iload_n (pc := 107) t244_107 rfl ?_
              refine zs_i2l (pc := 108) t244_108 rfl ?_
              refine zs_iload (pc := 109) t244_109 rfl ?_
              refine zs_i2l (pc := 111) t244_111 rfl ?_
              by_cases w80 : b.toInt ≤ ((zI w9M 336 8).toInt * (-1)) ∧ ((zI w9M 336 8).toInt * (-1)) ≤ c.toInt
              · refine zs_invS (pc := 112) (as := [.long w78v.toInt64, .long b.toInt64, .long c.toInt64]) (st := []) t244_112 (by decide) mf228 rfl rfl ⟨by decide, by decide, Nat.le_of_ble_eq_true rfl, Nat.le_of_ble_eq_true rfl⟩ (K228T (zi2l w78g) (zi2l rfl) (zi2l rfl) (by omega) ?_) (fun _ _ q => q)
                show zGo X l 1 0 0 244 115 [(0, .ref 336), (1, .int a), (2, .int (-1 : Int32)), (3, .int b), (4, .int c), (5, .int (zI M 336 6))] [.int (1 : Int32)] (zsI w9M 336 8 w78v) _
                refine zs_if_neT (pc := 115) t244_115 li1 (by decide) ?_
                refine zs_iconst (pc := 126) t244_126 (v := 1) (by decide) ?_
                refine zs_goto (pc := 127) t244_127 ?_
                have w81 : (1 : Int32).toInt = 1 := li1
                have w82 : (zI (zsI w9M 336 8 w78v) 336 6).toInt = (zI w9M 336 6).toInt := (congrArg Int32.toInt ((zIoj (by decide)).trans rfl)).trans rfl
                have w83 : (zI (zsI w9M 336 8 w78v) 336 7).toInt = (zI w9M 336 7).toInt := (congrArg Int32.toInt ((zIoj (by decide)).trans rfl)).trans rfl
                have w84 : (zI (zsI w9M 336 8 w78v) 336 8).toInt = ((zI w9M 336 8).toInt * (-1)) := (congrArg Int32.toInt zIs).trans w78g
                have w85 : pDg gg 4 w7n = w18n := by first | exact w9t0 0 w18n (by omega) (by omega) | exact (w9t0 (w7n + 4 - w18n) w18n (by omega) (by omega)).trans (pDg.z (by omega))
                exact zs_iret (pc := 131) t244_131 mr244 (by decide) (hQ _ _ w9s w79 ((((zFr.refl).put rfl).trans (w9F.mono rfl)).put rfl) w9J (fun p hp => by obtain rfl : w7n = p := (by omega); exact ⟨w18n, w18n - w7n, (zI w9M 336 8).toInt, w85, by omega, (w9t1 (w18n - w7n) (by omega)).symm, by omega, by omega, by omega, by omega⟩) (by decide) (by decide))
              · refine zs_invS (pc := 112) (as := [.long w78v.toInt64, .long b.toInt64, .long c.toInt64]) (st := []) t244_112 (by decide) mf228 rfl rfl ⟨by decide, by decide, Nat.le_of_ble_eq_true rfl, Nat.le_of_ble_eq_true rfl⟩ (K228F (zi2l w78g) (zi2l rfl) (zi2l rfl) (by omega) ?_) (fun _ _ q => q)
                show zGo X l 1 0 0 244 115 [(0, .ref 336), (1, .int a), (2, .int (-1 : Int32)), (3, .int b), (4, .int c), (5, .int (zI M 336 6))] [.int (0 : Int32)] (zsI w9M 336 8 w78v) _
                refine zs_if_neF (pc := 115) t244_115 li0 (by decide) ?_
                refine zs_aload_n (pc := 118) t244_118 rfl ?_
                refine zs_iload_n (pc := 119) t244_119 rfl ?_
                refine zs_invV (pc := 120) (k := 336) (as' := [.int a]) (st := []) t244_120 mf239 rfl rfl (Or.inl ⟨by decide, (zk1 (w9s.k fk_zMm_336))⟩) ⟨by decide, by decide, Nat.le_of_ble_eq_true rfl, Nat.le_of_ble_eq_true rfl⟩ (zs_in (by decide) mf239 (Nat.le_of_ble_eq_true rfl) ?_) (fun _ _ q => q)
                show zGo X l 0 0 0 239 0 [(0, .ref 336), (1, .int a)] [] (zsI w9M 336 8 w78v) _
                refine zs_aload_n (pc := 0) t239_0 rfl ?_
                refine zs_iload_n (pc := 1) t239_1 rfl ?_
                have w86 : zIv mLo mHi (zsI (zsI w9M 336 8 w78v) 336 7 a) := zIv.put w79 (show (-1) ≤ a.toInt ∧ a.toInt ≤ 500 from ⟨by omega, by omega⟩)
                refine zs_putI (pc := 2) t239_2 (zk1 (w9s.k fk_zMm_336)) rfl ?_
                refine zs_iconst (pc := 5) t239_5 (v := 0) (by decide) ?_
                refine zs_iret (pc := 6) t239_6 mr239 (by decide) ?_
                show zGo X l 1 0 0 244 123 [(0, .ref 336), (1, .int a), (2, .int (-1 : Int32)), (3, .int b), (4, .int c), (5, .int (zI M 336 6))] [.int (0 : Int32)] (zsI (zsI w9M 336 8 w78v) 336 7 a) _
                refine zs_if_eqT (pc := 123) t244_123 li0 (by decide) ?_
                refine zs_iconst (pc := 130) t244_130 (v := 0) (by decide) ?_
                have w87 : (0 : Int32).toInt = 0 := li0
                have w88 : (zI (zsI (zsI w9M 336 8 w78v) 336 7 a) 336 6).toInt = (zI w9M 336 6).toInt := (congrArg Int32.toInt ((zIoj (by decide)).trans ((zIoj (by decide)).trans rfl))).trans rfl
                have w89 : (zI (zsI (zsI w9M 336 8 w78v) 336 7 a) 336 7).toInt = a.toInt := (congrArg Int32.toInt zIs).trans rfl
                have w90 : (zI (zsI (zsI w9M 336 8 w78v) 336 7 a) 336 8).toInt = ((zI w9M 336 8).toInt * (-1)) := (congrArg Int32.toInt ((zIoj (by decide)).trans zIs)).trans w78g
                have w91 : pDg gg 4 w7n = w18n := by first | exact w9t0 0 w18n (by omega) (by omega) | exact (w9t0 (w7n + 4 - w18n) w18n (by omega) (by omega)).trans (pDg.z (by omega))
                exact zs_iret (pc := 131) t244_131 mr244 (by decide) (hQ _ _ w9s w86 (((((zFr.refl).put rfl).trans (w9F.mono rfl)).put rfl).put rfl) w9J (fun p hp => by obtain rfl : w7n = p := (by omega); exact ⟨w18n, w18n - w7n, (zI w9M 336 8).toInt, w91, by omega, (w9t1 (w18n - w7n) (by omega)).symm, by omega, by omega, by omega, by omega⟩) (by decide) (by decide))
            · refine zs_if_eqF (pc := 80) t244_80 rfl (by omega) ?_
              refine zs_aload_n (pc := 83) t244_83 rfl ?_
              refine zs_aload_n (pc := 84) t244_84 rfl ?_
              refine zs_get (pc := 85) t244_85 (by decide) (zk1 (w9s.k fk_zMm_336)) (zfvi rfl rfl) ?_
              refine zs_invV (pc := 88) (k := 336) (as' := [.int (zI w9M 336 6)]) (st := []) t244_88 mf239 rfl rfl (Or.inl ⟨by decide, (zk1 (w9s.k fk_zMm_336))⟩) ⟨by decide, by decide, Nat.le_of_ble_eq_true rfl, Nat.le_of_ble_eq_true rfl⟩ (zs_in (by decide) mf239 (Nat.le_of_ble_eq_true rfl) ?_) (fun _ _ q => q)
              show zGo X l 0 0 0 239 0 [(0, .ref 336), (1, .int (zI w9M 336 6))] [] w9M _
              refine zs_aload_n (pc := 0) t239_0 rfl ?_
              refine zs_iload_n (pc := 1) t239_1 rfl ?_
              have w92 : zIv mLo mHi (zsI w9M 336 7 (zI w9M 336 6)) := zIv.put w9I (show (-1) ≤ (zI w9M 336 6).toInt ∧ (zI w9M 336 6).toInt ≤ 500 from ⟨by omega, by omega⟩)
              refine zs_putI (pc := 2) t239_2 (zk1 (w9s.k fk_zMm_336)) rfl ?_
              refine zs_iconst (pc := 5) t239_5 (v := 0) (by decide) ?_
              refine zs_iret (pc := 6) t239_6 mr239 (by decide) ?_
              show zGo X l 1 0 0 244 91 [(0, .ref 336), (1, .int a), (2, .int (-1 : Int32)), (3, .int b), (4, .int c), (5, .int (zI M 336 6))] [.int (0 : Int32)] (zsI w9M 336 7 (zI w9M 336 6)) _
              have w93 : (0 : Int32).toInt = 0 := li0
              have w94 : (zI (zsI w9M 336 7 (zI w9M 336 6)) 336 6).toInt = (zI w9M 336 6).toInt := (congrArg Int32.toInt ((zIoj (by decide)).trans rfl)).trans rfl
              have w95 : (zI (zsI w9M 336 7 (zI w9M 336 6)) 336 7).toInt = (zI w9M 336 6).toInt := (congrArg Int32.toInt zIs).trans rfl
              have w96 : (zI (zsI w9M 336 7 (zI w9M 336 6)) 336 8).toInt = (zI w9M 336 8).toInt := (congrArg Int32.toInt ((zIoj (by decide)).trans rfl)).trans rfl
              have w97 : pDg gg 4 w7n = w18n := by first | exact w9t0 0 w18n (by omega) (by omega) | exact (w9t0 (w7n + 4 - w18n) w18n (by omega) (by omega)).trans (pDg.z (by omega))
              exact zs_iret (pc := 91) t244_91 mr244 (by decide) (hQ _ _ w9s w92 ((((zFr.refl).put rfl).trans (w9F.mono rfl)).put rfl) w9J (fun p hp => by obtain rfl : w7n = p := (by omega); exact ⟨w18n, w18n - w7n, (zI w9M 336 8).toInt, w97, by omega, (w9t1 (w18n - w7n) (by omega)).symm, by omega, by omega, by omega, by omega⟩) (by decide) (by decide))
        · refine zs_icmp_geF (pc := 29) t244_29 w60 li4 (by omega) ?_
          refine zs_aload_n (pc := 32) t244_32 rfl ?_
          refine zs_bipush (pc := 33) t244_33 (v := 10) (by decide) ?_
          refine zs_aload_n (pc := 35) t244_35 rfl ?_
          refine zs_get (pc := 36) t244_36 (by decide) (zk1 (w9s.k fk_zMm_336)) (zfvi rfl rfl) ?_
          obtain ⟨w98v, w98⟩ : ∃ v, (10 : Int32) * (zI w9M 336 8) = v := ⟨_, rfl⟩
          have w98g : w98v.toInt = 10 * (zI w9M 336 8).toInt := by rw [← w98]; exact zmulc li10 rfl (by omega) (by omega)
          refine zs_imul (pc := 39) t244_39 (c := w98v) w98 ?_
          refine zs_aload_n (pc := 40) t244_40 rfl ?_
          refine zs_invV (pc := 41) (k := 336) (as' := []) (st := [.int w98v, .ref 336]) t244_41 mf238 rfl rfl (Or.inl ⟨by decide, (zk1 (w9s.k fk_zMm_336))⟩) ⟨by decide, by decide, Nat.le_of_ble_eq_true rfl, Nat.le_of_ble_eq_true rfl⟩ (H238 w9s w9I ?_) (fun _ _ q => q)
          have w99 := zhere.rg (M := w9M)
          have w100 : (zI w9M 336 6).toInt = (zI w9M 336 6).toInt := (congrArg Int32.toInt rfl).trans rfl
          have w101 : (zI w9M 336 5).toInt = (zI M 336 5).toInt := (congrArg Int32.toInt ((w9F 336 5 rfl).trans ((zIoj (by decide)).trans rfl))).trans rfl
          have w102 : (zI w9M 336 6).toInt = (zI w9M 336 6).toInt := (congrArg Int32.toInt rfl).trans rfl
          have w103 : (zI w9M 336 5).toInt = (zI M 336 5).toInt := (congrArg Int32.toInt ((w9F 336 5 rfl).trans ((zIoj (by decide)).trans rfl))).trans rfl
          have w104 : (zhere w9M).toInt = gg w18n := zhere.tr (zTm.mk x0 (fun j => ((w9F 339 j rfl).trans (zIo (by decide)))) ((w9F 336 5 rfl).trans (zIoj (by decide)))) (by omega)
          have w105 := zTm.rg x0 w18n
          show zGo X l 1 0 0 244 44 [(0, .ref 336), (1, .int a), (2, .int (-1 : Int32)), (3, .int b), (4, .int c), (5, .int (zI M 336 6))] [.int (zhere w9M), .int w98v, .ref 336] w9M _
          obtain ⟨w106v, w106e, w106⟩ := ziadd (a := w98v) (b := (zhere w9M)) w98g rfl (by omega) (by omega)
          refine zs_iadd (pc := 44) t244_44 (c := w106v) w106e ?_
          refine zs_bipush (pc := 45) t244_45 (v := 48) (by decide) ?_
          obtain ⟨w107v, w107e, w107⟩ := zisub (a := w106v) (b := (48 : Int32)) w106 li48 (by omega) (by omega)
          refine zs_isub (pc := 47) t244_47 (c := w107v) w107e ?_
          have w108 : zIv mLo mHi (zsI w9M 336 8 w107v) := zIv.put w9I (show (-2147483648) ≤ w107v.toInt ∧ w107v.toInt ≤ 2147483647 from zrg w107v)
          refine zs_putI (pc := 48) t244_48 (zk1 (w9s.k fk_zMm_336)) rfl ?_
          refine zs_aload_n (pc := 51) t244_51 rfl ?_
          refine zs_dup (pc := 52) t244_52 rfl ?_
          refine zs_get (pc := 53) t244_53 (by decide) (zk1 (w9s.k fk_zMm_336)) (zfvi rfl ((zIoj (by decide)).trans rfl)) ?_
          refine zs_iconst (pc := 56) t244_56 (v := 1) (by decide) ?_
          obtain ⟨w109v, w109e, w109⟩ := ziadd (a := (zI w9M 336 6)) (b := (1 : Int32)) rfl li1 (by omega) (by omega)
          refine zs_iadd (pc := 57) t244_57 (c := w109v) w109e ?_
          have w110 : zIv mLo mHi (zsI (zsI w9M 336 8 w107v) 336 6 w109v) := zIv.put w108 (show 0 ≤ w109v.toInt ∧ w109v.toInt ≤ 500 from ⟨by omega, by omega⟩)
          refine zs_putI (pc := 58) t244_58 (zk1 (w9s.k fk_zMm_336)) rfl ?_
          refine zs_goto (pc := 61) t244_61 ?_
          refine zGo.locals (ls' := [(0, .ref 336), (1, .int a), (2, .int (-1 : Int32)), (3, .int b), (4, .int c), (5, .int (zI M 336 6))]) (by simp) ?_
          have w111 : (zI (zsI (zsI w9M 336 8 w107v) 336 6 w109v) 336 7).toInt = (zI w9M 336 7).toInt := (congrArg Int32.toInt ((zIoj (by decide)).trans ((zIoj (by decide)).trans rfl))).trans rfl
          have w112 : (zI (zsI (zsI w9M 336 8 w107v) 336 6 w109v) 336 6).toInt = ((zI w9M 336 6).toInt + 1) := (congrArg Int32.toInt zIs).trans w109
          have w113 : (zI (zsI (zsI w9M 336 8 w107v) 336 6 w109v) 336 8).toInt = (((10 * (zI w9M 336 8).toInt) + (zhere w9M).toInt) - 48) := (congrArg Int32.toInt ((zIoj (by decide)).trans zIs)).trans w107
          have w114 : (zI (zsI (zsI w9M 336 8 w107v) 336 6 w109v) 336 6).toInt = ((zI w9M 336 6).toInt + 1) := (congrArg Int32.toInt zIs).trans w109
          have w115 : (zI (zsI (zsI w9M 336 8 w107v) 336 6 w109v) 336 6).toInt = ((zI w9M 336 6).toInt + 1) := (congrArg Int32.toInt zIs).trans w109
          have w116 : (zI (zsI (zsI w9M 336 8 w107v) 336 6 w109v) 336 8).toInt = (((10 * (zI w9M 336 8).toInt) + (zhere w9M).toInt) - 48) := (congrArg Int32.toInt ((zIoj (by decide)).trans zIs)).trans w107
          have w117 : (zI (zsI (zsI w9M 336 8 w107v) 336 6 w109v) 336 6).toInt = ((zI w9M 336 6).toInt + 1) := (congrArg Int32.toInt zIs).trans w109
          exact w9ih (w9m - 1) (by omega) (zsI (zsI w9M 336 8 w107v) 336 6 w109v) w9s w110 ((((zFr.refl).trans (w9F.mono rfl)).put rfl).put rfl) w9J (by omega) (by omega) (by omega) (fun k q h1 h2 => (w9t0 (k + 1) w18n (by omega) (by omega)).trans ((pDg.y (by omega)).trans (congrArg (pDg gg k) (by omega)))) (fun d hd => by obtain rfl : d = (w18n - w7n) + 1 := (by omega); show _ = 10 * pVal gg w7n (w18n - w7n) + (gg (w7n + (w18n - w7n)) - 48); rw [show w7n + (w18n - w7n) = w18n by omega]; have z := w9t1 (w18n - w7n) (by omega); omega) (by omega)
  refine zGo.locals (ls' := [(0, .ref 336), (1, .int a), (2, .int (-1 : Int32)), (3, .int b), (4, .int c), (5, .int (zI M 336 6))]) (by simp) ?_
  have w118 : (zI (zsI M 336 8 (0 : Int32)) 336 7).toInt = (zI M 336 7).toInt := (congrArg Int32.toInt ((zIoj (by decide)).trans rfl)).trans rfl
  have w119 : (zI (zsI M 336 8 (0 : Int32)) 336 6).toInt = (zI M 336 6).toInt := (congrArg Int32.toInt ((zIoj (by decide)).trans rfl)).trans rfl
  have w120 : (zI (zsI M 336 8 (0 : Int32)) 336 8).toInt = 0 := (congrArg Int32.toInt zIs).trans li0
  have w121 : (zI (zsI M 336 8 (0 : Int32)) 336 6).toInt = (zI M 336 6).toInt := (congrArg Int32.toInt ((zIoj (by decide)).trans rfl)).trans rfl
  have w122 : (zI (zsI M 336 8 (0 : Int32)) 336 8).toInt = 0 := (congrArg Int32.toInt zIs).trans li0
  have w123 : (zI (zsI M 336 8 (0 : Int32)) 336 6).toInt = (zI M 336 6).toInt := (congrArg Int32.toInt ((zIoj (by decide)).trans rfl)).trans rfl
  exact w9L ((500 - (zI (zsI M 336 8 (0 : Int32)) 336 6).toInt : Int).toNat) (zsI M 336 8 (0 : Int32)) hs w8 zFr.refl rfl (by omega) (by omega) (by omega) (fun k q h1 h2 => by obtain rfl : w7n = q := (by omega); obtain rfl : k = 4 := (by omega); rfl) (fun d hd => by obtain rfl : d = 0 := (by omega); show _ = (0 : Int); omega) (by omega)
