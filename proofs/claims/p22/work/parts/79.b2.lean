theorem R243 {X : zX} {l : Launch} {M : zM} {Q : Option Value → zM → Prop} {a b : Int32} (hs : zSk zMm M) (hI : zIv mLo mHi M) {gg : Nat → Int} {nn : Int} (u0 : (zI M 336 6).toInt ≤ (zI M 336 5).toInt) (u1 : 0 ≤ (zI M 336 6).toInt) (u2 : (zI M 336 7).toInt = -1) (x0 : zTm M gg nn) (hQ : ∀ (M' : zM) (v : Int32), zSk zMm M' → zIv mLo mHi M' → zFr [(336, 336, some 6), (336, 336, some 7), (336, 336, some 8)] M M' → zJ M' 351 = zJ M 351 → ((zI M 336 6).toInt ≤ (zI M' 336 6).toInt) → (∀ p : Nat, (zI M 336 6).toInt = (p : Int) → (v.toInt = 1 ∧ ∃ (e : Nat) (x : Int), pN gg p = some (e, x) ∧ a.toInt ≤ x ∧ x ≤ b.toInt ∧ (zI M' 336 6).toInt = (e : Int) ∧ (zI M' 336 8).toInt = x ∧ p < e ∧ (e : Int) ≤ nn ∧ (zI M' 336 7).toInt = -1 ∧ -9999 ≤ x ∧ x ≤ 9999) ∨ (v.toInt = 0 ∧ (zI M' 336 7).toInt ≠ -1 ∧ (pN gg p = none ∨ ∃ (e : Nat) (x : Int), pN gg p = some (e, x) ∧ (x < a.toInt ∨ b.toInt < x)))) → 0 ≤ v.toInt → v.toInt ≤ 1 → Q (some (.int v)) M') : zCall X l 2 0 0 243 [.ref 336, .int a, .int b] M Q := by
  have ga := zrg a
  have gb := zrg b
  refine zs_in (by decide) mf243 (Nat.le_of_ble_eq_true rfl) ?_
  show zGo X l 2 0 0 243 0 [(0, .ref 336), (1, .int a), (2, .int b)] [] M _
  have hn := x0.2
  have w1 := ib336_5 hI
  have w2 : (zI M 336 5).toInt = (zI M 336 5).toInt := (congrArg Int32.toInt rfl).trans rfl
  have w3 := ib336_6 hI
  have w4 : (zI M 336 6).toInt = (zI M 336 6).toInt := (congrArg Int32.toInt rfl).trans rfl
  have w5 := ib336_7 hI
  have w6 : (zI M 336 7).toInt = (zI M 336 7).toInt := (congrArg Int32.toInt rfl).trans rfl
  obtain ⟨w7n, w7⟩ : ∃ n : Nat, (zI M 336 6).toInt = (n : Int) := ⟨((zI M 336 6).toInt).toNat, by omega⟩
  refine zs_aload_n (pc := 0) t243_0 rfl ?_
  refine zs_get (pc := 1) t243_1 (by decide) (zk1 (hs.k fk_zMm_336)) (zfvi rfl rfl) ?_
  refine zs_istore_n (pc := 4) t243_4 (ls' := [(3, .int (zI M 336 6)), (0, .ref 336), (1, .int a), (2, .int b)]) (zml mf243 (by decide)) rfl ?_
  refine zs_aload_n (pc := 5) t243_5 rfl ?_
  refine zs_invV (pc := 6) (k := 336) (as' := []) (st := []) t243_6 mf238 rfl rfl (Or.inl ⟨by decide, (zk1 (hs.k fk_zMm_336))⟩) ⟨by decide, by decide, Nat.le_of_ble_eq_true rfl, Nat.le_of_ble_eq_true rfl⟩ (H238 hs hI ?_) (fun _ _ q => q)
  have w8 := zhere.rg (M := M)
  have w9 : (zI M 336 6).toInt = (zI M 336 6).toInt := (congrArg Int32.toInt rfl).trans rfl
  have w10 : (zI M 336 5).toInt = (zI M 336 5).toInt := (congrArg Int32.toInt rfl).trans rfl
  have w11 : (zI M 336 6).toInt = (zI M 336 6).toInt := (congrArg Int32.toInt rfl).trans rfl
  have w12 : (zI M 336 5).toInt = (zI M 336 5).toInt := (congrArg Int32.toInt rfl).trans rfl
  have w13 : (zhere M).toInt = gg w7n := zhere.tr x0 (by omega)
  have w14 := zTm.rg x0 w7n
  show zGo X l 2 0 0 243 9 [(3, .int (zI M 336 6)), (0, .ref 336), (1, .int a), (2, .int b)] [.int (zhere M)] M _
  refine zs_bipush (pc := 9) t243_9 (v := 45) (by decide) ?_
  by_cases w15 : (zhere M).toInt ≠ 45
  · refine zs_icmp_neT (pc := 11) t243_11 rfl li45 (by omega) ?_
    refine zs_iconst (pc := 18) t243_18 (v := 0) (by decide) ?_
    refine zs_istore (pc := 19) t243_19 (ls' := [(4, .int (0 : Int32)), (3, .int (zI M 336 6)), (0, .ref 336), (1, .int a), (2, .int b)]) (zml mf243 (by decide)) rfl ?_
    refine zs_iload (pc := 21) t243_21 rfl ?_
    refine zs_if_eqT (pc := 23) t243_23 li0 (by decide) ?_
    refine zs_aload_n (pc := 36) t243_36 rfl ?_
    refine zs_iload_n (pc := 37) t243_37 rfl ?_
    refine zs_iload (pc := 38) t243_38 rfl ?_
    refine zs_if_eqT (pc := 40) t243_40 li0 (by decide) ?_
    refine zs_iconst (pc := 47) t243_47 (v := 1) (by decide) ?_
    refine zs_iload_n (pc := 48) t243_48 rfl ?_
    refine zs_iload_n (pc := 49) t243_49 rfl ?_
    have w16 : (zI M 336 6).toInt = (zI M 336 6).toInt := (congrArg Int32.toInt rfl).trans rfl
    have w17 : (zI M 336 6).toInt = (zI M 336 6).toInt := (congrArg Int32.toInt rfl).trans rfl
    have w18 : (zI M 336 5).toInt = (zI M 336 5).toInt := (congrArg Int32.toInt rfl).trans rfl
    have w19 : (zI M 336 7).toInt = (zI M 336 7).toInt := (congrArg Int32.toInt rfl).trans rfl
    have w20 : (zI M 336 6).toInt = (zI M 336 6).toInt := (congrArg Int32.toInt rfl).trans rfl
    refine zs_invV (pc := 50) (k := 336) (as' := [.int (zI M 336 6), .int (1 : Int32), .int a, .int b]) (st := []) t243_50 mf244 rfl rfl (Or.inl ⟨by decide, (zk1 (hs.k fk_zMm_336))⟩) ⟨by decide, by decide, Nat.le_of_ble_eq_true rfl, Nat.le_of_ble_eq_true rfl⟩ (R244p hs hI ⟨by omega, by omega⟩ (by omega) (by omega) (by omega) x0 ?_) (fun _ _ q => q)
    intro w21M w21v w21s w21I w21F w21J w21t0 w21x0 w21a w21b
    have w22 := ib336_6 w21I
    show zGo X l 2 0 0 243 53 [(4, .int (0 : Int32)), (3, .int (zI M 336 6)), (0, .ref 336), (1, .int a), (2, .int b)] [.int w21v] w21M _
    obtain ⟨w21e, w21k, w21x, w21_1, w21_2, w21_3, w21_4, w21_5, w21_6, w21c⟩ := w21x0 w7n (by omega)
    have w23 : (zI w21M 336 6).toInt = (zI w21M 336 6).toInt := (congrArg Int32.toInt rfl).trans rfl
    have w25 : (zI w21M 336 6).toInt = (zI w21M 336 6).toInt := (congrArg Int32.toInt rfl).trans rfl
    have w26 := ib336_7 w21I
    have w27 : (zI w21M 336 7).toInt = (zI w21M 336 7).toInt := (congrArg Int32.toInt rfl).trans rfl
    have w28 := zrg (zI w21M 336 8)
    have w29 : (zI w21M 336 8).toInt = (zI w21M 336 8).toInt := (congrArg Int32.toInt rfl).trans rfl
    have w24 : pNq gg w7n = w7n := by first | exact (pNq.m (by omega)).trans (by omega) | exact (pNq.o (by omega)).trans (by omega)
    exact zs_iret (pc := 53) t243_53 mr243 (zfb01 (by omega)) (hQ _ _ w21s w21I ((zFr.refl).trans (w21F.mono rfl)) w21J (by omega) (fun p hp => by
        obtain rfl : w7n = p := (by omega)
        rcases w21c with q1 | q1
        · exact Or.inl ⟨by omega, w21e, w21x, pN.y (x := w21x) w24 w21_1 q1.2.1 q1.2.2.1 w21_2 w21_3 (Or.inr ⟨by omega, rfl⟩), by omega, by omega, by omega, by omega, by omega, by omega, by omega, by omega, by omega⟩
        · by_cases z : w21e = w7n ∨ (48 ≤ gg w21e ∧ gg w21e ≤ 57)
          · exact Or.inr ⟨by omega, by omega, Or.inl (pN.n w24 w21_1 z)⟩
          · exact Or.inr ⟨by omega, by omega, Or.inr ⟨w21e, w21x, pN.y (x := w21x) w24 w21_1 (fun z1 => z (Or.inl z1)) (fun z1 => z (Or.inr z1)) w21_2 w21_3 (Or.inr ⟨by omega, rfl⟩), by omega⟩⟩) (by omega) (by omega))
  · refine zs_icmp_neF (pc := 11) t243_11 rfl li45 (by omega) ?_
    refine zs_iconst (pc := 14) t243_14 (v := 1) (by decide) ?_
    refine zs_goto (pc := 15) t243_15 ?_
    refine zs_istore (pc := 19) t243_19 (ls' := [(4, .int (1 : Int32)), (3, .int (zI M 336 6)), (0, .ref 336), (1, .int a), (2, .int b)]) (zml mf243 (by decide)) rfl ?_
    refine zs_iload (pc := 21) t243_21 rfl ?_
    refine zs_if_eqF (pc := 23) t243_23 li1 (by decide) ?_
    refine zs_aload_n (pc := 26) t243_26 rfl ?_
    refine zs_dup (pc := 27) t243_27 rfl ?_
    refine zs_get (pc := 28) t243_28 (by decide) (zk1 (hs.k fk_zMm_336)) (zfvi rfl rfl) ?_
    refine zs_iconst (pc := 31) t243_31 (v := 1) (by decide) ?_
    obtain ⟨w30v, w30e, w30⟩ := ziadd (a := (zI M 336 6)) (b := (1 : Int32)) rfl li1 (by omega) (by omega)
    refine zs_iadd (pc := 32) t243_32 (c := w30v) w30e ?_
    have w31 : zIv mLo mHi (zsI M 336 6 w30v) := zIv.put hI (show 0 ≤ w30v.toInt ∧ w30v.toInt ≤ 500 from ⟨by omega, by omega⟩)
    refine zs_putI (pc := 33) t243_33 (zk1 (hs.k fk_zMm_336)) rfl ?_
    refine zs_aload_n (pc := 36) t243_36 rfl ?_
    refine zs_iload_n (pc := 37) t243_37 rfl ?_
    refine zs_iload (pc := 38) t243_38 rfl ?_
    refine zs_if_eqF (pc := 40) t243_40 li1 (by decide) ?_
    refine zs_iconst (pc := 43) t243_43 (v := -1) (by decide) ?_
    refine zs_goto (pc := 44) t243_44 ?_
    refine zs_iload_n (pc := 48) t243_48 rfl ?_
    refine zs_iload_n (pc := 49) t243_49 rfl ?_
    have w32 : (zI (zsI M 336 6 w30v) 336 6).toInt = ((zI M 336 6).toInt + 1) := (congrArg Int32.toInt zIs).trans w30
    have w33 : (zI (zsI M 336 6 w30v) 336 6).toInt = ((zI M 336 6).toInt + 1) := (congrArg Int32.toInt zIs).trans w30
    have w34 : (zI (zsI M 336 6 w30v) 336 5).toInt = (zI M 336 5).toInt := (congrArg Int32.toInt ((zIoj (by decide)).trans rfl)).trans rfl
    have w35 : (zI (zsI M 336 6 w30v) 336 7).toInt = (zI M 336 7).toInt := (congrArg Int32.toInt ((zIoj (by decide)).trans rfl)).trans rfl
    have w36 : (zI (zsI M 336 6 w30v) 336 6).toInt = ((zI M 336 6).toInt + 1) := (congrArg Int32.toInt zIs).trans w30
    refine zs_invV (pc := 50) (k := 336) (as' := [.int (zI M 336 6), .int (-1 : Int32), .int a, .int b]) (st := []) t243_50 mf244 rfl rfl (Or.inl ⟨by decide, (zk1 (hs.k fk_zMm_336))⟩) ⟨by decide, by decide, Nat.le_of_ble_eq_true rfl, Nat.le_of_ble_eq_true rfl⟩ (R244m hs w31 ⟨by omega, by omega⟩ (by omega) (by omega) (by omega) (zTm.mk x0 (fun j => (zIo (by decide))) (zIoj (by decide))) ?_) (fun _ _ q => q)
    intro w37M w37v w37s w37I w37F w37J w37t0 w37x0 w37a w37b
    have w38 := ib336_6 w37I
    show zGo X l 2 0 0 243 53 [(4, .int (1 : Int32)), (3, .int (zI M 336 6)), (0, .ref 336), (1, .int a), (2, .int b)] [.int w37v] w37M _
    obtain ⟨w37e, w37k, w37x, w37_1, w37_2, w37_3, w37_4, w37_5, w37_6, w37c⟩ := w37x0 (w7n + 1) (by omega)
    have w39 : (zI w37M 336 6).toInt = (zI w37M 336 6).toInt := (congrArg Int32.toInt rfl).trans rfl
    have w41 : (zI w37M 336 6).toInt = (zI w37M 336 6).toInt := (congrArg Int32.toInt rfl).trans rfl
    have w42 := ib336_7 w37I
    have w43 : (zI w37M 336 7).toInt = (zI w37M 336 7).toInt := (congrArg Int32.toInt rfl).trans rfl
    have w44 := zrg (zI w37M 336 8)
    have w45 : (zI w37M 336 8).toInt = (zI w37M 336 8).toInt := (congrArg Int32.toInt rfl).trans rfl
    have w40 : pNq gg w7n = (w7n + 1) := by first | exact (pNq.m (by omega)).trans (by omega) | exact (pNq.o (by omega)).trans (by omega)
    exact zs_iret (pc := 53) t243_53 mr243 (zfb01 (by omega)) (hQ _ _ w37s w37I (((zFr.refl).put rfl).trans (w37F.mono rfl)) w37J (by omega) (fun p hp => by
        obtain rfl : w7n = p := (by omega)
        rcases w37c with q1 | q1
        · exact Or.inl ⟨by omega, w37e, (-w37x), pN.y (x := (-w37x)) w40 w37_1 q1.2.1 q1.2.2.1 w37_2 w37_3 (Or.inl ⟨by omega, rfl⟩), by omega, by omega, by omega, by omega, by omega, by omega, by omega, by omega, by omega⟩
        · by_cases z : w37e = (w7n + 1) ∨ (48 ≤ gg w37e ∧ gg w37e ≤ 57)
          · exact Or.inr ⟨by omega, by omega, Or.inl (pN.n w40 w37_1 z)⟩
          · exact Or.inr ⟨by omega, by omega, Or.inr ⟨w37e, (-w37x), pN.y (x := (-w37x)) w40 w37_1 (fun z1 => z (Or.inl z1)) (fun z1 => z (Or.inr z1)) w37_2 w37_3 (Or.inl ⟨by omega, rfl⟩), by omega⟩⟩) (by omega) (by omega))
theorem R246 {X : zX} {l : Launch} {M : zM} {Q : Option Value → zM → Prop} {a : Int32} (hs : zSk zMm M) (hI : zIv mLo mHi M) {gg : Nat → Int} {nn : Int} (ha : 0 ≤ a.toInt ∧ a.toInt ≤ 255) (u0 : (zI M 336 6).toInt ≤ (zI M 336 5).toInt) (u1 : 0 ≤ (zI M 336 6).toInt) (u2 : (zI M 336 7).toInt = -1) (x0 : zTm M gg nn) (hQ : ∀ (M' : zM) (v : Int32), zSk zMm M' → zIv mLo mHi M' → zFr [(336, 336, some 6), (336, 336, some 7)] M M' → zJ M' 351 = zJ M 351 → ((zI M 336 6).toInt ≤ (zI M' 336 6).toInt) → ((v.toInt = 1 ∧ (zI M' 336 7).toInt = (zI M 336 7).toInt) ∨ (v.toInt = 0 ∧ 0 ≤ (zI M' 336 7).toInt)) → (∀ p : Nat, (zI M 336 6).toInt = (p : Int) → (v.toInt = 1 ∧ gg p = a.toInt ∧ (p : Int) < nn ∧ (zI M' 336 6).toInt = (p : Int) + 1 ∧ (zI M' 336 7).toInt = -1) ∨ (v.toInt = 0 ∧ gg p ≠ a.toInt ∧ (zI M' 336 7).toInt ≠ -1)) → 0 ≤ v.toInt → v.toInt ≤ 1 → Q (some (.int v)) M') : zCall X l 1 0 0 246 [.ref 336, .int a] M Q := by
  have ga := zrg a
  refine zs_in (by decide) mf246 (Nat.le_of_ble_eq_true rfl) ?_
  show zGo X l 1 0 0 246 0 [(0, .ref 336), (1, .int a)] [] M _
  have hn := x0.2
  have w1 := ib336_5 hI
  have w2 : (zI M 336 5).toInt = (zI M 336 5).toInt := (congrArg Int32.toInt rfl).trans rfl
  have w3 := ib336_6 hI
  have w4 : (zI M 336 6).toInt = (zI M 336 6).toInt := (congrArg Int32.toInt rfl).trans rfl
  have w5 := ib336_7 hI
  have w6 : (zI M 336 7).toInt = (zI M 336 7).toInt := (congrArg Int32.toInt rfl).trans rfl
  obtain ⟨w7n, w7⟩ : ∃ n : Nat, (zI M 336 6).toInt = (n : Int) := ⟨((zI M 336 6).toInt).toNat, by omega⟩
  refine zs_aload_n (pc := 0) t246_0 rfl ?_
  refine zs_invV (pc := 1) (k := 336) (as' := []) (st := []) t246_1 mf238 rfl rfl (Or.inl ⟨by decide, (zk1 (hs.k fk_zMm_336))⟩) ⟨by decide, by decide, Nat.le_of_ble_eq_true rfl, Nat.le_of_ble_eq_true rfl⟩ (H238 hs hI ?_) (fun _ _ q => q)
  have w8 := zhere.rg (M := M)
  have w9 : (zI M 336 6).toInt = (zI M 336 6).toInt := (congrArg Int32.toInt rfl).trans rfl
  have w10 : (zI M 336 5).toInt = (zI M 336 5).toInt := (congrArg Int32.toInt rfl).trans rfl
  have w11 : (zI M 336 6).toInt = (zI M 336 6).toInt := (congrArg Int32.toInt rfl).trans rfl
  have w12 : (zI M 336 5).toInt = (zI M 336 5).toInt := (congrArg Int32.toInt rfl).trans rfl
  have w13 : (zhere M).toInt = gg w7n := zhere.tr x0 (by omega)
  have w14 := zTm.rg x0 w7n
  show zGo X l 1 0 0 246 4 [(0, .ref 336), (1, .int a)] [.int (zhere M)] M _
  refine zs_iload_n (pc := 4) t246_4 rfl ?_
  by_cases w15 : (zhere M).toInt = a.toInt
  · refine zs_icmp_eqT (pc := 5) t246_5 rfl rfl (by omega) ?_
    refine zs_aload_n (pc := 17) t246_17 rfl ?_
    refine zs_dup (pc := 18) t246_18 rfl ?_
    refine zs_get (pc := 19) t246_19 (by decide) (zk1 (hs.k fk_zMm_336)) (zfvi rfl rfl) ?_
    refine zs_iconst (pc := 22) t246_22 (v := 1) (by decide) ?_
    obtain ⟨w16v, w16e, w16⟩ := ziadd (a := (zI M 336 6)) (b := (1 : Int32)) rfl li1 (by omega) (by omega)
    refine zs_iadd (pc := 23) t246_23 (c := w16v) w16e ?_
    have w17 : zIv mLo mHi (zsI M 336 6 w16v) := zIv.put hI (show 0 ≤ w16v.toInt ∧ w16v.toInt ≤ 500 from ⟨by omega, by omega⟩)
    refine zs_putI (pc := 24) t246_24 (zk1 (hs.k fk_zMm_336)) rfl ?_
    refine zs_iconst (pc := 27) t246_27 (v := 1) (by decide) ?_
    have w18 : (1 : Int32).toInt = 1 := li1
    have w19 : (zI (zsI M 336 6 w16v) 336 6).toInt = ((zI M 336 6).toInt + 1) := (congrArg Int32.toInt zIs).trans w16
    have w20 : (zI (zsI M 336 6 w16v) 336 7).toInt = (zI M 336 7).toInt := (congrArg Int32.toInt ((zIoj (by decide)).trans rfl)).trans rfl
    have w21 := li1
    have w22 : (zI (zsI M 336 6 w16v) 336 6).toInt = ((zI M 336 6).toInt + 1) := (congrArg Int32.toInt zIs).trans w16
    have w23 : (zI (zsI M 336 6 w16v) 336 7).toInt = (zI M 336 7).toInt := (congrArg Int32.toInt ((zIoj (by decide)).trans rfl)).trans rfl
    exact zs_iret (pc := 28) t246_28 mr246 (by decide) (hQ _ _ hs w17 ((zFr.refl).put rfl) rfl (by omega) (by omega) (fun p hp => by obtain rfl : w7n = p := (by omega); omega) (by decide) (by decide))
  · refine zs_icmp_eqF (pc := 5) t246_5 rfl rfl (by omega) ?_
    refine zs_aload_n (pc := 8) t246_8 rfl ?_
    refine zs_aload_n (pc := 9) t246_9 rfl ?_
    refine zs_get (pc := 10) t246_10 (by decide) (zk1 (hs.k fk_zMm_336)) (zfvi rfl rfl) ?_
    refine zs_invV (pc := 13) (k := 336) (as' := [.int (zI M 336 6)]) (st := []) t246_13 mf239 rfl rfl (Or.inl ⟨by decide, (zk1 (hs.k fk_zMm_336))⟩) ⟨by decide, by decide, Nat.le_of_ble_eq_true rfl, Nat.le_of_ble_eq_true rfl⟩ (zs_in (by decide) mf239 (Nat.le_of_ble_eq_true rfl) ?_) (fun _ _ q => q)
    show zGo X l 0 0 0 239 0 [(0, .ref 336), (1, .int (zI M 336 6))] [] M _
    refine zs_aload_n (pc := 0) t239_0 rfl ?_
    refine zs_iload_n (pc := 1) t239_1 rfl ?_
    have w24 : zIv mLo mHi (zsI M 336 7 (zI M 336 6)) := zIv.put hI (show (-1) ≤ (zI M 336 6).toInt ∧ (zI M 336 6).toInt ≤ 500 from ⟨by omega, by omega⟩)
    refine zs_putI (pc := 2) t239_2 (zk1 (hs.k fk_zMm_336)) rfl ?_
    refine zs_iconst (pc := 5) t239_5 (v := 0) (by decide) ?_
    refine zs_iret (pc := 6) t239_6 mr239 (by decide) ?_
    show zGo X l 1 0 0 246 16 [(0, .ref 336), (1, .int a)] [.int (0 : Int32)] (zsI M 336 7 (zI M 336 6)) _
    have w25 : (0 : Int32).toInt = 0 := li0
    have w26 : (zI (zsI M 336 7 (zI M 336 6)) 336 6).toInt = (zI M 336 6).toInt := (congrArg Int32.toInt ((zIoj (by decide)).trans rfl)).trans rfl
    have w27 : (zI (zsI M 336 7 (zI M 336 6)) 336 7).toInt = (zI M 336 6).toInt := (congrArg Int32.toInt zIs).trans rfl
    have w28 := li0
    have w29 : (zI (zsI M 336 7 (zI M 336 6)) 336 6).toInt = (zI M 336 6).toInt := (congrArg Int32.toInt ((zIoj (by decide)).trans rfl)).trans rfl
    have w30 : (zI (zsI M 336 7 (zI M 336 6)) 336 7).toInt = (zI M 336 6).toInt := (congrArg Int32.toInt zIs).trans rfl
    exact zs_iret (pc := 16) t246_16 mr246 (by decide) (hQ _ _ hs w24 ((zFr.refl).put rfl) rfl (by omega) (by omega) (fun p hp => by obtain rfl : w7n = p := (by omega); omega) (by decide) (by decide))
theorem R242 {X : zX} {l : Launch} {M : zM} {Q : Option Value → zM → Prop} {a b c d : Int32} (hs : zSk zMm M) (hI : zIv mLo mHi M) {F : Nat → Int} {gg : Nat → Int} {nn : Int} (pR : zPR M) (pC : zPC M) (ha : 5 ≤ a.toInt ∧ a.toInt ≤ 305) (hd : 0 ≤ d.toInt ∧ d.toInt ≤ 255) (u0 : a.toInt < 14 ∨ 30 ≤ a.toInt ∨ 14 + 2 * (zI M 337 0).toInt ≤ a.toInt) (u1 : a.toInt < 30 ∨ 270 ≤ a.toInt ∨ a.toInt % 4 ≠ 2 ∨ 30 + 4 * (zI M 337 1).toInt ≤ a.toInt) (u2 : (zI M 336 6).toInt ≤ (zI M 336 5).toInt) (u3 : 0 ≤ (zI M 336 6).toInt) (u4 : (zI M 336 7).toInt = -1) (x0 : aLo a.toInt.toNat ≤ b.toInt ∧ c.toInt ≤ aHi a.toInt.toNat) (x1 : zRw M 0 F) (x2 : zTm M gg nn) (hQ : ∀ (M' : zM) (v : Int32), zSk zMm M' → zIv mLo mHi M' → zFr [(336, 336, some 6), (336, 336, some 7), (336, 336, some 8), (337, 337, none)] M M' → zJ M' 351 = zJ M 351 → zUp M M' → zPR M' → zPC M' → ((zI M 336 6).toInt ≤ (zI M' 336 6).toInt) → ((v.toInt = 1 ∧ (zI M' 336 7).toInt = (zI M 336 7).toInt) ∨ (v.toInt = 0 ∧ 0 ≤ (zI M' 336 7).toInt)) → ((zI M' 337 0).toInt = (zI M 337 0).toInt) → ((zI M' 337 1).toInt = (zI M 337 1).toInt) → ((zI M' 337 2).toInt = (zI M 337 2).toInt) → (∀ j : Nat, (j : Int) ≠ a.toInt → zI M' 337 j = zI M 337 j) → (v.toInt = 0 ∨ ∀ j : Nat, (j : Int) = a.toInt → b.toInt ≤ (zI M' 337 j).toInt ∧ (zI M' 337 j).toInt ≤ c.toInt) → (∀ p : Nat, (zI M 336 6).toInt = (p : Int) → (v.toInt = 1 ∧ ∃ (q : Nat) (x : Int), pRd gg p b.toInt c.toInt d.toInt = some (q, x) ∧ (zI M' 336 6).toInt = (q : Int) ∧ p < q ∧ (q : Int) ≤ nn ∧ (zI M' 336 7).toInt = -1 ∧ b.toInt ≤ x ∧ x ≤ c.toInt ∧ zRw M' 0 (uS F a.toInt.toNat x)) ∨ (v.toInt = 0 ∧ (zI M' 336 7).toInt ≠ -1 ∧ pRd gg p b.toInt c.toInt d.toInt = none)) → 0 ≤ v.toInt → v.toInt ≤ 1 → Q (some (.int v)) M') : zCall X l 3 0 0 242 [.ref 336, .int a, .int b, .int c, .int d] M Q := by
  have ga := zrg a
  have gb := zrg b
  have gc := zrg c
  have gd := zrg d
  refine zs_in (by decide) mf242 (Nat.le_of_ble_eq_true rfl) ?_
  show zGo X l 3 0 0 242 0 [(0, .ref 336), (1, .int a), (2, .int b), (3, .int c), (4, .int d)] [] M _
  have hn := x2.2
  have w1 := ib336_5 hI
  have w2 : (zI M 336 5).toInt = (zI M 336 5).toInt := (congrArg Int32.toInt rfl).trans rfl
  have w3 := ib336_6 hI
  have w4 : (zI M 336 6).toInt = (zI M 336 6).toInt := (congrArg Int32.toInt rfl).trans rfl
  have w5 := ib336_7 hI
  have w6 : (zI M 336 7).toInt = (zI M 336 7).toInt := (congrArg Int32.toInt rfl).trans rfl
  obtain ⟨w7n, w7⟩ : ∃ n : Nat, (zI M 336 6).toInt = (n : Int) := ⟨((zI M 336 6).toInt).toNat, by omega⟩
  have w8 := ibA0 hI
  have w9 : (zI M 337 0).toInt = (zI M 337 0).toInt := (congrArg Int32.toInt rfl).trans rfl
  have e0 : (zI M 337 0).toInt = F 0 := x1.at (by decide) (by decide) (by decide)
  have w10 := ibA1 hI
  have w11 : (zI M 337 1).toInt = (zI M 337 1).toInt := (congrArg Int32.toInt rfl).trans rfl
  have e1 : (zI M 337 1).toInt = F 1 := x1.at (by decide) (by decide) (by decide)
  have w12 := ibA2 hI
  have w13 : (zI M 337 2).toInt = (zI M 337 2).toInt := (congrArg Int32.toInt rfl).trans rfl
  have e2 : (zI M 337 2).toInt = F 2 := x1.at (by decide) (by decide) (by decide)
  refine zs_aload_n (pc := 0) t242_0 rfl ?_
  refine zs_iload_n (pc := 1) t242_1 rfl ?_
  refine zs_iload_n (pc := 2) t242_2 rfl ?_
  have w14 : (zI M 336 6).toInt = (zI M 336 6).toInt := (congrArg Int32.toInt rfl).trans rfl
  have w15 : (zI M 336 6).toInt = (zI M 336 6).toInt := (congrArg Int32.toInt rfl).trans rfl
  have w16 : (zI M 336 5).toInt = (zI M 336 5).toInt := (congrArg Int32.toInt rfl).trans rfl
  have w17 : (zI M 336 7).toInt = (zI M 336 7).toInt := (congrArg Int32.toInt rfl).trans rfl
  have w18 : (zI M 336 6).toInt = (zI M 336 6).toInt := (congrArg Int32.toInt rfl).trans rfl
  refine zs_invV (pc := 3) (k := 336) (as' := [.int b, .int c]) (st := []) t242_3 mf243 rfl rfl (Or.inl ⟨by decide, (zk1 (hs.k fk_zMm_336))⟩) ⟨by decide, by decide, Nat.le_of_ble_eq_true rfl, Nat.le_of_ble_eq_true rfl⟩ (R243 hs hI (by omega) (by omega) (by omega) x2 ?_) (fun _ _ q => q)
  intro w19M w19v w19s w19I w19F w19J w19t0 w19x0 w19a w19b
  have w20 := ib336_6 w19I
  show zGo X l 3 0 0 242 6 [(0, .ref 336), (1, .int a), (2, .int b), (3, .int c), (4, .int d)] [.int w19v] w19M _
  rcases w19x0 w7n (by omega) with ⟨w21v, w21e, w21x, w21_1, w21_2, w21_3, w21_4, w21_5, w21_6, w21_7, w21_8, w21_9, w21_10⟩ | ⟨w21v, w21_8, w21z⟩
  · skip
    refine zs_if_neT (pc := 6) t242_6 rfl (by omega) ?_
    refine zs_aload_n (pc := 11) t242_11 rfl ?_
    refine zs_get (pc := 12) t242_12 (by decide) (zk1 (w19s.k fk_zMm_336)) (w19s.p rfl fv_zMm_336_0) ?_
    refine zs_iload_n (pc := 15) t242_15 rfl ?_
    refine zs_aload_n (pc := 16) t242_16 rfl ?_
    have w22 := zrg (zI w19M 336 8)
    refine zs_get (pc := 17) t242_17 (by decide) (zk1 (w19s.k fk_zMm_336)) (zfvi rfl rfl) ?_
    obtain ⟨w23n, w23⟩ : ∃ n : Nat, a.toInt = (n : Int) := ⟨(a.toInt).toNat, by omega⟩
    have w24 : zIv mLo mHi (zsI w19M 337 w23n (zI w19M 336 8)) := zIv.putA w19I (by omega) (by rw [show w23n = a.toInt.toNat by omega]; exact ⟨by omega, by omega⟩)
    have w25 : (zI w19M 337 0).toInt = (zI M 337 0).toInt := (congrArg Int32.toInt ((w19F 337 0 rfl).trans rfl)).trans rfl
    have w26 : (zI w19M 337 1).toInt = (zI M 337 1).toInt := (congrArg Int32.toInt ((w19F 337 1 rfl).trans rfl)).trans rfl
    have w27 : zPR (zsI w19M 337 w23n (zI w19M 336 8)) := zPR.put (zPR.fr pR (w19F.eq rfl)) (by omega) (by omega) (by omega) (by omega)
    have w28 : zPC (zsI w19M 337 w23n (zI w19M 336 8)) := zPC.put (zPC.fr pC (w19F.eq rfl)) (by omega) (by omega)
    have w29 : zRw (zsI w19M 337 w23n (zI w19M 336 8)) 0 (uS F w23n w21x) := zRw.put (zRw.fr' x1 (fun j hj => (w19F 337 j rfl))) (by omega)
    refine zs_iast (pc := 20) t242_20 (j := w23n) (by decide) (zk1 (w19s.k fk_zMm_337)) (show a.toInt = ((w23n : Nat) : Int) by omega) (zk2 (w19s.k fk_zMm_337) (by omega)) ?_
    refine zs_aload_n (pc := 21) t242_21 rfl ?_
    refine zs_iload (pc := 22) t242_22 rfl ?_
    have w30 : (zI (zsI w19M 337 w23n (zI w19M 336 8)) 336 6).toInt = (zI w19M 336 6).toInt := (congrArg Int32.toInt ((zIo (by decide)).trans rfl)).trans rfl
    have w31 : (zI (zsI w19M 337 w23n (zI w19M 336 8)) 336 6).toInt = (zI w19M 336 6).toInt := (congrArg Int32.toInt ((zIo (by decide)).trans rfl)).trans rfl
    have w32 : (zI (zsI w19M 337 w23n (zI w19M 336 8)) 336 5).toInt = (zI M 336 5).toInt := (congrArg Int32.toInt ((zIo (by decide)).trans ((w19F 336 5 rfl).trans rfl))).trans rfl
    have w33 := ib336_7 w19I
    have w34 : (zI (zsI w19M 337 w23n (zI w19M 336 8)) 336 7).toInt = (zI w19M 336 7).toInt := (congrArg Int32.toInt ((zIo (by decide)).trans rfl)).trans rfl
    have w35 : (zI (zsI w19M 337 w23n (zI w19M 336 8)) 336 6).toInt = (zI w19M 336 6).toInt := (congrArg Int32.toInt ((zIo (by decide)).trans rfl)).trans rfl
    have w36 : (zI (zsI w19M 337 w23n (zI w19M 336 8)) 336 7).toInt = (zI w19M 336 7).toInt := (congrArg Int32.toInt ((zIo (by decide)).trans rfl)).trans rfl
    refine zs_invV (pc := 24) (k := 336) (as' := [.int d]) (st := []) t242_24 mf246 rfl rfl (Or.inl ⟨by decide, (zk1 (w19s.k fk_zMm_336))⟩) ⟨by decide, by decide, Nat.le_of_ble_eq_true rfl, Nat.le_of_ble_eq_true rfl⟩ (R246 w19s w24 ⟨by omega, by omega⟩ (by omega) (by omega) (by omega) (zTm.mk x2 (fun j => ((zIo (by decide)).trans (w19F 339 j rfl))) ((zIo (by decide)).trans (w19F 336 5 rfl))) ?_) (fun _ _ q => q)
    intro w37M w37v w37s w37I w37F w37J w37t0 w37t1 w37x0 w37a w37b
    have w38 := ib336_6 w37I
    have w39 := ib336_7 w37I
    show zGo X l 3 0 0 242 27 [(0, .ref 336), (1, .int a), (2, .int b), (3, .int c), (4, .int d)] [.int w37v] w37M _
    have w40 : (zI w37M 337 0).toInt = (zI M 337 0).toInt := (congrArg Int32.toInt ((w37F 337 0 rfl).trans ((zIoj (by omega)).trans ((w19F 337 0 rfl).trans rfl)))).trans rfl
    have w41 : (zI w37M 336 6).toInt = (zI w37M 336 6).toInt := (congrArg Int32.toInt rfl).trans rfl
    have w42 : (zI w37M 337 2).toInt = (zI M 337 2).toInt := (congrArg Int32.toInt ((w37F 337 2 rfl).trans ((zIoj (by omega)).trans ((w19F 337 2 rfl).trans rfl)))).trans rfl
    have w43 : (zI w37M 337 1).toInt = (zI M 337 1).toInt := (congrArg Int32.toInt ((w37F 337 1 rfl).trans ((zIoj (by omega)).trans ((w19F 337 1 rfl).trans rfl)))).trans rfl
    have w44 : (zI w37M 336 7).toInt = (zI w37M 336 7).toInt := (congrArg Int32.toInt rfl).trans rfl
    have w45 : (zI w37M 336 6).toInt = (zI w37M 336 6).toInt := (congrArg Int32.toInt rfl).trans rfl
    have w46 : (zI w37M 336 7).toInt = (zI w37M 336 7).toInt := (congrArg Int32.toInt rfl).trans rfl
    have w37y := x2.rg w21e
    exact zs_iret (pc := 27) t242_27 mr242 (zfb01 (by omega)) (hQ _ _ w37s w37I ((((zFr.refl).trans (w19F.mono rfl)).put rfl).trans (w37F.mono rfl)) (w37J.trans w19J) ((((zUp.refl).trans (zUp.fr w19F rfl)).put (Or.inr (by omega))).trans (zUp.fr w37F rfl)) (zPR.fr w27 (w37F.eq rfl)) (zPC.fr w28 (w37F.eq rfl)) (by omega) (by omega) (by omega) (by omega) (by omega) (fun j hj => ((w37F 337 j rfl).trans ((zIoj (by omega)).trans (w19F 337 j rfl)))) (Or.inr (fun j hj => by
        obtain rfl : j = w23n := by omega
        rw [w37F 337 _ rfl, zIs]
        exact ⟨by omega, by omega⟩)) (fun p hp => by
        obtain rfl : w7n = p := (by omega)
        rcases w37x0 w21e (by omega) with ⟨q1, q2, q3, q4, q5⟩ | ⟨q1, q2, q3⟩
        · exact Or.inl ⟨by omega, w21e + 1, w21x, pRd.y w21_1 (by omega) (by omega) (by omega), by omega, by omega, by omega, by omega, by omega, by omega, by rw [show a.toInt.toNat = w23n by omega]; exact (zRw.fr' w29 (fun j hj => (w37F 337 j rfl)))⟩
        · exact Or.inr ⟨by omega, by omega, pRd.n w21_1 (by omega)⟩) (by omega) (by omega))
  · skip
    refine zs_if_neF (pc := 6) t242_6 rfl (by omega) ?_
    refine zs_iconst (pc := 9) t242_9 (v := 0) (by decide) ?_
    have w47 : (0 : Int32).toInt = 0 := li0
    have w48 : (zI w19M 337 0).toInt = (zI M 337 0).toInt := (congrArg Int32.toInt ((w19F 337 0 rfl).trans rfl)).trans rfl
    have w49 : (zI w19M 336 6).toInt = (zI w19M 336 6).toInt := (congrArg Int32.toInt rfl).trans rfl
    have w50 : (zI w19M 337 2).toInt = (zI M 337 2).toInt := (congrArg Int32.toInt ((w19F 337 2 rfl).trans rfl)).trans rfl
    have w51 : (zI w19M 337 1).toInt = (zI M 337 1).toInt := (congrArg Int32.toInt ((w19F 337 1 rfl).trans rfl)).trans rfl
    have w52 := ib336_7 w19I
    have w53 : (zI w19M 336 7).toInt = (zI w19M 336 7).toInt := (congrArg Int32.toInt rfl).trans rfl
    have w54 := li0
    have w55 : (zI w19M 336 6).toInt = (zI w19M 336 6).toInt := (congrArg Int32.toInt rfl).trans rfl
    have w56 : (zI w19M 336 7).toInt = (zI w19M 336 7).toInt := (congrArg Int32.toInt rfl).trans rfl
    exact zs_iret (pc := 10) t242_10 mr242 (by decide) (hQ _ _ w19s w19I ((zFr.refl).trans (w19F.mono rfl)) w19J ((zUp.refl).trans (zUp.fr w19F rfl)) (zPR.fr pR (w19F.eq rfl)) (zPC.fr pC (w19F.eq rfl)) (by omega) (by omega) (by omega) (by omega) (by omega) (fun j hj => (w19F 337 j rfl)) (Or.inl (by decide)) (fun p hp => by
        obtain rfl : w7n = p := (by omega)
        exact Or.inr ⟨by decide, by omega, by rcases w21z with q | ⟨e, x, q, q2⟩; exact pRd.f q; exact pRd.n q (by omega)⟩) (by decide) (by decide))
theorem R240 {X : zX} {l : Launch} {M : zM} {Q : Option Value → zM → Prop} (hs : zSk zMm M) (hI : zIv mLo mHi M) {F : Nat → Int} {gg : Nat → Int} {nn : Int} (pR : zPR M) (pC : zPC M) (u0 : (zI M 337 0).toInt < 8) (u1 : (zI M 336 6).toInt ≤ (zI M 336 5).toInt) (u2 : 0 ≤ (zI M 336 6).toInt) (u3 : (zI M 336 7).toInt = -1) (x0 : zRw M 0 F) (x1 : zTm M gg nn) (x2 : zWF F) (hQ : ∀ (M' : zM) (v : Int32), zSk zMm M' → zIv mLo mHi M' → zFr [(336, 336, some 6), (336, 336, some 7), (336, 336, some 8), (337, 337, none)] M M' → zJ M' 351 = zJ M 351 → zUp M M' → zPR M' → zPC M' → ((zI M 336 6).toInt ≤ (zI M' 336 6).toInt) → ((v.toInt = 1 ∧ (zI M' 336 7).toInt = (zI M 336 7).toInt) ∨ (v.toInt = 0 ∧ 0 ≤ (zI M' 336 7).toInt)) → (∀ p : Nat, (zI M 336 6).toInt = (p : Int) → (v.toInt = 1 ∧ ∃ (q : Nat) (F2 : Nat → Int), (pB (pRd gg p (pLo F) 999 59) fun q x => some (q, pLay F x)) = some (q, F2) ∧ (zI M' 336 6).toInt = (q : Int) ∧ p < q ∧ (q : Int) ≤ nn ∧ (zI M' 336 7).toInt = -1 ∧ zRw M' 0 F2 ∧ zWF F2) ∨ (v.toInt = 0 ∧ (zI M' 336 7).toInt ≠ -1 ∧ (pB (pRd gg p (pLo F) 999 59) fun q x => some (q, pLay F x)) = none)) → 0 ≤ v.toInt → v.toInt ≤ 1 → Q (some (.int v)) M') : zCall X l 4 0 0 240 [.ref 336] M Q := by
  refine zs_in (by decide) mf240 (Nat.le_of_ble_eq_true rfl) ?_
  show zGo X l 4 0 0 240 0 [(0, .ref 336)] [] M _
  have hn := x1.2
  have w1 := ib336_5 hI
  have w2 : (zI M 336 5).toInt = (zI M 336 5).toInt := (congrArg Int32.toInt rfl).trans rfl
  have w3 := ib336_6 hI
  have w4 : (zI M 336 6).toInt = (zI M 336 6).toInt := (congrArg Int32.toInt rfl).trans rfl
  have w5 := ib336_7 hI
  have w6 : (zI M 336 7).toInt = (zI M 336 7).toInt := (congrArg Int32.toInt rfl).trans rfl
  obtain ⟨w7n, w7⟩ : ∃ n : Nat, (zI M 336 6).toInt = (n : Int) := ⟨((zI M 336 6).toInt).toNat, by omega⟩
  have f1 := x2.1
  have f3 := x2.2.2.2
  have w8 := ibA0 hI
  have w9 : (zI M 337 0).toInt = (zI M 337 0).toInt := (congrArg Int32.toInt rfl).trans rfl
  have e0 : (zI M 337 0).toInt = F 0 := x0.at (by decide) (by decide) (by decide)
  have w10 := ibA1 hI
  have w11 : (zI M 337 1).toInt = (zI M 337 1).toInt := (congrArg Int32.toInt rfl).trans rfl
  have e1 : (zI M 337 1).toInt = F 1 := x0.at (by decide) (by decide) (by decide)
  have w12 := ibA2 hI
  have w13 : (zI M 337 2).toInt = (zI M 337 2).toInt := (congrArg Int32.toInt rfl).trans rfl
  have e2 : (zI M 337 2).toInt = F 2 := x0.at (by decide) (by decide) (by decide)
  refine zs_aload_n (pc := 0) t240_0 rfl ?_
  refine zs_get (pc := 1) t240_1 (by decide) (zk1 (hs.k fk_zMm_336)) (hs.p rfl fv_zMm_336_0) ?_
  refine zs_iconst (pc := 4) t240_4 (v := 0) (by decide) ?_
  have w14 : (zI M 337 0).toInt = F 0 := x0.at (by decide) (by decide) (by decide)
  refine zs_iald (pc := 5) t240_5 (j := 0) (by decide) (zk1 (hs.k fk_zMm_337)) li0 (zk2 (hs.k fk_zMm_337) (by decide)) rfl ?_
  refine zs_istore_n (pc := 6) t240_6 (ls' := [(1, .int (zI M 337 0)), (0, .ref 336)]) (zml mf240 (by decide)) rfl ?_
  refine zs_aload_n (pc := 7) t240_7 rfl ?_
  refine zs_bipush (pc := 8) t240_8 (v := 14) (by decide) ?_
  refine zs_iconst (pc := 10) t240_10 (v := 2) (by decide) ?_
  refine zs_iload_n (pc := 11) t240_11 rfl ?_
  obtain ⟨w15v, w15⟩ : ∃ v, (2 : Int32) * (zI M 337 0) = v := ⟨_, rfl⟩
  have w15g : w15v.toInt = 2 * (zI M 337 0).toInt := by rw [← w15]; exact zmulc li2 rfl (by omega) (by omega)
  refine zs_imul (pc := 12) t240_12 (c := w15v) w15 ?_
  obtain ⟨w16v, w16e, w16⟩ := ziadd (a := (14 : Int32)) (b := w15v) li14 w15g (by omega) (by omega)
  refine zs_iadd (pc := 13) t240_13 (c := w16v) w16e ?_
  refine zs_iload_n (pc := 14) t240_14 rfl ?_
  by_cases w17 : (zI M 337 0).toInt ≠ 0
  · refine zs_if_neT (pc := 15) t240_15 rfl (by omega) ?_
    refine zs_aload_n (pc := 22) t240_22 rfl ?_
    refine zs_iload_n (pc := 23) t240_23 rfl ?_
    refine zs_iconst (pc := 24) t240_24 (v := 1) (by decide) ?_
    obtain ⟨w18v, w18e, w18⟩ := zisub (a := (zI M 337 0)) (b := (1 : Int32)) rfl li1 (by omega) (by omega)
    refine zs_isub (pc := 25) t240_25 (c := w18v) w18e ?_
    refine zs_invV (pc := 26) (k := 336) (as' := [.int w18v]) (st := [.int w16v, .ref 336]) t240_26 mf241 rfl rfl (Or.inl ⟨by decide, (zk1 (hs.k fk_zMm_336))⟩) ⟨by decide, by decide, Nat.le_of_ble_eq_true rfl, Nat.le_of_ble_eq_true rfl⟩ (zs_in (by decide) mf241 (Nat.le_of_ble_eq_true rfl) ?_) (fun _ _ q => q)
    show zGo X l 0 0 0 241 0 [(0, .ref 336), (1, .int w18v)] [] M _
    refine zs_aload_n (pc := 0) t241_0 rfl ?_
    refine zs_get (pc := 1) t241_1 (by decide) (zk1 (hs.k fk_zMm_336)) (hs.p rfl fv_zMm_336_0) ?_
    refine zs_bipush (pc := 4) t241_4 (v := 14) (by decide) ?_
    refine zs_iconst (pc := 6) t241_6 (v := 2) (by decide) ?_
    refine zs_iload_n (pc := 7) t241_7 rfl ?_
    obtain ⟨w19v, w19⟩ : ∃ v, (2 : Int32) * w18v = v := ⟨_, rfl⟩
    have w19g : w19v.toInt = 2 * ((zI M 337 0).toInt - 1) := by rw [← w19]; exact zmulc li2 w18 (by omega) (by omega)
    refine zs_imul (pc := 8) t241_8 (c := w19v) w19 ?_
    obtain ⟨w20v, w20e, w20⟩ := ziadd (a := (14 : Int32)) (b := w19v) li14 w19g (by omega) (by omega)
    refine zs_iadd (pc := 9) t241_9 (c := w20v) w20e ?_
    obtain ⟨w21n, w21⟩ : ∃ n : Nat, (zI M 337 0).toInt = (n : Int) := ⟨((zI M 337 0).toInt).toNat, by omega⟩
    have w22 := ibX (j := (12 + 2 * w21n)) hI (by omega) (by omega) (by omega)
    have w23 : (zI M 337 (12 + 2 * w21n)).toInt = F (12 + 2 * w21n) := x0.at (by omega) (by omega) (by omega)
    have w24 : pLo F = F (12 + 2 * w21n) + 1 := by rw [show (12 + 2 * w21n) = 14 + 2 * (w21n - 1) by omega]; exact pLo.e (by omega)
    refine zs_iald (pc := 10) t241_10 (j := (12 + 2 * w21n)) (by decide) (zk1 (hs.k fk_zMm_337)) (show w20v.toInt = (((12 + 2 * w21n) : Nat) : Int) by omega) (zk2 (hs.k fk_zMm_337) (by omega)) rfl ?_
    refine zs_iret (pc := 11) t241_11 mr241 rfl ?_
    show zGo X l 4 0 0 240 29 [(1, .int (zI M 337 0)), (0, .ref 336)] [.int (zI M 337 (12 + 2 * w21n)), .int w16v, .ref 336] M _
    refine zs_iconst (pc := 29) t240_29 (v := 1) (by decide) ?_
    obtain ⟨w25v, w25e, w25⟩ := ziadd (a := (zI M 337 (12 + 2 * w21n))) (b := (1 : Int32)) rfl li1 (by omega) (by omega)
    refine zs_iadd (pc := 30) t240_30 (c := w25v) w25e ?_
    refine zs_sipush (pc := 31) t240_31 (v := 999) (by decide) ?_
    refine zs_bipush (pc := 34) t240_34 (v := 59) (by decide) ?_
    have w26 : (zI M 336 6).toInt = (zI M 336 6).toInt := (congrArg Int32.toInt rfl).trans rfl
    have w27 : w16v.toInt = (14 + (2 * (zI M 337 0).toInt)) := w16
    have w28 : w25v.toInt = ((zI M 337 (12 + 2 * w21n)).toInt + 1) := w25
    have w29 : (999 : Int32).toInt = 999 := li999
    have w30 : (59 : Int32).toInt = 59 := li59
    have w31 : (zI M 337 0).toInt = (zI M 337 0).toInt := (congrArg Int32.toInt rfl).trans rfl
    have w32 : (zI M 336 6).toInt = (zI M 336 6).toInt := (congrArg Int32.toInt rfl).trans rfl
    have w33 : (zI M 336 5).toInt = (zI M 336 5).toInt := (congrArg Int32.toInt rfl).trans rfl
    have w34 : (zI M 337 1).toInt = (zI M 337 1).toInt := (congrArg Int32.toInt rfl).trans rfl
    have w35 : (zI M 336 7).toInt = (zI M 336 7).toInt := (congrArg Int32.toInt rfl).trans rfl
    have w36 : (zI M 337 1).toInt = (zI M 337 1).toInt := (congrArg Int32.toInt rfl).trans rfl
    have w37 : (zI M 336 7).toInt = (zI M 336 7).toInt := (congrArg Int32.toInt rfl).trans rfl
    have w38 : (zI M 337 0).toInt = (zI M 337 0).toInt := (congrArg Int32.toInt rfl).trans rfl
    have w39 : (zI M 336 6).toInt = (zI M 336 6).toInt := (congrArg Int32.toInt rfl).trans rfl
    have w40 : (zI M 337 2).toInt = (zI M 337 2).toInt := (congrArg Int32.toInt rfl).trans rfl
    have w42 : w25v.toInt = ((zI M 337 (12 + 2 * w21n)).toInt + 1) := w25
    have w43 : (999 : Int32).toInt = 999 := li999
    have w44 : w16v.toInt = (14 + (2 * (zI M 337 0).toInt)) := w16
    have w41 := aX (p := w16v.toInt.toNat) (by omega) (by omega) (by omega)
    refine zs_invV (pc := 36) (k := 336) (as' := [.int w16v, .int w25v, .int (999 : Int32), .int (59 : Int32)]) (st := []) t240_36 mf242 rfl rfl (Or.inl ⟨by decide, (zk1 (hs.k fk_zMm_336))⟩) ⟨by decide, by decide, Nat.le_of_ble_eq_true rfl, Nat.le_of_ble_eq_true rfl⟩ (R242 hs hI pR pC ⟨by omega, by omega⟩ ⟨by decide, by decide⟩ (by omega) (by omega) (by omega) (by omega) (by omega) (by rw [w41.1, w41.2]; exact ⟨by omega, by omega⟩) x0 x1 ?_) (fun _ _ q => q)
    intro w45M w45v w45s w45I w45F w45J w45U w45PR w45PC w45t0 w45t1 w45t2 w45t3 w45t4 w45x0 w45x1 w45x2 w45a w45b
    have w46 := ibA0 w45I
    have w47 := ib336_6 w45I
    have w48 := ibA2 w45I
    have w49 := ibA1 w45I
    have w50 := ib336_7 w45I
    show zGo X l 4 0 0 240 39 [(1, .int (zI M 337 0)), (0, .ref 336)] [.int w45v] w45M _
    have w52 : w16v.toInt = (14 + (2 * (zI M 337 0).toInt)) := w16
    have w53 : w25v.toInt = ((zI M 337 (12 + 2 * w21n)).toInt + 1) := w25
    have w54 : (999 : Int32).toInt = 999 := li999
    have w55 : (59 : Int32).toInt = 59 := li59
    rcases w45x2 w7n (by omega) with ⟨w51v, w51q, w51x, w51_1, w51_2, w51_3, w51_4, w51_5, w51_6, w51_7, w51r⟩ | ⟨w51v, w51_5, w51z⟩
    · skip
      rw [show w16v.toInt.toNat = (14 + 2 * w21n) by omega] at w51r
      refine zs_if_neT (pc := 39) t240_39 rfl (by omega) ?_
      refine zs_aload_n (pc := 44) t240_44 rfl ?_
      refine zs_get (pc := 45) t240_45 (by decide) (zk1 (w45s.k fk_zMm_336)) (w45s.p rfl fv_zMm_336_0) ?_
      refine zs_bipush (pc := 48) t240_48 (v := 14) (by decide) ?_
      refine zs_iconst (pc := 50) t240_50 (v := 2) (by decide) ?_
      refine zs_iload_n (pc := 51) t240_51 rfl ?_
      obtain ⟨w56v, w56⟩ : ∃ v, (2 : Int32) * (zI M 337 0) = v := ⟨_, rfl⟩
      have w56g : w56v.toInt = 2 * (zI M 337 0).toInt := by rw [← w56]; exact zmulc li2 rfl (by omega) (by omega)
      refine zs_imul (pc := 52) t240_52 (c := w56v) w56 ?_
      obtain ⟨w57v, w57e, w57⟩ := ziadd (a := (14 : Int32)) (b := w56v) li14 w56g (by omega) (by omega)
      refine zs_iadd (pc := 53) t240_53 (c := w57v) w57e ?_
      refine zs_iconst (pc := 54) t240_54 (v := 1) (by decide) ?_
      obtain ⟨w58v, w58e, w58⟩ := ziadd (a := w57v) (b := (1 : Int32)) w57 li1 (by omega) (by omega)
      refine zs_iadd (pc := 55) t240_55 (c := w58v) w58e ?_
      refine zs_iconst (pc := 56) t240_56 (v := 1) (by decide) ?_
      have w59a := aN (p := (15 + 2 * w21n)) (by omega)
      have w59 : zIv mLo mHi (zsI w45M 337 (15 + 2 * w21n) (1 : Int32)) := zIv.putA w45I (by omega) (by rw [w59a.1, w59a.2]; exact zrg (1 : Int32))
      have w60 : (zI w45M 337 0).toInt = (zI w45M 337 0).toInt := (congrArg Int32.toInt rfl).trans rfl
      have w61 : (zI w45M 337 1).toInt = (zI w45M 337 1).toInt := (congrArg Int32.toInt rfl).trans rfl
      have w62 : zPR (zsI w45M 337 (15 + 2 * w21n) (1 : Int32)) := zPR.put w45PR (by omega) (by omega) (by omega) (by omega)
      have w63 : zPC (zsI w45M 337 (15 + 2 * w21n) (1 : Int32)) := zPC.put w45PC (by omega) (by omega)
      have w64 : zRw (zsI w45M 337 (15 + 2 * w21n) (1 : Int32)) 0 (uS (uS F (14 + 2 * w21n) w51x) (15 + 2 * w21n) 1) := zRw.put w51r (by decide)
      refine zs_iast (pc := 57) t240_57 (j := (15 + 2 * w21n)) (by decide) (zk1 (w45s.k fk_zMm_337)) (show w58v.toInt = (((15 + 2 * w21n) : Nat) : Int) by omega) (zk2 (w45s.k fk_zMm_337) (by omega)) ?_
      refine zs_aload_n (pc := 58) t240_58 rfl ?_
      refine zs_get (pc := 59) t240_59 (by decide) (zk1 (w45s.k fk_zMm_336)) (w45s.p rfl fv_zMm_336_0) ?_
      refine zs_iconst (pc := 62) t240_62 (v := 0) (by decide) ?_
      refine zs_dup2 (pc := 63) t240_63 ⟨rfl, rfl⟩ ?_
      have w65 : (zI w45M 337 0).toInt = (uS F (14 + 2 * w21n) w51x) 0 := w51r.at (by decide) (by decide) (by decide)
      refine zs_iald (pc := 64) t240_64 (j := 0) (by decide) (zk1 (w45s.k fk_zMm_337)) li0 (zk2 (w45s.k fk_zMm_337) (by decide)) ((zIoj (by omega)).trans rfl) ?_
      refine zs_iconst (pc := 65) t240_65 (v := 1) (by decide) ?_
      obtain ⟨w66v, w66e, w66⟩ := ziadd (a := (zI w45M 337 0)) (b := (1 : Int32)) rfl li1 (by omega) (by omega)
      refine zs_iadd (pc := 66) t240_66 (c := w66v) w66e ?_
      have w67 : zIv mLo mHi (zsI (zsI w45M 337 (15 + 2 * w21n) (1 : Int32)) 337 0 w66v) := zIv.putA w59 (by decide) (show 0 ≤ w66v.toInt ∧ w66v.toInt ≤ 8 from ⟨by omega, by omega⟩)
      have w68 : (zI (zsI w45M 337 (15 + 2 * w21n) (1 : Int32)) 337 0).toInt = (zI w45M 337 0).toInt := (congrArg Int32.toInt ((zIoj (by omega)).trans rfl)).trans rfl
      obtain ⟨w69n, w69⟩ : ∃ n : Nat, (zI w45M 337 0).toInt = (n : Int) := ⟨((zI w45M 337 0).toInt).toNat, by omega⟩
      have w70 : w66v.toInt = ((zI w45M 337 0).toInt + 1) := w66
      have w45q := w45x1.resolve_left (by omega) (14 + 2 * w21n) (by omega)
      have w45e := w25
      have w71 : zPR (zsI (zsI w45M 337 (15 + 2 * w21n) (1 : Int32)) 337 0 w66v) := zPR.lay (n := w21n) w62 (by omega) (by omega) (Or.inr (by rw [zIoj (by omega), zIoj (by omega), w45x0 (14 + 2 * (w21n - 1)) (by omega), show 14 + 2 * (w21n - 1) = 12 + 2 * w21n by omega]; omega))
      have w72 : zPC (zsI (zsI w45M 337 (15 + 2 * w21n) (1 : Int32)) 337 0 w66v) := zPC.put w63 (by decide) (by decide)
      have w73 : zRw (zsI (zsI w45M 337 (15 + 2 * w21n) (1 : Int32)) 337 0 w66v) 0 (uS (uS (uS F (14 + 2 * w21n) w51x) (15 + 2 * w21n) 1) 0 (F 0 + 1)) := zRw.put w64 (by omega)
      refine zs_iast (pc := 67) t240_67 (j := 0) (by decide) (zk1 (w45s.k fk_zMm_337)) li0 (zk2 (w45s.k fk_zMm_337) (by decide)) ?_
      refine zs_iconst (pc := 68) t240_68 (v := 1) (by decide) ?_
      have w74 : (1 : Int32).toInt = 1 := li1
      have w75 : (zI (zsI (zsI w45M 337 (15 + 2 * w21n) (1 : Int32)) 337 0 w66v) 336 6).toInt = (zI w45M 336 6).toInt := (congrArg Int32.toInt ((zIo (by decide)).trans ((zIo (by decide)).trans rfl))).trans rfl
      have w76 : (zI (zsI (zsI w45M 337 (15 + 2 * w21n) (1 : Int32)) 337 0 w66v) 336 7).toInt = (zI w45M 336 7).toInt := (congrArg Int32.toInt ((zIo (by decide)).trans ((zIo (by decide)).trans rfl))).trans rfl
      have w77 := li1
      have w78 : (zI (zsI (zsI w45M 337 (15 + 2 * w21n) (1 : Int32)) 337 0 w66v) 336 6).toInt = (zI w45M 336 6).toInt := (congrArg Int32.toInt ((zIo (by decide)).trans ((zIo (by decide)).trans rfl))).trans rfl
      have w79 : (zI (zsI (zsI w45M 337 (15 + 2 * w21n) (1 : Int32)) 337 0 w66v) 336 7).toInt = (zI w45M 336 7).toInt := (congrArg Int32.toInt ((zIo (by decide)).trans ((zIo (by decide)).trans rfl))).trans rfl
      have w80 : F 0 = 0 → pLo F = 1 := fun q => pLo.z q
      exact zs_iret (pc := 69) t240_69 mr240 (by decide) (hQ _ _ w45s w67 ((((zFr.refl).trans (w45F.mono rfl)).put rfl).put rfl) w45J ((((zUp.refl).trans w45U).put (Or.inr (by omega))).put (Or.inr (by decide))) w71 w72 (by omega) (by omega) (fun p hp => by obtain rfl : w7n = p := (by omega); exact Or.inl ⟨by first | decide | omega, w51q, _, (pB.y (by have z := w51_1; rw [show w25v.toInt = pLo F by first | decide | omega, show (999 : Int32).toInt = 999 by first | decide | omega, show (59 : Int32).toInt = 59 by first | decide | omega] at z; exact z)), by omega, by omega, by omega, by omega, (by unfold pLay; rw [show (F 0).toNat = w21n by omega]; exact w73), zWF.lay x2 (by omega) (by omega) (by omega)⟩) (by decide) (by decide))
    · skip
      refine zs_if_neF (pc := 39) t240_39 rfl (by omega) ?_
      refine zs_iconst (pc := 42) t240_42 (v := 0) (by decide) ?_
      have w81 : (0 : Int32).toInt = 0 := li0
      have w82 : (zI w45M 336 6).toInt = (zI w45M 336 6).toInt := (congrArg Int32.toInt rfl).trans rfl
      have w83 : (zI w45M 336 7).toInt = (zI w45M 336 7).toInt := (congrArg Int32.toInt rfl).trans rfl
      have w84 := li0
      have w85 : (zI w45M 336 6).toInt = (zI w45M 336 6).toInt := (congrArg Int32.toInt rfl).trans rfl
      have w86 : (zI w45M 336 7).toInt = (zI w45M 336 7).toInt := (congrArg Int32.toInt rfl).trans rfl
      have w87 : F 0 = 0 → pLo F = 1 := fun q => pLo.z q
      exact zs_iret (pc := 43) t240_43 mr240 (by decide) (hQ _ _ w45s w45I ((zFr.refl).trans (w45F.mono rfl)) w45J ((zUp.refl).trans w45U) w45PR w45PC (by omega) (by omega) (fun p hp => by obtain rfl : w7n = p := (by omega); exact Or.inr ⟨by first | decide | omega, by omega, (pB.f (by have z := w51z; rw [show w25v.toInt = pLo F by first | decide | omega, show (999 : Int32).toInt = 999 by first | decide | omega, show (59 : Int32).toInt = 59 by first | decide | omega] at z; exact z))⟩) (by decide) (by decide))
  · refine zs_if_neF (pc := 15) t240_15 rfl (by omega) ?_
    refine zs_iconst (pc := 18) t240_18 (v := 1) (by decide) ?_
    refine zs_goto (pc := 19) t240_19 ?_
    refine zs_sipush (pc := 31) t240_31 (v := 999) (by decide) ?_
    refine zs_bipush (pc := 34) t240_34 (v := 59) (by decide) ?_
    have w88 : (zI M 336 6).toInt = (zI M 336 6).toInt := (congrArg Int32.toInt rfl).trans rfl
    have w89 : w16v.toInt = (14 + (2 * (zI M 337 0).toInt)) := w16
    have w90 : (1 : Int32).toInt = 1 := li1
    have w91 : (999 : Int32).toInt = 999 := li999
    have w92 : (59 : Int32).toInt = 59 := li59
    have w93 : (zI M 337 0).toInt = (zI M 337 0).toInt := (congrArg Int32.toInt rfl).trans rfl
    have w94 : (zI M 336 6).toInt = (zI M 336 6).toInt := (congrArg Int32.toInt rfl).trans rfl
    have w95 : (zI M 336 5).toInt = (zI M 336 5).toInt := (congrArg Int32.toInt rfl).trans rfl
    have w96 : (zI M 337 1).toInt = (zI M 337 1).toInt := (congrArg Int32.toInt rfl).trans rfl
    have w97 : (zI M 336 7).toInt = (zI M 336 7).toInt := (congrArg Int32.toInt rfl).trans rfl
    have w98 : (zI M 337 1).toInt = (zI M 337 1).toInt := (congrArg Int32.toInt rfl).trans rfl
    have w99 : (zI M 336 7).toInt = (zI M 336 7).toInt := (congrArg Int32.toInt rfl).trans rfl
    have w100 : (zI M 337 0).toInt = (zI M 337 0).toInt := (congrArg Int32.toInt rfl).trans rfl
    have w101 : (zI M 336 6).toInt = (zI M 336 6).toInt := (congrArg Int32.toInt rfl).trans rfl
    have w102 : (zI M 337 2).toInt = (zI M 337 2).toInt := (congrArg Int32.toInt rfl).trans rfl
    have w104 : (1 : Int32).toInt = 1 := li1
    have w105 : (999 : Int32).toInt = 999 := li999
    have w106 : w16v.toInt = (14 + (2 * (zI M 337 0).toInt)) := w16
    have w103 := aX (p := w16v.toInt.toNat) (by omega) (by omega) (by omega)
    refine zs_invV (pc := 36) (k := 336) (as' := [.int w16v, .int (1 : Int32), .int (999 : Int32), .int (59 : Int32)]) (st := []) t240_36 mf242 rfl rfl (Or.inl ⟨by decide, (zk1 (hs.k fk_zMm_336))⟩) ⟨by decide, by decide, Nat.le_of_ble_eq_true rfl, Nat.le_of_ble_eq_true rfl⟩ (R242 hs hI pR pC ⟨by omega, by omega⟩ ⟨by decide, by decide⟩ (by omega) (by omega) (by omega) (by omega) (by omega) (by rw [w103.1, w103.2]; exact ⟨by omega, by omega⟩) x0 x1 ?_) (fun _ _ q => q)
    intro w107M w107v w107s w107I w107F w107J w107U w107PR w107PC w107t0 w107t1 w107t2 w107t3 w107t4 w107x0 w107x1 w107x2 w107a w107b
    have w108 := ibA0 w107I
    have w109 := ib336_6 w107I
    have w110 := ibA2 w107I
    have w111 := ibA1 w107I
    have w112 := ib336_7 w107I
    show zGo X l 4 0 0 240 39 [(1, .int (zI M 337 0)), (0, .ref 336)] [.int w107v] w107M _
    have w114 : w16v.toInt = (14 + (2 * (zI M 337 0).toInt)) := w16
    have w115 : (1 : Int32).toInt = 1 := li1
    have w116 : (999 : Int32).toInt = 999 := li999
    have w117 : (59 : Int32).toInt = 59 := li59
    rcases w107x2 w7n (by omega) with ⟨w113v, w113q, w113x, w113_1, w113_2, w113_3, w113_4, w113_5, w113_6, w113_7, w113r⟩ | ⟨w113v, w113_5, w113z⟩
    · skip
      obtain ⟨w118n, w118⟩ : ∃ n : Nat, (zI M 337 0).toInt = (n : Int) := ⟨((zI M 337 0).toInt).toNat, by omega⟩
      rw [show w16v.toInt.toNat = (14 + 2 * w118n) by omega] at w113r
      refine zs_if_neT (pc := 39) t240_39 rfl (by omega) ?_
      refine zs_aload_n (pc := 44) t240_44 rfl ?_
      refine zs_get (pc := 45) t240_45 (by decide) (zk1 (w107s.k fk_zMm_336)) (w107s.p rfl fv_zMm_336_0) ?_
      refine zs_bipush (pc := 48) t240_48 (v := 14) (by decide) ?_
      refine zs_iconst (pc := 50) t240_50 (v := 2) (by decide) ?_
      refine zs_iload_n (pc := 51) t240_51 rfl ?_
      obtain ⟨w119v, w119⟩ : ∃ v, (2 : Int32) * (zI M 337 0) = v := ⟨_, rfl⟩
      have w119g : w119v.toInt = 2 * (zI M 337 0).toInt := by rw [← w119]; exact zmulc li2 rfl (by omega) (by omega)
      refine zs_imul (pc := 52) t240_52 (c := w119v) w119 ?_
      obtain ⟨w120v, w120e, w120⟩ := ziadd (a := (14 : Int32)) (b := w119v) li14 w119g (by omega) (by omega)
      refine zs_iadd (pc := 53) t240_53 (c := w120v) w120e ?_
      refine zs_iconst (pc := 54) t240_54 (v := 1) (by decide) ?_
      obtain ⟨w121v, w121e, w121⟩ := ziadd (a := w120v) (b := (1 : Int32)) w120 li1 (by omega) (by omega)
      refine zs_iadd (pc := 55) t240_55 (c := w121v) w121e ?_
      refine zs_iconst (pc := 56) t240_56 (v := 1) (by decide) ?_
      have w122a := aN (p := (15 + 2 * w118n)) (by omega)
      have w122 : zIv mLo mHi (zsI w107M 337 (15 + 2 * w118n) (1 : Int32)) := zIv.putA w107I (by omega) (by rw [w122a.1, w122a.2]; exact zrg (1 : Int32))
      have w123 : (zI w107M 337 0).toInt = (zI w107M 337 0).toInt := (congrArg Int32.toInt rfl).trans rfl
      have w124 : (zI w107M 337 1).toInt = (zI w107M 337 1).toInt := (congrArg Int32.toInt rfl).trans rfl
      have w125 : zPR (zsI w107M 337 (15 + 2 * w118n) (1 : Int32)) := zPR.put w107PR (by omega) (by omega) (by omega) (by omega)
      have w126 : zPC (zsI w107M 337 (15 + 2 * w118n) (1 : Int32)) := zPC.put w107PC (by omega) (by omega)
      have w127 : zRw (zsI w107M 337 (15 + 2 * w118n) (1 : Int32)) 0 (uS (uS F (14 + 2 * w118n) w113x) (15 + 2 * w118n) 1) := zRw.put w113r (by decide)
      refine zs_iast (pc := 57) t240_57 (j := (15 + 2 * w118n)) (by decide) (zk1 (w107s.k fk_zMm_337)) (show w121v.toInt = (((15 + 2 * w118n) : Nat) : Int) by omega) (zk2 (w107s.k fk_zMm_337) (by omega)) ?_
      refine zs_aload_n (pc := 58) t240_58 rfl ?_
      refine zs_get (pc := 59) t240_59 (by decide) (zk1 (w107s.k fk_zMm_336)) (w107s.p rfl fv_zMm_336_0) ?_
      refine zs_iconst (pc := 62) t240_62 (v := 0) (by decide) ?_
      refine zs_dup2 (pc := 63) t240_63 ⟨rfl, rfl⟩ ?_
      have w128 : (zI w107M 337 0).toInt = (uS F (14 + 2 * w118n) w113x) 0 := w113r.at (by decide) (by decide) (by decide)
      refine zs_iald (pc := 64) t240_64 (j := 0) (by decide) (zk1 (w107s.k fk_zMm_337)) li0 (zk2 (w107s.k fk_zMm_337) (by decide)) ((zIoj (by omega)).trans rfl) ?_
      refine zs_iconst (pc := 65) t240_65 (v := 1) (by decide) ?_
      obtain ⟨w129v, w129e, w129⟩ := ziadd (a := (zI w107M 337 0)) (b := (1 : Int32)) rfl li1 (by omega) (by omega)
      refine zs_iadd (pc := 66) t240_66 (c := w129v) w129e ?_
      have w130 : zIv mLo mHi (zsI (zsI w107M 337 (15 + 2 * w118n) (1 : Int32)) 337 0 w129v) := zIv.putA w122 (by decide) (show 0 ≤ w129v.toInt ∧ w129v.toInt ≤ 8 from ⟨by omega, by omega⟩)
      have w131 : (zI (zsI w107M 337 (15 + 2 * w118n) (1 : Int32)) 337 0).toInt = (zI w107M 337 0).toInt := (congrArg Int32.toInt ((zIoj (by omega)).trans rfl)).trans rfl
      obtain ⟨w132n, w132⟩ : ∃ n : Nat, (zI w107M 337 0).toInt = (n : Int) := ⟨((zI w107M 337 0).toInt).toNat, by omega⟩
      have w133 : w129v.toInt = ((zI w107M 337 0).toInt + 1) := w129
      have w134 : zPR (zsI (zsI w107M 337 (15 + 2 * w118n) (1 : Int32)) 337 0 w129v) := zPR.lay (n := w118n) w125 (by omega) (by omega) (Or.inl (by omega))
      have w135 : zPC (zsI (zsI w107M 337 (15 + 2 * w118n) (1 : Int32)) 337 0 w129v) := zPC.put w126 (by decide) (by decide)
      have w136 : zRw (zsI (zsI w107M 337 (15 + 2 * w118n) (1 : Int32)) 337 0 w129v) 0 (uS (uS (uS F (14 + 2 * w118n) w113x) (15 + 2 * w118n) 1) 0 (F 0 + 1)) := zRw.put w127 (by omega)
      refine zs_iast (pc := 67) t240_67 (j := 0) (by decide) (zk1 (w107s.k fk_zMm_337)) li0 (zk2 (w107s.k fk_zMm_337) (by decide)) ?_
      refine zs_iconst (pc := 68) t240_68 (v := 1) (by decide) ?_
      have w137 : (1 : Int32).toInt = 1 := li1
      have w138 : (zI (zsI (zsI w107M 337 (15 + 2 * w118n) (1 : Int32)) 337 0 w129v) 336 6).toInt = (zI w107M 336 6).toInt := (congrArg Int32.toInt ((zIo (by decide)).trans ((zIo (by decide)).trans rfl))).trans rfl
      have w139 : (zI (zsI (zsI w107M 337 (15 + 2 * w118n) (1 : Int32)) 337 0 w129v) 336 7).toInt = (zI w107M 336 7).toInt := (congrArg Int32.toInt ((zIo (by decide)).trans ((zIo (by decide)).trans rfl))).trans rfl
      have w140 := li1
      have w141 : (zI (zsI (zsI w107M 337 (15 + 2 * w118n) (1 : Int32)) 337 0 w129v) 336 6).toInt = (zI w107M 336 6).toInt := (congrArg Int32.toInt ((zIo (by decide)).trans ((zIo (by decide)).trans rfl))).trans rfl
      have w142 : (zI (zsI (zsI w107M 337 (15 + 2 * w118n) (1 : Int32)) 337 0 w129v) 336 7).toInt = (zI w107M 336 7).toInt := (congrArg Int32.toInt ((zIo (by decide)).trans ((zIo (by decide)).trans rfl))).trans rfl
      have w143 : F 0 = 0 → pLo F = 1 := fun q => pLo.z q
      exact zs_iret (pc := 69) t240_69 mr240 (by decide) (hQ _ _ w107s w130 ((((zFr.refl).trans (w107F.mono rfl)).put rfl).put rfl) w107J ((((zUp.refl).trans w107U).put (Or.inr (by omega))).put (Or.inr (by decide))) w134 w135 (by omega) (by omega) (fun p hp => by obtain rfl : w7n = p := (by omega); exact Or.inl ⟨by first | decide | omega, w113q, _, (pB.y (by have z := w113_1; rw [show (1 : Int32).toInt = pLo F by first | decide | omega, show (999 : Int32).toInt = 999 by first | decide | omega, show (59 : Int32).toInt = 59 by first | decide | omega] at z; exact z)), by omega, by omega, by omega, by omega, (by unfold pLay; rw [show (F 0).toNat = w118n by omega]; exact w136), zWF.lay x2 (by omega) (by omega) (by omega)⟩) (by decide) (by decide))
    · skip
      refine zs_if_neF (pc := 39) t240_39 rfl (by omega) ?_
      refine zs_iconst (pc := 42) t240_42 (v := 0) (by decide) ?_
      have w144 : (0 : Int32).toInt = 0 := li0
      have w145 : (zI w107M 336 6).toInt = (zI w107M 336 6).toInt := (congrArg Int32.toInt rfl).trans rfl
      have w146 : (zI w107M 336 7).toInt = (zI w107M 336 7).toInt := (congrArg Int32.toInt rfl).trans rfl
      have w147 := li0
      have w148 : (zI w107M 336 6).toInt = (zI w107M 336 6).toInt := (congrArg Int32.toInt rfl).trans rfl
      have w149 : (zI w107M 336 7).toInt = (zI w107M 336 7).toInt := (congrArg Int32.toInt rfl).trans rfl
      have w150 : F 0 = 0 → pLo F = 1 := fun q => pLo.z q
      exact zs_iret (pc := 43) t240_43 mr240 (by decide) (hQ _ _ w107s w107I ((zFr.refl).trans (w107F.mono rfl)) w107J ((zUp.refl).trans w107U) w107PR w107PC (by omega) (by omega) (fun p hp => by obtain rfl : w7n = p := (by omega); exact Or.inr ⟨by first | decide | omega, by omega, (pB.f (by have z := w113z; rw [show (1 : Int32).toInt = pLo F by first | decide | omega, show (999 : Int32).toInt = 999 by first | decide | omega, show (59 : Int32).toInt = 59 by first | decide | omega] at z; exact z))⟩) (by decide) (by decide))
theorem R247 {X : zX} {l : Launch} {M : zM} {Q : Option Value → zM → Prop} (hs : zSk zMm M) (hI : zIv mLo mHi M) {F : Nat → Int} {gg : Nat → Int} {nn : Int} (pR : zPR M) (pC : zPC M) (u0 : (zI M 337 1).toInt < 60) (u1 : (zI M 336 6).toInt ≤ (zI M 336 5).toInt) (u2 : 0 ≤ (zI M 336 6).toInt) (u3 : (zI M 336 7).toInt = -1) (x0 : zRw M 0 F) (x1 : zTm M gg nn) (x2 : zWF F) (hQ : ∀ (M' : zM) (v : Int32), zSk zMm M' → zIv mLo mHi M' → zFr [(336, 336, some 6), (336, 336, some 7), (336, 336, some 8), (337, 337, none)] M M' → zJ M' 351 = zJ M 351 → zUp M M' → zPR M' → zPC M' → ((zI M 336 6).toInt ≤ (zI M' 336 6).toInt) → ((v.toInt = 1 ∧ (zI M' 336 7).toInt = (zI M 336 7).toInt) ∨ (v.toInt = 0 ∧ 0 ≤ (zI M' 336 7).toInt)) → (∀ p : Nat, (zI M 336 6).toInt = (p : Int) → (v.toInt = 1 ∧ ∃ (q : Nat) (F2 : Nat → Int), (pB (pRd gg p 0 (F 0 - 1) 44) fun q x => pB (pRd gg q (-9999) 9999 44) fun q2 y => pB (pRd gg q2 0 999 59) fun q3 z => some (q3, pHit F x y z (-2))) = some (q, F2) ∧ (zI M' 336 6).toInt = (q : Int) ∧ p < q ∧ (q : Int) ≤ nn ∧ (zI M' 336 7).toInt = -1 ∧ zRw M' 0 F2 ∧ zWF F2) ∨ (v.toInt = 0 ∧ (zI M' 336 7).toInt ≠ -1 ∧ (pB (pRd gg p 0 (F 0 - 1) 44) fun q x => pB (pRd gg q (-9999) 9999 44) fun q2 y => pB (pRd gg q2 0 999 59) fun q3 z => some (q3, pHit F x y z (-2))) = none)) → 0 ≤ v.toInt → v.toInt ≤ 1 → Q (some (.int v)) M') : zCall X l 4 0 0 247 [.ref 336] M Q := by
  refine zs_in (by decide) mf247 (Nat.le_of_ble_eq_true rfl) ?_
  show zGo X l 4 0 0 247 0 [(0, .ref 336)] [] M _
  have hn := x1.2
  have w1 := ib336_5 hI
  have w2 : (zI M 336 5).toInt = (zI M 336 5).toInt := (congrArg Int32.toInt rfl).trans rfl
  have w3 := ib336_6 hI
  have w4 : (zI M 336 6).toInt = (zI M 336 6).toInt := (congrArg Int32.toInt rfl).trans rfl
  have w5 := ib336_7 hI
  have w6 : (zI M 336 7).toInt = (zI M 336 7).toInt := (congrArg Int32.toInt rfl).trans rfl
  obtain ⟨w7n, w7⟩ : ∃ n : Nat, (zI M 336 6).toInt = (n : Int) := ⟨((zI M 336 6).toInt).toNat, by omega⟩
  have f1 := x2.1
  have f3 := x2.2.2.2
  have w8 := ibA0 hI
  have w9 : (zI M 337 0).toInt = (zI M 337 0).toInt := (congrArg Int32.toInt rfl).trans rfl
  have e0 : (zI M 337 0).toInt = F 0 := x0.at (by decide) (by decide) (by decide)
  have w10 := ibA1 hI
  have w11 : (zI M 337 1).toInt = (zI M 337 1).toInt := (congrArg Int32.toInt rfl).trans rfl
  have e1 : (zI M 337 1).toInt = F 1 := x0.at (by decide) (by decide) (by decide)
  have w12 := ibA2 hI
  have w13 : (zI M 337 2).toInt = (zI M 337 2).toInt := (congrArg Int32.toInt rfl).trans rfl
  have e2 : (zI M 337 2).toInt = F 2 := x0.at (by decide) (by decide) (by decide)
  refine zs_bipush (pc := 0) t247_0 (v := 30) (by decide) ?_
  refine zs_iconst (pc := 2) t247_2 (v := 4) (by decide) ?_
  refine zs_aload_n (pc := 3) t247_3 rfl ?_
  refine zs_get (pc := 4) t247_4 (by decide) (zk1 (hs.k fk_zMm_336)) (hs.p rfl fv_zMm_336_0) ?_
  refine zs_iconst (pc := 7) t247_7 (v := 1) (by decide) ?_
  have w14 : (zI M 337 1).toInt = F 1 := x0.at (by decide) (by decide) (by decide)
  refine zs_iald (pc := 8) t247_8 (j := 1) (by decide) (zk1 (hs.k fk_zMm_337)) li1 (zk2 (hs.k fk_zMm_337) (by decide)) rfl ?_
  obtain ⟨w15v, w15⟩ : ∃ v, (4 : Int32) * (zI M 337 1) = v := ⟨_, rfl⟩
  have w15g : w15v.toInt = 4 * (zI M 337 1).toInt := by rw [← w15]; exact zmulc li4 rfl (by omega) (by omega)
  refine zs_imul (pc := 9) t247_9 (c := w15v) w15 ?_
  obtain ⟨w16v, w16e, w16⟩ := ziadd (a := (30 : Int32)) (b := w15v) li30 w15g (by omega) (by omega)
  refine zs_iadd (pc := 10) t247_10 (c := w16v) w16e ?_
  refine zs_istore_n (pc := 11) t247_11 (ls' := [(1, .int w16v), (0, .ref 336)]) (zml mf247 (by decide)) rfl ?_
  refine zs_aload_n (pc := 12) t247_12 rfl ?_
  refine zs_iload_n (pc := 13) t247_13 rfl ?_
  refine zs_iconst (pc := 14) t247_14 (v := 0) (by decide) ?_
  refine zs_aload_n (pc := 15) t247_15 rfl ?_
  refine zs_get (pc := 16) t247_16 (by decide) (zk1 (hs.k fk_zMm_336)) (hs.p rfl fv_zMm_336_0) ?_
  refine zs_iconst (pc := 19) t247_19 (v := 0) (by decide) ?_
  have w17 : (zI M 337 0).toInt = F 0 := x0.at (by decide) (by decide) (by decide)
  refine zs_iald (pc := 20) t247_20 (j := 0) (by decide) (zk1 (hs.k fk_zMm_337)) li0 (zk2 (hs.k fk_zMm_337) (by decide)) rfl ?_
  refine zs_iconst (pc := 21) t247_21 (v := 1) (by decide) ?_
  obtain ⟨w18v, w18e, w18⟩ := zisub (a := (zI M 337 0)) (b := (1 : Int32)) rfl li1 (by omega) (by omega)
  refine zs_isub (pc := 22) t247_22 (c := w18v) w18e ?_
  refine zs_bipush (pc := 23) t247_23 (v := 44) (by decide) ?_
  have w19 : (zI M 336 6).toInt = (zI M 336 6).toInt := (congrArg Int32.toInt rfl).trans rfl
  have w20 : w16v.toInt = (30 + (4 * (zI M 337 1).toInt)) := w16
  have w21 : (0 : Int32).toInt = 0 := li0
  have w22 : w18v.toInt = ((zI M 337 0).toInt - 1) := w18
  have w23 : (44 : Int32).toInt = 44 := li44
  have w24 : (zI M 337 0).toInt = (zI M 337 0).toInt := (congrArg Int32.toInt rfl).trans rfl
  have w25 : (zI M 336 6).toInt = (zI M 336 6).toInt := (congrArg Int32.toInt rfl).trans rfl
  have w26 : (zI M 336 5).toInt = (zI M 336 5).toInt := (congrArg Int32.toInt rfl).trans rfl
  have w27 : (zI M 337 1).toInt = (zI M 337 1).toInt := (congrArg Int32.toInt rfl).trans rfl
  have w28 : (zI M 336 7).toInt = (zI M 336 7).toInt := (congrArg Int32.toInt rfl).trans rfl
  have w29 : (zI M 337 1).toInt = (zI M 337 1).toInt := (congrArg Int32.toInt rfl).trans rfl
  have w30 : (zI M 336 7).toInt = (zI M 336 7).toInt := (congrArg Int32.toInt rfl).trans rfl
  have w31 : (zI M 337 0).toInt = (zI M 337 0).toInt := (congrArg Int32.toInt rfl).trans rfl
  have w32 : (zI M 336 6).toInt = (zI M 336 6).toInt := (congrArg Int32.toInt rfl).trans rfl
  have w33 : (zI M 337 2).toInt = (zI M 337 2).toInt := (congrArg Int32.toInt rfl).trans rfl
  have w35 : (0 : Int32).toInt = 0 := li0
  have w36 : w18v.toInt = ((zI M 337 0).toInt - 1) := w18
  have w37 : w16v.toInt = (30 + (4 * (zI M 337 1).toInt)) := w16
  have w34 := aL (p := w16v.toInt.toNat) (by omega) (by omega) (by omega)
  refine zs_invV (pc := 25) (k := 336) (as' := [.int w16v, .int (0 : Int32), .int w18v, .int (44 : Int32)]) (st := []) t247_25 mf242 rfl rfl (Or.inl ⟨by decide, (zk1 (hs.k fk_zMm_336))⟩) ⟨by decide, by decide, Nat.le_of_ble_eq_true rfl, Nat.le_of_ble_eq_true rfl⟩ (R242 hs hI pR pC ⟨by omega, by omega⟩ ⟨by decide, by decide⟩ (by omega) (by omega) (by omega) (by omega) (by omega) (by rw [w34.1, w34.2]; exact ⟨by omega, by omega⟩) x0 x1 ?_) (fun _ _ q => q)
  intro w38M w38v w38s w38I w38F w38J w38U w38PR w38PC w38t0 w38t1 w38t2 w38t3 w38t4 w38x0 w38x1 w38x2 w38a w38b
  have w39 := ibA0 w38I
  have w40 := ib336_6 w38I
  have w41 := ibA2 w38I
  have w42 := ibA1 w38I
  have w43 := ib336_7 w38I
  show zGo X l 4 0 0 247 28 [(1, .int w16v), (0, .ref 336)] [.int w38v] w38M _
  have w45 : w16v.toInt = (30 + (4 * (zI M 337 1).toInt)) := w16
  have w46 : (0 : Int32).toInt = 0 := li0
  have w47 : w18v.toInt = ((zI M 337 0).toInt - 1) := w18
  have w48 : (44 : Int32).toInt = 44 := li44
  rcases w38x2 w7n (by omega) with ⟨w44v, w44q, w44x, w44_1, w44_2, w44_3, w44_4, w44_5, w44_6, w44_7, w44r⟩ | ⟨w44v, w44_5, w44z⟩
  · skip
    obtain ⟨w49n, w49⟩ : ∃ n : Nat, (zI M 337 1).toInt = (n : Int) := ⟨((zI M 337 1).toInt).toNat, by omega⟩
    rw [show w16v.toInt.toNat = (30 + 4 * w49n) by omega] at w44r
    refine zs_if_eqF (pc := 28) t247_28 rfl (by omega) ?_
    refine zs_aload_n (pc := 31) t247_31 rfl ?_
    refine zs_iload_n (pc := 32) t247_32 rfl ?_
    refine zs_iconst (pc := 33) t247_33 (v := 1) (by decide) ?_
    obtain ⟨w50v, w50e, w50⟩ := ziadd (a := w16v) (b := (1 : Int32)) w16 li1 (by omega) (by omega)
    refine zs_iadd (pc := 34) t247_34 (c := w50v) w50e ?_
    refine zs_sipush (pc := 35) t247_35 (v := -9999) (by decide) ?_
    refine zs_sipush (pc := 38) t247_38 (v := 9999) (by decide) ?_
    refine zs_bipush (pc := 41) t247_41 (v := 44) (by decide) ?_
    have w51 : (zI w38M 336 6).toInt = (zI w38M 336 6).toInt := (congrArg Int32.toInt rfl).trans rfl
    have w52 : w50v.toInt = ((30 + (4 * (zI M 337 1).toInt)) + 1) := w50
    have w53 : (-9999 : Int32).toInt = (-9999) := lin9999
    have w54 : (9999 : Int32).toInt = 9999 := li9999
    have w55 : (44 : Int32).toInt = 44 := li44
    have w56 : (zI w38M 337 0).toInt = (zI w38M 337 0).toInt := (congrArg Int32.toInt rfl).trans rfl
    have w57 : (zI w38M 336 6).toInt = (zI w38M 336 6).toInt := (congrArg Int32.toInt rfl).trans rfl
    have w58 : (zI w38M 336 5).toInt = (zI M 336 5).toInt := (congrArg Int32.toInt ((w38F 336 5 rfl).trans rfl)).trans rfl
    have w59 : (zI w38M 337 1).toInt = (zI w38M 337 1).toInt := (congrArg Int32.toInt rfl).trans rfl
    have w60 : (zI w38M 336 7).toInt = (zI w38M 336 7).toInt := (congrArg Int32.toInt rfl).trans rfl
    have w61 : (zI w38M 337 1).toInt = (zI w38M 337 1).toInt := (congrArg Int32.toInt rfl).trans rfl
    have w62 : (zI w38M 336 7).toInt = (zI w38M 336 7).toInt := (congrArg Int32.toInt rfl).trans rfl
    have w63 : (zI w38M 337 0).toInt = (zI w38M 337 0).toInt := (congrArg Int32.toInt rfl).trans rfl
    have w64 : (zI w38M 336 6).toInt = (zI w38M 336 6).toInt := (congrArg Int32.toInt rfl).trans rfl
    have w65 : (zI w38M 337 2).toInt = (zI w38M 337 2).toInt := (congrArg Int32.toInt rfl).trans rfl
    have w67 : (-9999 : Int32).toInt = (-9999) := lin9999
    have w68 : (9999 : Int32).toInt = 9999 := li9999
    have w69 : w50v.toInt = ((30 + (4 * (zI M 337 1).toInt)) + 1) := w50
    have w66 := aN (p := w50v.toInt.toNat) (by omega)
    refine zs_invV (pc := 43) (k := 336) (as' := [.int w50v, .int (-9999 : Int32), .int (9999 : Int32), .int (44 : Int32)]) (st := []) t247_43 mf242 rfl rfl (Or.inl ⟨by decide, (zk1 (w38s.k fk_zMm_336))⟩) ⟨by decide, by decide, Nat.le_of_ble_eq_true rfl, Nat.le_of_ble_eq_true rfl⟩ (R242 w38s w38I w38PR w38PC ⟨by omega, by omega⟩ ⟨by decide, by decide⟩ (by omega) (by omega) (by omega) (by omega) (by omega) (by rw [w66.1, w66.2]; exact ⟨by omega, by omega⟩) w44r (zTm.mk x1 (fun j => (w38F 339 j rfl)) (w38F 336 5 rfl)) ?_) (fun _ _ q => q)
    intro w70M w70v w70s w70I w70F w70J w70U w70PR w70PC w70t0 w70t1 w70t2 w70t3 w70t4 w70x0 w70x1 w70x2 w70a w70b
    have w71 := ibA0 w70I
    have w72 := ib336_6 w70I
    have w73 := ibA2 w70I
    have w74 := ibA1 w70I
    have w75 := ib336_7 w70I
    show zGo X l 4 0 0 247 46 [(1, .int w16v), (0, .ref 336)] [.int w70v] w70M _
    have w77 : w50v.toInt = ((30 + (4 * (zI M 337 1).toInt)) + 1) := w50
    have w78 : (-9999 : Int32).toInt = (-9999) := lin9999
    have w79 : (9999 : Int32).toInt = 9999 := li9999
    have w80 : (44 : Int32).toInt = 44 := li44
    rcases w70x2 w44q (by omega) with ⟨w76v, w76q, w76x, w76_1, w76_2, w76_3, w76_4, w76_5, w76_6, w76_7, w76r⟩ | ⟨w76v, w76_5, w76z⟩
    · skip
      rw [show w50v.toInt.toNat = (31 + 4 * w49n) by omega] at w76r
      refine zs_if_eqF (pc := 46) t247_46 rfl (by omega) ?_
      refine zs_aload_n (pc := 49) t247_49 rfl ?_
      refine zs_iload_n (pc := 50) t247_50 rfl ?_
      refine zs_iconst (pc := 51) t247_51 (v := 2) (by decide) ?_
      obtain ⟨w81v, w81e, w81⟩ := ziadd (a := w16v) (b := (2 : Int32)) w16 li2 (by omega) (by omega)
      refine zs_iadd (pc := 52) t247_52 (c := w81v) w81e ?_
      refine zs_iconst (pc := 53) t247_53 (v := 0) (by decide) ?_
      refine zs_sipush (pc := 54) t247_54 (v := 999) (by decide) ?_
      refine zs_bipush (pc := 57) t247_57 (v := 59) (by decide) ?_
      have w82 : (zI w70M 336 6).toInt = (zI w70M 336 6).toInt := (congrArg Int32.toInt rfl).trans rfl
      have w83 : w81v.toInt = ((30 + (4 * (zI M 337 1).toInt)) + 2) := w81
      have w84 : (0 : Int32).toInt = 0 := li0
      have w85 : (999 : Int32).toInt = 999 := li999
      have w86 : (59 : Int32).toInt = 59 := li59
      have w87 : (zI w70M 337 0).toInt = (zI w70M 337 0).toInt := (congrArg Int32.toInt rfl).trans rfl
      have w88 : (zI w70M 336 6).toInt = (zI w70M 336 6).toInt := (congrArg Int32.toInt rfl).trans rfl
      have w89 : (zI w70M 336 5).toInt = (zI M 336 5).toInt := (congrArg Int32.toInt ((w70F 336 5 rfl).trans ((w38F 336 5 rfl).trans rfl))).trans rfl
      have w90 : (zI w70M 337 1).toInt = (zI w70M 337 1).toInt := (congrArg Int32.toInt rfl).trans rfl
      have w91 : (zI w70M 336 7).toInt = (zI w70M 336 7).toInt := (congrArg Int32.toInt rfl).trans rfl
      have w92 : (zI w70M 337 1).toInt = (zI w70M 337 1).toInt := (congrArg Int32.toInt rfl).trans rfl
      have w93 : (zI w70M 336 7).toInt = (zI w70M 336 7).toInt := (congrArg Int32.toInt rfl).trans rfl
      have w94 : (zI w70M 337 0).toInt = (zI w70M 337 0).toInt := (congrArg Int32.toInt rfl).trans rfl
      have w95 : (zI w70M 336 6).toInt = (zI w70M 336 6).toInt := (congrArg Int32.toInt rfl).trans rfl
      have w96 : (zI w70M 337 2).toInt = (zI w70M 337 2).toInt := (congrArg Int32.toInt rfl).trans rfl
      have w98 : (0 : Int32).toInt = 0 := li0
      have w99 : (999 : Int32).toInt = 999 := li999
      have w100 : w81v.toInt = ((30 + (4 * (zI M 337 1).toInt)) + 2) := w81
      have w97 := aN (p := w81v.toInt.toNat) (by omega)
      refine zs_invV (pc := 59) (k := 336) (as' := [.int w81v, .int (0 : Int32), .int (999 : Int32), .int (59 : Int32)]) (st := []) t247_59 mf242 rfl rfl (Or.inl ⟨by decide, (zk1 (w70s.k fk_zMm_336))⟩) ⟨by decide, by decide, Nat.le_of_ble_eq_true rfl, Nat.le_of_ble_eq_true rfl⟩ (R242 w70s w70I w70PR w70PC ⟨by omega, by omega⟩ ⟨by decide, by decide⟩ (by omega) (by omega) (by omega) (by omega) (by omega) (by rw [w97.1, w97.2]; exact ⟨by omega, by omega⟩) w76r (zTm.mk x1 (fun j => ((w70F 339 j rfl).trans (w38F 339 j rfl))) ((w70F 336 5 rfl).trans (w38F 336 5 rfl))) ?_) (fun _ _ q => q)
      intro w101M w101v w101s w101I w101F w101J w101U w101PR w101PC w101t0 w101t1 w101t2 w101t3 w101t4 w101x0 w101x1 w101x2 w101a w101b
      have w102 := ibA0 w101I
      have w103 := ib336_6 w101I
      have w104 := ibA2 w101I
      have w105 := ibA1 w101I
      have w106 := ib336_7 w101I
      show zGo X l 4 0 0 247 62 [(1, .int w16v), (0, .ref 336)] [.int w101v] w101M _
      have w108 : w81v.toInt = ((30 + (4 * (zI M 337 1).toInt)) + 2) := w81
      have w109 : (0 : Int32).toInt = 0 := li0
      have w110 : (999 : Int32).toInt = 999 := li999
      have w111 : (59 : Int32).toInt = 59 := li59
      rcases w101x2 w76q (by omega) with ⟨w107v, w107q, w107x, w107_1, w107_2, w107_3, w107_4, w107_5, w107_6, w107_7, w107r⟩ | ⟨w107v, w107_5, w107z⟩
      · skip
        rw [show w81v.toInt.toNat = (32 + 4 * w49n) by omega] at w107r
        refine zs_if_neT (pc := 62) t247_62 rfl (by omega) ?_
        refine zs_aload_n (pc := 67) t247_67 rfl ?_
        refine zs_get (pc := 68) t247_68 (by decide) (zk1 (w101s.k fk_zMm_336)) (w101s.p rfl fv_zMm_336_0) ?_
        refine zs_iload_n (pc := 71) t247_71 rfl ?_
        refine zs_iconst (pc := 72) t247_72 (v := 3) (by decide) ?_
        obtain ⟨w112v, w112e, w112⟩ := ziadd (a := w16v) (b := (3 : Int32)) w16 li3 (by omega) (by omega)
        refine zs_iadd (pc := 73) t247_73 (c := w112v) w112e ?_
        refine zs_bipush (pc := 74) t247_74 (v := -2) (by decide) ?_
        have w113a := aN (p := (33 + 4 * w49n)) (by omega)
        have w113 : zIv mLo mHi (zsI w101M 337 (33 + 4 * w49n) (-2 : Int32)) := zIv.putA w101I (by omega) (by rw [w113a.1, w113a.2]; exact zrg (-2 : Int32))
        have w114 : (zI w101M 337 0).toInt = (zI w101M 337 0).toInt := (congrArg Int32.toInt rfl).trans rfl
        have w115 : (zI w101M 337 1).toInt = (zI w101M 337 1).toInt := (congrArg Int32.toInt rfl).trans rfl
        have w116 : zPR (zsI w101M 337 (33 + 4 * w49n) (-2 : Int32)) := zPR.put w101PR (by omega) (by omega) (by omega) (by omega)
        have w117 : zPC (zsI w101M 337 (33 + 4 * w49n) (-2 : Int32)) := zPC.put w101PC (by omega) (by omega)
        have w118 : zRw (zsI w101M 337 (33 + 4 * w49n) (-2 : Int32)) 0 (uS (uS (uS (uS F (30 + 4 * w49n) w44x) (31 + 4 * w49n) w76x) (32 + 4 * w49n) w107x) (33 + 4 * w49n) (-2)) := zRw.put w107r (by decide)
        refine zs_iast (pc := 76) t247_76 (j := (33 + 4 * w49n)) (by decide) (zk1 (w101s.k fk_zMm_337)) (show w112v.toInt = (((33 + 4 * w49n) : Nat) : Int) by omega) (zk2 (w101s.k fk_zMm_337) (by omega)) ?_
        refine zs_aload_n (pc := 77) t247_77 rfl ?_
        refine zs_get (pc := 78) t247_78 (by decide) (zk1 (w101s.k fk_zMm_336)) (w101s.p rfl fv_zMm_336_0) ?_
        refine zs_iconst (pc := 81) t247_81 (v := 1) (by decide) ?_
        refine zs_dup2 (pc := 82) t247_82 ⟨rfl, rfl⟩ ?_
        have w119 : (zI w101M 337 1).toInt = (uS (uS (uS F (30 + 4 * w49n) w44x) (31 + 4 * w49n) w76x) (32 + 4 * w49n) w107x) 1 := w107r.at (by decide) (by decide) (by decide)
        refine zs_iald (pc := 83) t247_83 (j := 1) (by decide) (zk1 (w101s.k fk_zMm_337)) li1 (zk2 (w101s.k fk_zMm_337) (by decide)) ((zIoj (by omega)).trans rfl) ?_
        refine zs_iconst (pc := 84) t247_84 (v := 1) (by decide) ?_
        obtain ⟨w120v, w120e, w120⟩ := ziadd (a := (zI w101M 337 1)) (b := (1 : Int32)) rfl li1 (by omega) (by omega)
        refine zs_iadd (pc := 85) t247_85 (c := w120v) w120e ?_
        have w121 : zIv mLo mHi (zsI (zsI w101M 337 (33 + 4 * w49n) (-2 : Int32)) 337 1 w120v) := zIv.putA w113 (by decide) (show 0 ≤ w120v.toInt ∧ w120v.toInt ≤ 60 from ⟨by omega, by omega⟩)
        have w122 : (zI (zsI w101M 337 (33 + 4 * w49n) (-2 : Int32)) 337 1).toInt = (zI w101M 337 1).toInt := (congrArg Int32.toInt ((zIoj (by omega)).trans rfl)).trans rfl
        have w123 : (zI (zsI w101M 337 (33 + 4 * w49n) (-2 : Int32)) 337 0).toInt = (zI w101M 337 0).toInt := (congrArg Int32.toInt ((zIoj (by omega)).trans rfl)).trans rfl
        obtain ⟨w124n, w124⟩ : ∃ n : Nat, (zI w101M 337 1).toInt = (n : Int) := ⟨((zI w101M 337 1).toInt).toNat, by omega⟩
        have w125 : w120v.toInt = ((zI w101M 337 1).toInt + 1) := w120
        have w38q := w38x1.resolve_left (by omega) (30 + 4 * w49n) (by omega)
        have w126 : zPR (zsI (zsI w101M 337 (33 + 4 * w49n) (-2 : Int32)) 337 1 w120v) := zPR.hit (n := w49n) w116 (by omega) (by omega) (by rw [zIoj (by omega), w101x0 _ (by omega), w70x0 _ (by omega)]; omega)
        have w127 : zPC (zsI (zsI w101M 337 (33 + 4 * w49n) (-2 : Int32)) 337 1 w120v) := zPC.put w117 (by decide) (by decide)
        have w128 : zRw (zsI (zsI w101M 337 (33 + 4 * w49n) (-2 : Int32)) 337 1 w120v) 0 (uS (uS (uS (uS (uS F (30 + 4 * w49n) w44x) (31 + 4 * w49n) w76x) (32 + 4 * w49n) w107x) (33 + 4 * w49n) (-2)) 1 (F 1 + 1)) := zRw.put w118 (by omega)
        refine zs_iast (pc := 86) t247_86 (j := 1) (by decide) (zk1 (w101s.k fk_zMm_337)) li1 (zk2 (w101s.k fk_zMm_337) (by decide)) ?_
        refine zs_iconst (pc := 87) t247_87 (v := 1) (by decide) ?_
        have w129 : (1 : Int32).toInt = 1 := li1
        have w130 : (zI (zsI (zsI w101M 337 (33 + 4 * w49n) (-2 : Int32)) 337 1 w120v) 336 6).toInt = (zI w101M 336 6).toInt := (congrArg Int32.toInt ((zIo (by decide)).trans ((zIo (by decide)).trans rfl))).trans rfl
        have w131 : (zI (zsI (zsI w101M 337 (33 + 4 * w49n) (-2 : Int32)) 337 1 w120v) 336 7).toInt = (zI w101M 336 7).toInt := (congrArg Int32.toInt ((zIo (by decide)).trans ((zIo (by decide)).trans rfl))).trans rfl
        have w132 := li1
        have w133 : (zI (zsI (zsI w101M 337 (33 + 4 * w49n) (-2 : Int32)) 337 1 w120v) 336 6).toInt = (zI w101M 336 6).toInt := (congrArg Int32.toInt ((zIo (by decide)).trans ((zIo (by decide)).trans rfl))).trans rfl
        have w134 : (zI (zsI (zsI w101M 337 (33 + 4 * w49n) (-2 : Int32)) 337 1 w120v) 336 7).toInt = (zI w101M 336 7).toInt := (congrArg Int32.toInt ((zIo (by decide)).trans ((zIo (by decide)).trans rfl))).trans rfl
        exact zs_iret (pc := 88) t247_88 mr247 (by decide) (hQ _ _ w101s w121 ((((((zFr.refl).trans (w38F.mono rfl)).trans (w70F.mono rfl)).trans (w101F.mono rfl)).put rfl).put rfl) (w101J.trans (w70J.trans w38J)) ((((((zUp.refl).trans w38U).trans w70U).trans w101U).put (Or.inr (by omega))).put (Or.inr (by decide))) w126 w127 (by omega) (by omega) (fun p hp => by obtain rfl : w7n = p := (by omega); exact Or.inl ⟨by first | decide | omega, w107q, _, (((pB.y (by have z := w44_1; rw [show (0 : Int32).toInt = 0 by first | decide | omega, show w18v.toInt = (F 0 - 1) by first | decide | omega, show (44 : Int32).toInt = 44 by first | decide | omega] at z; exact z)).trans (pB.y (by have z := w76_1; rw [show (-9999 : Int32).toInt = (-9999) by first | decide | omega, show (9999 : Int32).toInt = 9999 by first | decide | omega, show (44 : Int32).toInt = 44 by first | decide | omega] at z; exact z))).trans (pB.y (by have z := w107_1; rw [show (0 : Int32).toInt = 0 by first | decide | omega, show (999 : Int32).toInt = 999 by first | decide | omega, show (59 : Int32).toInt = 59 by first | decide | omega] at z; exact z))), by omega, by omega, by omega, by omega, (by unfold pHit; rw [show (F 1).toNat = w49n by omega]; exact w128), zWF.hit x2 (by omega) (by omega) (by omega) (by omega) (by omega) (by omega) (by omega)⟩) (by decide) (by decide))
      · skip
        refine zs_if_neF (pc := 62) t247_62 rfl (by omega) ?_
        refine zs_iconst (pc := 65) t247_65 (v := 0) (by decide) ?_
        have w135 : (0 : Int32).toInt = 0 := li0
        have w136 : (zI w101M 336 6).toInt = (zI w101M 336 6).toInt := (congrArg Int32.toInt rfl).trans rfl
        have w137 : (zI w101M 336 7).toInt = (zI w101M 336 7).toInt := (congrArg Int32.toInt rfl).trans rfl
        have w138 := li0
        have w139 : (zI w101M 336 6).toInt = (zI w101M 336 6).toInt := (congrArg Int32.toInt rfl).trans rfl
        have w140 : (zI w101M 336 7).toInt = (zI w101M 336 7).toInt := (congrArg Int32.toInt rfl).trans rfl
        exact zs_iret (pc := 66) t247_66 mr247 (by decide) (hQ _ _ w101s w101I ((((zFr.refl).trans (w38F.mono rfl)).trans (w70F.mono rfl)).trans (w101F.mono rfl)) (w101J.trans (w70J.trans w38J)) ((((zUp.refl).trans w38U).trans w70U).trans w101U) w101PR w101PC (by omega) (by omega) (fun p hp => by obtain rfl : w7n = p := (by omega); exact Or.inr ⟨by first | decide | omega, by omega, (((pB.y (by have z := w44_1; rw [show (0 : Int32).toInt = 0 by first | decide | omega, show w18v.toInt = (F 0 - 1) by first | decide | omega, show (44 : Int32).toInt = 44 by first | decide | omega] at z; exact z)).trans (pB.y (by have z := w76_1; rw [show (-9999 : Int32).toInt = (-9999) by first | decide | omega, show (9999 : Int32).toInt = 9999 by first | decide | omega, show (44 : Int32).toInt = 44 by first | decide | omega] at z; exact z))).trans (pB.f (by have z := w107z; rw [show (0 : Int32).toInt = 0 by first | decide | omega, show (999 : Int32).toInt = 999 by first | decide | omega, show (59 : Int32).toInt = 59 by first | decide | omega] at z; exact z)))⟩) (by decide) (by decide))
    · skip
      refine zs_if_eqT (pc := 46) t247_46 rfl (by omega) ?_
      refine zs_iconst (pc := 65) t247_65 (v := 0) (by decide) ?_
      have w141 : (0 : Int32).toInt = 0 := li0
      have w142 : (zI w70M 336 6).toInt = (zI w70M 336 6).toInt := (congrArg Int32.toInt rfl).trans rfl
      have w143 : (zI w70M 336 7).toInt = (zI w70M 336 7).toInt := (congrArg Int32.toInt rfl).trans rfl
      have w144 := li0
      have w145 : (zI w70M 336 6).toInt = (zI w70M 336 6).toInt := (congrArg Int32.toInt rfl).trans rfl
      have w146 : (zI w70M 336 7).toInt = (zI w70M 336 7).toInt := (congrArg Int32.toInt rfl).trans rfl
      exact zs_iret (pc := 66) t247_66 mr247 (by decide) (hQ _ _ w70s w70I (((zFr.refl).trans (w38F.mono rfl)).trans (w70F.mono rfl)) (w70J.trans w38J) (((zUp.refl).trans w38U).trans w70U) w70PR w70PC (by omega) (by omega) (fun p hp => by obtain rfl : w7n = p := (by omega); exact Or.inr ⟨by first | decide | omega, by omega, ((pB.y (by have z := w44_1; rw [show (0 : Int32).toInt = 0 by first | decide | omega, show w18v.toInt = (F 0 - 1) by first | decide | omega, show (44 : Int32).toInt = 44 by first | decide | omega] at z; exact z)).trans (pB.f (by have z := w76z; rw [show (-9999 : Int32).toInt = (-9999) by first | decide | omega, show (9999 : Int32).toInt = 9999 by first | decide | omega, show (44 : Int32).toInt = 44 by first | decide | omega] at z; exact z)))⟩) (by decide) (by decide))
  · skip
    refine zs_if_eqT (pc := 28) t247_28 rfl (by omega) ?_
    refine zs_iconst (pc := 65) t247_65 (v := 0) (by decide) ?_
    have w147 : (0 : Int32).toInt = 0 := li0
    have w148 : (zI w38M 336 6).toInt = (zI w38M 336 6).toInt := (congrArg Int32.toInt rfl).trans rfl
    have w149 : (zI w38M 336 7).toInt = (zI w38M 336 7).toInt := (congrArg Int32.toInt rfl).trans rfl
    have w150 := li0
    have w151 : (zI w38M 336 6).toInt = (zI w38M 336 6).toInt := (congrArg Int32.toInt rfl).trans rfl
    have w152 : (zI w38M 336 7).toInt = (zI w38M 336 7).toInt := (congrArg Int32.toInt rfl).trans rfl
    exact zs_iret (pc := 66) t247_66 mr247 (by decide) (hQ _ _ w38s w38I ((zFr.refl).trans (w38F.mono rfl)) w38J ((zUp.refl).trans w38U) w38PR w38PC (by omega) (by omega) (fun p hp => by obtain rfl : w7n = p := (by omega); exact Or.inr ⟨by first | decide | omega, by omega, (pB.f (by have z := w44z; rw [show (0 : Int32).toInt = 0 by first | decide | omega, show w18v.toInt = (F 0 - 1) by first | decide | omega, show (44 : Int32).toInt = 44 by first | decide | omega] at z; exact z))⟩) (by decide) (by decide))
