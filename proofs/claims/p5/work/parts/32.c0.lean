theorem H238 {X : zX} {l : Launch} {M : zM} {Q : Option Value → zM → Prop} (hs : zSk zMm M) (hI : zIv mLo mHi M) (hQ : Q (some (.int (zhere M))) M) : zCall X l 0 0 0 238 [.ref 336] M Q := by
  refine zs_in (by decide) mf238 (Nat.le_of_ble_eq_true rfl) ?_
  show zGo X l 0 0 0 238 0 [(0, .ref 336)] [] M _
  refine zs_aload_n (pc := 0) t238_0 rfl ?_
  have w1 := ib336_6 hI
  refine zs_get (pc := 1) t238_1 (by decide) (zk1 (hs.k fk_zMm_336)) (zfvi rfl rfl) ?_
  refine zs_aload_n (pc := 4) t238_4 rfl ?_
  have w2 := ib336_5 hI
  refine zs_get (pc := 5) t238_5 (by decide) (zk1 (hs.k fk_zMm_336)) (zfvi rfl rfl) ?_
  by_cases w3 : (zI M 336 5).toInt ≤ (zI M 336 6).toInt
  · refine zs_icmp_geT (pc := 8) t238_8 rfl rfl (by omega) ?_
    refine zs_iconst (pc := 27) t238_27 (v := -1) (by decide) ?_
    exact zs_iret (pc := 28) t238_28 mr238 (by decide) (by unfold zhere at hQ; rw [if_neg (by omega)] at hQ; exact hQ)
  · refine zs_icmp_geF (pc := 8) t238_8 rfl rfl (by omega) ?_
    refine zs_aload_n (pc := 11) t238_11 rfl ?_
    refine zs_get (pc := 12) t238_12 (by decide) (zk1 (hs.k fk_zMm_336)) (hs.p rfl fv_zMm_336_4) ?_
    refine zs_aload_n (pc := 15) t238_15 rfl ?_
    refine zs_get (pc := 16) t238_16 (by decide) (zk1 (hs.k fk_zMm_336)) (zfvi rfl rfl) ?_
    obtain ⟨w4n, w4⟩ : ∃ n : Nat, (zI M 336 6).toInt = (n : Int) := ⟨((zI M 336 6).toInt).toNat, by omega⟩
    have w5 := ib339 hI w4n
    refine zs_bald (pc := 19) t238_19 (j := w4n) (Or.inl (zk1 (hs.k fk_zMm_339))) (show (zI M 336 6).toInt = ((w4n : Nat) : Int) by omega) (zk2 (hs.k fk_zMm_339) (by omega)) rfl ?_
    refine zs_sipush (pc := 20) t238_20 (v := 255) (by decide) ?_
    obtain ⟨w6v, w6⟩ : ∃ v, (zI M 339 w4n) &&& (255 : Int32) = v := ⟨_, rfl⟩
    have w6g : 0 ≤ w6v.toInt ∧ w6v.toInt ≤ 255 := by rw [← w6]; exact zand li255 (by decide)
    refine zs_iand (pc := 23) t238_23 (c := w6v) w6 ?_
    refine zs_goto (pc := 24) t238_24 ?_
    exact zs_iret (pc := 28) t238_28 mr238 rfl (by unfold zhere at hQ; rw [if_pos (by omega), show (zI M 336 6).toInt.toNat = w4n by omega] at hQ; subst_vars; exact hQ)
theorem N260 {X : zX} {l : Launch} {M : zM} {Q : Option Value → zM → Prop} {a : Int32} (hs : zSk zMm M) (hI : zIv mLo mHi M) (hQ : ∀ v : Int32, (v.toInt = -1 ∨ 0 ≤ a.toInt) → (-1) ≤ v.toInt → v.toInt ≤ 7 → Q (some (.int v)) M) : zCall X l 0 0 0 260 [.int a] M Q := by
  have ga := zrg a
  refine zs_in (by decide) mf260 (Nat.le_of_ble_eq_true rfl) ?_
  show zGo X l 0 0 0 260 0 [(0, .int a)] [] M _
  refine zs_iload_n (pc := 0) t260_0 rfl ?_
  by_cases w1 : a.toInt = 103
  · refine zs_tswI (pc := 1) t260_1 ((rfl : a.toInt = a.toInt).trans w1) (by decide) rfl (pc2 := 86) rfl ?_
    refine zs_iconst (pc := 86) t260_86 (v := 3) (by decide) ?_
    have w2 := li3
    exact zs_iret (pc := 87) t260_87 mr260 (by decide) (hQ _ (by omega) (by decide) (by decide))
  by_cases w3 : a.toInt = 104
  · refine zs_tswI (pc := 1) t260_1 ((rfl : a.toInt = a.toInt).trans w3) (by decide) rfl (pc2 := 82) rfl ?_
    refine zs_iconst (pc := 82) t260_82 (v := 1) (by decide) ?_
    have w4 := li1
    exact zs_iret (pc := 83) t260_83 mr260 (by decide) (hQ _ (by omega) (by decide) (by decide))
  by_cases w5 : a.toInt = 105
  · refine zs_tswI (pc := 1) t260_1 ((rfl : a.toInt = a.toInt).trans w5) (by decide) rfl (pc2 := 98) rfl ?_
    refine zs_iconst (pc := 98) t260_98 (v := -1) (by decide) ?_
    have w6 := lin1
    exact zs_iret (pc := 99) t260_99 mr260 (by decide) (hQ _ (by omega) (by decide) (by decide))
  by_cases w7 : a.toInt = 106
  · refine zs_tswI (pc := 1) t260_1 ((rfl : a.toInt = a.toInt).trans w7) (by decide) rfl (pc2 := 98) rfl ?_
    refine zs_iconst (pc := 98) t260_98 (v := -1) (by decide) ?_
    have w8 := lin1
    exact zs_iret (pc := 99) t260_99 mr260 (by decide) (hQ _ (by omega) (by decide) (by decide))
  by_cases w9 : a.toInt = 107
  · refine zs_tswI (pc := 1) t260_1 ((rfl : a.toInt = a.toInt).trans w9) (by decide) rfl (pc2 := 98) rfl ?_
    refine zs_iconst (pc := 98) t260_98 (v := -1) (by decide) ?_
    have w10 := lin1
    exact zs_iret (pc := 99) t260_99 mr260 (by decide) (hQ _ (by omega) (by decide) (by decide))
  by_cases w11 : a.toInt = 108
  · refine zs_tswI (pc := 1) t260_1 ((rfl : a.toInt = a.toInt).trans w11) (by decide) rfl (pc2 := 90) rfl ?_
    refine zs_iconst (pc := 90) t260_90 (v := 5) (by decide) ?_
    have w12 := li5
    exact zs_iret (pc := 91) t260_91 mr260 (by decide) (hQ _ (by omega) (by decide) (by decide))
  by_cases w13 : a.toInt = 109
  · refine zs_tswI (pc := 1) t260_1 ((rfl : a.toInt = a.toInt).trans w13) (by decide) rfl (pc2 := 88) rfl ?_
    refine zs_iconst (pc := 88) t260_88 (v := 4) (by decide) ?_
    have w14 := li4
    exact zs_iret (pc := 89) t260_89 mr260 (by decide) (hQ _ (by omega) (by decide) (by decide))
  by_cases w15 : a.toInt = 110
  · refine zs_tswI (pc := 1) t260_1 ((rfl : a.toInt = a.toInt).trans w15) (by decide) rfl (pc2 := 80) rfl ?_
    refine zs_iconst (pc := 80) t260_80 (v := 0) (by decide) ?_
    have w16 := li0
    exact zs_iret (pc := 81) t260_81 mr260 (by decide) (hQ _ (by omega) (by decide) (by decide))
  by_cases w17 : a.toInt = 111
  · refine zs_tswI (pc := 1) t260_1 ((rfl : a.toInt = a.toInt).trans w17) (by decide) rfl (pc2 := 95) rfl ?_
    refine zs_bipush (pc := 95) t260_95 (v := 7) (by decide) ?_
    have w18 := li7
    exact zs_iret (pc := 97) t260_97 mr260 (by decide) (hQ _ (by omega) (by decide) (by decide))
  by_cases w19 : a.toInt = 112
  · refine zs_tswI (pc := 1) t260_1 ((rfl : a.toInt = a.toInt).trans w19) (by decide) rfl (pc2 := 98) rfl ?_
    refine zs_iconst (pc := 98) t260_98 (v := -1) (by decide) ?_
    have w20 := lin1
    exact zs_iret (pc := 99) t260_99 mr260 (by decide) (hQ _ (by omega) (by decide) (by decide))
  by_cases w21 : a.toInt = 113
  · refine zs_tswI (pc := 1) t260_1 ((rfl : a.toInt = a.toInt).trans w21) (by decide) rfl (pc2 := 98) rfl ?_
    refine zs_iconst (pc := 98) t260_98 (v := -1) (by decide) ?_
    have w22 := lin1
    exact zs_iret (pc := 99) t260_99 mr260 (by decide) (hQ _ (by omega) (by decide) (by decide))
  by_cases w23 : a.toInt = 114
  · refine zs_tswI (pc := 1) t260_1 ((rfl : a.toInt = a.toInt).trans w23) (by decide) rfl (pc2 := 98) rfl ?_
    refine zs_iconst (pc := 98) t260_98 (v := -1) (by decide) ?_
    have w24 := lin1
    exact zs_iret (pc := 99) t260_99 mr260 (by decide) (hQ _ (by omega) (by decide) (by decide))
  by_cases w25 : a.toInt = 115
  · refine zs_tswI (pc := 1) t260_1 ((rfl : a.toInt = a.toInt).trans w25) (by decide) rfl (pc2 := 98) rfl ?_
    refine zs_iconst (pc := 98) t260_98 (v := -1) (by decide) ?_
    have w26 := lin1
    exact zs_iret (pc := 99) t260_99 mr260 (by decide) (hQ _ (by omega) (by decide) (by decide))
  by_cases w27 : a.toInt = 116
  · refine zs_tswI (pc := 1) t260_1 ((rfl : a.toInt = a.toInt).trans w27) (by decide) rfl (pc2 := 98) rfl ?_
    refine zs_iconst (pc := 98) t260_98 (v := -1) (by decide) ?_
    have w28 := lin1
    exact zs_iret (pc := 99) t260_99 mr260 (by decide) (hQ _ (by omega) (by decide) (by decide))
  by_cases w29 : a.toInt = 117
  · refine zs_tswI (pc := 1) t260_1 ((rfl : a.toInt = a.toInt).trans w29) (by decide) rfl (pc2 := 92) rfl ?_
    refine zs_bipush (pc := 92) t260_92 (v := 6) (by decide) ?_
    have w30 := li6
    exact zs_iret (pc := 94) t260_94 mr260 (by decide) (hQ _ (by omega) (by decide) (by decide))
  by_cases w31 : a.toInt = 118
  · refine zs_tswI (pc := 1) t260_1 ((rfl : a.toInt = a.toInt).trans w31) (by decide) rfl (pc2 := 84) rfl ?_
    refine zs_iconst (pc := 84) t260_84 (v := 2) (by decide) ?_
    have w32 := li2
    exact zs_iret (pc := 85) t260_85 mr260 (by decide) (hQ _ (by omega) (by decide) (by decide))
  refine zs_tswD (pc := 1) t260_1 rfl (by omega) (pc2 := 98) rfl ?_
  refine zs_iconst (pc := 98) t260_98 (v := -1) (by decide) ?_
  have w33 := lin1
  exact zs_iret (pc := 99) t260_99 mr260 (by decide) (hQ _ (by omega) (by decide) (by decide))
theorem K259 {X : zX} {l : Launch} {M : zM} {Q : Option Value → zM → Prop} (hs : zSk zMm M) (hI : zIv mLo mHi M) {hh : Int} (pH : zGh M hh) (u0 : (zI M 336 11).toInt ≤ 190) (x0 : 0 ≤ hh ∧ hh ≤ 58) (hQ : ∀ (M' : zM) (v : Int32), zSk zMm M' → zIv mLo mHi M' → zFr [(336, 336, some 6), (336, 336, some 7), (336, 336, some 8), (336, 336, some 11), (336, 336, some 13), (340, 340, none)] M M' → zJ M' 351 = zJ M 351 → ((zI M 336 6).toInt ≤ (zI M' 336 6).toInt) → (v.toInt = 0 ∨ ((zI M' 336 13).toInt = (zI M 336 13).toInt + 1 ∧ (zI M' 336 11).toInt = (zI M 336 11).toInt + 1)) → (v.toInt = 0 ∨ zGh M' (hh + 1)) → 0 ≤ v.toInt → v.toInt ≤ 1 → Q (some (.int v)) M') : zCall X l 2 0 0 259 [.ref 336] M Q := by
  refine zs_in (by decide) mf259 (Nat.le_of_ble_eq_true rfl) ?_
  show zGo X l 2 0 0 259 0 [(0, .ref 336)] [] M _
  refine zs_aload_n (pc := 0) t259_0 rfl ?_
  refine zs_invV (pc := 1) (k := 336) (as' := []) (st := []) t259_1 mf238 rfl rfl (Or.inl ⟨by decide, (zk1 (hs.k fk_zMm_336))⟩) ⟨by decide, by decide, Nat.le_of_ble_eq_true rfl, Nat.le_of_ble_eq_true rfl⟩ (H238 hs hI ?_) (fun _ _ q => q)
  have w1 := zhere.rg (M := M)
  have w2 := ib336_6 hI
  have w3 : (zI M 336 6).toInt = (zI M 336 6).toInt := (congrArg Int32.toInt rfl).trans rfl
  have w4 := ib336_5 hI
  have w5 : (zI M 336 5).toInt = (zI M 336 5).toInt := (congrArg Int32.toInt rfl).trans rfl
  show zGo X l 2 0 0 259 4 [(0, .ref 336)] [.int (zhere M)] M _
  refine zs_istore_n (pc := 4) t259_4 (ls' := [(1, .int (zhere M)), (0, .ref 336)]) (zml mf259 (by decide)) rfl ?_
  refine zs_iload_n (pc := 5) t259_5 rfl ?_
  refine zs_invS (pc := 6) (as := [.int (zhere M)]) (st := []) t259_6 (by decide) mf245 rfl rfl ⟨by decide, by decide, Nat.le_of_ble_eq_true rfl, Nat.le_of_ble_eq_true rfl⟩ (K245 hs hI ?_) (fun _ _ q => q)
  intro w6v w6t0 w6a w6b
  show zGo X l 2 0 0 259 9 [(1, .int (zhere M)), (0, .ref 336)] [.int w6v] M _
  by_cases w7 : w6v.toInt ≠ 0
  · refine zs_if_neT (pc := 9) t259_9 rfl (by omega) ?_
    refine zs_aload_n (pc := 20) t259_20 rfl ?_
    have w8 := ib336_13 hI
    refine zs_get (pc := 21) t259_21 (by decide) (zk1 (hs.k fk_zMm_336)) (zfvi rfl rfl) ?_
    refine zs_bipush (pc := 24) t259_24 (v := 30) (by decide) ?_
    by_cases w9 : (zI M 336 13).toInt ≠ 30
    · refine zs_icmp_neT (pc := 26) t259_26 rfl li30 (by omega) ?_
      refine zs_aload_n (pc := 38) t259_38 rfl ?_
      refine zs_dup (pc := 39) t259_39 rfl ?_
      refine zs_get (pc := 40) t259_40 (by decide) (zk1 (hs.k fk_zMm_336)) (zfvi rfl rfl) ?_
      refine zs_iconst (pc := 43) t259_43 (v := 1) (by decide) ?_
      obtain ⟨w10v, w10e, w10⟩ := ziadd (a := (zI M 336 13)) (b := (1 : Int32)) rfl li1 (by omega) (by omega)
      refine zs_iadd (pc := 44) t259_44 (c := w10v) w10e ?_
      have w11 : zIv mLo mHi (zsI M 336 13 w10v) := zIv.put hI (show 0 ≤ w10v.toInt ∧ w10v.toInt ≤ 30 from ⟨by omega, by omega⟩)
      refine zs_putI (pc := 45) t259_45 (zk1 (hs.k fk_zMm_336)) rfl ?_
      refine zs_iload_n (pc := 48) t259_48 rfl ?_
      refine zs_invS (pc := 49) (as := [.int (zhere M)]) (st := []) t259_49 (by decide) mf245 rfl rfl ⟨by decide, by decide, Nat.le_of_ble_eq_true rfl, Nat.le_of_ble_eq_true rfl⟩ (K245 hs w11 ?_) (fun _ _ q => q)
      intro w12v w12t0 w12a w12b
      show zGo X l 2 0 0 259 52 [(1, .int (zhere M)), (0, .ref 336)] [.int w12v] (zsI M 336 13 w10v) _
      by_cases w13 : w12v.toInt = 0
      · refine zs_if_eqT (pc := 52) t259_52 rfl (by omega) ?_
        refine zs_aload_n (pc := 83) t259_83 rfl ?_
        refine zs_sipush (pc := 84) t259_84 (v := 10000) (by decide) ?_
        refine zs_iload_n (pc := 87) t259_87 rfl ?_
        refine zs_invS (pc := 88) (as := [.int (zhere M)]) (st := [.int (10000 : Int32), .ref 336]) t259_88 (by decide) mf260 rfl rfl ⟨by decide, by decide, Nat.le_of_ble_eq_true rfl, Nat.le_of_ble_eq_true rfl⟩ (N260 hs w11 ?_) (fun _ _ q => q)
        intro w14v w14t0 w14a w14b
        show zGo X l 2 0 0 259 91 [(1, .int (zhere M)), (0, .ref 336)] [.int w14v, .int (10000 : Int32), .ref 336] (zsI M 336 13 w10v) _
        obtain ⟨w15v, w15e, w15⟩ := ziadd (a := (10000 : Int32)) (b := w14v) li10000 rfl (by omega) (by omega)
        refine zs_iadd (pc := 91) t259_91 (c := w15v) w15e ?_
        refine zs_invV (pc := 92) (k := 336) (as' := [.int w15v]) (st := []) t259_92 mf261 rfl rfl (Or.inl ⟨by decide, (zk1 (hs.k fk_zMm_336))⟩) ⟨by decide, by decide, Nat.le_of_ble_eq_true rfl, Nat.le_of_ble_eq_true rfl⟩ (zs_in (by decide) mf261 (Nat.le_of_ble_eq_true rfl) ?_) (fun _ _ q => q)
        show zGo X l 0 0 0 261 0 [(0, .ref 336), (1, .int w15v)] [] (zsI M 336 13 w10v) _
        refine zs_aload_n (pc := 0) t261_0 rfl ?_
        refine zs_get (pc := 1) t261_1 (by decide) (zk1 (hs.k fk_zMm_336)) (hs.p rfl fv_zMm_336_9) ?_
        refine zs_aload_n (pc := 4) t261_4 rfl ?_
        have w16 := ib336_11 hI
        refine zs_get (pc := 5) t261_5 (by decide) (zk1 (hs.k fk_zMm_336)) (zfvi rfl ((zIoj (by decide)).trans rfl)) ?_
        refine zs_iload_n (pc := 8) t261_8 rfl ?_
        obtain ⟨w17n, w17⟩ : ∃ n : Nat, (zI M 336 11).toInt = (n : Int) := ⟨((zI M 336 11).toInt).toNat, by omega⟩
        have w18 : zIv mLo mHi (zsI (zsI M 336 13 w10v) 340 w17n w15v) := zIv.put w11 (show (-2147483648) ≤ w15v.toInt ∧ w15v.toInt ≤ 2147483647 from zrg w15v)
        refine zs_iast (pc := 9) t261_9 (j := w17n) (by decide) (zk1 (hs.k fk_zMm_340)) (show (zI M 336 11).toInt = ((w17n : Nat) : Int) by omega) (zk2 (hs.k fk_zMm_340) (by omega)) ?_
        refine zs_aload_n (pc := 10) t261_10 rfl ?_
        refine zs_dup (pc := 11) t261_11 rfl ?_
        refine zs_get (pc := 12) t261_12 (by decide) (zk1 (hs.k fk_zMm_336)) (zfvi rfl ((zIo (by decide)).trans ((zIoj (by decide)).trans rfl))) ?_
        refine zs_iconst (pc := 15) t261_15 (v := 1) (by decide) ?_
        obtain ⟨w19v, w19e, w19⟩ := ziadd (a := (zI M 336 11)) (b := (1 : Int32)) rfl li1 (by omega) (by omega)
        refine zs_iadd (pc := 16) t261_16 (c := w19v) w19e ?_
        have w20 : zIv mLo mHi (zsI (zsI (zsI M 336 13 w10v) 340 w17n w15v) 336 11 w19v) := zIv.put w18 (show 0 ≤ w19v.toInt ∧ w19v.toInt ≤ 200 from ⟨by omega, by omega⟩)
        have w21 : (zI (zsI M 336 13 w10v) 336 11).toInt = (zI M 336 11).toInt := (congrArg Int32.toInt ((zIoj (by decide)).trans rfl)).trans rfl
        have w22 : w19v.toInt = ((zI M 336 11).toInt + 1) := w19
        have w23 : w15v.toInt = (10000 + w14v.toInt) := w15
        have w24 : zGh (zsI (zsI (zsI M 336 13 w10v) 340 w17n w15v) 336 11 w19v) (hh + 1) := zGh.put (n := w17n) (zGh.fr (M' := (zsI M 336 13 w10v)) pH (zEq.put rfl)) (by omega) (by omega) (by omega)
        refine zs_putI (pc := 17) t261_17 (zk1 (hs.k fk_zMm_336)) rfl ?_
        refine zs_vret (pc := 20) t261_20 mr261 ?_
        show zGo X l 2 0 0 259 95 [(1, .int (zhere M)), (0, .ref 336)] [] (zsI (zsI (zsI M 336 13 w10v) 340 w17n w15v) 336 11 w19v) _
        refine zs_aload_n (pc := 95) t259_95 rfl ?_
        refine zs_dup (pc := 96) t259_96 rfl ?_
        have w25 := ib336_6 hI
        refine zs_get (pc := 97) t259_97 (by decide) (zk1 (hs.k fk_zMm_336)) (zfvi rfl ((zIoj (by decide)).trans ((zIo (by decide)).trans ((zIoj (by decide)).trans rfl)))) ?_
        refine zs_iconst (pc := 100) t259_100 (v := 1) (by decide) ?_
        obtain ⟨w26v, w26e, w26⟩ := ziadd (a := (zI M 336 6)) (b := (1 : Int32)) rfl li1 (by omega) (by omega)
        refine zs_iadd (pc := 101) t259_101 (c := w26v) w26e ?_
        have w27 : zIv mLo mHi (zsI (zsI (zsI (zsI M 336 13 w10v) 340 w17n w15v) 336 11 w19v) 336 6 w26v) := zIv.put w20 (show 0 ≤ w26v.toInt ∧ w26v.toInt ≤ 500 from ⟨by omega, by omega⟩)
        refine zs_putI (pc := 102) t259_102 (zk1 (hs.k fk_zMm_336)) rfl ?_
        refine zs_iconst (pc := 105) t259_105 (v := 1) (by decide) ?_
        have w28 : (zI (zsI (zsI (zsI (zsI M 336 13 w10v) 340 w17n w15v) 336 11 w19v) 336 6 w26v) 336 11).toInt = ((zI M 336 11).toInt + 1) := (congrArg Int32.toInt ((zIoj (by decide)).trans zIs)).trans w19
        have w29 : (zI (zsI (zsI (zsI (zsI M 336 13 w10v) 340 w17n w15v) 336 11 w19v) 336 6 w26v) 336 6).toInt = ((zI M 336 6).toInt + 1) := (congrArg Int32.toInt zIs).trans w26
        have w30 : (zI (zsI (zsI (zsI (zsI M 336 13 w10v) 340 w17n w15v) 336 11 w19v) 336 6 w26v) 336 13).toInt = ((zI M 336 13).toInt + 1) := (congrArg Int32.toInt ((zIoj (by decide)).trans ((zIoj (by decide)).trans ((zIo (by decide)).trans zIs)))).trans w10
        have w31 := li1
        have w32 := ib336_12 hI
        have w33 : (zI (zsI (zsI (zsI (zsI M 336 13 w10v) 340 w17n w15v) 336 11 w19v) 336 6 w26v) 336 12).toInt = (zI M 336 12).toInt := (congrArg Int32.toInt ((zIoj (by decide)).trans ((zIoj (by decide)).trans ((zIo (by decide)).trans ((zIoj (by decide)).trans rfl))))).trans rfl
        have w34 := ib336_14 hI
        have w35 : (zI (zsI (zsI (zsI (zsI M 336 13 w10v) 340 w17n w15v) 336 11 w19v) 336 6 w26v) 336 14).toInt = (zI M 336 14).toInt := (congrArg Int32.toInt ((zIoj (by decide)).trans ((zIoj (by decide)).trans ((zIo (by decide)).trans ((zIoj (by decide)).trans rfl))))).trans rfl
        exact zs_iret (pc := 106) t259_106 mr259 (by decide) (hQ _ _ hs w27 (((((zFr.refl).put rfl).put rfl).put rfl).put rfl) rfl (by omega) (by omega) (Or.inr (zGh.cast (zGh.fr (M' := (zsI (zsI (zsI (zsI M 336 13 w10v) 340 w17n w15v) 336 11 w19v) 336 6 w26v)) w24 (zEq.put rfl)) (by omega))) (by decide) (by decide))
      · refine zs_if_eqF (pc := 52) t259_52 rfl (by omega) ?_
        refine zs_aload_n (pc := 55) t259_55 rfl ?_
        refine zs_aload_n (pc := 56) t259_56 rfl ?_
        have w36 := ib336_6 hI
        refine zs_get (pc := 57) t259_57 (by decide) (zk1 (hs.k fk_zMm_336)) (zfvi rfl ((zIoj (by decide)).trans rfl)) ?_
        refine zs_iconst (pc := 60) t259_60 (v := 1) (by decide) ?_
        refine zs_iconst (pc := 61) t259_61 (v := 0) (by decide) ?_
        refine zs_sipush (pc := 62) t259_62 (v := 9999) (by decide) ?_
        have w37 : (1 : Int32).toInt = 1 := li1
        have w38 : (0 : Int32).toInt = 0 := li0
        have w39 : (9999 : Int32).toInt = 9999 := li9999
        have w40 : (zI (zsI M 336 13 w10v) 336 6).toInt = (zI M 336 6).toInt := (congrArg Int32.toInt ((zIoj (by decide)).trans rfl)).trans rfl
        have w41 := ib336_7 hI
        have w42 : (zI (zsI M 336 13 w10v) 336 7).toInt = (zI M 336 7).toInt := (congrArg Int32.toInt ((zIoj (by decide)).trans rfl)).trans rfl
        refine zs_invV (pc := 65) (k := 336) (as' := [.int (zI M 336 6), .int (1 : Int32), .int (0 : Int32), .int (9999 : Int32)]) (st := []) t259_65 mf244 rfl rfl (Or.inl ⟨by decide, (zk1 (hs.k fk_zMm_336))⟩) ⟨by decide, by decide, Nat.le_of_ble_eq_true rfl, Nat.le_of_ble_eq_true rfl⟩ (K244 hs w11 ⟨by omega, by omega⟩ ⟨by decide, by decide⟩ ?_) (fun _ _ q => q)
        intro w43M w43v w43s w43I w43F w43J w43t0 w43t1 w43t2 w43a w43b
        have w44 := ib336_6 w43I
        have w45 := zrg (zI w43M 336 8)
        have w46 := ib336_7 w43I
        show zGo X l 2 0 0 259 68 [(1, .int (zhere M)), (0, .ref 336)] [.int w43v] w43M _
        by_cases w47 : w43v.toInt ≠ 0
        · refine zs_if_neT (pc := 68) t259_68 rfl (by omega) ?_
          refine zs_aload_n (pc := 73) t259_73 rfl ?_
          refine zs_aload_n (pc := 74) t259_74 rfl ?_
          refine zs_get (pc := 75) t259_75 (by decide) (zk1 (w43s.k fk_zMm_336)) (zfvi rfl rfl) ?_
          refine zs_invV (pc := 78) (k := 336) (as' := [.int (zI w43M 336 8)]) (st := []) t259_78 mf261 rfl rfl (Or.inl ⟨by decide, (zk1 (w43s.k fk_zMm_336))⟩) ⟨by decide, by decide, Nat.le_of_ble_eq_true rfl, Nat.le_of_ble_eq_true rfl⟩ (zs_in (by decide) mf261 (Nat.le_of_ble_eq_true rfl) ?_) (fun _ _ q => q)
          show zGo X l 0 0 0 261 0 [(0, .ref 336), (1, .int (zI w43M 336 8))] [] w43M _
          refine zs_aload_n (pc := 0) t261_0 rfl ?_
          refine zs_get (pc := 1) t261_1 (by decide) (zk1 (w43s.k fk_zMm_336)) (w43s.p rfl fv_zMm_336_9) ?_
          refine zs_aload_n (pc := 4) t261_4 rfl ?_
          have w48 := ib336_11 hI
          refine zs_get (pc := 5) t261_5 (by decide) (zk1 (w43s.k fk_zMm_336)) (zfvi rfl ((w43F 336 11 rfl).trans ((zIoj (by decide)).trans rfl))) ?_
          refine zs_iload_n (pc := 8) t261_8 rfl ?_
          obtain ⟨w49n, w49⟩ : ∃ n : Nat, (zI M 336 11).toInt = (n : Int) := ⟨((zI M 336 11).toInt).toNat, by omega⟩
          have w50 : zIv mLo mHi (zsI w43M 340 w49n (zI w43M 336 8)) := zIv.put w43I (show (-2147483648) ≤ (zI w43M 336 8).toInt ∧ (zI w43M 336 8).toInt ≤ 2147483647 from zrg (zI w43M 336 8))
          refine zs_iast (pc := 9) t261_9 (j := w49n) (by decide) (zk1 (w43s.k fk_zMm_340)) (show (zI M 336 11).toInt = ((w49n : Nat) : Int) by omega) (zk2 (w43s.k fk_zMm_340) (by omega)) ?_
          refine zs_aload_n (pc := 10) t261_10 rfl ?_
          refine zs_dup (pc := 11) t261_11 rfl ?_
          refine zs_get (pc := 12) t261_12 (by decide) (zk1 (w43s.k fk_zMm_336)) (zfvi rfl ((zIo (by decide)).trans ((w43F 336 11 rfl).trans ((zIoj (by decide)).trans rfl)))) ?_
          refine zs_iconst (pc := 15) t261_15 (v := 1) (by decide) ?_
          obtain ⟨w51v, w51e, w51⟩ := ziadd (a := (zI M 336 11)) (b := (1 : Int32)) rfl li1 (by omega) (by omega)
          refine zs_iadd (pc := 16) t261_16 (c := w51v) w51e ?_
          have w52 : zIv mLo mHi (zsI (zsI w43M 340 w49n (zI w43M 336 8)) 336 11 w51v) := zIv.put w50 (show 0 ≤ w51v.toInt ∧ w51v.toInt ≤ 200 from ⟨by omega, by omega⟩)
          have w53 : (zI w43M 336 11).toInt = (zI M 336 11).toInt := (congrArg Int32.toInt ((w43F 336 11 rfl).trans ((zIoj (by decide)).trans rfl))).trans rfl
          have w54 : w51v.toInt = ((zI M 336 11).toInt + 1) := w51
          have w55 : zGh (zsI (zsI w43M 340 w49n (zI w43M 336 8)) 336 11 w51v) (hh + 1) := zGh.put (n := w49n) (zGh.fr (zGh.fr (M' := (zsI M 336 13 w10v)) pH (zEq.put rfl)) (w43F.eq rfl)) (by omega) (by omega) (by omega)
          refine zs_putI (pc := 17) t261_17 (zk1 (w43s.k fk_zMm_336)) rfl ?_
          refine zs_vret (pc := 20) t261_20 mr261 ?_
          show zGo X l 2 0 0 259 81 [(1, .int (zhere M)), (0, .ref 336)] [] (zsI (zsI w43M 340 w49n (zI w43M 336 8)) 336 11 w51v) _
          refine zs_iconst (pc := 81) t259_81 (v := 1) (by decide) ?_
          have w56 : (zI (zsI (zsI w43M 340 w49n (zI w43M 336 8)) 336 11 w51v) 336 11).toInt = ((zI M 336 11).toInt + 1) := (congrArg Int32.toInt zIs).trans w51
          have w57 : (zI (zsI (zsI w43M 340 w49n (zI w43M 336 8)) 336 11 w51v) 336 6).toInt = (zI w43M 336 6).toInt := (congrArg Int32.toInt ((zIoj (by decide)).trans ((zIo (by decide)).trans rfl))).trans rfl
          have w58 : (zI (zsI (zsI w43M 340 w49n (zI w43M 336 8)) 336 11 w51v) 336 13).toInt = ((zI M 336 13).toInt + 1) := (congrArg Int32.toInt ((zIoj (by decide)).trans ((zIo (by decide)).trans ((w43F 336 13 rfl).trans zIs)))).trans w10
          have w59 := li1
          have w60 := ib336_12 hI
          have w61 : (zI (zsI (zsI w43M 340 w49n (zI w43M 336 8)) 336 11 w51v) 336 12).toInt = (zI M 336 12).toInt := (congrArg Int32.toInt ((zIoj (by decide)).trans ((zIo (by decide)).trans ((w43F 336 12 rfl).trans ((zIoj (by decide)).trans rfl))))).trans rfl
          have w62 := ib336_14 hI
          have w63 : (zI (zsI (zsI w43M 340 w49n (zI w43M 336 8)) 336 11 w51v) 336 14).toInt = (zI M 336 14).toInt := (congrArg Int32.toInt ((zIoj (by decide)).trans ((zIo (by decide)).trans ((w43F 336 14 rfl).trans ((zIoj (by decide)).trans rfl))))).trans rfl
          exact zs_iret (pc := 82) t259_82 mr259 (by decide) (hQ _ _ w43s w52 (((((zFr.refl).put rfl).trans (w43F.mono rfl)).put rfl).put rfl) w43J (by omega) (by omega) (Or.inr (zGh.cast w55 (by omega))) (by decide) (by decide))
        · refine zs_if_neF (pc := 68) t259_68 rfl (by omega) ?_
          refine zs_iconst (pc := 71) t259_71 (v := 0) (by decide) ?_
          have w64 : (zI w43M 336 11).toInt = (zI M 336 11).toInt := (congrArg Int32.toInt ((w43F 336 11 rfl).trans ((zIoj (by decide)).trans rfl))).trans rfl
          have w65 : (zI w43M 336 6).toInt = (zI w43M 336 6).toInt := (congrArg Int32.toInt rfl).trans rfl
          have w66 : (zI w43M 336 13).toInt = ((zI M 336 13).toInt + 1) := (congrArg Int32.toInt ((w43F 336 13 rfl).trans zIs)).trans w10
          have w67 := li0
          exact zs_iret (pc := 72) t259_72 mr259 (by decide) (hQ _ _ w43s w43I (((zFr.refl).put rfl).trans (w43F.mono rfl)) w43J (by omega) (by omega) (Or.inl (by decide)) (by decide) (by decide))
    · refine zs_icmp_neF (pc := 26) t259_26 rfl li30 (by omega) ?_
      refine zs_aload_n (pc := 29) t259_29 rfl ?_
      refine zs_aload_n (pc := 30) t259_30 rfl ?_
      have w68 := ib336_6 hI
      refine zs_get (pc := 31) t259_31 (by decide) (zk1 (hs.k fk_zMm_336)) (zfvi rfl rfl) ?_
      refine zs_invV (pc := 34) (k := 336) (as' := [.int (zI M 336 6)]) (st := []) t259_34 mf239 rfl rfl (Or.inl ⟨by decide, (zk1 (hs.k fk_zMm_336))⟩) ⟨by decide, by decide, Nat.le_of_ble_eq_true rfl, Nat.le_of_ble_eq_true rfl⟩ (zs_in (by decide) mf239 (Nat.le_of_ble_eq_true rfl) ?_) (fun _ _ q => q)
      show zGo X l 0 0 0 239 0 [(0, .ref 336), (1, .int (zI M 336 6))] [] M _
      refine zs_aload_n (pc := 0) t239_0 rfl ?_
      refine zs_iload_n (pc := 1) t239_1 rfl ?_
      have w69 : zIv mLo mHi (zsI M 336 7 (zI M 336 6)) := zIv.put hI (show (-1) ≤ (zI M 336 6).toInt ∧ (zI M 336 6).toInt ≤ 500 from ⟨by omega, by omega⟩)
      refine zs_putI (pc := 2) t239_2 (zk1 (hs.k fk_zMm_336)) rfl ?_
      refine zs_iconst (pc := 5) t239_5 (v := 0) (by decide) ?_
      refine zs_iret (pc := 6) t239_6 mr239 (by decide) ?_
      show zGo X l 2 0 0 259 37 [(1, .int (zhere M)), (0, .ref 336)] [.int (0 : Int32)] (zsI M 336 7 (zI M 336 6)) _
      have w70 := ib336_11 hI
      have w71 : (zI (zsI M 336 7 (zI M 336 6)) 336 11).toInt = (zI M 336 11).toInt := (congrArg Int32.toInt ((zIoj (by decide)).trans rfl)).trans rfl
      have w72 : (zI (zsI M 336 7 (zI M 336 6)) 336 6).toInt = (zI M 336 6).toInt := (congrArg Int32.toInt ((zIoj (by decide)).trans rfl)).trans rfl
      have w73 : (zI (zsI M 336 7 (zI M 336 6)) 336 13).toInt = (zI M 336 13).toInt := (congrArg Int32.toInt ((zIoj (by decide)).trans rfl)).trans rfl
      have w74 := li0
      exact zs_iret (pc := 37) t259_37 mr259 (by decide) (hQ _ _ hs w69 ((zFr.refl).put rfl) rfl (by omega) (by omega) (Or.inl (by decide)) (by decide) (by decide))
  · refine zs_if_neF (pc := 9) t259_9 rfl (by omega) ?_
    refine zs_iload_n (pc := 12) t259_12 rfl ?_
    refine zs_invS (pc := 13) (as := [.int (zhere M)]) (st := []) t259_13 (by decide) mf260 rfl rfl ⟨by decide, by decide, Nat.le_of_ble_eq_true rfl, Nat.le_of_ble_eq_true rfl⟩ (N260 hs hI ?_) (fun _ _ q => q)
    intro w75v w75t0 w75a w75b
    show zGo X l 2 0 0 259 16 [(1, .int (zhere M)), (0, .ref 336)] [.int w75v] M _
    refine zs_iconst (pc := 16) t259_16 (v := -1) (by decide) ?_
    by_cases w76 : w75v.toInt = (-1)
    · refine zs_icmp_eqT (pc := 17) t259_17 rfl lin1 (by omega) ?_
      refine zs_aload_n (pc := 29) t259_29 rfl ?_
      refine zs_aload_n (pc := 30) t259_30 rfl ?_
      have w77 := ib336_6 hI
      refine zs_get (pc := 31) t259_31 (by decide) (zk1 (hs.k fk_zMm_336)) (zfvi rfl rfl) ?_
      refine zs_invV (pc := 34) (k := 336) (as' := [.int (zI M 336 6)]) (st := []) t259_34 mf239 rfl rfl (Or.inl ⟨by decide, (zk1 (hs.k fk_zMm_336))⟩) ⟨by decide, by decide, Nat.le_of_ble_eq_true rfl, Nat.le_of_ble_eq_true rfl⟩ (zs_in (by decide) mf239 (Nat.le_of_ble_eq_true rfl) ?_) (fun _ _ q => q)
      show zGo X l 0 0 0 239 0 [(0, .ref 336), (1, .int (zI M 336 6))] [] M _
      refine zs_aload_n (pc := 0) t239_0 rfl ?_
      refine zs_iload_n (pc := 1) t239_1 rfl ?_
      have w78 : zIv mLo mHi (zsI M 336 7 (zI M 336 6)) := zIv.put hI (show (-1) ≤ (zI M 336 6).toInt ∧ (zI M 336 6).toInt ≤ 500 from ⟨by omega, by omega⟩)
      refine zs_putI (pc := 2) t239_2 (zk1 (hs.k fk_zMm_336)) rfl ?_
      refine zs_iconst (pc := 5) t239_5 (v := 0) (by decide) ?_
      refine zs_iret (pc := 6) t239_6 mr239 (by decide) ?_
      show zGo X l 2 0 0 259 37 [(1, .int (zhere M)), (0, .ref 336)] [.int (0 : Int32)] (zsI M 336 7 (zI M 336 6)) _
      have w79 := ib336_11 hI
      have w80 : (zI (zsI M 336 7 (zI M 336 6)) 336 11).toInt = (zI M 336 11).toInt := (congrArg Int32.toInt ((zIoj (by decide)).trans rfl)).trans rfl
      have w81 : (zI (zsI M 336 7 (zI M 336 6)) 336 6).toInt = (zI M 336 6).toInt := (congrArg Int32.toInt ((zIoj (by decide)).trans rfl)).trans rfl
      have w82 := ib336_13 hI
      have w83 : (zI (zsI M 336 7 (zI M 336 6)) 336 13).toInt = (zI M 336 13).toInt := (congrArg Int32.toInt ((zIoj (by decide)).trans rfl)).trans rfl
      have w84 := li0
      exact zs_iret (pc := 37) t259_37 mr259 (by decide) (hQ _ _ hs w78 ((zFr.refl).put rfl) rfl (by omega) (by omega) (Or.inl (by decide)) (by decide) (by decide))
    · refine zs_icmp_eqF (pc := 17) t259_17 rfl lin1 (by omega) ?_
      refine zs_aload_n (pc := 20) t259_20 rfl ?_
      have w85 := ib336_13 hI
      refine zs_get (pc := 21) t259_21 (by decide) (zk1 (hs.k fk_zMm_336)) (zfvi rfl rfl) ?_
      refine zs_bipush (pc := 24) t259_24 (v := 30) (by decide) ?_
      by_cases w86 : (zI M 336 13).toInt ≠ 30
      · refine zs_icmp_neT (pc := 26) t259_26 rfl li30 (by omega) ?_
        refine zs_aload_n (pc := 38) t259_38 rfl ?_
        refine zs_dup (pc := 39) t259_39 rfl ?_
        refine zs_get (pc := 40) t259_40 (by decide) (zk1 (hs.k fk_zMm_336)) (zfvi rfl rfl) ?_
        refine zs_iconst (pc := 43) t259_43 (v := 1) (by decide) ?_
        obtain ⟨w87v, w87e, w87⟩ := ziadd (a := (zI M 336 13)) (b := (1 : Int32)) rfl li1 (by omega) (by omega)
        refine zs_iadd (pc := 44) t259_44 (c := w87v) w87e ?_
        have w88 : zIv mLo mHi (zsI M 336 13 w87v) := zIv.put hI (show 0 ≤ w87v.toInt ∧ w87v.toInt ≤ 30 from ⟨by omega, by omega⟩)
        refine zs_putI (pc := 45) t259_45 (zk1 (hs.k fk_zMm_336)) rfl ?_
        refine zs_iload_n (pc := 48) t259_48 rfl ?_
        refine zs_invS (pc := 49) (as := [.int (zhere M)]) (st := []) t259_49 (by decide) mf245 rfl rfl ⟨by decide, by decide, Nat.le_of_ble_eq_true rfl, Nat.le_of_ble_eq_true rfl⟩ (K245 hs w88 ?_) (fun _ _ q => q)
        intro w89v w89t0 w89a w89b
        show zGo X l 2 0 0 259 52 [(1, .int (zhere M)), (0, .ref 336)] [.int w89v] (zsI M 336 13 w87v) _
        by_cases w90 : w89v.toInt = 0
        · refine zs_if_eqT (pc := 52) t259_52 rfl (by omega) ?_
          refine zs_aload_n (pc := 83) t259_83 rfl ?_
          refine zs_sipush (pc := 84) t259_84 (v := 10000) (by decide) ?_
          refine zs_iload_n (pc := 87) t259_87 rfl ?_
          refine zs_invS (pc := 88) (as := [.int (zhere M)]) (st := [.int (10000 : Int32), .ref 336]) t259_88 (by decide) mf260 rfl rfl ⟨by decide, by decide, Nat.le_of_ble_eq_true rfl, Nat.le_of_ble_eq_true rfl⟩ (N260 hs w88 ?_) (fun _ _ q => q)
          intro w91v w91t0 w91a w91b
          show zGo X l 2 0 0 259 91 [(1, .int (zhere M)), (0, .ref 336)] [.int w91v, .int (10000 : Int32), .ref 336] (zsI M 336 13 w87v) _
          obtain ⟨w92v, w92e, w92⟩ := ziadd (a := (10000 : Int32)) (b := w91v) li10000 rfl (by omega) (by omega)
          refine zs_iadd (pc := 91) t259_91 (c := w92v) w92e ?_
          refine zs_invV (pc := 92) (k := 336) (as' := [.int w92v]) (st := []) t259_92 mf261 rfl rfl (Or.inl ⟨by decide, (zk1 (hs.k fk_zMm_336))⟩) ⟨by decide, by decide, Nat.le_of_ble_eq_true rfl, Nat.le_of_ble_eq_true rfl⟩ (zs_in (by decide) mf261 (Nat.le_of_ble_eq_true rfl) ?_) (fun _ _ q => q)
          show zGo X l 0 0 0 261 0 [(0, .ref 336), (1, .int w92v)] [] (zsI M 336 13 w87v) _
          refine zs_aload_n (pc := 0) t261_0 rfl ?_
          refine zs_get (pc := 1) t261_1 (by decide) (zk1 (hs.k fk_zMm_336)) (hs.p rfl fv_zMm_336_9) ?_
          refine zs_aload_n (pc := 4) t261_4 rfl ?_
          have w93 := ib336_11 hI
          refine zs_get (pc := 5) t261_5 (by decide) (zk1 (hs.k fk_zMm_336)) (zfvi rfl ((zIoj (by decide)).trans rfl)) ?_
          refine zs_iload_n (pc := 8) t261_8 rfl ?_
          obtain ⟨w94n, w94⟩ : ∃ n : Nat, (zI M 336 11).toInt = (n : Int) := ⟨((zI M 336 11).toInt).toNat, by omega⟩
          have w95 : zIv mLo mHi (zsI (zsI M 336 13 w87v) 340 w94n w92v) := zIv.put w88 (show (-2147483648) ≤ w92v.toInt ∧ w92v.toInt ≤ 2147483647 from zrg w92v)
          refine zs_iast (pc := 9) t261_9 (j := w94n) (by decide) (zk1 (hs.k fk_zMm_340)) (show (zI M 336 11).toInt = ((w94n : Nat) : Int) by omega) (zk2 (hs.k fk_zMm_340) (by omega)) ?_
          refine zs_aload_n (pc := 10) t261_10 rfl ?_
          refine zs_dup (pc := 11) t261_11 rfl ?_
          refine zs_get (pc := 12) t261_12 (by decide) (zk1 (hs.k fk_zMm_336)) (zfvi rfl ((zIo (by decide)).trans ((zIoj (by decide)).trans rfl))) ?_
          refine zs_iconst (pc := 15) t261_15 (v := 1) (by decide) ?_
          obtain ⟨w96v, w96e, w96⟩ := ziadd (a := (zI M 336 11)) (b := (1 : Int32)) rfl li1 (by omega) (by omega)
          refine zs_iadd (pc := 16) t261_16 (c := w96v) w96e ?_
          have w97 : zIv mLo mHi (zsI (zsI (zsI M 336 13 w87v) 340 w94n w92v) 336 11 w96v) := zIv.put w95 (show 0 ≤ w96v.toInt ∧ w96v.toInt ≤ 200 from ⟨by omega, by omega⟩)
          have w98 : (zI (zsI M 336 13 w87v) 336 11).toInt = (zI M 336 11).toInt := (congrArg Int32.toInt ((zIoj (by decide)).trans rfl)).trans rfl
          have w99 : w96v.toInt = ((zI M 336 11).toInt + 1) := w96
          have w100 : w92v.toInt = (10000 + w91v.toInt) := w92
          have w101 : zGh (zsI (zsI (zsI M 336 13 w87v) 340 w94n w92v) 336 11 w96v) (hh + 1) := zGh.put (n := w94n) (zGh.fr (M' := (zsI M 336 13 w87v)) pH (zEq.put rfl)) (by omega) (by omega) (by omega)
          refine zs_putI (pc := 17) t261_17 (zk1 (hs.k fk_zMm_336)) rfl ?_
          refine zs_vret (pc := 20) t261_20 mr261 ?_
          show zGo X l 2 0 0 259 95 [(1, .int (zhere M)), (0, .ref 336)] [] (zsI (zsI (zsI M 336 13 w87v) 340 w94n w92v) 336 11 w96v) _
          refine zs_aload_n (pc := 95) t259_95 rfl ?_
          refine zs_dup (pc := 96) t259_96 rfl ?_
          have w102 := ib336_6 hI
          refine zs_get (pc := 97) t259_97 (by decide) (zk1 (hs.k fk_zMm_336)) (zfvi rfl ((zIoj (by decide)).trans ((zIo (by decide)).trans ((zIoj (by decide)).trans rfl)))) ?_
          refine zs_iconst (pc := 100) t259_100 (v := 1) (by decide) ?_
          obtain ⟨w103v, w103e, w103⟩ := ziadd (a := (zI M 336 6)) (b := (1 : Int32)) rfl li1 (by omega) (by omega)
          refine zs_iadd (pc := 101) t259_101 (c := w103v) w103e ?_
          have w104 : zIv mLo mHi (zsI (zsI (zsI (zsI M 336 13 w87v) 340 w94n w92v) 336 11 w96v) 336 6 w103v) := zIv.put w97 (show 0 ≤ w103v.toInt ∧ w103v.toInt ≤ 500 from ⟨by omega, by omega⟩)
          refine zs_putI (pc := 102) t259_102 (zk1 (hs.k fk_zMm_336)) rfl ?_
          refine zs_iconst (pc := 105) t259_105 (v := 1) (by decide) ?_
          have w105 : (zI (zsI (zsI (zsI (zsI M 336 13 w87v) 340 w94n w92v) 336 11 w96v) 336 6 w103v) 336 11).toInt = ((zI M 336 11).toInt + 1) := (congrArg Int32.toInt ((zIoj (by decide)).trans zIs)).trans w96
          have w106 : (zI (zsI (zsI (zsI (zsI M 336 13 w87v) 340 w94n w92v) 336 11 w96v) 336 6 w103v) 336 6).toInt = ((zI M 336 6).toInt + 1) := (congrArg Int32.toInt zIs).trans w103
          have w107 : (zI (zsI (zsI (zsI (zsI M 336 13 w87v) 340 w94n w92v) 336 11 w96v) 336 6 w103v) 336 13).toInt = ((zI M 336 13).toInt + 1) := (congrArg Int32.toInt ((zIoj (by decide)).trans ((zIoj (by decide)).trans ((zIo (by decide)).trans zIs)))).trans w87
          have w108 := li1
          have w109 := ib336_12 hI
          have w110 : (zI (zsI (zsI (zsI (zsI M 336 13 w87v) 340 w94n w92v) 336 11 w96v) 336 6 w103v) 336 12).toInt = (zI M 336 12).toInt := (congrArg Int32.toInt ((zIoj (by decide)).trans ((zIoj (by decide)).trans ((zIo (by decide)).trans ((zIoj (by decide)).trans rfl))))).trans rfl
          have w111 := ib336_14 hI
          have w112 : (zI (zsI (zsI (zsI (zsI M 336 13 w87v) 340 w94n w92v) 336 11 w96v) 336 6 w103v) 336 14).toInt = (zI M 336 14).toInt := (congrArg Int32.toInt ((zIoj (by decide)).trans ((zIoj (by decide)).trans ((zIo (by decide)).trans ((zIoj (by decide)).trans rfl))))).trans rfl
          exact zs_iret (pc := 106) t259_106 mr259 (by decide) (hQ _ _ hs w104 (((((zFr.refl).put rfl).put rfl).put rfl).put rfl) rfl (by omega) (by omega) (Or.inr (zGh.cast (zGh.fr (M' := (zsI (zsI (zsI (zsI M 336 13 w87v) 340 w94n w92v) 336 11 w96v) 336 6 w103v)) w101 (zEq.put rfl)) (by omega))) (by decide) (by decide))
        · refine zs_if_eqF (pc := 52) t259_52 rfl (by omega) ?_
          refine zs_aload_n (pc := 55) t259_55 rfl ?_
          refine zs_aload_n (pc := 56) t259_56 rfl ?_
          have w113 := ib336_6 hI
          refine zs_get (pc := 57) t259_57 (by decide) (zk1 (hs.k fk_zMm_336)) (zfvi rfl ((zIoj (by decide)).trans rfl)) ?_
          refine zs_iconst (pc := 60) t259_60 (v := 1) (by decide) ?_
          refine zs_iconst (pc := 61) t259_61 (v := 0) (by decide) ?_
          refine zs_sipush (pc := 62) t259_62 (v := 9999) (by decide) ?_
          have w114 : (1 : Int32).toInt = 1 := li1
          have w115 : (0 : Int32).toInt = 0 := li0
          have w116 : (9999 : Int32).toInt = 9999 := li9999
          have w117 : (zI (zsI M 336 13 w87v) 336 6).toInt = (zI M 336 6).toInt := (congrArg Int32.toInt ((zIoj (by decide)).trans rfl)).trans rfl
          have w118 := ib336_7 hI
          have w119 : (zI (zsI M 336 13 w87v) 336 7).toInt = (zI M 336 7).toInt := (congrArg Int32.toInt ((zIoj (by decide)).trans rfl)).trans rfl
          refine zs_invV (pc := 65) (k := 336) (as' := [.int (zI M 336 6), .int (1 : Int32), .int (0 : Int32), .int (9999 : Int32)]) (st := []) t259_65 mf244 rfl rfl (Or.inl ⟨by decide, (zk1 (hs.k fk_zMm_336))⟩) ⟨by decide, by decide, Nat.le_of_ble_eq_true rfl, Nat.le_of_ble_eq_true rfl⟩ (K244 hs w88 ⟨by omega, by omega⟩ ⟨by decide, by decide⟩ ?_) (fun _ _ q => q)
          intro w120M w120v w120s w120I w120F w120J w120t0 w120t1 w120t2 w120a w120b
          have w121 := ib336_6 w120I
          have w122 := zrg (zI w120M 336 8)
          have w123 := ib336_7 w120I
          show zGo X l 2 0 0 259 68 [(1, .int (zhere M)), (0, .ref 336)] [.int w120v] w120M _
          by_cases w124 : w120v.toInt ≠ 0
          · refine zs_if_neT (pc := 68) t259_68 rfl (by omega) ?_
            refine zs_aload_n (pc := 73) t259_73 rfl ?_
            refine zs_aload_n (pc := 74) t259_74 rfl ?_
            refine zs_get (pc := 75) t259_75 (by decide) (zk1 (w120s.k fk_zMm_336)) (zfvi rfl rfl) ?_
            refine zs_invV (pc := 78) (k := 336) (as' := [.int (zI w120M 336 8)]) (st := []) t259_78 mf261 rfl rfl (Or.inl ⟨by decide, (zk1 (w120s.k fk_zMm_336))⟩) ⟨by decide, by decide, Nat.le_of_ble_eq_true rfl, Nat.le_of_ble_eq_true rfl⟩ (zs_in (by decide) mf261 (Nat.le_of_ble_eq_true rfl) ?_) (fun _ _ q => q)
            show zGo X l 0 0 0 261 0 [(0, .ref 336), (1, .int (zI w120M 336 8))] [] w120M _
            refine zs_aload_n (pc := 0) t261_0 rfl ?_
            refine zs_get (pc := 1) t261_1 (by decide) (zk1 (w120s.k fk_zMm_336)) (w120s.p rfl fv_zMm_336_9) ?_
            refine zs_aload_n (pc := 4) t261_4 rfl ?_
            have w125 := ib336_11 hI
            refine zs_get (pc := 5) t261_5 (by decide) (zk1 (w120s.k fk_zMm_336)) (zfvi rfl ((w120F 336 11 rfl).trans ((zIoj (by decide)).trans rfl))) ?_
            refine zs_iload_n (pc := 8) t261_8 rfl ?_
            obtain ⟨w126n, w126⟩ : ∃ n : Nat, (zI M 336 11).toInt = (n : Int) := ⟨((zI M 336 11).toInt).toNat, by omega⟩
            have w127 : zIv mLo mHi (zsI w120M 340 w126n (zI w120M 336 8)) := zIv.put w120I (show (-2147483648) ≤ (zI w120M 336 8).toInt ∧ (zI w120M 336 8).toInt ≤ 2147483647 from zrg (zI w120M 336 8))
            refine zs_iast (pc := 9) t261_9 (j := w126n) (by decide) (zk1 (w120s.k fk_zMm_340)) (show (zI M 336 11).toInt = ((w126n : Nat) : Int) by omega) (zk2 (w120s.k fk_zMm_340) (by omega)) ?_
            refine zs_aload_n (pc := 10) t261_10 rfl ?_
            refine zs_dup (pc := 11) t261_11 rfl ?_
            refine zs_get (pc := 12) t261_12 (by decide) (zk1 (w120s.k fk_zMm_336)) (zfvi rfl ((zIo (by decide)).trans ((w120F 336 11 rfl).trans ((zIoj (by decide)).trans rfl)))) ?_
            refine zs_iconst (pc := 15) t261_15 (v := 1) (by decide) ?_
            obtain ⟨w128v, w128e, w128⟩ := ziadd (a := (zI M 336 11)) (b := (1 : Int32)) rfl li1 (by omega) (by omega)
            refine zs_iadd (pc := 16) t261_16 (c := w128v) w128e ?_
            have w129 : zIv mLo mHi (zsI (zsI w120M 340 w126n (zI w120M 336 8)) 336 11 w128v) := zIv.put w127 (show 0 ≤ w128v.toInt ∧ w128v.toInt ≤ 200 from ⟨by omega, by omega⟩)
            have w130 : (zI w120M 336 11).toInt = (zI M 336 11).toInt := (congrArg Int32.toInt ((w120F 336 11 rfl).trans ((zIoj (by decide)).trans rfl))).trans rfl
            have w131 : w128v.toInt = ((zI M 336 11).toInt + 1) := w128
            have w132 : zGh (zsI (zsI w120M 340 w126n (zI w120M 336 8)) 336 11 w128v) (hh + 1) := zGh.put (n := w126n) (zGh.fr (zGh.fr (M' := (zsI M 336 13 w87v)) pH (zEq.put rfl)) (w120F.eq rfl)) (by omega) (by omega) (by omega)
            refine zs_putI (pc := 17) t261_17 (zk1 (w120s.k fk_zMm_336)) rfl ?_
            refine zs_vret (pc := 20) t261_20 mr261 ?_
            show zGo X l 2 0 0 259 81 [(1, .int (zhere M)), (0, .ref 336)] [] (zsI (zsI w120M 340 w126n (zI w120M 336 8)) 336 11 w128v) _
            refine zs_iconst (pc := 81) t259_81 (v := 1) (by decide) ?_
            have w133 : (zI (zsI (zsI w120M 340 w126n (zI w120M 336 8)) 336 11 w128v) 336 11).toInt = ((zI M 336 11).toInt + 1) := (congrArg Int32.toInt zIs).trans w128
            have w134 : (zI (zsI (zsI w120M 340 w126n (zI w120M 336 8)) 336 11 w128v) 336 6).toInt = (zI w120M 336 6).toInt := (congrArg Int32.toInt ((zIoj (by decide)).trans ((zIo (by decide)).trans rfl))).trans rfl
            have w135 : (zI (zsI (zsI w120M 340 w126n (zI w120M 336 8)) 336 11 w128v) 336 13).toInt = ((zI M 336 13).toInt + 1) := (congrArg Int32.toInt ((zIoj (by decide)).trans ((zIo (by decide)).trans ((w120F 336 13 rfl).trans zIs)))).trans w87
            have w136 := li1
            have w137 := ib336_12 hI
            have w138 : (zI (zsI (zsI w120M 340 w126n (zI w120M 336 8)) 336 11 w128v) 336 12).toInt = (zI M 336 12).toInt := (congrArg Int32.toInt ((zIoj (by decide)).trans ((zIo (by decide)).trans ((w120F 336 12 rfl).trans ((zIoj (by decide)).trans rfl))))).trans rfl
            have w139 := ib336_14 hI
            have w140 : (zI (zsI (zsI w120M 340 w126n (zI w120M 336 8)) 336 11 w128v) 336 14).toInt = (zI M 336 14).toInt := (congrArg Int32.toInt ((zIoj (by decide)).trans ((zIo (by decide)).trans ((w120F 336 14 rfl).trans ((zIoj (by decide)).trans rfl))))).trans rfl
            exact zs_iret (pc := 82) t259_82 mr259 (by decide) (hQ _ _ w120s w129 (((((zFr.refl).put rfl).trans (w120F.mono rfl)).put rfl).put rfl) w120J (by omega) (by omega) (Or.inr (zGh.cast w132 (by omega))) (by decide) (by decide))
          · refine zs_if_neF (pc := 68) t259_68 rfl (by omega) ?_
            refine zs_iconst (pc := 71) t259_71 (v := 0) (by decide) ?_
            have w141 : (zI w120M 336 11).toInt = (zI M 336 11).toInt := (congrArg Int32.toInt ((w120F 336 11 rfl).trans ((zIoj (by decide)).trans rfl))).trans rfl
            have w142 : (zI w120M 336 6).toInt = (zI w120M 336 6).toInt := (congrArg Int32.toInt rfl).trans rfl
            have w143 : (zI w120M 336 13).toInt = ((zI M 336 13).toInt + 1) := (congrArg Int32.toInt ((w120F 336 13 rfl).trans zIs)).trans w87
            have w144 := li0
            exact zs_iret (pc := 72) t259_72 mr259 (by decide) (hQ _ _ w120s w120I (((zFr.refl).put rfl).trans (w120F.mono rfl)) w120J (by omega) (by omega) (Or.inl (by decide)) (by decide) (by decide))
      · refine zs_icmp_neF (pc := 26) t259_26 rfl li30 (by omega) ?_
        refine zs_aload_n (pc := 29) t259_29 rfl ?_
        refine zs_aload_n (pc := 30) t259_30 rfl ?_
        have w145 := ib336_6 hI
        refine zs_get (pc := 31) t259_31 (by decide) (zk1 (hs.k fk_zMm_336)) (zfvi rfl rfl) ?_
        refine zs_invV (pc := 34) (k := 336) (as' := [.int (zI M 336 6)]) (st := []) t259_34 mf239 rfl rfl (Or.inl ⟨by decide, (zk1 (hs.k fk_zMm_336))⟩) ⟨by decide, by decide, Nat.le_of_ble_eq_true rfl, Nat.le_of_ble_eq_true rfl⟩ (zs_in (by decide) mf239 (Nat.le_of_ble_eq_true rfl) ?_) (fun _ _ q => q)
        show zGo X l 0 0 0 239 0 [(0, .ref 336), (1, .int (zI M 336 6))] [] M _
        refine zs_aload_n (pc := 0) t239_0 rfl ?_
        refine zs_iload_n (pc := 1) t239_1 rfl ?_
        have w146 : zIv mLo mHi (zsI M 336 7 (zI M 336 6)) := zIv.put hI (show (-1) ≤ (zI M 336 6).toInt ∧ (zI M 336 6).toInt ≤ 500 from ⟨by omega, by omega⟩)
        refine zs_putI (pc := 2) t239_2 (zk1 (hs.k fk_zMm_336)) rfl ?_
        refine zs_iconst (pc := 5) t239_5 (v := 0) (by decide) ?_
        refine zs_iret (pc := 6) t239_6 mr239 (by decide) ?_
        show zGo X l 2 0 0 259 37 [(1, .int (zhere M)), (0, .ref 336)] [.int (0 : Int32)] (zsI M 336 7 (zI M 336 6)) _
        have w147 := ib336_11 hI
        have w148 : (zI (zsI M 336 7 (zI M 336 6)) 336 11).toInt = (zI M 336 11).toInt := (congrArg Int32.toInt ((zIoj (by decide)).trans rfl)).trans rfl
        have w149 : (zI (zsI M 336 7 (zI M 336 6)) 336 6).toInt = (zI M 336 6).toInt := (congrArg Int32.toInt ((zIoj (by decide)).trans rfl)).trans rfl
        have w150 : (zI (zsI M 336 7 (zI M 336 6)) 336 13).toInt = (zI M 336 13).toInt := (congrArg Int32.toInt ((zIoj (by decide)).trans rfl)).trans rfl
        have w151 := li0
        exact zs_iret (pc := 37) t259_37 mr259 (by decide) (hQ _ _ hs w146 ((zFr.refl).put rfl) rfl (by omega) (by omega) (Or.inl (by decide)) (by decide) (by decide))
theorem K258 {X : zX} {l : Launch} {M : zM} {Q : Option Value → zM → Prop} (hs : zSk zMm M) (hI : zIv mLo mHi M) {hh : Int} (pH : zGh M hh) (u0 : (zI M 336 11).toInt ≤ 5 * (zI M 336 13).toInt + 10) (x0 : 0 ≤ hh ∧ hh ≤ 57) (hQ : ∀ (M' : zM) (v : Int32), zSk zMm M' → zIv mLo mHi M' → zFr [(336, 336, some 6), (336, 336, some 7), (336, 336, some 8), (336, 336, some 11), (336, 336, some 13), (340, 340, none)] M M' → zJ M' 351 = zJ M 351 → ((zI M 336 6).toInt ≤ (zI M' 336 6).toInt) → (v.toInt = 0 ∨ ((zI M 336 13).toInt + 1 ≤ (zI M' 336 13).toInt ∧ (zI M' 336 11).toInt ≤ (zI M 336 11).toInt + 2 * ((zI M' 336 13).toInt - (zI M 336 13).toInt) - 1)) → (v.toInt = 0 ∨ zGh M' (hh + 1)) → 0 ≤ v.toInt → v.toInt ≤ 1 → Q (some (.int v)) M') : zCall X l 3 0 0 258 [.ref 336] M Q := by
  refine zs_in (by decide) mf258 (Nat.le_of_ble_eq_true rfl) ?_
  show zGo X l 3 0 0 258 0 [(0, .ref 336)] [] M _
  refine zs_aload_n (pc := 0) t258_0 rfl ?_
  have w1 := ib336_11 hI
  have w2 : (zI M 336 11).toInt = (zI M 336 11).toInt := (congrArg Int32.toInt rfl).trans rfl
  have w3 : (zI M 336 11).toInt = (zI M 336 11).toInt := (congrArg Int32.toInt rfl).trans rfl
  have w4 := ib336_6 hI
  have w5 : (zI M 336 6).toInt = (zI M 336 6).toInt := (congrArg Int32.toInt rfl).trans rfl
  have w6 := ib336_13 hI
  have w7 : (zI M 336 13).toInt = (zI M 336 13).toInt := (congrArg Int32.toInt rfl).trans rfl
  refine zs_invV (pc := 1) (k := 336) (as' := []) (st := []) t258_1 mf259 rfl rfl (Or.inl ⟨by decide, (zk1 (hs.k fk_zMm_336))⟩) ⟨by decide, by decide, Nat.le_of_ble_eq_true rfl, Nat.le_of_ble_eq_true rfl⟩ (K259 hs hI pH (by omega) (by omega) ?_) (fun _ _ q => q)
  intro w8M w8v w8s w8I w8F w8J w8t0 w8t1 w8x0 w8a w8b
  have w9 := ib336_11 w8I
  have w10 := ib336_6 w8I
  have w11 := ib336_13 w8I
  show zGo X l 3 0 0 258 4 [(0, .ref 336)] [.int w8v] w8M _
  by_cases w12 : w8v.toInt = 0
  · skip
    refine zs_if_neF (pc := 4) t258_4 rfl (by omega) ?_
    refine zs_iconst (pc := 7) t258_7 (v := 0) (by decide) ?_
    have w13 : (zI w8M 336 11).toInt = (zI w8M 336 11).toInt := (congrArg Int32.toInt rfl).trans rfl
    have w14 : (zI w8M 336 6).toInt = (zI w8M 336 6).toInt := (congrArg Int32.toInt rfl).trans rfl
    have w15 : (zI w8M 336 13).toInt = (zI w8M 336 13).toInt := (congrArg Int32.toInt rfl).trans rfl
    have w16 := li0
    exact zs_iret (pc := 8) t258_8 mr258 (by decide) (hQ _ _ w8s w8I ((zFr.refl).trans (w8F.mono rfl)) w8J (by omega) (by omega) (Or.inl (by decide)) (by decide) (by decide))
  · skip
    have w12H := w8x0.resolve_left w12
    refine zs_if_neT (pc := 4) t258_4 rfl (by omega) ?_
    have w17L : ∀ (m : Nat) (w17M : zM), zSk zMm w17M → zIv mLo mHi w17M → zFr [(336, 336, some 6), (336, 336, some 7), (336, 336, some 8), (336, 336, some 11), (336, 336, some 13), (340, 340, none)] w8M w17M → zJ w17M 351 = zJ w8M 351 → zGh w17M (hh + 1) → ((zI w8M 336 6).toInt ≤ (zI w17M 336 6).toInt) → ((zI w8M 336 13).toInt ≤ (zI w17M 336 13).toInt) → ((zI w17M 336 11).toInt ≤ (zI w8M 336 11).toInt + 2 * ((zI w17M 336 13).toInt - (zI w8M 336 13).toInt)) → ((zI w17M 336 11).toInt ≤ 5 * (zI w17M 336 13).toInt + 10) → 500 - (zI w17M 336 6).toInt ≤ (m : Int) → zGo X l 3 0 0 258 9 [(0, .ref 336)] [] w17M Q := by
      intro m
      induction m using Nat.strongRecOn with
      | ind w17m w17ih =>
        intro w17M w17s w17I w17F w17J w17PH w17r0 w17r1 w17r2 w17r3 w17q
        have w18 := ib336_6 w17I
        have w19 : (zI w8M 336 6).toInt = (zI w8M 336 6).toInt := (congrArg Int32.toInt rfl).trans rfl
        have w20 := ib336_13 w17I
        have w21 : (zI w8M 336 13).toInt = (zI w8M 336 13).toInt := (congrArg Int32.toInt rfl).trans rfl
        have w22 := ib336_11 w17I
        have w23 : (zI w8M 336 11).toInt = (zI w8M 336 11).toInt := (congrArg Int32.toInt rfl).trans rfl
        have w24 : (zI w8M 336 13).toInt = (zI w8M 336 13).toInt := (congrArg Int32.toInt rfl).trans rfl
        refine zs_aload_n (pc := 9) t258_9 rfl ?_
        refine zs_invV (pc := 10) (k := 336) (as' := []) (st := []) t258_10 mf238 rfl rfl (Or.inl ⟨by decide, (zk1 (w17s.k fk_zMm_336))⟩) ⟨by decide, by decide, Nat.le_of_ble_eq_true rfl, Nat.le_of_ble_eq_true rfl⟩ (H238 w17s w17I ?_) (fun _ _ q => q)
        have w25 := zhere.rg (M := w17M)
        have w26 : (zI w17M 336 6).toInt = (zI w17M 336 6).toInt := (congrArg Int32.toInt rfl).trans rfl
        have w27 := ib336_5 hI
        have w28 : (zI w17M 336 5).toInt = (zI M 336 5).toInt := (congrArg Int32.toInt ((w17F 336 5 rfl).trans ((w8F 336 5 rfl).trans rfl))).trans rfl
        show zGo X l 3 0 0 258 13 [(0, .ref 336)] [.int (zhere w17M)] w17M _
        refine zs_invS (pc := 13) (as := [.int (zhere w17M)]) (st := []) t258_13 (by decide) mf262 rfl rfl ⟨by decide, by decide, Nat.le_of_ble_eq_true rfl, Nat.le_of_ble_eq_true rfl⟩ (K262 w17s w17I ?_) (fun _ _ q => q)
        intro w29v w29t0 w29a w29b
        show zGo X l 3 0 0 258 16 [(0, .ref 336)] [.int w29v] w17M _
        by_cases w30 : w29v.toInt = 0
        · refine zs_if_eqT (pc := 16) t258_16 rfl (by omega) ?_
          refine zs_iconst (pc := 55) t258_55 (v := 1) (by decide) ?_
          have w31 : (zI w17M 336 11).toInt = (zI w17M 336 11).toInt := (congrArg Int32.toInt rfl).trans rfl
          have w32 : (zI w17M 336 6).toInt = (zI w17M 336 6).toInt := (congrArg Int32.toInt rfl).trans rfl
          have w33 : (zI w17M 336 13).toInt = (zI w17M 336 13).toInt := (congrArg Int32.toInt rfl).trans rfl
          have w34 := li1
          have w35 := ib336_12 hI
          have w36 : (zI w17M 336 12).toInt = (zI M 336 12).toInt := (congrArg Int32.toInt ((w17F 336 12 rfl).trans ((w8F 336 12 rfl).trans rfl))).trans rfl
          have w37 := ib336_14 hI
          have w38 : (zI w17M 336 14).toInt = (zI M 336 14).toInt := (congrArg Int32.toInt ((w17F 336 14 rfl).trans ((w8F 336 14 rfl).trans rfl))).trans rfl
          exact zs_iret (pc := 56) t258_56 mr258 (by decide) (hQ _ _ w17s w17I (((zFr.refl).trans (w8F.mono rfl)).trans (w17F.mono rfl)) (w17J.trans w8J) (by omega) (by omega) (Or.inr (zGh.cast w17PH (by omega))) (by decide) (by decide))
        · refine zs_if_eqF (pc := 16) t258_16 rfl (by omega) ?_
          refine zs_aload_n (pc := 19) t258_19 rfl ?_
          refine zs_invV (pc := 20) (k := 336) (as' := []) (st := []) t258_20 mf238 rfl rfl (Or.inl ⟨by decide, (zk1 (w17s.k fk_zMm_336))⟩) ⟨by decide, by decide, Nat.le_of_ble_eq_true rfl, Nat.le_of_ble_eq_true rfl⟩ (H238 w17s w17I ?_) (fun _ _ q => q)
          have w39 := zhere.rg (M := w17M)
          have w40 : (zI w17M 336 6).toInt = (zI w17M 336 6).toInt := (congrArg Int32.toInt rfl).trans rfl
          have w41 : (zI w17M 336 5).toInt = (zI M 336 5).toInt := (congrArg Int32.toInt ((w17F 336 5 rfl).trans ((w8F 336 5 rfl).trans rfl))).trans rfl
          show zGo X l 3 0 0 258 23 [(0, .ref 336)] [.int (zhere w17M)] w17M _
          refine zs_istore_n (pc := 23) t258_23 (ls' := [(1, .int (zhere w17M)), (0, .ref 336)]) (zml mf258 (by decide)) rfl ?_
          refine zs_aload_n (pc := 24) t258_24 rfl ?_
          refine zs_dup (pc := 25) t258_25 rfl ?_
          refine zs_get (pc := 26) t258_26 (by decide) (zk1 (w17s.k fk_zMm_336)) (zfvi rfl rfl) ?_
          refine zs_iconst (pc := 29) t258_29 (v := 1) (by decide) ?_
          obtain ⟨w42v, w42e, w42⟩ := ziadd (a := (zI w17M 336 6)) (b := (1 : Int32)) rfl li1 (by omega) (by omega)
          refine zs_iadd (pc := 30) t258_30 (c := w42v) w42e ?_
          have w43 : zIv mLo mHi (zsI w17M 336 6 w42v) := zIv.put w17I (show 0 ≤ w42v.toInt ∧ w42v.toInt ≤ 500 from ⟨by omega, by omega⟩)
          refine zs_putI (pc := 31) t258_31 (zk1 (w17s.k fk_zMm_336)) rfl ?_
          refine zs_aload_n (pc := 34) t258_34 rfl ?_
          have w44 : (zI (zsI w17M 336 6 w42v) 336 11).toInt = (zI w17M 336 11).toInt := (congrArg Int32.toInt ((zIoj (by decide)).trans rfl)).trans rfl
          have w45 : (zI (zsI w17M 336 6 w42v) 336 11).toInt = (zI w17M 336 11).toInt := (congrArg Int32.toInt ((zIoj (by decide)).trans rfl)).trans rfl
          have w46 : (zI (zsI w17M 336 6 w42v) 336 6).toInt = ((zI w17M 336 6).toInt + 1) := (congrArg Int32.toInt zIs).trans w42
          have w47 : (zI (zsI w17M 336 6 w42v) 336 13).toInt = (zI w17M 336 13).toInt := (congrArg Int32.toInt ((zIoj (by decide)).trans rfl)).trans rfl
          refine zs_invV (pc := 35) (k := 336) (as' := []) (st := []) t258_35 mf259 rfl rfl (Or.inl ⟨by decide, (zk1 (w17s.k fk_zMm_336))⟩) ⟨by decide, by decide, Nat.le_of_ble_eq_true rfl, Nat.le_of_ble_eq_true rfl⟩ (K259 w17s w43 (zGh.fr (M' := (zsI w17M 336 6 w42v)) w17PH (zEq.put rfl)) (by omega) (by omega) ?_) (fun _ _ q => q)
          intro w48M w48v w48s w48I w48F w48J w48t0 w48t1 w48x0 w48a w48b
          have w49 := ib336_11 w48I
          have w50 := ib336_6 w48I
          have w51 := ib336_13 w48I
          show zGo X l 3 0 0 258 38 [(1, .int (zhere w17M)), (0, .ref 336)] [.int w48v] w48M _
          by_cases w52 : w48v.toInt = 0
          · skip
            refine zs_if_neF (pc := 38) t258_38 rfl (by omega) ?_
            refine zs_iconst (pc := 41) t258_41 (v := 0) (by decide) ?_
            have w53 : (zI w48M 336 11).toInt = (zI w48M 336 11).toInt := (congrArg Int32.toInt rfl).trans rfl
            have w54 : (zI w48M 336 6).toInt = (zI w48M 336 6).toInt := (congrArg Int32.toInt rfl).trans rfl
            have w55 : (zI w48M 336 13).toInt = (zI w48M 336 13).toInt := (congrArg Int32.toInt rfl).trans rfl
            have w56 := li0
            exact zs_iret (pc := 42) t258_42 mr258 (by decide) (hQ _ _ w48s w48I (((((zFr.refl).trans (w8F.mono rfl)).trans (w17F.mono rfl)).put rfl).trans (w48F.mono rfl)) (w48J.trans (w17J.trans w8J)) (by omega) (by omega) (Or.inl (by decide)) (by decide) (by decide))
          · skip
            have w52H := w48x0.resolve_left w52
            refine zs_if_neT (pc := 38) t258_38 rfl (by omega) ?_
            refine zs_aload_n (pc := 43) t258_43 rfl ?_
            refine zs_sipush (pc := 44) t258_44 (v := 20000) (by decide) ?_
            refine zs_iload_n (pc := 47) t258_47 rfl ?_
            obtain ⟨w57v, w57e, w57⟩ := ziadd (a := (20000 : Int32)) (b := (zhere w17M)) li20000 rfl (by omega) (by omega)
            refine zs_iadd (pc := 48) t258_48 (c := w57v) w57e ?_
            refine zs_invV (pc := 49) (k := 336) (as' := [.int w57v]) (st := []) t258_49 mf261 rfl rfl (Or.inl ⟨by decide, (zk1 (w48s.k fk_zMm_336))⟩) ⟨by decide, by decide, Nat.le_of_ble_eq_true rfl, Nat.le_of_ble_eq_true rfl⟩ (zs_in (by decide) mf261 (Nat.le_of_ble_eq_true rfl) ?_) (fun _ _ q => q)
            show zGo X l 0 0 0 261 0 [(0, .ref 336), (1, .int w57v)] [] w48M _
            refine zs_aload_n (pc := 0) t261_0 rfl ?_
            refine zs_get (pc := 1) t261_1 (by decide) (zk1 (w48s.k fk_zMm_336)) (w48s.p rfl fv_zMm_336_9) ?_
            refine zs_aload_n (pc := 4) t261_4 rfl ?_
            refine zs_get (pc := 5) t261_5 (by decide) (zk1 (w48s.k fk_zMm_336)) (zfvi rfl rfl) ?_
            refine zs_iload_n (pc := 8) t261_8 rfl ?_
            obtain ⟨w58n, w58⟩ : ∃ n : Nat, (zI w48M 336 11).toInt = (n : Int) := ⟨((zI w48M 336 11).toInt).toNat, by omega⟩
            have w59 : zIv mLo mHi (zsI w48M 340 w58n w57v) := zIv.put w48I (show (-2147483648) ≤ w57v.toInt ∧ w57v.toInt ≤ 2147483647 from zrg w57v)
            refine zs_iast (pc := 9) t261_9 (j := w58n) (by decide) (zk1 (w48s.k fk_zMm_340)) (show (zI w48M 336 11).toInt = ((w58n : Nat) : Int) by omega) (zk2 (w48s.k fk_zMm_340) (by omega)) ?_
            refine zs_aload_n (pc := 10) t261_10 rfl ?_
            refine zs_dup (pc := 11) t261_11 rfl ?_
            refine zs_get (pc := 12) t261_12 (by decide) (zk1 (w48s.k fk_zMm_336)) (zfvi rfl ((zIo (by decide)).trans rfl)) ?_
            refine zs_iconst (pc := 15) t261_15 (v := 1) (by decide) ?_
            obtain ⟨w60v, w60e, w60⟩ := ziadd (a := (zI w48M 336 11)) (b := (1 : Int32)) rfl li1 (by omega) (by omega)
            refine zs_iadd (pc := 16) t261_16 (c := w60v) w60e ?_
            have w61 : zIv mLo mHi (zsI (zsI w48M 340 w58n w57v) 336 11 w60v) := zIv.put w59 (show 0 ≤ w60v.toInt ∧ w60v.toInt ≤ 200 from ⟨by omega, by omega⟩)
            have w62 : (zI w48M 336 11).toInt = (zI w48M 336 11).toInt := (congrArg Int32.toInt rfl).trans rfl
            have w63 : w60v.toInt = ((zI w48M 336 11).toInt + 1) := w60
            have w64 : w57v.toInt = (20000 + (zhere w17M).toInt) := w57
            have w65 : zGh (zsI (zsI w48M 340 w58n w57v) 336 11 w60v) (((hh + 1) + 1) - 1) := zGh.put (n := w58n) w52H (by omega) (by omega) (by omega)
            refine zs_putI (pc := 17) t261_17 (zk1 (w48s.k fk_zMm_336)) rfl ?_
            refine zs_vret (pc := 20) t261_20 mr261 ?_
            show zGo X l 3 0 0 258 52 [(1, .int (zhere w17M)), (0, .ref 336)] [] (zsI (zsI w48M 340 w58n w57v) 336 11 w60v) _
            refine zs_goto (pc := 52) t258_52 ?_
            refine zGo.locals (ls' := [(0, .ref 336)]) (by simp) ?_
            have w66 : (zI (zsI (zsI w48M 340 w58n w57v) 336 11 w60v) 336 12).toInt = (zI M 336 12).toInt := (congrArg Int32.toInt ((zIoj (by decide)).trans ((zIo (by decide)).trans ((w48F 336 12 rfl).trans ((zIoj (by decide)).trans ((w17F 336 12 rfl).trans ((w8F 336 12 rfl).trans rfl))))))).trans rfl
            have w67 : (zI (zsI (zsI w48M 340 w58n w57v) 336 11 w60v) 336 14).toInt = (zI M 336 14).toInt := (congrArg Int32.toInt ((zIoj (by decide)).trans ((zIo (by decide)).trans ((w48F 336 14 rfl).trans ((zIoj (by decide)).trans ((w17F 336 14 rfl).trans ((w8F 336 14 rfl).trans rfl))))))).trans rfl
            have w68 : (zI (zsI (zsI w48M 340 w58n w57v) 336 11 w60v) 336 6).toInt = (zI w48M 336 6).toInt := (congrArg Int32.toInt ((zIoj (by decide)).trans ((zIo (by decide)).trans rfl))).trans rfl
            have w69 : (zI (zsI (zsI w48M 340 w58n w57v) 336 11 w60v) 336 13).toInt = (zI w48M 336 13).toInt := (congrArg Int32.toInt ((zIoj (by decide)).trans ((zIo (by decide)).trans rfl))).trans rfl
            have w70 : (zI (zsI (zsI w48M 340 w58n w57v) 336 11 w60v) 336 11).toInt = ((zI w48M 336 11).toInt + 1) := (congrArg Int32.toInt zIs).trans w60
            have w71 : (zI (zsI (zsI w48M 340 w58n w57v) 336 11 w60v) 336 13).toInt = (zI w48M 336 13).toInt := (congrArg Int32.toInt ((zIoj (by decide)).trans ((zIo (by decide)).trans rfl))).trans rfl
            have w72 : (zI (zsI (zsI w48M 340 w58n w57v) 336 11 w60v) 336 11).toInt = ((zI w48M 336 11).toInt + 1) := (congrArg Int32.toInt zIs).trans w60
            have w73 : (zI (zsI (zsI w48M 340 w58n w57v) 336 11 w60v) 336 13).toInt = (zI w48M 336 13).toInt := (congrArg Int32.toInt ((zIoj (by decide)).trans ((zIo (by decide)).trans rfl))).trans rfl
            have w74 : (zI (zsI (zsI w48M 340 w58n w57v) 336 11 w60v) 336 6).toInt = (zI w48M 336 6).toInt := (congrArg Int32.toInt ((zIoj (by decide)).trans ((zIo (by decide)).trans rfl))).trans rfl
            exact w17ih (w17m - 1) (by omega) (zsI (zsI w48M 340 w58n w57v) 336 11 w60v) w48s w61 ((((((zFr.refl).trans (w17F.mono rfl)).put rfl).trans (w48F.mono rfl)).put rfl).put rfl) (w48J.trans w17J) (zGh.cast w65 (by omega)) (by omega) (by omega) (by omega) (by omega) (by omega)
    refine zGo.locals (ls' := [(0, .ref 336)]) (by simp) ?_
    have w75 : (zI w8M 336 12).toInt = (zI M 336 12).toInt := (congrArg Int32.toInt ((w8F 336 12 rfl).trans rfl)).trans rfl
    have w76 : (zI w8M 336 14).toInt = (zI M 336 14).toInt := (congrArg Int32.toInt ((w8F 336 14 rfl).trans rfl)).trans rfl
    have w77 : (zI w8M 336 6).toInt = (zI w8M 336 6).toInt := (congrArg Int32.toInt rfl).trans rfl
    have w78 : (zI w8M 336 13).toInt = (zI w8M 336 13).toInt := (congrArg Int32.toInt rfl).trans rfl
    have w79 : (zI w8M 336 11).toInt = (zI w8M 336 11).toInt := (congrArg Int32.toInt rfl).trans rfl
    have w80 : (zI w8M 336 13).toInt = (zI w8M 336 13).toInt := (congrArg Int32.toInt rfl).trans rfl
    have w81 : (zI w8M 336 11).toInt = (zI w8M 336 11).toInt := (congrArg Int32.toInt rfl).trans rfl
    have w82 : (zI w8M 336 13).toInt = (zI w8M 336 13).toInt := (congrArg Int32.toInt rfl).trans rfl
    have w83 : (zI w8M 336 6).toInt = (zI w8M 336 6).toInt := (congrArg Int32.toInt rfl).trans rfl
    exact w17L ((500 - (zI w8M 336 6).toInt : Int).toNat) w8M w8s w8I zFr.refl rfl (zGh.cast w12H (by omega)) (by omega) (by omega) (by omega) (by omega) (by omega)
