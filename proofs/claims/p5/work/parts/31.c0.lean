theorem K238 {X : zX} {l : Launch} {M : zM} {Q : Option Value → zM → Prop} (hs : zSk zMm M) (hI : zIv mLo mHi M) (hQ : ∀ v : Int32, (v.toInt < 0 ∨ (zI M 336 6).toInt < (zI M 336 5).toInt) → (-1) ≤ v.toInt → v.toInt ≤ 255 → Q (some (.int v)) M) : zCall X l 0 0 0 238 [.ref 336] M Q := by
  refine zs_in (by decide) mf238 (Nat.le_of_ble_eq_true rfl) ?_
  show zGo X l 0 0 0 238 0 [(0, .ref 336)] [] M _
  refine zs_aload_n (pc := 0) t238_0 rfl ?_
  have w1 := ib336_6 hI
  refine zs_get (pc := 1) t238_1 (by decide) (zk1 (hs.k fk_zMm_336)) (zfvi rfl rfl) ?_
  refine zs_aload_n (pc := 4) t238_4 rfl ?_
  have w2 := ib336_5 hI
  refine zs_get (pc := 5) t238_5 (by decide) (zk1 (hs.k fk_zMm_336)) (zfvi rfl rfl) ?_
  by_cases w3 : (zI M 336 5).toInt ≤ (zI M 336 6).toInt
  · refine zs_icmp_geT (pc := 8) t238_8 rfl rfl (by omega) ?_
    refine zs_iconst (pc := 27) t238_27 (v := -1) (by decide) ?_
    have w4 : (zI M 336 6).toInt = (zI M 336 6).toInt := (congrArg Int32.toInt rfl).trans rfl
    have w5 : (zI M 336 5).toInt = (zI M 336 5).toInt := (congrArg Int32.toInt rfl).trans rfl
    have w6 := lin1
    exact zs_iret (pc := 28) t238_28 mr238 (by decide) (hQ _ (by omega) (by decide) (by decide))
  · refine zs_icmp_geF (pc := 8) t238_8 rfl rfl (by omega) ?_
    refine zs_aload_n (pc := 11) t238_11 rfl ?_
    refine zs_get (pc := 12) t238_12 (by decide) (zk1 (hs.k fk_zMm_336)) (hs.p rfl fv_zMm_336_4) ?_
    refine zs_aload_n (pc := 15) t238_15 rfl ?_
    refine zs_get (pc := 16) t238_16 (by decide) (zk1 (hs.k fk_zMm_336)) (zfvi rfl rfl) ?_
    obtain ⟨w7n, w7⟩ : ∃ n : Nat, (zI M 336 6).toInt = (n : Int) := ⟨((zI M 336 6).toInt).toNat, by omega⟩
    have w8 := ib339 hI w7n
    refine zs_bald (pc := 19) t238_19 (j := w7n) (Or.inl (zk1 (hs.k fk_zMm_339))) (show (zI M 336 6).toInt = ((w7n : Nat) : Int) by omega) (zk2 (hs.k fk_zMm_339) (by omega)) rfl ?_
    refine zs_sipush (pc := 20) t238_20 (v := 255) (by decide) ?_
    obtain ⟨w9v, w9⟩ : ∃ v, (zI M 339 w7n) &&& (255 : Int32) = v := ⟨_, rfl⟩
    have w9g : 0 ≤ w9v.toInt ∧ w9v.toInt ≤ 255 := by rw [← w9]; exact zand li255 (by decide)
    refine zs_iand (pc := 23) t238_23 (c := w9v) w9 ?_
    refine zs_goto (pc := 24) t238_24 ?_
    have w10 : (zI M 336 6).toInt = (zI M 336 6).toInt := (congrArg Int32.toInt rfl).trans rfl
    have w11 : (zI M 336 5).toInt = (zI M 336 5).toInt := (congrArg Int32.toInt rfl).trans rfl
    exact zs_iret (pc := 28) t238_28 mr238 rfl (hQ _ (by omega) (by omega) (by omega))
theorem K245 {X : zX} {l : Launch} {M : zM} {Q : Option Value → zM → Prop} {a : Int32} (hs : zSk zMm M) (hI : zIv mLo mHi M) (hQ : ∀ v : Int32, ((v.toInt = 1 ∧ 48 ≤ a.toInt ∧ a.toInt ≤ 57) ∨ (v.toInt = 0 ∧ (a.toInt < 48 ∨ 57 < a.toInt))) → 0 ≤ v.toInt → v.toInt ≤ 1 → Q (some (.int v)) M) : zCall X l 0 0 0 245 [.int a] M Q := by
  have ga := zrg a
  refine zs_in (by decide) mf245 (Nat.le_of_ble_eq_true rfl) ?_
  show zGo X l 0 0 0 245 0 [(0, .int a)] [] M _
  refine zs_iload_n (pc := 0) t245_0 rfl ?_
  refine zs_bipush (pc := 1) t245_1 (v := 48) (by decide) ?_
  by_cases w1 : a.toInt < 48
  · refine zs_icmp_ltT (pc := 3) t245_3 rfl li48 (by omega) ?_
    refine zs_iconst (pc := 16) t245_16 (v := 0) (by decide) ?_
    have w2 := li0
    exact zs_iret (pc := 17) t245_17 mr245 (by decide) (hQ _ (by omega) (by decide) (by decide))
  · refine zs_icmp_ltF (pc := 3) t245_3 rfl li48 (by omega) ?_
    refine zs_iload_n (pc := 6) t245_6 rfl ?_
    refine zs_bipush (pc := 7) t245_7 (v := 57) (by decide) ?_
    by_cases w3 : 57 < a.toInt
    · refine zs_icmp_gtT (pc := 9) t245_9 rfl li57 (by omega) ?_
      refine zs_iconst (pc := 16) t245_16 (v := 0) (by decide) ?_
      have w4 := li0
      exact zs_iret (pc := 17) t245_17 mr245 (by decide) (hQ _ (by omega) (by decide) (by decide))
    · refine zs_icmp_gtF (pc := 9) t245_9 rfl li57 (by omega) ?_
      refine zs_iconst (pc := 12) t245_12 (v := 1) (by decide) ?_
      refine zs_goto (pc := 13) t245_13 ?_
      have w5 := li1
      exact zs_iret (pc := 17) t245_17 mr245 (by decide) (hQ _ (by omega) (by decide) (by decide))
theorem K262 {X : zX} {l : Launch} {M : zM} {Q : Option Value → zM → Prop} {a : Int32} (hs : zSk zMm M) (hI : zIv mLo mHi M) (hQ : ∀ v : Int32, (v.toInt = 0 ∨ 42 ≤ a.toInt) → 0 ≤ v.toInt → v.toInt ≤ 1 → Q (some (.int v)) M) : zCall X l 0 0 0 262 [.int a] M Q := by
  have ga := zrg a
  refine zs_in (by decide) mf262 (Nat.le_of_ble_eq_true rfl) ?_
  show zGo X l 0 0 0 262 0 [(0, .int a)] [] M _
  refine zs_iload_n (pc := 0) t262_0 rfl ?_
  refine zs_bipush (pc := 1) t262_1 (v := 43) (by decide) ?_
  by_cases w1 : a.toInt = 43
  · refine zs_icmp_eqT (pc := 3) t262_3 rfl li43 (by omega) ?_
    refine zs_iconst (pc := 18) t262_18 (v := 1) (by decide) ?_
    refine zs_goto (pc := 19) t262_19 ?_
    have w2 := li1
    exact zs_iret (pc := 23) t262_23 mr262 (by decide) (hQ _ (by omega) (by decide) (by decide))
  · refine zs_icmp_eqF (pc := 3) t262_3 rfl li43 (by omega) ?_
    refine zs_iload_n (pc := 6) t262_6 rfl ?_
    refine zs_bipush (pc := 7) t262_7 (v := 45) (by decide) ?_
    by_cases w3 : a.toInt = 45
    · refine zs_icmp_eqT (pc := 9) t262_9 rfl li45 (by omega) ?_
      refine zs_iconst (pc := 18) t262_18 (v := 1) (by decide) ?_
      refine zs_goto (pc := 19) t262_19 ?_
      have w4 := li1
      exact zs_iret (pc := 23) t262_23 mr262 (by decide) (hQ _ (by omega) (by decide) (by decide))
    · refine zs_icmp_eqF (pc := 9) t262_9 rfl li45 (by omega) ?_
      refine zs_iload_n (pc := 12) t262_12 rfl ?_
      refine zs_bipush (pc := 13) t262_13 (v := 42) (by decide) ?_
      by_cases w5 : a.toInt ≠ 42
      · refine zs_icmp_neT (pc := 15) t262_15 rfl li42 (by omega) ?_
        refine zs_iconst (pc := 22) t262_22 (v := 0) (by decide) ?_
        have w6 := li0
        exact zs_iret (pc := 23) t262_23 mr262 (by decide) (hQ _ (by omega) (by decide) (by decide))
      · refine zs_icmp_neF (pc := 15) t262_15 rfl li42 (by omega) ?_
        refine zs_iconst (pc := 18) t262_18 (v := 1) (by decide) ?_
        refine zs_goto (pc := 19) t262_19 ?_
        have w7 := li1
        exact zs_iret (pc := 23) t262_23 mr262 (by decide) (hQ _ (by omega) (by decide) (by decide))
theorem K260 {X : zX} {l : Launch} {M : zM} {Q : Option Value → zM → Prop} {a : Int32} (hs : zSk zMm M) (hI : zIv mLo mHi M) (hQ : ∀ v : Int32, (-1) ≤ v.toInt → v.toInt ≤ 7 → Q (some (.int v)) M) : zCall X l 0 0 0 260 [.int a] M Q := by
  have ga := zrg a
  refine zs_in (by decide) mf260 (Nat.le_of_ble_eq_true rfl) ?_
  show zGo X l 0 0 0 260 0 [(0, .int a)] [] M _
  refine zs_iload_n (pc := 0) t260_0 rfl ?_
  by_cases w1 : a.toInt = 103
  · refine zs_tswI (pc := 1) t260_1 ((rfl : a.toInt = a.toInt).trans w1) (by decide) rfl (pc2 := 86) rfl ?_
    refine zs_iconst (pc := 86) t260_86 (v := 3) (by decide) ?_
    exact zs_iret (pc := 87) t260_87 mr260 (by decide) (hQ _ (by decide) (by decide))
  by_cases w2 : a.toInt = 104
  · refine zs_tswI (pc := 1) t260_1 ((rfl : a.toInt = a.toInt).trans w2) (by decide) rfl (pc2 := 82) rfl ?_
    refine zs_iconst (pc := 82) t260_82 (v := 1) (by decide) ?_
    exact zs_iret (pc := 83) t260_83 mr260 (by decide) (hQ _ (by decide) (by decide))
  by_cases w3 : a.toInt = 105
  · refine zs_tswI (pc := 1) t260_1 ((rfl : a.toInt = a.toInt).trans w3) (by decide) rfl (pc2 := 98) rfl ?_
    refine zs_iconst (pc := 98) t260_98 (v := -1) (by decide) ?_
    exact zs_iret (pc := 99) t260_99 mr260 (by decide) (hQ _ (by decide) (by decide))
  by_cases w4 : a.toInt = 106
  · refine zs_tswI (pc := 1) t260_1 ((rfl : a.toInt = a.toInt).trans w4) (by decide) rfl (pc2 := 98) rfl ?_
    refine zs_iconst (pc := 98) t260_98 (v := -1) (by decide) ?_
    exact zs_iret (pc := 99) t260_99 mr260 (by decide) (hQ _ (by decide) (by decide))
  by_cases w5 : a.toInt = 107
  · refine zs_tswI (pc := 1) t260_1 ((rfl : a.toInt = a.toInt).trans w5) (by decide) rfl (pc2 := 98) rfl ?_
    refine zs_iconst (pc := 98) t260_98 (v := -1) (by decide) ?_
    exact zs_iret (pc := 99) t260_99 mr260 (by decide) (hQ _ (by decide) (by decide))
  by_cases w6 : a.toInt = 108
  · refine zs_tswI (pc := 1) t260_1 ((rfl : a.toInt = a.toInt).trans w6) (by decide) rfl (pc2 := 90) rfl ?_
    refine zs_iconst (pc := 90) t260_90 (v := 5) (by decide) ?_
    exact zs_iret (pc := 91) t260_91 mr260 (by decide) (hQ _ (by decide) (by decide))
  by_cases w7 : a.toInt = 109
  · refine zs_tswI (pc := 1) t260_1 ((rfl : a.toInt = a.toInt).trans w7) (by decide) rfl (pc2 := 88) rfl ?_
    refine zs_iconst (pc := 88) t260_88 (v := 4) (by decide) ?_
    exact zs_iret (pc := 89) t260_89 mr260 (by decide) (hQ _ (by decide) (by decide))
  by_cases w8 : a.toInt = 110
  · refine zs_tswI (pc := 1) t260_1 ((rfl : a.toInt = a.toInt).trans w8) (by decide) rfl (pc2 := 80) rfl ?_
    refine zs_iconst (pc := 80) t260_80 (v := 0) (by decide) ?_
    exact zs_iret (pc := 81) t260_81 mr260 (by decide) (hQ _ (by decide) (by decide))
  by_cases w9 : a.toInt = 111
  · refine zs_tswI (pc := 1) t260_1 ((rfl : a.toInt = a.toInt).trans w9) (by decide) rfl (pc2 := 95) rfl ?_
    refine zs_bipush (pc := 95) t260_95 (v := 7) (by decide) ?_
    exact zs_iret (pc := 97) t260_97 mr260 (by decide) (hQ _ (by decide) (by decide))
  by_cases w10 : a.toInt = 112
  · refine zs_tswI (pc := 1) t260_1 ((rfl : a.toInt = a.toInt).trans w10) (by decide) rfl (pc2 := 98) rfl ?_
    refine zs_iconst (pc := 98) t260_98 (v := -1) (by decide) ?_
    exact zs_iret (pc := 99) t260_99 mr260 (by decide) (hQ _ (by decide) (by decide))
  by_cases w11 : a.toInt = 113
  · refine zs_tswI (pc := 1) t260_1 ((rfl : a.toInt = a.toInt).trans w11) (by decide) rfl (pc2 := 98) rfl ?_
    refine zs_iconst (pc := 98) t260_98 (v := -1) (by decide) ?_
    exact zs_iret (pc := 99) t260_99 mr260 (by decide) (hQ _ (by decide) (by decide))
  by_cases w12 : a.toInt = 114
  · refine zs_tswI (pc := 1) t260_1 ((rfl : a.toInt = a.toInt).trans w12) (by decide) rfl (pc2 := 98) rfl ?_
    refine zs_iconst (pc := 98) t260_98 (v := -1) (by decide) ?_
    exact zs_iret (pc := 99) t260_99 mr260 (by decide) (hQ _ (by decide) (by decide))
  by_cases w13 : a.toInt = 115
  · refine zs_tswI (pc := 1) t260_1 ((rfl : a.toInt = a.toInt).trans w13) (by decide) rfl (pc2 := 98) rfl ?_
    refine zs_iconst (pc := 98) t260_98 (v := -1) (by decide) ?_
    exact zs_iret (pc := 99) t260_99 mr260 (by decide) (hQ _ (by decide) (by decide))
  by_cases w14 : a.toInt = 116
  · refine zs_tswI (pc := 1) t260_1 ((rfl : a.toInt = a.toInt).trans w14) (by decide) rfl (pc2 := 98) rfl ?_
    refine zs_iconst (pc := 98) t260_98 (v := -1) (by decide) ?_
    exact zs_iret (pc := 99) t260_99 mr260 (by decide) (hQ _ (by decide) (by decide))
  by_cases w15 : a.toInt = 117
  · refine zs_tswI (pc := 1) t260_1 ((rfl : a.toInt = a.toInt).trans w15) (by decide) rfl (pc2 := 92) rfl ?_
    refine zs_bipush (pc := 92) t260_92 (v := 6) (by decide) ?_
    exact zs_iret (pc := 94) t260_94 mr260 (by decide) (hQ _ (by decide) (by decide))
  by_cases w16 : a.toInt = 118
  · refine zs_tswI (pc := 1) t260_1 ((rfl : a.toInt = a.toInt).trans w16) (by decide) rfl (pc2 := 84) rfl ?_
    refine zs_iconst (pc := 84) t260_84 (v := 2) (by decide) ?_
    exact zs_iret (pc := 85) t260_85 mr260 (by decide) (hQ _ (by decide) (by decide))
  refine zs_tswD (pc := 1) t260_1 rfl (by omega) (pc2 := 98) rfl ?_
  refine zs_iconst (pc := 98) t260_98 (v := -1) (by decide) ?_
  exact zs_iret (pc := 99) t260_99 mr260 (by decide) (hQ _ (by decide) (by decide))
theorem K246 {X : zX} {l : Launch} {M : zM} {Q : Option Value → zM → Prop} {a : Int32} (hs : zSk zMm M) (hI : zIv mLo mHi M) (ha : 0 ≤ a.toInt ∧ a.toInt ≤ 255) (hQ : ∀ (M' : zM) (v : Int32), zSk zMm M' → zIv mLo mHi M' → zFr [(336, 336, some 6), (336, 336, some 7)] M M' → zJ M' 351 = zJ M 351 → ((zI M 336 6).toInt ≤ (zI M' 336 6).toInt) → ((v.toInt = 1 ∧ (zI M' 336 7).toInt = (zI M 336 7).toInt) ∨ (v.toInt = 0 ∧ 0 ≤ (zI M' 336 7).toInt)) → 0 ≤ v.toInt → v.toInt ≤ 1 → Q (some (.int v)) M') : zCall X l 1 0 0 246 [.ref 336, .int a] M Q := by
  have ga := zrg a
  refine zs_in (by decide) mf246 (Nat.le_of_ble_eq_true rfl) ?_
  show zGo X l 1 0 0 246 0 [(0, .ref 336), (1, .int a)] [] M _
  refine zs_aload_n (pc := 0) t246_0 rfl ?_
  have w1 := ib336_6 hI
  have w2 : (zI M 336 6).toInt = (zI M 336 6).toInt := (congrArg Int32.toInt rfl).trans rfl
  have w3 := ib336_5 hI
  have w4 : (zI M 336 5).toInt = (zI M 336 5).toInt := (congrArg Int32.toInt rfl).trans rfl
  refine zs_invV (pc := 1) (k := 336) (as' := []) (st := []) t246_1 mf238 rfl rfl (Or.inl ⟨by decide, (zk1 (hs.k fk_zMm_336))⟩) ⟨by decide, by decide, Nat.le_of_ble_eq_true rfl, Nat.le_of_ble_eq_true rfl⟩ (K238 hs hI ?_) (fun _ _ q => q)
  intro w5v w5t0 w5a w5b
  show zGo X l 1 0 0 246 4 [(0, .ref 336), (1, .int a)] [.int w5v] M _
  refine zs_iload_n (pc := 4) t246_4 rfl ?_
  by_cases w6 : w5v.toInt = a.toInt
  · refine zs_icmp_eqT (pc := 5) t246_5 rfl rfl (by omega) ?_
    refine zs_aload_n (pc := 17) t246_17 rfl ?_
    refine zs_dup (pc := 18) t246_18 rfl ?_
    refine zs_get (pc := 19) t246_19 (by decide) (zk1 (hs.k fk_zMm_336)) (zfvi rfl rfl) ?_
    refine zs_iconst (pc := 22) t246_22 (v := 1) (by decide) ?_
    obtain ⟨w7v, w7e, w7⟩ := ziadd (a := (zI M 336 6)) (b := (1 : Int32)) rfl li1 (by omega) (by omega)
    refine zs_iadd (pc := 23) t246_23 (c := w7v) w7e ?_
    have w8 : zIv mLo mHi (zsI M 336 6 w7v) := zIv.put hI (show 0 ≤ w7v.toInt ∧ w7v.toInt ≤ 500 from ⟨by omega, by omega⟩)
    refine zs_putI (pc := 24) t246_24 (zk1 (hs.k fk_zMm_336)) rfl ?_
    refine zs_iconst (pc := 27) t246_27 (v := 1) (by decide) ?_
    have w9 : (zI (zsI M 336 6 w7v) 336 6).toInt = ((zI M 336 6).toInt + 1) := (congrArg Int32.toInt zIs).trans w7
    have w10 := ib336_7 hI
    have w11 : (zI (zsI M 336 6 w7v) 336 7).toInt = (zI M 336 7).toInt := (congrArg Int32.toInt ((zIoj (by decide)).trans rfl)).trans rfl
    have w12 := li1
    exact zs_iret (pc := 28) t246_28 mr246 (by decide) (hQ _ _ hs w8 ((zFr.refl).put rfl) rfl (by omega) (by omega) (by decide) (by decide))
  · refine zs_icmp_eqF (pc := 5) t246_5 rfl rfl (by omega) ?_
    refine zs_aload_n (pc := 8) t246_8 rfl ?_
    refine zs_aload_n (pc := 9) t246_9 rfl ?_
    refine zs_get (pc := 10) t246_10 (by decide) (zk1 (hs.k fk_zMm_336)) (zfvi rfl rfl) ?_
    refine zs_invV (pc := 13) (k := 336) (as' := [.int (zI M 336 6)]) (st := []) t246_13 mf239 rfl rfl (Or.inl ⟨by decide, (zk1 (hs.k fk_zMm_336))⟩) ⟨by decide, by decide, Nat.le_of_ble_eq_true rfl, Nat.le_of_ble_eq_true rfl⟩ (zs_in (by decide) mf239 (Nat.le_of_ble_eq_true rfl) ?_) (fun _ _ q => q)
    show zGo X l 0 0 0 239 0 [(0, .ref 336), (1, .int (zI M 336 6))] [] M _
    refine zs_aload_n (pc := 0) t239_0 rfl ?_
    refine zs_iload_n (pc := 1) t239_1 rfl ?_
    have w13 : zIv mLo mHi (zsI M 336 7 (zI M 336 6)) := zIv.put hI (show (-1) ≤ (zI M 336 6).toInt ∧ (zI M 336 6).toInt ≤ 500 from ⟨by omega, by omega⟩)
    refine zs_putI (pc := 2) t239_2 (zk1 (hs.k fk_zMm_336)) rfl ?_
    refine zs_iconst (pc := 5) t239_5 (v := 0) (by decide) ?_
    refine zs_iret (pc := 6) t239_6 mr239 (by decide) ?_
    show zGo X l 1 0 0 246 16 [(0, .ref 336), (1, .int a)] [.int (0 : Int32)] (zsI M 336 7 (zI M 336 6)) _
    have w14 : (zI (zsI M 336 7 (zI M 336 6)) 336 6).toInt = (zI M 336 6).toInt := (congrArg Int32.toInt ((zIoj (by decide)).trans rfl)).trans rfl
    have w15 : (zI (zsI M 336 7 (zI M 336 6)) 336 7).toInt = (zI M 336 6).toInt := (congrArg Int32.toInt zIs).trans rfl
    have w16 := li0
    exact zs_iret (pc := 16) t246_16 mr246 (by decide) (hQ _ _ hs w13 ((zFr.refl).put rfl) rfl (by omega) (by omega) (by decide) (by decide))
theorem K244 {X : zX} {l : Launch} {M : zM} {Q : Option Value → zM → Prop} {a b c d : Int32} (hs : zSk zMm M) (hI : zIv mLo mHi M) (ha : 0 ≤ a.toInt ∧ a.toInt ≤ 500) (hb : (-1) ≤ b.toInt ∧ b.toInt ≤ 1) (hQ : ∀ (M' : zM) (v : Int32), zSk zMm M' → zIv mLo mHi M' → zFr [(336, 336, some 6), (336, 336, some 7), (336, 336, some 8)] M M' → zJ M' 351 = zJ M 351 → ((zI M 336 6).toInt ≤ (zI M' 336 6).toInt) → (v.toInt = 0 ∨ (c.toInt ≤ (zI M' 336 8).toInt ∧ (zI M' 336 8).toInt ≤ d.toInt)) → ((v.toInt = 1 ∧ (zI M' 336 7).toInt = (zI M 336 7).toInt) ∨ (v.toInt = 0 ∧ 0 ≤ (zI M' 336 7).toInt)) → 0 ≤ v.toInt → v.toInt ≤ 1 → Q (some (.int v)) M') : zCall X l 1 0 0 244 [.ref 336, .int a, .int b, .int c, .int d] M Q := by
  have ga := zrg a
  have gb := zrg b
  have gc := zrg c
  have gd := zrg d
  refine zs_in (by decide) mf244 (Nat.le_of_ble_eq_true rfl) ?_
  show zGo X l 1 0 0 244 0 [(0, .ref 336), (1, .int a), (2, .int b), (3, .int c), (4, .int d)] [] M _
  refine zs_aload_n (pc := 0) t244_0 rfl ?_
  have w1 := ib336_6 hI
  refine zs_get (pc := 1) t244_1 (by decide) (zk1 (hs.k fk_zMm_336)) (zfvi rfl rfl) ?_
  refine zs_istore (pc := 4) t244_4 (ls' := [(5, .int (zI M 336 6)), (0, .ref 336), (1, .int a), (2, .int b), (3, .int c), (4, .int d)]) (zml mf244 (by decide)) rfl ?_
  refine zs_aload_n (pc := 6) t244_6 rfl ?_
  refine zs_iconst (pc := 7) t244_7 (v := 0) (by decide) ?_
  have w2 : zIv mLo mHi (zsI M 336 8 (0 : Int32)) := zIv.put hI (show (-2147483648) ≤ (0 : Int32).toInt ∧ (0 : Int32).toInt ≤ 2147483647 from zrg (0 : Int32))
  refine zs_putI (pc := 8) t244_8 (zk1 (hs.k fk_zMm_336)) rfl ?_
  have w3L : ∀ (m : Nat) (w3M : zM), zSk zMm w3M → zIv mLo mHi w3M → zFr [(336, 336, some 6), (336, 336, some 7), (336, 336, some 8)] (zsI M 336 8 (0 : Int32)) w3M → zJ w3M 351 = zJ (zsI M 336 8 (0 : Int32)) 351 → ((zI M 336 6).toInt ≤ (zI w3M 336 6).toInt) → ((zI w3M 336 7).toInt = (zI (zsI M 336 8 (0 : Int32)) 336 7).toInt) → 500 - (zI w3M 336 6).toInt ≤ (m : Int) → zGo X l 1 0 0 244 11 [(0, .ref 336), (1, .int a), (2, .int b), (3, .int c), (4, .int d), (5, .int (zI M 336 6))] [] w3M Q := by
    intro m
    induction m using Nat.strongRecOn with
    | ind w3m w3ih =>
      intro w3M w3s w3I w3F w3J w3r0 w3r1 w3q
      have w4 := ib336_6 w3I
      have w5 := ib336_7 w3I
      have w6 := ib336_7 hI
      have w7 : (zI (zsI M 336 8 (0 : Int32)) 336 7).toInt = (zI M 336 7).toInt := (congrArg Int32.toInt ((zIoj (by decide)).trans rfl)).trans rfl
      refine zs_aload_n (pc := 11) t244_11 rfl ?_
      have w8 : (zI w3M 336 6).toInt = (zI w3M 336 6).toInt := (congrArg Int32.toInt rfl).trans rfl
      have w9 := ib336_5 hI
      have w10 : (zI w3M 336 5).toInt = (zI M 336 5).toInt := (congrArg Int32.toInt ((w3F 336 5 rfl).trans ((zIoj (by decide)).trans rfl))).trans rfl
      refine zs_invV (pc := 12) (k := 336) (as' := []) (st := []) t244_12 mf238 rfl rfl (Or.inl ⟨by decide, (zk1 (w3s.k fk_zMm_336))⟩) ⟨by decide, by decide, Nat.le_of_ble_eq_true rfl, Nat.le_of_ble_eq_true rfl⟩ (K238 w3s w3I ?_) (fun _ _ q => q)
      intro w11v w11t0 w11a w11b
      show zGo X l 1 0 0 244 15 [(0, .ref 336), (1, .int a), (2, .int b), (3, .int c), (4, .int d), (5, .int (zI M 336 6))] [.int w11v] w3M _
      refine zs_invS (pc := 15) (as := [.int w11v]) (st := []) t244_15 (by decide) mf245 rfl rfl ⟨by decide, by decide, Nat.le_of_ble_eq_true rfl, Nat.le_of_ble_eq_true rfl⟩ (K245 w3s w3I ?_) (fun _ _ q => q)
      intro w12v w12t0 w12a w12b
      show zGo X l 1 0 0 244 18 [(0, .ref 336), (1, .int a), (2, .int b), (3, .int c), (4, .int d), (5, .int (zI M 336 6))] [.int w12v] w3M _
      by_cases w13 : w12v.toInt = 0
      · refine zs_if_eqT (pc := 18) t244_18 rfl (by omega) ?_
        refine zs_aload_n (pc := 64) t244_64 rfl ?_
        refine zs_get (pc := 65) t244_65 (by decide) (zk1 (w3s.k fk_zMm_336)) (zfvi rfl rfl) ?_
        refine zs_iload (pc := 68) t244_68 rfl ?_
        by_cases w14 : (zI w3M 336 6).toInt = (zI M 336 6).toInt
        · refine zs_icmp_eqT (pc := 70) t244_70 rfl rfl (by omega) ?_
          refine zs_aload_n (pc := 83) t244_83 rfl ?_
          refine zs_aload_n (pc := 84) t244_84 rfl ?_
          refine zs_get (pc := 85) t244_85 (by decide) (zk1 (w3s.k fk_zMm_336)) (zfvi rfl rfl) ?_
          refine zs_invV (pc := 88) (k := 336) (as' := [.int (zI w3M 336 6)]) (st := []) t244_88 mf239 rfl rfl (Or.inl ⟨by decide, (zk1 (w3s.k fk_zMm_336))⟩) ⟨by decide, by decide, Nat.le_of_ble_eq_true rfl, Nat.le_of_ble_eq_true rfl⟩ (zs_in (by decide) mf239 (Nat.le_of_ble_eq_true rfl) ?_) (fun _ _ q => q)
          show zGo X l 0 0 0 239 0 [(0, .ref 336), (1, .int (zI w3M 336 6))] [] w3M _
          refine zs_aload_n (pc := 0) t239_0 rfl ?_
          refine zs_iload_n (pc := 1) t239_1 rfl ?_
          have w15 : zIv mLo mHi (zsI w3M 336 7 (zI w3M 336 6)) := zIv.put w3I (show (-1) ≤ (zI w3M 336 6).toInt ∧ (zI w3M 336 6).toInt ≤ 500 from ⟨by omega, by omega⟩)
          refine zs_putI (pc := 2) t239_2 (zk1 (w3s.k fk_zMm_336)) rfl ?_
          refine zs_iconst (pc := 5) t239_5 (v := 0) (by decide) ?_
          refine zs_iret (pc := 6) t239_6 mr239 (by decide) ?_
          show zGo X l 1 0 0 244 91 [(0, .ref 336), (1, .int a), (2, .int b), (3, .int c), (4, .int d), (5, .int (zI M 336 6))] [.int (0 : Int32)] (zsI w3M 336 7 (zI w3M 336 6)) _
          have w16 : (zI (zsI w3M 336 7 (zI w3M 336 6)) 336 6).toInt = (zI w3M 336 6).toInt := (congrArg Int32.toInt ((zIoj (by decide)).trans rfl)).trans rfl
          have w17 : (zI (zsI w3M 336 7 (zI w3M 336 6)) 336 7).toInt = (zI w3M 336 6).toInt := (congrArg Int32.toInt zIs).trans rfl
          have w18 := zrg (zI w3M 336 8)
          have w19 : (zI (zsI w3M 336 7 (zI w3M 336 6)) 336 8).toInt = (zI w3M 336 8).toInt := (congrArg Int32.toInt ((zIoj (by decide)).trans rfl)).trans rfl
          have w20 := li0
          exact zs_iret (pc := 91) t244_91 mr244 (by decide) (hQ _ _ w3s w15 ((((zFr.refl).put rfl).trans (w3F.mono rfl)).put rfl) w3J (by omega) (by omega) (by omega) (by decide) (by decide))
        · refine zs_icmp_eqF (pc := 70) t244_70 rfl rfl (by omega) ?_
          refine zs_aload_n (pc := 73) t244_73 rfl ?_
          have w21 : (zI w3M 336 6).toInt = (zI w3M 336 6).toInt := (congrArg Int32.toInt rfl).trans rfl
          have w22 : (zI w3M 336 5).toInt = (zI M 336 5).toInt := (congrArg Int32.toInt ((w3F 336 5 rfl).trans ((zIoj (by decide)).trans rfl))).trans rfl
          refine zs_invV (pc := 74) (k := 336) (as' := []) (st := []) t244_74 mf238 rfl rfl (Or.inl ⟨by decide, (zk1 (w3s.k fk_zMm_336))⟩) ⟨by decide, by decide, Nat.le_of_ble_eq_true rfl, Nat.le_of_ble_eq_true rfl⟩ (K238 w3s w3I ?_) (fun _ _ q => q)
          intro w23v w23t0 w23a w23b
          show zGo X l 1 0 0 244 77 [(0, .ref 336), (1, .int a), (2, .int b), (3, .int c), (4, .int d), (5, .int (zI M 336 6))] [.int w23v] w3M _
          refine zs_invS (pc := 77) (as := [.int w23v]) (st := []) t244_77 (by decide) mf245 rfl rfl ⟨by decide, by decide, Nat.le_of_ble_eq_true rfl, Nat.le_of_ble_eq_true rfl⟩ (K245 w3s w3I ?_) (fun _ _ q => q)
          intro w24v w24t0 w24a w24b
          show zGo X l 1 0 0 244 80 [(0, .ref 336), (1, .int a), (2, .int b), (3, .int c), (4, .int d), (5, .int (zI M 336 6))] [.int w24v] w3M _
          by_cases w25 : w24v.toInt = 0
          · refine zs_if_eqT (pc := 80) t244_80 rfl (by omega) ?_
            refine zs_aload_n (pc := 92) t244_92 rfl ?_
            refine zs_dup (pc := 93) t244_93 rfl ?_
            have w26 := zrg (zI w3M 336 8)
            refine zs_get (pc := 94) t244_94 (by decide) (zk1 (w3s.k fk_zMm_336)) (zfvi rfl rfl) ?_
            refine zs_iload_n (pc := 97) t244_97 rfl ?_
            obtain ⟨w27v, w27⟩ : ∃ v, (zI w3M 336 8) * b = v := ⟨_, rfl⟩
            have w27g := zrg w27v
            refine zs_imul (pc := 98) t244_98 (c := w27v) w27 ?_
            have w28 : zIv mLo mHi (zsI w3M 336 8 w27v) := zIv.put w3I (show (-2147483648) ≤ w27v.toInt ∧ w27v.toInt ≤ 2147483647 from zrg w27v)
            refine zs_putI (pc := 99) t244_99 (zk1 (w3s.k fk_zMm_336)) rfl ?_
            refine zs_aload_n (pc := 102) t244_102 rfl ?_
            refine zs_get (pc := 103) t244_103 (by decide) (zk1 (w3s.k fk_zMm_336)) (zfvi rfl zIs) ?_
            refine zs_i2l (pc := 106) t244_106 rfl ?_
            refine zs_iload_n (pc := 107) t244_107 rfl ?_
            refine zs_i2l (pc := 108) t244_108 rfl ?_
            refine zs_iload (pc := 109) t244_109 rfl ?_
            refine zs_i2l (pc := 111) t244_111 rfl ?_
            by_cases w29 : c.toInt ≤ w27v.toInt ∧ w27v.toInt ≤ d.toInt
            · refine zs_invS (pc := 112) (as := [.long w27v.toInt64, .long c.toInt64, .long d.toInt64]) (st := []) t244_112 (by decide) mf228 rfl rfl ⟨by decide, by decide, Nat.le_of_ble_eq_true rfl, Nat.le_of_ble_eq_true rfl⟩ (K228T (zi2l rfl) (zi2l rfl) (zi2l rfl) (by omega) ?_) (fun _ _ q => q)
              show zGo X l 1 0 0 244 115 [(0, .ref 336), (1, .int a), (2, .int b), (3, .int c), (4, .int d), (5, .int (zI M 336 6))] [.int (1 : Int32)] (zsI w3M 336 8 w27v) _
              refine zs_if_neT (pc := 115) t244_115 li1 (by decide) ?_
              refine zs_iconst (pc := 126) t244_126 (v := 1) (by decide) ?_
              refine zs_goto (pc := 127) t244_127 ?_
              have w30 : (zI (zsI w3M 336 8 w27v) 336 6).toInt = (zI w3M 336 6).toInt := (congrArg Int32.toInt ((zIoj (by decide)).trans rfl)).trans rfl
              have w31 : (zI (zsI w3M 336 8 w27v) 336 7).toInt = (zI w3M 336 7).toInt := (congrArg Int32.toInt ((zIoj (by decide)).trans rfl)).trans rfl
              have w32 : (zI (zsI w3M 336 8 w27v) 336 8).toInt = w27v.toInt := (congrArg Int32.toInt zIs).trans rfl
              have w33 := li1
              exact zs_iret (pc := 131) t244_131 mr244 (by decide) (hQ _ _ w3s w28 ((((zFr.refl).put rfl).trans (w3F.mono rfl)).put rfl) w3J (by omega) (by omega) (by omega) (by decide) (by decide))
            · refine zs_invS (pc := 112) (as := [.long w27v.toInt64, .long c.toInt64, .long d.toInt64]) (st := []) t244_112 (by decide) mf228 rfl rfl ⟨by decide, by decide, Nat.le_of_ble_eq_true rfl, Nat.le_of_ble_eq_true rfl⟩ (K228F (zi2l rfl) (zi2l rfl) (zi2l rfl) (by omega) ?_) (fun _ _ q => q)
              show zGo X l 1 0 0 244 115 [(0, .ref 336), (1, .int a), (2, .int b), (3, .int c), (4, .int d), (5, .int (zI M 336 6))] [.int (0 : Int32)] (zsI w3M 336 8 w27v) _
              refine zs_if_neF (pc := 115) t244_115 li0 (by decide) ?_
              refine zs_aload_n (pc := 118) t244_118 rfl ?_
              refine zs_iload_n (pc := 119) t244_119 rfl ?_
              refine zs_invV (pc := 120) (k := 336) (as' := [.int a]) (st := []) t244_120 mf239 rfl rfl (Or.inl ⟨by decide, (zk1 (w3s.k fk_zMm_336))⟩) ⟨by decide, by decide, Nat.le_of_ble_eq_true rfl, Nat.le_of_ble_eq_true rfl⟩ (zs_in (by decide) mf239 (Nat.le_of_ble_eq_true rfl) ?_) (fun _ _ q => q)
              show zGo X l 0 0 0 239 0 [(0, .ref 336), (1, .int a)] [] (zsI w3M 336 8 w27v) _
              refine zs_aload_n (pc := 0) t239_0 rfl ?_
              refine zs_iload_n (pc := 1) t239_1 rfl ?_
              have w34 : zIv mLo mHi (zsI (zsI w3M 336 8 w27v) 336 7 a) := zIv.put w28 (show (-1) ≤ a.toInt ∧ a.toInt ≤ 500 from ⟨by omega, by omega⟩)
              refine zs_putI (pc := 2) t239_2 (zk1 (w3s.k fk_zMm_336)) rfl ?_
              refine zs_iconst (pc := 5) t239_5 (v := 0) (by decide) ?_
              refine zs_iret (pc := 6) t239_6 mr239 (by decide) ?_
              show zGo X l 1 0 0 244 123 [(0, .ref 336), (1, .int a), (2, .int b), (3, .int c), (4, .int d), (5, .int (zI M 336 6))] [.int (0 : Int32)] (zsI (zsI w3M 336 8 w27v) 336 7 a) _
              refine zs_if_eqT (pc := 123) t244_123 li0 (by decide) ?_
              refine zs_iconst (pc := 130) t244_130 (v := 0) (by decide) ?_
              have w35 : (zI (zsI (zsI w3M 336 8 w27v) 336 7 a) 336 6).toInt = (zI w3M 336 6).toInt := (congrArg Int32.toInt ((zIoj (by decide)).trans ((zIoj (by decide)).trans rfl))).trans rfl
              have w36 : (zI (zsI (zsI w3M 336 8 w27v) 336 7 a) 336 7).toInt = a.toInt := (congrArg Int32.toInt zIs).trans rfl
              have w37 : (zI (zsI (zsI w3M 336 8 w27v) 336 7 a) 336 8).toInt = w27v.toInt := (congrArg Int32.toInt ((zIoj (by decide)).trans zIs)).trans rfl
              have w38 := li0
              exact zs_iret (pc := 131) t244_131 mr244 (by decide) (hQ _ _ w3s w34 (((((zFr.refl).put rfl).trans (w3F.mono rfl)).put rfl).put rfl) w3J (by omega) (by omega) (by omega) (by decide) (by decide))
          · refine zs_if_eqF (pc := 80) t244_80 rfl (by omega) ?_
            refine zs_aload_n (pc := 83) t244_83 rfl ?_
            refine zs_aload_n (pc := 84) t244_84 rfl ?_
            refine zs_get (pc := 85) t244_85 (by decide) (zk1 (w3s.k fk_zMm_336)) (zfvi rfl rfl) ?_
            refine zs_invV (pc := 88) (k := 336) (as' := [.int (zI w3M 336 6)]) (st := []) t244_88 mf239 rfl rfl (Or.inl ⟨by decide, (zk1 (w3s.k fk_zMm_336))⟩) ⟨by decide, by decide, Nat.le_of_ble_eq_true rfl, Nat.le_of_ble_eq_true rfl⟩ (zs_in (by decide) mf239 (Nat.le_of_ble_eq_true rfl) ?_) (fun _ _ q => q)
            show zGo X l 0 0 0 239 0 [(0, .ref 336), (1, .int (zI w3M 336 6))] [] w3M _
            refine zs_aload_n (pc := 0) t239_0 rfl ?_
            refine zs_iload_n (pc := 1) t239_1 rfl ?_
            have w39 : zIv mLo mHi (zsI w3M 336 7 (zI w3M 336 6)) := zIv.put w3I (show (-1) ≤ (zI w3M 336 6).toInt ∧ (zI w3M 336 6).toInt ≤ 500 from ⟨by omega, by omega⟩)
            refine zs_putI (pc := 2) t239_2 (zk1 (w3s.k fk_zMm_336)) rfl ?_
            refine zs_iconst (pc := 5) t239_5 (v := 0) (by decide) ?_
            refine zs_iret (pc := 6) t239_6 mr239 (by decide) ?_
            show zGo X l 1 0 0 244 91 [(0, .ref 336), (1, .int a), (2, .int b), (3, .int c), (4, .int d), (5, .int (zI M 336 6))] [.int (0 : Int32)] (zsI w3M 336 7 (zI w3M 336 6)) _
            have w40 : (zI (zsI w3M 336 7 (zI w3M 336 6)) 336 6).toInt = (zI w3M 336 6).toInt := (congrArg Int32.toInt ((zIoj (by decide)).trans rfl)).trans rfl
            have w41 : (zI (zsI w3M 336 7 (zI w3M 336 6)) 336 7).toInt = (zI w3M 336 6).toInt := (congrArg Int32.toInt zIs).trans rfl
            have w42 := zrg (zI w3M 336 8)
            have w43 : (zI (zsI w3M 336 7 (zI w3M 336 6)) 336 8).toInt = (zI w3M 336 8).toInt := (congrArg Int32.toInt ((zIoj (by decide)).trans rfl)).trans rfl
            have w44 := li0
            exact zs_iret (pc := 91) t244_91 mr244 (by decide) (hQ _ _ w3s w39 ((((zFr.refl).put rfl).trans (w3F.mono rfl)).put rfl) w3J (by omega) (by omega) (by omega) (by decide) (by decide))
      · refine zs_if_eqF (pc := 18) t244_18 rfl (by omega) ?_
        refine zs_aload_n (pc := 21) t244_21 rfl ?_
        refine zs_get (pc := 22) t244_22 (by decide) (zk1 (w3s.k fk_zMm_336)) (zfvi rfl rfl) ?_
        refine zs_iload (pc := 25) t244_25 rfl ?_
        obtain ⟨w45v, w45e, w45⟩ := zisub (a := (zI w3M 336 6)) (b := (zI M 336 6)) rfl rfl (by omega) (by omega)
        refine zs_isub (pc := 27) t244_27 (c := w45v) w45e ?_
        refine zs_iconst (pc := 28) t244_28 (v := 4) (by decide) ?_
        by_cases w46 : 4 ≤ ((zI w3M 336 6).toInt - (zI M 336 6).toInt)
        · refine zs_icmp_geT (pc := 29) t244_29 w45 li4 (by omega) ?_
          refine zs_aload_n (pc := 64) t244_64 rfl ?_
          refine zs_get (pc := 65) t244_65 (by decide) (zk1 (w3s.k fk_zMm_336)) (zfvi rfl rfl) ?_
          refine zs_iload (pc := 68) t244_68 rfl ?_
          by_cases w47 : (zI w3M 336 6).toInt = (zI M 336 6).toInt
          · refine zs_icmp_eqT (pc := 70) t244_70 rfl rfl (by omega) ?_
            refine zs_aload_n (pc := 83) t244_83 rfl ?_
            refine zs_aload_n (pc := 84) t244_84 rfl ?_
            refine zs_get (pc := 85) t244_85 (by decide) (zk1 (w3s.k fk_zMm_336)) (zfvi rfl rfl) ?_
            refine zs_invV (pc := 88) (k := 336) (as' := [.int (zI w3M 336 6)]) (st := []) t244_88 mf239 rfl rfl (Or.inl ⟨by decide, (zk1 (w3s.k fk_zMm_336))⟩) ⟨by decide, by decide, Nat.le_of_ble_eq_true rfl, Nat.le_of_ble_eq_true rfl⟩ (zs_in (by decide) mf239 (Nat.le_of_ble_eq_true rfl) ?_) (fun _ _ q => q)
            show zGo X l 0 0 0 239 0 [(0, .ref 336), (1, .int (zI w3M 336 6))] [] w3M _
            refine zs_aload_n (pc := 0) t239_0 rfl ?_
            refine zs_iload_n (pc := 1) t239_1 rfl ?_
            have w48 : zIv mLo mHi (zsI w3M 336 7 (zI w3M 336 6)) := zIv.put w3I (show (-1) ≤ (zI w3M 336 6).toInt ∧ (zI w3M 336 6).toInt ≤ 500 from ⟨by omega, by omega⟩)
            refine zs_putI (pc := 2) t239_2 (zk1 (w3s.k fk_zMm_336)) rfl ?_
            refine zs_iconst (pc := 5) t239_5 (v := 0) (by decide) ?_
            refine zs_iret (pc := 6) t239_6 mr239 (by decide) ?_
            show zGo X l 1 0 0 244 91 [(0, .ref 336), (1, .int a), (2, .int b), (3, .int c), (4, .int d), (5, .int (zI M 336 6))] [.int (0 : Int32)] (zsI w3M 336 7 (zI w3M 336 6)) _
            have w49 : (zI (zsI w3M 336 7 (zI w3M 336 6)) 336 6).toInt = (zI w3M 336 6).toInt := (congrArg Int32.toInt ((zIoj (by decide)).trans rfl)).trans rfl
            have w50 : (zI (zsI w3M 336 7 (zI w3M 336 6)) 336 7).toInt = (zI w3M 336 6).toInt := (congrArg Int32.toInt zIs).trans rfl
            have w51 := zrg (zI w3M 336 8)
            have w52 : (zI (zsI w3M 336 7 (zI w3M 336 6)) 336 8).toInt = (zI w3M 336 8).toInt := (congrArg Int32.toInt ((zIoj (by decide)).trans rfl)).trans rfl
            have w53 := li0
            exact zs_iret (pc := 91) t244_91 mr244 (by decide) (hQ _ _ w3s w48 ((((zFr.refl).put rfl).trans (w3F.mono rfl)).put rfl) w3J (by omega) (by omega) (by omega) (by decide) (by decide))
          · refine zs_icmp_eqF (pc := 70) t244_70 rfl rfl (by omega) ?_
            refine zs_aload_n (pc := 73) t244_73 rfl ?_
            have w54 : (zI w3M 336 6).toInt = (zI w3M 336 6).toInt := (congrArg Int32.toInt rfl).trans rfl
            have w55 : (zI w3M 336 5).toInt = (zI M 336 5).toInt := (congrArg Int32.toInt ((w3F 336 5 rfl).trans ((zIoj (by decide)).trans rfl))).trans rfl
            refine zs_invV (pc := 74) (k := 336) (as' := []) (st := []) t244_74 mf238 rfl rfl (Or.inl ⟨by decide, (zk1 (w3s.k fk_zMm_336))⟩) ⟨by decide, by decide, Nat.le_of_ble_eq_true rfl, Nat.le_of_ble_eq_true rfl⟩ (K238 w3s w3I ?_) (fun _ _ q => q)
            intro w56v w56t0 w56a w56b
            show zGo X l 1 0 0 244 77 [(0, .ref 336), (1, .int a), (2, .int b), (3, .int c), (4, .int d), (5, .int (zI M 336 6))] [.int w56v] w3M _
            refine zs_invS (pc := 77) (as := [.int w56v]) (st := []) t244_77 (by decide) mf245 rfl rfl ⟨by decide, by decide, Nat.le_of_ble_eq_true rfl, Nat.le_of_ble_eq_true rfl⟩ (K245 w3s w3I ?_) (fun _ _ q => q)
            intro w57v w57t0 w57a w57b
            show zGo X l 1 0 0 244 80 [(0, .ref 336), (1, .int a), (2, .int b), (3, .int c), (4, .int d), (5, .int (zI M 336 6))] [.int w57v] w3M _
            by_cases w58 : w57v.toInt = 0
            · refine zs_if_eqT (pc := 80) t244_80 rfl (by omega) ?_
              refine zs_aload_n (pc := 92) t244_92 rfl ?_
              refine zs_dup (pc := 93) t244_93 rfl ?_
              have w59 := zrg (zI w3M 336 8)
              refine zs_get (pc := 94) t244_94 (by decide) (zk1 (w3s.k fk_zMm_336)) (zfvi rfl rfl) ?_
              refine zs_iload_n (pc := 97) t244_97 rfl ?_
              obtain ⟨w60v, w60⟩ : ∃ v, (zI w3M 336 8) * b = v := ⟨_, rfl⟩
              have w60g := zrg w60v
              refine zs_imul (pc := 98) t244_98 (c := w60v) w60 ?_
              have w61 : zIv mLo mHi (zsI w3M 336 8 w60v) := zIv.put w3I (show (-2147483648) ≤ w60v.toInt ∧ w60v.toInt ≤ 2147483647 from zrg w60v)
              refine zs_putI (pc := 99) t244_99 (zk1 (w3s.k fk_zMm_336)) rfl ?_
              refine zs_aload_n (pc := 102) t244_102 rfl ?_
              refine zs_get (pc := 103) t244_103 (by decide) (zk1 (w3s.k fk_zMm_336)) (zfvi rfl zIs) ?_
              refine zs_i2l (pc := 106) t244_106 rfl ?_
              refine zs_iload_n (pc := 107) t244_107 rfl ?_
              refine zs_i2l (pc := 108) t244_108 rfl ?_
              refine zs_iload (pc := 109) t244_109 rfl ?_
              refine zs_i2l (pc := 111) t244_111 rfl ?_
              by_cases w62 : c.toInt ≤ w60v.toInt ∧ w60v.toInt ≤ d.toInt
              · refine zs_invS (pc := 112) (as := [.long w60v.toInt64, .long c.toInt64, .long d.toInt64]) (st := []) t244_112 (by decide) mf228 rfl rfl ⟨by decide, by decide, Nat.le_of_ble_eq_true rfl, Nat.le_of_ble_eq_true rfl⟩ (K228T (zi2l rfl) (zi2l rfl) (zi2l rfl) (by omega) ?_) (fun _ _ q => q)
                show zGo X l 1 0 0 244 115 [(0, .ref 336), (1, .int a), (2, .int b), (3, .int c), (4, .int d), (5, .int (zI M 336 6))] [.int (1 : Int32)] (zsI w3M 336 8 w60v) _
                refine zs_if_neT (pc := 115) t244_115 li1 (by decide) ?_
                refine zs_iconst (pc := 126) t244_126 (v := 1) (by decide) ?_
                refine zs_goto (pc := 127) t244_127 ?_
                have w63 : (zI (zsI w3M 336 8 w60v) 336 6).toInt = (zI w3M 336 6).toInt := (congrArg Int32.toInt ((zIoj (by decide)).trans rfl)).trans rfl
                have w64 : (zI (zsI w3M 336 8 w60v) 336 7).toInt = (zI w3M 336 7).toInt := (congrArg Int32.toInt ((zIoj (by decide)).trans rfl)).trans rfl
                have w65 : (zI (zsI w3M 336 8 w60v) 336 8).toInt = w60v.toInt := (congrArg Int32.toInt zIs).trans rfl
                have w66 := li1
                exact zs_iret (pc := 131) t244_131 mr244 (by decide) (hQ _ _ w3s w61 ((((zFr.refl).put rfl).trans (w3F.mono rfl)).put rfl) w3J (by omega) (by omega) (by omega) (by decide) (by decide))
              · refine zs_invS (pc := 112) (as := [.long w60v.toInt64, .long c.toInt64, .long d.toInt64]) (st := []) t244_112 (by decide) mf228 rfl rfl ⟨by decide, by decide, Nat.le_of_ble_eq_true rfl, Nat.le_of_ble_eq_true rfl⟩ (K228F (zi2l rfl) (zi2l rfl) (zi2l rfl) (by omega) ?_) (fun _ _ q => q)
                show zGo X l 1 0 0 244 115 [(0, .ref 336), (1, .int a), (2, .int b), (3, .int c), (4, .int d), (5, .int (zI M 336 6))] [.int (0 : Int32)] (zsI w3M 336 8 w60v) _
                refine zs_if_neF (pc := 115) t244_115 li0 (by decide) ?_
                refine zs_aload_n (pc := 118) t244_118 rfl ?_
                refine zs_iload_n (pc := 119) t244_119 rfl ?_
                refine zs_invV (pc := 120) (k := 336) (as' := [.int a]) (st := []) t244_120 mf239 rfl rfl (Or.inl ⟨by decide, (zk1 (w3s.k fk_zMm_336))⟩) ⟨by decide, by decide, Nat.le_of_ble_eq_true rfl, Nat.le_of_ble_eq_true rfl⟩ (zs_in (by decide) mf239 (Nat.le_of_ble_eq_true rfl) ?_) (fun _ _ q => q)
                show zGo X l 0 0 0 239 0 [(0, .ref 336), (1, .int a)] [] (zsI w3M 336 8 w60v) _
                refine zs_aload_n (pc := 0) t239_0 rfl ?_
                refine zs_iload_n (pc := 1) t239_1 rfl ?_
                have w67 : zIv mLo mHi (zsI (zsI w3M 336 8 w60v) 336 7 a) := zIv.put w61 (show (-1) ≤ a.toInt ∧ a.toInt ≤ 500 from ⟨by omega, by omega⟩)
                refine zs_putI (pc := 2) t239_2 (zk1 (w3s.k fk_zMm_336)) rfl ?_
                refine zs_iconst (pc := 5) t239_5 (v := 0) (by decide) ?_
                refine zs_iret (pc := 6) t239_6 mr239 (by decide) ?_
                show zGo X l 1 0 0 244 123 [(0, .ref 336), (1, .int a), (2, .int b), (3, .int c), (4, .int d), (5, .int (zI M 336 6))] [.int (0 : Int32)] (zsI (zsI w3M 336 8 w60v) 336 7 a) _
                refine zs_if_eqT (pc := 123) t244_123 li0 (by decide) ?_
                refine zs_iconst (pc := 130) t244_130 (v := 0) (by decide) ?_
                have w68 : (zI (zsI (zsI w3M 336 8 w60v) 336 7 a) 336 6).toInt = (zI w3M 336 6).toInt := (congrArg Int32.toInt ((zIoj (by decide)).trans ((zIoj (by decide)).trans rfl))).trans rfl
                have w69 : (zI (zsI (zsI w3M 336 8 w60v) 336 7 a) 336 7).toInt = a.toInt := (congrArg Int32.toInt zIs).trans rfl
                have w70 : (zI (zsI (zsI w3M 336 8 w60v) 336 7 a) 336 8).toInt = w60v.toInt := (congrArg Int32.toInt ((zIoj (by decide)).trans zIs)).trans rfl
                have w71 := li0
                exact zs_iret (pc := 131) t244_131 mr244 (by decide) (hQ _ _ w3s w67 (((((zFr.refl).put rfl).trans (w3F.mono rfl)).put rfl).put rfl) w3J (by omega) (by omega) (by omega) (by decide) (by decide))
            · refine zs_if_eqF (pc := 80) t244_80 rfl (by omega) ?_
              refine zs_aload_n (pc := 83) t244_83 rfl ?_
              refine zs_aload_n (pc := 84) t244_84 rfl ?_
              refine zs_get (pc := 85) t244_85 (by decide) (zk1 (w3s.k fk_zMm_336)) (zfvi rfl rfl) ?_
              refine zs_invV (pc := 88) (k := 336) (as' := [.int (zI w3M 336 6)]) (st := []) t244_88 mf239 rfl rfl (Or.inl ⟨by decide, (zk1 (w3s.k fk_zMm_336))⟩) ⟨by decide, by decide, Nat.le_of_ble_eq_true rfl, Nat.le_of_ble_eq_true rfl⟩ (zs_in (by decide) mf239 (Nat.le_of_ble_eq_true rfl) ?_) (fun _ _ q => q)
              show zGo X l 0 0 0 239 0 [(0, .ref 336), (1, .int (zI w3M 336 6))] [] w3M _
              refine zs_aload_n (pc := 0) t239_0 rfl ?_
              refine zs_iload_n (pc := 1) t239_1 rfl ?_
              have w72 : zIv mLo mHi (zsI w3M 336 7 (zI w3M 336 6)) := zIv.put w3I (show (-1) ≤ (zI w3M 336 6).toInt ∧ (zI w3M 336 6).toInt ≤ 500 from ⟨by omega, by omega⟩)
              refine zs_putI (pc := 2) t239_2 (zk1 (w3s.k fk_zMm_336)) rfl ?_
              refine zs_iconst (pc := 5) t239_5 (v := 0) (by decide) ?_
              refine zs_iret (pc := 6) t239_6 mr239 (by decide) ?_
              show zGo X l 1 0 0 244 91 [(0, .ref 336), (1, .int a), (2, .int b), (3, .int c), (4, .int d), (5, .int (zI M 336 6))] [.int (0 : Int32)] (zsI w3M 336 7 (zI w3M 336 6)) _
              have w73 : (zI (zsI w3M 336 7 (zI w3M 336 6)) 336 6).toInt = (zI w3M 336 6).toInt := (congrArg Int32.toInt ((zIoj (by decide)).trans rfl)).trans rfl
              have w74 : (zI (zsI w3M 336 7 (zI w3M 336 6)) 336 7).toInt = (zI w3M 336 6).toInt := (congrArg Int32.toInt zIs).trans rfl
              have w75 := zrg (zI w3M 336 8)
              have w76 : (zI (zsI w3M 336 7 (zI w3M 336 6)) 336 8).toInt = (zI w3M 336 8).toInt := (congrArg Int32.toInt ((zIoj (by decide)).trans rfl)).trans rfl
              have w77 := li0
              exact zs_iret (pc := 91) t244_91 mr244 (by decide) (hQ _ _ w3s w72 ((((zFr.refl).put rfl).trans (w3F.mono rfl)).put rfl) w3J (by omega) (by omega) (by omega) (by decide) (by decide))
        · refine zs_icmp_geF (pc := 29) t244_29 w45 li4 (by omega) ?_
          refine zs_aload_n (pc := 32) t244_32 rfl ?_
          refine zs_bipush (pc := 33) t244_33 (v := 10) (by decide) ?_
          refine zs_aload_n (pc := 35) t244_35 rfl ?_
          have w78 := zrg (zI w3M 336 8)
          refine zs_get (pc := 36) t244_36 (by decide) (zk1 (w3s.k fk_zMm_336)) (zfvi rfl rfl) ?_
          obtain ⟨w79v, w79⟩ : ∃ v, (10 : Int32) * (zI w3M 336 8) = v := ⟨_, rfl⟩
          have w79g := zrg w79v
          refine zs_imul (pc := 39) t244_39 (c := w79v) w79 ?_
          refine zs_aload_n (pc := 40) t244_40 rfl ?_
          have w80 : (zI w3M 336 6).toInt = (zI w3M 336 6).toInt := (congrArg Int32.toInt rfl).trans rfl
          have w81 : (zI w3M 336 5).toInt = (zI M 336 5).toInt := (congrArg Int32.toInt ((w3F 336 5 rfl).trans ((zIoj (by decide)).trans rfl))).trans rfl
          refine zs_invV (pc := 41) (k := 336) (as' := []) (st := [.int w79v, .ref 336]) t244_41 mf238 rfl rfl (Or.inl ⟨by decide, (zk1 (w3s.k fk_zMm_336))⟩) ⟨by decide, by decide, Nat.le_of_ble_eq_true rfl, Nat.le_of_ble_eq_true rfl⟩ (K238 w3s w3I ?_) (fun _ _ q => q)
          intro w82v w82t0 w82a w82b
          show zGo X l 1 0 0 244 44 [(0, .ref 336), (1, .int a), (2, .int b), (3, .int c), (4, .int d), (5, .int (zI M 336 6))] [.int w82v, .int w79v, .ref 336] w3M _
          obtain ⟨w83v, w83⟩ : ∃ v, v = w79v + w82v := ⟨_, rfl⟩
          have w83g := zrg w83v
          refine zs_iadd (pc := 44) t244_44 (c := w83v) w83.symm ?_
          refine zs_bipush (pc := 45) t244_45 (v := 48) (by decide) ?_
          obtain ⟨w84v, w84⟩ : ∃ v, v = w83v - (48 : Int32) := ⟨_, rfl⟩
          have w84g := zrg w84v
          refine zs_isub (pc := 47) t244_47 (c := w84v) w84.symm ?_
          have w85 : zIv mLo mHi (zsI w3M 336 8 w84v) := zIv.put w3I (show (-2147483648) ≤ w84v.toInt ∧ w84v.toInt ≤ 2147483647 from zrg w84v)
          refine zs_putI (pc := 48) t244_48 (zk1 (w3s.k fk_zMm_336)) rfl ?_
          refine zs_aload_n (pc := 51) t244_51 rfl ?_
          refine zs_dup (pc := 52) t244_52 rfl ?_
          refine zs_get (pc := 53) t244_53 (by decide) (zk1 (w3s.k fk_zMm_336)) (zfvi rfl ((zIoj (by decide)).trans rfl)) ?_
          refine zs_iconst (pc := 56) t244_56 (v := 1) (by decide) ?_
          obtain ⟨w86v, w86e, w86⟩ := ziadd (a := (zI w3M 336 6)) (b := (1 : Int32)) rfl li1 (by omega) (by omega)
          refine zs_iadd (pc := 57) t244_57 (c := w86v) w86e ?_
          have w87 : zIv mLo mHi (zsI (zsI w3M 336 8 w84v) 336 6 w86v) := zIv.put w85 (show 0 ≤ w86v.toInt ∧ w86v.toInt ≤ 500 from ⟨by omega, by omega⟩)
          refine zs_putI (pc := 58) t244_58 (zk1 (w3s.k fk_zMm_336)) rfl ?_
          refine zs_goto (pc := 61) t244_61 ?_
          refine zGo.locals (ls' := [(0, .ref 336), (1, .int a), (2, .int b), (3, .int c), (4, .int d), (5, .int (zI M 336 6))]) (by simp) ?_
          have w88 : (zI (zsI (zsI w3M 336 8 w84v) 336 6 w86v) 336 6).toInt = ((zI w3M 336 6).toInt + 1) := (congrArg Int32.toInt zIs).trans w86
          have w89 : (zI (zsI (zsI w3M 336 8 w84v) 336 6 w86v) 336 7).toInt = (zI w3M 336 7).toInt := (congrArg Int32.toInt ((zIoj (by decide)).trans ((zIoj (by decide)).trans rfl))).trans rfl
          have w90 : (zI (zsI (zsI w3M 336 8 w84v) 336 6 w86v) 336 6).toInt = ((zI w3M 336 6).toInt + 1) := (congrArg Int32.toInt zIs).trans w86
          exact w3ih (w3m - 1) (by omega) (zsI (zsI w3M 336 8 w84v) 336 6 w86v) w3s w87 ((((zFr.refl).trans (w3F.mono rfl)).put rfl).put rfl) w3J (by omega) (by omega) (by omega)
  refine zGo.locals (ls' := [(0, .ref 336), (1, .int a), (2, .int b), (3, .int c), (4, .int d), (5, .int (zI M 336 6))]) (by simp) ?_
  have w91 : (zI (zsI M 336 8 (0 : Int32)) 336 6).toInt = (zI M 336 6).toInt := (congrArg Int32.toInt ((zIoj (by decide)).trans rfl)).trans rfl
  have w92 : (zI (zsI M 336 8 (0 : Int32)) 336 7).toInt = (zI M 336 7).toInt := (congrArg Int32.toInt ((zIoj (by decide)).trans rfl)).trans rfl
  have w93 : (zI (zsI M 336 8 (0 : Int32)) 336 6).toInt = (zI M 336 6).toInt := (congrArg Int32.toInt ((zIoj (by decide)).trans rfl)).trans rfl
  exact w3L ((500 - (zI (zsI M 336 8 (0 : Int32)) 336 6).toInt : Int).toNat) (zsI M 336 8 (0 : Int32)) hs w2 zFr.refl rfl (by omega) (by omega) (by omega)
theorem K243 {X : zX} {l : Launch} {M : zM} {Q : Option Value → zM → Prop} {a b : Int32} (hs : zSk zMm M) (hI : zIv mLo mHi M) (hQ : ∀ (M' : zM) (v : Int32), zSk zMm M' → zIv mLo mHi M' → zFr [(336, 336, some 6), (336, 336, some 7), (336, 336, some 8)] M M' → zJ M' 351 = zJ M 351 → ((zI M 336 6).toInt ≤ (zI M' 336 6).toInt) → (v.toInt = 0 ∨ (a.toInt ≤ (zI M' 336 8).toInt ∧ (zI M' 336 8).toInt ≤ b.toInt)) → ((v.toInt = 1 ∧ (zI M' 336 7).toInt = (zI M 336 7).toInt) ∨ (v.toInt = 0 ∧ 0 ≤ (zI M' 336 7).toInt)) → 0 ≤ v.toInt → v.toInt ≤ 1 → Q (some (.int v)) M') : zCall X l 2 0 0 243 [.ref 336, .int a, .int b] M Q := by
  have ga := zrg a
  have gb := zrg b
  refine zs_in (by decide) mf243 (Nat.le_of_ble_eq_true rfl) ?_
  show zGo X l 2 0 0 243 0 [(0, .ref 336), (1, .int a), (2, .int b)] [] M _
  refine zs_aload_n (pc := 0) t243_0 rfl ?_
  have w1 := ib336_6 hI
  refine zs_get (pc := 1) t243_1 (by decide) (zk1 (hs.k fk_zMm_336)) (zfvi rfl rfl) ?_
  refine zs_istore_n (pc := 4) t243_4 (ls' := [(3, .int (zI M 336 6)), (0, .ref 336), (1, .int a), (2, .int b)]) (zml mf243 (by decide)) rfl ?_
  refine zs_aload_n (pc := 5) t243_5 rfl ?_
  have w2 : (zI M 336 6).toInt = (zI M 336 6).toInt := (congrArg Int32.toInt rfl).trans rfl
  have w3 := ib336_5 hI
  have w4 : (zI M 336 5).toInt = (zI M 336 5).toInt := (congrArg Int32.toInt rfl).trans rfl
  refine zs_invV (pc := 6) (k := 336) (as' := []) (st := []) t243_6 mf238 rfl rfl (Or.inl ⟨by decide, (zk1 (hs.k fk_zMm_336))⟩) ⟨by decide, by decide, Nat.le_of_ble_eq_true rfl, Nat.le_of_ble_eq_true rfl⟩ (K238 hs hI ?_) (fun _ _ q => q)
  intro w5v w5t0 w5a w5b
  show zGo X l 2 0 0 243 9 [(3, .int (zI M 336 6)), (0, .ref 336), (1, .int a), (2, .int b)] [.int w5v] M _
  refine zs_bipush (pc := 9) t243_9 (v := 45) (by decide) ?_
  by_cases w6 : w5v.toInt ≠ 45
  · refine zs_icmp_neT (pc := 11) t243_11 rfl li45 (by omega) ?_
    refine zs_iconst (pc := 18) t243_18 (v := 0) (by decide) ?_
    refine zs_istore (pc := 19) t243_19 (ls' := [(4, .int (0 : Int32)), (3, .int (zI M 336 6)), (0, .ref 336), (1, .int a), (2, .int b)]) (zml mf243 (by decide)) rfl ?_
    refine zs_iload (pc := 21) t243_21 rfl ?_
    refine zs_if_eqT (pc := 23) t243_23 li0 (by decide) ?_
    refine zs_aload_n (pc := 36) t243_36 rfl ?_
    refine zs_iload_n (pc := 37) t243_37 rfl ?_
    refine zs_iload (pc := 38) t243_38 rfl ?_
    refine zs_if_eqT (pc := 40) t243_40 li0 (by decide) ?_
    refine zs_iconst (pc := 47) t243_47 (v := 1) (by decide) ?_
    refine zs_iload_n (pc := 48) t243_48 rfl ?_
    refine zs_iload_n (pc := 49) t243_49 rfl ?_
    have w7 : (1 : Int32).toInt = 1 := li1
    have w8 : (zI M 336 6).toInt = (zI M 336 6).toInt := (congrArg Int32.toInt rfl).trans rfl
    have w9 := ib336_7 hI
    have w10 : (zI M 336 7).toInt = (zI M 336 7).toInt := (congrArg Int32.toInt rfl).trans rfl
    refine zs_invV (pc := 50) (k := 336) (as' := [.int (zI M 336 6), .int (1 : Int32), .int a, .int b]) (st := []) t243_50 mf244 rfl rfl (Or.inl ⟨by decide, (zk1 (hs.k fk_zMm_336))⟩) ⟨by decide, by decide, Nat.le_of_ble_eq_true rfl, Nat.le_of_ble_eq_true rfl⟩ (K244 hs hI ⟨by omega, by omega⟩ ⟨by decide, by decide⟩ ?_) (fun _ _ q => q)
    intro w11M w11v w11s w11I w11F w11J w11t0 w11t1 w11t2 w11a w11b
    have w12 := ib336_6 w11I
    have w13 := ib336_7 w11I
    have w14 := zrg (zI w11M 336 8)
    show zGo X l 2 0 0 243 53 [(4, .int (0 : Int32)), (3, .int (zI M 336 6)), (0, .ref 336), (1, .int a), (2, .int b)] [.int w11v] w11M _
    have w15 : (zI w11M 336 6).toInt = (zI w11M 336 6).toInt := (congrArg Int32.toInt rfl).trans rfl
    have w16 : (zI w11M 336 7).toInt = (zI w11M 336 7).toInt := (congrArg Int32.toInt rfl).trans rfl
    have w17 : (zI w11M 336 8).toInt = (zI w11M 336 8).toInt := (congrArg Int32.toInt rfl).trans rfl
    exact zs_iret (pc := 53) t243_53 mr243 (zfb01 (by omega)) (hQ _ _ w11s w11I ((zFr.refl).trans (w11F.mono rfl)) w11J (by omega) (by omega) (by omega) (by omega) (by omega))
  · refine zs_icmp_neF (pc := 11) t243_11 rfl li45 (by omega) ?_
    refine zs_iconst (pc := 14) t243_14 (v := 1) (by decide) ?_
    refine zs_goto (pc := 15) t243_15 ?_
    refine zs_istore (pc := 19) t243_19 (ls' := [(4, .int (1 : Int32)), (3, .int (zI M 336 6)), (0, .ref 336), (1, .int a), (2, .int b)]) (zml mf243 (by decide)) rfl ?_
    refine zs_iload (pc := 21) t243_21 rfl ?_
    refine zs_if_eqF (pc := 23) t243_23 li1 (by decide) ?_
    refine zs_aload_n (pc := 26) t243_26 rfl ?_
    refine zs_dup (pc := 27) t243_27 rfl ?_
    refine zs_get (pc := 28) t243_28 (by decide) (zk1 (hs.k fk_zMm_336)) (zfvi rfl rfl) ?_
    refine zs_iconst (pc := 31) t243_31 (v := 1) (by decide) ?_
    obtain ⟨w18v, w18e, w18⟩ := ziadd (a := (zI M 336 6)) (b := (1 : Int32)) rfl li1 (by omega) (by omega)
    refine zs_iadd (pc := 32) t243_32 (c := w18v) w18e ?_
    have w19 : zIv mLo mHi (zsI M 336 6 w18v) := zIv.put hI (show 0 ≤ w18v.toInt ∧ w18v.toInt ≤ 500 from ⟨by omega, by omega⟩)
    refine zs_putI (pc := 33) t243_33 (zk1 (hs.k fk_zMm_336)) rfl ?_
    refine zs_aload_n (pc := 36) t243_36 rfl ?_
    refine zs_iload_n (pc := 37) t243_37 rfl ?_
    refine zs_iload (pc := 38) t243_38 rfl ?_
    refine zs_if_eqF (pc := 40) t243_40 li1 (by decide) ?_
    refine zs_iconst (pc := 43) t243_43 (v := -1) (by decide) ?_
    refine zs_goto (pc := 44) t243_44 ?_
    refine zs_iload_n (pc := 48) t243_48 rfl ?_
    refine zs_iload_n (pc := 49) t243_49 rfl ?_
    have w20 : (-1 : Int32).toInt = (-1) := lin1
    have w21 : (zI (zsI M 336 6 w18v) 336 6).toInt = ((zI M 336 6).toInt + 1) := (congrArg Int32.toInt zIs).trans w18
    have w22 := ib336_7 hI
    have w23 : (zI (zsI M 336 6 w18v) 336 7).toInt = (zI M 336 7).toInt := (congrArg Int32.toInt ((zIoj (by decide)).trans rfl)).trans rfl
    refine zs_invV (pc := 50) (k := 336) (as' := [.int (zI M 336 6), .int (-1 : Int32), .int a, .int b]) (st := []) t243_50 mf244 rfl rfl (Or.inl ⟨by decide, (zk1 (hs.k fk_zMm_336))⟩) ⟨by decide, by decide, Nat.le_of_ble_eq_true rfl, Nat.le_of_ble_eq_true rfl⟩ (K244 hs w19 ⟨by omega, by omega⟩ ⟨by decide, by decide⟩ ?_) (fun _ _ q => q)
    intro w24M w24v w24s w24I w24F w24J w24t0 w24t1 w24t2 w24a w24b
    have w25 := ib336_6 w24I
    have w26 := ib336_7 w24I
    have w27 := zrg (zI w24M 336 8)
    show zGo X l 2 0 0 243 53 [(4, .int (1 : Int32)), (3, .int (zI M 336 6)), (0, .ref 336), (1, .int a), (2, .int b)] [.int w24v] w24M _
    have w28 : (zI w24M 336 6).toInt = (zI w24M 336 6).toInt := (congrArg Int32.toInt rfl).trans rfl
    have w29 : (zI w24M 336 7).toInt = (zI w24M 336 7).toInt := (congrArg Int32.toInt rfl).trans rfl
    have w30 : (zI w24M 336 8).toInt = (zI w24M 336 8).toInt := (congrArg Int32.toInt rfl).trans rfl
    exact zs_iret (pc := 53) t243_53 mr243 (zfb01 (by omega)) (hQ _ _ w24s w24I (((zFr.refl).put rfl).trans (w24F.mono rfl)) w24J (by omega) (by omega) (by omega) (by omega) (by omega))
theorem K250 {X : zX} {l : Launch} {M : zM} {Q : Option Value → zM → Prop} {aL bL : Int64} (hs : zSk zMm M) (hI : zIv mLo mHi M) (hbL : 1 ≤ bL.toInt ∧ bL.toInt ≤ 9223372036854775807) (hQ : Q (some (.int (zflr aL bL))) M) : zCall X l 0 0 0 250 [.long aL, .long bL] M Q := by
  have gaL := zrg64 aL
  have gbL := zrg64 bL
  refine zs_in (by decide) mf250 (Nat.le_of_ble_eq_true rfl) ?_
  show zGo X l 0 0 0 250 0 [(0, .long aL), (2, .long bL)] [] M _
  refine zs_lload_n (pc := 0) t250_0 rfl ?_
  refine zs_lconst (pc := 1) t250_1 (v := 0) (by decide) ?_
  by_cases w1 : aL.toInt < 0
  · refine zs_lcmp (pc := 2) t250_2 (c := -1) (zlcL rfl ll0 (by omega)) ?_
    refine zs_if_ltT (pc := 3) t250_3 lin1 (by decide) ?_
    refine zs_lload_n (pc := 12) t250_12 rfl ?_
    obtain ⟨w2v, w2⟩ : ∃ v, -aL = v := ⟨_, rfl⟩
    have w2g := zrg64 w2v
    refine zs_lneg (pc := 13) t250_13 (c := w2v) w2 ?_
    refine zs_lload_n (pc := 14) t250_14 rfl ?_
    obtain ⟨w3v, w3⟩ : ∃ v, w2v + bL = v := ⟨_, rfl⟩
    have w3g := zrg64 w3v
    refine zs_ladd (pc := 15) t250_15 (c := w3v) w3 ?_
    refine zs_lconst (pc := 16) t250_16 (v := 1) (by decide) ?_
    obtain ⟨w4v, w4⟩ : ∃ v, w3v - (1 : Int64) = v := ⟨_, rfl⟩
    have w4g := zrg64 w4v
    refine zs_lsub (pc := 17) t250_17 (c := w4v) w4 ?_
    refine zs_lload_n (pc := 18) t250_18 rfl ?_
    obtain ⟨w5v, w5⟩ : ∃ v, w4v / bL = v := ⟨_, rfl⟩
    have w5g := zrg64 w5v
    refine zs_ldiv (pc := 19) t250_19 (znz64 rfl (by omega)) (c := w5v) w5 ?_
    obtain ⟨w6v, w6⟩ : ∃ v, -w5v = v := ⟨_, rfl⟩
    have w6g := zrg64 w6v
    refine zs_lneg (pc := 20) t250_20 (c := w6v) w6 ?_
    obtain ⟨w7v, w7⟩ : ∃ v, w6v.toInt32 = v := ⟨_, rfl⟩
    have w7g := zrg w7v
    refine zs_l2i (pc := 21) t250_21 (c := w7v) w7 ?_
    exact zs_iret (pc := 22) t250_22 mr250 rfl (by subst_vars; unfold zflr at hQ; rw [if_neg (by omega)] at hQ; exact hQ)
  by_cases w8 : aL.toInt = 0
  · refine zs_lcmp (pc := 2) t250_2 (c := 0) (zlcE rfl ll0 (by omega)) ?_
    refine zs_if_ltF (pc := 3) t250_3 li0 (by decide) ?_
    refine zs_lload_n (pc := 6) t250_6 rfl ?_
    refine zs_lload_n (pc := 7) t250_7 rfl ?_
    obtain ⟨w9v, w9⟩ : ∃ v, aL / bL = v := ⟨_, rfl⟩
    have w9g := zrg64 w9v
    refine zs_ldiv (pc := 8) t250_8 (znz64 rfl (by omega)) (c := w9v) w9 ?_
    refine zs_goto (pc := 9) t250_9 ?_
    obtain ⟨w10v, w10⟩ : ∃ v, w9v.toInt32 = v := ⟨_, rfl⟩
    have w10g := zrg w10v
    refine zs_l2i (pc := 21) t250_21 (c := w10v) w10 ?_
    exact zs_iret (pc := 22) t250_22 mr250 rfl (by subst_vars; unfold zflr at hQ; rw [if_pos (by omega)] at hQ; exact hQ)
  refine zs_lcmp (pc := 2) t250_2 (c := 1) (zlcG rfl ll0 (by omega)) ?_
  refine zs_if_ltF (pc := 3) t250_3 li1 (by decide) ?_
  refine zs_lload_n (pc := 6) t250_6 rfl ?_
  refine zs_lload_n (pc := 7) t250_7 rfl ?_
  obtain ⟨w12v, w12⟩ : ∃ v, aL / bL = v := ⟨_, rfl⟩
  have w12g := zrg64 w12v
  refine zs_ldiv (pc := 8) t250_8 (znz64 rfl (by omega)) (c := w12v) w12 ?_
  refine zs_goto (pc := 9) t250_9 ?_
  obtain ⟨w13v, w13⟩ : ∃ v, w12v.toInt32 = v := ⟨_, rfl⟩
  have w13g := zrg w13v
  refine zs_l2i (pc := 21) t250_21 (c := w13v) w13 ?_
  exact zs_iret (pc := 22) t250_22 mr250 rfl (by subst_vars; unfold zflr at hQ; rw [if_pos (by omega)] at hQ; exact hQ)
theorem K251 {X : zX} {l : Launch} {M : zM} {Q : Option Value → zM → Prop} {a b : Int32} (hs : zSk zMm M) (hI : zIv mLo mHi M) (ha : 0 ≤ a.toInt ∧ a.toInt ≤ 7) (hQ : Q (some (.int (zbend M a b))) M) : zCall X l 1 0 0 251 [.ref 336, .int a, .int b] M Q := by
  have ga := zrg a
  have gb := zrg b
  refine zs_in (by decide) mf251 (Nat.le_of_ble_eq_true rfl) ?_
  show zGo X l 1 0 0 251 0 [(0, .ref 336), (1, .int a), (2, .int b)] [] M _
  refine zs_iload_n (pc := 0) t251_0 rfl ?_
  refine zs_i2l (pc := 1) t251_1 rfl ?_
  refine zs_aload_n (pc := 2) t251_2 rfl ?_
  refine zs_iload_n (pc := 3) t251_3 rfl ?_
  refine zs_invV (pc := 4) (k := 336) (as' := [.int a]) (st := [.long b.toInt64]) t251_4 mf241 rfl rfl (Or.inl ⟨by decide, (zk1 (hs.k fk_zMm_336))⟩) ⟨by decide, by decide, Nat.le_of_ble_eq_true rfl, Nat.le_of_ble_eq_true rfl⟩ (zs_in (by decide) mf241 (Nat.le_of_ble_eq_true rfl) ?_) (fun _ _ q => q)
  show zGo X l 0 0 0 241 0 [(0, .ref 336), (1, .int a)] [] M _
  refine zs_aload_n (pc := 0) t241_0 rfl ?_
  refine zs_get (pc := 1) t241_1 (by decide) (zk1 (hs.k fk_zMm_336)) (hs.p rfl fv_zMm_336_0) ?_
  refine zs_bipush (pc := 4) t241_4 (v := 14) (by decide) ?_
  refine zs_iconst (pc := 6) t241_6 (v := 2) (by decide) ?_
  refine zs_iload_n (pc := 7) t241_7 rfl ?_
  obtain ⟨w1v, w1⟩ : ∃ v, (2 : Int32) * a = v := ⟨_, rfl⟩
  have w1g : w1v.toInt = 2 * a.toInt := by rw [← w1]; exact zmulc li2 rfl (by omega) (by omega)
  refine zs_imul (pc := 8) t241_8 (c := w1v) w1 ?_
  obtain ⟨w2v, w2e, w2⟩ := ziadd (a := (14 : Int32)) (b := w1v) li14 w1g (by omega) (by omega)
  refine zs_iadd (pc := 9) t241_9 (c := w2v) w2e ?_
  obtain ⟨w3n, w3⟩ : ∃ n : Nat, a.toInt = (n : Int) := ⟨(a.toInt).toNat, by omega⟩
  have w4 := ibX (j := (14 + 2 * w3n)) hI (by omega) (by omega) (by omega)
  refine zs_iald (pc := 10) t241_10 (j := (14 + 2 * w3n)) (by decide) (zk1 (hs.k fk_zMm_337)) (show w2v.toInt = (((14 + 2 * w3n) : Nat) : Int) by omega) (zk2 (hs.k fk_zMm_337) (by omega)) rfl ?_
  refine zs_iret (pc := 11) t241_11 mr241 rfl ?_
  show zGo X l 1 0 0 251 7 [(0, .ref 336), (1, .int a), (2, .int b)] [.int (zI M 337 (14 + 2 * w3n)), .long b.toInt64] M _
  refine zs_i2l (pc := 7) t251_7 rfl ?_
  obtain ⟨w5v, w5⟩ : ∃ v, b.toInt64 * (zI M 337 (14 + 2 * w3n)).toInt64 = v := ⟨_, rfl⟩
  have w5g := zrg64 w5v
  refine zs_lmul (pc := 8) t251_8 (c := w5v) w5 ?_
  refine zs_aload_n (pc := 9) t251_9 rfl ?_
  refine zs_iload_n (pc := 10) t251_10 rfl ?_
  refine zs_invV (pc := 11) (k := 336) (as' := [.int a]) (st := [.long w5v]) t251_11 mf241 rfl rfl (Or.inl ⟨by decide, (zk1 (hs.k fk_zMm_336))⟩) ⟨by decide, by decide, Nat.le_of_ble_eq_true rfl, Nat.le_of_ble_eq_true rfl⟩ (zs_in (by decide) mf241 (Nat.le_of_ble_eq_true rfl) ?_) (fun _ _ q => q)
  show zGo X l 0 0 0 241 0 [(0, .ref 336), (1, .int a)] [] M _
  refine zs_aload_n (pc := 0) t241_0 rfl ?_
  refine zs_get (pc := 1) t241_1 (by decide) (zk1 (hs.k fk_zMm_336)) (hs.p rfl fv_zMm_336_0) ?_
  refine zs_bipush (pc := 4) t241_4 (v := 14) (by decide) ?_
  refine zs_iconst (pc := 6) t241_6 (v := 2) (by decide) ?_
  refine zs_iload_n (pc := 7) t241_7 rfl ?_
  obtain ⟨w6v, w6⟩ : ∃ v, (2 : Int32) * a = v := ⟨_, rfl⟩
  have w6g : w6v.toInt = 2 * a.toInt := by rw [← w6]; exact zmulc li2 rfl (by omega) (by omega)
  refine zs_imul (pc := 8) t241_8 (c := w6v) w6 ?_
  obtain ⟨w7v, w7e, w7⟩ := ziadd (a := (14 : Int32)) (b := w6v) li14 w6g (by omega) (by omega)
  refine zs_iadd (pc := 9) t241_9 (c := w7v) w7e ?_
  refine zs_iald (pc := 10) t241_10 (j := (14 + 2 * w3n)) (by decide) (zk1 (hs.k fk_zMm_337)) (show w7v.toInt = (((14 + 2 * w3n) : Nat) : Int) by omega) (zk2 (hs.k fk_zMm_337) (by omega)) rfl ?_
  refine zs_iret (pc := 11) t241_11 mr241 rfl ?_
  show zGo X l 1 0 0 251 14 [(0, .ref 336), (1, .int a), (2, .int b)] [.int (zI M 337 (14 + 2 * w3n)), .long w5v] M _
  refine zs_i2l (pc := 14) t251_14 rfl ?_
  obtain ⟨w8v, w8⟩ : ∃ v, w5v * (zI M 337 (14 + 2 * w3n)).toInt64 = v := ⟨_, rfl⟩
  have w8g := zrg64 w8v
  refine zs_lmul (pc := 15) t251_15 (c := w8v) w8 ?_
  refine zs_ldc2_w (pc := 16) t251_16 (v := 10000) (by decide) ?_
  have w9 : (10000 : Int64).toInt = 10000 := ll10000
  refine zs_invS (pc := 19) (as := [.long w8v, .long (10000 : Int64)]) (st := []) t251_19 (by decide) mf250 rfl rfl ⟨by decide, by decide, Nat.le_of_ble_eq_true rfl, Nat.le_of_ble_eq_true rfl⟩ (K250 hs hI ⟨by decide, by decide⟩ ?_) (fun _ _ q => q)
  have w10 := zrg (zflr w8v (10000 : Int64))
  show zGo X l 1 0 0 251 22 [(0, .ref 336), (1, .int a), (2, .int b)] [.int (zflr w8v (10000 : Int64))] M _
  exact zs_iret (pc := 22) t251_22 mr251 rfl (by obtain rfl : w3n = a.toInt.toNat := (by omega); subst_vars; exact hQ)
theorem K249 {X : zX} {l : Launch} {M : zM} {Q : Option Value → zM → Prop} {a b c : Int32} (hs : zSk zMm M) (hI : zIv mLo mHi M) (ha : 0 ≤ a.toInt ∧ a.toInt ≤ 7) (hQ : Q (some (.int (zlift M a b c))) M) : zCall X l 2 0 0 249 [.ref 336, .int a, .int b, .int c] M Q := by
  have ga := zrg a
  have gb := zrg b
  have gc := zrg c
  refine zs_in (by decide) mf249 (Nat.le_of_ble_eq_true rfl) ?_
  show zGo X l 2 0 0 249 0 [(0, .ref 336), (1, .int a), (2, .int b), (3, .int c)] [] M _
  refine zs_iload_n (pc := 0) t249_0 rfl ?_
  refine zs_i2l (pc := 1) t249_1 rfl ?_
  refine zs_aload_n (pc := 2) t249_2 rfl ?_
  refine zs_iload_n (pc := 3) t249_3 rfl ?_
  refine zs_invV (pc := 4) (k := 336) (as' := [.int a]) (st := [.long b.toInt64]) t249_4 mf241 rfl rfl (Or.inl ⟨by decide, (zk1 (hs.k fk_zMm_336))⟩) ⟨by decide, by decide, Nat.le_of_ble_eq_true rfl, Nat.le_of_ble_eq_true rfl⟩ (zs_in (by decide) mf241 (Nat.le_of_ble_eq_true rfl) ?_) (fun _ _ q => q)
  show zGo X l 0 0 0 241 0 [(0, .ref 336), (1, .int a)] [] M _
  refine zs_aload_n (pc := 0) t241_0 rfl ?_
  refine zs_get (pc := 1) t241_1 (by decide) (zk1 (hs.k fk_zMm_336)) (hs.p rfl fv_zMm_336_0) ?_
  refine zs_bipush (pc := 4) t241_4 (v := 14) (by decide) ?_
  refine zs_iconst (pc := 6) t241_6 (v := 2) (by decide) ?_
  refine zs_iload_n (pc := 7) t241_7 rfl ?_
  obtain ⟨w1v, w1⟩ : ∃ v, (2 : Int32) * a = v := ⟨_, rfl⟩
  have w1g : w1v.toInt = 2 * a.toInt := by rw [← w1]; exact zmulc li2 rfl (by omega) (by omega)
  refine zs_imul (pc := 8) t241_8 (c := w1v) w1 ?_
  obtain ⟨w2v, w2e, w2⟩ := ziadd (a := (14 : Int32)) (b := w1v) li14 w1g (by omega) (by omega)
  refine zs_iadd (pc := 9) t241_9 (c := w2v) w2e ?_
  obtain ⟨w3n, w3⟩ : ∃ n : Nat, a.toInt = (n : Int) := ⟨(a.toInt).toNat, by omega⟩
  have w4 := ibX (j := (14 + 2 * w3n)) hI (by omega) (by omega) (by omega)
  refine zs_iald (pc := 10) t241_10 (j := (14 + 2 * w3n)) (by decide) (zk1 (hs.k fk_zMm_337)) (show w2v.toInt = (((14 + 2 * w3n) : Nat) : Int) by omega) (zk2 (hs.k fk_zMm_337) (by omega)) rfl ?_
  refine zs_iret (pc := 11) t241_11 mr241 rfl ?_
  show zGo X l 2 0 0 249 7 [(0, .ref 336), (1, .int a), (2, .int b), (3, .int c)] [.int (zI M 337 (14 + 2 * w3n)), .long b.toInt64] M _
  refine zs_i2l (pc := 7) t249_7 rfl ?_
  obtain ⟨w5v, w5⟩ : ∃ v, b.toInt64 * (zI M 337 (14 + 2 * w3n)).toInt64 = v := ⟨_, rfl⟩
  have w5g := zrg64 w5v
  refine zs_lmul (pc := 8) t249_8 (c := w5v) w5 ?_
  refine zs_ldc2_w (pc := 9) t249_9 (v := 100) (by decide) ?_
  have w6 : (100 : Int64).toInt = 100 := ll100
  refine zs_invS (pc := 12) (as := [.long w5v, .long (100 : Int64)]) (st := []) t249_12 (by decide) mf250 rfl rfl ⟨by decide, by decide, Nat.le_of_ble_eq_true rfl, Nat.le_of_ble_eq_true rfl⟩ (K250 hs hI ⟨by decide, by decide⟩ ?_) (fun _ _ q => q)
  have w7 := zrg (zflr w5v (100 : Int64))
  show zGo X l 2 0 0 249 15 [(0, .ref 336), (1, .int a), (2, .int b), (3, .int c)] [.int (zflr w5v (100 : Int64))] M _
  refine zs_aload_n (pc := 15) t249_15 rfl ?_
  refine zs_iload_n (pc := 16) t249_16 rfl ?_
  refine zs_iload_n (pc := 17) t249_17 rfl ?_
  refine zs_invV (pc := 18) (k := 336) (as' := [.int a, .int c]) (st := [.int (zflr w5v (100 : Int64))]) t249_18 mf251 rfl rfl (Or.inl ⟨by decide, (zk1 (hs.k fk_zMm_336))⟩) ⟨by decide, by decide, Nat.le_of_ble_eq_true rfl, Nat.le_of_ble_eq_true rfl⟩ (K251 hs hI ⟨by omega, by omega⟩ ?_) (fun _ _ q => q)
  have w8 := zrg (zbend M a c)
  show zGo X l 2 0 0 249 21 [(0, .ref 336), (1, .int a), (2, .int b), (3, .int c)] [.int (zbend M a c), .int (zflr w5v (100 : Int64))] M _
  obtain ⟨w9v, w9⟩ : ∃ v, v = (zflr w5v (100 : Int64)) + (zbend M a c) := ⟨_, rfl⟩
  have w9g := zrg w9v
  refine zs_iadd (pc := 21) t249_21 (c := w9v) w9.symm ?_
  exact zs_iret (pc := 22) t249_22 mr249 rfl (by obtain rfl : w3n = a.toInt.toNat := (by omega); subst_vars; exact hQ)
theorem K286 {X : zX} {l : Launch} {M : zM} {Q : Option Value → zM → Prop} {aL bL : Int64} (hs : zSk zMm M) (hI : zIv mLo mHi M) (hbL : 1 ≤ bL.toInt ∧ bL.toInt ≤ 9223372036854775807) (hQ : ∀ v : Int64, Q (some (.long v)) M) : zCall X l 0 0 0 286 [.long aL, .long bL] M Q := by
  have gaL := zrg64 aL
  have gbL := zrg64 bL
  refine zs_in (by decide) mf286 (Nat.le_of_ble_eq_true rfl) ?_
  show zGo X l 0 0 0 286 0 [(0, .long aL), (2, .long bL)] [] M _
  refine zs_lload_n (pc := 0) t286_0 rfl ?_
  refine zs_lconst (pc := 1) t286_1 (v := 0) (by decide) ?_
  by_cases w1 : aL.toInt < 0
  · refine zs_lcmp (pc := 2) t286_2 (c := -1) (zlcL rfl ll0 (by omega)) ?_
    refine zs_if_ltT (pc := 3) t286_3 lin1 (by decide) ?_
    refine zs_lload_n (pc := 12) t286_12 rfl ?_
    obtain ⟨w2v, w2⟩ : ∃ v, -aL = v := ⟨_, rfl⟩
    have w2g := zrg64 w2v
    refine zs_lneg (pc := 13) t286_13 (c := w2v) w2 ?_
    refine zs_lload_n (pc := 14) t286_14 rfl ?_
    obtain ⟨w3v, w3⟩ : ∃ v, w2v + bL = v := ⟨_, rfl⟩
    have w3g := zrg64 w3v
    refine zs_ladd (pc := 15) t286_15 (c := w3v) w3 ?_
    refine zs_lconst (pc := 16) t286_16 (v := 1) (by decide) ?_
    obtain ⟨w4v, w4⟩ : ∃ v, w3v - (1 : Int64) = v := ⟨_, rfl⟩
    have w4g := zrg64 w4v
    refine zs_lsub (pc := 17) t286_17 (c := w4v) w4 ?_
    refine zs_lload_n (pc := 18) t286_18 rfl ?_
    obtain ⟨w5v, w5⟩ : ∃ v, w4v / bL = v := ⟨_, rfl⟩
    have w5g := zrg64 w5v
    refine zs_ldiv (pc := 19) t286_19 (znz64 rfl (by omega)) (c := w5v) w5 ?_
    obtain ⟨w6v, w6⟩ : ∃ v, -w5v = v := ⟨_, rfl⟩
    have w6g := zrg64 w6v
    refine zs_lneg (pc := 20) t286_20 (c := w6v) w6 ?_
    exact zs_lret (pc := 21) t286_21 mr286 (hQ _)
  by_cases w7 : aL.toInt = 0
  · refine zs_lcmp (pc := 2) t286_2 (c := 0) (zlcE rfl ll0 (by omega)) ?_
    refine zs_if_ltF (pc := 3) t286_3 li0 (by decide) ?_
    refine zs_lload_n (pc := 6) t286_6 rfl ?_
    refine zs_lload_n (pc := 7) t286_7 rfl ?_
    obtain ⟨w8v, w8⟩ : ∃ v, aL / bL = v := ⟨_, rfl⟩
    have w8g := zrg64 w8v
    refine zs_ldiv (pc := 8) t286_8 (znz64 rfl (by omega)) (c := w8v) w8 ?_
    refine zs_goto (pc := 9) t286_9 ?_
    exact zs_lret (pc := 21) t286_21 mr286 (hQ _)
  refine zs_lcmp (pc := 2) t286_2 (c := 1) (zlcG rfl ll0 (by omega)) ?_
  refine zs_if_ltF (pc := 3) t286_3 li1 (by decide) ?_
  refine zs_lload_n (pc := 6) t286_6 rfl ?_
  refine zs_lload_n (pc := 7) t286_7 rfl ?_
  obtain ⟨w10v, w10⟩ : ∃ v, aL / bL = v := ⟨_, rfl⟩
  have w10g := zrg64 w10v
  refine zs_ldiv (pc := 8) t286_8 (znz64 rfl (by omega)) (c := w10v) w10 ?_
  refine zs_goto (pc := 9) t286_9 ?_
  exact zs_lret (pc := 21) t286_21 mr286 (hQ _)
theorem K271 {X : zX} {l : Launch} {M : zM} {Q : Option Value → zM → Prop} {a b : Int32} (hs : zSk zMm M) (hI : zIv mLo mHi M) (ha : 0 ≤ a.toInt ∧ a.toInt ≤ 59) (hQ : ∀ v : Int32, 0 ≤ v.toInt → v.toInt ≤ 1 → Q (some (.int v)) M) : zCall X l 1 0 0 271 [.ref 336, .int a, .int b] M Q := by
  have ga := zrg a
  have gb := zrg b
  refine zs_in (by decide) mf271 (Nat.le_of_ble_eq_true rfl) ?_
  show zGo X l 1 0 0 271 0 [(0, .ref 336), (1, .int a), (2, .int b)] [] M _
  refine zs_aload_n (pc := 0) t271_0 rfl ?_
  refine zs_iload_n (pc := 1) t271_1 rfl ?_
  refine zs_iconst (pc := 2) t271_2 (v := 0) (by decide) ?_
  refine zs_invV (pc := 3) (k := 336) (as' := [.int a, .int (0 : Int32)]) (st := []) t271_3 mf272 rfl rfl (Or.inl ⟨by decide, (zk1 (hs.k fk_zMm_336))⟩) ⟨by decide, by decide, Nat.le_of_ble_eq_true rfl, Nat.le_of_ble_eq_true rfl⟩ (zs_in (by decide) mf272 (Nat.le_of_ble_eq_true rfl) ?_) (fun _ _ q => q)
  show zGo X l 0 0 0 272 0 [(0, .ref 336), (1, .int a), (2, .int (0 : Int32))] [] M _
  refine zs_aload_n (pc := 0) t272_0 rfl ?_
  refine zs_get (pc := 1) t272_1 (by decide) (zk1 (hs.k fk_zMm_336)) (hs.p rfl fv_zMm_336_0) ?_
  refine zs_bipush (pc := 4) t272_4 (v := 30) (by decide) ?_
  refine zs_iconst (pc := 6) t272_6 (v := 4) (by decide) ?_
  refine zs_iload_n (pc := 7) t272_7 rfl ?_
  obtain ⟨w1v, w1⟩ : ∃ v, (4 : Int32) * a = v := ⟨_, rfl⟩
  have w1g : w1v.toInt = 4 * a.toInt := by rw [← w1]; exact zmulc li4 rfl (by omega) (by omega)
  refine zs_imul (pc := 8) t272_8 (c := w1v) w1 ?_
  obtain ⟨w2v, w2e, w2⟩ := ziadd (a := (30 : Int32)) (b := w1v) li30 w1g (by omega) (by omega)
  refine zs_iadd (pc := 9) t272_9 (c := w2v) w2e ?_
  refine zs_iload_n (pc := 10) t272_10 rfl ?_
  obtain ⟨w3v, w3e, w3⟩ := ziadd (a := w2v) (b := (0 : Int32)) w2 li0 (by omega) (by omega)
  refine zs_iadd (pc := 11) t272_11 (c := w3v) w3e ?_
  obtain ⟨w4n, w4⟩ : ∃ n : Nat, a.toInt = (n : Int) := ⟨(a.toInt).toNat, by omega⟩
  have w5 := ibL (j := (30 + 4 * w4n)) hI (by omega) (by omega) (by omega)
  refine zs_iald (pc := 12) t272_12 (j := (30 + 4 * w4n)) (by decide) (zk1 (hs.k fk_zMm_337)) (show w3v.toInt = (((30 + 4 * w4n) : Nat) : Int) by omega) (zk2 (hs.k fk_zMm_337) (by omega)) rfl ?_
  refine zs_iret (pc := 13) t272_13 mr272 rfl ?_
  show zGo X l 1 0 0 271 6 [(0, .ref 336), (1, .int a), (2, .int b)] [.int (zI M 337 (30 + 4 * w4n))] M _
  refine zs_istore_n (pc := 6) t271_6 (ls' := [(3, .int (zI M 337 (30 + 4 * w4n))), (0, .ref 336), (1, .int a), (2, .int b)]) (zml mf271 (by decide)) rfl ?_
  refine zs_iload_n (pc := 7) t271_7 rfl ?_
  refine zs_iload_n (pc := 8) t271_8 rfl ?_
  by_cases w6 : (zI M 337 (30 + 4 * w4n)).toInt = b.toInt
  · refine zs_icmp_eqT (pc := 9) t271_9 rfl rfl (by omega) ?_
    refine zs_iconst (pc := 53) t271_53 (v := 0) (by decide) ?_
    exact zs_iret (pc := 54) t271_54 mr271 (by decide) (hQ _ (by decide) (by decide))
  · refine zs_icmp_eqF (pc := 9) t271_9 rfl rfl (by omega) ?_
    refine zs_aload_n (pc := 12) t271_12 rfl ?_
    refine zs_iload_n (pc := 13) t271_13 rfl ?_
    refine zs_invV (pc := 14) (k := 336) (as' := [.int (zI M 337 (30 + 4 * w4n))]) (st := []) t271_14 mf273 rfl rfl (Or.inl ⟨by decide, (zk1 (hs.k fk_zMm_336))⟩) ⟨by decide, by decide, Nat.le_of_ble_eq_true rfl, Nat.le_of_ble_eq_true rfl⟩ (zs_in (by decide) mf273 (Nat.le_of_ble_eq_true rfl) ?_) (fun _ _ q => q)
    show zGo X l 0 0 0 273 0 [(0, .ref 336), (1, .int (zI M 337 (30 + 4 * w4n)))] [] M _
    refine zs_aload_n (pc := 0) t273_0 rfl ?_
    refine zs_get (pc := 1) t273_1 (by decide) (zk1 (hs.k fk_zMm_336)) (hs.p rfl fv_zMm_336_0) ?_
    refine zs_bipush (pc := 4) t273_4 (v := 14) (by decide) ?_
    refine zs_iconst (pc := 6) t273_6 (v := 2) (by decide) ?_
    refine zs_iload_n (pc := 7) t273_7 rfl ?_
    obtain ⟨w7v, w7⟩ : ∃ v, (2 : Int32) * (zI M 337 (30 + 4 * w4n)) = v := ⟨_, rfl⟩
    have w7g : w7v.toInt = 2 * (zI M 337 (30 + 4 * w4n)).toInt := by rw [← w7]; exact zmulc li2 rfl (by omega) (by omega)
    refine zs_imul (pc := 8) t273_8 (c := w7v) w7 ?_
    obtain ⟨w8v, w8e, w8⟩ := ziadd (a := (14 : Int32)) (b := w7v) li14 w7g (by omega) (by omega)
    refine zs_iadd (pc := 9) t273_9 (c := w8v) w8e ?_
    refine zs_iconst (pc := 10) t273_10 (v := 1) (by decide) ?_
    obtain ⟨w9v, w9e, w9⟩ := ziadd (a := w8v) (b := (1 : Int32)) w8 li1 (by omega) (by omega)
    refine zs_iadd (pc := 11) t273_11 (c := w9v) w9e ?_
    obtain ⟨w10n, w10⟩ : ∃ n : Nat, (zI M 337 (30 + 4 * w4n)).toInt = (n : Int) := ⟨((zI M 337 (30 + 4 * w4n)).toInt).toNat, by omega⟩
    have w11 := zrg (zI M 337 (15 + 2 * w10n))
    refine zs_iald (pc := 12) t273_12 (j := (15 + 2 * w10n)) (by decide) (zk1 (hs.k fk_zMm_337)) (show w9v.toInt = (((15 + 2 * w10n) : Nat) : Int) by omega) (zk2 (hs.k fk_zMm_337) (by omega)) rfl ?_
    refine zs_iconst (pc := 13) t273_13 (v := 1) (by decide) ?_
    by_cases w12 : (zI M 337 (15 + 2 * w10n)).toInt ≠ 1
    · refine zs_icmp_neT (pc := 14) t273_14 rfl li1 (by omega) ?_
      refine zs_iconst (pc := 21) t273_21 (v := 0) (by decide) ?_
      refine zs_iret (pc := 22) t273_22 mr273 (by decide) ?_
      show zGo X l 1 0 0 271 17 [(3, .int (zI M 337 (30 + 4 * w4n))), (0, .ref 336), (1, .int a), (2, .int b)] [.int (0 : Int32)] M _
      refine zs_if_eqT (pc := 17) t271_17 li0 (by decide) ?_
      refine zs_iconst (pc := 53) t271_53 (v := 0) (by decide) ?_
      exact zs_iret (pc := 54) t271_54 mr271 (by decide) (hQ _ (by decide) (by decide))
    · refine zs_icmp_neF (pc := 14) t273_14 rfl li1 (by omega) ?_
      refine zs_iconst (pc := 17) t273_17 (v := 1) (by decide) ?_
      refine zs_goto (pc := 18) t273_18 ?_
      refine zs_iret (pc := 22) t273_22 mr273 (by decide) ?_
      show zGo X l 1 0 0 271 17 [(3, .int (zI M 337 (30 + 4 * w4n))), (0, .ref 336), (1, .int a), (2, .int b)] [.int (1 : Int32)] M _
      refine zs_if_eqF (pc := 17) t271_17 li1 (by decide) ?_
      refine zs_aload_n (pc := 20) t271_20 rfl ?_
      refine zs_iload_n (pc := 21) t271_21 rfl ?_
      refine zs_iconst (pc := 22) t271_22 (v := 2) (by decide) ?_
      refine zs_invV (pc := 23) (k := 336) (as' := [.int a, .int (2 : Int32)]) (st := []) t271_23 mf272 rfl rfl (Or.inl ⟨by decide, (zk1 (hs.k fk_zMm_336))⟩) ⟨by decide, by decide, Nat.le_of_ble_eq_true rfl, Nat.le_of_ble_eq_true rfl⟩ (zs_in (by decide) mf272 (Nat.le_of_ble_eq_true rfl) ?_) (fun _ _ q => q)
      show zGo X l 0 0 0 272 0 [(0, .ref 336), (1, .int a), (2, .int (2 : Int32))] [] M _
      refine zs_aload_n (pc := 0) t272_0 rfl ?_
      refine zs_get (pc := 1) t272_1 (by decide) (zk1 (hs.k fk_zMm_336)) (hs.p rfl fv_zMm_336_0) ?_
      refine zs_bipush (pc := 4) t272_4 (v := 30) (by decide) ?_
      refine zs_iconst (pc := 6) t272_6 (v := 4) (by decide) ?_
      refine zs_iload_n (pc := 7) t272_7 rfl ?_
      obtain ⟨w13v, w13⟩ : ∃ v, (4 : Int32) * a = v := ⟨_, rfl⟩
      have w13g : w13v.toInt = 4 * a.toInt := by rw [← w13]; exact zmulc li4 rfl (by omega) (by omega)
      refine zs_imul (pc := 8) t272_8 (c := w13v) w13 ?_
      obtain ⟨w14v, w14e, w14⟩ := ziadd (a := (30 : Int32)) (b := w13v) li30 w13g (by omega) (by omega)
      refine zs_iadd (pc := 9) t272_9 (c := w14v) w14e ?_
      refine zs_iload_n (pc := 10) t272_10 rfl ?_
      obtain ⟨w15v, w15e, w15⟩ := ziadd (a := w14v) (b := (2 : Int32)) w14 li2 (by omega) (by omega)
      refine zs_iadd (pc := 11) t272_11 (c := w15v) w15e ?_
      have w16 := zrg (zI M 337 (32 + 4 * w4n))
      refine zs_iald (pc := 12) t272_12 (j := (32 + 4 * w4n)) (by decide) (zk1 (hs.k fk_zMm_337)) (show w15v.toInt = (((32 + 4 * w4n) : Nat) : Int) by omega) (zk2 (hs.k fk_zMm_337) (by omega)) rfl ?_
      refine zs_iret (pc := 13) t272_13 mr272 rfl ?_
      show zGo X l 1 0 0 271 26 [(3, .int (zI M 337 (30 + 4 * w4n))), (0, .ref 336), (1, .int a), (2, .int b)] [.int (zI M 337 (32 + 4 * w4n))] M _
      refine zs_i2l (pc := 26) t271_26 rfl ?_
      refine zs_aload_n (pc := 27) t271_27 rfl ?_
      refine zs_get (pc := 28) t271_28 (by decide) (zk1 (hs.k fk_zMm_336)) (hs.p rfl fv_zMm_336_0) ?_
      refine zs_bipush (pc := 31) t271_31 (v := 10) (by decide) ?_
      have w17 := ibA10 hI
      refine zs_iald (pc := 33) t271_33 (j := 10) (by decide) (zk1 (hs.k fk_zMm_337)) li10 (zk2 (hs.k fk_zMm_337) (by decide)) rfl ?_
      refine zs_i2l (pc := 34) t271_34 rfl ?_
      refine zs_aload_n (pc := 35) t271_35 rfl ?_
      refine zs_get (pc := 36) t271_36 (by decide) (zk1 (hs.k fk_zMm_336)) (hs.p rfl fv_zMm_336_0) ?_
      refine zs_bipush (pc := 39) t271_39 (v := 11) (by decide) ?_
      have w18 := ibA11 hI
      refine zs_iald (pc := 41) t271_41 (j := 11) (by decide) (zk1 (hs.k fk_zMm_337)) li11 (zk2 (hs.k fk_zMm_337) (by decide)) rfl ?_
      refine zs_i2l (pc := 42) t271_42 rfl ?_
      by_cases w19 : (zI M 337 10).toInt ≤ (zI M 337 (32 + 4 * w4n)).toInt ∧ (zI M 337 (32 + 4 * w4n)).toInt ≤ (zI M 337 11).toInt
      · refine zs_invS (pc := 43) (as := [.long (zI M 337 (32 + 4 * w4n)).toInt64, .long (zI M 337 10).toInt64, .long (zI M 337 11).toInt64]) (st := []) t271_43 (by decide) mf228 rfl rfl ⟨by decide, by decide, Nat.le_of_ble_eq_true rfl, Nat.le_of_ble_eq_true rfl⟩ (K228T (zi2l rfl) (zi2l rfl) (zi2l rfl) (by omega) ?_) (fun _ _ q => q)
        show zGo X l 1 0 0 271 46 [(3, .int (zI M 337 (30 + 4 * w4n))), (0, .ref 336), (1, .int a), (2, .int b)] [.int (1 : Int32)] M _
        refine zs_if_eqF (pc := 46) t271_46 li1 (by decide) ?_
        refine zs_iconst (pc := 49) t271_49 (v := 1) (by decide) ?_
        refine zs_goto (pc := 50) t271_50 ?_
        exact zs_iret (pc := 54) t271_54 mr271 (by decide) (hQ _ (by decide) (by decide))
      · refine zs_invS (pc := 43) (as := [.long (zI M 337 (32 + 4 * w4n)).toInt64, .long (zI M 337 10).toInt64, .long (zI M 337 11).toInt64]) (st := []) t271_43 (by decide) mf228 rfl rfl ⟨by decide, by decide, Nat.le_of_ble_eq_true rfl, Nat.le_of_ble_eq_true rfl⟩ (K228F (zi2l rfl) (zi2l rfl) (zi2l rfl) (by omega) ?_) (fun _ _ q => q)
        show zGo X l 1 0 0 271 46 [(3, .int (zI M 337 (30 + 4 * w4n))), (0, .ref 336), (1, .int a), (2, .int b)] [.int (0 : Int32)] M _
        refine zs_if_eqT (pc := 46) t271_46 li0 (by decide) ?_
        refine zs_iconst (pc := 53) t271_53 (v := 0) (by decide) ?_
        exact zs_iret (pc := 54) t271_54 mr271 (by decide) (hQ _ (by decide) (by decide))
theorem K276 {X : zX} {l : Launch} {M : zM} {Q : Option Value → zM → Prop} {a : Int32} (hs : zSk zMm M) (hI : zIv mLo mHi M) (ha : 0 ≤ a.toInt ∧ a.toInt ≤ 59) (hQ : ∀ v : Int32, 0 ≤ v.toInt → v.toInt ≤ 1 → Q (some (.int v)) M) : zCall X l 0 0 0 276 [.ref 336, .int a] M Q := by
  have ga := zrg a
  refine zs_in (by decide) mf276 (Nat.le_of_ble_eq_true rfl) ?_
  show zGo X l 0 0 0 276 0 [(0, .ref 336), (1, .int a)] [] M _
  refine zs_iconst (pc := 0) t276_0 (v := 0) (by decide) ?_
  refine zs_istore_n (pc := 1) t276_1 (ls' := [(2, .int (0 : Int32)), (0, .ref 336), (1, .int a)]) (zml mf276 (by decide)) rfl ?_
  have w1L : ∀ (m : Nat) (w1x2 : Int32), (0 ≤ w1x2.toInt ∧ w1x2.toInt ≤ 60) → 60 - w1x2.toInt ≤ (m : Int) → zGo X l 0 0 0 276 2 [(0, .ref 336), (1, .int a), (2, .int w1x2)] [] M Q := by
    intro m
    induction m using Nat.strongRecOn with
    | ind w1m w1ih =>
      intro w1x2 w1b2 w1q
      refine zs_iload_n (pc := 2) t276_2 rfl ?_
      refine zs_iload_n (pc := 3) t276_3 rfl ?_
      by_cases w2 : a.toInt ≤ w1x2.toInt
      · refine zs_icmp_geT (pc := 4) t276_4 rfl rfl (by omega) ?_
        refine zs_iconst (pc := 39) t276_39 (v := 1) (by decide) ?_
        exact zs_iret (pc := 40) t276_40 mr276 (by decide) (hQ _ (by decide) (by decide))
      · refine zs_icmp_geF (pc := 4) t276_4 rfl rfl (by omega) ?_
        refine zs_aload_n (pc := 7) t276_7 rfl ?_
        refine zs_get (pc := 8) t276_8 (by decide) (zk1 (hs.k fk_zMm_336)) (hs.p rfl fv_zMm_336_16) ?_
        refine zs_iload_n (pc := 11) t276_11 rfl ?_
        obtain ⟨w3n, w3⟩ : ∃ n : Nat, w1x2.toInt = (n : Int) := ⟨(w1x2.toInt).toNat, by omega⟩
        have w4 := ib343 hI w3n
        refine zs_bald (pc := 12) t276_12 (j := w3n) (Or.inr (zk1 (hs.k fk_zMm_343))) (show w1x2.toInt = ((w3n : Nat) : Int) by omega) (zk2 (hs.k fk_zMm_343) (by omega)) rfl ?_
        by_cases w5 : (zI M 343 w3n).toInt = 0
        · refine zs_if_eqT (pc := 13) t276_13 rfl (by omega) ?_
          obtain ⟨w6v, w6e, w6⟩ := ziadd (a := w1x2) (b := Int32.ofInt 1) rfl (show (Int32.ofInt 1).toInt = 1 by decide) (by omega) (by omega)
          refine zs_iinc (pc := 33) t276_33 (ls' := [(2, .int w6v), (0, .ref 336), (1, .int a)]) (zml mf276 (by decide)) rfl (c := w6v) w6e rfl ?_
          refine zs_goto (pc := 36) t276_36 ?_
          refine zGo.locals (ls' := [(0, .ref 336), (1, .int a), (2, .int w6v)]) (by simp) ?_
          have w7 := w6
          exact w1ih (w1m - 1) (by omega) w6v ⟨by omega, by omega⟩ (by omega)
        · refine zs_if_eqF (pc := 13) t276_13 rfl (by omega) ?_
          refine zs_aload_n (pc := 16) t276_16 rfl ?_
          refine zs_get (pc := 17) t276_17 (by decide) (zk1 (hs.k fk_zMm_336)) (hs.p rfl fv_zMm_336_17) ?_
          refine zs_iload_n (pc := 20) t276_20 rfl ?_
          have w8 := zrg (zI M 344 w3n)
          refine zs_iald (pc := 21) t276_21 (j := w3n) (by decide) (zk1 (hs.k fk_zMm_344)) (show w1x2.toInt = ((w3n : Nat) : Int) by omega) (zk2 (hs.k fk_zMm_344) (by omega)) rfl ?_
          refine zs_aload_n (pc := 22) t276_22 rfl ?_
          refine zs_get (pc := 23) t276_23 (by decide) (zk1 (hs.k fk_zMm_336)) (hs.p rfl fv_zMm_336_17) ?_
          refine zs_iload_n (pc := 26) t276_26 rfl ?_
          obtain ⟨w9n, w9⟩ : ∃ n : Nat, a.toInt = (n : Int) := ⟨(a.toInt).toNat, by omega⟩
          have w10 := zrg (zI M 344 w9n)
          refine zs_iald (pc := 27) t276_27 (j := w9n) (by decide) (zk1 (hs.k fk_zMm_344)) (show a.toInt = ((w9n : Nat) : Int) by omega) (zk2 (hs.k fk_zMm_344) (by omega)) rfl ?_
          by_cases w11 : (zI M 344 w3n).toInt ≠ (zI M 344 w9n).toInt
          · refine zs_icmp_neT (pc := 28) t276_28 rfl rfl (by omega) ?_
            obtain ⟨w12v, w12e, w12⟩ := ziadd (a := w1x2) (b := Int32.ofInt 1) rfl (show (Int32.ofInt 1).toInt = 1 by decide) (by omega) (by omega)
            refine zs_iinc (pc := 33) t276_33 (ls' := [(2, .int w12v), (0, .ref 336), (1, .int a)]) (zml mf276 (by decide)) rfl (c := w12v) w12e rfl ?_
            refine zs_goto (pc := 36) t276_36 ?_
            refine zGo.locals (ls' := [(0, .ref 336), (1, .int a), (2, .int w12v)]) (by simp) ?_
            have w13 := w12
            exact w1ih (w1m - 1) (by omega) w12v ⟨by omega, by omega⟩ (by omega)
          · refine zs_icmp_neF (pc := 28) t276_28 rfl rfl (by omega) ?_
            refine zs_iconst (pc := 31) t276_31 (v := 0) (by decide) ?_
            exact zs_iret (pc := 32) t276_32 mr276 (by decide) (hQ _ (by decide) (by decide))
  refine zGo.locals (ls' := [(0, .ref 336), (1, .int a), (2, .int (0 : Int32))]) (by simp) ?_
  have w14 := li0
  exact w1L ((60 - 0 : Int).toNat) (0 : Int32) ⟨by decide, by decide⟩ (by omega)
theorem K278 {X : zX} {l : Launch} {M : zM} {Q : Option Value → zM → Prop} {a : Int32} (hs : zSk zMm M) (hI : zIv mLo mHi M) (hQ : ∀ v : Int32, Q (some (.int v)) M) : zCall X l 0 0 0 278 [.int a] M Q := by
  have ga := zrg a
  refine zs_in (by decide) mf278 (Nat.le_of_ble_eq_true rfl) ?_
  show zGo X l 0 0 0 278 0 [(0, .int a)] [] M _
  refine zs_iconst (pc := 0) t278_0 (v := 0) (by decide) ?_
  refine zs_istore_n (pc := 1) t278_1 (ls' := [(1, .int (0 : Int32)), (0, .int a)]) (zml mf278 (by decide)) rfl ?_
  refine zs_iconst (pc := 2) t278_2 (v := 0) (by decide) ?_
  refine zs_istore_n (pc := 3) t278_3 (ls' := [(2, .int (0 : Int32)), (1, .int (0 : Int32)), (0, .int a)]) (zml mf278 (by decide)) rfl ?_
  have w1L : ∀ (m : Nat) (w1x1 : Int32) (w1x2 : Int32), (0 ≤ w1x2.toInt ∧ w1x2.toInt ≤ 8) → 8 - w1x2.toInt ≤ (m : Int) → zGo X l 0 0 0 278 4 [(0, .int a), (1, .int w1x1), (2, .int w1x2)] [] M Q := by
    intro m
    induction m using Nat.strongRecOn with
    | ind w1m w1ih =>
      intro w1x1 w1x2 w1b2 w1q
      have w1g1 := zrg w1x1
      refine zs_iload_n (pc := 4) t278_4 rfl ?_
      refine zs_bipush (pc := 5) t278_5 (v := 8) (by decide) ?_
      by_cases w2 : 8 ≤ w1x2.toInt
      · refine zs_icmp_geT (pc := 7) t278_7 rfl li8 (by omega) ?_
        refine zs_iload_n (pc := 24) t278_24 rfl ?_
        exact zs_iret (pc := 25) t278_25 mr278 rfl (hQ _)
      · refine zs_icmp_geF (pc := 7) t278_7 rfl li8 (by omega) ?_
        refine zs_iload_n (pc := 10) t278_10 rfl ?_
        refine zs_iload_n (pc := 11) t278_11 rfl ?_
        refine zs_iload_n (pc := 12) t278_12 rfl ?_
        obtain ⟨w3v, w3⟩ : ∃ v, a >>> (w1x2 &&& 31) = v := ⟨_, rfl⟩
        have w3g := zrg w3v
        refine zs_ishr (pc := 13) t278_13 (c := w3v) w3 ?_
        refine zs_iconst (pc := 14) t278_14 (v := 1) (by decide) ?_
        obtain ⟨w4v, w4⟩ : ∃ v, w3v &&& (1 : Int32) = v := ⟨_, rfl⟩
        have w4g : 0 ≤ w4v.toInt ∧ w4v.toInt ≤ 1 := by rw [← w4]; exact zand li1 (by decide)
        refine zs_iand (pc := 15) t278_15 (c := w4v) w4 ?_
        obtain ⟨w5v, w5⟩ : ∃ v, v = w1x1 + w4v := ⟨_, rfl⟩
        have w5g := zrg w5v
        refine zs_iadd (pc := 16) t278_16 (c := w5v) w5.symm ?_
        refine zs_istore_n (pc := 17) t278_17 (ls' := [(1, .int w5v), (0, .int a), (2, .int w1x2)]) (zml mf278 (by decide)) rfl ?_
        obtain ⟨w6v, w6e, w6⟩ := ziadd (a := w1x2) (b := Int32.ofInt 1) rfl (show (Int32.ofInt 1).toInt = 1 by decide) (by omega) (by omega)
        refine zs_iinc (pc := 18) t278_18 (ls' := [(2, .int w6v), (1, .int w5v), (0, .int a)]) (zml mf278 (by decide)) rfl (c := w6v) w6e rfl ?_
        refine zs_goto (pc := 21) t278_21 ?_
        refine zGo.locals (ls' := [(0, .int a), (1, .int w5v), (2, .int w6v)]) (by simp) ?_
        have w7 := w6
        exact w1ih (w1m - 1) (by omega) w5v w6v ⟨by omega, by omega⟩ (by omega)
  refine zGo.locals (ls' := [(0, .int a), (1, .int (0 : Int32)), (2, .int (0 : Int32))]) (by simp) ?_
  have w8 := li0
  have w9 := li0
  exact w1L ((8 - 0 : Int).toNat) (0 : Int32) (0 : Int32) ⟨by decide, by decide⟩ (by omega)
theorem K279 {X : zX} {l : Launch} {M : zM} {Q : Option Value → zM → Prop} {a b c d e f g h : Int32} (hs : zSk zMm M) (hI : zIv mLo mHi M) (hQ : ∀ v : Int32, 0 ≤ v.toInt → v.toInt ≤ 1 → Q (some (.int v)) M) : zCall X l 1 0 0 279 [.int a, .int b, .int c, .int d, .int e, .int f, .int g, .int h] M Q := by
  have ga := zrg a
  have gb := zrg b
  have gc := zrg c
  have gd := zrg d
  have ge := zrg e
  have gf := zrg f
  have gg := zrg g
  have gh := zrg h
  refine zs_in (by decide) mf279 (Nat.le_of_ble_eq_true rfl) ?_
  show zGo X l 1 0 0 279 0 [(0, .int a), (1, .int b), (2, .int c), (3, .int d), (4, .int e), (5, .int f), (6, .int g), (7, .int h)] [] M _
  refine zs_iload_n (pc := 0) t279_0 rfl ?_
  refine zs_iload (pc := 1) t279_1 rfl ?_
  by_cases w1 : a.toInt = e.toInt
  · refine zs_icmp_eqT (pc := 3) t279_3 rfl rfl (by omega) ?_
    refine zs_iload_n (pc := 18) t279_18 rfl ?_
    refine zs_invS (pc := 19) (as := [.int b]) (st := []) t279_19 (by decide) mf280 rfl rfl ⟨by decide, by decide, Nat.le_of_ble_eq_true rfl, Nat.le_of_ble_eq_true rfl⟩ (zs_in (by decide) mf280 (Nat.le_of_ble_eq_true rfl) ?_) (fun _ _ q => q)
    show zGo X l 0 0 0 280 0 [(0, .int b)] [] M _
    refine zs_iload_n (pc := 0) t280_0 rfl ?_
    by_cases w2 : 0 ≤ b.toInt
    · refine zs_if_geT (pc := 1) t280_1 rfl (by omega) ?_
      refine zs_iload_n (pc := 9) t280_9 rfl ?_
      refine zs_iret (pc := 10) t280_10 mr280 rfl ?_
      show zGo X l 1 0 0 279 22 [(0, .int a), (1, .int b), (2, .int c), (3, .int d), (4, .int e), (5, .int f), (6, .int g), (7, .int h)] [.int b] M _
      refine zs_iload (pc := 22) t279_22 rfl ?_
      refine zs_invS (pc := 24) (as := [.int f]) (st := [.int b]) t279_24 (by decide) mf280 rfl rfl ⟨by decide, by decide, Nat.le_of_ble_eq_true rfl, Nat.le_of_ble_eq_true rfl⟩ (zs_in (by decide) mf280 (Nat.le_of_ble_eq_true rfl) ?_) (fun _ _ q => q)
      show zGo X l 0 0 0 280 0 [(0, .int f)] [] M _
      refine zs_iload_n (pc := 0) t280_0 rfl ?_
      by_cases w3 : 0 ≤ f.toInt
      · refine zs_if_geT (pc := 1) t280_1 rfl (by omega) ?_
        refine zs_iload_n (pc := 9) t280_9 rfl ?_
        refine zs_iret (pc := 10) t280_10 mr280 rfl ?_
        show zGo X l 1 0 0 279 27 [(0, .int a), (1, .int b), (2, .int c), (3, .int d), (4, .int e), (5, .int f), (6, .int g), (7, .int h)] [.int f, .int b] M _
        by_cases w4 : b.toInt = f.toInt
        · refine zs_icmp_eqT (pc := 27) t279_27 rfl rfl (by omega) ?_
          refine zs_iload_n (pc := 48) t279_48 rfl ?_
          refine zs_invS (pc := 49) (as := [.int c]) (st := []) t279_49 (by decide) mf280 rfl rfl ⟨by decide, by decide, Nat.le_of_ble_eq_true rfl, Nat.le_of_ble_eq_true rfl⟩ (zs_in (by decide) mf280 (Nat.le_of_ble_eq_true rfl) ?_) (fun _ _ q => q)
          show zGo X l 0 0 0 280 0 [(0, .int c)] [] M _
          refine zs_iload_n (pc := 0) t280_0 rfl ?_
          by_cases w5 : 0 ≤ c.toInt
          · refine zs_if_geT (pc := 1) t280_1 rfl (by omega) ?_
            refine zs_iload_n (pc := 9) t280_9 rfl ?_
            refine zs_iret (pc := 10) t280_10 mr280 rfl ?_
            show zGo X l 1 0 0 279 52 [(0, .int a), (1, .int b), (2, .int c), (3, .int d), (4, .int e), (5, .int f), (6, .int g), (7, .int h)] [.int c] M _
            refine zs_iload (pc := 52) t279_52 rfl ?_
            refine zs_invS (pc := 54) (as := [.int g]) (st := [.int c]) t279_54 (by decide) mf280 rfl rfl ⟨by decide, by decide, Nat.le_of_ble_eq_true rfl, Nat.le_of_ble_eq_true rfl⟩ (zs_in (by decide) mf280 (Nat.le_of_ble_eq_true rfl) ?_) (fun _ _ q => q)
            show zGo X l 0 0 0 280 0 [(0, .int g)] [] M _
            refine zs_iload_n (pc := 0) t280_0 rfl ?_
            by_cases w6 : 0 ≤ g.toInt
            · refine zs_if_geT (pc := 1) t280_1 rfl (by omega) ?_
              refine zs_iload_n (pc := 9) t280_9 rfl ?_
              refine zs_iret (pc := 10) t280_10 mr280 rfl ?_
              show zGo X l 1 0 0 279 57 [(0, .int a), (1, .int b), (2, .int c), (3, .int d), (4, .int e), (5, .int f), (6, .int g), (7, .int h)] [.int g, .int c] M _
              by_cases w7 : c.toInt = g.toInt
              · refine zs_icmp_eqT (pc := 57) t279_57 rfl rfl (by omega) ?_
                refine zs_iload_n (pc := 78) t279_78 rfl ?_
                refine zs_iload (pc := 79) t279_79 rfl ?_
                by_cases w8 : b.toInt = f.toInt
                · refine zs_icmp_eqT (pc := 81) t279_81 rfl rfl (by omega) ?_
                  refine zs_iload_n (pc := 96) t279_96 rfl ?_
                  refine zs_iload (pc := 97) t279_97 rfl ?_
                  by_cases w9 : c.toInt = g.toInt
                  · refine zs_icmp_eqT (pc := 99) t279_99 rfl rfl (by omega) ?_
                    refine zs_iload_n (pc := 116) t279_116 rfl ?_
                    refine zs_iload (pc := 117) t279_117 rfl ?_
                    by_cases w10 : h.toInt ≤ d.toInt
                    · refine zs_icmp_geT (pc := 119) t279_119 rfl rfl (by omega) ?_
                      refine zs_iconst (pc := 126) t279_126 (v := 0) (by decide) ?_
                      exact zs_iret (pc := 127) t279_127 mr279 (by decide) (hQ _ (by decide) (by decide))
                    · refine zs_icmp_geF (pc := 119) t279_119 rfl rfl (by omega) ?_
                      refine zs_iconst (pc := 122) t279_122 (v := 1) (by decide) ?_
                      refine zs_goto (pc := 123) t279_123 ?_
                      exact zs_iret (pc := 127) t279_127 mr279 (by decide) (hQ _ (by decide) (by decide))
                  · refine zs_icmp_eqF (pc := 99) t279_99 rfl rfl (by omega) ?_
                    refine zs_iload_n (pc := 102) t279_102 rfl ?_
                    refine zs_iload (pc := 103) t279_103 rfl ?_
                    by_cases w11 : g.toInt ≤ c.toInt
                    · refine zs_icmp_geT (pc := 105) t279_105 rfl rfl (by omega) ?_
                      refine zs_iconst (pc := 112) t279_112 (v := 0) (by decide) ?_
                      refine zs_goto (pc := 113) t279_113 ?_
                      exact zs_iret (pc := 127) t279_127 mr279 (by decide) (hQ _ (by decide) (by decide))
                    · refine zs_icmp_geF (pc := 105) t279_105 rfl rfl (by omega) ?_
                      refine zs_iconst (pc := 108) t279_108 (v := 1) (by decide) ?_
                      refine zs_goto (pc := 109) t279_109 ?_
                      exact zs_iret (pc := 127) t279_127 mr279 (by decide) (hQ _ (by decide) (by decide))
                · refine zs_icmp_eqF (pc := 81) t279_81 rfl rfl (by omega) ?_
                  refine zs_iload_n (pc := 84) t279_84 rfl ?_
                  refine zs_iload (pc := 85) t279_85 rfl ?_
                  by_cases w12 : f.toInt ≤ b.toInt
                  · refine zs_icmp_geT (pc := 87) t279_87 rfl rfl (by omega) ?_
                    refine zs_iconst (pc := 94) t279_94 (v := 0) (by decide) ?_
                    exact zs_iret (pc := 95) t279_95 mr279 (by decide) (hQ _ (by decide) (by decide))
                  · refine zs_icmp_geF (pc := 87) t279_87 rfl rfl (by omega) ?_
                    refine zs_iconst (pc := 90) t279_90 (v := 1) (by decide) ?_
                    refine zs_goto (pc := 91) t279_91 ?_
                    exact zs_iret (pc := 95) t279_95 mr279 (by decide) (hQ _ (by decide) (by decide))
              · refine zs_icmp_eqF (pc := 57) t279_57 rfl rfl (by omega) ?_
                refine zs_iload_n (pc := 60) t279_60 rfl ?_
                refine zs_invS (pc := 61) (as := [.int c]) (st := []) t279_61 (by decide) mf280 rfl rfl ⟨by decide, by decide, Nat.le_of_ble_eq_true rfl, Nat.le_of_ble_eq_true rfl⟩ (zs_in (by decide) mf280 (Nat.le_of_ble_eq_true rfl) ?_) (fun _ _ q => q)
                show zGo X l 0 0 0 280 0 [(0, .int c)] [] M _
                refine zs_iload_n (pc := 0) t280_0 rfl ?_
                refine zs_if_geT (pc := 1) t280_1 rfl (by omega) ?_
                refine zs_iload_n (pc := 9) t280_9 rfl ?_
                refine zs_iret (pc := 10) t280_10 mr280 rfl ?_
                show zGo X l 1 0 0 279 64 [(0, .int a), (1, .int b), (2, .int c), (3, .int d), (4, .int e), (5, .int f), (6, .int g), (7, .int h)] [.int c] M _
                refine zs_iload (pc := 64) t279_64 rfl ?_
                refine zs_invS (pc := 66) (as := [.int g]) (st := [.int c]) t279_66 (by decide) mf280 rfl rfl ⟨by decide, by decide, Nat.le_of_ble_eq_true rfl, Nat.le_of_ble_eq_true rfl⟩ (zs_in (by decide) mf280 (Nat.le_of_ble_eq_true rfl) ?_) (fun _ _ q => q)
                show zGo X l 0 0 0 280 0 [(0, .int g)] [] M _
                refine zs_iload_n (pc := 0) t280_0 rfl ?_
                refine zs_if_geT (pc := 1) t280_1 rfl (by omega) ?_
                refine zs_iload_n (pc := 9) t280_9 rfl ?_
                refine zs_iret (pc := 10) t280_10 mr280 rfl ?_
                show zGo X l 1 0 0 279 69 [(0, .int a), (1, .int b), (2, .int c), (3, .int d), (4, .int e), (5, .int f), (6, .int g), (7, .int h)] [.int g, .int c] M _
                by_cases w13 : g.toInt ≤ c.toInt
                · refine zs_icmp_geT (pc := 69) t279_69 rfl rfl (by omega) ?_
                  refine zs_iconst (pc := 76) t279_76 (v := 0) (by decide) ?_
                  exact zs_iret (pc := 77) t279_77 mr279 (by decide) (hQ _ (by decide) (by decide))
                · refine zs_icmp_geF (pc := 69) t279_69 rfl rfl (by omega) ?_
                  refine zs_iconst (pc := 72) t279_72 (v := 1) (by decide) ?_
                  refine zs_goto (pc := 73) t279_73 ?_
                  exact zs_iret (pc := 77) t279_77 mr279 (by decide) (hQ _ (by decide) (by decide))
            · refine zs_if_geF (pc := 1) t280_1 rfl (by omega) ?_
              refine zs_iload_n (pc := 4) t280_4 rfl ?_
              obtain ⟨w14v, w14e⟩ : ∃ v, -g = v := ⟨_, rfl⟩
              have w14 := zrg w14v
              refine zs_ineg (pc := 5) t280_5 (c := w14v) w14e ?_
              refine zs_goto (pc := 6) t280_6 ?_
              refine zs_iret (pc := 10) t280_10 mr280 rfl ?_
              show zGo X l 1 0 0 279 57 [(0, .int a), (1, .int b), (2, .int c), (3, .int d), (4, .int e), (5, .int f), (6, .int g), (7, .int h)] [.int w14v, .int c] M _
              by_cases w15 : c.toInt = w14v.toInt
              · refine zs_icmp_eqT (pc := 57) t279_57 rfl rfl (by omega) ?_
                refine zs_iload_n (pc := 78) t279_78 rfl ?_
                refine zs_iload (pc := 79) t279_79 rfl ?_
                by_cases w16 : b.toInt = f.toInt
                · refine zs_icmp_eqT (pc := 81) t279_81 rfl rfl (by omega) ?_
                  refine zs_iload_n (pc := 96) t279_96 rfl ?_
                  refine zs_iload (pc := 97) t279_97 rfl ?_
                  refine zs_icmp_eqF (pc := 99) t279_99 rfl rfl (by omega) ?_
                  refine zs_iload_n (pc := 102) t279_102 rfl ?_
                  refine zs_iload (pc := 103) t279_103 rfl ?_
                  refine zs_icmp_geT (pc := 105) t279_105 rfl rfl (by omega) ?_
                  refine zs_iconst (pc := 112) t279_112 (v := 0) (by decide) ?_
                  refine zs_goto (pc := 113) t279_113 ?_
                  exact zs_iret (pc := 127) t279_127 mr279 (by decide) (hQ _ (by decide) (by decide))
                · refine zs_icmp_eqF (pc := 81) t279_81 rfl rfl (by omega) ?_
                  refine zs_iload_n (pc := 84) t279_84 rfl ?_
                  refine zs_iload (pc := 85) t279_85 rfl ?_
                  by_cases w17 : f.toInt ≤ b.toInt
                  · refine zs_icmp_geT (pc := 87) t279_87 rfl rfl (by omega) ?_
                    refine zs_iconst (pc := 94) t279_94 (v := 0) (by decide) ?_
                    exact zs_iret (pc := 95) t279_95 mr279 (by decide) (hQ _ (by decide) (by decide))
                  · refine zs_icmp_geF (pc := 87) t279_87 rfl rfl (by omega) ?_
                    refine zs_iconst (pc := 90) t279_90 (v := 1) (by decide) ?_
                    refine zs_goto (pc := 91) t279_91 ?_
                    exact zs_iret (pc := 95) t279_95 mr279 (by decide) (hQ _ (by decide) (by decide))
              · refine zs_icmp_eqF (pc := 57) t279_57 rfl rfl (by omega) ?_
                refine zs_iload_n (pc := 60) t279_60 rfl ?_
                refine zs_invS (pc := 61) (as := [.int c]) (st := []) t279_61 (by decide) mf280 rfl rfl ⟨by decide, by decide, Nat.le_of_ble_eq_true rfl, Nat.le_of_ble_eq_true rfl⟩ (zs_in (by decide) mf280 (Nat.le_of_ble_eq_true rfl) ?_) (fun _ _ q => q)
                show zGo X l 0 0 0 280 0 [(0, .int c)] [] M _
                refine zs_iload_n (pc := 0) t280_0 rfl ?_
                refine zs_if_geT (pc := 1) t280_1 rfl (by omega) ?_
                refine zs_iload_n (pc := 9) t280_9 rfl ?_
                refine zs_iret (pc := 10) t280_10 mr280 rfl ?_
                show zGo X l 1 0 0 279 64 [(0, .int a), (1, .int b), (2, .int c), (3, .int d), (4, .int e), (5, .int f), (6, .int g), (7, .int h)] [.int c] M _
                refine zs_iload (pc := 64) t279_64 rfl ?_
                refine zs_invS (pc := 66) (as := [.int g]) (st := [.int c]) t279_66 (by decide) mf280 rfl rfl ⟨by decide, by decide, Nat.le_of_ble_eq_true rfl, Nat.le_of_ble_eq_true rfl⟩ (zs_in (by decide) mf280 (Nat.le_of_ble_eq_true rfl) ?_) (fun _ _ q => q)
                show zGo X l 0 0 0 280 0 [(0, .int g)] [] M _
                refine zs_iload_n (pc := 0) t280_0 rfl ?_
                refine zs_if_geF (pc := 1) t280_1 rfl (by omega) ?_
                refine zs_iload_n (pc := 4) t280_4 rfl ?_
                obtain ⟨w18v, w18e⟩ : ∃ v, -g = v := ⟨_, rfl⟩
                have w18 := zrg w18v
                refine zs_ineg (pc := 5) t280_5 (c := w18v) w18e ?_
                refine zs_goto (pc := 6) t280_6 ?_
                refine zs_iret (pc := 10) t280_10 mr280 rfl ?_
                show zGo X l 1 0 0 279 69 [(0, .int a), (1, .int b), (2, .int c), (3, .int d), (4, .int e), (5, .int f), (6, .int g), (7, .int h)] [.int w18v, .int c] M _
                by_cases w19 : w18v.toInt ≤ c.toInt
                · refine zs_icmp_geT (pc := 69) t279_69 rfl rfl (by omega) ?_
                  refine zs_iconst (pc := 76) t279_76 (v := 0) (by decide) ?_
                  exact zs_iret (pc := 77) t279_77 mr279 (by decide) (hQ _ (by decide) (by decide))
                · refine zs_icmp_geF (pc := 69) t279_69 rfl rfl (by omega) ?_
                  refine zs_iconst (pc := 72) t279_72 (v := 1) (by decide) ?_
                  refine zs_goto (pc := 73) t279_73 ?_
                  exact zs_iret (pc := 77) t279_77 mr279 (by decide) (hQ _ (by decide) (by decide))
          · refine zs_if_geF (pc := 1) t280_1 rfl (by omega) ?_
            refine zs_iload_n (pc := 4) t280_4 rfl ?_
            obtain ⟨w20v, w20e⟩ : ∃ v, -c = v := ⟨_, rfl⟩
            have w20 := zrg w20v
            refine zs_ineg (pc := 5) t280_5 (c := w20v) w20e ?_
            refine zs_goto (pc := 6) t280_6 ?_
            refine zs_iret (pc := 10) t280_10 mr280 rfl ?_
            show zGo X l 1 0 0 279 52 [(0, .int a), (1, .int b), (2, .int c), (3, .int d), (4, .int e), (5, .int f), (6, .int g), (7, .int h)] [.int w20v] M _
            refine zs_iload (pc := 52) t279_52 rfl ?_
            refine zs_invS (pc := 54) (as := [.int g]) (st := [.int w20v]) t279_54 (by decide) mf280 rfl rfl ⟨by decide, by decide, Nat.le_of_ble_eq_true rfl, Nat.le_of_ble_eq_true rfl⟩ (zs_in (by decide) mf280 (Nat.le_of_ble_eq_true rfl) ?_) (fun _ _ q => q)
            show zGo X l 0 0 0 280 0 [(0, .int g)] [] M _
            refine zs_iload_n (pc := 0) t280_0 rfl ?_
            by_cases w21 : 0 ≤ g.toInt
            · refine zs_if_geT (pc := 1) t280_1 rfl (by omega) ?_
              refine zs_iload_n (pc := 9) t280_9 rfl ?_
              refine zs_iret (pc := 10) t280_10 mr280 rfl ?_
              show zGo X l 1 0 0 279 57 [(0, .int a), (1, .int b), (2, .int c), (3, .int d), (4, .int e), (5, .int f), (6, .int g), (7, .int h)] [.int g, .int w20v] M _
              by_cases w22 : w20v.toInt = g.toInt
              · refine zs_icmp_eqT (pc := 57) t279_57 rfl rfl (by omega) ?_
                refine zs_iload_n (pc := 78) t279_78 rfl ?_
                refine zs_iload (pc := 79) t279_79 rfl ?_
                by_cases w23 : b.toInt = f.toInt
                · refine zs_icmp_eqT (pc := 81) t279_81 rfl rfl (by omega) ?_
                  refine zs_iload_n (pc := 96) t279_96 rfl ?_
                  refine zs_iload (pc := 97) t279_97 rfl ?_
                  refine zs_icmp_eqF (pc := 99) t279_99 rfl rfl (by omega) ?_
                  refine zs_iload_n (pc := 102) t279_102 rfl ?_
                  refine zs_iload (pc := 103) t279_103 rfl ?_
                  refine zs_icmp_geF (pc := 105) t279_105 rfl rfl (by omega) ?_
                  refine zs_iconst (pc := 108) t279_108 (v := 1) (by decide) ?_
                  refine zs_goto (pc := 109) t279_109 ?_
                  exact zs_iret (pc := 127) t279_127 mr279 (by decide) (hQ _ (by decide) (by decide))
                · refine zs_icmp_eqF (pc := 81) t279_81 rfl rfl (by omega) ?_
                  refine zs_iload_n (pc := 84) t279_84 rfl ?_
                  refine zs_iload (pc := 85) t279_85 rfl ?_
                  by_cases w24 : f.toInt ≤ b.toInt
                  · refine zs_icmp_geT (pc := 87) t279_87 rfl rfl (by omega) ?_
                    refine zs_iconst (pc := 94) t279_94 (v := 0) (by decide) ?_
                    exact zs_iret (pc := 95) t279_95 mr279 (by decide) (hQ _ (by decide) (by decide))
                  · refine zs_icmp_geF (pc := 87) t279_87 rfl rfl (by omega) ?_
                    refine zs_iconst (pc := 90) t279_90 (v := 1) (by decide) ?_
                    refine zs_goto (pc := 91) t279_91 ?_
                    exact zs_iret (pc := 95) t279_95 mr279 (by decide) (hQ _ (by decide) (by decide))
              · refine zs_icmp_eqF (pc := 57) t279_57 rfl rfl (by omega) ?_
                refine zs_iload_n (pc := 60) t279_60 rfl ?_
                refine zs_invS (pc := 61) (as := [.int c]) (st := []) t279_61 (by decide) mf280 rfl rfl ⟨by decide, by decide, Nat.le_of_ble_eq_true rfl, Nat.le_of_ble_eq_true rfl⟩ (zs_in (by decide) mf280 (Nat.le_of_ble_eq_true rfl) ?_) (fun _ _ q => q)
                show zGo X l 0 0 0 280 0 [(0, .int c)] [] M _
                refine zs_iload_n (pc := 0) t280_0 rfl ?_
                refine zs_if_geF (pc := 1) t280_1 rfl (by omega) ?_
                refine zs_iload_n (pc := 4) t280_4 rfl ?_
                obtain ⟨w25v, w25e⟩ : ∃ v, -c = v := ⟨_, rfl⟩
                have w25 := zrg w25v
                refine zs_ineg (pc := 5) t280_5 (c := w25v) w25e ?_
                refine zs_goto (pc := 6) t280_6 ?_
                refine zs_iret (pc := 10) t280_10 mr280 rfl ?_
                show zGo X l 1 0 0 279 64 [(0, .int a), (1, .int b), (2, .int c), (3, .int d), (4, .int e), (5, .int f), (6, .int g), (7, .int h)] [.int w25v] M _
                refine zs_iload (pc := 64) t279_64 rfl ?_
                refine zs_invS (pc := 66) (as := [.int g]) (st := [.int w25v]) t279_66 (by decide) mf280 rfl rfl ⟨by decide, by decide, Nat.le_of_ble_eq_true rfl, Nat.le_of_ble_eq_true rfl⟩ (zs_in (by decide) mf280 (Nat.le_of_ble_eq_true rfl) ?_) (fun _ _ q => q)
                show zGo X l 0 0 0 280 0 [(0, .int g)] [] M _
                refine zs_iload_n (pc := 0) t280_0 rfl ?_
                refine zs_if_geT (pc := 1) t280_1 rfl (by omega) ?_
                refine zs_iload_n (pc := 9) t280_9 rfl ?_
                refine zs_iret (pc := 10) t280_10 mr280 rfl ?_
                show zGo X l 1 0 0 279 69 [(0, .int a), (1, .int b), (2, .int c), (3, .int d), (4, .int e), (5, .int f), (6, .int g), (7, .int h)] [.int g, .int w25v] M _
                by_cases w26 : g.toInt ≤ w25v.toInt
                · refine zs_icmp_geT (pc := 69) t279_69 rfl rfl (by omega) ?_
                  refine zs_iconst (pc := 76) t279_76 (v := 0) (by decide) ?_
                  exact zs_iret (pc := 77) t279_77 mr279 (by decide) (hQ _ (by decide) (by decide))
                · refine zs_icmp_geF (pc := 69) t279_69 rfl rfl (by omega) ?_
                  refine zs_iconst (pc := 72) t279_72 (v := 1) (by decide) ?_
                  refine zs_goto (pc := 73) t279_73 ?_
                  exact zs_iret (pc := 77) t279_77 mr279 (by decide) (hQ _ (by decide) (by decide))
            · refine zs_if_geF (pc := 1) t280_1 rfl (by omega) ?_
              refine zs_iload_n (pc := 4) t280_4 rfl ?_
              obtain ⟨w27v, w27e⟩ : ∃ v, -g = v := ⟨_, rfl⟩
              have w27 := zrg w27v
              refine zs_ineg (pc := 5) t280_5 (c := w27v) w27e ?_
              refine zs_goto (pc := 6) t280_6 ?_
              refine zs_iret (pc := 10) t280_10 mr280 rfl ?_
              show zGo X l 1 0 0 279 57 [(0, .int a), (1, .int b), (2, .int c), (3, .int d), (4, .int e), (5, .int f), (6, .int g), (7, .int h)] [.int w27v, .int w20v] M _
              by_cases w28 : w20v.toInt = w27v.toInt
              · refine zs_icmp_eqT (pc := 57) t279_57 rfl rfl (by omega) ?_
                refine zs_iload_n (pc := 78) t279_78 rfl ?_
                refine zs_iload (pc := 79) t279_79 rfl ?_
                by_cases w29 : b.toInt = f.toInt
                · refine zs_icmp_eqT (pc := 81) t279_81 rfl rfl (by omega) ?_
                  refine zs_iload_n (pc := 96) t279_96 rfl ?_
                  refine zs_iload (pc := 97) t279_97 rfl ?_
                  by_cases w30 : c.toInt = g.toInt
                  · refine zs_icmp_eqT (pc := 99) t279_99 rfl rfl (by omega) ?_
                    refine zs_iload_n (pc := 116) t279_116 rfl ?_
                    refine zs_iload (pc := 117) t279_117 rfl ?_
                    by_cases w31 : h.toInt ≤ d.toInt
                    · refine zs_icmp_geT (pc := 119) t279_119 rfl rfl (by omega) ?_
                      refine zs_iconst (pc := 126) t279_126 (v := 0) (by decide) ?_
                      exact zs_iret (pc := 127) t279_127 mr279 (by decide) (hQ _ (by decide) (by decide))
                    · refine zs_icmp_geF (pc := 119) t279_119 rfl rfl (by omega) ?_
                      refine zs_iconst (pc := 122) t279_122 (v := 1) (by decide) ?_
                      refine zs_goto (pc := 123) t279_123 ?_
                      exact zs_iret (pc := 127) t279_127 mr279 (by decide) (hQ _ (by decide) (by decide))
                  · refine zs_icmp_eqF (pc := 99) t279_99 rfl rfl (by omega) ?_
                    refine zs_iload_n (pc := 102) t279_102 rfl ?_
                    refine zs_iload (pc := 103) t279_103 rfl ?_
                    by_cases w32 : g.toInt ≤ c.toInt
                    · refine zs_icmp_geT (pc := 105) t279_105 rfl rfl (by omega) ?_
                      refine zs_iconst (pc := 112) t279_112 (v := 0) (by decide) ?_
                      refine zs_goto (pc := 113) t279_113 ?_
                      exact zs_iret (pc := 127) t279_127 mr279 (by decide) (hQ _ (by decide) (by decide))
                    · refine zs_icmp_geF (pc := 105) t279_105 rfl rfl (by omega) ?_
                      refine zs_iconst (pc := 108) t279_108 (v := 1) (by decide) ?_
                      refine zs_goto (pc := 109) t279_109 ?_
                      exact zs_iret (pc := 127) t279_127 mr279 (by decide) (hQ _ (by decide) (by decide))
                · refine zs_icmp_eqF (pc := 81) t279_81 rfl rfl (by omega) ?_
                  refine zs_iload_n (pc := 84) t279_84 rfl ?_
                  refine zs_iload (pc := 85) t279_85 rfl ?_
                  by_cases w33 : f.toInt ≤ b.toInt
                  · refine zs_icmp_geT (pc := 87) t279_87 rfl rfl (by omega) ?_
                    refine zs_iconst (pc := 94) t279_94 (v := 0) (by decide) ?_
                    exact zs_iret (pc := 95) t279_95 mr279 (by decide) (hQ _ (by decide) (by decide))
                  · refine zs_icmp_geF (pc := 87) t279_87 rfl rfl (by omega) ?_
                    refine zs_iconst (pc := 90) t279_90 (v := 1) (by decide) ?_
                    refine zs_goto (pc := 91) t279_91 ?_
                    exact zs_iret (pc := 95) t279_95 mr279 (by decide) (hQ _ (by decide) (by decide))
              · refine zs_icmp_eqF (pc := 57) t279_57 rfl rfl (by omega) ?_
                refine zs_iload_n (pc := 60) t279_60 rfl ?_
                refine zs_invS (pc := 61) (as := [.int c]) (st := []) t279_61 (by decide) mf280 rfl rfl ⟨by decide, by decide, Nat.le_of_ble_eq_true rfl, Nat.le_of_ble_eq_true rfl⟩ (zs_in (by decide) mf280 (Nat.le_of_ble_eq_true rfl) ?_) (fun _ _ q => q)
                show zGo X l 0 0 0 280 0 [(0, .int c)] [] M _
                refine zs_iload_n (pc := 0) t280_0 rfl ?_
                refine zs_if_geF (pc := 1) t280_1 rfl (by omega) ?_
                refine zs_iload_n (pc := 4) t280_4 rfl ?_
                obtain ⟨w34v, w34e⟩ : ∃ v, -c = v := ⟨_, rfl⟩
                have w34 := zrg w34v
                refine zs_ineg (pc := 5) t280_5 (c := w34v) w34e ?_
                refine zs_goto (pc := 6) t280_6 ?_
                refine zs_iret (pc := 10) t280_10 mr280 rfl ?_
                show zGo X l 1 0 0 279 64 [(0, .int a), (1, .int b), (2, .int c), (3, .int d), (4, .int e), (5, .int f), (6, .int g), (7, .int h)] [.int w34v] M _
                refine zs_iload (pc := 64) t279_64 rfl ?_
                refine zs_invS (pc := 66) (as := [.int g]) (st := [.int w34v]) t279_66 (by decide) mf280 rfl rfl ⟨by decide, by decide, Nat.le_of_ble_eq_true rfl, Nat.le_of_ble_eq_true rfl⟩ (zs_in (by decide) mf280 (Nat.le_of_ble_eq_true rfl) ?_) (fun _ _ q => q)
                show zGo X l 0 0 0 280 0 [(0, .int g)] [] M _
                refine zs_iload_n (pc := 0) t280_0 rfl ?_
                refine zs_if_geF (pc := 1) t280_1 rfl (by omega) ?_
                refine zs_iload_n (pc := 4) t280_4 rfl ?_
                obtain ⟨w35v, w35e⟩ : ∃ v, -g = v := ⟨_, rfl⟩
                have w35 := zrg w35v
                refine zs_ineg (pc := 5) t280_5 (c := w35v) w35e ?_
                refine zs_goto (pc := 6) t280_6 ?_
                refine zs_iret (pc := 10) t280_10 mr280 rfl ?_
                show zGo X l 1 0 0 279 69 [(0, .int a), (1, .int b), (2, .int c), (3, .int d), (4, .int e), (5, .int f), (6, .int g), (7, .int h)] [.int w35v, .int w34v] M _
                by_cases w36 : w35v.toInt ≤ w34v.toInt
                · refine zs_icmp_geT (pc := 69) t279_69 rfl rfl (by omega) ?_
                  refine zs_iconst (pc := 76) t279_76 (v := 0) (by decide) ?_
                  exact zs_iret (pc := 77) t279_77 mr279 (by decide) (hQ _ (by decide) (by decide))
                · refine zs_icmp_geF (pc := 69) t279_69 rfl rfl (by omega) ?_
                  refine zs_iconst (pc := 72) t279_72 (v := 1) (by decide) ?_
                  refine zs_goto (pc := 73) t279_73 ?_
                  exact zs_iret (pc := 77) t279_77 mr279 (by decide) (hQ _ (by decide) (by decide))
        · refine zs_icmp_eqF (pc := 27) t279_27 rfl rfl (by omega) ?_
          refine zs_iload_n (pc := 30) t279_30 rfl ?_
          refine zs_invS (pc := 31) (as := [.int b]) (st := []) t279_31 (by decide) mf280 rfl rfl ⟨by decide, by decide, Nat.le_of_ble_eq_true rfl, Nat.le_of_ble_eq_true rfl⟩ (zs_in (by decide) mf280 (Nat.le_of_ble_eq_true rfl) ?_) (fun _ _ q => q)
          show zGo X l 0 0 0 280 0 [(0, .int b)] [] M _
          refine zs_iload_n (pc := 0) t280_0 rfl ?_
          refine zs_if_geT (pc := 1) t280_1 rfl (by omega) ?_
          refine zs_iload_n (pc := 9) t280_9 rfl ?_
          refine zs_iret (pc := 10) t280_10 mr280 rfl ?_
          show zGo X l 1 0 0 279 34 [(0, .int a), (1, .int b), (2, .int c), (3, .int d), (4, .int e), (5, .int f), (6, .int g), (7, .int h)] [.int b] M _
          refine zs_iload (pc := 34) t279_34 rfl ?_
          refine zs_invS (pc := 36) (as := [.int f]) (st := [.int b]) t279_36 (by decide) mf280 rfl rfl ⟨by decide, by decide, Nat.le_of_ble_eq_true rfl, Nat.le_of_ble_eq_true rfl⟩ (zs_in (by decide) mf280 (Nat.le_of_ble_eq_true rfl) ?_) (fun _ _ q => q)
          show zGo X l 0 0 0 280 0 [(0, .int f)] [] M _
          refine zs_iload_n (pc := 0) t280_0 rfl ?_
          refine zs_if_geT (pc := 1) t280_1 rfl (by omega) ?_
          refine zs_iload_n (pc := 9) t280_9 rfl ?_
          refine zs_iret (pc := 10) t280_10 mr280 rfl ?_
          show zGo X l 1 0 0 279 39 [(0, .int a), (1, .int b), (2, .int c), (3, .int d), (4, .int e), (5, .int f), (6, .int g), (7, .int h)] [.int f, .int b] M _
          by_cases w37 : f.toInt ≤ b.toInt
          · refine zs_icmp_geT (pc := 39) t279_39 rfl rfl (by omega) ?_
            refine zs_iconst (pc := 46) t279_46 (v := 0) (by decide) ?_
            exact zs_iret (pc := 47) t279_47 mr279 (by decide) (hQ _ (by decide) (by decide))
          · refine zs_icmp_geF (pc := 39) t279_39 rfl rfl (by omega) ?_
            refine zs_iconst (pc := 42) t279_42 (v := 1) (by decide) ?_
            refine zs_goto (pc := 43) t279_43 ?_
            exact zs_iret (pc := 47) t279_47 mr279 (by decide) (hQ _ (by decide) (by decide))
      · refine zs_if_geF (pc := 1) t280_1 rfl (by omega) ?_
        refine zs_iload_n (pc := 4) t280_4 rfl ?_
        obtain ⟨w38v, w38e⟩ : ∃ v, -f = v := ⟨_, rfl⟩
        have w38 := zrg w38v
        refine zs_ineg (pc := 5) t280_5 (c := w38v) w38e ?_
        refine zs_goto (pc := 6) t280_6 ?_
        refine zs_iret (pc := 10) t280_10 mr280 rfl ?_
        show zGo X l 1 0 0 279 27 [(0, .int a), (1, .int b), (2, .int c), (3, .int d), (4, .int e), (5, .int f), (6, .int g), (7, .int h)] [.int w38v, .int b] M _
        by_cases w39 : b.toInt = w38v.toInt
        · refine zs_icmp_eqT (pc := 27) t279_27 rfl rfl (by omega) ?_
          refine zs_iload_n (pc := 48) t279_48 rfl ?_
          refine zs_invS (pc := 49) (as := [.int c]) (st := []) t279_49 (by decide) mf280 rfl rfl ⟨by decide, by decide, Nat.le_of_ble_eq_true rfl, Nat.le_of_ble_eq_true rfl⟩ (zs_in (by decide) mf280 (Nat.le_of_ble_eq_true rfl) ?_) (fun _ _ q => q)
          show zGo X l 0 0 0 280 0 [(0, .int c)] [] M _
          refine zs_iload_n (pc := 0) t280_0 rfl ?_
          by_cases w40 : 0 ≤ c.toInt
          · refine zs_if_geT (pc := 1) t280_1 rfl (by omega) ?_
            refine zs_iload_n (pc := 9) t280_9 rfl ?_
            refine zs_iret (pc := 10) t280_10 mr280 rfl ?_
            show zGo X l 1 0 0 279 52 [(0, .int a), (1, .int b), (2, .int c), (3, .int d), (4, .int e), (5, .int f), (6, .int g), (7, .int h)] [.int c] M _
            refine zs_iload (pc := 52) t279_52 rfl ?_
            refine zs_invS (pc := 54) (as := [.int g]) (st := [.int c]) t279_54 (by decide) mf280 rfl rfl ⟨by decide, by decide, Nat.le_of_ble_eq_true rfl, Nat.le_of_ble_eq_true rfl⟩ (zs_in (by decide) mf280 (Nat.le_of_ble_eq_true rfl) ?_) (fun _ _ q => q)
            show zGo X l 0 0 0 280 0 [(0, .int g)] [] M _
            refine zs_iload_n (pc := 0) t280_0 rfl ?_
            by_cases w41 : 0 ≤ g.toInt
            · refine zs_if_geT (pc := 1) t280_1 rfl (by omega) ?_
              refine zs_iload_n (pc := 9) t280_9 rfl ?_
              refine zs_iret (pc := 10) t280_10 mr280 rfl ?_
              show zGo X l 1 0 0 279 57 [(0, .int a), (1, .int b), (2, .int c), (3, .int d), (4, .int e), (5, .int f), (6, .int g), (7, .int h)] [.int g, .int c] M _
              by_cases w42 : c.toInt = g.toInt
              · refine zs_icmp_eqT (pc := 57) t279_57 rfl rfl (by omega) ?_
                refine zs_iload_n (pc := 78) t279_78 rfl ?_
                refine zs_iload (pc := 79) t279_79 rfl ?_
                refine zs_icmp_eqF (pc := 81) t279_81 rfl rfl (by omega) ?_
                refine zs_iload_n (pc := 84) t279_84 rfl ?_
                refine zs_iload (pc := 85) t279_85 rfl ?_
                refine zs_icmp_geT (pc := 87) t279_87 rfl rfl (by omega) ?_
                refine zs_iconst (pc := 94) t279_94 (v := 0) (by decide) ?_
                exact zs_iret (pc := 95) t279_95 mr279 (by decide) (hQ _ (by decide) (by decide))
              · refine zs_icmp_eqF (pc := 57) t279_57 rfl rfl (by omega) ?_
                refine zs_iload_n (pc := 60) t279_60 rfl ?_
                refine zs_invS (pc := 61) (as := [.int c]) (st := []) t279_61 (by decide) mf280 rfl rfl ⟨by decide, by decide, Nat.le_of_ble_eq_true rfl, Nat.le_of_ble_eq_true rfl⟩ (zs_in (by decide) mf280 (Nat.le_of_ble_eq_true rfl) ?_) (fun _ _ q => q)
                show zGo X l 0 0 0 280 0 [(0, .int c)] [] M _
                refine zs_iload_n (pc := 0) t280_0 rfl ?_
                refine zs_if_geT (pc := 1) t280_1 rfl (by omega) ?_
                refine zs_iload_n (pc := 9) t280_9 rfl ?_
                refine zs_iret (pc := 10) t280_10 mr280 rfl ?_
                show zGo X l 1 0 0 279 64 [(0, .int a), (1, .int b), (2, .int c), (3, .int d), (4, .int e), (5, .int f), (6, .int g), (7, .int h)] [.int c] M _
                refine zs_iload (pc := 64) t279_64 rfl ?_
                refine zs_invS (pc := 66) (as := [.int g]) (st := [.int c]) t279_66 (by decide) mf280 rfl rfl ⟨by decide, by decide, Nat.le_of_ble_eq_true rfl, Nat.le_of_ble_eq_true rfl⟩ (zs_in (by decide) mf280 (Nat.le_of_ble_eq_true rfl) ?_) (fun _ _ q => q)
                show zGo X l 0 0 0 280 0 [(0, .int g)] [] M _
                refine zs_iload_n (pc := 0) t280_0 rfl ?_
                refine zs_if_geT (pc := 1) t280_1 rfl (by omega) ?_
                refine zs_iload_n (pc := 9) t280_9 rfl ?_
                refine zs_iret (pc := 10) t280_10 mr280 rfl ?_
                show zGo X l 1 0 0 279 69 [(0, .int a), (1, .int b), (2, .int c), (3, .int d), (4, .int e), (5, .int f), (6, .int g), (7, .int h)] [.int g, .int c] M _
                by_cases w43 : g.toInt ≤ c.toInt
                · refine zs_icmp_geT (pc := 69) t279_69 rfl rfl (by omega) ?_
                  refine zs_iconst (pc := 76) t279_76 (v := 0) (by decide) ?_
                  exact zs_iret (pc := 77) t279_77 mr279 (by decide) (hQ _ (by decide) (by decide))
                · refine zs_icmp_geF (pc := 69) t279_69 rfl rfl (by omega) ?_
                  refine zs_iconst (pc := 72) t279_72 (v := 1) (by decide) ?_
                  refine zs_goto (pc := 73) t279_73 ?_
                  exact zs_iret (pc := 77) t279_77 mr279 (by decide) (hQ _ (by decide) (by decide))
            · refine zs_if_geF (pc := 1) t280_1 rfl (by omega) ?_
              refine zs_iload_n (pc := 4) t280_4 rfl ?_
              obtain ⟨w44v, w44e⟩ : ∃ v, -g = v := ⟨_, rfl⟩
              have w44 := zrg w44v
              refine zs_ineg (pc := 5) t280_5 (c := w44v) w44e ?_
              refine zs_goto (pc := 6) t280_6 ?_
              refine zs_iret (pc := 10) t280_10 mr280 rfl ?_
              show zGo X l 1 0 0 279 57 [(0, .int a), (1, .int b), (2, .int c), (3, .int d), (4, .int e), (5, .int f), (6, .int g), (7, .int h)] [.int w44v, .int c] M _
              by_cases w45 : c.toInt = w44v.toInt
              · refine zs_icmp_eqT (pc := 57) t279_57 rfl rfl (by omega) ?_
                refine zs_iload_n (pc := 78) t279_78 rfl ?_
                refine zs_iload (pc := 79) t279_79 rfl ?_
                refine zs_icmp_eqF (pc := 81) t279_81 rfl rfl (by omega) ?_
                refine zs_iload_n (pc := 84) t279_84 rfl ?_
                refine zs_iload (pc := 85) t279_85 rfl ?_
                refine zs_icmp_geT (pc := 87) t279_87 rfl rfl (by omega) ?_
                refine zs_iconst (pc := 94) t279_94 (v := 0) (by decide) ?_
                exact zs_iret (pc := 95) t279_95 mr279 (by decide) (hQ _ (by decide) (by decide))
              · refine zs_icmp_eqF (pc := 57) t279_57 rfl rfl (by omega) ?_
                refine zs_iload_n (pc := 60) t279_60 rfl ?_
                refine zs_invS (pc := 61) (as := [.int c]) (st := []) t279_61 (by decide) mf280 rfl rfl ⟨by decide, by decide, Nat.le_of_ble_eq_true rfl, Nat.le_of_ble_eq_true rfl⟩ (zs_in (by decide) mf280 (Nat.le_of_ble_eq_true rfl) ?_) (fun _ _ q => q)
                show zGo X l 0 0 0 280 0 [(0, .int c)] [] M _
                refine zs_iload_n (pc := 0) t280_0 rfl ?_
                refine zs_if_geT (pc := 1) t280_1 rfl (by omega) ?_
                refine zs_iload_n (pc := 9) t280_9 rfl ?_
                refine zs_iret (pc := 10) t280_10 mr280 rfl ?_
                show zGo X l 1 0 0 279 64 [(0, .int a), (1, .int b), (2, .int c), (3, .int d), (4, .int e), (5, .int f), (6, .int g), (7, .int h)] [.int c] M _
                refine zs_iload (pc := 64) t279_64 rfl ?_
                refine zs_invS (pc := 66) (as := [.int g]) (st := [.int c]) t279_66 (by decide) mf280 rfl rfl ⟨by decide, by decide, Nat.le_of_ble_eq_true rfl, Nat.le_of_ble_eq_true rfl⟩ (zs_in (by decide) mf280 (Nat.le_of_ble_eq_true rfl) ?_) (fun _ _ q => q)
                show zGo X l 0 0 0 280 0 [(0, .int g)] [] M _
                refine zs_iload_n (pc := 0) t280_0 rfl ?_
                refine zs_if_geF (pc := 1) t280_1 rfl (by omega) ?_
                refine zs_iload_n (pc := 4) t280_4 rfl ?_
                obtain ⟨w46v, w46e⟩ : ∃ v, -g = v := ⟨_, rfl⟩
                have w46 := zrg w46v
                refine zs_ineg (pc := 5) t280_5 (c := w46v) w46e ?_
                refine zs_goto (pc := 6) t280_6 ?_
                refine zs_iret (pc := 10) t280_10 mr280 rfl ?_
                show zGo X l 1 0 0 279 69 [(0, .int a), (1, .int b), (2, .int c), (3, .int d), (4, .int e), (5, .int f), (6, .int g), (7, .int h)] [.int w46v, .int c] M _
                by_cases w47 : w46v.toInt ≤ c.toInt
                · refine zs_icmp_geT (pc := 69) t279_69 rfl rfl (by omega) ?_
                  refine zs_iconst (pc := 76) t279_76 (v := 0) (by decide) ?_
                  exact zs_iret (pc := 77) t279_77 mr279 (by decide) (hQ _ (by decide) (by decide))
                · refine zs_icmp_geF (pc := 69) t279_69 rfl rfl (by omega) ?_
                  refine zs_iconst (pc := 72) t279_72 (v := 1) (by decide) ?_
                  refine zs_goto (pc := 73) t279_73 ?_
                  exact zs_iret (pc := 77) t279_77 mr279 (by decide) (hQ _ (by decide) (by decide))
          · refine zs_if_geF (pc := 1) t280_1 rfl (by omega) ?_
            refine zs_iload_n (pc := 4) t280_4 rfl ?_
            obtain ⟨w48v, w48e⟩ : ∃ v, -c = v := ⟨_, rfl⟩
            have w48 := zrg w48v
            refine zs_ineg (pc := 5) t280_5 (c := w48v) w48e ?_
            refine zs_goto (pc := 6) t280_6 ?_
            refine zs_iret (pc := 10) t280_10 mr280 rfl ?_
            show zGo X l 1 0 0 279 52 [(0, .int a), (1, .int b), (2, .int c), (3, .int d), (4, .int e), (5, .int f), (6, .int g), (7, .int h)] [.int w48v] M _
            refine zs_iload (pc := 52) t279_52 rfl ?_
            refine zs_invS (pc := 54) (as := [.int g]) (st := [.int w48v]) t279_54 (by decide) mf280 rfl rfl ⟨by decide, by decide, Nat.le_of_ble_eq_true rfl, Nat.le_of_ble_eq_true rfl⟩ (zs_in (by decide) mf280 (Nat.le_of_ble_eq_true rfl) ?_) (fun _ _ q => q)
            show zGo X l 0 0 0 280 0 [(0, .int g)] [] M _
            refine zs_iload_n (pc := 0) t280_0 rfl ?_
            by_cases w49 : 0 ≤ g.toInt
            · refine zs_if_geT (pc := 1) t280_1 rfl (by omega) ?_
              refine zs_iload_n (pc := 9) t280_9 rfl ?_
              refine zs_iret (pc := 10) t280_10 mr280 rfl ?_
              show zGo X l 1 0 0 279 57 [(0, .int a), (1, .int b), (2, .int c), (3, .int d), (4, .int e), (5, .int f), (6, .int g), (7, .int h)] [.int g, .int w48v] M _
              by_cases w50 : w48v.toInt = g.toInt
              · refine zs_icmp_eqT (pc := 57) t279_57 rfl rfl (by omega) ?_
                refine zs_iload_n (pc := 78) t279_78 rfl ?_
                refine zs_iload (pc := 79) t279_79 rfl ?_
                refine zs_icmp_eqF (pc := 81) t279_81 rfl rfl (by omega) ?_
                refine zs_iload_n (pc := 84) t279_84 rfl ?_
                refine zs_iload (pc := 85) t279_85 rfl ?_
                refine zs_icmp_geT (pc := 87) t279_87 rfl rfl (by omega) ?_
                refine zs_iconst (pc := 94) t279_94 (v := 0) (by decide) ?_
                exact zs_iret (pc := 95) t279_95 mr279 (by decide) (hQ _ (by decide) (by decide))
              · refine zs_icmp_eqF (pc := 57) t279_57 rfl rfl (by omega) ?_
                refine zs_iload_n (pc := 60) t279_60 rfl ?_
                refine zs_invS (pc := 61) (as := [.int c]) (st := []) t279_61 (by decide) mf280 rfl rfl ⟨by decide, by decide, Nat.le_of_ble_eq_true rfl, Nat.le_of_ble_eq_true rfl⟩ (zs_in (by decide) mf280 (Nat.le_of_ble_eq_true rfl) ?_) (fun _ _ q => q)
                show zGo X l 0 0 0 280 0 [(0, .int c)] [] M _
                refine zs_iload_n (pc := 0) t280_0 rfl ?_
                refine zs_if_geF (pc := 1) t280_1 rfl (by omega) ?_
                refine zs_iload_n (pc := 4) t280_4 rfl ?_
                obtain ⟨w51v, w51e⟩ : ∃ v, -c = v := ⟨_, rfl⟩
                have w51 := zrg w51v
                refine zs_ineg (pc := 5) t280_5 (c := w51v) w51e ?_
                refine zs_goto (pc := 6) t280_6 ?_
                refine zs_iret (pc := 10) t280_10 mr280 rfl ?_
                show zGo X l 1 0 0 279 64 [(0, .int a), (1, .int b), (2, .int c), (3, .int d), (4, .int e), (5, .int f), (6, .int g), (7, .int h)] [.int w51v] M _
                refine zs_iload (pc := 64) t279_64 rfl ?_
                refine zs_invS (pc := 66) (as := [.int g]) (st := [.int w51v]) t279_66 (by decide) mf280 rfl rfl ⟨by decide, by decide, Nat.le_of_ble_eq_true rfl, Nat.le_of_ble_eq_true rfl⟩ (zs_in (by decide) mf280 (Nat.le_of_ble_eq_true rfl) ?_) (fun _ _ q => q)
                show zGo X l 0 0 0 280 0 [(0, .int g)] [] M _
                refine zs_iload_n (pc := 0) t280_0 rfl ?_
                refine zs_if_geT (pc := 1) t280_1 rfl (by omega) ?_
                refine zs_iload_n (pc := 9) t280_9 rfl ?_
                refine zs_iret (pc := 10) t280_10 mr280 rfl ?_
                show zGo X l 1 0 0 279 69 [(0, .int a), (1, .int b), (2, .int c), (3, .int d), (4, .int e), (5, .int f), (6, .int g), (7, .int h)] [.int g, .int w51v] M _
                by_cases w52 : g.toInt ≤ w51v.toInt
                · refine zs_icmp_geT (pc := 69) t279_69 rfl rfl (by omega) ?_
                  refine zs_iconst (pc := 76) t279_76 (v := 0) (by decide) ?_
                  exact zs_iret (pc := 77) t279_77 mr279 (by decide) (hQ _ (by decide) (by decide))
                · refine zs_icmp_geF (pc := 69) t279_69 rfl rfl (by omega) ?_
                  refine zs_iconst (pc := 72) t279_72 (v := 1) (by decide) ?_
                  refine zs_goto (pc := 73) t279_73 ?_
                  exact zs_iret (pc := 77) t279_77 mr279 (by decide) (hQ _ (by decide) (by decide))
            · refine zs_if_geF (pc := 1) t280_1 rfl (by omega) ?_
              refine zs_iload_n (pc := 4) t280_4 rfl ?_
              obtain ⟨w53v, w53e⟩ : ∃ v, -g = v := ⟨_, rfl⟩
              have w53 := zrg w53v
              refine zs_ineg (pc := 5) t280_5 (c := w53v) w53e ?_
              refine zs_goto (pc := 6) t280_6 ?_
              refine zs_iret (pc := 10) t280_10 mr280 rfl ?_
              show zGo X l 1 0 0 279 57 [(0, .int a), (1, .int b), (2, .int c), (3, .int d), (4, .int e), (5, .int f), (6, .int g), (7, .int h)] [.int w53v, .int w48v] M _
              by_cases w54 : w48v.toInt = w53v.toInt
              · refine zs_icmp_eqT (pc := 57) t279_57 rfl rfl (by omega) ?_
                refine zs_iload_n (pc := 78) t279_78 rfl ?_
                refine zs_iload (pc := 79) t279_79 rfl ?_
                refine zs_icmp_eqF (pc := 81) t279_81 rfl rfl (by omega) ?_
                refine zs_iload_n (pc := 84) t279_84 rfl ?_
                refine zs_iload (pc := 85) t279_85 rfl ?_
                refine zs_icmp_geT (pc := 87) t279_87 rfl rfl (by omega) ?_
                refine zs_iconst (pc := 94) t279_94 (v := 0) (by decide) ?_
                exact zs_iret (pc := 95) t279_95 mr279 (by decide) (hQ _ (by decide) (by decide))
              · refine zs_icmp_eqF (pc := 57) t279_57 rfl rfl (by omega) ?_
                refine zs_iload_n (pc := 60) t279_60 rfl ?_
                refine zs_invS (pc := 61) (as := [.int c]) (st := []) t279_61 (by decide) mf280 rfl rfl ⟨by decide, by decide, Nat.le_of_ble_eq_true rfl, Nat.le_of_ble_eq_true rfl⟩ (zs_in (by decide) mf280 (Nat.le_of_ble_eq_true rfl) ?_) (fun _ _ q => q)
                show zGo X l 0 0 0 280 0 [(0, .int c)] [] M _
                refine zs_iload_n (pc := 0) t280_0 rfl ?_
                refine zs_if_geF (pc := 1) t280_1 rfl (by omega) ?_
                refine zs_iload_n (pc := 4) t280_4 rfl ?_
                obtain ⟨w55v, w55e⟩ : ∃ v, -c = v := ⟨_, rfl⟩
                have w55 := zrg w55v
                refine zs_ineg (pc := 5) t280_5 (c := w55v) w55e ?_
                refine zs_goto (pc := 6) t280_6 ?_
                refine zs_iret (pc := 10) t280_10 mr280 rfl ?_
                show zGo X l 1 0 0 279 64 [(0, .int a), (1, .int b), (2, .int c), (3, .int d), (4, .int e), (5, .int f), (6, .int g), (7, .int h)] [.int w55v] M _
                refine zs_iload (pc := 64) t279_64 rfl ?_
                refine zs_invS (pc := 66) (as := [.int g]) (st := [.int w55v]) t279_66 (by decide) mf280 rfl rfl ⟨by decide, by decide, Nat.le_of_ble_eq_true rfl, Nat.le_of_ble_eq_true rfl⟩ (zs_in (by decide) mf280 (Nat.le_of_ble_eq_true rfl) ?_) (fun _ _ q => q)
                show zGo X l 0 0 0 280 0 [(0, .int g)] [] M _
                refine zs_iload_n (pc := 0) t280_0 rfl ?_
                refine zs_if_geF (pc := 1) t280_1 rfl (by omega) ?_
                refine zs_iload_n (pc := 4) t280_4 rfl ?_
                obtain ⟨w56v, w56e⟩ : ∃ v, -g = v := ⟨_, rfl⟩
                have w56 := zrg w56v
                refine zs_ineg (pc := 5) t280_5 (c := w56v) w56e ?_
                refine zs_goto (pc := 6) t280_6 ?_
                refine zs_iret (pc := 10) t280_10 mr280 rfl ?_
                show zGo X l 1 0 0 279 69 [(0, .int a), (1, .int b), (2, .int c), (3, .int d), (4, .int e), (5, .int f), (6, .int g), (7, .int h)] [.int w56v, .int w55v] M _
                by_cases w57 : w56v.toInt ≤ w55v.toInt
                · refine zs_icmp_geT (pc := 69) t279_69 rfl rfl (by omega) ?_
                  refine zs_iconst (pc := 76) t279_76 (v := 0) (by decide) ?_
                  exact zs_iret (pc := 77) t279_77 mr279 (by decide) (hQ _ (by decide) (by decide))
                · refine zs_icmp_geF (pc := 69) t279_69 rfl rfl (by omega) ?_
                  refine zs_iconst (pc := 72) t279_72 (v := 1) (by decide) ?_
                  refine zs_goto (pc := 73) t279_73 ?_
                  exact zs_iret (pc := 77) t279_77 mr279 (by decide) (hQ _ (by decide) (by decide))
        · refine zs_icmp_eqF (pc := 27) t279_27 rfl rfl (by omega) ?_
          refine zs_iload_n (pc := 30) t279_30 rfl ?_
          refine zs_invS (pc := 31) (as := [.int b]) (st := []) t279_31 (by decide) mf280 rfl rfl ⟨by decide, by decide, Nat.le_of_ble_eq_true rfl, Nat.le_of_ble_eq_true rfl⟩ (zs_in (by decide) mf280 (Nat.le_of_ble_eq_true rfl) ?_) (fun _ _ q => q)
          show zGo X l 0 0 0 280 0 [(0, .int b)] [] M _
          refine zs_iload_n (pc := 0) t280_0 rfl ?_
          refine zs_if_geT (pc := 1) t280_1 rfl (by omega) ?_
          refine zs_iload_n (pc := 9) t280_9 rfl ?_
          refine zs_iret (pc := 10) t280_10 mr280 rfl ?_
          show zGo X l 1 0 0 279 34 [(0, .int a), (1, .int b), (2, .int c), (3, .int d), (4, .int e), (5, .int f), (6, .int g), (7, .int h)] [.int b] M _
          refine zs_iload (pc := 34) t279_34 rfl ?_
          refine zs_invS (pc := 36) (as := [.int f]) (st := [.int b]) t279_36 (by decide) mf280 rfl rfl ⟨by decide, by decide, Nat.le_of_ble_eq_true rfl, Nat.le_of_ble_eq_true rfl⟩ (zs_in (by decide) mf280 (Nat.le_of_ble_eq_true rfl) ?_) (fun _ _ q => q)
          show zGo X l 0 0 0 280 0 [(0, .int f)] [] M _
          refine zs_iload_n (pc := 0) t280_0 rfl ?_
          refine zs_if_geF (pc := 1) t280_1 rfl (by omega) ?_
          refine zs_iload_n (pc := 4) t280_4 rfl ?_
          obtain ⟨w58v, w58e⟩ : ∃ v, -f = v := ⟨_, rfl⟩
          have w58 := zrg w58v
          refine zs_ineg (pc := 5) t280_5 (c := w58v) w58e ?_
          refine zs_goto (pc := 6) t280_6 ?_
          refine zs_iret (pc := 10) t280_10 mr280 rfl ?_
          show zGo X l 1 0 0 279 39 [(0, .int a), (1, .int b), (2, .int c), (3, .int d), (4, .int e), (5, .int f), (6, .int g), (7, .int h)] [.int w58v, .int b] M _
          by_cases w59 : w58v.toInt ≤ b.toInt
          · refine zs_icmp_geT (pc := 39) t279_39 rfl rfl (by omega) ?_
            refine zs_iconst (pc := 46) t279_46 (v := 0) (by decide) ?_
            exact zs_iret (pc := 47) t279_47 mr279 (by decide) (hQ _ (by decide) (by decide))
          · refine zs_icmp_geF (pc := 39) t279_39 rfl rfl (by omega) ?_
            refine zs_iconst (pc := 42) t279_42 (v := 1) (by decide) ?_
            refine zs_goto (pc := 43) t279_43 ?_
            exact zs_iret (pc := 47) t279_47 mr279 (by decide) (hQ _ (by decide) (by decide))
    · refine zs_if_geF (pc := 1) t280_1 rfl (by omega) ?_
      refine zs_iload_n (pc := 4) t280_4 rfl ?_
      obtain ⟨w60v, w60e⟩ : ∃ v, -b = v := ⟨_, rfl⟩
      have w60 := zrg w60v
      refine zs_ineg (pc := 5) t280_5 (c := w60v) w60e ?_
      refine zs_goto (pc := 6) t280_6 ?_
      refine zs_iret (pc := 10) t280_10 mr280 rfl ?_
      show zGo X l 1 0 0 279 22 [(0, .int a), (1, .int b), (2, .int c), (3, .int d), (4, .int e), (5, .int f), (6, .int g), (7, .int h)] [.int w60v] M _
      refine zs_iload (pc := 22) t279_22 rfl ?_
      refine zs_invS (pc := 24) (as := [.int f]) (st := [.int w60v]) t279_24 (by decide) mf280 rfl rfl ⟨by decide, by decide, Nat.le_of_ble_eq_true rfl, Nat.le_of_ble_eq_true rfl⟩ (zs_in (by decide) mf280 (Nat.le_of_ble_eq_true rfl) ?_) (fun _ _ q => q)
      show zGo X l 0 0 0 280 0 [(0, .int f)] [] M _
      refine zs_iload_n (pc := 0) t280_0 rfl ?_
      by_cases w61 : 0 ≤ f.toInt
      · refine zs_if_geT (pc := 1) t280_1 rfl (by omega) ?_
        refine zs_iload_n (pc := 9) t280_9 rfl ?_
        refine zs_iret (pc := 10) t280_10 mr280 rfl ?_
        show zGo X l 1 0 0 279 27 [(0, .int a), (1, .int b), (2, .int c), (3, .int d), (4, .int e), (5, .int f), (6, .int g), (7, .int h)] [.int f, .int w60v] M _
        by_cases w62 : w60v.toInt = f.toInt
        · refine zs_icmp_eqT (pc := 27) t279_27 rfl rfl (by omega) ?_
          refine zs_iload_n (pc := 48) t279_48 rfl ?_
          refine zs_invS (pc := 49) (as := [.int c]) (st := []) t279_49 (by decide) mf280 rfl rfl ⟨by decide, by decide, Nat.le_of_ble_eq_true rfl, Nat.le_of_ble_eq_true rfl⟩ (zs_in (by decide) mf280 (Nat.le_of_ble_eq_true rfl) ?_) (fun _ _ q => q)
          show zGo X l 0 0 0 280 0 [(0, .int c)] [] M _
          refine zs_iload_n (pc := 0) t280_0 rfl ?_
          by_cases w63 : 0 ≤ c.toInt
          · refine zs_if_geT (pc := 1) t280_1 rfl (by omega) ?_
            refine zs_iload_n (pc := 9) t280_9 rfl ?_
            refine zs_iret (pc := 10) t280_10 mr280 rfl ?_
            show zGo X l 1 0 0 279 52 [(0, .int a), (1, .int b), (2, .int c), (3, .int d), (4, .int e), (5, .int f), (6, .int g), (7, .int h)] [.int c] M _
            refine zs_iload (pc := 52) t279_52 rfl ?_
            refine zs_invS (pc := 54) (as := [.int g]) (st := [.int c]) t279_54 (by decide) mf280 rfl rfl ⟨by decide, by decide, Nat.le_of_ble_eq_true rfl, Nat.le_of_ble_eq_true rfl⟩ (zs_in (by decide) mf280 (Nat.le_of_ble_eq_true rfl) ?_) (fun _ _ q => q)
            show zGo X l 0 0 0 280 0 [(0, .int g)] [] M _
            refine zs_iload_n (pc := 0) t280_0 rfl ?_
            by_cases w64 : 0 ≤ g.toInt
            · refine zs_if_geT (pc := 1) t280_1 rfl (by omega) ?_
              refine zs_iload_n (pc := 9) t280_9 rfl ?_
              refine zs_iret (pc := 10) t280_10 mr280 rfl ?_
              show zGo X l 1 0 0 279 57 [(0, .int a), (1, .int b), (2, .int c), (3, .int d), (4, .int e), (5, .int f), (6, .int g), (7, .int h)] [.int g, .int c] M _
              by_cases w65 : c.toInt = g.toInt
              · refine zs_icmp_eqT (pc := 57) t279_57 rfl rfl (by omega) ?_
                refine zs_iload_n (pc := 78) t279_78 rfl ?_
                refine zs_iload (pc := 79) t279_79 rfl ?_
                refine zs_icmp_eqF (pc := 81) t279_81 rfl rfl (by omega) ?_
                refine zs_iload_n (pc := 84) t279_84 rfl ?_
                refine zs_iload (pc := 85) t279_85 rfl ?_
                refine zs_icmp_geF (pc := 87) t279_87 rfl rfl (by omega) ?_
                refine zs_iconst (pc := 90) t279_90 (v := 1) (by decide) ?_
                refine zs_goto (pc := 91) t279_91 ?_
                exact zs_iret (pc := 95) t279_95 mr279 (by decide) (hQ _ (by decide) (by decide))
              · refine zs_icmp_eqF (pc := 57) t279_57 rfl rfl (by omega) ?_
                refine zs_iload_n (pc := 60) t279_60 rfl ?_
                refine zs_invS (pc := 61) (as := [.int c]) (st := []) t279_61 (by decide) mf280 rfl rfl ⟨by decide, by decide, Nat.le_of_ble_eq_true rfl, Nat.le_of_ble_eq_true rfl⟩ (zs_in (by decide) mf280 (Nat.le_of_ble_eq_true rfl) ?_) (fun _ _ q => q)
                show zGo X l 0 0 0 280 0 [(0, .int c)] [] M _
                refine zs_iload_n (pc := 0) t280_0 rfl ?_
                refine zs_if_geT (pc := 1) t280_1 rfl (by omega) ?_
                refine zs_iload_n (pc := 9) t280_9 rfl ?_
                refine zs_iret (pc := 10) t280_10 mr280 rfl ?_
                show zGo X l 1 0 0 279 64 [(0, .int a), (1, .int b), (2, .int c), (3, .int d), (4, .int e), (5, .int f), (6, .int g), (7, .int h)] [.int c] M _
                refine zs_iload (pc := 64) t279_64 rfl ?_
                refine zs_invS (pc := 66) (as := [.int g]) (st := [.int c]) t279_66 (by decide) mf280 rfl rfl ⟨by decide, by decide, Nat.le_of_ble_eq_true rfl, Nat.le_of_ble_eq_true rfl⟩ (zs_in (by decide) mf280 (Nat.le_of_ble_eq_true rfl) ?_) (fun _ _ q => q)
                show zGo X l 0 0 0 280 0 [(0, .int g)] [] M _
                refine zs_iload_n (pc := 0) t280_0 rfl ?_
                refine zs_if_geT (pc := 1) t280_1 rfl (by omega) ?_
                refine zs_iload_n (pc := 9) t280_9 rfl ?_
                refine zs_iret (pc := 10) t280_10 mr280 rfl ?_
                show zGo X l 1 0 0 279 69 [(0, .int a), (1, .int b), (2, .int c), (3, .int d), (4, .int e), (5, .int f), (6, .int g), (7, .int h)] [.int g, .int c] M _
                by_cases w66 : g.toInt ≤ c.toInt
                · refine zs_icmp_geT (pc := 69) t279_69 rfl rfl (by omega) ?_
                  refine zs_iconst (pc := 76) t279_76 (v := 0) (by decide) ?_
                  exact zs_iret (pc := 77) t279_77 mr279 (by decide) (hQ _ (by decide) (by decide))
                · refine zs_icmp_geF (pc := 69) t279_69 rfl rfl (by omega) ?_
                  refine zs_iconst (pc := 72) t279_72 (v := 1) (by decide) ?_
                  refine zs_goto (pc := 73) t279_73 ?_
                  exact zs_iret (pc := 77) t279_77 mr279 (by decide) (hQ _ (by decide) (by decide))
            · refine zs_if_geF (pc := 1) t280_1 rfl (by omega) ?_
              refine zs_iload_n (pc := 4) t280_4 rfl ?_
              obtain ⟨w67v, w67e⟩ : ∃ v, -g = v := ⟨_, rfl⟩
              have w67 := zrg w67v
              refine zs_ineg (pc := 5) t280_5 (c := w67v) w67e ?_
              refine zs_goto (pc := 6) t280_6 ?_
              refine zs_iret (pc := 10) t280_10 mr280 rfl ?_
              show zGo X l 1 0 0 279 57 [(0, .int a), (1, .int b), (2, .int c), (3, .int d), (4, .int e), (5, .int f), (6, .int g), (7, .int h)] [.int w67v, .int c] M _
              by_cases w68 : c.toInt = w67v.toInt
              · refine zs_icmp_eqT (pc := 57) t279_57 rfl rfl (by omega) ?_
                refine zs_iload_n (pc := 78) t279_78 rfl ?_
                refine zs_iload (pc := 79) t279_79 rfl ?_
                refine zs_icmp_eqF (pc := 81) t279_81 rfl rfl (by omega) ?_
                refine zs_iload_n (pc := 84) t279_84 rfl ?_
                refine zs_iload (pc := 85) t279_85 rfl ?_
                refine zs_icmp_geF (pc := 87) t279_87 rfl rfl (by omega) ?_
                refine zs_iconst (pc := 90) t279_90 (v := 1) (by decide) ?_
                refine zs_goto (pc := 91) t279_91 ?_
                exact zs_iret (pc := 95) t279_95 mr279 (by decide) (hQ _ (by decide) (by decide))
              · refine zs_icmp_eqF (pc := 57) t279_57 rfl rfl (by omega) ?_
                refine zs_iload_n (pc := 60) t279_60 rfl ?_
                refine zs_invS (pc := 61) (as := [.int c]) (st := []) t279_61 (by decide) mf280 rfl rfl ⟨by decide, by decide, Nat.le_of_ble_eq_true rfl, Nat.le_of_ble_eq_true rfl⟩ (zs_in (by decide) mf280 (Nat.le_of_ble_eq_true rfl) ?_) (fun _ _ q => q)
                show zGo X l 0 0 0 280 0 [(0, .int c)] [] M _
                refine zs_iload_n (pc := 0) t280_0 rfl ?_
                refine zs_if_geT (pc := 1) t280_1 rfl (by omega) ?_
                refine zs_iload_n (pc := 9) t280_9 rfl ?_
                refine zs_iret (pc := 10) t280_10 mr280 rfl ?_
                show zGo X l 1 0 0 279 64 [(0, .int a), (1, .int b), (2, .int c), (3, .int d), (4, .int e), (5, .int f), (6, .int g), (7, .int h)] [.int c] M _
                refine zs_iload (pc := 64) t279_64 rfl ?_
                refine zs_invS (pc := 66) (as := [.int g]) (st := [.int c]) t279_66 (by decide) mf280 rfl rfl ⟨by decide, by decide, Nat.le_of_ble_eq_true rfl, Nat.le_of_ble_eq_true rfl⟩ (zs_in (by decide) mf280 (Nat.le_of_ble_eq_true rfl) ?_) (fun _ _ q => q)
                show zGo X l 0 0 0 280 0 [(0, .int g)] [] M _
                refine zs_iload_n (pc := 0) t280_0 rfl ?_
                refine zs_if_geF (pc := 1) t280_1 rfl (by omega) ?_
                refine zs_iload_n (pc := 4) t280_4 rfl ?_
                obtain ⟨w69v, w69e⟩ : ∃ v, -g = v := ⟨_, rfl⟩
                have w69 := zrg w69v
                refine zs_ineg (pc := 5) t280_5 (c := w69v) w69e ?_
                refine zs_goto (pc := 6) t280_6 ?_
                refine zs_iret (pc := 10) t280_10 mr280 rfl ?_
                show zGo X l 1 0 0 279 69 [(0, .int a), (1, .int b), (2, .int c), (3, .int d), (4, .int e), (5, .int f), (6, .int g), (7, .int h)] [.int w69v, .int c] M _
                by_cases w70 : w69v.toInt ≤ c.toInt
                · refine zs_icmp_geT (pc := 69) t279_69 rfl rfl (by omega) ?_
                  refine zs_iconst (pc := 76) t279_76 (v := 0) (by decide) ?_
                  exact zs_iret (pc := 77) t279_77 mr279 (by decide) (hQ _ (by decide) (by decide))
                · refine zs_icmp_geF (pc := 69) t279_69 rfl rfl (by omega) ?_
                  refine zs_iconst (pc := 72) t279_72 (v := 1) (by decide) ?_
                  refine zs_goto (pc := 73) t279_73 ?_
                  exact zs_iret (pc := 77) t279_77 mr279 (by decide) (hQ _ (by decide) (by decide))
          · refine zs_if_geF (pc := 1) t280_1 rfl (by omega) ?_
            refine zs_iload_n (pc := 4) t280_4 rfl ?_
            obtain ⟨w71v, w71e⟩ : ∃ v, -c = v := ⟨_, rfl⟩
            have w71 := zrg w71v
            refine zs_ineg (pc := 5) t280_5 (c := w71v) w71e ?_
            refine zs_goto (pc := 6) t280_6 ?_
            refine zs_iret (pc := 10) t280_10 mr280 rfl ?_
            show zGo X l 1 0 0 279 52 [(0, .int a), (1, .int b), (2, .int c), (3, .int d), (4, .int e), (5, .int f), (6, .int g), (7, .int h)] [.int w71v] M _
            refine zs_iload (pc := 52) t279_52 rfl ?_
            refine zs_invS (pc := 54) (as := [.int g]) (st := [.int w71v]) t279_54 (by decide) mf280 rfl rfl ⟨by decide, by decide, Nat.le_of_ble_eq_true rfl, Nat.le_of_ble_eq_true rfl⟩ (zs_in (by decide) mf280 (Nat.le_of_ble_eq_true rfl) ?_) (fun _ _ q => q)
            show zGo X l 0 0 0 280 0 [(0, .int g)] [] M _
            refine zs_iload_n (pc := 0) t280_0 rfl ?_
            by_cases w72 : 0 ≤ g.toInt
            · refine zs_if_geT (pc := 1) t280_1 rfl (by omega) ?_
              refine zs_iload_n (pc := 9) t280_9 rfl ?_
              refine zs_iret (pc := 10) t280_10 mr280 rfl ?_
              show zGo X l 1 0 0 279 57 [(0, .int a), (1, .int b), (2, .int c), (3, .int d), (4, .int e), (5, .int f), (6, .int g), (7, .int h)] [.int g, .int w71v] M _
              by_cases w73 : w71v.toInt = g.toInt
              · refine zs_icmp_eqT (pc := 57) t279_57 rfl rfl (by omega) ?_
                refine zs_iload_n (pc := 78) t279_78 rfl ?_
                refine zs_iload (pc := 79) t279_79 rfl ?_
                refine zs_icmp_eqF (pc := 81) t279_81 rfl rfl (by omega) ?_
                refine zs_iload_n (pc := 84) t279_84 rfl ?_
                refine zs_iload (pc := 85) t279_85 rfl ?_
                refine zs_icmp_geF (pc := 87) t279_87 rfl rfl (by omega) ?_
                refine zs_iconst (pc := 90) t279_90 (v := 1) (by decide) ?_
                refine zs_goto (pc := 91) t279_91 ?_
                exact zs_iret (pc := 95) t279_95 mr279 (by decide) (hQ _ (by decide) (by decide))
              · refine zs_icmp_eqF (pc := 57) t279_57 rfl rfl (by omega) ?_
                refine zs_iload_n (pc := 60) t279_60 rfl ?_
                refine zs_invS (pc := 61) (as := [.int c]) (st := []) t279_61 (by decide) mf280 rfl rfl ⟨by decide, by decide, Nat.le_of_ble_eq_true rfl, Nat.le_of_ble_eq_true rfl⟩ (zs_in (by decide) mf280 (Nat.le_of_ble_eq_true rfl) ?_) (fun _ _ q => q)
                show zGo X l 0 0 0 280 0 [(0, .int c)] [] M _
                refine zs_iload_n (pc := 0) t280_0 rfl ?_
                refine zs_if_geF (pc := 1) t280_1 rfl (by omega) ?_
                refine zs_iload_n (pc := 4) t280_4 rfl ?_
                obtain ⟨w74v, w74e⟩ : ∃ v, -c = v := ⟨_, rfl⟩
                have w74 := zrg w74v
                refine zs_ineg (pc := 5) t280_5 (c := w74v) w74e ?_
                refine zs_goto (pc := 6) t280_6 ?_
                refine zs_iret (pc := 10) t280_10 mr280 rfl ?_
                show zGo X l 1 0 0 279 64 [(0, .int a), (1, .int b), (2, .int c), (3, .int d), (4, .int e), (5, .int f), (6, .int g), (7, .int h)] [.int w74v] M _
                refine zs_iload (pc := 64) t279_64 rfl ?_
                refine zs_invS (pc := 66) (as := [.int g]) (st := [.int w74v]) t279_66 (by decide) mf280 rfl rfl ⟨by decide, by decide, Nat.le_of_ble_eq_true rfl, Nat.le_of_ble_eq_true rfl⟩ (zs_in (by decide) mf280 (Nat.le_of_ble_eq_true rfl) ?_) (fun _ _ q => q)
                show zGo X l 0 0 0 280 0 [(0, .int g)] [] M _
                refine zs_iload_n (pc := 0) t280_0 rfl ?_
                refine zs_if_geT (pc := 1) t280_1 rfl (by omega) ?_
                refine zs_iload_n (pc := 9) t280_9 rfl ?_
                refine zs_iret (pc := 10) t280_10 mr280 rfl ?_
                show zGo X l 1 0 0 279 69 [(0, .int a), (1, .int b), (2, .int c), (3, .int d), (4, .int e), (5, .int f), (6, .int g), (7, .int h)] [.int g, .int w74v] M _
                by_cases w75 : g.toInt ≤ w74v.toInt
                · refine zs_icmp_geT (pc := 69) t279_69 rfl rfl (by omega) ?_
                  refine zs_iconst (pc := 76) t279_76 (v := 0) (by decide) ?_
                  exact zs_iret (pc := 77) t279_77 mr279 (by decide) (hQ _ (by decide) (by decide))
                · refine zs_icmp_geF (pc := 69) t279_69 rfl rfl (by omega) ?_
                  refine zs_iconst (pc := 72) t279_72 (v := 1) (by decide) ?_
                  refine zs_goto (pc := 73) t279_73 ?_
                  exact zs_iret (pc := 77) t279_77 mr279 (by decide) (hQ _ (by decide) (by decide))
            · refine zs_if_geF (pc := 1) t280_1 rfl (by omega) ?_
              refine zs_iload_n (pc := 4) t280_4 rfl ?_
              obtain ⟨w76v, w76e⟩ : ∃ v, -g = v := ⟨_, rfl⟩
              have w76 := zrg w76v
              refine zs_ineg (pc := 5) t280_5 (c := w76v) w76e ?_
              refine zs_goto (pc := 6) t280_6 ?_
              refine zs_iret (pc := 10) t280_10 mr280 rfl ?_
              show zGo X l 1 0 0 279 57 [(0, .int a), (1, .int b), (2, .int c), (3, .int d), (4, .int e), (5, .int f), (6, .int g), (7, .int h)] [.int w76v, .int w71v] M _
              by_cases w77 : w71v.toInt = w76v.toInt
              · refine zs_icmp_eqT (pc := 57) t279_57 rfl rfl (by omega) ?_
                refine zs_iload_n (pc := 78) t279_78 rfl ?_
                refine zs_iload (pc := 79) t279_79 rfl ?_
                refine zs_icmp_eqF (pc := 81) t279_81 rfl rfl (by omega) ?_
                refine zs_iload_n (pc := 84) t279_84 rfl ?_
                refine zs_iload (pc := 85) t279_85 rfl ?_
                refine zs_icmp_geF (pc := 87) t279_87 rfl rfl (by omega) ?_
                refine zs_iconst (pc := 90) t279_90 (v := 1) (by decide) ?_
                refine zs_goto (pc := 91) t279_91 ?_
                exact zs_iret (pc := 95) t279_95 mr279 (by decide) (hQ _ (by decide) (by decide))
              · refine zs_icmp_eqF (pc := 57) t279_57 rfl rfl (by omega) ?_
                refine zs_iload_n (pc := 60) t279_60 rfl ?_
                refine zs_invS (pc := 61) (as := [.int c]) (st := []) t279_61 (by decide) mf280 rfl rfl ⟨by decide, by decide, Nat.le_of_ble_eq_true rfl, Nat.le_of_ble_eq_true rfl⟩ (zs_in (by decide) mf280 (Nat.le_of_ble_eq_true rfl) ?_) (fun _ _ q => q)
                show zGo X l 0 0 0 280 0 [(0, .int c)] [] M _
                refine zs_iload_n (pc := 0) t280_0 rfl ?_
                refine zs_if_geF (pc := 1) t280_1 rfl (by omega) ?_
                refine zs_iload_n (pc := 4) t280_4 rfl ?_
                obtain ⟨w78v, w78e⟩ : ∃ v, -c = v := ⟨_, rfl⟩
                have w78 := zrg w78v
                refine zs_ineg (pc := 5) t280_5 (c := w78v) w78e ?_
                refine zs_goto (pc := 6) t280_6 ?_
                refine zs_iret (pc := 10) t280_10 mr280 rfl ?_
                show zGo X l 1 0 0 279 64 [(0, .int a), (1, .int b), (2, .int c), (3, .int d), (4, .int e), (5, .int f), (6, .int g), (7, .int h)] [.int w78v] M _
                refine zs_iload (pc := 64) t279_64 rfl ?_
                refine zs_invS (pc := 66) (as := [.int g]) (st := [.int w78v]) t279_66 (by decide) mf280 rfl rfl ⟨by decide, by decide, Nat.le_of_ble_eq_true rfl, Nat.le_of_ble_eq_true rfl⟩ (zs_in (by decide) mf280 (Nat.le_of_ble_eq_true rfl) ?_) (fun _ _ q => q)
                show zGo X l 0 0 0 280 0 [(0, .int g)] [] M _
                refine zs_iload_n (pc := 0) t280_0 rfl ?_
                refine zs_if_geF (pc := 1) t280_1 rfl (by omega) ?_
                refine zs_iload_n (pc := 4) t280_4 rfl ?_
                obtain ⟨w79v, w79e⟩ : ∃ v, -g = v := ⟨_, rfl⟩
                have w79 := zrg w79v
                refine zs_ineg (pc := 5) t280_5 (c := w79v) w79e ?_
                refine zs_goto (pc := 6) t280_6 ?_
                refine zs_iret (pc := 10) t280_10 mr280 rfl ?_
                show zGo X l 1 0 0 279 69 [(0, .int a), (1, .int b), (2, .int c), (3, .int d), (4, .int e), (5, .int f), (6, .int g), (7, .int h)] [.int w79v, .int w78v] M _
                by_cases w80 : w79v.toInt ≤ w78v.toInt
                · refine zs_icmp_geT (pc := 69) t279_69 rfl rfl (by omega) ?_
                  refine zs_iconst (pc := 76) t279_76 (v := 0) (by decide) ?_
                  exact zs_iret (pc := 77) t279_77 mr279 (by decide) (hQ _ (by decide) (by decide))
                · refine zs_icmp_geF (pc := 69) t279_69 rfl rfl (by omega) ?_
                  refine zs_iconst (pc := 72) t279_72 (v := 1) (by decide) ?_
                  refine zs_goto (pc := 73) t279_73 ?_
                  exact zs_iret (pc := 77) t279_77 mr279 (by decide) (hQ _ (by decide) (by decide))
        · refine zs_icmp_eqF (pc := 27) t279_27 rfl rfl (by omega) ?_
          refine zs_iload_n (pc := 30) t279_30 rfl ?_
          refine zs_invS (pc := 31) (as := [.int b]) (st := []) t279_31 (by decide) mf280 rfl rfl ⟨by decide, by decide, Nat.le_of_ble_eq_true rfl, Nat.le_of_ble_eq_true rfl⟩ (zs_in (by decide) mf280 (Nat.le_of_ble_eq_true rfl) ?_) (fun _ _ q => q)
          show zGo X l 0 0 0 280 0 [(0, .int b)] [] M _
          refine zs_iload_n (pc := 0) t280_0 rfl ?_
          refine zs_if_geF (pc := 1) t280_1 rfl (by omega) ?_
          refine zs_iload_n (pc := 4) t280_4 rfl ?_
          obtain ⟨w81v, w81e⟩ : ∃ v, -b = v := ⟨_, rfl⟩
          have w81 := zrg w81v
          refine zs_ineg (pc := 5) t280_5 (c := w81v) w81e ?_
          refine zs_goto (pc := 6) t280_6 ?_
          refine zs_iret (pc := 10) t280_10 mr280 rfl ?_
          show zGo X l 1 0 0 279 34 [(0, .int a), (1, .int b), (2, .int c), (3, .int d), (4, .int e), (5, .int f), (6, .int g), (7, .int h)] [.int w81v] M _
          refine zs_iload (pc := 34) t279_34 rfl ?_
          refine zs_invS (pc := 36) (as := [.int f]) (st := [.int w81v]) t279_36 (by decide) mf280 rfl rfl ⟨by decide, by decide, Nat.le_of_ble_eq_true rfl, Nat.le_of_ble_eq_true rfl⟩ (zs_in (by decide) mf280 (Nat.le_of_ble_eq_true rfl) ?_) (fun _ _ q => q)
          show zGo X l 0 0 0 280 0 [(0, .int f)] [] M _
          refine zs_iload_n (pc := 0) t280_0 rfl ?_
          refine zs_if_geT (pc := 1) t280_1 rfl (by omega) ?_
          refine zs_iload_n (pc := 9) t280_9 rfl ?_
          refine zs_iret (pc := 10) t280_10 mr280 rfl ?_
          show zGo X l 1 0 0 279 39 [(0, .int a), (1, .int b), (2, .int c), (3, .int d), (4, .int e), (5, .int f), (6, .int g), (7, .int h)] [.int f, .int w81v] M _
          by_cases w82 : f.toInt ≤ w81v.toInt
          · refine zs_icmp_geT (pc := 39) t279_39 rfl rfl (by omega) ?_
            refine zs_iconst (pc := 46) t279_46 (v := 0) (by decide) ?_
            exact zs_iret (pc := 47) t279_47 mr279 (by decide) (hQ _ (by decide) (by decide))
          · refine zs_icmp_geF (pc := 39) t279_39 rfl rfl (by omega) ?_
            refine zs_iconst (pc := 42) t279_42 (v := 1) (by decide) ?_
            refine zs_goto (pc := 43) t279_43 ?_
            exact zs_iret (pc := 47) t279_47 mr279 (by decide) (hQ _ (by decide) (by decide))
      · refine zs_if_geF (pc := 1) t280_1 rfl (by omega) ?_
        refine zs_iload_n (pc := 4) t280_4 rfl ?_
        obtain ⟨w83v, w83e⟩ : ∃ v, -f = v := ⟨_, rfl⟩
        have w83 := zrg w83v
        refine zs_ineg (pc := 5) t280_5 (c := w83v) w83e ?_
        refine zs_goto (pc := 6) t280_6 ?_
        refine zs_iret (pc := 10) t280_10 mr280 rfl ?_
        show zGo X l 1 0 0 279 27 [(0, .int a), (1, .int b), (2, .int c), (3, .int d), (4, .int e), (5, .int f), (6, .int g), (7, .int h)] [.int w83v, .int w60v] M _
        by_cases w84 : w60v.toInt = w83v.toInt
        · refine zs_icmp_eqT (pc := 27) t279_27 rfl rfl (by omega) ?_
          refine zs_iload_n (pc := 48) t279_48 rfl ?_
          refine zs_invS (pc := 49) (as := [.int c]) (st := []) t279_49 (by decide) mf280 rfl rfl ⟨by decide, by decide, Nat.le_of_ble_eq_true rfl, Nat.le_of_ble_eq_true rfl⟩ (zs_in (by decide) mf280 (Nat.le_of_ble_eq_true rfl) ?_) (fun _ _ q => q)
          show zGo X l 0 0 0 280 0 [(0, .int c)] [] M _
          refine zs_iload_n (pc := 0) t280_0 rfl ?_
          by_cases w85 : 0 ≤ c.toInt
          · refine zs_if_geT (pc := 1) t280_1 rfl (by omega) ?_
            refine zs_iload_n (pc := 9) t280_9 rfl ?_
            refine zs_iret (pc := 10) t280_10 mr280 rfl ?_
            show zGo X l 1 0 0 279 52 [(0, .int a), (1, .int b), (2, .int c), (3, .int d), (4, .int e), (5, .int f), (6, .int g), (7, .int h)] [.int c] M _
            refine zs_iload (pc := 52) t279_52 rfl ?_
            refine zs_invS (pc := 54) (as := [.int g]) (st := [.int c]) t279_54 (by decide) mf280 rfl rfl ⟨by decide, by decide, Nat.le_of_ble_eq_true rfl, Nat.le_of_ble_eq_true rfl⟩ (zs_in (by decide) mf280 (Nat.le_of_ble_eq_true rfl) ?_) (fun _ _ q => q)
            show zGo X l 0 0 0 280 0 [(0, .int g)] [] M _
            refine zs_iload_n (pc := 0) t280_0 rfl ?_
            by_cases w86 : 0 ≤ g.toInt
            · refine zs_if_geT (pc := 1) t280_1 rfl (by omega) ?_
              refine zs_iload_n (pc := 9) t280_9 rfl ?_
              refine zs_iret (pc := 10) t280_10 mr280 rfl ?_
              show zGo X l 1 0 0 279 57 [(0, .int a), (1, .int b), (2, .int c), (3, .int d), (4, .int e), (5, .int f), (6, .int g), (7, .int h)] [.int g, .int c] M _
              by_cases w87 : c.toInt = g.toInt
              · refine zs_icmp_eqT (pc := 57) t279_57 rfl rfl (by omega) ?_
                refine zs_iload_n (pc := 78) t279_78 rfl ?_
                refine zs_iload (pc := 79) t279_79 rfl ?_
                by_cases w88 : b.toInt = f.toInt
                · refine zs_icmp_eqT (pc := 81) t279_81 rfl rfl (by omega) ?_
                  refine zs_iload_n (pc := 96) t279_96 rfl ?_
                  refine zs_iload (pc := 97) t279_97 rfl ?_
                  by_cases w89 : c.toInt = g.toInt
                  · refine zs_icmp_eqT (pc := 99) t279_99 rfl rfl (by omega) ?_
                    refine zs_iload_n (pc := 116) t279_116 rfl ?_
                    refine zs_iload (pc := 117) t279_117 rfl ?_
                    by_cases w90 : h.toInt ≤ d.toInt
                    · refine zs_icmp_geT (pc := 119) t279_119 rfl rfl (by omega) ?_
                      refine zs_iconst (pc := 126) t279_126 (v := 0) (by decide) ?_
                      exact zs_iret (pc := 127) t279_127 mr279 (by decide) (hQ _ (by decide) (by decide))
                    · refine zs_icmp_geF (pc := 119) t279_119 rfl rfl (by omega) ?_
                      refine zs_iconst (pc := 122) t279_122 (v := 1) (by decide) ?_
                      refine zs_goto (pc := 123) t279_123 ?_
                      exact zs_iret (pc := 127) t279_127 mr279 (by decide) (hQ _ (by decide) (by decide))
                  · refine zs_icmp_eqF (pc := 99) t279_99 rfl rfl (by omega) ?_
                    refine zs_iload_n (pc := 102) t279_102 rfl ?_
                    refine zs_iload (pc := 103) t279_103 rfl ?_
                    by_cases w91 : g.toInt ≤ c.toInt
                    · refine zs_icmp_geT (pc := 105) t279_105 rfl rfl (by omega) ?_
                      refine zs_iconst (pc := 112) t279_112 (v := 0) (by decide) ?_
                      refine zs_goto (pc := 113) t279_113 ?_
                      exact zs_iret (pc := 127) t279_127 mr279 (by decide) (hQ _ (by decide) (by decide))
                    · refine zs_icmp_geF (pc := 105) t279_105 rfl rfl (by omega) ?_
                      refine zs_iconst (pc := 108) t279_108 (v := 1) (by decide) ?_
                      refine zs_goto (pc := 109) t279_109 ?_
                      exact zs_iret (pc := 127) t279_127 mr279 (by decide) (hQ _ (by decide) (by decide))
                · refine zs_icmp_eqF (pc := 81) t279_81 rfl rfl (by omega) ?_
                  refine zs_iload_n (pc := 84) t279_84 rfl ?_
                  refine zs_iload (pc := 85) t279_85 rfl ?_
                  by_cases w92 : f.toInt ≤ b.toInt
                  · refine zs_icmp_geT (pc := 87) t279_87 rfl rfl (by omega) ?_
                    refine zs_iconst (pc := 94) t279_94 (v := 0) (by decide) ?_
                    exact zs_iret (pc := 95) t279_95 mr279 (by decide) (hQ _ (by decide) (by decide))
                  · refine zs_icmp_geF (pc := 87) t279_87 rfl rfl (by omega) ?_
                    refine zs_iconst (pc := 90) t279_90 (v := 1) (by decide) ?_
                    refine zs_goto (pc := 91) t279_91 ?_
                    exact zs_iret (pc := 95) t279_95 mr279 (by decide) (hQ _ (by decide) (by decide))
              · refine zs_icmp_eqF (pc := 57) t279_57 rfl rfl (by omega) ?_
                refine zs_iload_n (pc := 60) t279_60 rfl ?_
                refine zs_invS (pc := 61) (as := [.int c]) (st := []) t279_61 (by decide) mf280 rfl rfl ⟨by decide, by decide, Nat.le_of_ble_eq_true rfl, Nat.le_of_ble_eq_true rfl⟩ (zs_in (by decide) mf280 (Nat.le_of_ble_eq_true rfl) ?_) (fun _ _ q => q)
                show zGo X l 0 0 0 280 0 [(0, .int c)] [] M _
                refine zs_iload_n (pc := 0) t280_0 rfl ?_
                refine zs_if_geT (pc := 1) t280_1 rfl (by omega) ?_
                refine zs_iload_n (pc := 9) t280_9 rfl ?_
                refine zs_iret (pc := 10) t280_10 mr280 rfl ?_
                show zGo X l 1 0 0 279 64 [(0, .int a), (1, .int b), (2, .int c), (3, .int d), (4, .int e), (5, .int f), (6, .int g), (7, .int h)] [.int c] M _
                refine zs_iload (pc := 64) t279_64 rfl ?_
                refine zs_invS (pc := 66) (as := [.int g]) (st := [.int c]) t279_66 (by decide) mf280 rfl rfl ⟨by decide, by decide, Nat.le_of_ble_eq_true rfl, Nat.le_of_ble_eq_true rfl⟩ (zs_in (by decide) mf280 (Nat.le_of_ble_eq_true rfl) ?_) (fun _ _ q => q)
                show zGo X l 0 0 0 280 0 [(0, .int g)] [] M _
                refine zs_iload_n (pc := 0) t280_0 rfl ?_
                refine zs_if_geT (pc := 1) t280_1 rfl (by omega) ?_
                refine zs_iload_n (pc := 9) t280_9 rfl ?_
                refine zs_iret (pc := 10) t280_10 mr280 rfl ?_
                show zGo X l 1 0 0 279 69 [(0, .int a), (1, .int b), (2, .int c), (3, .int d), (4, .int e), (5, .int f), (6, .int g), (7, .int h)] [.int g, .int c] M _
                by_cases w93 : g.toInt ≤ c.toInt
                · refine zs_icmp_geT (pc := 69) t279_69 rfl rfl (by omega) ?_
                  refine zs_iconst (pc := 76) t279_76 (v := 0) (by decide) ?_
                  exact zs_iret (pc := 77) t279_77 mr279 (by decide) (hQ _ (by decide) (by decide))
                · refine zs_icmp_geF (pc := 69) t279_69 rfl rfl (by omega) ?_
                  refine zs_iconst (pc := 72) t279_72 (v := 1) (by decide) ?_
                  refine zs_goto (pc := 73) t279_73 ?_
                  exact zs_iret (pc := 77) t279_77 mr279 (by decide) (hQ _ (by decide) (by decide))
            · refine zs_if_geF (pc := 1) t280_1 rfl (by omega) ?_
              refine zs_iload_n (pc := 4) t280_4 rfl ?_
              obtain ⟨w94v, w94e⟩ : ∃ v, -g = v := ⟨_, rfl⟩
              have w94 := zrg w94v
              refine zs_ineg (pc := 5) t280_5 (c := w94v) w94e ?_
              refine zs_goto (pc := 6) t280_6 ?_
              refine zs_iret (pc := 10) t280_10 mr280 rfl ?_
              show zGo X l 1 0 0 279 57 [(0, .int a), (1, .int b), (2, .int c), (3, .int d), (4, .int e), (5, .int f), (6, .int g), (7, .int h)] [.int w94v, .int c] M _
              by_cases w95 : c.toInt = w94v.toInt
              · refine zs_icmp_eqT (pc := 57) t279_57 rfl rfl (by omega) ?_
                refine zs_iload_n (pc := 78) t279_78 rfl ?_
                refine zs_iload (pc := 79) t279_79 rfl ?_
                by_cases w96 : b.toInt = f.toInt
                · refine zs_icmp_eqT (pc := 81) t279_81 rfl rfl (by omega) ?_
                  refine zs_iload_n (pc := 96) t279_96 rfl ?_
                  refine zs_iload (pc := 97) t279_97 rfl ?_
                  refine zs_icmp_eqF (pc := 99) t279_99 rfl rfl (by omega) ?_
                  refine zs_iload_n (pc := 102) t279_102 rfl ?_
                  refine zs_iload (pc := 103) t279_103 rfl ?_
                  refine zs_icmp_geT (pc := 105) t279_105 rfl rfl (by omega) ?_
                  refine zs_iconst (pc := 112) t279_112 (v := 0) (by decide) ?_
                  refine zs_goto (pc := 113) t279_113 ?_
                  exact zs_iret (pc := 127) t279_127 mr279 (by decide) (hQ _ (by decide) (by decide))
                · refine zs_icmp_eqF (pc := 81) t279_81 rfl rfl (by omega) ?_
                  refine zs_iload_n (pc := 84) t279_84 rfl ?_
                  refine zs_iload (pc := 85) t279_85 rfl ?_
                  by_cases w97 : f.toInt ≤ b.toInt
                  · refine zs_icmp_geT (pc := 87) t279_87 rfl rfl (by omega) ?_
                    refine zs_iconst (pc := 94) t279_94 (v := 0) (by decide) ?_
                    exact zs_iret (pc := 95) t279_95 mr279 (by decide) (hQ _ (by decide) (by decide))
                  · refine zs_icmp_geF (pc := 87) t279_87 rfl rfl (by omega) ?_
                    refine zs_iconst (pc := 90) t279_90 (v := 1) (by decide) ?_
                    refine zs_goto (pc := 91) t279_91 ?_
                    exact zs_iret (pc := 95) t279_95 mr279 (by decide) (hQ _ (by decide) (by decide))
              · refine zs_icmp_eqF (pc := 57) t279_57 rfl rfl (by omega) ?_
                refine zs_iload_n (pc := 60) t279_60 rfl ?_
                refine zs_invS (pc := 61) (as := [.int c]) (st := []) t279_61 (by decide) mf280 rfl rfl ⟨by decide, by decide, Nat.le_of_ble_eq_true rfl, Nat.le_of_ble_eq_true rfl⟩ (zs_in (by decide) mf280 (Nat.le_of_ble_eq_true rfl) ?_) (fun _ _ q => q)
                show zGo X l 0 0 0 280 0 [(0, .int c)] [] M _
                refine zs_iload_n (pc := 0) t280_0 rfl ?_
                refine zs_if_geT (pc := 1) t280_1 rfl (by omega) ?_
                refine zs_iload_n (pc := 9) t280_9 rfl ?_
                refine zs_iret (pc := 10) t280_10 mr280 rfl ?_
                show zGo X l 1 0 0 279 64 [(0, .int a), (1, .int b), (2, .int c), (3, .int d), (4, .int e), (5, .int f), (6, .int g), (7, .int h)] [.int c] M _
                refine zs_iload (pc := 64) t279_64 rfl ?_
                refine zs_invS (pc := 66) (as := [.int g]) (st := [.int c]) t279_66 (by decide) mf280 rfl rfl ⟨by decide, by decide, Nat.le_of_ble_eq_true rfl, Nat.le_of_ble_eq_true rfl⟩ (zs_in (by decide) mf280 (Nat.le_of_ble_eq_true rfl) ?_) (fun _ _ q => q)
                show zGo X l 0 0 0 280 0 [(0, .int g)] [] M _
                refine zs_iload_n (pc := 0) t280_0 rfl ?_
                refine zs_if_geF (pc := 1) t280_1 rfl (by omega) ?_
                refine zs_iload_n (pc := 4) t280_4 rfl ?_
                obtain ⟨w98v, w98e⟩ : ∃ v, -g = v := ⟨_, rfl⟩
                have w98 := zrg w98v
                refine zs_ineg (pc := 5) t280_5 (c := w98v) w98e ?_
                refine zs_goto (pc := 6) t280_6 ?_
                refine zs_iret (pc := 10) t280_10 mr280 rfl ?_
                show zGo X l 1 0 0 279 69 [(0, .int a), (1, .int b), (2, .int c), (3, .int d), (4, .int e), (5, .int f), (6, .int g), (7, .int h)] [.int w98v, .int c] M _
                by_cases w99 : w98v.toInt ≤ c.toInt
                · refine zs_icmp_geT (pc := 69) t279_69 rfl rfl (by omega) ?_
                  refine zs_iconst (pc := 76) t279_76 (v := 0) (by decide) ?_
                  exact zs_iret (pc := 77) t279_77 mr279 (by decide) (hQ _ (by decide) (by decide))
                · refine zs_icmp_geF (pc := 69) t279_69 rfl rfl (by omega) ?_
                  refine zs_iconst (pc := 72) t279_72 (v := 1) (by decide) ?_
                  refine zs_goto (pc := 73) t279_73 ?_
                  exact zs_iret (pc := 77) t279_77 mr279 (by decide) (hQ _ (by decide) (by decide))
          · refine zs_if_geF (pc := 1) t280_1 rfl (by omega) ?_
            refine zs_iload_n (pc := 4) t280_4 rfl ?_
            obtain ⟨w100v, w100e⟩ : ∃ v, -c = v := ⟨_, rfl⟩
            have w100 := zrg w100v
            refine zs_ineg (pc := 5) t280_5 (c := w100v) w100e ?_
            refine zs_goto (pc := 6) t280_6 ?_
            refine zs_iret (pc := 10) t280_10 mr280 rfl ?_
            show zGo X l 1 0 0 279 52 [(0, .int a), (1, .int b), (2, .int c), (3, .int d), (4, .int e), (5, .int f), (6, .int g), (7, .int h)] [.int w100v] M _
            refine zs_iload (pc := 52) t279_52 rfl ?_
            refine zs_invS (pc := 54) (as := [.int g]) (st := [.int w100v]) t279_54 (by decide) mf280 rfl rfl ⟨by decide, by decide, Nat.le_of_ble_eq_true rfl, Nat.le_of_ble_eq_true rfl⟩ (zs_in (by decide) mf280 (Nat.le_of_ble_eq_true rfl) ?_) (fun _ _ q => q)
            show zGo X l 0 0 0 280 0 [(0, .int g)] [] M _
            refine zs_iload_n (pc := 0) t280_0 rfl ?_
            by_cases w101 : 0 ≤ g.toInt
            · refine zs_if_geT (pc := 1) t280_1 rfl (by omega) ?_
              refine zs_iload_n (pc := 9) t280_9 rfl ?_
              refine zs_iret (pc := 10) t280_10 mr280 rfl ?_
              show zGo X l 1 0 0 279 57 [(0, .int a), (1, .int b), (2, .int c), (3, .int d), (4, .int e), (5, .int f), (6, .int g), (7, .int h)] [.int g, .int w100v] M _
              by_cases w102 : w100v.toInt = g.toInt
              · refine zs_icmp_eqT (pc := 57) t279_57 rfl rfl (by omega) ?_
                refine zs_iload_n (pc := 78) t279_78 rfl ?_
                refine zs_iload (pc := 79) t279_79 rfl ?_
                by_cases w103 : b.toInt = f.toInt
                · refine zs_icmp_eqT (pc := 81) t279_81 rfl rfl (by omega) ?_
                  refine zs_iload_n (pc := 96) t279_96 rfl ?_
                  refine zs_iload (pc := 97) t279_97 rfl ?_
                  refine zs_icmp_eqF (pc := 99) t279_99 rfl rfl (by omega) ?_
                  refine zs_iload_n (pc := 102) t279_102 rfl ?_
                  refine zs_iload (pc := 103) t279_103 rfl ?_
                  refine zs_icmp_geF (pc := 105) t279_105 rfl rfl (by omega) ?_
                  refine zs_iconst (pc := 108) t279_108 (v := 1) (by decide) ?_
                  refine zs_goto (pc := 109) t279_109 ?_
                  exact zs_iret (pc := 127) t279_127 mr279 (by decide) (hQ _ (by decide) (by decide))
                · refine zs_icmp_eqF (pc := 81) t279_81 rfl rfl (by omega) ?_
                  refine zs_iload_n (pc := 84) t279_84 rfl ?_
                  refine zs_iload (pc := 85) t279_85 rfl ?_
                  by_cases w104 : f.toInt ≤ b.toInt
                  · refine zs_icmp_geT (pc := 87) t279_87 rfl rfl (by omega) ?_
                    refine zs_iconst (pc := 94) t279_94 (v := 0) (by decide) ?_
                    exact zs_iret (pc := 95) t279_95 mr279 (by decide) (hQ _ (by decide) (by decide))
                  · refine zs_icmp_geF (pc := 87) t279_87 rfl rfl (by omega) ?_
                    refine zs_iconst (pc := 90) t279_90 (v := 1) (by decide) ?_
                    refine zs_goto (pc := 91) t279_91 ?_
                    exact zs_iret (pc := 95) t279_95 mr279 (by decide) (hQ _ (by decide) (by decide))
              · refine zs_icmp_eqF (pc := 57) t279_57 rfl rfl (by omega) ?_
                refine zs_iload_n (pc := 60) t279_60 rfl ?_
                refine zs_invS (pc := 61) (as := [.int c]) (st := []) t279_61 (by decide) mf280 rfl rfl ⟨by decide, by decide, Nat.le_of_ble_eq_true rfl, Nat.le_of_ble_eq_true rfl⟩ (zs_in (by decide) mf280 (Nat.le_of_ble_eq_true rfl) ?_) (fun _ _ q => q)
                show zGo X l 0 0 0 280 0 [(0, .int c)] [] M _
                refine zs_iload_n (pc := 0) t280_0 rfl ?_
                refine zs_if_geF (pc := 1) t280_1 rfl (by omega) ?_
                refine zs_iload_n (pc := 4) t280_4 rfl ?_
                obtain ⟨w105v, w105e⟩ : ∃ v, -c = v := ⟨_, rfl⟩
                have w105 := zrg w105v
                refine zs_ineg (pc := 5) t280_5 (c := w105v) w105e ?_
                refine zs_goto (pc := 6) t280_6 ?_
                refine zs_iret (pc := 10) t280_10 mr280 rfl ?_
                show zGo X l 1 0 0 279 64 [(0, .int a), (1, .int b), (2, .int c), (3, .int d), (4, .int e), (5, .int f), (6, .int g), (7, .int h)] [.int w105v] M _
                refine zs_iload (pc := 64) t279_64 rfl ?_
                refine zs_invS (pc := 66) (as := [.int g]) (st := [.int w105v]) t279_66 (by decide) mf280 rfl rfl ⟨by decide, by decide, Nat.le_of_ble_eq_true rfl, Nat.le_of_ble_eq_true rfl⟩ (zs_in (by decide) mf280 (Nat.le_of_ble_eq_true rfl) ?_) (fun _ _ q => q)
                show zGo X l 0 0 0 280 0 [(0, .int g)] [] M _
                refine zs_iload_n (pc := 0) t280_0 rfl ?_
                refine zs_if_geT (pc := 1) t280_1 rfl (by omega) ?_
                refine zs_iload_n (pc := 9) t280_9 rfl ?_
                refine zs_iret (pc := 10) t280_10 mr280 rfl ?_
                show zGo X l 1 0 0 279 69 [(0, .int a), (1, .int b), (2, .int c), (3, .int d), (4, .int e), (5, .int f), (6, .int g), (7, .int h)] [.int g, .int w105v] M _
                by_cases w106 : g.toInt ≤ w105v.toInt
                · refine zs_icmp_geT (pc := 69) t279_69 rfl rfl (by omega) ?_
                  refine zs_iconst (pc := 76) t279_76 (v := 0) (by decide) ?_
                  exact zs_iret (pc := 77) t279_77 mr279 (by decide) (hQ _ (by decide) (by decide))
                · refine zs_icmp_geF (pc := 69) t279_69 rfl rfl (by omega) ?_
                  refine zs_iconst (pc := 72) t279_72 (v := 1) (by decide) ?_
                  refine zs_goto (pc := 73) t279_73 ?_
                  exact zs_iret (pc := 77) t279_77 mr279 (by decide) (hQ _ (by decide) (by decide))
            · refine zs_if_geF (pc := 1) t280_1 rfl (by omega) ?_
              refine zs_iload_n (pc := 4) t280_4 rfl ?_
              obtain ⟨w107v, w107e⟩ : ∃ v, -g = v := ⟨_, rfl⟩
              have w107 := zrg w107v
              refine zs_ineg (pc := 5) t280_5 (c := w107v) w107e ?_
              refine zs_goto (pc := 6) t280_6 ?_
              refine zs_iret (pc := 10) t280_10 mr280 rfl ?_
              show zGo X l 1 0 0 279 57 [(0, .int a), (1, .int b), (2, .int c), (3, .int d), (4, .int e), (5, .int f), (6, .int g), (7, .int h)] [.int w107v, .int w100v] M _
              by_cases w108 : w100v.toInt = w107v.toInt
              · refine zs_icmp_eqT (pc := 57) t279_57 rfl rfl (by omega) ?_
                refine zs_iload_n (pc := 78) t279_78 rfl ?_
                refine zs_iload (pc := 79) t279_79 rfl ?_
                by_cases w109 : b.toInt = f.toInt
                · refine zs_icmp_eqT (pc := 81) t279_81 rfl rfl (by omega) ?_
                  refine zs_iload_n (pc := 96) t279_96 rfl ?_
                  refine zs_iload (pc := 97) t279_97 rfl ?_
                  by_cases w110 : c.toInt = g.toInt
                  · refine zs_icmp_eqT (pc := 99) t279_99 rfl rfl (by omega) ?_
                    refine zs_iload_n (pc := 116) t279_116 rfl ?_
                    refine zs_iload (pc := 117) t279_117 rfl ?_
                    by_cases w111 : h.toInt ≤ d.toInt
                    · refine zs_icmp_geT (pc := 119) t279_119 rfl rfl (by omega) ?_
                      refine zs_iconst (pc := 126) t279_126 (v := 0) (by decide) ?_
                      exact zs_iret (pc := 127) t279_127 mr279 (by decide) (hQ _ (by decide) (by decide))
                    · refine zs_icmp_geF (pc := 119) t279_119 rfl rfl (by omega) ?_
                      refine zs_iconst (pc := 122) t279_122 (v := 1) (by decide) ?_
                      refine zs_goto (pc := 123) t279_123 ?_
                      exact zs_iret (pc := 127) t279_127 mr279 (by decide) (hQ _ (by decide) (by decide))
                  · refine zs_icmp_eqF (pc := 99) t279_99 rfl rfl (by omega) ?_
                    refine zs_iload_n (pc := 102) t279_102 rfl ?_
                    refine zs_iload (pc := 103) t279_103 rfl ?_
                    by_cases w112 : g.toInt ≤ c.toInt
                    · refine zs_icmp_geT (pc := 105) t279_105 rfl rfl (by omega) ?_
                      refine zs_iconst (pc := 112) t279_112 (v := 0) (by decide) ?_
                      refine zs_goto (pc := 113) t279_113 ?_
                      exact zs_iret (pc := 127) t279_127 mr279 (by decide) (hQ _ (by decide) (by decide))
                    · refine zs_icmp_geF (pc := 105) t279_105 rfl rfl (by omega) ?_
                      refine zs_iconst (pc := 108) t279_108 (v := 1) (by decide) ?_
                      refine zs_goto (pc := 109) t279_109 ?_
                      exact zs_iret (pc := 127) t279_127 mr279 (by decide) (hQ _ (by decide) (by decide))
                · refine zs_icmp_eqF (pc := 81) t279_81 rfl rfl (by omega) ?_
                  refine zs_iload_n (pc := 84) t279_84 rfl ?_
                  refine zs_iload (pc := 85) t279_85 rfl ?_
                  by_cases w113 : f.toInt ≤ b.toInt
                  · refine zs_icmp_geT (pc := 87) t279_87 rfl rfl (by omega) ?_
                    refine zs_iconst (pc := 94) t279_94 (v := 0) (by decide) ?_
                    exact zs_iret (pc := 95) t279_95 mr279 (by decide) (hQ _ (by decide) (by decide))
                  · refine zs_icmp_geF (pc := 87) t279_87 rfl rfl (by omega) ?_
                    refine zs_iconst (pc := 90) t279_90 (v := 1) (by decide) ?_
                    refine zs_goto (pc := 91) t279_91 ?_
                    exact zs_iret (pc := 95) t279_95 mr279 (by decide) (hQ _ (by decide) (by decide))
              · refine zs_icmp_eqF (pc := 57) t279_57 rfl rfl (by omega) ?_
                refine zs_iload_n (pc := 60) t279_60 rfl ?_
                refine zs_invS (pc := 61) (as := [.int c]) (st := []) t279_61 (by decide) mf280 rfl rfl ⟨by decide, by decide, Nat.le_of_ble_eq_true rfl, Nat.le_of_ble_eq_true rfl⟩ (zs_in (by decide) mf280 (Nat.le_of_ble_eq_true rfl) ?_) (fun _ _ q => q)
                show zGo X l 0 0 0 280 0 [(0, .int c)] [] M _
                refine zs_iload_n (pc := 0) t280_0 rfl ?_
                refine zs_if_geF (pc := 1) t280_1 rfl (by omega) ?_
                refine zs_iload_n (pc := 4) t280_4 rfl ?_
                obtain ⟨w114v, w114e⟩ : ∃ v, -c = v := ⟨_, rfl⟩
                have w114 := zrg w114v
                refine zs_ineg (pc := 5) t280_5 (c := w114v) w114e ?_
                refine zs_goto (pc := 6) t280_6 ?_
                refine zs_iret (pc := 10) t280_10 mr280 rfl ?_
                show zGo X l 1 0 0 279 64 [(0, .int a), (1, .int b), (2, .int c), (3, .int d), (4, .int e), (5, .int f), (6, .int g), (7, .int h)] [.int w114v] M _
                refine zs_iload (pc := 64) t279_64 rfl ?_
                refine zs_invS (pc := 66) (as := [.int g]) (st := [.int w114v]) t279_66 (by decide) mf280 rfl rfl ⟨by decide, by decide, Nat.le_of_ble_eq_true rfl, Nat.le_of_ble_eq_true rfl⟩ (zs_in (by decide) mf280 (Nat.le_of_ble_eq_true rfl) ?_) (fun _ _ q => q)
                show zGo X l 0 0 0 280 0 [(0, .int g)] [] M _
                refine zs_iload_n (pc := 0) t280_0 rfl ?_
                refine zs_if_geF (pc := 1) t280_1 rfl (by omega) ?_
                refine zs_iload_n (pc := 4) t280_4 rfl ?_
                obtain ⟨w115v, w115e⟩ : ∃ v, -g = v := ⟨_, rfl⟩
                have w115 := zrg w115v
                refine zs_ineg (pc := 5) t280_5 (c := w115v) w115e ?_
                refine zs_goto (pc := 6) t280_6 ?_
                refine zs_iret (pc := 10) t280_10 mr280 rfl ?_
                show zGo X l 1 0 0 279 69 [(0, .int a), (1, .int b), (2, .int c), (3, .int d), (4, .int e), (5, .int f), (6, .int g), (7, .int h)] [.int w115v, .int w114v] M _
                by_cases w116 : w115v.toInt ≤ w114v.toInt
                · refine zs_icmp_geT (pc := 69) t279_69 rfl rfl (by omega) ?_
                  refine zs_iconst (pc := 76) t279_76 (v := 0) (by decide) ?_
                  exact zs_iret (pc := 77) t279_77 mr279 (by decide) (hQ _ (by decide) (by decide))
                · refine zs_icmp_geF (pc := 69) t279_69 rfl rfl (by omega) ?_
                  refine zs_iconst (pc := 72) t279_72 (v := 1) (by decide) ?_
                  refine zs_goto (pc := 73) t279_73 ?_
                  exact zs_iret (pc := 77) t279_77 mr279 (by decide) (hQ _ (by decide) (by decide))
        · refine zs_icmp_eqF (pc := 27) t279_27 rfl rfl (by omega) ?_
          refine zs_iload_n (pc := 30) t279_30 rfl ?_
          refine zs_invS (pc := 31) (as := [.int b]) (st := []) t279_31 (by decide) mf280 rfl rfl ⟨by decide, by decide, Nat.le_of_ble_eq_true rfl, Nat.le_of_ble_eq_true rfl⟩ (zs_in (by decide) mf280 (Nat.le_of_ble_eq_true rfl) ?_) (fun _ _ q => q)
          show zGo X l 0 0 0 280 0 [(0, .int b)] [] M _
          refine zs_iload_n (pc := 0) t280_0 rfl ?_
          refine zs_if_geF (pc := 1) t280_1 rfl (by omega) ?_
          refine zs_iload_n (pc := 4) t280_4 rfl ?_
          obtain ⟨w117v, w117e⟩ : ∃ v, -b = v := ⟨_, rfl⟩
          have w117 := zrg w117v
          refine zs_ineg (pc := 5) t280_5 (c := w117v) w117e ?_
          refine zs_goto (pc := 6) t280_6 ?_
          refine zs_iret (pc := 10) t280_10 mr280 rfl ?_
          show zGo X l 1 0 0 279 34 [(0, .int a), (1, .int b), (2, .int c), (3, .int d), (4, .int e), (5, .int f), (6, .int g), (7, .int h)] [.int w117v] M _
          refine zs_iload (pc := 34) t279_34 rfl ?_
          refine zs_invS (pc := 36) (as := [.int f]) (st := [.int w117v]) t279_36 (by decide) mf280 rfl rfl ⟨by decide, by decide, Nat.le_of_ble_eq_true rfl, Nat.le_of_ble_eq_true rfl⟩ (zs_in (by decide) mf280 (Nat.le_of_ble_eq_true rfl) ?_) (fun _ _ q => q)
          show zGo X l 0 0 0 280 0 [(0, .int f)] [] M _
          refine zs_iload_n (pc := 0) t280_0 rfl ?_
          refine zs_if_geF (pc := 1) t280_1 rfl (by omega) ?_
          refine zs_iload_n (pc := 4) t280_4 rfl ?_
          obtain ⟨w118v, w118e⟩ : ∃ v, -f = v := ⟨_, rfl⟩
          have w118 := zrg w118v
          refine zs_ineg (pc := 5) t280_5 (c := w118v) w118e ?_
          refine zs_goto (pc := 6) t280_6 ?_
          refine zs_iret (pc := 10) t280_10 mr280 rfl ?_
          show zGo X l 1 0 0 279 39 [(0, .int a), (1, .int b), (2, .int c), (3, .int d), (4, .int e), (5, .int f), (6, .int g), (7, .int h)] [.int w118v, .int w117v] M _
          by_cases w119 : w118v.toInt ≤ w117v.toInt
          · refine zs_icmp_geT (pc := 39) t279_39 rfl rfl (by omega) ?_
            refine zs_iconst (pc := 46) t279_46 (v := 0) (by decide) ?_
            exact zs_iret (pc := 47) t279_47 mr279 (by decide) (hQ _ (by decide) (by decide))
          · refine zs_icmp_geF (pc := 39) t279_39 rfl rfl (by omega) ?_
            refine zs_iconst (pc := 42) t279_42 (v := 1) (by decide) ?_
            refine zs_goto (pc := 43) t279_43 ?_
            exact zs_iret (pc := 47) t279_47 mr279 (by decide) (hQ _ (by decide) (by decide))
  · refine zs_icmp_eqF (pc := 3) t279_3 rfl rfl (by omega) ?_
    refine zs_iload_n (pc := 6) t279_6 rfl ?_
    refine zs_iload (pc := 7) t279_7 rfl ?_
    by_cases w120 : a.toInt ≤ e.toInt
    · refine zs_icmp_leT (pc := 9) t279_9 rfl rfl (by omega) ?_
      refine zs_iconst (pc := 16) t279_16 (v := 0) (by decide) ?_
      exact zs_iret (pc := 17) t279_17 mr279 (by decide) (hQ _ (by decide) (by decide))
    · refine zs_icmp_leF (pc := 9) t279_9 rfl rfl (by omega) ?_
      refine zs_iconst (pc := 12) t279_12 (v := 1) (by decide) ?_
      refine zs_goto (pc := 13) t279_13 ?_
      exact zs_iret (pc := 17) t279_17 mr279 (by decide) (hQ _ (by decide) (by decide))
