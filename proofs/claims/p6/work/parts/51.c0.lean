theorem T233 {X : zX} {l : Launch} {M : zM} {Q : Option Value → zM → Prop} {a : Int32} (hs : zSk zMm M) (hI : zIv mLo mHi M) (pR : zPR M) (pC : zPC M) (pF : zPF M) (hQ : ∀ (M' : zM) (v : Int32), zSk zMm M' → zIv mLo mHi M' → zFr [(336, 336, some 5)] M M' → zJ M' 351 = zJ M 351 → zPR M' → zPC M' → zPF M' → ((v.toInt = a.toInt ∧ 0 ≤ a.toInt ∧ a.toInt ≤ (zI M 336 5).toInt ∧ (zI M' 336 5).toInt = a.toInt) ∨ (v.toInt = -1 ∧ (a.toInt < 0 ∨ (zI M 336 5).toInt < a.toInt) ∧ (zI M' 336 5).toInt = (zI M 336 5).toInt)) → Q (some (.int v)) M') : zCall X l 1 0 0 233 [.ref 336, .int a] M Q := by
  have ga := zrg a
  refine zs_in (by decide) mf233 (Nat.le_of_ble_eq_true rfl) ?_
  show zGo X l 1 0 0 233 0 [(0, .ref 336), (1, .int a)] [] M _
  refine zs_iload_n (pc := 0) t233_0 rfl ?_
  refine zs_i2l (pc := 1) t233_1 rfl ?_
  refine zs_lconst (pc := 2) t233_2 (v := 0) (by decide) ?_
  refine zs_aload_n (pc := 3) t233_3 rfl ?_
  have w1 := ib336_5 hI
  refine zs_get (pc := 4) t233_4 (by decide) (zk1 (hs.k fk_zMm_336)) (zfvi rfl rfl) ?_
  refine zs_i2l (pc := 7) t233_7 rfl ?_
  by_cases w2 : 0 ≤ a.toInt ∧ a.toInt ≤ (zI M 336 5).toInt
  · refine zs_invS (pc := 8) (as := [.long a.toInt64, .long (0 : Int64), .long (zI M 336 5).toInt64]) (st := []) t233_8 (by decide) mf228 rfl rfl ⟨by decide, by decide, Nat.le_of_ble_eq_true rfl, Nat.le_of_ble_eq_true rfl⟩ (K228T (zi2l rfl) ll0 (zi2l rfl) (by omega) ?_) (fun _ _ q => q)
    show zGo X l 1 0 0 233 11 [(0, .ref 336), (1, .int a)] [.int (1 : Int32)] M _
    refine zs_if_neT (pc := 11) t233_11 li1 (by decide) ?_
    refine zs_aload_n (pc := 16) t233_16 rfl ?_
    refine zs_iload_n (pc := 17) t233_17 rfl ?_
    have w3 : zIv mLo mHi (zsI M 336 5 a) := zIv.put hI (show 0 ≤ a.toInt ∧ a.toInt ≤ 500 from ⟨by omega, by omega⟩)
    refine zs_putI (pc := 18) t233_18 (zk1 (hs.k fk_zMm_336)) rfl ?_
    refine zs_iload_n (pc := 21) t233_21 rfl ?_
    have w4 : (zI (zsI M 336 5 a) 336 5).toInt = a.toInt := (congrArg Int32.toInt zIs).trans rfl
    exact zs_iret (pc := 22) t233_22 mr233 rfl (hQ _ _ hs w3 ((zFr.refl).put rfl) rfl (zPR.fr (M' := (zsI M 336 5 a)) pR (zEq.put rfl)) (zPC.fr (M' := (zsI M 336 5 a)) pC (zEq.put rfl)) (zPF.fr (M' := (zsI M 336 5 a)) pF (zEq.put rfl) rfl) (by omega))
  · refine zs_invS (pc := 8) (as := [.long a.toInt64, .long (0 : Int64), .long (zI M 336 5).toInt64]) (st := []) t233_8 (by decide) mf228 rfl rfl ⟨by decide, by decide, Nat.le_of_ble_eq_true rfl, Nat.le_of_ble_eq_true rfl⟩ (K228F (zi2l rfl) ll0 (zi2l rfl) (by omega) ?_) (fun _ _ q => q)
    show zGo X l 1 0 0 233 11 [(0, .ref 336), (1, .int a)] [.int (0 : Int32)] M _
    refine zs_if_neF (pc := 11) t233_11 li0 (by decide) ?_
    refine zs_iconst (pc := 14) t233_14 (v := -1) (by decide) ?_
    have w5 : (zI M 336 5).toInt = (zI M 336 5).toInt := (congrArg Int32.toInt rfl).trans rfl
    have w6 := lin1
    exact zs_iret (pc := 15) t233_15 mr233 (by decide) (hQ _ _ hs hI (zFr.refl) rfl pR pC pF (by omega))
theorem T234 {X : zX} {l : Launch} {M : zM} {Q : Option Value → zM → Prop} (hs : zSk zMm M) (hI : zIv mLo mHi M) (pR : zPR M) (pC : zPC M) (pF : zPF M) (hQ : ∀ (M' : zM) (v : Int32), zSk zMm M' → zIv mLo mHi M' → zFr [(336, 336, some 3), (336, 336, some 18), (336, 336, some 19), (336, 336, some 20), (336, 336, some 21), (336, 336, some 22), (336, 336, some 37), (336, 336, some 39), (336, 336, some 42), (336, 336, some 43), (336, 336, some 44), (336, 336, some 45), (342, 361, none)] M M' → zPR M' → zPC M' → zPF M' → Q (some (.int v)) M') : zCall X l 0 0 0 234 [.ref 336] M Q := by
  refine zs_in (by decide) mf234 (Nat.le_of_ble_eq_true rfl) ?_
  show zGo X l 0 0 0 234 0 [(0, .ref 336)] [] M _
  refine zs_aload_n (pc := 0) t234_0 rfl ?_
  have w1 := ib336_7 hI
  refine zs_get (pc := 1) t234_1 (by decide) (zk1 (hs.k fk_zMm_336)) (zfvi rfl rfl) ?_
  exact zs_iret (pc := 4) t234_4 mr234 rfl (hQ _ _ hs hI (zFr.refl) pR pC pF)
theorem T345 {X : zX} {l : Launch} {M : zM} {Q : Option Value → zM → Prop} (hs : zSk zMm M) (hI : zIv mLo mHi M) (pR : zPR M) (pC : zPC M) (pF : zPF M) (hQ : ∀ (M' : zM) (v : Int32), zSk zMm M' → zIv mLo mHi M' → zFr [(336, 336, some 3), (336, 336, some 18), (336, 336, some 19), (336, 336, some 20), (336, 336, some 21), (336, 336, some 22), (336, 336, some 37), (336, 336, some 39), (336, 336, some 42), (336, 336, some 43), (336, 336, some 44), (336, 336, some 45), (342, 361, none)] M M' → zPR M' → zPC M' → zPF M' → Q (some (.int v)) M') : zCall X l 0 0 0 345 [.ref 336] M Q := by
  refine zs_in (by decide) mf345 (Nat.le_of_ble_eq_true rfl) ?_
  show zGo X l 0 0 0 345 0 [(0, .ref 336)] [] M _
  refine zs_aload_n (pc := 0) t345_0 rfl ?_
  have w1 := zrg (zI M 336 48)
  refine zs_get (pc := 1) t345_1 (by decide) (zk1 (hs.k fk_zMm_336)) (zfvi rfl rfl) ?_
  exact zs_iret (pc := 4) t345_4 mr345 rfl (hQ _ _ hs hI (zFr.refl) pR pC pF)
theorem T304 {X : zX} {l : Launch} {M : zM} {Q : Option Value → zM → Prop} {a : Int32} (hs : zSk zMm M) (hI : zIv mLo mHi M) (pR : zPR M) (pC : zPC M) (pF : zPF M) (hQ : ∀ (M' : zM) (v : Int32), zSk zMm M' → zIv mLo mHi M' → zFr [(336, 336, some 3), (336, 336, some 18), (336, 336, some 19), (336, 336, some 20), (336, 336, some 21), (336, 336, some 22), (336, 336, some 37), (336, 336, some 39), (336, 336, some 42), (336, 336, some 43), (336, 336, some 44), (336, 336, some 45), (342, 361, none)] M M' → zPR M' → zPC M' → zPF M' → Q (some (.int v)) M') : zCall X l 3 0 0 304 [.ref 336, .int a] M Q := by
  have ga := zrg a
  refine zs_in (by decide) mf304 (Nat.le_of_ble_eq_true rfl) ?_
  show zGo X l 3 0 0 304 0 [(0, .ref 336), (1, .int a)] [] M _
  refine zs_iload_n (pc := 0) t304_0 rfl ?_
  by_cases w1 : a.toInt = 0
  · refine zs_tswI (pc := 1) t304_1 ((rfl : a.toInt = a.toInt).trans w1) (by decide) rfl (pc2 := 80) rfl ?_
    refine zs_aload_n (pc := 80) t304_80 rfl ?_
    refine zs_get (pc := 81) t304_81 (by decide) (zk1 (hs.k fk_zMm_336)) (hs.p rfl fv_zMm_336_0) ?_
    refine zs_iconst (pc := 84) t304_84 (v := 0) (by decide) ?_
    have w2 := ibA0 hI
    refine zs_iald (pc := 85) t304_85 (j := 0) (by decide) (zk1 (hs.k fk_zMm_337)) li0 (zk2 (hs.k fk_zMm_337) (by decide)) rfl ?_
    exact zs_iret (pc := 86) t304_86 mr304 rfl (hQ _ _ hs hI (zFr.refl) pR pC pF)
  by_cases w3 : a.toInt = 1
  · refine zs_tswI (pc := 1) t304_1 ((rfl : a.toInt = a.toInt).trans w3) (by decide) rfl (pc2 := 87) rfl ?_
    refine zs_aload_n (pc := 87) t304_87 rfl ?_
    refine zs_invV (pc := 88) (k := 336) (as' := []) (st := []) t304_88 mf292 rfl rfl (Or.inl ⟨by decide, (zk1 (hs.k fk_zMm_336))⟩) ⟨by decide, by decide, Nat.le_of_ble_eq_true rfl, Nat.le_of_ble_eq_true rfl⟩ (K292 hs hI ?_) (fun _ _ q => q)
    intro w4v
    have w4g := zrg w4v
    show zGo X l 3 0 0 304 91 [(0, .ref 336), (1, .int a)] [.int w4v] M _
    exact zs_iret (pc := 91) t304_91 mr304 rfl (hQ _ _ hs hI (zFr.refl) pR pC pF)
  by_cases w5 : a.toInt = 2
  · refine zs_tswI (pc := 1) t304_1 ((rfl : a.toInt = a.toInt).trans w5) (by decide) rfl (pc2 := 92) rfl ?_
    refine zs_aload_n (pc := 92) t304_92 rfl ?_
    refine zs_get (pc := 93) t304_93 (by decide) (zk1 (hs.k fk_zMm_336)) (hs.p rfl fv_zMm_336_0) ?_
    refine zs_iconst (pc := 96) t304_96 (v := 1) (by decide) ?_
    have w6 := ibA1 hI
    refine zs_iald (pc := 97) t304_97 (j := 1) (by decide) (zk1 (hs.k fk_zMm_337)) li1 (zk2 (hs.k fk_zMm_337) (by decide)) rfl ?_
    exact zs_iret (pc := 98) t304_98 mr304 rfl (hQ _ _ hs hI (zFr.refl) pR pC pF)
  by_cases w7 : a.toInt = 3
  · refine zs_tswI (pc := 1) t304_1 ((rfl : a.toInt = a.toInt).trans w7) (by decide) rfl (pc2 := 99) rfl ?_
    refine zs_aload_n (pc := 99) t304_99 rfl ?_
    refine zs_iconst (pc := 100) t304_100 (v := -1) (by decide) ?_
    refine zs_invV (pc := 101) (k := 336) (as' := [.int (-1 : Int32)]) (st := []) t304_101 mf290 rfl rfl (Or.inl ⟨by decide, (zk1 (hs.k fk_zMm_336))⟩) ⟨by decide, by decide, Nat.le_of_ble_eq_true rfl, Nat.le_of_ble_eq_true rfl⟩ (K290 hs hI ?_) (fun _ _ q => q)
    intro w8v
    have w8g := zrg w8v
    show zGo X l 3 0 0 304 104 [(0, .ref 336), (1, .int a)] [.int w8v] M _
    exact zs_iret (pc := 104) t304_104 mr304 rfl (hQ _ _ hs hI (zFr.refl) pR pC pF)
  by_cases w9 : a.toInt = 4
  · refine zs_tswI (pc := 1) t304_1 ((rfl : a.toInt = a.toInt).trans w9) (by decide) rfl (pc2 := 105) rfl ?_
    refine zs_aload_n (pc := 105) t304_105 rfl ?_
    refine zs_get (pc := 106) t304_106 (by decide) (zk1 (hs.k fk_zMm_336)) (hs.p rfl fv_zMm_336_0) ?_
    refine zs_iconst (pc := 109) t304_109 (v := 2) (by decide) ?_
    have w10 := ibA2 hI
    refine zs_iald (pc := 110) t304_110 (j := 2) (by decide) (zk1 (hs.k fk_zMm_337)) li2 (zk2 (hs.k fk_zMm_337) (by decide)) rfl ?_
    exact zs_iret (pc := 111) t304_111 mr304 rfl (hQ _ _ hs hI (zFr.refl) pR pC pF)
  by_cases w11 : a.toInt = 5
  · refine zs_tswI (pc := 1) t304_1 ((rfl : a.toInt = a.toInt).trans w11) (by decide) rfl (pc2 := 122) rfl ?_
    refine zs_iload_n (pc := 122) t304_122 rfl ?_
    refine zs_i2l (pc := 123) t304_123 rfl ?_
    refine zs_ldc2_w (pc := 124) t304_124 (v := 5) (by decide) ?_
    refine zs_ldc2_w (pc := 127) t304_127 (v := 13) (by decide) ?_
    refine zs_invS (pc := 130) (as := [.long a.toInt64, .long (5 : Int64), .long (13 : Int64)]) (st := []) t304_130 (by decide) mf228 rfl rfl ⟨by decide, by decide, Nat.le_of_ble_eq_true rfl, Nat.le_of_ble_eq_true rfl⟩ (K228T (zi2l rfl) ll5 ll13 (by omega) ?_) (fun _ _ q => q)
    show zGo X l 3 0 0 304 133 [(0, .ref 336), (1, .int a)] [.int (1 : Int32)] M _
    refine zs_if_eqF (pc := 133) t304_133 li1 (by decide) ?_
    refine zs_aload_n (pc := 136) t304_136 rfl ?_
    refine zs_get (pc := 137) t304_137 (by decide) (zk1 (hs.k fk_zMm_336)) (hs.p rfl fv_zMm_336_0) ?_
    refine zs_iconst (pc := 140) t304_140 (v := 5) (by decide) ?_
    refine zs_iload_n (pc := 141) t304_141 rfl ?_
    obtain ⟨w13v, w13e, w13⟩ := ziadd (a := (5 : Int32)) (b := a) li5 rfl (by omega) (by omega)
    refine zs_iadd (pc := 142) t304_142 (c := w13v) w13e ?_
    refine zs_iconst (pc := 143) t304_143 (v := 5) (by decide) ?_
    obtain ⟨w14v, w14e, w14⟩ := zisub (a := w13v) (b := (5 : Int32)) w13 li5 (by omega) (by omega)
    refine zs_isub (pc := 144) t304_144 (c := w14v) w14e ?_
    obtain ⟨w15n, w15⟩ : ∃ n : Nat, a.toInt = (n : Int) := ⟨(a.toInt).toNat, by omega⟩
    have w16 := zrg (zI M 337 w15n)
    refine zs_iald (pc := 145) t304_145 (j := w15n) (by decide) (zk1 (hs.k fk_zMm_337)) (show w14v.toInt = ((w15n : Nat) : Int) by omega) (zk2 (hs.k fk_zMm_337) (by omega)) rfl ?_
    refine zs_goto (pc := 146) t304_146 ?_
    exact zs_iret (pc := 150) t304_150 mr304 rfl (hQ _ _ hs hI (zFr.refl) pR pC pF)
  by_cases w17 : a.toInt = 6
  · refine zs_tswI (pc := 1) t304_1 ((rfl : a.toInt = a.toInt).trans w17) (by decide) rfl (pc2 := 122) rfl ?_
    refine zs_iload_n (pc := 122) t304_122 rfl ?_
    refine zs_i2l (pc := 123) t304_123 rfl ?_
    refine zs_ldc2_w (pc := 124) t304_124 (v := 5) (by decide) ?_
    refine zs_ldc2_w (pc := 127) t304_127 (v := 13) (by decide) ?_
    refine zs_invS (pc := 130) (as := [.long a.toInt64, .long (5 : Int64), .long (13 : Int64)]) (st := []) t304_130 (by decide) mf228 rfl rfl ⟨by decide, by decide, Nat.le_of_ble_eq_true rfl, Nat.le_of_ble_eq_true rfl⟩ (K228T (zi2l rfl) ll5 ll13 (by omega) ?_) (fun _ _ q => q)
    show zGo X l 3 0 0 304 133 [(0, .ref 336), (1, .int a)] [.int (1 : Int32)] M _
    refine zs_if_eqF (pc := 133) t304_133 li1 (by decide) ?_
    refine zs_aload_n (pc := 136) t304_136 rfl ?_
    refine zs_get (pc := 137) t304_137 (by decide) (zk1 (hs.k fk_zMm_336)) (hs.p rfl fv_zMm_336_0) ?_
    refine zs_iconst (pc := 140) t304_140 (v := 5) (by decide) ?_
    refine zs_iload_n (pc := 141) t304_141 rfl ?_
    obtain ⟨w19v, w19e, w19⟩ := ziadd (a := (5 : Int32)) (b := a) li5 rfl (by omega) (by omega)
    refine zs_iadd (pc := 142) t304_142 (c := w19v) w19e ?_
    refine zs_iconst (pc := 143) t304_143 (v := 5) (by decide) ?_
    obtain ⟨w20v, w20e, w20⟩ := zisub (a := w19v) (b := (5 : Int32)) w19 li5 (by omega) (by omega)
    refine zs_isub (pc := 144) t304_144 (c := w20v) w20e ?_
    obtain ⟨w21n, w21⟩ : ∃ n : Nat, a.toInt = (n : Int) := ⟨(a.toInt).toNat, by omega⟩
    have w22 := zrg (zI M 337 w21n)
    refine zs_iald (pc := 145) t304_145 (j := w21n) (by decide) (zk1 (hs.k fk_zMm_337)) (show w20v.toInt = ((w21n : Nat) : Int) by omega) (zk2 (hs.k fk_zMm_337) (by omega)) rfl ?_
    refine zs_goto (pc := 146) t304_146 ?_
    exact zs_iret (pc := 150) t304_150 mr304 rfl (hQ _ _ hs hI (zFr.refl) pR pC pF)
  by_cases w23 : a.toInt = 7
  · refine zs_tswI (pc := 1) t304_1 ((rfl : a.toInt = a.toInt).trans w23) (by decide) rfl (pc2 := 122) rfl ?_
    refine zs_iload_n (pc := 122) t304_122 rfl ?_
    refine zs_i2l (pc := 123) t304_123 rfl ?_
    refine zs_ldc2_w (pc := 124) t304_124 (v := 5) (by decide) ?_
    refine zs_ldc2_w (pc := 127) t304_127 (v := 13) (by decide) ?_
    refine zs_invS (pc := 130) (as := [.long a.toInt64, .long (5 : Int64), .long (13 : Int64)]) (st := []) t304_130 (by decide) mf228 rfl rfl ⟨by decide, by decide, Nat.le_of_ble_eq_true rfl, Nat.le_of_ble_eq_true rfl⟩ (K228T (zi2l rfl) ll5 ll13 (by omega) ?_) (fun _ _ q => q)
    show zGo X l 3 0 0 304 133 [(0, .ref 336), (1, .int a)] [.int (1 : Int32)] M _
    refine zs_if_eqF (pc := 133) t304_133 li1 (by decide) ?_
    refine zs_aload_n (pc := 136) t304_136 rfl ?_
    refine zs_get (pc := 137) t304_137 (by decide) (zk1 (hs.k fk_zMm_336)) (hs.p rfl fv_zMm_336_0) ?_
    refine zs_iconst (pc := 140) t304_140 (v := 5) (by decide) ?_
    refine zs_iload_n (pc := 141) t304_141 rfl ?_
    obtain ⟨w25v, w25e, w25⟩ := ziadd (a := (5 : Int32)) (b := a) li5 rfl (by omega) (by omega)
    refine zs_iadd (pc := 142) t304_142 (c := w25v) w25e ?_
    refine zs_iconst (pc := 143) t304_143 (v := 5) (by decide) ?_
    obtain ⟨w26v, w26e, w26⟩ := zisub (a := w25v) (b := (5 : Int32)) w25 li5 (by omega) (by omega)
    refine zs_isub (pc := 144) t304_144 (c := w26v) w26e ?_
    obtain ⟨w27n, w27⟩ : ∃ n : Nat, a.toInt = (n : Int) := ⟨(a.toInt).toNat, by omega⟩
    have w28 := zrg (zI M 337 w27n)
    refine zs_iald (pc := 145) t304_145 (j := w27n) (by decide) (zk1 (hs.k fk_zMm_337)) (show w26v.toInt = ((w27n : Nat) : Int) by omega) (zk2 (hs.k fk_zMm_337) (by omega)) rfl ?_
    refine zs_goto (pc := 146) t304_146 ?_
    exact zs_iret (pc := 150) t304_150 mr304 rfl (hQ _ _ hs hI (zFr.refl) pR pC pF)
  by_cases w29 : a.toInt = 8
  · refine zs_tswI (pc := 1) t304_1 ((rfl : a.toInt = a.toInt).trans w29) (by decide) rfl (pc2 := 122) rfl ?_
    refine zs_iload_n (pc := 122) t304_122 rfl ?_
    refine zs_i2l (pc := 123) t304_123 rfl ?_
    refine zs_ldc2_w (pc := 124) t304_124 (v := 5) (by decide) ?_
    refine zs_ldc2_w (pc := 127) t304_127 (v := 13) (by decide) ?_
    refine zs_invS (pc := 130) (as := [.long a.toInt64, .long (5 : Int64), .long (13 : Int64)]) (st := []) t304_130 (by decide) mf228 rfl rfl ⟨by decide, by decide, Nat.le_of_ble_eq_true rfl, Nat.le_of_ble_eq_true rfl⟩ (K228T (zi2l rfl) ll5 ll13 (by omega) ?_) (fun _ _ q => q)
    show zGo X l 3 0 0 304 133 [(0, .ref 336), (1, .int a)] [.int (1 : Int32)] M _
    refine zs_if_eqF (pc := 133) t304_133 li1 (by decide) ?_
    refine zs_aload_n (pc := 136) t304_136 rfl ?_
    refine zs_get (pc := 137) t304_137 (by decide) (zk1 (hs.k fk_zMm_336)) (hs.p rfl fv_zMm_336_0) ?_
    refine zs_iconst (pc := 140) t304_140 (v := 5) (by decide) ?_
    refine zs_iload_n (pc := 141) t304_141 rfl ?_
    obtain ⟨w31v, w31e, w31⟩ := ziadd (a := (5 : Int32)) (b := a) li5 rfl (by omega) (by omega)
    refine zs_iadd (pc := 142) t304_142 (c := w31v) w31e ?_
    refine zs_iconst (pc := 143) t304_143 (v := 5) (by decide) ?_
    obtain ⟨w32v, w32e, w32⟩ := zisub (a := w31v) (b := (5 : Int32)) w31 li5 (by omega) (by omega)
    refine zs_isub (pc := 144) t304_144 (c := w32v) w32e ?_
    obtain ⟨w33n, w33⟩ : ∃ n : Nat, a.toInt = (n : Int) := ⟨(a.toInt).toNat, by omega⟩
    have w34 := zrg (zI M 337 w33n)
    refine zs_iald (pc := 145) t304_145 (j := w33n) (by decide) (zk1 (hs.k fk_zMm_337)) (show w32v.toInt = ((w33n : Nat) : Int) by omega) (zk2 (hs.k fk_zMm_337) (by omega)) rfl ?_
    refine zs_goto (pc := 146) t304_146 ?_
    exact zs_iret (pc := 150) t304_150 mr304 rfl (hQ _ _ hs hI (zFr.refl) pR pC pF)
  by_cases w35 : a.toInt = 9
  · refine zs_tswI (pc := 1) t304_1 ((rfl : a.toInt = a.toInt).trans w35) (by decide) rfl (pc2 := 122) rfl ?_
    refine zs_iload_n (pc := 122) t304_122 rfl ?_
    refine zs_i2l (pc := 123) t304_123 rfl ?_
    refine zs_ldc2_w (pc := 124) t304_124 (v := 5) (by decide) ?_
    refine zs_ldc2_w (pc := 127) t304_127 (v := 13) (by decide) ?_
    refine zs_invS (pc := 130) (as := [.long a.toInt64, .long (5 : Int64), .long (13 : Int64)]) (st := []) t304_130 (by decide) mf228 rfl rfl ⟨by decide, by decide, Nat.le_of_ble_eq_true rfl, Nat.le_of_ble_eq_true rfl⟩ (K228T (zi2l rfl) ll5 ll13 (by omega) ?_) (fun _ _ q => q)
    show zGo X l 3 0 0 304 133 [(0, .ref 336), (1, .int a)] [.int (1 : Int32)] M _
    refine zs_if_eqF (pc := 133) t304_133 li1 (by decide) ?_
    refine zs_aload_n (pc := 136) t304_136 rfl ?_
    refine zs_get (pc := 137) t304_137 (by decide) (zk1 (hs.k fk_zMm_336)) (hs.p rfl fv_zMm_336_0) ?_
    refine zs_iconst (pc := 140) t304_140 (v := 5) (by decide) ?_
    refine zs_iload_n (pc := 141) t304_141 rfl ?_
    obtain ⟨w37v, w37e, w37⟩ := ziadd (a := (5 : Int32)) (b := a) li5 rfl (by omega) (by omega)
    refine zs_iadd (pc := 142) t304_142 (c := w37v) w37e ?_
    refine zs_iconst (pc := 143) t304_143 (v := 5) (by decide) ?_
    obtain ⟨w38v, w38e, w38⟩ := zisub (a := w37v) (b := (5 : Int32)) w37 li5 (by omega) (by omega)
    refine zs_isub (pc := 144) t304_144 (c := w38v) w38e ?_
    obtain ⟨w39n, w39⟩ : ∃ n : Nat, a.toInt = (n : Int) := ⟨(a.toInt).toNat, by omega⟩
    have w40 := zrg (zI M 337 w39n)
    refine zs_iald (pc := 145) t304_145 (j := w39n) (by decide) (zk1 (hs.k fk_zMm_337)) (show w38v.toInt = ((w39n : Nat) : Int) by omega) (zk2 (hs.k fk_zMm_337) (by omega)) rfl ?_
    refine zs_goto (pc := 146) t304_146 ?_
    exact zs_iret (pc := 150) t304_150 mr304 rfl (hQ _ _ hs hI (zFr.refl) pR pC pF)
  by_cases w41 : a.toInt = 10
  · refine zs_tswI (pc := 1) t304_1 ((rfl : a.toInt = a.toInt).trans w41) (by decide) rfl (pc2 := 122) rfl ?_
    refine zs_iload_n (pc := 122) t304_122 rfl ?_
    refine zs_i2l (pc := 123) t304_123 rfl ?_
    refine zs_ldc2_w (pc := 124) t304_124 (v := 5) (by decide) ?_
    refine zs_ldc2_w (pc := 127) t304_127 (v := 13) (by decide) ?_
    refine zs_invS (pc := 130) (as := [.long a.toInt64, .long (5 : Int64), .long (13 : Int64)]) (st := []) t304_130 (by decide) mf228 rfl rfl ⟨by decide, by decide, Nat.le_of_ble_eq_true rfl, Nat.le_of_ble_eq_true rfl⟩ (K228T (zi2l rfl) ll5 ll13 (by omega) ?_) (fun _ _ q => q)
    show zGo X l 3 0 0 304 133 [(0, .ref 336), (1, .int a)] [.int (1 : Int32)] M _
    refine zs_if_eqF (pc := 133) t304_133 li1 (by decide) ?_
    refine zs_aload_n (pc := 136) t304_136 rfl ?_
    refine zs_get (pc := 137) t304_137 (by decide) (zk1 (hs.k fk_zMm_336)) (hs.p rfl fv_zMm_336_0) ?_
    refine zs_iconst (pc := 140) t304_140 (v := 5) (by decide) ?_
    refine zs_iload_n (pc := 141) t304_141 rfl ?_
    obtain ⟨w43v, w43e, w43⟩ := ziadd (a := (5 : Int32)) (b := a) li5 rfl (by omega) (by omega)
    refine zs_iadd (pc := 142) t304_142 (c := w43v) w43e ?_
    refine zs_iconst (pc := 143) t304_143 (v := 5) (by decide) ?_
    obtain ⟨w44v, w44e, w44⟩ := zisub (a := w43v) (b := (5 : Int32)) w43 li5 (by omega) (by omega)
    refine zs_isub (pc := 144) t304_144 (c := w44v) w44e ?_
    obtain ⟨w45n, w45⟩ : ∃ n : Nat, a.toInt = (n : Int) := ⟨(a.toInt).toNat, by omega⟩
    have w46 := zrg (zI M 337 w45n)
    refine zs_iald (pc := 145) t304_145 (j := w45n) (by decide) (zk1 (hs.k fk_zMm_337)) (show w44v.toInt = ((w45n : Nat) : Int) by omega) (zk2 (hs.k fk_zMm_337) (by omega)) rfl ?_
    refine zs_goto (pc := 146) t304_146 ?_
    exact zs_iret (pc := 150) t304_150 mr304 rfl (hQ _ _ hs hI (zFr.refl) pR pC pF)
  by_cases w47 : a.toInt = 11
  · refine zs_tswI (pc := 1) t304_1 ((rfl : a.toInt = a.toInt).trans w47) (by decide) rfl (pc2 := 122) rfl ?_
    refine zs_iload_n (pc := 122) t304_122 rfl ?_
    refine zs_i2l (pc := 123) t304_123 rfl ?_
    refine zs_ldc2_w (pc := 124) t304_124 (v := 5) (by decide) ?_
    refine zs_ldc2_w (pc := 127) t304_127 (v := 13) (by decide) ?_
    refine zs_invS (pc := 130) (as := [.long a.toInt64, .long (5 : Int64), .long (13 : Int64)]) (st := []) t304_130 (by decide) mf228 rfl rfl ⟨by decide, by decide, Nat.le_of_ble_eq_true rfl, Nat.le_of_ble_eq_true rfl⟩ (K228T (zi2l rfl) ll5 ll13 (by omega) ?_) (fun _ _ q => q)
    show zGo X l 3 0 0 304 133 [(0, .ref 336), (1, .int a)] [.int (1 : Int32)] M _
    refine zs_if_eqF (pc := 133) t304_133 li1 (by decide) ?_
    refine zs_aload_n (pc := 136) t304_136 rfl ?_
    refine zs_get (pc := 137) t304_137 (by decide) (zk1 (hs.k fk_zMm_336)) (hs.p rfl fv_zMm_336_0) ?_
    refine zs_iconst (pc := 140) t304_140 (v := 5) (by decide) ?_
    refine zs_iload_n (pc := 141) t304_141 rfl ?_
    obtain ⟨w49v, w49e, w49⟩ := ziadd (a := (5 : Int32)) (b := a) li5 rfl (by omega) (by omega)
    refine zs_iadd (pc := 142) t304_142 (c := w49v) w49e ?_
    refine zs_iconst (pc := 143) t304_143 (v := 5) (by decide) ?_
    obtain ⟨w50v, w50e, w50⟩ := zisub (a := w49v) (b := (5 : Int32)) w49 li5 (by omega) (by omega)
    refine zs_isub (pc := 144) t304_144 (c := w50v) w50e ?_
    obtain ⟨w51n, w51⟩ : ∃ n : Nat, a.toInt = (n : Int) := ⟨(a.toInt).toNat, by omega⟩
    have w52 := zrg (zI M 337 w51n)
    refine zs_iald (pc := 145) t304_145 (j := w51n) (by decide) (zk1 (hs.k fk_zMm_337)) (show w50v.toInt = ((w51n : Nat) : Int) by omega) (zk2 (hs.k fk_zMm_337) (by omega)) rfl ?_
    refine zs_goto (pc := 146) t304_146 ?_
    exact zs_iret (pc := 150) t304_150 mr304 rfl (hQ _ _ hs hI (zFr.refl) pR pC pF)
  by_cases w53 : a.toInt = 12
  · refine zs_tswI (pc := 1) t304_1 ((rfl : a.toInt = a.toInt).trans w53) (by decide) rfl (pc2 := 122) rfl ?_
    refine zs_iload_n (pc := 122) t304_122 rfl ?_
    refine zs_i2l (pc := 123) t304_123 rfl ?_
    refine zs_ldc2_w (pc := 124) t304_124 (v := 5) (by decide) ?_
    refine zs_ldc2_w (pc := 127) t304_127 (v := 13) (by decide) ?_
    refine zs_invS (pc := 130) (as := [.long a.toInt64, .long (5 : Int64), .long (13 : Int64)]) (st := []) t304_130 (by decide) mf228 rfl rfl ⟨by decide, by decide, Nat.le_of_ble_eq_true rfl, Nat.le_of_ble_eq_true rfl⟩ (K228T (zi2l rfl) ll5 ll13 (by omega) ?_) (fun _ _ q => q)
    show zGo X l 3 0 0 304 133 [(0, .ref 336), (1, .int a)] [.int (1 : Int32)] M _
    refine zs_if_eqF (pc := 133) t304_133 li1 (by decide) ?_
    refine zs_aload_n (pc := 136) t304_136 rfl ?_
    refine zs_get (pc := 137) t304_137 (by decide) (zk1 (hs.k fk_zMm_336)) (hs.p rfl fv_zMm_336_0) ?_
    refine zs_iconst (pc := 140) t304_140 (v := 5) (by decide) ?_
    refine zs_iload_n (pc := 141) t304_141 rfl ?_
    obtain ⟨w55v, w55e, w55⟩ := ziadd (a := (5 : Int32)) (b := a) li5 rfl (by omega) (by omega)
    refine zs_iadd (pc := 142) t304_142 (c := w55v) w55e ?_
    refine zs_iconst (pc := 143) t304_143 (v := 5) (by decide) ?_
    obtain ⟨w56v, w56e, w56⟩ := zisub (a := w55v) (b := (5 : Int32)) w55 li5 (by omega) (by omega)
    refine zs_isub (pc := 144) t304_144 (c := w56v) w56e ?_
    obtain ⟨w57n, w57⟩ : ∃ n : Nat, a.toInt = (n : Int) := ⟨(a.toInt).toNat, by omega⟩
    have w58 := zrg (zI M 337 w57n)
    refine zs_iald (pc := 145) t304_145 (j := w57n) (by decide) (zk1 (hs.k fk_zMm_337)) (show w56v.toInt = ((w57n : Nat) : Int) by omega) (zk2 (hs.k fk_zMm_337) (by omega)) rfl ?_
    refine zs_goto (pc := 146) t304_146 ?_
    exact zs_iret (pc := 150) t304_150 mr304 rfl (hQ _ _ hs hI (zFr.refl) pR pC pF)
  by_cases w59 : a.toInt = 13
  · refine zs_tswI (pc := 1) t304_1 ((rfl : a.toInt = a.toInt).trans w59) (by decide) rfl (pc2 := 122) rfl ?_
    refine zs_iload_n (pc := 122) t304_122 rfl ?_
    refine zs_i2l (pc := 123) t304_123 rfl ?_
    refine zs_ldc2_w (pc := 124) t304_124 (v := 5) (by decide) ?_
    refine zs_ldc2_w (pc := 127) t304_127 (v := 13) (by decide) ?_
    refine zs_invS (pc := 130) (as := [.long a.toInt64, .long (5 : Int64), .long (13 : Int64)]) (st := []) t304_130 (by decide) mf228 rfl rfl ⟨by decide, by decide, Nat.le_of_ble_eq_true rfl, Nat.le_of_ble_eq_true rfl⟩ (K228T (zi2l rfl) ll5 ll13 (by omega) ?_) (fun _ _ q => q)
    show zGo X l 3 0 0 304 133 [(0, .ref 336), (1, .int a)] [.int (1 : Int32)] M _
    refine zs_if_eqF (pc := 133) t304_133 li1 (by decide) ?_
    refine zs_aload_n (pc := 136) t304_136 rfl ?_
    refine zs_get (pc := 137) t304_137 (by decide) (zk1 (hs.k fk_zMm_336)) (hs.p rfl fv_zMm_336_0) ?_
    refine zs_iconst (pc := 140) t304_140 (v := 5) (by decide) ?_
    refine zs_iload_n (pc := 141) t304_141 rfl ?_
    obtain ⟨w61v, w61e, w61⟩ := ziadd (a := (5 : Int32)) (b := a) li5 rfl (by omega) (by omega)
    refine zs_iadd (pc := 142) t304_142 (c := w61v) w61e ?_
    refine zs_iconst (pc := 143) t304_143 (v := 5) (by decide) ?_
    obtain ⟨w62v, w62e, w62⟩ := zisub (a := w61v) (b := (5 : Int32)) w61 li5 (by omega) (by omega)
    refine zs_isub (pc := 144) t304_144 (c := w62v) w62e ?_
    obtain ⟨w63n, w63⟩ : ∃ n : Nat, a.toInt = (n : Int) := ⟨(a.toInt).toNat, by omega⟩
    have w64 := zrg (zI M 337 w63n)
    refine zs_iald (pc := 145) t304_145 (j := w63n) (by decide) (zk1 (hs.k fk_zMm_337)) (show w62v.toInt = ((w63n : Nat) : Int) by omega) (zk2 (hs.k fk_zMm_337) (by omega)) rfl ?_
    refine zs_goto (pc := 146) t304_146 ?_
    exact zs_iret (pc := 150) t304_150 mr304 rfl (hQ _ _ hs hI (zFr.refl) pR pC pF)
  by_cases w65 : a.toInt = 14
  · refine zs_tswI (pc := 1) t304_1 ((rfl : a.toInt = a.toInt).trans w65) (by decide) rfl (pc2 := 112) rfl ?_
    refine zs_aload_n (pc := 112) t304_112 rfl ?_
    have w66 := ib336_1 hI
    refine zs_get (pc := 113) t304_113 (by decide) (zk1 (hs.k fk_zMm_336)) (zfvi rfl rfl) ?_
    exact zs_iret (pc := 116) t304_116 mr304 rfl (hQ _ _ hs hI (zFr.refl) pR pC pF)
  by_cases w67 : a.toInt = 15
  · refine zs_tswI (pc := 1) t304_1 ((rfl : a.toInt = a.toInt).trans w67) (by decide) rfl (pc2 := 117) rfl ?_
    refine zs_aload_n (pc := 117) t304_117 rfl ?_
    have w68 := ib336_5 hI
    refine zs_get (pc := 118) t304_118 (by decide) (zk1 (hs.k fk_zMm_336)) (zfvi rfl rfl) ?_
    exact zs_iret (pc := 121) t304_121 mr304 rfl (hQ _ _ hs hI (zFr.refl) pR pC pF)
  refine zs_tswD (pc := 1) t304_1 rfl (by omega) (pc2 := 122) rfl ?_
  refine zs_iload_n (pc := 122) t304_122 rfl ?_
  refine zs_i2l (pc := 123) t304_123 rfl ?_
  refine zs_ldc2_w (pc := 124) t304_124 (v := 5) (by decide) ?_
  refine zs_ldc2_w (pc := 127) t304_127 (v := 13) (by decide) ?_
  by_cases w69 : 5 ≤ a.toInt ∧ a.toInt ≤ 13
  · refine zs_invS (pc := 130) (as := [.long a.toInt64, .long (5 : Int64), .long (13 : Int64)]) (st := []) t304_130 (by decide) mf228 rfl rfl ⟨by decide, by decide, Nat.le_of_ble_eq_true rfl, Nat.le_of_ble_eq_true rfl⟩ (K228T (zi2l rfl) ll5 ll13 (by omega) ?_) (fun _ _ q => q)
    show zGo X l 3 0 0 304 133 [(0, .ref 336), (1, .int a)] [.int (1 : Int32)] M _
    refine zs_if_eqF (pc := 133) t304_133 li1 (by decide) ?_
    refine zs_aload_n (pc := 136) t304_136 rfl ?_
    refine zs_get (pc := 137) t304_137 (by decide) (zk1 (hs.k fk_zMm_336)) (hs.p rfl fv_zMm_336_0) ?_
    refine zs_iconst (pc := 140) t304_140 (v := 5) (by decide) ?_
    refine zs_iload_n (pc := 141) t304_141 rfl ?_
    obtain ⟨w70v, w70e, w70⟩ := ziadd (a := (5 : Int32)) (b := a) li5 rfl (by omega) (by omega)
    refine zs_iadd (pc := 142) t304_142 (c := w70v) w70e ?_
    refine zs_iconst (pc := 143) t304_143 (v := 5) (by decide) ?_
    obtain ⟨w71v, w71e, w71⟩ := zisub (a := w70v) (b := (5 : Int32)) w70 li5 (by omega) (by omega)
    refine zs_isub (pc := 144) t304_144 (c := w71v) w71e ?_
    obtain ⟨w72n, w72⟩ : ∃ n : Nat, a.toInt = (n : Int) := ⟨(a.toInt).toNat, by omega⟩
    have w73 := zrg (zI M 337 w72n)
    refine zs_iald (pc := 145) t304_145 (j := w72n) (by decide) (zk1 (hs.k fk_zMm_337)) (show w71v.toInt = ((w72n : Nat) : Int) by omega) (zk2 (hs.k fk_zMm_337) (by omega)) rfl ?_
    refine zs_goto (pc := 146) t304_146 ?_
    exact zs_iret (pc := 150) t304_150 mr304 rfl (hQ _ _ hs hI (zFr.refl) pR pC pF)
  · refine zs_invS (pc := 130) (as := [.long a.toInt64, .long (5 : Int64), .long (13 : Int64)]) (st := []) t304_130 (by decide) mf228 rfl rfl ⟨by decide, by decide, Nat.le_of_ble_eq_true rfl, Nat.le_of_ble_eq_true rfl⟩ (K228F (zi2l rfl) ll5 ll13 (by omega) ?_) (fun _ _ q => q)
    show zGo X l 3 0 0 304 133 [(0, .ref 336), (1, .int a)] [.int (0 : Int32)] M _
    refine zs_if_eqT (pc := 133) t304_133 li0 (by decide) ?_
    refine zs_iconst (pc := 149) t304_149 (v := -1) (by decide) ?_
    exact zs_iret (pc := 150) t304_150 mr304 (by decide) (hQ _ _ hs hI (zFr.refl) pR pC pF)
theorem T305 {X : zX} {l : Launch} {M : zM} {Q : Option Value → zM → Prop} {a b : Int32} (hs : zSk zMm M) (hI : zIv mLo mHi M) (pR : zPR M) (pC : zPC M) (pF : zPF M) (hQ : ∀ (M' : zM) (v : Int32), zSk zMm M' → zIv mLo mHi M' → zFr [(336, 336, some 3), (336, 336, some 18), (336, 336, some 19), (336, 336, some 20), (336, 336, some 21), (336, 336, some 22), (336, 336, some 37), (336, 336, some 39), (336, 336, some 42), (336, 336, some 43), (336, 336, some 44), (336, 336, some 45), (342, 361, none)] M M' → zPR M' → zPC M' → zPF M' → Q (some (.int v)) M') : zCall X l 3 0 0 305 [.ref 336, .int a, .int b] M Q := by
  have ga := zrg a
  have gb := zrg b
  refine zs_in (by decide) mf305 (Nat.le_of_ble_eq_true rfl) ?_
  show zGo X l 3 0 0 305 0 [(0, .ref 336), (1, .int a), (2, .int b)] [] M _
  refine zs_aload_n (pc := 0) t305_0 rfl ?_
  refine zs_iload_n (pc := 1) t305_1 rfl ?_
  refine zs_invV (pc := 2) (k := 336) (as' := [.int a]) (st := []) t305_2 mf306 rfl rfl (Or.inl ⟨by decide, (zk1 (hs.k fk_zMm_336))⟩) ⟨by decide, by decide, Nat.le_of_ble_eq_true rfl, Nat.le_of_ble_eq_true rfl⟩ (zs_in (by decide) mf306 (Nat.le_of_ble_eq_true rfl) ?_) (fun _ _ q => q)
  show zGo X l 1 0 0 306 0 [(0, .ref 336), (1, .int a)] [] M _
  refine zs_iload_n (pc := 0) t306_0 rfl ?_
  refine zs_i2l (pc := 1) t306_1 rfl ?_
  refine zs_lconst (pc := 2) t306_2 (v := 0) (by decide) ?_
  refine zs_aload_n (pc := 3) t306_3 rfl ?_
  refine zs_get (pc := 4) t306_4 (by decide) (zk1 (hs.k fk_zMm_336)) (hs.p rfl fv_zMm_336_0) ?_
  refine zs_iconst (pc := 7) t306_7 (v := 0) (by decide) ?_
  have w1 := ibA0 hI
  refine zs_iald (pc := 8) t306_8 (j := 0) (by decide) (zk1 (hs.k fk_zMm_337)) li0 (zk2 (hs.k fk_zMm_337) (by decide)) rfl ?_
  refine zs_iconst (pc := 9) t306_9 (v := 1) (by decide) ?_
  obtain ⟨w2v, w2e, w2⟩ := zisub (a := (zI M 337 0)) (b := (1 : Int32)) rfl li1 (by omega) (by omega)
  refine zs_isub (pc := 10) t306_10 (c := w2v) w2e ?_
  refine zs_i2l (pc := 11) t306_11 rfl ?_
  by_cases w3 : 0 ≤ a.toInt ∧ a.toInt ≤ ((zI M 337 0).toInt - 1)
  · refine zs_invS (pc := 12) (as := [.long a.toInt64, .long (0 : Int64), .long w2v.toInt64]) (st := []) t306_12 (by decide) mf228 rfl rfl ⟨by decide, by decide, Nat.le_of_ble_eq_true rfl, Nat.le_of_ble_eq_true rfl⟩ (K228T (zi2l rfl) ll0 (zi2l w2) (by omega) ?_) (fun _ _ q => q)
    show zGo X l 1 0 0 306 15 [(0, .ref 336), (1, .int a)] [.int (1 : Int32)] M _
    refine zs_iret (pc := 15) t306_15 mr306 (by decide) ?_
    show zGo X l 3 0 0 305 5 [(0, .ref 336), (1, .int a), (2, .int b)] [.int (1 : Int32)] M _
    refine zs_if_neT (pc := 5) t305_5 li1 (by decide) ?_
    refine zs_iload_n (pc := 10) t305_10 rfl ?_
    by_cases w4 : b.toInt ≠ 0
    · refine zs_if_neT (pc := 11) t305_11 rfl (by omega) ?_
      refine zs_iload_n (pc := 22) t305_22 rfl ?_
      refine zs_iconst (pc := 23) t305_23 (v := 1) (by decide) ?_
      by_cases w5 : b.toInt ≠ 1
      · refine zs_icmp_neT (pc := 24) t305_24 rfl li1 (by omega) ?_
        refine zs_iload_n (pc := 43) t305_43 rfl ?_
        refine zs_iconst (pc := 44) t305_44 (v := 2) (by decide) ?_
        by_cases w6 : b.toInt ≠ 2
        · refine zs_icmp_neT (pc := 45) t305_45 rfl li2 (by omega) ?_
          refine zs_iconst (pc := 56) t305_56 (v := -1) (by decide) ?_
          exact zs_iret (pc := 57) t305_57 mr305 (by decide) (hQ _ _ hs hI (zFr.refl) pR pC pF)
        · refine zs_icmp_neF (pc := 45) t305_45 rfl li2 (by omega) ?_
          refine zs_aload_n (pc := 48) t305_48 rfl ?_
          refine zs_iload_n (pc := 49) t305_49 rfl ?_
          refine zs_invV (pc := 50) (k := 336) (as' := [.int a]) (st := []) t305_50 mf290 rfl rfl (Or.inl ⟨by decide, (zk1 (hs.k fk_zMm_336))⟩) ⟨by decide, by decide, Nat.le_of_ble_eq_true rfl, Nat.le_of_ble_eq_true rfl⟩ (K290 hs hI ?_) (fun _ _ q => q)
          intro w7v
          have w7g := zrg w7v
          show zGo X l 3 0 0 305 53 [(0, .ref 336), (1, .int a), (2, .int b)] [.int w7v] M _
          refine zs_goto (pc := 53) t305_53 ?_
          exact zs_iret (pc := 57) t305_57 mr305 rfl (hQ _ _ hs hI (zFr.refl) pR pC pF)
      · refine zs_icmp_neF (pc := 24) t305_24 rfl li1 (by omega) ?_
        refine zs_aload_n (pc := 27) t305_27 rfl ?_
        refine zs_get (pc := 28) t305_28 (by decide) (zk1 (hs.k fk_zMm_336)) (hs.p rfl fv_zMm_336_0) ?_
        refine zs_bipush (pc := 31) t305_31 (v := 14) (by decide) ?_
        refine zs_iconst (pc := 33) t305_33 (v := 2) (by decide) ?_
        refine zs_iload_n (pc := 34) t305_34 rfl ?_
        obtain ⟨w8v, w8⟩ : ∃ v, (2 : Int32) * a = v := ⟨_, rfl⟩
        have w8g : w8v.toInt = 2 * a.toInt := by rw [← w8]; exact zmulc li2 rfl (by omega) (by omega)
        refine zs_imul (pc := 35) t305_35 (c := w8v) w8 ?_
        obtain ⟨w9v, w9e, w9⟩ := ziadd (a := (14 : Int32)) (b := w8v) li14 w8g (by omega) (by omega)
        refine zs_iadd (pc := 36) t305_36 (c := w9v) w9e ?_
        refine zs_iconst (pc := 37) t305_37 (v := 1) (by decide) ?_
        obtain ⟨w10v, w10e, w10⟩ := ziadd (a := w9v) (b := (1 : Int32)) w9 li1 (by omega) (by omega)
        refine zs_iadd (pc := 38) t305_38 (c := w10v) w10e ?_
        obtain ⟨w11n, w11⟩ : ∃ n : Nat, a.toInt = (n : Int) := ⟨(a.toInt).toNat, by omega⟩
        have w12 := zrg (zI M 337 (15 + 2 * w11n))
        refine zs_iald (pc := 39) t305_39 (j := (15 + 2 * w11n)) (by decide) (zk1 (hs.k fk_zMm_337)) (show w10v.toInt = (((15 + 2 * w11n) : Nat) : Int) by omega) (zk2 (hs.k fk_zMm_337) (by omega)) rfl ?_
        refine zs_goto (pc := 40) t305_40 ?_
        exact zs_iret (pc := 57) t305_57 mr305 rfl (hQ _ _ hs hI (zFr.refl) pR pC pF)
    · refine zs_if_neF (pc := 11) t305_11 rfl (by omega) ?_
      refine zs_aload_n (pc := 14) t305_14 rfl ?_
      refine zs_iload_n (pc := 15) t305_15 rfl ?_
      refine zs_invV (pc := 16) (k := 336) (as' := [.int a]) (st := []) t305_16 mf241 rfl rfl (Or.inl ⟨by decide, (zk1 (hs.k fk_zMm_336))⟩) ⟨by decide, by decide, Nat.le_of_ble_eq_true rfl, Nat.le_of_ble_eq_true rfl⟩ (zs_in (by decide) mf241 (Nat.le_of_ble_eq_true rfl) ?_) (fun _ _ q => q)
      show zGo X l 0 0 0 241 0 [(0, .ref 336), (1, .int a)] [] M _
      refine zs_aload_n (pc := 0) t241_0 rfl ?_
      refine zs_get (pc := 1) t241_1 (by decide) (zk1 (hs.k fk_zMm_336)) (hs.p rfl fv_zMm_336_0) ?_
      refine zs_bipush (pc := 4) t241_4 (v := 14) (by decide) ?_
      refine zs_iconst (pc := 6) t241_6 (v := 2) (by decide) ?_
      refine zs_iload_n (pc := 7) t241_7 rfl ?_
      obtain ⟨w13v, w13⟩ : ∃ v, (2 : Int32) * a = v := ⟨_, rfl⟩
      have w13g : w13v.toInt = 2 * a.toInt := by rw [← w13]; exact zmulc li2 rfl (by omega) (by omega)
      refine zs_imul (pc := 8) t241_8 (c := w13v) w13 ?_
      obtain ⟨w14v, w14e, w14⟩ := ziadd (a := (14 : Int32)) (b := w13v) li14 w13g (by omega) (by omega)
      refine zs_iadd (pc := 9) t241_9 (c := w14v) w14e ?_
      obtain ⟨w15n, w15⟩ : ∃ n : Nat, a.toInt = (n : Int) := ⟨(a.toInt).toNat, by omega⟩
      have w16 := ibX (j := (14 + 2 * w15n)) hI (by omega) (by omega) (by omega)
      refine zs_iald (pc := 10) t241_10 (j := (14 + 2 * w15n)) (by decide) (zk1 (hs.k fk_zMm_337)) (show w14v.toInt = (((14 + 2 * w15n) : Nat) : Int) by omega) (zk2 (hs.k fk_zMm_337) (by omega)) rfl ?_
      refine zs_iret (pc := 11) t241_11 mr241 rfl ?_
      show zGo X l 3 0 0 305 19 [(0, .ref 336), (1, .int a), (2, .int b)] [.int (zI M 337 (14 + 2 * w15n))] M _
      refine zs_goto (pc := 19) t305_19 ?_
      exact zs_iret (pc := 57) t305_57 mr305 rfl (hQ _ _ hs hI (zFr.refl) pR pC pF)
  · refine zs_invS (pc := 12) (as := [.long a.toInt64, .long (0 : Int64), .long w2v.toInt64]) (st := []) t306_12 (by decide) mf228 rfl rfl ⟨by decide, by decide, Nat.le_of_ble_eq_true rfl, Nat.le_of_ble_eq_true rfl⟩ (K228F (zi2l rfl) ll0 (zi2l w2) (by omega) ?_) (fun _ _ q => q)
    show zGo X l 1 0 0 306 15 [(0, .ref 336), (1, .int a)] [.int (0 : Int32)] M _
    refine zs_iret (pc := 15) t306_15 mr306 (by decide) ?_
    show zGo X l 3 0 0 305 5 [(0, .ref 336), (1, .int a), (2, .int b)] [.int (0 : Int32)] M _
    refine zs_if_neF (pc := 5) t305_5 li0 (by decide) ?_
    refine zs_iconst (pc := 8) t305_8 (v := -1) (by decide) ?_
    exact zs_iret (pc := 9) t305_9 mr305 (by decide) (hQ _ _ hs hI (zFr.refl) pR pC pF)
theorem T307 {X : zX} {l : Launch} {M : zM} {Q : Option Value → zM → Prop} {a b : Int32} (hs : zSk zMm M) (hI : zIv mLo mHi M) (pR : zPR M) (pC : zPC M) (pF : zPF M) (hQ : ∀ (M' : zM) (v : Int32), zSk zMm M' → zIv mLo mHi M' → zFr [(336, 336, some 3), (336, 336, some 18), (336, 336, some 19), (336, 336, some 20), (336, 336, some 21), (336, 336, some 22), (336, 336, some 37), (336, 336, some 39), (336, 336, some 42), (336, 336, some 43), (336, 336, some 44), (336, 336, some 45), (342, 361, none)] M M' → zPR M' → zPC M' → zPF M' → Q (some (.int v)) M') : zCall X l 7 0 0 307 [.ref 336, .int a, .int b] M Q := by
  have ga := zrg a
  have gb := zrg b
  refine zs_in (by decide) mf307 (Nat.le_of_ble_eq_true rfl) ?_
  show zGo X l 7 0 0 307 0 [(0, .ref 336), (1, .int a), (2, .int b)] [] M _
  refine zs_aload_n (pc := 0) t307_0 rfl ?_
  refine zs_iload_n (pc := 1) t307_1 rfl ?_
  refine zs_invV (pc := 2) (k := 336) (as' := [.int a]) (st := []) t307_2 mf308 rfl rfl (Or.inl ⟨by decide, (zk1 (hs.k fk_zMm_336))⟩) ⟨by decide, by decide, Nat.le_of_ble_eq_true rfl, Nat.le_of_ble_eq_true rfl⟩ (zs_in (by decide) mf308 (Nat.le_of_ble_eq_true rfl) ?_) (fun _ _ q => q)
  show zGo X l 1 0 0 308 0 [(0, .ref 336), (1, .int a)] [] M _
  refine zs_iload_n (pc := 0) t308_0 rfl ?_
  refine zs_i2l (pc := 1) t308_1 rfl ?_
  refine zs_lconst (pc := 2) t308_2 (v := 0) (by decide) ?_
  refine zs_aload_n (pc := 3) t308_3 rfl ?_
  refine zs_get (pc := 4) t308_4 (by decide) (zk1 (hs.k fk_zMm_336)) (hs.p rfl fv_zMm_336_0) ?_
  refine zs_iconst (pc := 7) t308_7 (v := 1) (by decide) ?_
  have w1 := ibA1 hI
  refine zs_iald (pc := 8) t308_8 (j := 1) (by decide) (zk1 (hs.k fk_zMm_337)) li1 (zk2 (hs.k fk_zMm_337) (by decide)) rfl ?_
  refine zs_iconst (pc := 9) t308_9 (v := 1) (by decide) ?_
  obtain ⟨w2v, w2e, w2⟩ := zisub (a := (zI M 337 1)) (b := (1 : Int32)) rfl li1 (by omega) (by omega)
  refine zs_isub (pc := 10) t308_10 (c := w2v) w2e ?_
  refine zs_i2l (pc := 11) t308_11 rfl ?_
  by_cases w3 : 0 ≤ a.toInt ∧ a.toInt ≤ ((zI M 337 1).toInt - 1)
  · refine zs_invS (pc := 12) (as := [.long a.toInt64, .long (0 : Int64), .long w2v.toInt64]) (st := []) t308_12 (by decide) mf228 rfl rfl ⟨by decide, by decide, Nat.le_of_ble_eq_true rfl, Nat.le_of_ble_eq_true rfl⟩ (K228T (zi2l rfl) ll0 (zi2l w2) (by omega) ?_) (fun _ _ q => q)
    show zGo X l 1 0 0 308 15 [(0, .ref 336), (1, .int a)] [.int (1 : Int32)] M _
    refine zs_iret (pc := 15) t308_15 mr308 (by decide) ?_
    show zGo X l 7 0 0 307 5 [(0, .ref 336), (1, .int a), (2, .int b)] [.int (1 : Int32)] M _
    refine zs_if_eqF (pc := 5) t307_5 li1 (by decide) ?_
    refine zs_iload_n (pc := 8) t307_8 rfl ?_
    refine zs_i2l (pc := 9) t307_9 rfl ?_
    refine zs_lconst (pc := 10) t307_10 (v := 0) (by decide) ?_
    refine zs_ldc2_w (pc := 11) t307_11 (v := 5) (by decide) ?_
    by_cases w4 : 0 ≤ b.toInt ∧ b.toInt ≤ 5
    · refine zs_invS (pc := 14) (as := [.long b.toInt64, .long (0 : Int64), .long (5 : Int64)]) (st := []) t307_14 (by decide) mf228 rfl rfl ⟨by decide, by decide, Nat.le_of_ble_eq_true rfl, Nat.le_of_ble_eq_true rfl⟩ (K228T (zi2l rfl) ll0 ll5 (by omega) ?_) (fun _ _ q => q)
      show zGo X l 7 0 0 307 17 [(0, .ref 336), (1, .int a), (2, .int b)] [.int (1 : Int32)] M _
      refine zs_if_neT (pc := 17) t307_17 li1 (by decide) ?_
      refine zs_iload_n (pc := 24) t307_24 rfl ?_
      refine zs_iconst (pc := 25) t307_25 (v := 4) (by decide) ?_
      by_cases w5 : 4 ≤ b.toInt
      · refine zs_icmp_geT (pc := 26) t307_26 rfl li4 (by omega) ?_
        refine zs_aload_n (pc := 36) t307_36 rfl ?_
        refine zs_invV (pc := 37) (k := 336) (as' := []) (st := []) t307_37 mf268 rfl rfl (Or.inl ⟨by decide, (zk1 (hs.k fk_zMm_336))⟩) ⟨by decide, by decide, Nat.le_of_ble_eq_true rfl, Nat.le_of_ble_eq_true rfl⟩ (K268 hs hI pR pF ?_) (fun _ _ q => q)
        intro w6M w6s w6I w6F w6PF w6PD w6PV
        show zGo X l 7 0 0 307 40 [(0, .ref 336), (1, .int a), (2, .int b)] [] w6M _
        refine zs_iload_n (pc := 40) t307_40 rfl ?_
        refine zs_iconst (pc := 41) t307_41 (v := 5) (by decide) ?_
        by_cases w7 : b.toInt ≠ 5
        · refine zs_icmp_neT (pc := 42) t307_42 rfl li5 (by omega) ?_
          refine zs_aload_n (pc := 54) t307_54 rfl ?_
          refine zs_iload_n (pc := 55) t307_55 rfl ?_
          refine zs_iconst (pc := 56) t307_56 (v := -1) (by decide) ?_
          refine zs_invV (pc := 57) (k := 336) (as' := [.int a, .int (-1 : Int32)]) (st := []) t307_57 mf271 rfl rfl (Or.inl ⟨by decide, (zk1 (w6s.k fk_zMm_336))⟩) ⟨by decide, by decide, Nat.le_of_ble_eq_true rfl, Nat.le_of_ble_eq_true rfl⟩ (K271 w6s w6I ⟨by omega, by omega⟩ ?_) (fun _ _ q => q)
          intro w8v  w8a w8b
          show zGo X l 7 0 0 307 60 [(0, .ref 336), (1, .int a), (2, .int b)] [.int w8v] w6M _
          by_cases w9 : w8v.toInt = 0
          · refine zs_if_eqT (pc := 60) t307_60 rfl (by omega) ?_
            refine zs_iconst (pc := 67) t307_67 (v := 0) (by decide) ?_
            exact zs_iret (pc := 68) t307_68 mr307 (by decide) (hQ _ _ w6s w6I ((zFr.refl).trans (w6F.mono rfl)) (zPR.fr pR (w6F.eq rfl)) (zPC.fr pC (w6F.eq rfl)) w6PF)
          · refine zs_if_eqF (pc := 60) t307_60 rfl (by omega) ?_
            refine zs_iconst (pc := 63) t307_63 (v := 1) (by decide) ?_
            refine zs_goto (pc := 64) t307_64 ?_
            exact zs_iret (pc := 68) t307_68 mr307 (by decide) (hQ _ _ w6s w6I ((zFr.refl).trans (w6F.mono rfl)) (zPR.fr pR (w6F.eq rfl)) (zPC.fr pC (w6F.eq rfl)) w6PF)
        · refine zs_icmp_neF (pc := 42) t307_42 rfl li5 (by omega) ?_
          refine zs_aload_n (pc := 45) t307_45 rfl ?_
          refine zs_get (pc := 46) t307_46 (by decide) (zk1 (w6s.k fk_zMm_336)) (w6s.p rfl fv_zMm_336_28) ?_
          refine zs_iload_n (pc := 49) t307_49 rfl ?_
          obtain ⟨w10n, w10⟩ : ∃ n : Nat, a.toInt = (n : Int) := ⟨(a.toInt).toNat, by omega⟩
          have w11 := zrg (zI w6M 350 w10n)
          refine zs_iald (pc := 50) t307_50 (j := w10n) (by decide) (zk1 (w6s.k fk_zMm_350)) (show a.toInt = ((w10n : Nat) : Int) by omega) (zk2 (w6s.k fk_zMm_350) (by omega)) rfl ?_
          refine zs_goto (pc := 51) t307_51 ?_
          exact zs_iret (pc := 68) t307_68 mr307 rfl (hQ _ _ w6s w6I ((zFr.refl).trans (w6F.mono rfl)) (zPR.fr pR (w6F.eq rfl)) (zPC.fr pC (w6F.eq rfl)) w6PF)
      · refine zs_icmp_geF (pc := 26) t307_26 rfl li4 (by omega) ?_
        refine zs_aload_n (pc := 29) t307_29 rfl ?_
        refine zs_iload_n (pc := 30) t307_30 rfl ?_
        refine zs_iload_n (pc := 31) t307_31 rfl ?_
        refine zs_invV (pc := 32) (k := 336) (as' := [.int a, .int b]) (st := []) t307_32 mf272 rfl rfl (Or.inl ⟨by decide, (zk1 (hs.k fk_zMm_336))⟩) ⟨by decide, by decide, Nat.le_of_ble_eq_true rfl, Nat.le_of_ble_eq_true rfl⟩ (zs_in (by decide) mf272 (Nat.le_of_ble_eq_true rfl) ?_) (fun _ _ q => q)
        show zGo X l 0 0 0 272 0 [(0, .ref 336), (1, .int a), (2, .int b)] [] M _
        refine zs_aload_n (pc := 0) t272_0 rfl ?_
        refine zs_get (pc := 1) t272_1 (by decide) (zk1 (hs.k fk_zMm_336)) (hs.p rfl fv_zMm_336_0) ?_
        refine zs_bipush (pc := 4) t272_4 (v := 30) (by decide) ?_
        refine zs_iconst (pc := 6) t272_6 (v := 4) (by decide) ?_
        refine zs_iload_n (pc := 7) t272_7 rfl ?_
        obtain ⟨w12v, w12⟩ : ∃ v, (4 : Int32) * a = v := ⟨_, rfl⟩
        have w12g : w12v.toInt = 4 * a.toInt := by rw [← w12]; exact zmulc li4 rfl (by omega) (by omega)
        refine zs_imul (pc := 8) t272_8 (c := w12v) w12 ?_
        obtain ⟨w13v, w13e, w13⟩ := ziadd (a := (30 : Int32)) (b := w12v) li30 w12g (by omega) (by omega)
        refine zs_iadd (pc := 9) t272_9 (c := w13v) w13e ?_
        refine zs_iload_n (pc := 10) t272_10 rfl ?_
        obtain ⟨w14v, w14e, w14⟩ := ziadd (a := w13v) (b := b) w13 rfl (by omega) (by omega)
        refine zs_iadd (pc := 11) t272_11 (c := w14v) w14e ?_
        obtain ⟨w15n, w15⟩ : ∃ n : Nat, a.toInt = (n : Int) := ⟨(a.toInt).toNat, by omega⟩
        obtain ⟨w16n, w16⟩ : ∃ n : Nat, b.toInt = (n : Int) := ⟨(b.toInt).toNat, by omega⟩
        have w17 := zrg (zI M 337 (30 + 4 * w15n + w16n))
        refine zs_iald (pc := 12) t272_12 (j := (30 + 4 * w15n + w16n)) (by decide) (zk1 (hs.k fk_zMm_337)) (show w14v.toInt = (((30 + 4 * w15n + w16n) : Nat) : Int) by omega) (zk2 (hs.k fk_zMm_337) (by omega)) rfl ?_
        refine zs_iret (pc := 13) t272_13 mr272 rfl ?_
        show zGo X l 7 0 0 307 35 [(0, .ref 336), (1, .int a), (2, .int b)] [.int (zI M 337 (30 + 4 * w15n + w16n))] M _
        exact zs_iret (pc := 35) t307_35 mr307 rfl (hQ _ _ hs hI (zFr.refl) pR pC pF)
    · refine zs_invS (pc := 14) (as := [.long b.toInt64, .long (0 : Int64), .long (5 : Int64)]) (st := []) t307_14 (by decide) mf228 rfl rfl ⟨by decide, by decide, Nat.le_of_ble_eq_true rfl, Nat.le_of_ble_eq_true rfl⟩ (K228F (zi2l rfl) ll0 ll5 (by omega) ?_) (fun _ _ q => q)
      show zGo X l 7 0 0 307 17 [(0, .ref 336), (1, .int a), (2, .int b)] [.int (0 : Int32)] M _
      refine zs_if_neF (pc := 17) t307_17 li0 (by decide) ?_
      refine zs_ldc_w (pc := 20) t307_20 (v := -100000) rfl (by decide) ?_
      exact zs_iret (pc := 23) t307_23 mr307 (by decide) (hQ _ _ hs hI (zFr.refl) pR pC pF)
  · refine zs_invS (pc := 12) (as := [.long a.toInt64, .long (0 : Int64), .long w2v.toInt64]) (st := []) t308_12 (by decide) mf228 rfl rfl ⟨by decide, by decide, Nat.le_of_ble_eq_true rfl, Nat.le_of_ble_eq_true rfl⟩ (K228F (zi2l rfl) ll0 (zi2l w2) (by omega) ?_) (fun _ _ q => q)
    show zGo X l 1 0 0 308 15 [(0, .ref 336), (1, .int a)] [.int (0 : Int32)] M _
    refine zs_iret (pc := 15) t308_15 mr308 (by decide) ?_
    show zGo X l 7 0 0 307 5 [(0, .ref 336), (1, .int a), (2, .int b)] [.int (0 : Int32)] M _
    refine zs_if_eqT (pc := 5) t307_5 li0 (by decide) ?_
    refine zs_ldc_w (pc := 20) t307_20 (v := -100000) rfl (by decide) ?_
    exact zs_iret (pc := 23) t307_23 mr307 (by decide) (hQ _ _ hs hI (zFr.refl) pR pC pF)
theorem T309 {X : zX} {l : Launch} {M : zM} {Q : Option Value → zM → Prop} {a b : Int32} (hs : zSk zMm M) (hI : zIv mLo mHi M) (pR : zPR M) (pC : zPC M) (pF : zPF M) (hQ : ∀ (M' : zM) (v : Int32), zSk zMm M' → zIv mLo mHi M' → zFr [(336, 336, some 3), (336, 336, some 18), (336, 336, some 19), (336, 336, some 20), (336, 336, some 21), (336, 336, some 22), (336, 336, some 37), (336, 336, some 39), (336, 336, some 42), (336, 336, some 43), (336, 336, some 44), (336, 336, some 45), (342, 361, none)] M M' → zPR M' → zPC M' → zPF M' → Q (some (.int v)) M') : zCall X l 7 0 0 309 [.ref 336, .int a, .int b] M Q := by
  have ga := zrg a
  have gb := zrg b
  refine zs_in (by decide) mf309 (Nat.le_of_ble_eq_true rfl) ?_
  show zGo X l 7 0 0 309 0 [(0, .ref 336), (1, .int a), (2, .int b)] [] M _
  refine zs_aload_n (pc := 0) t309_0 rfl ?_
  refine zs_iload_n (pc := 1) t309_1 rfl ?_
  refine zs_invV (pc := 2) (k := 336) (as' := [.int a]) (st := []) t309_2 mf310 rfl rfl (Or.inl ⟨by decide, (zk1 (hs.k fk_zMm_336))⟩) ⟨by decide, by decide, Nat.le_of_ble_eq_true rfl, Nat.le_of_ble_eq_true rfl⟩ (zs_in (by decide) mf310 (Nat.le_of_ble_eq_true rfl) ?_) (fun _ _ q => q)
  show zGo X l 1 0 0 310 0 [(0, .ref 336), (1, .int a)] [] M _
  refine zs_iload_n (pc := 0) t310_0 rfl ?_
  refine zs_i2l (pc := 1) t310_1 rfl ?_
  refine zs_lconst (pc := 2) t310_2 (v := 0) (by decide) ?_
  refine zs_aload_n (pc := 3) t310_3 rfl ?_
  refine zs_get (pc := 4) t310_4 (by decide) (zk1 (hs.k fk_zMm_336)) (hs.p rfl fv_zMm_336_0) ?_
  refine zs_iconst (pc := 7) t310_7 (v := 2) (by decide) ?_
  have w1 := ibA2 hI
  refine zs_iald (pc := 8) t310_8 (j := 2) (by decide) (zk1 (hs.k fk_zMm_337)) li2 (zk2 (hs.k fk_zMm_337) (by decide)) rfl ?_
  refine zs_iconst (pc := 9) t310_9 (v := 1) (by decide) ?_
  obtain ⟨w2v, w2e, w2⟩ := zisub (a := (zI M 337 2)) (b := (1 : Int32)) rfl li1 (by omega) (by omega)
  refine zs_isub (pc := 10) t310_10 (c := w2v) w2e ?_
  refine zs_i2l (pc := 11) t310_11 rfl ?_
  by_cases w3 : 0 ≤ a.toInt ∧ a.toInt ≤ ((zI M 337 2).toInt - 1)
  · refine zs_invS (pc := 12) (as := [.long a.toInt64, .long (0 : Int64), .long w2v.toInt64]) (st := []) t310_12 (by decide) mf228 rfl rfl ⟨by decide, by decide, Nat.le_of_ble_eq_true rfl, Nat.le_of_ble_eq_true rfl⟩ (K228T (zi2l rfl) ll0 (zi2l w2) (by omega) ?_) (fun _ _ q => q)
    show zGo X l 1 0 0 310 15 [(0, .ref 336), (1, .int a)] [.int (1 : Int32)] M _
    refine zs_iret (pc := 15) t310_15 mr310 (by decide) ?_
    show zGo X l 7 0 0 309 5 [(0, .ref 336), (1, .int a), (2, .int b)] [.int (1 : Int32)] M _
    refine zs_if_eqF (pc := 5) t309_5 li1 (by decide) ?_
    refine zs_iload_n (pc := 8) t309_8 rfl ?_
    refine zs_i2l (pc := 9) t309_9 rfl ?_
    refine zs_lconst (pc := 10) t309_10 (v := 0) (by decide) ?_
    refine zs_ldc2_w (pc := 11) t309_11 (v := 4) (by decide) ?_
    by_cases w4 : 0 ≤ b.toInt ∧ b.toInt ≤ 4
    · refine zs_invS (pc := 14) (as := [.long b.toInt64, .long (0 : Int64), .long (4 : Int64)]) (st := []) t309_14 (by decide) mf228 rfl rfl ⟨by decide, by decide, Nat.le_of_ble_eq_true rfl, Nat.le_of_ble_eq_true rfl⟩ (K228T (zi2l rfl) ll0 ll4 (by omega) ?_) (fun _ _ q => q)
      show zGo X l 7 0 0 309 17 [(0, .ref 336), (1, .int a), (2, .int b)] [.int (1 : Int32)] M _
      refine zs_if_neT (pc := 17) t309_17 li1 (by decide) ?_
      refine zs_iload_n (pc := 24) t309_24 rfl ?_
      refine zs_iconst (pc := 25) t309_25 (v := 3) (by decide) ?_
      by_cases w5 : 3 ≤ b.toInt
      · refine zs_icmp_geT (pc := 26) t309_26 rfl li3 (by omega) ?_
        refine zs_aload_n (pc := 44) t309_44 rfl ?_
        refine zs_invV (pc := 45) (k := 336) (as' := []) (st := []) t309_45 mf268 rfl rfl (Or.inl ⟨by decide, (zk1 (hs.k fk_zMm_336))⟩) ⟨by decide, by decide, Nat.le_of_ble_eq_true rfl, Nat.le_of_ble_eq_true rfl⟩ (K268 hs hI pR pF ?_) (fun _ _ q => q)
        intro w6M w6s w6I w6F w6PF w6PD w6PV
        show zGo X l 7 0 0 309 48 [(0, .ref 336), (1, .int a), (2, .int b)] [] w6M _
        refine zs_iload_n (pc := 48) t309_48 rfl ?_
        refine zs_iconst (pc := 49) t309_49 (v := 3) (by decide) ?_
        by_cases w7 : b.toInt ≠ 3
        · refine zs_icmp_neT (pc := 50) t309_50 rfl li3 (by omega) ?_
          refine zs_aload_n (pc := 61) t309_61 rfl ?_
          refine zs_iload_n (pc := 62) t309_62 rfl ?_
          refine zs_invV (pc := 63) (k := 336) (as' := [.int a]) (st := []) t309_63 mf312 rfl rfl (Or.inl ⟨by decide, (zk1 (w6s.k fk_zMm_336))⟩) ⟨by decide, by decide, Nat.le_of_ble_eq_true rfl, Nat.le_of_ble_eq_true rfl⟩ (K312 w6s w6I ?_) (fun _ _ q => q)
          intro w8v  w8a w8b
          show zGo X l 7 0 0 309 66 [(0, .ref 336), (1, .int a), (2, .int b)] [.int w8v] w6M _
          exact zs_iret (pc := 66) t309_66 mr309 rfl (hQ _ _ w6s w6I ((zFr.refl).trans (w6F.mono rfl)) (zPR.fr pR (w6F.eq rfl)) (zPC.fr pC (w6F.eq rfl)) w6PF)
        · refine zs_icmp_neF (pc := 50) t309_50 rfl li3 (by omega) ?_
          refine zs_aload_n (pc := 53) t309_53 rfl ?_
          refine zs_iload_n (pc := 54) t309_54 rfl ?_
          refine zs_invV (pc := 55) (k := 336) (as' := [.int a]) (st := []) t309_55 mf311 rfl rfl (Or.inl ⟨by decide, (zk1 (w6s.k fk_zMm_336))⟩) ⟨by decide, by decide, Nat.le_of_ble_eq_true rfl, Nat.le_of_ble_eq_true rfl⟩ (K311 w6s w6I ?_) (fun _ _ q => q)
          intro w9v
          have w9g := zrg w9v
          show zGo X l 7 0 0 309 58 [(0, .ref 336), (1, .int a), (2, .int b)] [.int w9v] w6M _
          refine zs_goto (pc := 58) t309_58 ?_
          exact zs_iret (pc := 66) t309_66 mr309 rfl (hQ _ _ w6s w6I ((zFr.refl).trans (w6F.mono rfl)) (zPR.fr pR (w6F.eq rfl)) (zPC.fr pC (w6F.eq rfl)) w6PF)
      · refine zs_icmp_geF (pc := 26) t309_26 rfl li3 (by omega) ?_
        refine zs_aload_n (pc := 29) t309_29 rfl ?_
        refine zs_get (pc := 30) t309_30 (by decide) (zk1 (hs.k fk_zMm_336)) (hs.p rfl fv_zMm_336_0) ?_
        refine zs_sipush (pc := 33) t309_33 (v := 270) (by decide) ?_
        refine zs_iconst (pc := 36) t309_36 (v := 3) (by decide) ?_
        refine zs_iload_n (pc := 37) t309_37 rfl ?_
        obtain ⟨w10v, w10⟩ : ∃ v, (3 : Int32) * a = v := ⟨_, rfl⟩
        have w10g : w10v.toInt = 3 * a.toInt := by rw [← w10]; exact zmulc li3 rfl (by omega) (by omega)
        refine zs_imul (pc := 38) t309_38 (c := w10v) w10 ?_
        obtain ⟨w11v, w11e, w11⟩ := ziadd (a := (270 : Int32)) (b := w10v) li270 w10g (by omega) (by omega)
        refine zs_iadd (pc := 39) t309_39 (c := w11v) w11e ?_
        refine zs_iload_n (pc := 40) t309_40 rfl ?_
        obtain ⟨w12v, w12e, w12⟩ := ziadd (a := w11v) (b := b) w11 rfl (by omega) (by omega)
        refine zs_iadd (pc := 41) t309_41 (c := w12v) w12e ?_
        obtain ⟨w13n, w13⟩ : ∃ n : Nat, a.toInt = (n : Int) := ⟨(a.toInt).toNat, by omega⟩
        obtain ⟨w14n, w14⟩ : ∃ n : Nat, b.toInt = (n : Int) := ⟨(b.toInt).toNat, by omega⟩
        have w15 := zrg (zI M 337 (270 + 3 * w13n + w14n))
        refine zs_iald (pc := 42) t309_42 (j := (270 + 3 * w13n + w14n)) (by decide) (zk1 (hs.k fk_zMm_337)) (show w12v.toInt = (((270 + 3 * w13n + w14n) : Nat) : Int) by omega) (zk2 (hs.k fk_zMm_337) (by omega)) rfl ?_
        exact zs_iret (pc := 43) t309_43 mr309 rfl (hQ _ _ hs hI (zFr.refl) pR pC pF)
    · refine zs_invS (pc := 14) (as := [.long b.toInt64, .long (0 : Int64), .long (4 : Int64)]) (st := []) t309_14 (by decide) mf228 rfl rfl ⟨by decide, by decide, Nat.le_of_ble_eq_true rfl, Nat.le_of_ble_eq_true rfl⟩ (K228F (zi2l rfl) ll0 ll4 (by omega) ?_) (fun _ _ q => q)
      show zGo X l 7 0 0 309 17 [(0, .ref 336), (1, .int a), (2, .int b)] [.int (0 : Int32)] M _
      refine zs_if_neF (pc := 17) t309_17 li0 (by decide) ?_
      refine zs_ldc_w (pc := 20) t309_20 (v := -100000) rfl (by decide) ?_
      exact zs_iret (pc := 23) t309_23 mr309 (by decide) (hQ _ _ hs hI (zFr.refl) pR pC pF)
  · refine zs_invS (pc := 12) (as := [.long a.toInt64, .long (0 : Int64), .long w2v.toInt64]) (st := []) t310_12 (by decide) mf228 rfl rfl ⟨by decide, by decide, Nat.le_of_ble_eq_true rfl, Nat.le_of_ble_eq_true rfl⟩ (K228F (zi2l rfl) ll0 (zi2l w2) (by omega) ?_) (fun _ _ q => q)
    show zGo X l 1 0 0 310 15 [(0, .ref 336), (1, .int a)] [.int (0 : Int32)] M _
    refine zs_iret (pc := 15) t310_15 mr310 (by decide) ?_
    show zGo X l 7 0 0 309 5 [(0, .ref 336), (1, .int a), (2, .int b)] [.int (0 : Int32)] M _
    refine zs_if_eqT (pc := 5) t309_5 li0 (by decide) ?_
    refine zs_ldc_w (pc := 20) t309_20 (v := -100000) rfl (by decide) ?_
    exact zs_iret (pc := 23) t309_23 mr309 (by decide) (hQ _ _ hs hI (zFr.refl) pR pC pF)
theorem T314 {X : zX} {l : Launch} {M : zM} {Q : Option Value → zM → Prop} {a b c : Int32} (hs : zSk zMm M) (hI : zIv mLo mHi M) (pR : zPR M) (pC : zPC M) (pF : zPF M) (hQ : ∀ (M' : zM) (v : Int32), zSk zMm M' → zIv mLo mHi M' → zFr [(336, 336, some 3), (336, 336, some 18), (336, 336, some 19), (336, 336, some 20), (336, 336, some 21), (336, 336, some 22), (336, 336, some 37), (336, 336, some 39), (336, 336, some 42), (336, 336, some 43), (336, 336, some 44), (336, 336, some 45), (342, 361, none)] M M' → zPR M' → zPC M' → zPF M' → Q (some (.int v)) M') : zCall X l 3 0 0 314 [.ref 336, .int a, .int b, .int c] M Q := by
  have ga := zrg a
  have gb := zrg b
  have gc := zrg c
  refine zs_in (by decide) mf314 (Nat.le_of_ble_eq_true rfl) ?_
  show zGo X l 3 0 0 314 0 [(0, .ref 336), (1, .int a), (2, .int b), (3, .int c)] [] M _
  refine zs_aload_n (pc := 0) t314_0 rfl ?_
  refine zs_iload_n (pc := 1) t314_1 rfl ?_
  refine zs_invV (pc := 2) (k := 336) (as' := [.int a]) (st := []) t314_2 mf306 rfl rfl (Or.inl ⟨by decide, (zk1 (hs.k fk_zMm_336))⟩) ⟨by decide, by decide, Nat.le_of_ble_eq_true rfl, Nat.le_of_ble_eq_true rfl⟩ (zs_in (by decide) mf306 (Nat.le_of_ble_eq_true rfl) ?_) (fun _ _ q => q)
  show zGo X l 1 0 0 306 0 [(0, .ref 336), (1, .int a)] [] M _
  refine zs_iload_n (pc := 0) t306_0 rfl ?_
  refine zs_i2l (pc := 1) t306_1 rfl ?_
  refine zs_lconst (pc := 2) t306_2 (v := 0) (by decide) ?_
  refine zs_aload_n (pc := 3) t306_3 rfl ?_
  refine zs_get (pc := 4) t306_4 (by decide) (zk1 (hs.k fk_zMm_336)) (hs.p rfl fv_zMm_336_0) ?_
  refine zs_iconst (pc := 7) t306_7 (v := 0) (by decide) ?_
  have w1 := ibA0 hI
  refine zs_iald (pc := 8) t306_8 (j := 0) (by decide) (zk1 (hs.k fk_zMm_337)) li0 (zk2 (hs.k fk_zMm_337) (by decide)) rfl ?_
  refine zs_iconst (pc := 9) t306_9 (v := 1) (by decide) ?_
  obtain ⟨w2v, w2e, w2⟩ := zisub (a := (zI M 337 0)) (b := (1 : Int32)) rfl li1 (by omega) (by omega)
  refine zs_isub (pc := 10) t306_10 (c := w2v) w2e ?_
  refine zs_i2l (pc := 11) t306_11 rfl ?_
  by_cases w3 : 0 ≤ a.toInt ∧ a.toInt ≤ ((zI M 337 0).toInt - 1)
  · refine zs_invS (pc := 12) (as := [.long a.toInt64, .long (0 : Int64), .long w2v.toInt64]) (st := []) t306_12 (by decide) mf228 rfl rfl ⟨by decide, by decide, Nat.le_of_ble_eq_true rfl, Nat.le_of_ble_eq_true rfl⟩ (K228T (zi2l rfl) ll0 (zi2l w2) (by omega) ?_) (fun _ _ q => q)
    show zGo X l 1 0 0 306 15 [(0, .ref 336), (1, .int a)] [.int (1 : Int32)] M _
    refine zs_iret (pc := 15) t306_15 mr306 (by decide) ?_
    show zGo X l 3 0 0 314 5 [(0, .ref 336), (1, .int a), (2, .int b), (3, .int c)] [.int (1 : Int32)] M _
    refine zs_if_eqF (pc := 5) t314_5 li1 (by decide) ?_
    refine zs_iload_n (pc := 8) t314_8 rfl ?_
    refine zs_i2l (pc := 9) t314_9 rfl ?_
    refine zs_ldc2_w (pc := 10) t314_10 (v := -99) (by decide) ?_
    refine zs_ldc2_w (pc := 13) t314_13 (v := 99) (by decide) ?_
    by_cases w4 : (-99) ≤ b.toInt ∧ b.toInt ≤ 99
    · refine zs_invS (pc := 16) (as := [.long b.toInt64, .long (-99 : Int64), .long (99 : Int64)]) (st := []) t314_16 (by decide) mf228 rfl rfl ⟨by decide, by decide, Nat.le_of_ble_eq_true rfl, Nat.le_of_ble_eq_true rfl⟩ (K228T (zi2l rfl) lln99 ll99 (by omega) ?_) (fun _ _ q => q)
      show zGo X l 3 0 0 314 19 [(0, .ref 336), (1, .int a), (2, .int b), (3, .int c)] [.int (1 : Int32)] M _
      refine zs_if_eqF (pc := 19) t314_19 li1 (by decide) ?_
      refine zs_iload_n (pc := 22) t314_22 rfl ?_
      refine zs_i2l (pc := 23) t314_23 rfl ?_
      refine zs_ldc2_w (pc := 24) t314_24 (v := -99) (by decide) ?_
      refine zs_ldc2_w (pc := 27) t314_27 (v := 99) (by decide) ?_
      by_cases w5 : (-99) ≤ c.toInt ∧ c.toInt ≤ 99
      · refine zs_invS (pc := 30) (as := [.long c.toInt64, .long (-99 : Int64), .long (99 : Int64)]) (st := []) t314_30 (by decide) mf228 rfl rfl ⟨by decide, by decide, Nat.le_of_ble_eq_true rfl, Nat.le_of_ble_eq_true rfl⟩ (K228T (zi2l rfl) lln99 ll99 (by omega) ?_) (fun _ _ q => q)
        show zGo X l 3 0 0 314 33 [(0, .ref 336), (1, .int a), (2, .int b), (3, .int c)] [.int (1 : Int32)] M _
        refine zs_if_eqF (pc := 33) t314_33 li1 (by decide) ?_
        refine zs_aload_n (pc := 36) t314_36 rfl ?_
        refine zs_iload_n (pc := 37) t314_37 rfl ?_
        refine zs_iload_n (pc := 38) t314_38 rfl ?_
        refine zs_iload_n (pc := 39) t314_39 rfl ?_
        refine zs_invV (pc := 40) (k := 336) (as' := [.int a, .int b, .int c]) (st := []) t314_40 mf249 rfl rfl (Or.inl ⟨by decide, (zk1 (hs.k fk_zMm_336))⟩) ⟨by decide, by decide, Nat.le_of_ble_eq_true rfl, Nat.le_of_ble_eq_true rfl⟩ (K249 hs hI ⟨by omega, by omega⟩ ?_) (fun _ _ q => q)
        have w6 := zrg (zlift M a b c)
        show zGo X l 3 0 0 314 43 [(0, .ref 336), (1, .int a), (2, .int b), (3, .int c)] [.int (zlift M a b c)] M _
        refine zs_goto (pc := 43) t314_43 ?_
        exact zs_iret (pc := 49) t314_49 mr314 rfl (hQ _ _ hs hI (zFr.refl) pR pC pF)
      · refine zs_invS (pc := 30) (as := [.long c.toInt64, .long (-99 : Int64), .long (99 : Int64)]) (st := []) t314_30 (by decide) mf228 rfl rfl ⟨by decide, by decide, Nat.le_of_ble_eq_true rfl, Nat.le_of_ble_eq_true rfl⟩ (K228F (zi2l rfl) lln99 ll99 (by omega) ?_) (fun _ _ q => q)
        show zGo X l 3 0 0 314 33 [(0, .ref 336), (1, .int a), (2, .int b), (3, .int c)] [.int (0 : Int32)] M _
        refine zs_if_eqT (pc := 33) t314_33 li0 (by decide) ?_
        refine zs_ldc_w (pc := 46) t314_46 (v := -100000) rfl (by decide) ?_
        exact zs_iret (pc := 49) t314_49 mr314 (by decide) (hQ _ _ hs hI (zFr.refl) pR pC pF)
    · refine zs_invS (pc := 16) (as := [.long b.toInt64, .long (-99 : Int64), .long (99 : Int64)]) (st := []) t314_16 (by decide) mf228 rfl rfl ⟨by decide, by decide, Nat.le_of_ble_eq_true rfl, Nat.le_of_ble_eq_true rfl⟩ (K228F (zi2l rfl) lln99 ll99 (by omega) ?_) (fun _ _ q => q)
      show zGo X l 3 0 0 314 19 [(0, .ref 336), (1, .int a), (2, .int b), (3, .int c)] [.int (0 : Int32)] M _
      refine zs_if_eqT (pc := 19) t314_19 li0 (by decide) ?_
      refine zs_ldc_w (pc := 46) t314_46 (v := -100000) rfl (by decide) ?_
      exact zs_iret (pc := 49) t314_49 mr314 (by decide) (hQ _ _ hs hI (zFr.refl) pR pC pF)
  · refine zs_invS (pc := 12) (as := [.long a.toInt64, .long (0 : Int64), .long w2v.toInt64]) (st := []) t306_12 (by decide) mf228 rfl rfl ⟨by decide, by decide, Nat.le_of_ble_eq_true rfl, Nat.le_of_ble_eq_true rfl⟩ (K228F (zi2l rfl) ll0 (zi2l w2) (by omega) ?_) (fun _ _ q => q)
    show zGo X l 1 0 0 306 15 [(0, .ref 336), (1, .int a)] [.int (0 : Int32)] M _
    refine zs_iret (pc := 15) t306_15 mr306 (by decide) ?_
    show zGo X l 3 0 0 314 5 [(0, .ref 336), (1, .int a), (2, .int b), (3, .int c)] [.int (0 : Int32)] M _
    refine zs_if_eqT (pc := 5) t314_5 li0 (by decide) ?_
    refine zs_ldc_w (pc := 46) t314_46 (v := -100000) rfl (by decide) ?_
    exact zs_iret (pc := 49) t314_49 mr314 (by decide) (hQ _ _ hs hI (zFr.refl) pR pC pF)
theorem T315 {X : zX} {l : Launch} {M : zM} {Q : Option Value → zM → Prop} {a b c : Int32} (hs : zSk zMm M) (hI : zIv mLo mHi M) (pR : zPR M) (pC : zPC M) (pF : zPF M) (hQ : ∀ (M' : zM) (v : Int32), zSk zMm M' → zIv mLo mHi M' → zFr [(336, 336, some 3), (336, 336, some 18), (336, 336, some 19), (336, 336, some 20), (336, 336, some 21), (336, 336, some 22), (336, 336, some 37), (336, 336, some 39), (336, 336, some 42), (336, 336, some 43), (336, 336, some 44), (336, 336, some 45), (342, 361, none)] M M' → zPR M' → zPC M' → zPF M' → Q (some (.int v)) M') : zCall X l 3 0 0 315 [.ref 336, .int a, .int b, .int c] M Q := by
  have ga := zrg a
  have gb := zrg b
  have gc := zrg c
  refine zs_in (by decide) mf315 (Nat.le_of_ble_eq_true rfl) ?_
  show zGo X l 3 0 0 315 0 [(0, .ref 336), (1, .int a), (2, .int b), (3, .int c)] [] M _
  refine zs_iload_n (pc := 0) t315_0 rfl ?_
  refine zs_i2l (pc := 1) t315_1 rfl ?_
  refine zs_aload_n (pc := 2) t315_2 rfl ?_
  refine zs_get (pc := 3) t315_3 (by decide) (zk1 (hs.k fk_zMm_336)) (hs.p rfl fv_zMm_336_0) ?_
  refine zs_iconst (pc := 6) t315_6 (v := 5) (by decide) ?_
  have w1 := ibA5 hI
  refine zs_iald (pc := 7) t315_7 (j := 5) (by decide) (zk1 (hs.k fk_zMm_337)) li5 (zk2 (hs.k fk_zMm_337) (by decide)) rfl ?_
  obtain ⟨w2v, w2e⟩ : ∃ v, -(zI M 337 5) = v := ⟨_, rfl⟩
  have w2 : w2v.toInt = -(zI M 337 5).toInt := by rw [← w2e]; exact zneg rfl (by omega)
  refine zs_ineg (pc := 8) t315_8 (c := w2v) w2e ?_
  refine zs_i2l (pc := 9) t315_9 rfl ?_
  refine zs_aload_n (pc := 10) t315_10 rfl ?_
  refine zs_get (pc := 11) t315_11 (by decide) (zk1 (hs.k fk_zMm_336)) (hs.p rfl fv_zMm_336_0) ?_
  refine zs_iconst (pc := 14) t315_14 (v := 5) (by decide) ?_
  refine zs_iald (pc := 15) t315_15 (j := 5) (by decide) (zk1 (hs.k fk_zMm_337)) li5 (zk2 (hs.k fk_zMm_337) (by decide)) rfl ?_
  refine zs_i2l (pc := 16) t315_16 rfl ?_
  by_cases w3 : (-(zI M 337 5).toInt) ≤ a.toInt ∧ a.toInt ≤ (zI M 337 5).toInt
  · refine zs_invS (pc := 17) (as := [.long a.toInt64, .long w2v.toInt64, .long (zI M 337 5).toInt64]) (st := []) t315_17 (by decide) mf228 rfl rfl ⟨by decide, by decide, Nat.le_of_ble_eq_true rfl, Nat.le_of_ble_eq_true rfl⟩ (K228T (zi2l rfl) (zi2l w2) (zi2l rfl) (by omega) ?_) (fun _ _ q => q)
    show zGo X l 3 0 0 315 20 [(0, .ref 336), (1, .int a), (2, .int b), (3, .int c)] [.int (1 : Int32)] M _
    refine zs_if_eqF (pc := 20) t315_20 li1 (by decide) ?_
    refine zs_iload_n (pc := 23) t315_23 rfl ?_
    refine zs_i2l (pc := 24) t315_24 rfl ?_
    refine zs_aload_n (pc := 25) t315_25 rfl ?_
    refine zs_get (pc := 26) t315_26 (by decide) (zk1 (hs.k fk_zMm_336)) (hs.p rfl fv_zMm_336_0) ?_
    refine zs_bipush (pc := 29) t315_29 (v := 6) (by decide) ?_
    have w4 := ibA6 hI
    refine zs_iald (pc := 31) t315_31 (j := 6) (by decide) (zk1 (hs.k fk_zMm_337)) li6 (zk2 (hs.k fk_zMm_337) (by decide)) rfl ?_
    obtain ⟨w5v, w5e⟩ : ∃ v, -(zI M 337 6) = v := ⟨_, rfl⟩
    have w5 : w5v.toInt = -(zI M 337 6).toInt := by rw [← w5e]; exact zneg rfl (by omega)
    refine zs_ineg (pc := 32) t315_32 (c := w5v) w5e ?_
    refine zs_i2l (pc := 33) t315_33 rfl ?_
    refine zs_aload_n (pc := 34) t315_34 rfl ?_
    refine zs_get (pc := 35) t315_35 (by decide) (zk1 (hs.k fk_zMm_336)) (hs.p rfl fv_zMm_336_0) ?_
    refine zs_bipush (pc := 38) t315_38 (v := 6) (by decide) ?_
    refine zs_iald (pc := 40) t315_40 (j := 6) (by decide) (zk1 (hs.k fk_zMm_337)) li6 (zk2 (hs.k fk_zMm_337) (by decide)) rfl ?_
    refine zs_i2l (pc := 41) t315_41 rfl ?_
    by_cases w6 : (-(zI M 337 6).toInt) ≤ b.toInt ∧ b.toInt ≤ (zI M 337 6).toInt
    · refine zs_invS (pc := 42) (as := [.long b.toInt64, .long w5v.toInt64, .long (zI M 337 6).toInt64]) (st := []) t315_42 (by decide) mf228 rfl rfl ⟨by decide, by decide, Nat.le_of_ble_eq_true rfl, Nat.le_of_ble_eq_true rfl⟩ (K228T (zi2l rfl) (zi2l w5) (zi2l rfl) (by omega) ?_) (fun _ _ q => q)
      show zGo X l 3 0 0 315 45 [(0, .ref 336), (1, .int a), (2, .int b), (3, .int c)] [.int (1 : Int32)] M _
      refine zs_if_neT (pc := 45) t315_45 li1 (by decide) ?_
      refine zs_iconst (pc := 50) t315_50 (v := 0) (by decide) ?_
      refine zs_istore (pc := 51) t315_51 (ls' := [(4, .int (0 : Int32)), (0, .ref 336), (1, .int a), (2, .int b), (3, .int c)]) (zml mf315 (by decide)) rfl ?_
      refine zs_iconst (pc := 53) t315_53 (v := 0) (by decide) ?_
      refine zs_istore (pc := 54) t315_54 (ls' := [(5, .int (0 : Int32)), (4, .int (0 : Int32)), (0, .ref 336), (1, .int a), (2, .int b), (3, .int c)]) (zml mf315 (by decide)) rfl ?_
      have w7L : ∀ (m : Nat) (w7x4 : Int32) (w7x5 : Int32), (0 ≤ w7x5.toInt ∧ w7x5.toInt ≤ 60) → 60 - w7x5.toInt ≤ (m : Int) → zGo X l 3 0 0 315 56 [(0, .ref 336), (1, .int a), (2, .int b), (3, .int c), (4, .int w7x4), (5, .int w7x5)] [] M Q := by
        intro m
        induction m using Nat.strongRecOn with
        | ind w7m w7ih =>
          intro w7x4 w7x5 w7b5 w7q
          have w7g4 := zrg w7x4
          refine zs_iload (pc := 56) t315_56 rfl ?_
          refine zs_aload_n (pc := 58) t315_58 rfl ?_
          refine zs_get (pc := 59) t315_59 (by decide) (zk1 (hs.k fk_zMm_336)) (hs.p rfl fv_zMm_336_0) ?_
          refine zs_iconst (pc := 62) t315_62 (v := 1) (by decide) ?_
          have w8 := ibA1 hI
          refine zs_iald (pc := 63) t315_63 (j := 1) (by decide) (zk1 (hs.k fk_zMm_337)) li1 (zk2 (hs.k fk_zMm_337) (by decide)) rfl ?_
          by_cases w9 : (zI M 337 1).toInt ≤ w7x5.toInt
          · refine zs_icmp_geT (pc := 64) t315_64 rfl rfl (by omega) ?_
            refine zs_iload (pc := 133) t315_133 rfl ?_
            refine zs_invS (pc := 135) (as := [.int w7x4]) (st := []) t315_135 (by decide) mf278 rfl rfl ⟨by decide, by decide, Nat.le_of_ble_eq_true rfl, Nat.le_of_ble_eq_true rfl⟩ (K278x hs hI ?_) (fun _ _ q => q)
            intro w10v w10x0
            have w10g := zrg w10v
            show zGo X l 3 0 0 315 138 [(0, .ref 336), (1, .int a), (2, .int b), (3, .int c), (4, .int w7x4), (5, .int w7x5)] [.int w10v] M _
            exact zs_iret (pc := 138) t315_138 mr315 rfl (hQ _ _ hs hI (zFr.refl) pR pC pF)
          · refine zs_icmp_geF (pc := 64) t315_64 rfl rfl (by omega) ?_
            refine zs_aload_n (pc := 67) t315_67 rfl ?_
            refine zs_iload (pc := 68) t315_68 rfl ?_
            refine zs_iconst (pc := 70) t315_70 (v := 0) (by decide) ?_
            refine zs_invV (pc := 71) (k := 336) (as' := [.int w7x5, .int (0 : Int32)]) (st := []) t315_71 mf272 rfl rfl (Or.inl ⟨by decide, (zk1 (hs.k fk_zMm_336))⟩) ⟨by decide, by decide, Nat.le_of_ble_eq_true rfl, Nat.le_of_ble_eq_true rfl⟩ (zs_in (by decide) mf272 (Nat.le_of_ble_eq_true rfl) ?_) (fun _ _ q => q)
            show zGo X l 0 0 0 272 0 [(0, .ref 336), (1, .int w7x5), (2, .int (0 : Int32))] [] M _
            refine zs_aload_n (pc := 0) t272_0 rfl ?_
            refine zs_get (pc := 1) t272_1 (by decide) (zk1 (hs.k fk_zMm_336)) (hs.p rfl fv_zMm_336_0) ?_
            refine zs_bipush (pc := 4) t272_4 (v := 30) (by decide) ?_
            refine zs_iconst (pc := 6) t272_6 (v := 4) (by decide) ?_
            refine zs_iload_n (pc := 7) t272_7 rfl ?_
            obtain ⟨w11v, w11⟩ : ∃ v, (4 : Int32) * w7x5 = v := ⟨_, rfl⟩
            have w11g : w11v.toInt = 4 * w7x5.toInt := by rw [← w11]; exact zmulc li4 rfl (by omega) (by omega)
            refine zs_imul (pc := 8) t272_8 (c := w11v) w11 ?_
            obtain ⟨w12v, w12e, w12⟩ := ziadd (a := (30 : Int32)) (b := w11v) li30 w11g (by omega) (by omega)
            refine zs_iadd (pc := 9) t272_9 (c := w12v) w12e ?_
            refine zs_iload_n (pc := 10) t272_10 rfl ?_
            obtain ⟨w13v, w13e, w13⟩ := ziadd (a := w12v) (b := (0 : Int32)) w12 li0 (by omega) (by omega)
            refine zs_iadd (pc := 11) t272_11 (c := w13v) w13e ?_
            obtain ⟨w14n, w14⟩ : ∃ n : Nat, w7x5.toInt = (n : Int) := ⟨(w7x5.toInt).toNat, by omega⟩
            have w15 := ibL (j := (30 + 4 * w14n)) hI (by omega) (by omega) (by omega)
            refine zs_iald (pc := 12) t272_12 (j := (30 + 4 * w14n)) (by decide) (zk1 (hs.k fk_zMm_337)) (show w13v.toInt = (((30 + 4 * w14n) : Nat) : Int) by omega) (zk2 (hs.k fk_zMm_337) (by omega)) rfl ?_
            refine zs_iret (pc := 13) t272_13 mr272 rfl ?_
            show zGo X l 3 0 0 315 74 [(0, .ref 336), (1, .int a), (2, .int b), (3, .int c), (4, .int w7x4), (5, .int w7x5)] [.int (zI M 337 (30 + 4 * w14n))] M _
            refine zs_istore (pc := 74) t315_74 (ls' := [(6, .int (zI M 337 (30 + 4 * w14n))), (0, .ref 336), (1, .int a), (2, .int b), (3, .int c), (4, .int w7x4), (5, .int w7x5)]) (zml mf315 (by decide)) rfl ?_
            refine zs_aload_n (pc := 76) t315_76 rfl ?_
            refine zs_iload (pc := 77) t315_77 rfl ?_
            refine zs_iconst (pc := 79) t315_79 (v := -1) (by decide) ?_
            refine zs_invV (pc := 80) (k := 336) (as' := [.int w7x5, .int (-1 : Int32)]) (st := []) t315_80 mf271 rfl rfl (Or.inl ⟨by decide, (zk1 (hs.k fk_zMm_336))⟩) ⟨by decide, by decide, Nat.le_of_ble_eq_true rfl, Nat.le_of_ble_eq_true rfl⟩ (K271 hs hI ⟨by omega, by omega⟩ ?_) (fun _ _ q => q)
            intro w16v  w16a w16b
            show zGo X l 3 0 0 315 83 [(6, .int (zI M 337 (30 + 4 * w14n))), (0, .ref 336), (1, .int a), (2, .int b), (3, .int c), (4, .int w7x4), (5, .int w7x5)] [.int w16v] M _
            by_cases w17 : w16v.toInt = 0
            · refine zs_if_eqT (pc := 83) t315_83 rfl (by omega) ?_
              obtain ⟨w18v, w18e, w18⟩ := ziadd (a := w7x5) (b := Int32.ofInt 1) rfl (show (Int32.ofInt 1).toInt = 1 by decide) (by omega) (by omega)
              refine zs_iinc (pc := 127) t315_127 (ls' := [(5, .int w18v), (6, .int (zI M 337 (30 + 4 * w14n))), (0, .ref 336), (1, .int a), (2, .int b), (3, .int c), (4, .int w7x4)]) (zml mf315 (by decide)) rfl (c := w18v) w18e rfl ?_
              refine zs_goto (pc := 130) t315_130 ?_
              refine zGo.locals (ls' := [(0, .ref 336), (1, .int a), (2, .int b), (3, .int c), (4, .int w7x4), (5, .int w18v)]) (by simp) ?_
              have w19 := w18
              exact w7ih (w7m - 1) (by omega) w7x4 w18v ⟨by omega, by omega⟩ (by omega)
            · refine zs_if_eqF (pc := 83) t315_83 rfl (by omega) ?_
              refine zs_aload_n (pc := 86) t315_86 rfl ?_
              refine zs_iload (pc := 87) t315_87 rfl ?_
              refine zs_iconst (pc := 89) t315_89 (v := 1) (by decide) ?_
              refine zs_invV (pc := 90) (k := 336) (as' := [.int w7x5, .int (1 : Int32)]) (st := []) t315_90 mf272 rfl rfl (Or.inl ⟨by decide, (zk1 (hs.k fk_zMm_336))⟩) ⟨by decide, by decide, Nat.le_of_ble_eq_true rfl, Nat.le_of_ble_eq_true rfl⟩ (zs_in (by decide) mf272 (Nat.le_of_ble_eq_true rfl) ?_) (fun _ _ q => q)
              show zGo X l 0 0 0 272 0 [(0, .ref 336), (1, .int w7x5), (2, .int (1 : Int32))] [] M _
              refine zs_aload_n (pc := 0) t272_0 rfl ?_
              refine zs_get (pc := 1) t272_1 (by decide) (zk1 (hs.k fk_zMm_336)) (hs.p rfl fv_zMm_336_0) ?_
              refine zs_bipush (pc := 4) t272_4 (v := 30) (by decide) ?_
              refine zs_iconst (pc := 6) t272_6 (v := 4) (by decide) ?_
              refine zs_iload_n (pc := 7) t272_7 rfl ?_
              obtain ⟨w20v, w20⟩ : ∃ v, (4 : Int32) * w7x5 = v := ⟨_, rfl⟩
              have w20g : w20v.toInt = 4 * w7x5.toInt := by rw [← w20]; exact zmulc li4 rfl (by omega) (by omega)
              refine zs_imul (pc := 8) t272_8 (c := w20v) w20 ?_
              obtain ⟨w21v, w21e, w21⟩ := ziadd (a := (30 : Int32)) (b := w20v) li30 w20g (by omega) (by omega)
              refine zs_iadd (pc := 9) t272_9 (c := w21v) w21e ?_
              refine zs_iload_n (pc := 10) t272_10 rfl ?_
              obtain ⟨w22v, w22e, w22⟩ := ziadd (a := w21v) (b := (1 : Int32)) w21 li1 (by omega) (by omega)
              refine zs_iadd (pc := 11) t272_11 (c := w22v) w22e ?_
              have w23 := zrg (zI M 337 (31 + 4 * w14n))
              refine zs_iald (pc := 12) t272_12 (j := (31 + 4 * w14n)) (by decide) (zk1 (hs.k fk_zMm_337)) (show w22v.toInt = (((31 + 4 * w14n) : Nat) : Int) by omega) (zk2 (hs.k fk_zMm_337) (by omega)) rfl ?_
              refine zs_iret (pc := 13) t272_13 mr272 rfl ?_
              show zGo X l 3 0 0 315 93 [(6, .int (zI M 337 (30 + 4 * w14n))), (0, .ref 336), (1, .int a), (2, .int b), (3, .int c), (4, .int w7x4), (5, .int w7x5)] [.int (zI M 337 (31 + 4 * w14n))] M _
              refine zs_aload_n (pc := 93) t315_93 rfl ?_
              refine zs_iload (pc := 94) t315_94 rfl ?_
              refine zs_iload_n (pc := 96) t315_96 rfl ?_
              refine zs_iload_n (pc := 97) t315_97 rfl ?_
              refine zs_invV (pc := 98) (k := 336) (as' := [.int (zI M 337 (30 + 4 * w14n)), .int b, .int a]) (st := [.int (zI M 337 (31 + 4 * w14n))]) t315_98 mf249 rfl rfl (Or.inl ⟨by decide, (zk1 (hs.k fk_zMm_336))⟩) ⟨by decide, by decide, Nat.le_of_ble_eq_true rfl, Nat.le_of_ble_eq_true rfl⟩ (K249 hs hI ⟨by omega, by omega⟩ ?_) (fun _ _ q => q)
              have w24 := zrg (zlift M (zI M 337 (30 + 4 * w14n)) b a)
              show zGo X l 3 0 0 315 101 [(6, .int (zI M 337 (30 + 4 * w14n))), (0, .ref 336), (1, .int a), (2, .int b), (3, .int c), (4, .int w7x4), (5, .int w7x5)] [.int (zlift M (zI M 337 (30 + 4 * w14n)) b a), .int (zI M 337 (31 + 4 * w14n))] M _
              obtain ⟨w25v, w25⟩ : ∃ v, v = (zI M 337 (31 + 4 * w14n)) - (zlift M (zI M 337 (30 + 4 * w14n)) b a) := ⟨_, rfl⟩
              have w25g := zrg w25v
              refine zs_isub (pc := 101) t315_101 (c := w25v) w25.symm ?_
              refine zs_i2l (pc := 102) t315_102 rfl ?_
              refine zs_aload_n (pc := 103) t315_103 rfl ?_
              refine zs_get (pc := 104) t315_104 (by decide) (zk1 (hs.k fk_zMm_336)) (hs.p rfl fv_zMm_336_0) ?_
              refine zs_bipush (pc := 107) t315_107 (v := 7) (by decide) ?_
              have w26 := ibA7 hI
              refine zs_iald (pc := 109) t315_109 (j := 7) (by decide) (zk1 (hs.k fk_zMm_337)) li7 (zk2 (hs.k fk_zMm_337) (by decide)) rfl ?_
              refine zs_i2l (pc := 110) t315_110 rfl ?_
              have w27 : w25v.toInt64.toInt = w25v.toInt := (zi2l rfl)
              have w28 : (zI M 337 7).toInt64.toInt = (zI M 337 7).toInt := (zi2l rfl)
              refine zs_invS (pc := 111) (as := [.long w25v.toInt64, .long (zI M 337 7).toInt64]) (st := []) t315_111 (by decide) mf250 rfl rfl ⟨by decide, by decide, Nat.le_of_ble_eq_true rfl, Nat.le_of_ble_eq_true rfl⟩ (K250 hs hI ⟨by omega, by omega⟩ ?_) (fun _ _ q => q)
              have w29 := zrg (zflr w25v.toInt64 (zI M 337 7).toInt64)
              show zGo X l 3 0 0 315 114 [(6, .int (zI M 337 (30 + 4 * w14n))), (0, .ref 336), (1, .int a), (2, .int b), (3, .int c), (4, .int w7x4), (5, .int w7x5)] [.int (zflr w25v.toInt64 (zI M 337 7).toInt64)] M _
              refine zs_iload_n (pc := 114) t315_114 rfl ?_
              by_cases w30 : (zflr w25v.toInt64 (zI M 337 7).toInt64).toInt ≠ c.toInt
              · refine zs_icmp_neT (pc := 115) t315_115 rfl rfl (by omega) ?_
                obtain ⟨w31v, w31e, w31⟩ := ziadd (a := w7x5) (b := Int32.ofInt 1) rfl (show (Int32.ofInt 1).toInt = 1 by decide) (by omega) (by omega)
                refine zs_iinc (pc := 127) t315_127 (ls' := [(5, .int w31v), (6, .int (zI M 337 (30 + 4 * w14n))), (0, .ref 336), (1, .int a), (2, .int b), (3, .int c), (4, .int w7x4)]) (zml mf315 (by decide)) rfl (c := w31v) w31e rfl ?_
                refine zs_goto (pc := 130) t315_130 ?_
                refine zGo.locals (ls' := [(0, .ref 336), (1, .int a), (2, .int b), (3, .int c), (4, .int w7x4), (5, .int w31v)]) (by simp) ?_
                have w32 := w31
                exact w7ih (w7m - 1) (by omega) w7x4 w31v ⟨by omega, by omega⟩ (by omega)
              · refine zs_icmp_neF (pc := 115) t315_115 rfl rfl (by omega) ?_
                refine zs_iload (pc := 118) t315_118 rfl ?_
                refine zs_iconst (pc := 120) t315_120 (v := 1) (by decide) ?_
                refine zs_iload (pc := 121) t315_121 rfl ?_
                obtain ⟨w33v, w33⟩ : ∃ v, (1 : Int32) <<< ((zI M 337 (30 + 4 * w14n)) &&& 31) = v := ⟨_, rfl⟩
                have w33g := zrg w33v
                refine zs_ishl (pc := 123) t315_123 (c := w33v) w33 ?_
                obtain ⟨w34v, w34⟩ : ∃ v, w7x4 ||| w33v = v := ⟨_, rfl⟩
                have w34g := zrg w34v
                refine zs_ior (pc := 124) t315_124 (c := w34v) w34 ?_
                refine zs_istore (pc := 125) t315_125 (ls' := [(4, .int w34v), (6, .int (zI M 337 (30 + 4 * w14n))), (0, .ref 336), (1, .int a), (2, .int b), (3, .int c), (5, .int w7x5)]) (zml mf315 (by decide)) rfl ?_
                obtain ⟨w35v, w35e, w35⟩ := ziadd (a := w7x5) (b := Int32.ofInt 1) rfl (show (Int32.ofInt 1).toInt = 1 by decide) (by omega) (by omega)
                refine zs_iinc (pc := 127) t315_127 (ls' := [(5, .int w35v), (4, .int w34v), (6, .int (zI M 337 (30 + 4 * w14n))), (0, .ref 336), (1, .int a), (2, .int b), (3, .int c)]) (zml mf315 (by decide)) rfl (c := w35v) w35e rfl ?_
                refine zs_goto (pc := 130) t315_130 ?_
                refine zGo.locals (ls' := [(0, .ref 336), (1, .int a), (2, .int b), (3, .int c), (4, .int w34v), (5, .int w35v)]) (by simp) ?_
                have w36 := w35
                exact w7ih (w7m - 1) (by omega) w34v w35v ⟨by omega, by omega⟩ (by omega)
      refine zGo.locals (ls' := [(0, .ref 336), (1, .int a), (2, .int b), (3, .int c), (4, .int (0 : Int32)), (5, .int (0 : Int32))]) (by simp) ?_
      have w37 := li0
      have w38 := li0
      exact w7L ((60 - 0 : Int).toNat) (0 : Int32) (0 : Int32) ⟨by decide, by decide⟩ (by omega)
    · refine zs_invS (pc := 42) (as := [.long b.toInt64, .long w5v.toInt64, .long (zI M 337 6).toInt64]) (st := []) t315_42 (by decide) mf228 rfl rfl ⟨by decide, by decide, Nat.le_of_ble_eq_true rfl, Nat.le_of_ble_eq_true rfl⟩ (K228F (zi2l rfl) (zi2l w5) (zi2l rfl) (by omega) ?_) (fun _ _ q => q)
      show zGo X l 3 0 0 315 45 [(0, .ref 336), (1, .int a), (2, .int b), (3, .int c)] [.int (0 : Int32)] M _
      refine zs_if_neF (pc := 45) t315_45 li0 (by decide) ?_
      refine zs_iconst (pc := 48) t315_48 (v := -1) (by decide) ?_
      exact zs_iret (pc := 49) t315_49 mr315 (by decide) (hQ _ _ hs hI (zFr.refl) pR pC pF)
  · refine zs_invS (pc := 17) (as := [.long a.toInt64, .long w2v.toInt64, .long (zI M 337 5).toInt64]) (st := []) t315_17 (by decide) mf228 rfl rfl ⟨by decide, by decide, Nat.le_of_ble_eq_true rfl, Nat.le_of_ble_eq_true rfl⟩ (K228F (zi2l rfl) (zi2l w2) (zi2l rfl) (by omega) ?_) (fun _ _ q => q)
    show zGo X l 3 0 0 315 20 [(0, .ref 336), (1, .int a), (2, .int b), (3, .int c)] [.int (0 : Int32)] M _
    refine zs_if_eqT (pc := 20) t315_20 li0 (by decide) ?_
    refine zs_iconst (pc := 48) t315_48 (v := -1) (by decide) ?_
    exact zs_iret (pc := 49) t315_49 mr315 (by decide) (hQ _ _ hs hI (zFr.refl) pR pC pF)
theorem T316 {X : zX} {l : Launch} {M : zM} {Q : Option Value → zM → Prop} {a : Int32} (hs : zSk zMm M) (hI : zIv mLo mHi M) (pR : zPR M) (pC : zPC M) (pF : zPF M) (hQ : ∀ (M' : zM) (v : Int32), zSk zMm M' → zIv mLo mHi M' → zFr [(336, 336, some 3), (336, 336, some 18), (336, 336, some 19), (336, 336, some 20), (336, 336, some 21), (336, 336, some 22), (336, 336, some 37), (336, 336, some 39), (336, 336, some 42), (336, 336, some 43), (336, 336, some 44), (336, 336, some 45), (342, 361, none)] M M' → zPR M' → zPC M' → zPF M' → Q (some (.int v)) M') : zCall X l 8 0 0 316 [.ref 336, .int a] M Q := by
  have ga := zrg a
  refine zs_in (by decide) mf316 (Nat.le_of_ble_eq_true rfl) ?_
  show zGo X l 8 0 0 316 0 [(0, .ref 336), (1, .int a)] [] M _
  refine zs_iload_n (pc := 0) t316_0 rfl ?_
  by_cases w1 : a.toInt = 0
  · refine zs_tswI (pc := 1) t316_1 ((rfl : a.toInt = a.toInt).trans w1) (by decide) rfl (pc2 := 40) rfl ?_
    refine zs_aload_n (pc := 40) t316_40 rfl ?_
    refine zs_iconst (pc := 41) t316_41 (v := 0) (by decide) ?_
    refine zs_invV (pc := 42) (k := 336) (as' := [.int (0 : Int32)]) (st := []) t316_42 mf267 rfl rfl (Or.inl ⟨by decide, (zk1 (hs.k fk_zMm_336))⟩) ⟨by decide, by decide, Nat.le_of_ble_eq_true rfl, Nat.le_of_ble_eq_true rfl⟩ (K267 hs hI pR pF ?_) (fun _ _ q => q)
    intro w2M w2v w2s w2I w2F w2PF w2PD w2PV
    have w2g := zrg w2v
    show zGo X l 8 0 0 316 45 [(0, .ref 336), (1, .int a)] [.int w2v] w2M _
    exact zs_iret (pc := 45) t316_45 mr316 rfl (hQ _ _ w2s w2I ((zFr.refl).trans (w2F.mono rfl)) (zPR.fr pR (w2F.eq rfl)) (zPC.fr pC (w2F.eq rfl)) w2PF)
  by_cases w3 : a.toInt = 1
  · refine zs_tswI (pc := 1) t316_1 ((rfl : a.toInt = a.toInt).trans w3) (by decide) rfl (pc2 := 46) rfl ?_
    refine zs_aload_n (pc := 46) t316_46 rfl ?_
    refine zs_iconst (pc := 47) t316_47 (v := 3) (by decide) ?_
    refine zs_invV (pc := 48) (k := 336) (as' := [.int (3 : Int32)]) (st := []) t316_48 mf267 rfl rfl (Or.inl ⟨by decide, (zk1 (hs.k fk_zMm_336))⟩) ⟨by decide, by decide, Nat.le_of_ble_eq_true rfl, Nat.le_of_ble_eq_true rfl⟩ (K267 hs hI pR pF ?_) (fun _ _ q => q)
    intro w4M w4v w4s w4I w4F w4PF w4PD w4PV
    have w4g := zrg w4v
    show zGo X l 8 0 0 316 51 [(0, .ref 336), (1, .int a)] [.int w4v] w4M _
    exact zs_iret (pc := 51) t316_51 mr316 rfl (hQ _ _ w4s w4I ((zFr.refl).trans (w4F.mono rfl)) (zPR.fr pR (w4F.eq rfl)) (zPC.fr pC (w4F.eq rfl)) w4PF)
  by_cases w5 : a.toInt = 2
  · refine zs_tswI (pc := 1) t316_1 ((rfl : a.toInt = a.toInt).trans w5) (by decide) rfl (pc2 := 52) rfl ?_
    refine zs_aload_n (pc := 52) t316_52 rfl ?_
    refine zs_iconst (pc := 53) t316_53 (v := 2) (by decide) ?_
    refine zs_invV (pc := 54) (k := 336) (as' := [.int (2 : Int32)]) (st := []) t316_54 mf267 rfl rfl (Or.inl ⟨by decide, (zk1 (hs.k fk_zMm_336))⟩) ⟨by decide, by decide, Nat.le_of_ble_eq_true rfl, Nat.le_of_ble_eq_true rfl⟩ (K267 hs hI pR pF ?_) (fun _ _ q => q)
    intro w6M w6v w6s w6I w6F w6PF w6PD w6PV
    have w6g := zrg w6v
    show zGo X l 8 0 0 316 57 [(0, .ref 336), (1, .int a)] [.int w6v] w6M _
    exact zs_iret (pc := 57) t316_57 mr316 rfl (hQ _ _ w6s w6I ((zFr.refl).trans (w6F.mono rfl)) (zPR.fr pR (w6F.eq rfl)) (zPC.fr pC (w6F.eq rfl)) w6PF)
  by_cases w7 : a.toInt = 3
  · refine zs_tswI (pc := 1) t316_1 ((rfl : a.toInt = a.toInt).trans w7) (by decide) rfl (pc2 := 58) rfl ?_
    refine zs_aload_n (pc := 58) t316_58 rfl ?_
    refine zs_bipush (pc := 59) t316_59 (v := 6) (by decide) ?_
    refine zs_invV (pc := 61) (k := 336) (as' := [.int (6 : Int32)]) (st := []) t316_61 mf267 rfl rfl (Or.inl ⟨by decide, (zk1 (hs.k fk_zMm_336))⟩) ⟨by decide, by decide, Nat.le_of_ble_eq_true rfl, Nat.le_of_ble_eq_true rfl⟩ (K267 hs hI pR pF ?_) (fun _ _ q => q)
    intro w8M w8v w8s w8I w8F w8PF w8PD w8PV
    have w8g := zrg w8v
    show zGo X l 8 0 0 316 64 [(0, .ref 336), (1, .int a)] [.int w8v] w8M _
    exact zs_iret (pc := 64) t316_64 mr316 rfl (hQ _ _ w8s w8I ((zFr.refl).trans (w8F.mono rfl)) (zPR.fr pR (w8F.eq rfl)) (zPC.fr pC (w8F.eq rfl)) w8PF)
  by_cases w9 : a.toInt = 4
  · refine zs_tswI (pc := 1) t316_1 ((rfl : a.toInt = a.toInt).trans w9) (by decide) rfl (pc2 := 65) rfl ?_
    refine zs_aload_n (pc := 65) t316_65 rfl ?_
    refine zs_iconst (pc := 66) t316_66 (v := 4) (by decide) ?_
    refine zs_invV (pc := 67) (k := 336) (as' := [.int (4 : Int32)]) (st := []) t316_67 mf267 rfl rfl (Or.inl ⟨by decide, (zk1 (hs.k fk_zMm_336))⟩) ⟨by decide, by decide, Nat.le_of_ble_eq_true rfl, Nat.le_of_ble_eq_true rfl⟩ (K267 hs hI pR pF ?_) (fun _ _ q => q)
    intro w10M w10v w10s w10I w10F w10PF w10PD w10PV
    have w10g := zrg w10v
    show zGo X l 8 0 0 316 70 [(0, .ref 336), (1, .int a)] [.int w10v] w10M _
    exact zs_iret (pc := 70) t316_70 mr316 rfl (hQ _ _ w10s w10I ((zFr.refl).trans (w10F.mono rfl)) (zPR.fr pR (w10F.eq rfl)) (zPC.fr pC (w10F.eq rfl)) w10PF)
  by_cases w11 : a.toInt = 5
  · refine zs_tswI (pc := 1) t316_1 ((rfl : a.toInt = a.toInt).trans w11) (by decide) rfl (pc2 := 71) rfl ?_
    refine zs_aload_n (pc := 71) t316_71 rfl ?_
    refine zs_bipush (pc := 72) t316_72 (v := 7) (by decide) ?_
    refine zs_invV (pc := 74) (k := 336) (as' := [.int (7 : Int32)]) (st := []) t316_74 mf267 rfl rfl (Or.inl ⟨by decide, (zk1 (hs.k fk_zMm_336))⟩) ⟨by decide, by decide, Nat.le_of_ble_eq_true rfl, Nat.le_of_ble_eq_true rfl⟩ (K267 hs hI pR pF ?_) (fun _ _ q => q)
    intro w12M w12v w12s w12I w12F w12PF w12PD w12PV
    have w12g := zrg w12v
    show zGo X l 8 0 0 316 77 [(0, .ref 336), (1, .int a)] [.int w12v] w12M _
    exact zs_iret (pc := 77) t316_77 mr316 rfl (hQ _ _ w12s w12I ((zFr.refl).trans (w12F.mono rfl)) (zPR.fr pR (w12F.eq rfl)) (zPC.fr pC (w12F.eq rfl)) w12PF)
  refine zs_tswD (pc := 1) t316_1 rfl (by omega) (pc2 := 78) rfl ?_
  refine zs_iconst (pc := 78) t316_78 (v := -1) (by decide) ?_
  exact zs_iret (pc := 79) t316_79 mr316 (by decide) (hQ _ _ hs hI (zFr.refl) pR pC pF)
theorem T317 {X : zX} {l : Launch} {M : zM} {Q : Option Value → zM → Prop} {a b : Int32} (hs : zSk zMm M) (hI : zIv mLo mHi M) (pR : zPR M) (pC : zPC M) (pF : zPF M) (hQ : ∀ (M' : zM) (v : Int32), zSk zMm M' → zIv mLo mHi M' → zFr [(336, 336, some 3), (336, 336, some 18), (336, 336, some 19), (336, 336, some 20), (336, 336, some 21), (336, 336, some 22), (336, 336, some 37), (336, 336, some 39), (336, 336, some 42), (336, 336, some 43), (336, 336, some 44), (336, 336, some 45), (342, 361, none)] M M' → zPR M' → zPC M' → zPF M' → Q (some (.int v)) M') : zCall X l 7 0 0 317 [.ref 336, .int a, .int b] M Q := by
  have ga := zrg a
  have gb := zrg b
  refine zs_in (by decide) mf317 (Nat.le_of_ble_eq_true rfl) ?_
  show zGo X l 7 0 0 317 0 [(0, .ref 336), (1, .int a), (2, .int b)] [] M _
  refine zs_aload_n (pc := 0) t317_0 rfl ?_
  refine zs_invV (pc := 1) (k := 336) (as' := []) (st := []) t317_1 mf268 rfl rfl (Or.inl ⟨by decide, (zk1 (hs.k fk_zMm_336))⟩) ⟨by decide, by decide, Nat.le_of_ble_eq_true rfl, Nat.le_of_ble_eq_true rfl⟩ (K268 hs hI pR pF ?_) (fun _ _ q => q)
  intro w1M w1s w1I w1F w1PF w1PD w1PV
  show zGo X l 7 0 0 317 4 [(0, .ref 336), (1, .int a), (2, .int b)] [] w1M _
  refine zs_aload_n (pc := 4) t317_4 rfl ?_
  refine zs_iload_n (pc := 5) t317_5 rfl ?_
  refine zs_invV (pc := 6) (k := 336) (as' := [.int a]) (st := []) t317_6 mf297 rfl rfl (Or.inl ⟨by decide, (zk1 (w1s.k fk_zMm_336))⟩) ⟨by decide, by decide, Nat.le_of_ble_eq_true rfl, Nat.le_of_ble_eq_true rfl⟩ (zs_in (by decide) mf297 (Nat.le_of_ble_eq_true rfl) ?_) (fun _ _ q => q)
  show zGo X l 1 0 0 297 0 [(0, .ref 336), (1, .int a)] [] w1M _
  refine zs_iload_n (pc := 0) t297_0 rfl ?_
  refine zs_i2l (pc := 1) t297_1 rfl ?_
  refine zs_lconst (pc := 2) t297_2 (v := 0) (by decide) ?_
  refine zs_aload_n (pc := 3) t297_3 rfl ?_
  have w2 := ib336_22 w1I
  refine zs_get (pc := 4) t297_4 (by decide) (zk1 (w1s.k fk_zMm_336)) (zfvi rfl rfl) ?_
  refine zs_iconst (pc := 7) t297_7 (v := 1) (by decide) ?_
  obtain ⟨w3v, w3e, w3⟩ := zisub (a := (zI w1M 336 22)) (b := (1 : Int32)) rfl li1 (by omega) (by omega)
  refine zs_isub (pc := 8) t297_8 (c := w3v) w3e ?_
  refine zs_i2l (pc := 9) t297_9 rfl ?_
  by_cases w4 : 0 ≤ a.toInt ∧ a.toInt ≤ ((zI w1M 336 22).toInt - 1)
  · refine zs_invS (pc := 10) (as := [.long a.toInt64, .long (0 : Int64), .long w3v.toInt64]) (st := []) t297_10 (by decide) mf228 rfl rfl ⟨by decide, by decide, Nat.le_of_ble_eq_true rfl, Nat.le_of_ble_eq_true rfl⟩ (K228T (zi2l rfl) ll0 (zi2l w3) (by omega) ?_) (fun _ _ q => q)
    show zGo X l 1 0 0 297 13 [(0, .ref 336), (1, .int a)] [.int (1 : Int32)] w1M _
    refine zs_iret (pc := 13) t297_13 mr297 (by decide) ?_
    show zGo X l 7 0 0 317 9 [(0, .ref 336), (1, .int a), (2, .int b)] [.int (1 : Int32)] w1M _
    refine zs_if_neT (pc := 9) t317_9 li1 (by decide) ?_
    refine zs_iload_n (pc := 16) t317_16 rfl ?_
    by_cases w5 : b.toInt = 0
    · refine zs_tswI (pc := 17) t317_17 ((rfl : b.toInt = b.toInt).trans w5) (by decide) rfl (pc2 := 68) rfl ?_
      refine zs_aload_n (pc := 68) t317_68 rfl ?_
      refine zs_get (pc := 69) t317_69 (by decide) (zk1 (w1s.k fk_zMm_336)) (w1s.p rfl fv_zMm_336_23) ?_
      refine zs_iload_n (pc := 72) t317_72 rfl ?_
      obtain ⟨w6n, w6⟩ : ∃ n : Nat, a.toInt = (n : Int) := ⟨(a.toInt).toNat, by omega⟩
      have w7 := zrg (zI w1M 345 w6n)
      refine zs_iald (pc := 73) t317_73 (j := w6n) (by decide) (zk1 (w1s.k fk_zMm_345)) (show a.toInt = ((w6n : Nat) : Int) by omega) (zk2 (w1s.k fk_zMm_345) (by omega)) rfl ?_
      exact zs_iret (pc := 74) t317_74 mr317 rfl (hQ _ _ w1s w1I ((zFr.refl).trans (w1F.mono rfl)) (zPR.fr pR (w1F.eq rfl)) (zPC.fr pC (w1F.eq rfl)) w1PF)
    by_cases w8 : b.toInt = 1
    · refine zs_tswI (pc := 17) t317_17 ((rfl : b.toInt = b.toInt).trans w8) (by decide) rfl (pc2 := 75) rfl ?_
      refine zs_aload_n (pc := 75) t317_75 rfl ?_
      refine zs_get (pc := 76) t317_76 (by decide) (zk1 (w1s.k fk_zMm_336)) (w1s.p rfl fv_zMm_336_24) ?_
      refine zs_iload_n (pc := 79) t317_79 rfl ?_
      obtain ⟨w9n, w9⟩ : ∃ n : Nat, a.toInt = (n : Int) := ⟨(a.toInt).toNat, by omega⟩
      have w10 := zrg (zI w1M 346 w9n)
      refine zs_iald (pc := 80) t317_80 (j := w9n) (by decide) (zk1 (w1s.k fk_zMm_346)) (show a.toInt = ((w9n : Nat) : Int) by omega) (zk2 (w1s.k fk_zMm_346) (by omega)) rfl ?_
      exact zs_iret (pc := 81) t317_81 mr317 rfl (hQ _ _ w1s w1I ((zFr.refl).trans (w1F.mono rfl)) (zPR.fr pR (w1F.eq rfl)) (zPC.fr pC (w1F.eq rfl)) w1PF)
    by_cases w11 : b.toInt = 2
    · refine zs_tswI (pc := 17) t317_17 ((rfl : b.toInt = b.toInt).trans w11) (by decide) rfl (pc2 := 82) rfl ?_
      refine zs_aload_n (pc := 82) t317_82 rfl ?_
      refine zs_get (pc := 83) t317_83 (by decide) (zk1 (w1s.k fk_zMm_336)) (w1s.p rfl fv_zMm_336_25) ?_
      refine zs_iload_n (pc := 86) t317_86 rfl ?_
      obtain ⟨w12n, w12⟩ : ∃ n : Nat, a.toInt = (n : Int) := ⟨(a.toInt).toNat, by omega⟩
      have w13 := zrg (zI w1M 347 w12n)
      refine zs_iald (pc := 87) t317_87 (j := w12n) (by decide) (zk1 (w1s.k fk_zMm_347)) (show a.toInt = ((w12n : Nat) : Int) by omega) (zk2 (w1s.k fk_zMm_347) (by omega)) rfl ?_
      exact zs_iret (pc := 88) t317_88 mr317 rfl (hQ _ _ w1s w1I ((zFr.refl).trans (w1F.mono rfl)) (zPR.fr pR (w1F.eq rfl)) (zPC.fr pC (w1F.eq rfl)) w1PF)
    by_cases w14 : b.toInt = 3
    · refine zs_tswI (pc := 17) t317_17 ((rfl : b.toInt = b.toInt).trans w14) (by decide) rfl (pc2 := 89) rfl ?_
      refine zs_aload_n (pc := 89) t317_89 rfl ?_
      refine zs_iload_n (pc := 90) t317_90 rfl ?_
      refine zs_invV (pc := 91) (k := 336) (as' := [.int a]) (st := []) t317_91 mf318 rfl rfl (Or.inl ⟨by decide, (zk1 (w1s.k fk_zMm_336))⟩) ⟨by decide, by decide, Nat.le_of_ble_eq_true rfl, Nat.le_of_ble_eq_true rfl⟩ (K318 w1s w1I ⟨by omega, by omega⟩ ?_) (fun _ _ q => q)
      intro w15v
      have w15g := zrg w15v
      show zGo X l 7 0 0 317 94 [(0, .ref 336), (1, .int a), (2, .int b)] [.int w15v] w1M _
      exact zs_iret (pc := 94) t317_94 mr317 rfl (hQ _ _ w1s w1I ((zFr.refl).trans (w1F.mono rfl)) (zPR.fr pR (w1F.eq rfl)) (zPC.fr pC (w1F.eq rfl)) w1PF)
    by_cases w16 : b.toInt = 4
    · refine zs_tswI (pc := 17) t317_17 ((rfl : b.toInt = b.toInt).trans w16) (by decide) rfl (pc2 := 95) rfl ?_
      refine zs_aload_n (pc := 95) t317_95 rfl ?_
      refine zs_get (pc := 96) t317_96 (by decide) (zk1 (w1s.k fk_zMm_336)) (w1s.p rfl fv_zMm_336_33) ?_
      refine zs_iload_n (pc := 99) t317_99 rfl ?_
      obtain ⟨w17n, w17⟩ : ∃ n : Nat, a.toInt = (n : Int) := ⟨(a.toInt).toNat, by omega⟩
      have w18 := zrg (zI w1M 355 w17n)
      refine zs_iald (pc := 100) t317_100 (j := w17n) (by decide) (zk1 (w1s.k fk_zMm_355)) (show a.toInt = ((w17n : Nat) : Int) by omega) (zk2 (w1s.k fk_zMm_355) (by omega)) rfl ?_
      exact zs_iret (pc := 101) t317_101 mr317 rfl (hQ _ _ w1s w1I ((zFr.refl).trans (w1F.mono rfl)) (zPR.fr pR (w1F.eq rfl)) (zPC.fr pC (w1F.eq rfl)) w1PF)
    by_cases w19 : b.toInt = 5
    · refine zs_tswI (pc := 17) t317_17 ((rfl : b.toInt = b.toInt).trans w19) (by decide) rfl (pc2 := 102) rfl ?_
      refine zs_aload_n (pc := 102) t317_102 rfl ?_
      refine zs_iload_n (pc := 103) t317_103 rfl ?_
      have w20 : (zI w1M 336 22).toInt = (zI w1M 336 22).toInt := (congrArg Int32.toInt rfl).trans rfl
      refine zs_invV (pc := 104) (k := 336) (as' := [.int a]) (st := []) t317_104 mf285 rfl rfl (Or.inl ⟨by decide, (zk1 (w1s.k fk_zMm_336))⟩) ⟨by decide, by decide, Nat.le_of_ble_eq_true rfl, Nat.le_of_ble_eq_true rfl⟩ (K285 w1s w1I w1PD ⟨by omega, by omega⟩ (by omega) ?_) (fun _ _ q => q)
      intro w21v
      have w21g := zrg w21v
      show zGo X l 7 0 0 317 107 [(0, .ref 336), (1, .int a), (2, .int b)] [.int w21v] w1M _
      exact zs_iret (pc := 107) t317_107 mr317 rfl (hQ _ _ w1s w1I ((zFr.refl).trans (w1F.mono rfl)) (zPR.fr pR (w1F.eq rfl)) (zPC.fr pC (w1F.eq rfl)) w1PF)
    by_cases w22 : b.toInt = 6
    · refine zs_tswI (pc := 17) t317_17 ((rfl : b.toInt = b.toInt).trans w22) (by decide) rfl (pc2 := 108) rfl ?_
      refine zs_aload_n (pc := 108) t317_108 rfl ?_
      refine zs_iload_n (pc := 109) t317_109 rfl ?_
      have w23 : (zI w1M 336 22).toInt = (zI w1M 336 22).toInt := (congrArg Int32.toInt rfl).trans rfl
      refine zs_invV (pc := 110) (k := 336) (as' := [.int a]) (st := []) t317_110 mf319 rfl rfl (Or.inl ⟨by decide, (zk1 (w1s.k fk_zMm_336))⟩) ⟨by decide, by decide, Nat.le_of_ble_eq_true rfl, Nat.le_of_ble_eq_true rfl⟩ (K319 w1s w1I w1PD ⟨by omega, by omega⟩ (by omega) ?_) (fun _ _ q => q)
      intro w24v
      have w24g := zrg w24v
      show zGo X l 7 0 0 317 113 [(0, .ref 336), (1, .int a), (2, .int b)] [.int w24v] w1M _
      exact zs_iret (pc := 113) t317_113 mr317 rfl (hQ _ _ w1s w1I ((zFr.refl).trans (w1F.mono rfl)) (zPR.fr pR (w1F.eq rfl)) (zPC.fr pC (w1F.eq rfl)) w1PF)
    by_cases w25 : b.toInt = 7
    · refine zs_tswI (pc := 17) t317_17 ((rfl : b.toInt = b.toInt).trans w25) (by decide) rfl (pc2 := 114) rfl ?_
      refine zs_aload_n (pc := 114) t317_114 rfl ?_
      refine zs_iload_n (pc := 115) t317_115 rfl ?_
      refine zs_iconst (pc := 116) t317_116 (v := 0) (by decide) ?_
      refine zs_invV (pc := 117) (k := 336) (as' := [.int a, .int (0 : Int32)]) (st := []) t317_117 mf320 rfl rfl (Or.inl ⟨by decide, (zk1 (w1s.k fk_zMm_336))⟩) ⟨by decide, by decide, Nat.le_of_ble_eq_true rfl, Nat.le_of_ble_eq_true rfl⟩ (K320 w1s w1I ⟨by omega, by omega⟩ ⟨by decide, by decide⟩ ?_) (fun _ _ q => q)
      intro w26v
      have w26g := zrg w26v
      show zGo X l 7 0 0 317 120 [(0, .ref 336), (1, .int a), (2, .int b)] [.int w26v] w1M _
      exact zs_iret (pc := 120) t317_120 mr317 rfl (hQ _ _ w1s w1I ((zFr.refl).trans (w1F.mono rfl)) (zPR.fr pR (w1F.eq rfl)) (zPC.fr pC (w1F.eq rfl)) w1PF)
    by_cases w27 : b.toInt = 8
    · refine zs_tswI (pc := 17) t317_17 ((rfl : b.toInt = b.toInt).trans w27) (by decide) rfl (pc2 := 121) rfl ?_
      refine zs_aload_n (pc := 121) t317_121 rfl ?_
      refine zs_iload_n (pc := 122) t317_122 rfl ?_
      refine zs_iconst (pc := 123) t317_123 (v := 1) (by decide) ?_
      refine zs_invV (pc := 124) (k := 336) (as' := [.int a, .int (1 : Int32)]) (st := []) t317_124 mf320 rfl rfl (Or.inl ⟨by decide, (zk1 (w1s.k fk_zMm_336))⟩) ⟨by decide, by decide, Nat.le_of_ble_eq_true rfl, Nat.le_of_ble_eq_true rfl⟩ (K320 w1s w1I ⟨by omega, by omega⟩ ⟨by decide, by decide⟩ ?_) (fun _ _ q => q)
      intro w28v
      have w28g := zrg w28v
      show zGo X l 7 0 0 317 127 [(0, .ref 336), (1, .int a), (2, .int b)] [.int w28v] w1M _
      exact zs_iret (pc := 127) t317_127 mr317 rfl (hQ _ _ w1s w1I ((zFr.refl).trans (w1F.mono rfl)) (zPR.fr pR (w1F.eq rfl)) (zPC.fr pC (w1F.eq rfl)) w1PF)
    refine zs_tswD (pc := 17) t317_17 rfl (by omega) (pc2 := 128) rfl ?_
    refine zs_ldc_w (pc := 128) t317_128 (v := -100000) rfl (by decide) ?_
    exact zs_iret (pc := 131) t317_131 mr317 (by decide) (hQ _ _ w1s w1I ((zFr.refl).trans (w1F.mono rfl)) (zPR.fr pR (w1F.eq rfl)) (zPC.fr pC (w1F.eq rfl)) w1PF)
  · refine zs_invS (pc := 10) (as := [.long a.toInt64, .long (0 : Int64), .long w3v.toInt64]) (st := []) t297_10 (by decide) mf228 rfl rfl ⟨by decide, by decide, Nat.le_of_ble_eq_true rfl, Nat.le_of_ble_eq_true rfl⟩ (K228F (zi2l rfl) ll0 (zi2l w3) (by omega) ?_) (fun _ _ q => q)
    show zGo X l 1 0 0 297 13 [(0, .ref 336), (1, .int a)] [.int (0 : Int32)] w1M _
    refine zs_iret (pc := 13) t297_13 mr297 (by decide) ?_
    show zGo X l 7 0 0 317 9 [(0, .ref 336), (1, .int a), (2, .int b)] [.int (0 : Int32)] w1M _
    refine zs_if_neF (pc := 9) t317_9 li0 (by decide) ?_
    refine zs_ldc_w (pc := 12) t317_12 (v := -100000) rfl (by decide) ?_
    exact zs_iret (pc := 15) t317_15 mr317 (by decide) (hQ _ _ w1s w1I ((zFr.refl).trans (w1F.mono rfl)) (zPR.fr pR (w1F.eq rfl)) (zPC.fr pC (w1F.eq rfl)) w1PF)
theorem T321 {X : zX} {l : Launch} {M : zM} {Q : Option Value → zM → Prop} {a b : Int32} (hs : zSk zMm M) (hI : zIv mLo mHi M) (pR : zPR M) (pC : zPC M) (pF : zPF M) (hQ : ∀ (M' : zM) (v : Int32), zSk zMm M' → zIv mLo mHi M' → zFr [(336, 336, some 3), (336, 336, some 18), (336, 336, some 19), (336, 336, some 20), (336, 336, some 21), (336, 336, some 22), (336, 336, some 37), (336, 336, some 39), (336, 336, some 42), (336, 336, some 43), (336, 336, some 44), (336, 336, some 45), (342, 361, none)] M M' → zPR M' → zPC M' → zPF M' → Q (some (.int v)) M') : zCall X l 7 0 0 321 [.ref 336, .int a, .int b] M Q := by
  have ga := zrg a
  have gb := zrg b
  refine zs_in (by decide) mf321 (Nat.le_of_ble_eq_true rfl) ?_
  show zGo X l 7 0 0 321 0 [(0, .ref 336), (1, .int a), (2, .int b)] [] M _
  refine zs_aload_n (pc := 0) t321_0 rfl ?_
  refine zs_invV (pc := 1) (k := 336) (as' := []) (st := []) t321_1 mf268 rfl rfl (Or.inl ⟨by decide, (zk1 (hs.k fk_zMm_336))⟩) ⟨by decide, by decide, Nat.le_of_ble_eq_true rfl, Nat.le_of_ble_eq_true rfl⟩ (K268 hs hI pR pF ?_) (fun _ _ q => q)
  intro w1M w1s w1I w1F w1PF w1PD w1PV
  show zGo X l 7 0 0 321 4 [(0, .ref 336), (1, .int a), (2, .int b)] [] w1M _
  refine zs_aload_n (pc := 4) t321_4 rfl ?_
  refine zs_iload_n (pc := 5) t321_5 rfl ?_
  refine zs_invV (pc := 6) (k := 336) (as' := [.int a]) (st := []) t321_6 mf297 rfl rfl (Or.inl ⟨by decide, (zk1 (w1s.k fk_zMm_336))⟩) ⟨by decide, by decide, Nat.le_of_ble_eq_true rfl, Nat.le_of_ble_eq_true rfl⟩ (zs_in (by decide) mf297 (Nat.le_of_ble_eq_true rfl) ?_) (fun _ _ q => q)
  show zGo X l 1 0 0 297 0 [(0, .ref 336), (1, .int a)] [] w1M _
  refine zs_iload_n (pc := 0) t297_0 rfl ?_
  refine zs_i2l (pc := 1) t297_1 rfl ?_
  refine zs_lconst (pc := 2) t297_2 (v := 0) (by decide) ?_
  refine zs_aload_n (pc := 3) t297_3 rfl ?_
  have w2 := ib336_22 w1I
  refine zs_get (pc := 4) t297_4 (by decide) (zk1 (w1s.k fk_zMm_336)) (zfvi rfl rfl) ?_
  refine zs_iconst (pc := 7) t297_7 (v := 1) (by decide) ?_
  obtain ⟨w3v, w3e, w3⟩ := zisub (a := (zI w1M 336 22)) (b := (1 : Int32)) rfl li1 (by omega) (by omega)
  refine zs_isub (pc := 8) t297_8 (c := w3v) w3e ?_
  refine zs_i2l (pc := 9) t297_9 rfl ?_
  by_cases w4 : 0 ≤ a.toInt ∧ a.toInt ≤ ((zI w1M 336 22).toInt - 1)
  · refine zs_invS (pc := 10) (as := [.long a.toInt64, .long (0 : Int64), .long w3v.toInt64]) (st := []) t297_10 (by decide) mf228 rfl rfl ⟨by decide, by decide, Nat.le_of_ble_eq_true rfl, Nat.le_of_ble_eq_true rfl⟩ (K228T (zi2l rfl) ll0 (zi2l w3) (by omega) ?_) (fun _ _ q => q)
    show zGo X l 1 0 0 297 13 [(0, .ref 336), (1, .int a)] [.int (1 : Int32)] w1M _
    refine zs_iret (pc := 13) t297_13 mr297 (by decide) ?_
    show zGo X l 7 0 0 321 9 [(0, .ref 336), (1, .int a), (2, .int b)] [.int (1 : Int32)] w1M _
    refine zs_if_eqF (pc := 9) t321_9 li1 (by decide) ?_
    refine zs_aload_n (pc := 12) t321_12 rfl ?_
    refine zs_iload_n (pc := 13) t321_13 rfl ?_
    refine zs_invV (pc := 14) (k := 336) (as' := [.int b]) (st := []) t321_14 mf306 rfl rfl (Or.inl ⟨by decide, (zk1 (w1s.k fk_zMm_336))⟩) ⟨by decide, by decide, Nat.le_of_ble_eq_true rfl, Nat.le_of_ble_eq_true rfl⟩ (zs_in (by decide) mf306 (Nat.le_of_ble_eq_true rfl) ?_) (fun _ _ q => q)
    show zGo X l 1 0 0 306 0 [(0, .ref 336), (1, .int b)] [] w1M _
    refine zs_iload_n (pc := 0) t306_0 rfl ?_
    refine zs_i2l (pc := 1) t306_1 rfl ?_
    refine zs_lconst (pc := 2) t306_2 (v := 0) (by decide) ?_
    refine zs_aload_n (pc := 3) t306_3 rfl ?_
    refine zs_get (pc := 4) t306_4 (by decide) (zk1 (w1s.k fk_zMm_336)) (w1s.p rfl fv_zMm_336_0) ?_
    refine zs_iconst (pc := 7) t306_7 (v := 0) (by decide) ?_
    have w5 := ibA0 hI
    refine zs_iald (pc := 8) t306_8 (j := 0) (by decide) (zk1 (w1s.k fk_zMm_337)) li0 (zk2 (w1s.k fk_zMm_337) (by decide)) ((w1F 337 0 rfl).trans rfl) ?_
    refine zs_iconst (pc := 9) t306_9 (v := 1) (by decide) ?_
    obtain ⟨w6v, w6e, w6⟩ := zisub (a := (zI M 337 0)) (b := (1 : Int32)) rfl li1 (by omega) (by omega)
    refine zs_isub (pc := 10) t306_10 (c := w6v) w6e ?_
    refine zs_i2l (pc := 11) t306_11 rfl ?_
    by_cases w7 : 0 ≤ b.toInt ∧ b.toInt ≤ ((zI M 337 0).toInt - 1)
    · refine zs_invS (pc := 12) (as := [.long b.toInt64, .long (0 : Int64), .long w6v.toInt64]) (st := []) t306_12 (by decide) mf228 rfl rfl ⟨by decide, by decide, Nat.le_of_ble_eq_true rfl, Nat.le_of_ble_eq_true rfl⟩ (K228T (zi2l rfl) ll0 (zi2l w6) (by omega) ?_) (fun _ _ q => q)
      show zGo X l 1 0 0 306 15 [(0, .ref 336), (1, .int b)] [.int (1 : Int32)] w1M _
      refine zs_iret (pc := 15) t306_15 mr306 (by decide) ?_
      show zGo X l 7 0 0 321 17 [(0, .ref 336), (1, .int a), (2, .int b)] [.int (1 : Int32)] w1M _
      refine zs_if_eqF (pc := 17) t321_17 li1 (by decide) ?_
      refine zs_aload_n (pc := 20) t321_20 rfl ?_
      refine zs_get (pc := 21) t321_21 (by decide) (zk1 (w1s.k fk_zMm_336)) (w1s.p rfl fv_zMm_336_27) ?_
      refine zs_bipush (pc := 24) t321_24 (v := 8) (by decide) ?_
      refine zs_iload_n (pc := 26) t321_26 rfl ?_
      obtain ⟨w8v, w8⟩ : ∃ v, (8 : Int32) * a = v := ⟨_, rfl⟩
      have w8g : w8v.toInt = 8 * a.toInt := by rw [← w8]; exact zmulc li8 rfl (by omega) (by omega)
      refine zs_imul (pc := 27) t321_27 (c := w8v) w8 ?_
      refine zs_iload_n (pc := 28) t321_28 rfl ?_
      obtain ⟨w9v, w9e, w9⟩ := ziadd (a := w8v) (b := b) w8g rfl (by omega) (by omega)
      refine zs_iadd (pc := 29) t321_29 (c := w9v) w9e ?_
      obtain ⟨w10n, w10⟩ : ∃ n : Nat, a.toInt = (n : Int) := ⟨(a.toInt).toNat, by omega⟩
      obtain ⟨w11n, w11⟩ : ∃ n : Nat, b.toInt = (n : Int) := ⟨(b.toInt).toNat, by omega⟩
      have w12 := ib349 w1I (8 * w10n + w11n)
      refine zs_iald (pc := 30) t321_30 (j := (8 * w10n + w11n)) (by decide) (zk1 (w1s.k fk_zMm_349)) (show w9v.toInt = (((8 * w10n + w11n) : Nat) : Int) by omega) (zk2 (w1s.k fk_zMm_349) (by omega)) rfl ?_
      refine zs_goto (pc := 31) t321_31 ?_
      exact zs_iret (pc := 35) t321_35 mr321 rfl (hQ _ _ w1s w1I ((zFr.refl).trans (w1F.mono rfl)) (zPR.fr pR (w1F.eq rfl)) (zPC.fr pC (w1F.eq rfl)) w1PF)
    · refine zs_invS (pc := 12) (as := [.long b.toInt64, .long (0 : Int64), .long w6v.toInt64]) (st := []) t306_12 (by decide) mf228 rfl rfl ⟨by decide, by decide, Nat.le_of_ble_eq_true rfl, Nat.le_of_ble_eq_true rfl⟩ (K228F (zi2l rfl) ll0 (zi2l w6) (by omega) ?_) (fun _ _ q => q)
      show zGo X l 1 0 0 306 15 [(0, .ref 336), (1, .int b)] [.int (0 : Int32)] w1M _
      refine zs_iret (pc := 15) t306_15 mr306 (by decide) ?_
      show zGo X l 7 0 0 321 17 [(0, .ref 336), (1, .int a), (2, .int b)] [.int (0 : Int32)] w1M _
      refine zs_if_eqT (pc := 17) t321_17 li0 (by decide) ?_
      refine zs_iconst (pc := 34) t321_34 (v := -1) (by decide) ?_
      exact zs_iret (pc := 35) t321_35 mr321 (by decide) (hQ _ _ w1s w1I ((zFr.refl).trans (w1F.mono rfl)) (zPR.fr pR (w1F.eq rfl)) (zPC.fr pC (w1F.eq rfl)) w1PF)
  · refine zs_invS (pc := 10) (as := [.long a.toInt64, .long (0 : Int64), .long w3v.toInt64]) (st := []) t297_10 (by decide) mf228 rfl rfl ⟨by decide, by decide, Nat.le_of_ble_eq_true rfl, Nat.le_of_ble_eq_true rfl⟩ (K228F (zi2l rfl) ll0 (zi2l w3) (by omega) ?_) (fun _ _ q => q)
    show zGo X l 1 0 0 297 13 [(0, .ref 336), (1, .int a)] [.int (0 : Int32)] w1M _
    refine zs_iret (pc := 13) t297_13 mr297 (by decide) ?_
    show zGo X l 7 0 0 321 9 [(0, .ref 336), (1, .int a), (2, .int b)] [.int (0 : Int32)] w1M _
    refine zs_if_eqT (pc := 9) t321_9 li0 (by decide) ?_
    refine zs_iconst (pc := 34) t321_34 (v := -1) (by decide) ?_
    exact zs_iret (pc := 35) t321_35 mr321 (by decide) (hQ _ _ w1s w1I ((zFr.refl).trans (w1F.mono rfl)) (zPR.fr pR (w1F.eq rfl)) (zPC.fr pC (w1F.eq rfl)) w1PF)
