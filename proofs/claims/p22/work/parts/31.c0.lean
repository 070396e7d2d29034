theorem K245 {X : zX} {l : Launch} {M : zM} {Q : Option Value → zM → Prop} {a : Int32} (hs : zSk zMm M) (hI : zIv mLo mHi M) (hQ : ∀ v : Int32, ((v.toInt = 1 ∧ 48 ≤ a.toInt ∧ a.toInt ≤ 57) ∨ (v.toInt = 0 ∧ (a.toInt < 48 ∨ 57 < a.toInt))) → 0 ≤ v.toInt → v.toInt ≤ 1 → Q (some (.int v)) M) : zCall X l 0 0 0 245 [.int a] M Q := by
  have ga := zrg a
  refine zs_in (by decide) mf245 (Nat.le_of_ble_eq_true rfl) ?_
  show zGo X l 0 0 0 245 0 [(0, .int a)] [] M _
  refine zs_iload_n (pc := 0) t245_0 rfl ?_
  refine zs_bipush (pc := 1) t245_1 (v := 48) (by decide) ?_
  by_cases w1 : a.toInt < 48
  · refine zs_icmp_ltT (pc := 3) t245_3 rfl li48 (by omega) ?_
    refine zs_iconst (pc := 16) t245_16 (v := 0) (by decide) ?_
    have w2 := li0
    exact zs_iret (pc := 17) t245_17 mr245 (by decide) (hQ _ (by omega) (by decide) (by decide))
  · refine zs_icmp_ltF (pc := 3) t245_3 rfl li48 (by omega) ?_
    refine zs_iload_n (pc := 6) t245_6 rfl ?_
    refine zs_bipush (pc := 7) t245_7 (v := 57) (by decide) ?_
    by_cases w3 : 57 < a.toInt
    · refine zs_icmp_gtT (pc := 9) t245_9 rfl li57 (by omega) ?_
      refine zs_iconst (pc := 16) t245_16 (v := 0) (by decide) ?_
      have w4 := li0
      exact zs_iret (pc := 17) t245_17 mr245 (by decide) (hQ _ (by omega) (by decide) (by decide))
    · refine zs_icmp_gtF (pc := 9) t245_9 rfl li57 (by omega) ?_
      refine zs_iconst (pc := 12) t245_12 (v := 1) (by decide) ?_
      refine zs_goto (pc := 13) t245_13 ?_
      have w5 := li1
      exact zs_iret (pc := 17) t245_17 mr245 (by decide) (hQ _ (by omega) (by decide) (by decide))
theorem K260 {X : zX} {l : Launch} {M : zM} {Q : Option Value → zM → Prop} {a : Int32} (hs : zSk zMm M) (hI : zIv mLo mHi M) (hQ : ∀ v : Int32, (-1) ≤ v.toInt → v.toInt ≤ 7 → Q (some (.int v)) M) : zCall X l 0 0 0 260 [.int a] M Q := by
  have ga := zrg a
  refine zs_in (by decide) mf260 (Nat.le_of_ble_eq_true rfl) ?_
  show zGo X l 0 0 0 260 0 [(0, .int a)] [] M _
  refine zs_iload_n (pc := 0) t260_0 rfl ?_
  by_cases w1 : a.toInt = 103
  · refine zs_tswI (pc := 1) t260_1 ((rfl : a.toInt = a.toInt).trans w1) (by decide) rfl (pc2 := 86) rfl ?_
    refine zs_iconst (pc := 86) t260_86 (v := 3) (by decide) ?_
    exact zs_iret (pc := 87) t260_87 mr260 (by decide) (hQ _ (by decide) (by decide))
  by_cases w2 : a.toInt = 104
  · refine zs_tswI (pc := 1) t260_1 ((rfl : a.toInt = a.toInt).trans w2) (by decide) rfl (pc2 := 82) rfl ?_
    refine zs_iconst (pc := 82) t260_82 (v := 1) (by decide) ?_
    exact zs_iret (pc := 83) t260_83 mr260 (by decide) (hQ _ (by decide) (by decide))
  by_cases w3 : a.toInt = 105
  · refine zs_tswI (pc := 1) t260_1 ((rfl : a.toInt = a.toInt).trans w3) (by decide) rfl (pc2 := 98) rfl ?_
    refine zs_iconst (pc := 98) t260_98 (v := -1) (by decide) ?_
    exact zs_iret (pc := 99) t260_99 mr260 (by decide) (hQ _ (by decide) (by decide))
  by_cases w4 : a.toInt = 106
  · refine zs_tswI (pc := 1) t260_1 ((rfl : a.toInt = a.toInt).trans w4) (by decide) rfl (pc2 := 98) rfl ?_
    refine zs_iconst (pc := 98) t260_98 (v := -1) (by decide) ?_
    exact zs_iret (pc := 99) t260_99 mr260 (by decide) (hQ _ (by decide) (by decide))
  by_cases w5 : a.toInt = 107
  · refine zs_tswI (pc := 1) t260_1 ((rfl : a.toInt = a.toInt).trans w5) (by decide) rfl (pc2 := 98) rfl ?_
    refine zs_iconst (pc := 98) t260_98 (v := -1) (by decide) ?_
    exact zs_iret (pc := 99) t260_99 mr260 (by decide) (hQ _ (by decide) (by decide))
  by_cases w6 : a.toInt = 108
  · refine zs_tswI (pc := 1) t260_1 ((rfl : a.toInt = a.toInt).trans w6) (by decide) rfl (pc2 := 90) rfl ?_
    refine zs_iconst (pc := 90) t260_90 (v := 5) (by decide) ?_
    exact zs_iret (pc := 91) t260_91 mr260 (by decide) (hQ _ (by decide) (by decide))
  by_cases w7 : a.toInt = 109
  · refine zs_tswI (pc := 1) t260_1 ((rfl : a.toInt = a.toInt).trans w7) (by decide) rfl (pc2 := 88) rfl ?_
    refine zs_iconst (pc := 88) t260_88 (v := 4) (by decide) ?_
    exact zs_iret (pc := 89) t260_89 mr260 (by decide) (hQ _ (by decide) (by decide))
  by_cases w8 : a.toInt = 110
  · refine zs_tswI (pc := 1) t260_1 ((rfl : a.toInt = a.toInt).trans w8) (by decide) rfl (pc2 := 80) rfl ?_
    refine zs_iconst (pc := 80) t260_80 (v := 0) (by decide) ?_
    exact zs_iret (pc := 81) t260_81 mr260 (by decide) (hQ _ (by decide) (by decide))
  by_cases w9 : a.toInt = 111
  · refine zs_tswI (pc := 1) t260_1 ((rfl : a.toInt = a.toInt).trans w9) (by decide) rfl (pc2 := 95) rfl ?_
    refine zs_bipush (pc := 95) t260_95 (v := 7) (by decide) ?_
    exact zs_iret (pc := 97) t260_97 mr260 (by decide) (hQ _ (by decide) (by decide))
  by_cases w10 : a.toInt = 112
  · refine zs_tswI (pc := 1) t260_1 ((rfl : a.toInt = a.toInt).trans w10) (by decide) rfl (pc2 := 98) rfl ?_
    refine zs_iconst (pc := 98) t260_98 (v := -1) (by decide) ?_
    exact zs_iret (pc := 99) t260_99 mr260 (by decide) (hQ _ (by decide) (by decide))
  by_cases w11 : a.toInt = 113
  · refine zs_tswI (pc := 1) t260_1 ((rfl : a.toInt = a.toInt).trans w11) (by decide) rfl (pc2 := 98) rfl ?_
    refine zs_iconst (pc := 98) t260_98 (v := -1) (by decide) ?_
    exact zs_iret (pc := 99) t260_99 mr260 (by decide) (hQ _ (by decide) (by decide))
  by_cases w12 : a.toInt = 114
  · refine zs_tswI (pc := 1) t260_1 ((rfl : a.toInt = a.toInt).trans w12) (by decide) rfl (pc2 := 98) rfl ?_
    refine zs_iconst (pc := 98) t260_98 (v := -1) (by decide) ?_
    exact zs_iret (pc := 99) t260_99 mr260 (by decide) (hQ _ (by decide) (by decide))
  by_cases w13 : a.toInt = 115
  · refine zs_tswI (pc := 1) t260_1 ((rfl : a.toInt = a.toInt).trans w13) (by decide) rfl (pc2 := 98) rfl ?_
    refine zs_iconst (pc := 98) t260_98 (v := -1) (by decide) ?_
    exact zs_iret (pc := 99) t260_99 mr260 (by decide) (hQ _ (by decide) (by decide))
  by_cases w14 : a.toInt = 116
  · refine zs_tswI (pc := 1) t260_1 ((rfl : a.toInt = a.toInt).trans w14) (by decide) rfl (pc2 := 98) rfl ?_
    refine zs_iconst (pc := 98) t260_98 (v := -1) (by decide) ?_
    exact zs_iret (pc := 99) t260_99 mr260 (by decide) (hQ _ (by decide) (by decide))
  by_cases w15 : a.toInt = 117
  · refine zs_tswI (pc := 1) t260_1 ((rfl : a.toInt = a.toInt).trans w15) (by decide) rfl (pc2 := 92) rfl ?_
    refine zs_bipush (pc := 92) t260_92 (v := 6) (by decide) ?_
    exact zs_iret (pc := 94) t260_94 mr260 (by decide) (hQ _ (by decide) (by decide))
  by_cases w16 : a.toInt = 118
  · refine zs_tswI (pc := 1) t260_1 ((rfl : a.toInt = a.toInt).trans w16) (by decide) rfl (pc2 := 84) rfl ?_
    refine zs_iconst (pc := 84) t260_84 (v := 2) (by decide) ?_
    exact zs_iret (pc := 85) t260_85 mr260 (by decide) (hQ _ (by decide) (by decide))
  refine zs_tswD (pc := 1) t260_1 rfl (by omega) (pc2 := 98) rfl ?_
  refine zs_iconst (pc := 98) t260_98 (v := -1) (by decide) ?_
  exact zs_iret (pc := 99) t260_99 mr260 (by decide) (hQ _ (by decide) (by decide))
theorem K250 {X : zX} {l : Launch} {M : zM} {Q : Option Value → zM → Prop} {aL bL : Int64} (hs : zSk zMm M) (hI : zIv mLo mHi M) (hbL : 1 ≤ bL.toInt ∧ bL.toInt ≤ 9223372036854775807) (hQ : Q (some (.int (zflr aL bL))) M) : zCall X l 0 0 0 250 [.long aL, .long bL] M Q := by
  have gaL := zrg64 aL
  have gbL := zrg64 bL
  refine zs_in (by decide) mf250 (Nat.le_of_ble_eq_true rfl) ?_
  show zGo X l 0 0 0 250 0 [(0, .long aL), (2, .long bL)] [] M _
  refine zs_lload_n (pc := 0) t250_0 rfl ?_
  refine zs_lconst (pc := 1) t250_1 (v := 0) (by decide) ?_
  by_cases w1 : aL.toInt < 0
  · refine zs_lcmp (pc := 2) t250_2 (c := -1) (zlcL rfl ll0 (by omega)) ?_
    refine zs_if_ltT (pc := 3) t250_3 lin1 (by decide) ?_
    refine zs_lload_n (pc := 12) t250_12 rfl ?_
    obtain ⟨w2v, w2⟩ : ∃ v, -aL = v := ⟨_, rfl⟩
    have w2g := zrg64 w2v
    refine zs_lneg (pc := 13) t250_13 (c := w2v) w2 ?_
    refine zs_lload_n (pc := 14) t250_14 rfl ?_
    obtain ⟨w3v, w3⟩ : ∃ v, w2v + bL = v := ⟨_, rfl⟩
    have w3g := zrg64 w3v
    refine zs_ladd (pc := 15) t250_15 (c := w3v) w3 ?_
    refine zs_lconst (pc := 16) t250_16 (v := 1) (by decide) ?_
    obtain ⟨w4v, w4⟩ : ∃ v, w3v - (1 : Int64) = v := ⟨_, rfl⟩
    have w4g := zrg64 w4v
    refine zs_lsub (pc := 17) t250_17 (c := w4v) w4 ?_
    refine zs_lload_n (pc := 18) t250_18 rfl ?_
    obtain ⟨w5v, w5⟩ : ∃ v, w4v / bL = v := ⟨_, rfl⟩
    have w5g := zrg64 w5v
    refine zs_ldiv (pc := 19) t250_19 (znz64 rfl (by omega)) (c := w5v) w5 ?_
    obtain ⟨w6v, w6⟩ : ∃ v, -w5v = v := ⟨_, rfl⟩
    have w6g := zrg64 w6v
    refine zs_lneg (pc := 20) t250_20 (c := w6v) w6 ?_
    obtain ⟨w7v, w7⟩ : ∃ v, w6v.toInt32 = v := ⟨_, rfl⟩
    have w7g := zrg w7v
    refine zs_l2i (pc := 21) t250_21 (c := w7v) w7 ?_
    exact zs_iret (pc := 22) t250_22 mr250 rfl (by subst_vars; unfold zflr at hQ; rw [if_neg (by omega)] at hQ; exact hQ)
  by_cases w8 : aL.toInt = 0
  · refine zs_lcmp (pc := 2) t250_2 (c := 0) (zlcE rfl ll0 (by omega)) ?_
    refine zs_if_ltF (pc := 3) t250_3 li0 (by decide) ?_
    refine zs_lload_n (pc := 6) t250_6 rfl ?_
    refine zs_lload_n (pc := 7) t250_7 rfl ?_
    obtain ⟨w9v, w9⟩ : ∃ v, aL / bL = v := ⟨_, rfl⟩
    have w9g := zrg64 w9v
    refine zs_ldiv (pc := 8) t250_8 (znz64 rfl (by omega)) (c := w9v) w9 ?_
    refine zs_goto (pc := 9) t250_9 ?_
    obtain ⟨w10v, w10⟩ : ∃ v, w9v.toInt32 = v := ⟨_, rfl⟩
    have w10g := zrg w10v
    refine zs_l2i (pc := 21) t250_21 (c := w10v) w10 ?_
    exact zs_iret (pc := 22) t250_22 mr250 rfl (by subst_vars; unfold zflr at hQ; rw [if_pos (by omega)] at hQ; exact hQ)
  refine zs_lcmp (pc := 2) t250_2 (c := 1) (zlcG rfl ll0 (by omega)) ?_
  refine zs_if_ltF (pc := 3) t250_3 li1 (by decide) ?_
  refine zs_lload_n (pc := 6) t250_6 rfl ?_
  refine zs_lload_n (pc := 7) t250_7 rfl ?_
  obtain ⟨w12v, w12⟩ : ∃ v, aL / bL = v := ⟨_, rfl⟩
  have w12g := zrg64 w12v
  refine zs_ldiv (pc := 8) t250_8 (znz64 rfl (by omega)) (c := w12v) w12 ?_
  refine zs_goto (pc := 9) t250_9 ?_
  obtain ⟨w13v, w13⟩ : ∃ v, w12v.toInt32 = v := ⟨_, rfl⟩
  have w13g := zrg w13v
  refine zs_l2i (pc := 21) t250_21 (c := w13v) w13 ?_
  exact zs_iret (pc := 22) t250_22 mr250 rfl (by subst_vars; unfold zflr at hQ; rw [if_pos (by omega)] at hQ; exact hQ)
theorem K251 {X : zX} {l : Launch} {M : zM} {Q : Option Value → zM → Prop} {a b : Int32} (hs : zSk zMm M) (hI : zIv mLo mHi M) (ha : 0 ≤ a.toInt ∧ a.toInt ≤ 7) (hQ : Q (some (.int (zbend M a b))) M) : zCall X l 1 0 0 251 [.ref 336, .int a, .int b] M Q := by
  have ga := zrg a
  have gb := zrg b
  refine zs_in (by decide) mf251 (Nat.le_of_ble_eq_true rfl) ?_
  show zGo X l 1 0 0 251 0 [(0, .ref 336), (1, .int a), (2, .int b)] [] M _
  refine zs_iload_n (pc := 0) t251_0 rfl ?_
  refine zs_i2l (pc := 1) t251_1 rfl ?_
  refine zs_aload_n (pc := 2) t251_2 rfl ?_
  refine zs_iload_n (pc := 3) t251_3 rfl ?_
  refine zs_invV (pc := 4) (k := 336) (as' := [.int a]) (st := [.long b.toInt64]) t251_4 mf241 rfl rfl (Or.inl ⟨by decide, (zk1 (hs.k fk_zMm_336))⟩) ⟨by decide, by decide, Nat.le_of_ble_eq_true rfl, Nat.le_of_ble_eq_true rfl⟩ (zs_in (by decide) mf241 (Nat.le_of_ble_eq_true rfl) ?_) (fun _ _ q => q)
  show zGo X l 0 0 0 241 0 [(0, .ref 336), (1, .int a)] [] M _
  refine zs_aload_n (pc := 0) t241_0 rfl ?_
  refine zs_get (pc := 1) t241_1 (by decide) (zk1 (hs.k fk_zMm_336)) (hs.p rfl fv_zMm_336_0) ?_
  refine zs_bipush (pc := 4) t241_4 (v := 14) (by decide) ?_
  refine zs_iconst (pc := 6) t241_6 (v := 2) (by decide) ?_
  refine zs_iload_n (pc := 7) t241_7 rfl ?_
  obtain ⟨w1v, w1⟩ : ∃ v, (2 : Int32) * a = v := ⟨_, rfl⟩
  have w1g : w1v.toInt = 2 * a.toInt := by rw [← w1]; exact zmulc li2 rfl (by omega) (by omega)
  refine zs_imul (pc := 8) t241_8 (c := w1v) w1 ?_
  obtain ⟨w2v, w2e, w2⟩ := ziadd (a := (14 : Int32)) (b := w1v) li14 w1g (by omega) (by omega)
  refine zs_iadd (pc := 9) t241_9 (c := w2v) w2e ?_
  obtain ⟨w3n, w3⟩ : ∃ n : Nat, a.toInt = (n : Int) := ⟨(a.toInt).toNat, by omega⟩
  have w4 := ibX (j := (14 + 2 * w3n)) hI (by omega) (by omega) (by omega)
  refine zs_iald (pc := 10) t241_10 (j := (14 + 2 * w3n)) (by decide) (zk1 (hs.k fk_zMm_337)) (show w2v.toInt = (((14 + 2 * w3n) : Nat) : Int) by omega) (zk2 (hs.k fk_zMm_337) (by omega)) rfl ?_
  refine zs_iret (pc := 11) t241_11 mr241 rfl ?_
  show zGo X l 1 0 0 251 7 [(0, .ref 336), (1, .int a), (2, .int b)] [.int (zI M 337 (14 + 2 * w3n)), .long b.toInt64] M _
  refine zs_i2l (pc := 7) t251_7 rfl ?_
  obtain ⟨w5v, w5⟩ : ∃ v, b.toInt64 * (zI M 337 (14 + 2 * w3n)).toInt64 = v := ⟨_, rfl⟩
  have w5g := zrg64 w5v
  refine zs_lmul (pc := 8) t251_8 (c := w5v) w5 ?_
  refine zs_aload_n (pc := 9) t251_9 rfl ?_
  refine zs_iload_n (pc := 10) t251_10 rfl ?_
  refine zs_invV (pc := 11) (k := 336) (as' := [.int a]) (st := [.long w5v]) t251_11 mf241 rfl rfl (Or.inl ⟨by decide, (zk1 (hs.k fk_zMm_336))⟩) ⟨by decide, by decide, Nat.le_of_ble_eq_true rfl, Nat.le_of_ble_eq_true rfl⟩ (zs_in (by decide) mf241 (Nat.le_of_ble_eq_true rfl) ?_) (fun _ _ q => q)
  show zGo X l 0 0 0 241 0 [(0, .ref 336), (1, .int a)] [] M _
  refine zs_aload_n (pc := 0) t241_0 rfl ?_
  refine zs_get (pc := 1) t241_1 (by decide) (zk1 (hs.k fk_zMm_336)) (hs.p rfl fv_zMm_336_0) ?_
  refine zs_bipush (pc := 4) t241_4 (v := 14) (by decide) ?_
  refine zs_iconst (pc := 6) t241_6 (v := 2) (by decide) ?_
  refine zs_iload_n (pc := 7) t241_7 rfl ?_
  obtain ⟨w6v, w6⟩ : ∃ v, (2 : Int32) * a = v := ⟨_, rfl⟩
  have w6g : w6v.toInt = 2 * a.toInt := by rw [← w6]; exact zmulc li2 rfl (by omega) (by omega)
  refine zs_imul (pc := 8) t241_8 (c := w6v) w6 ?_
  obtain ⟨w7v, w7e, w7⟩ := ziadd (a := (14 : Int32)) (b := w6v) li14 w6g (by omega) (by omega)
  refine zs_iadd (pc := 9) t241_9 (c := w7v) w7e ?_
  refine zs_iald (pc := 10) t241_10 (j := (14 + 2 * w3n)) (by decide) (zk1 (hs.k fk_zMm_337)) (show w7v.toInt = (((14 + 2 * w3n) : Nat) : Int) by omega) (zk2 (hs.k fk_zMm_337) (by omega)) rfl ?_
  refine zs_iret (pc := 11) t241_11 mr241 rfl ?_
  show zGo X l 1 0 0 251 14 [(0, .ref 336), (1, .int a), (2, .int b)] [.int (zI M 337 (14 + 2 * w3n)), .long w5v] M _
  refine zs_i2l (pc := 14) t251_14 rfl ?_
  obtain ⟨w8v, w8⟩ : ∃ v, w5v * (zI M 337 (14 + 2 * w3n)).toInt64 = v := ⟨_, rfl⟩
  have w8g := zrg64 w8v
  refine zs_lmul (pc := 15) t251_15 (c := w8v) w8 ?_
  refine zs_ldc2_w (pc := 16) t251_16 (v := 10000) (by decide) ?_
  have w9 : (10000 : Int64).toInt = 10000 := ll10000
  refine zs_invS (pc := 19) (as := [.long w8v, .long (10000 : Int64)]) (st := []) t251_19 (by decide) mf250 rfl rfl ⟨by decide, by decide, Nat.le_of_ble_eq_true rfl, Nat.le_of_ble_eq_true rfl⟩ (K250 hs hI ⟨by decide, by decide⟩ ?_) (fun _ _ q => q)
  have w10 := zrg (zflr w8v (10000 : Int64))
  show zGo X l 1 0 0 251 22 [(0, .ref 336), (1, .int a), (2, .int b)] [.int (zflr w8v (10000 : Int64))] M _
  exact zs_iret (pc := 22) t251_22 mr251 rfl (by obtain rfl : w3n = a.toInt.toNat := (by omega); subst_vars; exact hQ)
theorem K249 {X : zX} {l : Launch} {M : zM} {Q : Option Value → zM → Prop} {a b c : Int32} (hs : zSk zMm M) (hI : zIv mLo mHi M) (ha : 0 ≤ a.toInt ∧ a.toInt ≤ 7) (hQ : Q (some (.int (zlift M a b c))) M) : zCall X l 2 0 0 249 [.ref 336, .int a, .int b, .int c] M Q := by
  have ga := zrg a
  have gb := zrg b
  have gc := zrg c
  refine zs_in (by decide) mf249 (Nat.le_of_ble_eq_true rfl) ?_
  show zGo X l 2 0 0 249 0 [(0, .ref 336), (1, .int a), (2, .int b), (3, .int c)] [] M _
  refine zs_iload_n (pc := 0) t249_0 rfl ?_
  refine zs_i2l (pc := 1) t249_1 rfl ?_
  refine zs_aload_n (pc := 2) t249_2 rfl ?_
  refine zs_iload_n (pc := 3) t249_3 rfl ?_
  refine zs_invV (pc := 4) (k := 336) (as' := [.int a]) (st := [.long b.toInt64]) t249_4 mf241 rfl rfl (Or.inl ⟨by decide, (zk1 (hs.k fk_zMm_336))⟩) ⟨by decide, by decide, Nat.le_of_ble_eq_true rfl, Nat.le_of_ble_eq_true rfl⟩ (zs_in (by decide) mf241 (Nat.le_of_ble_eq_true rfl) ?_) (fun _ _ q => q)
  show zGo X l 0 0 0 241 0 [(0, .ref 336), (1, .int a)] [] M _
  refine zs_aload_n (pc := 0) t241_0 rfl ?_
  refine zs_get (pc := 1) t241_1 (by decide) (zk1 (hs.k fk_zMm_336)) (hs.p rfl fv_zMm_336_0) ?_
  refine zs_bipush (pc := 4) t241_4 (v := 14) (by decide) ?_
  refine zs_iconst (pc := 6) t241_6 (v := 2) (by decide) ?_
  refine zs_iload_n (pc := 7) t241_7 rfl ?_
  obtain ⟨w1v, w1⟩ : ∃ v, (2 : Int32) * a = v := ⟨_, rfl⟩
  have w1g : w1v.toInt = 2 * a.toInt := by rw [← w1]; exact zmulc li2 rfl (by omega) (by omega)
  refine zs_imul (pc := 8) t241_8 (c := w1v) w1 ?_
  obtain ⟨w2v, w2e, w2⟩ := ziadd (a := (14 : Int32)) (b := w1v) li14 w1g (by omega) (by omega)
  refine zs_iadd (pc := 9) t241_9 (c := w2v) w2e ?_
  obtain ⟨w3n, w3⟩ : ∃ n : Nat, a.toInt = (n : Int) := ⟨(a.toInt).toNat, by omega⟩
  have w4 := ibX (j := (14 + 2 * w3n)) hI (by omega) (by omega) (by omega)
  refine zs_iald (pc := 10) t241_10 (j := (14 + 2 * w3n)) (by decide) (zk1 (hs.k fk_zMm_337)) (show w2v.toInt = (((14 + 2 * w3n) : Nat) : Int) by omega) (zk2 (hs.k fk_zMm_337) (by omega)) rfl ?_
  refine zs_iret (pc := 11) t241_11 mr241 rfl ?_
  show zGo X l 2 0 0 249 7 [(0, .ref 336), (1, .int a), (2, .int b), (3, .int c)] [.int (zI M 337 (14 + 2 * w3n)), .long b.toInt64] M _
  refine zs_i2l (pc := 7) t249_7 rfl ?_
  obtain ⟨w5v, w5⟩ : ∃ v, b.toInt64 * (zI M 337 (14 + 2 * w3n)).toInt64 = v := ⟨_, rfl⟩
  have w5g := zrg64 w5v
  refine zs_lmul (pc := 8) t249_8 (c := w5v) w5 ?_
  refine zs_ldc2_w (pc := 9) t249_9 (v := 100) (by decide) ?_
  have w6 : (100 : Int64).toInt = 100 := ll100
  refine zs_invS (pc := 12) (as := [.long w5v, .long (100 : Int64)]) (st := []) t249_12 (by decide) mf250 rfl rfl ⟨by decide, by decide, Nat.le_of_ble_eq_true rfl, Nat.le_of_ble_eq_true rfl⟩ (K250 hs hI ⟨by decide, by decide⟩ ?_) (fun _ _ q => q)
  have w7 := zrg (zflr w5v (100 : Int64))
  show zGo X l 2 0 0 249 15 [(0, .ref 336), (1, .int a), (2, .int b), (3, .int c)] [.int (zflr w5v (100 : Int64))] M _
  refine zs_aload_n (pc := 15) t249_15 rfl ?_
  refine zs_iload_n (pc := 16) t249_16 rfl ?_
  refine zs_iload_n (pc := 17) t249_17 rfl ?_
  refine zs_invV (pc := 18) (k := 336) (as' := [.int a, .int c]) (st := [.int (zflr w5v (100 : Int64))]) t249_18 mf251 rfl rfl (Or.inl ⟨by decide, (zk1 (hs.k fk_zMm_336))⟩) ⟨by decide, by decide, Nat.le_of_ble_eq_true rfl, Nat.le_of_ble_eq_true rfl⟩ (K251 hs hI ⟨by omega, by omega⟩ ?_) (fun _ _ q => q)
  have w8 := zrg (zbend M a c)
  show zGo X l 2 0 0 249 21 [(0, .ref 336), (1, .int a), (2, .int b), (3, .int c)] [.int (zbend M a c), .int (zflr w5v (100 : Int64))] M _
  obtain ⟨w9v, w9⟩ : ∃ v, v = (zflr w5v (100 : Int64)) + (zbend M a c) := ⟨_, rfl⟩
  have w9g := zrg w9v
  refine zs_iadd (pc := 21) t249_21 (c := w9v) w9.symm ?_
  exact zs_iret (pc := 22) t249_22 mr249 rfl (by obtain rfl : w3n = a.toInt.toNat := (by omega); subst_vars; exact hQ)
theorem K286 {X : zX} {l : Launch} {M : zM} {Q : Option Value → zM → Prop} {aL bL : Int64} (hs : zSk zMm M) (hI : zIv mLo mHi M) (hbL : 1 ≤ bL.toInt ∧ bL.toInt ≤ 9223372036854775807) (hQ : ∀ v : Int64, Q (some (.long v)) M) : zCall X l 0 0 0 286 [.long aL, .long bL] M Q := by
  have gaL := zrg64 aL
  have gbL := zrg64 bL
  refine zs_in (by decide) mf286 (Nat.le_of_ble_eq_true rfl) ?_
  show zGo X l 0 0 0 286 0 [(0, .long aL), (2, .long bL)] [] M _
  refine zs_lload_n (pc := 0) t286_0 rfl ?_
  refine zs_lconst (pc := 1) t286_1 (v := 0) (by decide) ?_
  by_cases w1 : aL.toInt < 0
  · refine zs_lcmp (pc := 2) t286_2 (c := -1) (zlcL rfl ll0 (by omega)) ?_
    refine zs_if_ltT (pc := 3) t286_3 lin1 (by decide) ?_
    refine zs_lload_n (pc := 12) t286_12 rfl ?_
    obtain ⟨w2v, w2⟩ : ∃ v, -aL = v := ⟨_, rfl⟩
    have w2g := zrg64 w2v
    refine zs_lneg (pc := 13) t286_13 (c := w2v) w2 ?_
    refine zs_lload_n (pc := 14) t286_14 rfl ?_
    obtain ⟨w3v, w3⟩ : ∃ v, w2v + bL = v := ⟨_, rfl⟩
    have w3g := zrg64 w3v
    refine zs_ladd (pc := 15) t286_15 (c := w3v) w3 ?_
    refine zs_lconst (pc := 16) t286_16 (v := 1) (by decide) ?_
    obtain ⟨w4v, w4⟩ : ∃ v, w3v - (1 : Int64) = v := ⟨_, rfl⟩
    have w4g := zrg64 w4v
    refine zs_lsub (pc := 17) t286_17 (c := w4v) w4 ?_
    refine zs_lload_n (pc := 18) t286_18 rfl ?_
    obtain ⟨w5v, w5⟩ : ∃ v, w4v / bL = v := ⟨_, rfl⟩
    have w5g := zrg64 w5v
    refine zs_ldiv (pc := 19) t286_19 (znz64 rfl (by omega)) (c := w5v) w5 ?_
    obtain ⟨w6v, w6⟩ : ∃ v, -w5v = v := ⟨_, rfl⟩
    have w6g := zrg64 w6v
    refine zs_lneg (pc := 20) t286_20 (c := w6v) w6 ?_
    exact zs_lret (pc := 21) t286_21 mr286 (hQ _)
  by_cases w7 : aL.toInt = 0
  · refine zs_lcmp (pc := 2) t286_2 (c := 0) (zlcE rfl ll0 (by omega)) ?_
    refine zs_if_ltF (pc := 3) t286_3 li0 (by decide) ?_
    refine zs_lload_n (pc := 6) t286_6 rfl ?_
    refine zs_lload_n (pc := 7) t286_7 rfl ?_
    obtain ⟨w8v, w8⟩ : ∃ v, aL / bL = v := ⟨_, rfl⟩
    have w8g := zrg64 w8v
    refine zs_ldiv (pc := 8) t286_8 (znz64 rfl (by omega)) (c := w8v) w8 ?_
    refine zs_goto (pc := 9) t286_9 ?_
    exact zs_lret (pc := 21) t286_21 mr286 (hQ _)
  refine zs_lcmp (pc := 2) t286_2 (c := 1) (zlcG rfl ll0 (by omega)) ?_
  refine zs_if_ltF (pc := 3) t286_3 li1 (by decide) ?_
  refine zs_lload_n (pc := 6) t286_6 rfl ?_
  refine zs_lload_n (pc := 7) t286_7 rfl ?_
  obtain ⟨w10v, w10⟩ : ∃ v, aL / bL = v := ⟨_, rfl⟩
  have w10g := zrg64 w10v
  refine zs_ldiv (pc := 8) t286_8 (znz64 rfl (by omega)) (c := w10v) w10 ?_
  refine zs_goto (pc := 9) t286_9 ?_
  exact zs_lret (pc := 21) t286_21 mr286 (hQ _)
theorem K271 {X : zX} {l : Launch} {M : zM} {Q : Option Value → zM → Prop} {a b : Int32} (hs : zSk zMm M) (hI : zIv mLo mHi M) (ha : 0 ≤ a.toInt ∧ a.toInt ≤ 59) (hQ : ∀ v : Int32, 0 ≤ v.toInt → v.toInt ≤ 1 → Q (some (.int v)) M) : zCall X l 1 0 0 271 [.ref 336, .int a, .int b] M Q := by
  have ga := zrg a
  have gb := zrg b
  refine zs_in (by decide) mf271 (Nat.le_of_ble_eq_true rfl) ?_
  show zGo X l 1 0 0 271 0 [(0, .ref 336), (1, .int a), (2, .int b)] [] M _
  refine zs_aload_n (pc := 0) t271_0 rfl ?_
  refine zs_iload_n (pc := 1) t271_1 rfl ?_
  refine zs_iconst (pc := 2) t271_2 (v := 0) (by decide) ?_
  refine zs_invV (pc := 3) (k := 336) (as' := [.int a, .int (0 : Int32)]) (st := []) t271_3 mf272 rfl rfl (Or.inl ⟨by decide, (zk1 (hs.k fk_zMm_336))⟩) ⟨by decide, by decide, Nat.le_of_ble_eq_true rfl, Nat.le_of_ble_eq_true rfl⟩ (zs_in (by decide) mf272 (Nat.le_of_ble_eq_true rfl) ?_) (fun _ _ q => q)
  show zGo X l 0 0 0 272 0 [(0, .ref 336), (1, .int a), (2, .int (0 : Int32))] [] M _
  refine zs_aload_n (pc := 0) t272_0 rfl ?_
  refine zs_get (pc := 1) t272_1 (by decide) (zk1 (hs.k fk_zMm_336)) (hs.p rfl fv_zMm_336_0) ?_
  refine zs_bipush (pc := 4) t272_4 (v := 30) (by decide) ?_
  refine zs_iconst (pc := 6) t272_6 (v := 4) (by decide) ?_
  refine zs_iload_n (pc := 7) t272_7 rfl ?_
  obtain ⟨w1v, w1⟩ : ∃ v, (4 : Int32) * a = v := ⟨_, rfl⟩
  have w1g : w1v.toInt = 4 * a.toInt := by rw [← w1]; exact zmulc li4 rfl (by omega) (by omega)
  refine zs_imul (pc := 8) t272_8 (c := w1v) w1 ?_
  obtain ⟨w2v, w2e, w2⟩ := ziadd (a := (30 : Int32)) (b := w1v) li30 w1g (by omega) (by omega)
  refine zs_iadd (pc := 9) t272_9 (c := w2v) w2e ?_
  refine zs_iload_n (pc := 10) t272_10 rfl ?_
  obtain ⟨w3v, w3e, w3⟩ := ziadd (a := w2v) (b := (0 : Int32)) w2 li0 (by omega) (by omega)
  refine zs_iadd (pc := 11) t272_11 (c := w3v) w3e ?_
  obtain ⟨w4n, w4⟩ : ∃ n : Nat, a.toInt = (n : Int) := ⟨(a.toInt).toNat, by omega⟩
  have w5 := ibL (j := (30 + 4 * w4n)) hI (by omega) (by omega) (by omega)
  refine zs_iald (pc := 12) t272_12 (j := (30 + 4 * w4n)) (by decide) (zk1 (hs.k fk_zMm_337)) (show w3v.toInt = (((30 + 4 * w4n) : Nat) : Int) by omega) (zk2 (hs.k fk_zMm_337) (by omega)) rfl ?_
  refine zs_iret (pc := 13) t272_13 mr272 rfl ?_
  show zGo X l 1 0 0 271 6 [(0, .ref 336), (1, .int a), (2, .int b)] [.int (zI M 337 (30 + 4 * w4n))] M _
  refine zs_istore_n (pc := 6) t271_6 (ls' := [(3, .int (zI M 337 (30 + 4 * w4n))), (0, .ref 336), (1, .int a), (2, .int b)]) (zml mf271 (by decide)) rfl ?_
  refine zs_iload_n (pc := 7) t271_7 rfl ?_
  refine zs_iload_n (pc := 8) t271_8 rfl ?_
  by_cases w6 : (zI M 337 (30 + 4 * w4n)).toInt = b.toInt
  · refine zs_icmp_eqT (pc := 9) t271_9 rfl rfl (by omega) ?_
    refine zs_iconst (pc := 53) t271_53 (v := 0) (by decide) ?_
    exact zs_iret (pc := 54) t271_54 mr271 (by decide) (hQ _ (by decide) (by decide))
  · refine zs_icmp_eqF (pc := 9) t271_9 rfl rfl (by omega) ?_
    refine zs_aload_n (pc := 12) t271_12 rfl ?_
    refine zs_iload_n (pc := 13) t271_13 rfl ?_
    refine zs_invV (pc := 14) (k := 336) (as' := [.int (zI M 337 (30 + 4 * w4n))]) (st := []) t271_14 mf273 rfl rfl (Or.inl ⟨by decide, (zk1 (hs.k fk_zMm_336))⟩) ⟨by decide, by decide, Nat.le_of_ble_eq_true rfl, Nat.le_of_ble_eq_true rfl⟩ (zs_in (by decide) mf273 (Nat.le_of_ble_eq_true rfl) ?_) (fun _ _ q => q)
    show zGo X l 0 0 0 273 0 [(0, .ref 336), (1, .int (zI M 337 (30 + 4 * w4n)))] [] M _
    refine zs_aload_n (pc := 0) t273_0 rfl ?_
    refine zs_get (pc := 1) t273_1 (by decide) (zk1 (hs.k fk_zMm_336)) (hs.p rfl fv_zMm_336_0) ?_
    refine zs_bipush (pc := 4) t273_4 (v := 14) (by decide) ?_
    refine zs_iconst (pc := 6) t273_6 (v := 2) (by decide) ?_
    refine zs_iload_n (pc := 7) t273_7 rfl ?_
    obtain ⟨w7v, w7⟩ : ∃ v, (2 : Int32) * (zI M 337 (30 + 4 * w4n)) = v := ⟨_, rfl⟩
    have w7g : w7v.toInt = 2 * (zI M 337 (30 + 4 * w4n)).toInt := by rw [← w7]; exact zmulc li2 rfl (by omega) (by omega)
    refine zs_imul (pc := 8) t273_8 (c := w7v) w7 ?_
    obtain ⟨w8v, w8e, w8⟩ := ziadd (a := (14 : Int32)) (b := w7v) li14 w7g (by omega) (by omega)
    refine zs_iadd (pc := 9) t273_9 (c := w8v) w8e ?_
    refine zs_iconst (pc := 10) t273_10 (v := 1) (by decide) ?_
    obtain ⟨w9v, w9e, w9⟩ := ziadd (a := w8v) (b := (1 : Int32)) w8 li1 (by omega) (by omega)
    refine zs_iadd (pc := 11) t273_11 (c := w9v) w9e ?_
    obtain ⟨w10n, w10⟩ : ∃ n : Nat, (zI M 337 (30 + 4 * w4n)).toInt = (n : Int) := ⟨((zI M 337 (30 + 4 * w4n)).toInt).toNat, by omega⟩
    have w11 := zrg (zI M 337 (15 + 2 * w10n))
    refine zs_iald (pc := 12) t273_12 (j := (15 + 2 * w10n)) (by decide) (zk1 (hs.k fk_zMm_337)) (show w9v.toInt = (((15 + 2 * w10n) : Nat) : Int) by omega) (zk2 (hs.k fk_zMm_337) (by omega)) rfl ?_
    refine zs_iconst (pc := 13) t273_13 (v := 1) (by decide) ?_
    by_cases w12 : (zI M 337 (15 + 2 * w10n)).toInt ≠ 1
    · refine zs_icmp_neT (pc := 14) t273_14 rfl li1 (by omega) ?_
      refine zs_iconst (pc := 21) t273_21 (v := 0) (by decide) ?_
      refine zs_iret (pc := 22) t273_22 mr273 (by decide) ?_
      show zGo X l 1 0 0 271 17 [(3, .int (zI M 337 (30 + 4 * w4n))), (0, .ref 336), (1, .int a), (2, .int b)] [.int (0 : Int32)] M _
      refine zs_if_eqT (pc := 17) t271_17 li0 (by decide) ?_
      refine zs_iconst (pc := 53) t271_53 (v := 0) (by decide) ?_
      exact zs_iret (pc := 54) t271_54 mr271 (by decide) (hQ _ (by decide) (by decide))
    · refine zs_icmp_neF (pc := 14) t273_14 rfl li1 (by omega) ?_
      refine zs_iconst (pc := 17) t273_17 (v := 1) (by decide) ?_
      refine zs_goto (pc := 18) t273_18 ?_
      refine zs_iret (pc := 22) t273_22 mr273 (by decide) ?_
      show zGo X l 1 0 0 271 17 [(3, .int (zI M 337 (30 + 4 * w4n))), (0, .ref 336), (1, .int a), (2, .int b)] [.int (1 : Int32)] M _
      refine zs_if_eqF (pc := 17) t271_17 li1 (by decide) ?_
      refine zs_aload_n (pc := 20) t271_20 rfl ?_
      refine zs_iload_n (pc := 21) t271_21 rfl ?_
      refine zs_iconst (pc := 22) t271_22 (v := 2) (by decide) ?_
      refine zs_invV (pc := 23) (k := 336) (as' := [.int a, .int (2 : Int32)]) (st := []) t271_23 mf272 rfl rfl (Or.inl ⟨by decide, (zk1 (hs.k fk_zMm_336))⟩) ⟨by decide, by decide, Nat.le_of_ble_eq_true rfl, Nat.le_of_ble_eq_true rfl⟩ (zs_in (by decide) mf272 (Nat.le_of_ble_eq_true rfl) ?_) (fun _ _ q => q)
      show zGo X l 0 0 0 272 0 [(0, .ref 336), (1, .int a), (2, .int (2 : Int32))] [] M _
      refine zs_aload_n (pc := 0) t272_0 rfl ?_
      refine zs_get (pc := 1) t272_1 (by decide) (zk1 (hs.k fk_zMm_336)) (hs.p rfl fv_zMm_336_0) ?_
      refine zs_bipush (pc := 4) t272_4 (v := 30) (by decide) ?_
      refine zs_iconst (pc := 6) t272_6 (v := 4) (by decide) ?_
      refine zs_iload_n (pc := 7) t272_7 rfl ?_
      obtain ⟨w13v, w13⟩ : ∃ v, (4 : Int32) * a = v := ⟨_, rfl⟩
      have w13g : w13v.toInt = 4 * a.toInt := by rw [← w13]; exact zmulc li4 rfl (by omega) (by omega)
      refine zs_imul (pc := 8) t272_8 (c := w13v) w13 ?_
      obtain ⟨w14v, w14e, w14⟩ := ziadd (a := (30 : Int32)) (b := w13v) li30 w13g (by omega) (by omega)
      refine zs_iadd (pc := 9) t272_9 (c := w14v) w14e ?_
      refine zs_iload_n (pc := 10) t272_10 rfl ?_
      obtain ⟨w15v, w15e, w15⟩ := ziadd (a := w14v) (b := (2 : Int32)) w14 li2 (by omega) (by omega)
      refine zs_iadd (pc := 11) t272_11 (c := w15v) w15e ?_
      have w16 := zrg (zI M 337 (32 + 4 * w4n))
      refine zs_iald (pc := 12) t272_12 (j := (32 + 4 * w4n)) (by decide) (zk1 (hs.k fk_zMm_337)) (show w15v.toInt = (((32 + 4 * w4n) : Nat) : Int) by omega) (zk2 (hs.k fk_zMm_337) (by omega)) rfl ?_
      refine zs_iret (pc := 13) t272_13 mr272 rfl ?_
      show zGo X l 1 0 0 271 26 [(3, .int (zI M 337 (30 + 4 * w4n))), (0, .ref 336), (1, .int a), (2, .int b)] [.int (zI M 337 (32 + 4 * w4n))] M _
      refine zs_i2l (pc := 26) t271_26 rfl ?_
      refine zs_aload_n (pc := 27) t271_27 rfl ?_
      refine zs_get (pc := 28) t271_28 (by decide) (zk1 (hs.k fk_zMm_336)) (hs.p rfl fv_zMm_336_0) ?_
      refine zs_bipush (pc := 31) t271_31 (v := 10) (by decide) ?_
      have w17 := ibA10 hI
      refine zs_iald (pc := 33) t271_33 (j := 10) (by decide) (zk1 (hs.k fk_zMm_337)) li10 (zk2 (hs.k fk_zMm_337) (by decide)) rfl ?_
      refine zs_i2l (pc := 34) t271_34 rfl ?_
      refine zs_aload_n (pc := 35) t271_35 rfl ?_
      refine zs_get (pc := 36) t271_36 (by decide) (zk1 (hs.k fk_zMm_336)) (hs.p rfl fv_zMm_336_0) ?_
      refine zs_bipush (pc := 39) t271_39 (v := 11) (by decide) ?_
      have w18 := ibA11 hI
      refine zs_iald (pc := 41) t271_41 (j := 11) (by decide) (zk1 (hs.k fk_zMm_337)) li11 (zk2 (hs.k fk_zMm_337) (by decide)) rfl ?_
      refine zs_i2l (pc := 42) t271_42 rfl ?_
      by_cases w19 : (zI M 337 10).toInt ≤ (zI M 337 (32 + 4 * w4n)).toInt ∧ (zI M 337 (32 + 4 * w4n)).toInt ≤ (zI M 337 11).toInt
      · refine zs_invS (pc := 43) (as := [.long (zI M 337 (32 + 4 * w4n)).toInt64, .long (zI M 337 10).toInt64, .long (zI M 337 11).toInt64]) (st := []) t271_43 (by decide) mf228 rfl rfl ⟨by decide, by decide, Nat.le_of_ble_eq_true rfl, Nat.le_of_ble_eq_true rfl⟩ (K228T (zi2l rfl) (zi2l rfl) (zi2l rfl) (by omega) ?_) (fun _ _ q => q)
        show zGo X l 1 0 0 271 46 [(3, .int (zI M 337 (30 + 4 * w4n))), (0, .ref 336), (1, .int a), (2, .int b)] [.int (1 : Int32)] M _
        refine zs_if_eqF (pc := 46) t271_46 li1 (by decide) ?_
        refine zs_iconst (pc := 49) t271_49 (v := 1) (by decide) ?_
        refine zs_goto (pc := 50) t271_50 ?_
        exact zs_iret (pc := 54) t271_54 mr271 (by decide) (hQ _ (by decide) (by decide))
      · refine zs_invS (pc := 43) (as := [.long (zI M 337 (32 + 4 * w4n)).toInt64, .long (zI M 337 10).toInt64, .long (zI M 337 11).toInt64]) (st := []) t271_43 (by decide) mf228 rfl rfl ⟨by decide, by decide, Nat.le_of_ble_eq_true rfl, Nat.le_of_ble_eq_true rfl⟩ (K228F (zi2l rfl) (zi2l rfl) (zi2l rfl) (by omega) ?_) (fun _ _ q => q)
        show zGo X l 1 0 0 271 46 [(3, .int (zI M 337 (30 + 4 * w4n))), (0, .ref 336), (1, .int a), (2, .int b)] [.int (0 : Int32)] M _
        refine zs_if_eqT (pc := 46) t271_46 li0 (by decide) ?_
        refine zs_iconst (pc := 53) t271_53 (v := 0) (by decide) ?_
        exact zs_iret (pc := 54) t271_54 mr271 (by decide) (hQ _ (by decide) (by decide))
theorem K276 {X : zX} {l : Launch} {M : zM} {Q : Option Value → zM → Prop} {a : Int32} (hs : zSk zMm M) (hI : zIv mLo mHi M) (ha : 0 ≤ a.toInt ∧ a.toInt ≤ 59) (hQ : ∀ v : Int32, 0 ≤ v.toInt → v.toInt ≤ 1 → Q (some (.int v)) M) : zCall X l 0 0 0 276 [.ref 336, .int a] M Q := by
  have ga := zrg a
  refine zs_in (by decide) mf276 (Nat.le_of_ble_eq_true rfl) ?_
  show zGo X l 0 0 0 276 0 [(0, .ref 336), (1, .int a)] [] M _
  refine zs_iconst (pc := 0) t276_0 (v := 0) (by decide) ?_
  refine zs_istore_n (pc := 1) t276_1 (ls' := [(2, .int (0 : Int32)), (0, .ref 336), (1, .int a)]) (zml mf276 (by decide)) rfl ?_
  have w1L : ∀ (m : Nat) (w1x2 : Int32), (0 ≤ w1x2.toInt ∧ w1x2.toInt ≤ 60) → 60 - w1x2.toInt ≤ (m : Int) → zGo X l 0 0 0 276 2 [(0, .ref 336), (1, .int a), (2, .int w1x2)] [] M Q := by
    intro m
    induction m using Nat.strongRecOn with
    | ind w1m w1ih =>
      intro w1x2 w1b2 w1q
      refine zs_iload_n (pc := 2) t276_2 rfl ?_
      refine zs_iload_n (pc := 3) t276_3 rfl ?_
      by_cases w2 : a.toInt ≤ w1x2.toInt
      · refine zs_icmp_geT (pc := 4) t276_4 rfl rfl (by omega) ?_
        refine zs_iconst (pc := 39) t276_39 (v := 1) (by decide) ?_
        exact zs_iret (pc := 40) t276_40 mr276 (by decide) (hQ _ (by decide) (by decide))
      · refine zs_icmp_geF (pc := 4) t276_4 rfl rfl (by omega) ?_
        refine zs_aload_n (pc := 7) t276_7 rfl ?_
        refine zs_get (pc := 8) t276_8 (by decide) (zk1 (hs.k fk_zMm_336)) (hs.p rfl fv_zMm_336_16) ?_
        refine zs_iload_n (pc := 11) t276_11 rfl ?_
        obtain ⟨w3n, w3⟩ : ∃ n : Nat, w1x2.toInt = (n : Int) := ⟨(w1x2.toInt).toNat, by omega⟩
        have w4 := ib343 hI w3n
        refine zs_bald (pc := 12) t276_12 (j := w3n) (Or.inr (zk1 (hs.k fk_zMm_343))) (show w1x2.toInt = ((w3n : Nat) : Int) by omega) (zk2 (hs.k fk_zMm_343) (by omega)) rfl ?_
        by_cases w5 : (zI M 343 w3n).toInt = 0
        · refine zs_if_eqT (pc := 13) t276_13 rfl (by omega) ?_
          obtain ⟨w6v, w6e, w6⟩ := ziadd (a := w1x2) (b := Int32.ofInt 1) rfl (show (Int32.ofInt 1).toInt = 1 by decide) (by omega) (by omega)
          refine zs_iinc (pc := 33) t276_33 (ls' := [(2, .int w6v), (0, .ref 336), (1, .int a)]) (zml mf276 (by decide)) rfl (c := w6v) w6e rfl ?_
          refine zs_goto (pc := 36) t276_36 ?_
          refine zGo.locals (ls' := [(0, .ref 336), (1, .int a), (2, .int w6v)]) (by simp) ?_
          have w7 := w6
          exact w1ih (w1m - 1) (by omega) w6v ⟨by omega, by omega⟩ (by omega)
        · refine zs_if_eqF (pc := 13) t276_13 rfl (by omega) ?_
          refine zs_aload_n (pc := 16) t276_16 rfl ?_
          refine zs_get (pc := 17) t276_17 (by decide) (zk1 (hs.k fk_zMm_336)) (hs.p rfl fv_zMm_336_17) ?_
          refine zs_iload_n (pc := 20) t276_20 rfl ?_
          have w8 := zrg (zI M 344 w3n)
          refine zs_iald (pc := 21) t276_21 (j := w3n) (by decide) (zk1 (hs.k fk_zMm_344)) (show w1x2.toInt = ((w3n : Nat) : Int) by omega) (zk2 (hs.k fk_zMm_344) (by omega)) rfl ?_
          refine zs_aload_n (pc := 22) t276_22 rfl ?_
          refine zs_get (pc := 23) t276_23 (by decide) (zk1 (hs.k fk_zMm_336)) (hs.p rfl fv_zMm_336_17) ?_
          refine zs_iload_n (pc := 26) t276_26 rfl ?_
          obtain ⟨w9n, w9⟩ : ∃ n : Nat, a.toInt = (n : Int) := ⟨(a.toInt).toNat, by omega⟩
          have w10 := zrg (zI M 344 w9n)
          refine zs_iald (pc := 27) t276_27 (j := w9n) (by decide) (zk1 (hs.k fk_zMm_344)) (show a.toInt = ((w9n : Nat) : Int) by omega) (zk2 (hs.k fk_zMm_344) (by omega)) rfl ?_
          by_cases w11 : (zI M 344 w3n).toInt ≠ (zI M 344 w9n).toInt
          · refine zs_icmp_neT (pc := 28) t276_28 rfl rfl (by omega) ?_
            obtain ⟨w12v, w12e, w12⟩ := ziadd (a := w1x2) (b := Int32.ofInt 1) rfl (show (Int32.ofInt 1).toInt = 1 by decide) (by omega) (by omega)
            refine zs_iinc (pc := 33) t276_33 (ls' := [(2, .int w12v), (0, .ref 336), (1, .int a)]) (zml mf276 (by decide)) rfl (c := w12v) w12e rfl ?_
            refine zs_goto (pc := 36) t276_36 ?_
            refine zGo.locals (ls' := [(0, .ref 336), (1, .int a), (2, .int w12v)]) (by simp) ?_
            have w13 := w12
            exact w1ih (w1m - 1) (by omega) w12v ⟨by omega, by omega⟩ (by omega)
          · refine zs_icmp_neF (pc := 28) t276_28 rfl rfl (by omega) ?_
            refine zs_iconst (pc := 31) t276_31 (v := 0) (by decide) ?_
            exact zs_iret (pc := 32) t276_32 mr276 (by decide) (hQ _ (by decide) (by decide))
  refine zGo.locals (ls' := [(0, .ref 336), (1, .int a), (2, .int (0 : Int32))]) (by simp) ?_
  have w14 := li0
  exact w1L ((60 - 0 : Int).toNat) (0 : Int32) ⟨by decide, by decide⟩ (by omega)
theorem K278 {X : zX} {l : Launch} {M : zM} {Q : Option Value → zM → Prop} {a : Int32} (hs : zSk zMm M) (hI : zIv mLo mHi M) (hQ : ∀ v : Int32, Q (some (.int v)) M) : zCall X l 0 0 0 278 [.int a] M Q := by
  have ga := zrg a
  refine zs_in (by decide) mf278 (Nat.le_of_ble_eq_true rfl) ?_
  show zGo X l 0 0 0 278 0 [(0, .int a)] [] M _
  refine zs_iconst (pc := 0) t278_0 (v := 0) (by decide) ?_
  refine zs_istore_n (pc := 1) t278_1 (ls' := [(1, .int (0 : Int32)), (0, .int a)]) (zml mf278 (by decide)) rfl ?_
  refine zs_iconst (pc := 2) t278_2 (v := 0) (by decide) ?_
  refine zs_istore_n (pc := 3) t278_3 (ls' := [(2, .int (0 : Int32)), (1, .int (0 : Int32)), (0, .int a)]) (zml mf278 (by decide)) rfl ?_
  have w1L : ∀ (m : Nat) (w1x1 : Int32) (w1x2 : Int32), (0 ≤ w1x2.toInt ∧ w1x2.toInt ≤ 8) → 8 - w1x2.toInt ≤ (m : Int) → zGo X l 0 0 0 278 4 [(0, .int a), (1, .int w1x1), (2, .int w1x2)] [] M Q := by
    intro m
    induction m using Nat.strongRecOn with
    | ind w1m w1ih =>
      intro w1x1 w1x2 w1b2 w1q
      have w1g1 := zrg w1x1
      refine zs_iload_n (pc := 4) t278_4 rfl ?_
      refine zs_bipush (pc := 5) t278_5 (v := 8) (by decide) ?_
      by_cases w2 : 8 ≤ w1x2.toInt
      · refine zs_icmp_geT (pc := 7) t278_7 rfl li8 (by omega) ?_
        refine zs_iload_n (pc := 24) t278_24 rfl ?_
        exact zs_iret (pc := 25) t278_25 mr278 rfl (hQ _)
      · refine zs_icmp_geF (pc := 7) t278_7 rfl li8 (by omega) ?_
        refine zs_iload_n (pc := 10) t278_10 rfl ?_
        refine zs_iload_n (pc := 11) t278_11 rfl ?_
        refine zs_iload_n (pc := 12) t278_12 rfl ?_
        obtain ⟨w3v, w3⟩ : ∃ v, a >>> (w1x2 &&& 31) = v := ⟨_, rfl⟩
        have w3g := zrg w3v
        refine zs_ishr (pc := 13) t278_13 (c := w3v) w3 ?_
        refine zs_iconst (pc := 14) t278_14 (v := 1) (by decide) ?_
        obtain ⟨w4v, w4⟩ : ∃ v, w3v &&& (1 : Int32) = v := ⟨_, rfl⟩
        have w4g : 0 ≤ w4v.toInt ∧ w4v.toInt ≤ 1 := by rw [← w4]; exact zand li1 (by decide)
        refine zs_iand (pc := 15) t278_15 (c := w4v) w4 ?_
        obtain ⟨w5v, w5⟩ : ∃ v, v = w1x1 + w4v := ⟨_, rfl⟩
        have w5g := zrg w5v
        refine zs_iadd (pc := 16) t278_16 (c := w5v) w5.symm ?_
        refine zs_istore_n (pc := 17) t278_17 (ls' := [(1, .int w5v), (0, .int a), (2, .int w1x2)]) (zml mf278 (by decide)) rfl ?_
        obtain ⟨w6v, w6e, w6⟩ := ziadd (a := w1x2) (b := Int32.ofInt 1) rfl (show (Int32.ofInt 1).toInt = 1 by decide) (by omega) (by omega)
        refine zs_iinc (pc := 18) t278_18 (ls' := [(2, .int w6v), (1, .int w5v), (0, .int a)]) (zml mf278 (by decide)) rfl (c := w6v) w6e rfl ?_
        refine zs_goto (pc := 21) t278_21 ?_
        refine zGo.locals (ls' := [(0, .int a), (1, .int w5v), (2, .int w6v)]) (by simp) ?_
        have w7 := w6
        exact w1ih (w1m - 1) (by omega) w5v w6v ⟨by omega, by omega⟩ (by omega)
  refine zGo.locals (ls' := [(0, .int a), (1, .int (0 : Int32)), (2, .int (0 : Int32))]) (by simp) ?_
  have w8 := li0
  have w9 := li0
  exact w1L ((8 - 0 : Int).toNat) (0 : Int32) (0 : Int32) ⟨by decide, by decide⟩ (by omega)
theorem K279 {X : zX} {l : Launch} {M : zM} {Q : Option Value → zM → Prop} {a b c d e f g h : Int32} (hs : zSk zMm M) (hI : zIv mLo mHi M) (hQ : ∀ v : Int32, 0 ≤ v.toInt → v.toInt ≤ 1 → Q (some (.int v)) M) : zCall X l 1 0 0 279 [.int a, .int b, .int c, .int d, .int e, .int f, .int g, .int h] M Q := by
  have ga := zrg a
  have gb := zrg b
  have gc := zrg c
  have gd := zrg d
  have ge := zrg e
  have gf := zrg f
  have gg := zrg g
  have gh := zrg h
  refine zs_in (by decide) mf279 (Nat.le_of_ble_eq_true rfl) ?_
  show zGo X l 1 0 0 279 0 [(0, .int a), (1, .int b), (2, .int c), (3, .int d), (4, .int e), (5, .int f), (6, .int g), (7, .int h)] [] M _
  refine zs_iload_n (pc := 0) t279_0 rfl ?_
  refine zs_iload (pc := 1) t279_1 rfl ?_
  by_cases w1 : a.toInt = e.toInt
  · refine zs_icmp_eqT (pc := 3) t279_3 rfl rfl (by omega) ?_
    refine zs_iload_n (pc := 18) t279_18 rfl ?_
    refine zs_invS (pc := 19) (as := [.int b]) (st := []) t279_19 (by decide) mf280 rfl rfl ⟨by decide, by decide, Nat.le_of_ble_eq_true rfl, Nat.le_of_ble_eq_true rfl⟩ (zs_in (by decide) mf280 (Nat.le_of_ble_eq_true rfl) ?_) (fun _ _ q => q)
    show zGo X l 0 0 0 280 0 [(0, .int b)] [] M _
    refine zs_iload_n (pc := 0) t280_0 rfl ?_
    by_cases w2 : 0 ≤ b.toInt
    · refine zs_if_geT (pc := 1) t280_1 rfl (by omega) ?_
      refine zs_iload_n (pc := 9) t280_9 rfl ?_
      refine zs_iret (pc := 10) t280_10 mr280 rfl ?_
      show zGo X l 1 0 0 279 22 [(0, .int a), (1, .int b), (2, .int c), (3, .int d), (4, .int e), (5, .int f), (6, .int g), (7, .int h)] [.int b] M _
      refine zs_iload (pc := 22) t279_22 rfl ?_
      refine zs_invS (pc := 24) (as := [.int f]) (st := [.int b]) t279_24 (by decide) mf280 rfl rfl ⟨by decide, by decide, Nat.le_of_ble_eq_true rfl, Nat.le_of_ble_eq_true rfl⟩ (zs_in (by decide) mf280 (Nat.le_of_ble_eq_true rfl) ?_) (fun _ _ q => q)
      show zGo X l 0 0 0 280 0 [(0, .int f)] [] M _
      refine zs_iload_n (pc := 0) t280_0 rfl ?_
      by_cases w3 : 0 ≤ f.toInt
      · refine zs_if_geT (pc := 1) t280_1 rfl (by omega) ?_
        refine zs_iload_n (pc := 9) t280_9 rfl ?_
        refine zs_iret (pc := 10) t280_10 mr280 rfl ?_
        show zGo X l 1 0 0 279 27 [(0, .int a), (1, .int b), (2, .int c), (3, .int d), (4, .int e), (5, .int f), (6, .int g), (7, .int h)] [.int f, .int b] M _
        by_cases w4 : b.toInt = f.toInt
        · refine zs_icmp_eqT (pc := 27) t279_27 rfl rfl (by omega) ?_
          refine zs_iload_n (pc := 48) t279_48 rfl ?_
          refine zs_invS (pc := 49) (as := [.int c]) (st := []) t279_49 (by decide) mf280 rfl rfl ⟨by decide, by decide, Nat.le_of_ble_eq_true rfl, Nat.le_of_ble_eq_true rfl⟩ (zs_in (by decide) mf280 (Nat.le_of_ble_eq_true rfl) ?_) (fun _ _ q => q)
          show zGo X l 0 0 0 280 0 [(0, .int c)] [] M _
          refine zs_iload_n (pc := 0) t280_0 rfl ?_
          by_cases w5 : 0 ≤ c.toInt
          · refine zs_if_geT (pc := 1) t280_1 rfl (by omega) ?_
            refine zs_iload_n (pc := 9) t280_9 rfl ?_
            refine zs_iret (pc := 10) t280_10 mr280 rfl ?_
            show zGo X l 1 0 0 279 52 [(0, .int a), (1, .int b), (2, .int c), (3, .int d), (4, .int e), (5, .int f), (6, .int g), (7, .int h)] [.int c] M _
            refine zs_iload (pc := 52) t279_52 rfl ?_
            refine zs_invS (pc := 54) (as := [.int g]) (st := [.int c]) t279_54 (by decide) mf280 rfl rfl ⟨by decide, by decide, Nat.le_of_ble_eq_true rfl, Nat.le_of_ble_eq_true rfl⟩ (zs_in (by decide) mf280 (Nat.le_of_ble_eq_true rfl) ?_) (fun _ _ q => q)
            show zGo X l 0 0 0 280 0 [(0, .int g)] [] M _
            refine zs_iload_n (pc := 0) t280_0 rfl ?_
            by_cases w6 : 0 ≤ g.toInt
            · refine zs_if_geT (pc := 1) t280_1 rfl (by omega) ?_
              refine zs_iload_n (pc := 9) t280_9 rfl ?_
              refine zs_iret (pc := 10) t280_10 mr280 rfl ?_
              show zGo X l 1 0 0 279 57 [(0, .int a), (1, .int b), (2, .int c), (3, .int d), (4, .int e), (5, .int f), (6, .int g), (7, .int h)] [.int g, .int c] M _
              by_cases w7 : c.toInt = g.toInt
              · refine zs_icmp_eqT (pc := 57) t279_57 rfl rfl (by omega) ?_
                refine zs_iload_n (pc := 78) t279_78 rfl ?_
                refine zs_iload (pc := 79) t279_79 rfl ?_
                by_cases w8 : b.toInt = f.toInt
                · refine zs_icmp_eqT (pc := 81) t279_81 rfl rfl (by omega) ?_
                  refine zs_iload_n (pc := 96) t279_96 rfl ?_
                  refine zs_iload (pc := 97) t279_97 rfl ?_
                  by_cases w9 : c.toInt = g.toInt
                  · refine zs_icmp_eqT (pc := 99) t279_99 rfl rfl (by omega) ?_
                    refine zs_iload_n (pc := 116) t279_116 rfl ?_
                    refine zs_iload (pc := 117) t279_117 rfl ?_
                    by_cases w10 : h.toInt ≤ d.toInt
                    · refine zs_icmp_geT (pc := 119) t279_119 rfl rfl (by omega) ?_
                      refine zs_iconst (pc := 126) t279_126 (v := 0) (by decide) ?_
                      exact zs_iret (pc := 127) t279_127 mr279 (by decide) (hQ _ (by decide) (by decide))
                    · refine zs_icmp_geF (pc := 119) t279_119 rfl rfl (by omega) ?_
                      refine zs_iconst (pc := 122) t279_122 (v := 1) (by decide) ?_
                      refine zs_goto (pc := 123) t279_123 ?_
                      exact zs_iret (pc := 127) t279_127 mr279 (by decide) (hQ _ (by decide) (by decide))
                  · refine zs_icmp_eqF (pc := 99) t279_99 rfl rfl (by omega) ?_
                    refine zs_iload_n (pc := 102) t279_102 rfl ?_
                    refine zs_iload (pc := 103) t279_103 rfl ?_
                    by_cases w11 : g.toInt ≤ c.toInt
                    · refine zs_icmp_geT (pc := 105) t279_105 rfl rfl (by omega) ?_
                      refine zs_iconst (pc := 112) t279_112 (v := 0) (by decide) ?_
                      refine zs_goto (pc := 113) t279_113 ?_
                      exact zs_iret (pc := 127) t279_127 mr279 (by decide) (hQ _ (by decide) (by decide))
                    · refine zs_icmp_geF (pc := 105) t279_105 rfl rfl (by omega) ?_
                      refine zs_iconst (pc := 108) t279_108 (v := 1) (by decide) ?_
                      refine zs_goto (pc := 109) t279_109 ?_
                      exact zs_iret (pc := 127) t279_127 mr279 (by decide) (hQ _ (by decide) (by decide))
                · refine zs_icmp_eqF (pc := 81) t279_81 rfl rfl (by omega) ?_
                  refine zs_iload_n (pc := 84) t279_84 rfl ?_
                  refine zs_iload (pc := 85) t279_85 rfl ?_
                  by_cases w12 : f.toInt ≤ b.toInt
                  · refine zs_icmp_geT (pc := 87) t279_87 rfl rfl (by omega) ?_
                    refine zs_iconst (pc := 94) t279_94 (v := 0) (by decide) ?_
                    exact zs_iret (pc := 95) t279_95 mr279 (by decide) (hQ _ (by decide) (by decide))
                  · refine zs_icmp_geF (pc := 87) t279_87 rfl rfl (by omega) ?_
                    refine zs_iconst (pc := 90) t279_90 (v := 1) (by decide) ?_
                    refine zs_goto (pc := 91) t279_91 ?_
                    exact zs_iret (pc := 95) t279_95 mr279 (by decide) (hQ _ (by decide) (by decide))
              · refine zs_icmp_eqF (pc := 57) t279_57 rfl rfl (by omega) ?_
                refine zs_iload_n (pc := 60) t279_60 rfl ?_
                refine zs_invS (pc := 61) (as := [.int c]) (st := []) t279_61 (by decide) mf280 rfl rfl ⟨by decide, by decide, Nat.le_of_ble_eq_true rfl, Nat.le_of_ble_eq_true rfl⟩ (zs_in (by decide) mf280 (Nat.le_of_ble_eq_true rfl) ?_) (fun _ _ q => q)
                show zGo X l 0 0 0 280 0 [(0, .int c)] [] M _
                refine zs_iload_n (pc := 0) t280_0 rfl ?_
                refine zs_if_geT (pc := 1) t280_1 rfl (by omega) ?_
                refine zs_iload_n (pc := 9) t280_9 rfl ?_
                refine zs_iret (pc := 10) t280_10 mr280 rfl ?_
                show zGo X l 1 0 0 279 64 [(0, .int a), (1, .int b), (2, .int c), (3, .int d), (4, .int e), (5, .int f), (6, .int g), (7, .int h)] [.int c] M _
                refine zs_iload (pc := 64) t279_64 rfl ?_
                refine zs_invS (pc := 66) (as := [.int g]) (st := [.int c]) t279_66 (by decide) mf280 rfl rfl ⟨by decide, by decide, Nat.le_of_ble_eq_true rfl, Nat.le_of_ble_eq_true rfl⟩ (zs_in (by decide) mf280 (Nat.le_of_ble_eq_true rfl) ?_) (fun _ _ q => q)
                show zGo X l 0 0 0 280 0 [(0, .int g)] [] M _
                refine zs_iload_n (pc := 0) t280_0 rfl ?_
                refine zs_if_geT (pc := 1) t280_1 rfl (by omega) ?_
                refine zs_iload_n (pc := 9) t280_9 rfl ?_
                refine zs_iret (pc := 10) t280_10 mr280 rfl ?_
                show zGo X l 1 0 0 279 69 [(0, .int a), (1, .int b), (2, .int c), (3, .int d), (4, .int e), (5, .int f), (6, .int g), (7, .int h)] [.int g, .int c] M _
                by_cases w13 : g.toInt ≤ c.toInt
                · refine zs_icmp_geT (pc := 69) t279_69 rfl rfl (by omega) ?_
                  refine zs_iconst (pc := 76) t279_76 (v := 0) (by decide) ?_
                  exact zs_iret (pc := 77) t279_77 mr279 (by decide) (hQ _ (by decide) (by decide))
                · refine zs_icmp_geF (pc := 69) t279_69 rfl rfl (by omega) ?_
                  refine zs_iconst (pc := 72) t279_72 (v := 1) (by decide) ?_
                  refine zs_goto (pc := 73) t279_73 ?_
                  exact zs_iret (pc := 77) t279_77 mr279 (by decide) (hQ _ (by decide) (by decide))
            · refine zs_if_geF (pc := 1) t280_1 rfl (by omega) ?_
              refine zs_iload_n (pc := 4) t280_4 rfl ?_
              obtain ⟨w14v, w14e⟩ : ∃ v, -g = v := ⟨_, rfl⟩
              have w14 := zrg w14v
              refine zs_ineg (pc := 5) t280_5 (c := w14v) w14e ?_
              refine zs_goto (pc := 6) t280_6 ?_
              refine zs_iret (pc := 10) t280_10 mr280 rfl ?_
              show zGo X l 1 0 0 279 57 [(0, .int a), (1, .int b), (2, .int c), (3, .int d), (4, .int e), (5, .int f), (6, .int g), (7, .int h)] [.int w14v, .int c] M _
              by_cases w15 : c.toInt = w14v.toInt
              · refine zs_icmp_eqT (pc := 57) t279_57 rfl rfl (by omega) ?_
                refine zs_iload_n (pc := 78) t279_78 rfl ?_
                refine zs_iload (pc := 79) t279_79 rfl ?_
                by_cases w16 : b.toInt = f.toInt
                · refine zs_icmp_eqT (pc := 81) t279_81 rfl rfl (by omega) ?_
                  refine zs_iload_n (pc := 96) t279_96 rfl ?_
                  refine zs_iload (pc := 97) t279_97 rfl ?_
                  refine zs_icmp_eqF (pc := 99) t279_99 rfl rfl (by omega) ?_
                  refine zs_iload_n (pc := 102) t279_102 rfl ?_
                  refine zs_iload (pc := 103) t279_103 rfl ?_
                  refine zs_icmp_geT (pc := 105) t279_105 rfl rfl (by omega) ?_
                  refine zs_iconst (pc := 112) t279_112 (v := 0) (by decide) ?_
                  refine zs_goto (pc := 113) t279_113 ?_
                  exact zs_iret (pc := 127) t279_127 mr279 (by decide) (hQ _ (by decide) (by decide))
                · refine zs_icmp_eqF (pc := 81) t279_81 rfl rfl (by omega) ?_
                  refine zs_iload_n (pc := 84) t279_84 rfl ?_
                  refine zs_iload (pc := 85) t279_85 rfl ?_
                  by_cases w17 : f.toInt ≤ b.toInt
                  · refine zs_icmp_geT (pc := 87) t279_87 rfl rfl (by omega) ?_
                    refine zs_iconst (pc := 94) t279_94 (v := 0) (by decide) ?_
                    exact zs_iret (pc := 95) t279_95 mr279 (by decide) (hQ _ (by decide) (by decide))
                  · refine zs_icmp_geF (pc := 87) t279_87 rfl rfl (by omega) ?_
                    refine zs_iconst (pc := 90) t279_90 (v := 1) (by decide) ?_
                    refine zs_goto (pc := 91) t279_91 ?_
                    exact zs_iret (pc := 95) t279_95 mr279 (by decide) (hQ _ (by decide) (by decide))
              · refine zs_icmp_eqF (pc := 57) t279_57 rfl rfl (by omega) ?_
                refine zs_iload_n (pc := 60) t279_60 rfl ?_
                refine zs_invS (pc := 61) (as := [.int c]) (st := []) t279_61 (by decide) mf280 rfl rfl ⟨by decide, by decide, Nat.le_of_ble_eq_true rfl, Nat.le_of_ble_eq_true rfl⟩ (zs_in (by decide) mf280 (Nat.le_of_ble_eq_true rfl) ?_) (fun _ _ q => q)
                show zGo X l 0 0 0 280 0 [(0, .int c)] [] M _
                refine zs_iload_n (pc := 0) t280_0 rfl ?_
                refine zs_if_geT (pc := 1) t280_1 rfl (by omega) ?_
                refine zs_iload_n (pc := 9) t280_9 rfl ?_
                refine zs_iret (pc := 10) t280_10 mr280 rfl ?_
                show zGo X l 1 0 0 279 64 [(0, .int a), (1, .int b), (2, .int c), (3, .int d), (4, .int e), (5, .int f), (6, .int g), (7, .int h)] [.int c] M _
                refine zs_iload (pc := 64) t279_64 rfl ?_
                refine zs_invS (pc := 66) (as := [.int g]) (st := [.int c]) t279_66 (by decide) mf280 rfl rfl ⟨by decide, by decide, Nat.le_of_ble_eq_true rfl, Nat.le_of_ble_eq_true rfl⟩ (zs_in (by decide) mf280 (Nat.le_of_ble_eq_true rfl) ?_) (fun _ _ q => q)
                show zGo X l 0 0 0 280 0 [(0, .int g)] [] M _
                refine zs_iload_n (pc := 0) t280_0 rfl ?_
                refine zs_if_geF (pc := 1) t280_1 rfl (by omega) ?_
                refine zs_iload_n (pc := 4) t280_4 rfl ?_
                obtain ⟨w18v, w18e⟩ : ∃ v, -g = v := ⟨_, rfl⟩
                have w18 := zrg w18v
                refine zs_ineg (pc := 5) t280_5 (c := w18v) w18e ?_
                refine zs_goto (pc := 6) t280_6 ?_
                refine zs_iret (pc := 10) t280_10 mr280 rfl ?_
                show zGo X l 1 0 0 279 69 [(0, .int a), (1, .int b), (2, .int c), (3, .int d), (4, .int e), (5, .int f), (6, .int g), (7, .int h)] [.int w18v, .int c] M _
                by_cases w19 : w18v.toInt ≤ c.toInt
                · refine zs_icmp_geT (pc := 69) t279_69 rfl rfl (by omega) ?_
                  refine zs_iconst (pc := 76) t279_76 (v := 0) (by decide) ?_
                  exact zs_iret (pc := 77) t279_77 mr279 (by decide) (hQ _ (by decide) (by decide))
                · refine zs_icmp_geF (pc := 69) t279_69 rfl rfl (by omega) ?_
                  refine zs_iconst (pc := 72) t279_72 (v := 1) (by decide) ?_
                  refine zs_goto (pc := 73) t279_73 ?_
                  exact zs_iret (pc := 77) t279_77 mr279 (by decide) (hQ _ (by decide) (by decide))
          · refine zs_if_geF (pc := 1) t280_1 rfl (by omega) ?_
            refine zs_iload_n (pc := 4) t280_4 rfl ?_
            obtain ⟨w20v, w20e⟩ : ∃ v, -c = v := ⟨_, rfl⟩
            have w20 := zrg w20v
            refine zs_ineg (pc := 5) t280_5 (c := w20v) w20e ?_
            refine zs_goto (pc := 6) t280_6 ?_
            refine zs_iret (pc := 10) t280_10 mr280 rfl ?_
            show zGo X l 1 0 0 279 52 [(0, .int a), (1, .int b), (2, .int c), (3, .int d), (4, .int e), (5, .int f), (6, .int g), (7, .int h)] [.int w20v] M _
            refine zs_iload (pc := 52) t279_52 rfl ?_
            refine zs_invS (pc := 54) (as := [.int g]) (st := [.int w20v]) t279_54 (by decide) mf280 rfl rfl ⟨by decide, by decide, Nat.le_of_ble_eq_true rfl, Nat.le_of_ble_eq_true rfl⟩ (zs_in (by decide) mf280 (Nat.le_of_ble_eq_true rfl) ?_) (fun _ _ q => q)
            show zGo X l 0 0 0 280 0 [(0, .int g)] [] M _
            refine zs_iload_n (pc := 0) t280_0 rfl ?_
            by_cases w21 : 0 ≤ g.toInt
            · refine zs_if_geT (pc := 1) t280_1 rfl (by omega) ?_
              refine zs_iload_n (pc := 9) t280_9 rfl ?_
              refine zs_iret (pc := 10) t280_10 mr280 rfl ?_
              show zGo X l 1 0 0 279 57 [(0, .int a), (1, .int b), (2, .int c), (3, .int d), (4, .int e), (5, .int f), (6, .int g), (7, .int h)] [.int g, .int w20v] M _
              by_cases w22 : w20v.toInt = g.toInt
              · refine zs_icmp_eqT (pc := 57) t279_57 rfl rfl (by omega) ?_
                refine zs_iload_n (pc := 78) t279_78 rfl ?_
                refine zs_iload (pc := 79) t279_79 rfl ?_
                by_cases w23 : b.toInt = f.toInt
                · refine zs_icmp_eqT (pc := 81) t279_81 rfl rfl (by omega) ?_
                  refine zs_iload_n (pc := 96) t279_96 rfl ?_
                  refine zs_iload (pc := 97) t279_97 rfl ?_
                  refine zs_icmp_eqF (pc := 99) t279_99 rfl rfl (by omega) ?_
                  refine zs_iload_n (pc := 102) t279_102 rfl ?_
                  refine zs_iload (pc := 103) t279_103 rfl ?_
                  refine zs_icmp_geF (pc := 105) t279_105 rfl rfl (by omega) ?_
                  refine zs_iconst (pc := 108) t279_108 (v := 1) (by decide) ?_
                  refine zs_goto (pc := 109) t279_109 ?_
                  exact zs_iret (pc := 127) t279_127 mr279 (by decide) (hQ _ (by decide) (by decide))
                · refine zs_icmp_eqF (pc := 81) t279_81 rfl rfl (by omega) ?_
                  refine zs_iload_n (pc := 84) t279_84 rfl ?_
                  refine zs_iload (pc := 85) t279_85 rfl ?_
                  by_cases w24 : f.toInt ≤ b.toInt
                  · refine zs_icmp_geT (pc := 87) t279_87 rfl rfl (by omega) ?_
                    refine zs_iconst (pc := 94) t279_94 (v := 0) (by decide) ?_
                    exact zs_iret (pc := 95) t279_95 mr279 (by decide) (hQ _ (by decide) (by decide))
                  · refine zs_icmp_geF (pc := 87) t279_87 rfl rfl (by omega) ?_
                    refine zs_iconst (pc := 90) t279_90 (v := 1) (by decide) ?_
                    refine zs_goto (pc := 91) t279_91 ?_
                    exact zs_iret (pc := 95) t279_95 mr279 (by decide) (hQ _ (by decide) (by decide))
              · refine zs_icmp_eqF (pc := 57) t279_57 rfl rfl (by omega) ?_
                refine zs_iload_n (pc := 60) t279_60 rfl ?_
                refine zs_invS (pc := 61) (as := [.int c]) (st := []) t279_61 (by decide) mf280 rfl rfl ⟨by decide, by decide, Nat.le_of_ble_eq_true rfl, Nat.le_of_ble_eq_true rfl⟩ (zs_in (by decide) mf280 (Nat.le_of_ble_eq_true rfl) ?_) (fun _ _ q => q)
                show zGo X l 0 0 0 280 0 [(0, .int c)] [] M _
                refine zs_iload_n (pc := 0) t280_0 rfl ?_
                refine zs_if_geF (pc := 1) t280_1 rfl (by omega) ?_
                refine zs_iload_n (pc := 4) t280_4 rfl ?_
                obtain ⟨w25v, w25e⟩ : ∃ v, -c = v := ⟨_, rfl⟩
                have w25 := zrg w25v
                refine zs_ineg (pc := 5) t280_5 (c := w25v) w25e ?_
                refine zs_goto (pc := 6) t280_6 ?_
                refine zs_iret (pc := 10) t280_10 mr280 rfl ?_
                show zGo X l 1 0 0 279 64 [(0, .int a), (1, .int b), (2, .int c), (3, .int d), (4, .int e), (5, .int f), (6, .int g), (7, .int h)] [.int w25v] M _
                refine zs_iload (pc := 64) t279_64 rfl ?_
                refine zs_invS (pc := 66) (as := [.int g]) (st := [.int w25v]) t279_66 (by decide) mf280 rfl rfl ⟨by decide, by decide, Nat.le_of_ble_eq_true rfl, Nat.le_of_ble_eq_true rfl⟩ (zs_in (by decide) mf280 (Nat.le_of_ble_eq_true rfl) ?_) (fun _ _ q => q)
                show zGo X l 0 0 0 280 0 [(0, .int g)] [] M _
                refine zs_iload_n (pc := 0) t280_0 rfl ?_
                refine zs_if_geT (pc := 1) t280_1 rfl (by omega) ?_
                refine zs_iload_n (pc := 9) t280_9 rfl ?_
                refine zs_iret (pc := 10) t280_10 mr280 rfl ?_
                show zGo X l 1 0 0 279 69 [(0, .int a), (1, .int b), (2, .int c), (3, .int d), (4, .int e), (5, .int f), (6, .int g), (7, .int h)] [.int g, .int w25v] M _
                by_cases w26 : g.toInt ≤ w25v.toInt
                · refine zs_icmp_geT (pc := 69) t279_69 rfl rfl (by omega) ?_
                  refine zs_iconst (pc := 76) t279_76 (v := 0) (by decide) ?_
                  exact zs_iret (pc := 77) t279_77 mr279 (by decide) (hQ _ (by decide) (by decide))
                · refine zs_icmp_geF (pc := 69) t279_69 rfl rfl (by omega) ?_
                  refine zs_iconst (pc := 72) t279_72 (v := 1) (by decide) ?_
                  refine zs_goto (pc := 73) t279_73 ?_
                  exact zs_iret (pc := 77) t279_77 mr279 (by decide) (hQ _ (by decide) (by decide))
            · refine zs_if_geF (pc := 1) t280_1 rfl (by omega) ?_
              refine zs_iload_n (pc := 4) t280_4 rfl ?_
              obtain ⟨w27v, w27e⟩ : ∃ v, -g = v := ⟨_, rfl⟩
              have w27 := zrg w27v
              refine zs_ineg (pc := 5) t280_5 (c := w27v) w27e ?_
              refine zs_goto (pc := 6) t280_6 ?_
              refine zs_iret (pc := 10) t280_10 mr280 rfl ?_
              show zGo X l 1 0 0 279 57 [(0, .int a), (1, .int b), (2, .int c), (3, .int d), (4, .int e), (5, .int f), (6, .int g), (7, .int h)] [.int w27v, .int w20v] M _
              by_cases w28 : w20v.toInt = w27v.toInt
              · refine zs_icmp_eqT (pc := 57) t279_57 rfl rfl (by omega) ?_
                refine zs_iload_n (pc := 78) t279_78 rfl ?_
                refine zs_iload (pc := 79) t279_79 rfl ?_
                by_cases w29 : b.toInt = f.toInt
                · refine zs_icmp_eqT (pc := 81) t279_81 rfl rfl (by omega) ?_
                  refine zs_iload_n (pc := 96) t279_96 rfl ?_
                  refine zs_iload (pc := 97) t279_97 rfl ?_
                  by_cases w30 : c.toInt = g.toInt
                  · refine zs_icmp_eqT (pc := 99) t279_99 rfl rfl (by omega) ?_
                    refine zs_iload_n (pc := 116) t279_116 rfl ?_
                    refine zs_iload (pc := 117) t279_117 rfl ?_
                    by_cases w31 : h.toInt ≤ d.toInt
                    · refine zs_icmp_geT (pc := 119) t279_119 rfl rfl (by omega) ?_
                      refine zs_iconst (pc := 126) t279_126 (v := 0) (by decide) ?_
                      exact zs_iret (pc := 127) t279_127 mr279 (by decide) (hQ _ (by decide) (by decide))
                    · refine zs_icmp_geF (pc := 119) t279_119 rfl rfl (by omega) ?_
                      refine zs_iconst (pc := 122) t279_122 (v := 1) (by decide) ?_
                      refine zs_goto (pc := 123) t279_123 ?_
                      exact zs_iret (pc := 127) t279_127 mr279 (by decide) (hQ _ (by decide) (by decide))
                  · refine zs_icmp_eqF (pc := 99) t279_99 rfl rfl (by omega) ?_
                    refine zs_iload_n (pc := 102) t279_102 rfl ?_
                    refine zs_iload (pc := 103) t279_103 rfl ?_
                    by_cases w32 : g.toInt ≤ c.toInt
                    · refine zs_icmp_geT (pc := 105) t279_105 rfl rfl (by omega) ?_
                      refine zs_iconst (pc := 112) t279_112 (v := 0) (by decide) ?_
                      refine zs_goto (pc := 113) t279_113 ?_
                      exact zs_iret (pc := 127) t279_127 mr279 (by decide) (hQ _ (by decide) (by decide))
                    · refine zs_icmp_geF (pc := 105) t279_105 rfl rfl (by omega) ?_
                      refine zs_iconst (pc := 108) t279_108 (v := 1) (by decide) ?_
                      refine zs_goto (pc := 109) t279_109 ?_
                      exact zs_iret (pc := 127) t279_127 mr279 (by decide) (hQ _ (by decide) (by decide))
                · refine zs_icmp_eqF (pc := 81) t279_81 rfl rfl (by omega) ?_
                  refine zs_iload_n (pc := 84) t279_84 rfl ?_
                  refine zs_iload (pc := 85) t279_85 rfl ?_
                  by_cases w33 : f.toInt ≤ b.toInt
                  · refine zs_icmp_geT (pc := 87) t279_87 rfl rfl (by omega) ?_
                    refine zs_iconst (pc := 94) t279_94 (v := 0) (by decide) ?_
                    exact zs_iret (pc := 95) t279_95 mr279 (by decide) (hQ _ (by decide) (by decide))
                  · refine zs_icmp_geF (pc := 87) t279_87 rfl rfl (by omega) ?_
                    refine zs_iconst (pc := 90) t279_90 (v := 1) (by decide) ?_
                    refine zs_goto (pc := 91) t279_91 ?_
                    exact zs_iret (pc := 95) t279_95 mr279 (by decide) (hQ _ (by decide) (by decide))
              · refine zs_icmp_eqF (pc := 57) t279_57 rfl rfl (by omega) ?_
                refine zs_iload_n (pc := 60) t279_60 rfl ?_
                refine zs_invS (pc := 61) (as := [.int c]) (st := []) t279_61 (by decide) mf280 rfl rfl ⟨by decide, by decide, Nat.le_of_ble_eq_true rfl, Nat.le_of_ble_eq_true rfl⟩ (zs_in (by decide) mf280 (Nat.le_of_ble_eq_true rfl) ?_) (fun _ _ q => q)
                show zGo X l 0 0 0 280 0 [(0, .int c)] [] M _
                refine zs_iload_n (pc := 0) t280_0 rfl ?_
                refine zs_if_geF (pc := 1) t280_1 rfl (by omega) ?_
                refine zs_iload_n (pc := 4) t280_4 rfl ?_
                obtain ⟨w34v, w34e⟩ : ∃ v, -c = v := ⟨_, rfl⟩
                have w34 := zrg w34v
                refine zs_ineg (pc := 5) t280_5 (c := w34v) w34e ?_
                refine zs_goto (pc := 6) t280_6 ?_
                refine zs_iret (pc := 10) t280_10 mr280 rfl ?_
                show zGo X l 1 0 0 279 64 [(0, .int a), (1, .int b), (2, .int c), (3, .int d), (4, .int e), (5, .int f), (6, .int g), (7, .int h)] [.int w34v] M _
                refine zs_iload (pc := 64) t279_64 rfl ?_
                refine zs_invS (pc := 66) (as := [.int g]) (st := [.int w34v]) t279_66 (by decide) mf280 rfl rfl ⟨by decide, by decide, Nat.le_of_ble_eq_true rfl, Nat.le_of_ble_eq_true rfl⟩ (zs_in (by decide) mf280 (Nat.le_of_ble_eq_true rfl) ?_) (fun _ _ q => q)
                show zGo X l 0 0 0 280 0 [(0, .int g)] [] M _
                refine zs_iload_n (pc := 0) t280_0 rfl ?_
                refine zs_if_geF (pc := 1) t280_1 rfl (by omega) ?_
                refine zs_iload_n (pc := 4) t280_4 rfl ?_
                obtain ⟨w35v, w35e⟩ : ∃ v, -g = v := ⟨_, rfl⟩
                have w35 := zrg w35v
                refine zs_ineg (pc := 5) t280_5 (c := w35v) w35e ?_
                refine zs_goto (pc := 6) t280_6 ?_
                refine zs_iret (pc := 10) t280_10 mr280 rfl ?_
                show zGo X l 1 0 0 279 69 [(0, .int a), (1, .int b), (2, .int c), (3, .int d), (4, .int e), (5, .int f), (6, .int g), (7, .int h)] [.int w35v, .int w34v] M _
                by_cases w36 : w35v.toInt ≤ w34v.toInt
                · refine zs_icmp_geT (pc := 69) t279_69 rfl rfl (by omega) ?_
                  refine zs_iconst (pc := 76) t279_76 (v := 0) (by decide) ?_
                  exact zs_iret (pc := 77) t279_77 mr279 (by decide) (hQ _ (by decide) (by decide))
                · refine zs_icmp_geF (pc := 69) t279_69 rfl rfl (by omega) ?_
                  refine zs_iconst (pc := 72) t279_72 (v := 1) (by decide) ?_
                  refine zs_goto (pc := 73) t279_73 ?_
                  exact zs_iret (pc := 77) t279_77 mr279 (by decide) (hQ _ (by decide) (by decide))
        · refine zs_icmp_eqF (pc := 27) t279_27 rfl rfl (by omega) ?_
          refine zs_iload_n (pc := 30) t279_30 rfl ?_
          refine zs_invS (pc := 31) (as := [.int b]) (st := []) t279_31 (by decide) mf280 rfl rfl ⟨by decide, by decide, Nat.le_of_ble_eq_true rfl, Nat.le_of_ble_eq_true rfl⟩ (zs_in (by decide) mf280 (Nat.le_of_ble_eq_true rfl) ?_) (fun _ _ q => q)
          show zGo X l 0 0 0 280 0 [(0, .int b)] [] M _
          refine zs_iload_n (pc := 0) t280_0 rfl ?_
          refine zs_if_geT (pc := 1) t280_1 rfl (by omega) ?_
          refine zs_iload_n (pc := 9) t280_9 rfl ?_
          refine zs_iret (pc := 10) t280_10 mr280 rfl ?_
          show zGo X l 1 0 0 279 34 [(0, .int a), (1, .int b), (2, .int c), (3, .int d), (4, .int e), (5, .int f), (6, .int g), (7, .int h)] [.int b] M _
          refine zs_iload (pc := 34) t279_34 rfl ?_
          refine zs_invS (pc := 36) (as := [.int f]) (st := [.int b]) t279_36 (by decide) mf280 rfl rfl ⟨by decide, by decide, Nat.le_of_ble_eq_true rfl, Nat.le_of_ble_eq_true rfl⟩ (zs_in (by decide) mf280 (Nat.le_of_ble_eq_true rfl) ?_) (fun _ _ q => q)
          show zGo X l 0 0 0 280 0 [(0, .int f)] [] M _
          refine zs_iload_n (pc := 0) t280_0 rfl ?_
          refine zs_if_geT (pc := 1) t280_1 rfl (by omega) ?_
          refine zs_iload_n (pc := 9) t280_9 rfl ?_
          refine zs_iret (pc := 10) t280_10 mr280 rfl ?_
          show zGo X l 1 0 0 279 39 [(0, .int a), (1, .int b), (2, .int c), (3, .int d), (4, .int e), (5, .int f), (6, .int g), (7, .int h)] [.int f, .int b] M _
          by_cases w37 : f.toInt ≤ b.toInt
          · refine zs_icmp_geT (pc := 39) t279_39 rfl rfl (by omega) ?_
            refine zs_iconst (pc := 46) t279_46 (v := 0) (by decide) ?_
            exact zs_iret (pc := 47) t279_47 mr279 (by decide) (hQ _ (by decide) (by decide))
          · refine zs_icmp_geF (pc := 39) t279_39 rfl rfl (by omega) ?_
            refine zs_iconst (pc := 42) t279_42 (v := 1) (by decide) ?_
            refine zs_goto (pc := 43) t279_43 ?_
            exact zs_iret (pc := 47) t279_47 mr279 (by decide) (hQ _ (by decide) (by decide))
      · refine zs_if_geF (pc := 1) t280_1 rfl (by omega) ?_
        refine zs_iload_n (pc := 4) t280_4 rfl ?_
        obtain ⟨w38v, w38e⟩ : ∃ v, -f = v := ⟨_, rfl⟩
        have w38 := zrg w38v
        refine zs_ineg (pc := 5) t280_5 (c := w38v) w38e ?_
        refine zs_goto (pc := 6) t280_6 ?_
        refine zs_iret (pc := 10) t280_10 mr280 rfl ?_
        show zGo X l 1 0 0 279 27 [(0, .int a), (1, .int b), (2, .int c), (3, .int d), (4, .int e), (5, .int f), (6, .int g), (7, .int h)] [.int w38v, .int b] M _
        by_cases w39 : b.toInt = w38v.toInt
        · refine zs_icmp_eqT (pc := 27) t279_27 rfl rfl (by omega) ?_
          refine zs_iload_n (pc := 48) t279_48 rfl ?_
          refine zs_invS (pc := 49) (as := [.int c]) (st := []) t279_49 (by decide) mf280 rfl rfl ⟨by decide, by decide, Nat.le_of_ble_eq_true rfl, Nat.le_of_ble_eq_true rfl⟩ (zs_in (by decide) mf280 (Nat.le_of_ble_eq_true rfl) ?_) (fun _ _ q => q)
          show zGo X l 0 0 0 280 0 [(0, .int c)] [] M _
          refine zs_iload_n (pc := 0) t280_0 rfl ?_
          by_cases w40 : 0 ≤ c.toInt
          · refine zs_if_geT (pc := 1) t280_1 rfl (by omega) ?_
            refine zs_iload_n (pc := 9) t280_9 rfl ?_
            refine zs_iret (pc := 10) t280_10 mr280 rfl ?_
            show zGo X l 1 0 0 279 52 [(0, .int a), (1, .int b), (2, .int c), (3, .int d), (4, .int e), (5, .int f), (6, .int g), (7, .int h)] [.int c] M _
            refine zs_iload (pc := 52) t279_52 rfl ?_
            refine zs_invS (pc := 54) (as := [.int g]) (st := [.int c]) t279_54 (by decide) mf280 rfl rfl ⟨by decide, by decide, Nat.le_of_ble_eq_true rfl, Nat.le_of_ble_eq_true rfl⟩ (zs_in (by decide) mf280 (Nat.le_of_ble_eq_true rfl) ?_) (fun _ _ q => q)
            show zGo X l 0 0 0 280 0 [(0, .int g)] [] M _
            refine zs_iload_n (pc := 0) t280_0 rfl ?_
            by_cases w41 : 0 ≤ g.toInt
            · refine zs_if_geT (pc := 1) t280_1 rfl (by omega) ?_
              refine zs_iload_n (pc := 9) t280_9 rfl ?_
              refine zs_iret (pc := 10) t280_10 mr280 rfl ?_
              show zGo X l 1 0 0 279 57 [(0, .int a), (1, .int b), (2, .int c), (3, .int d), (4, .int e), (5, .int f), (6, .int g), (7, .int h)] [.int g, .int c] M _
              by_cases w42 : c.toInt = g.toInt
              · refine zs_icmp_eqT (pc := 57) t279_57 rfl rfl (by omega) ?_
                refine zs_iload_n (pc := 78) t279_78 rfl ?_
                refine zs_iload (pc := 79) t279_79 rfl ?_
                refine zs_icmp_eqF (pc := 81) t279_81 rfl rfl (by omega) ?_
                refine zs_iload_n (pc := 84) t279_84 rfl ?_
                refine zs_iload (pc := 85) t279_85 rfl ?_
                refine zs_icmp_geT (pc := 87) t279_87 rfl rfl (by omega) ?_
                refine zs_iconst (pc := 94) t279_94 (v := 0) (by decide) ?_
                exact zs_iret (pc := 95) t279_95 mr279 (by decide) (hQ _ (by decide) (by decide))
              · refine zs_icmp_eqF (pc := 57) t279_57 rfl rfl (by omega) ?_
                refine zs_iload_n (pc := 60) t279_60 rfl ?_
                refine zs_invS (pc := 61) (as := [.int c]) (st := []) t279_61 (by decide) mf280 rfl rfl ⟨by decide, by decide, Nat.le_of_ble_eq_true rfl, Nat.le_of_ble_eq_true rfl⟩ (zs_in (by decide) mf280 (Nat.le_of_ble_eq_true rfl) ?_) (fun _ _ q => q)
                show zGo X l 0 0 0 280 0 [(0, .int c)] [] M _
                refine zs_iload_n (pc := 0) t280_0 rfl ?_
                refine zs_if_geT (pc := 1) t280_1 rfl (by omega) ?_
                refine zs_iload_n (pc := 9) t280_9 rfl ?_
                refine zs_iret (pc := 10) t280_10 mr280 rfl ?_
                show zGo X l 1 0 0 279 64 [(0, .int a), (1, .int b), (2, .int c), (3, .int d), (4, .int e), (5, .int f), (6, .int g), (7, .int h)] [.int c] M _
                refine zs_iload (pc := 64) t279_64 rfl ?_
                refine zs_invS (pc := 66) (as := [.int g]) (st := [.int c]) t279_66 (by decide) mf280 rfl rfl ⟨by decide, by decide, Nat.le_of_ble_eq_true rfl, Nat.le_of_ble_eq_true rfl⟩ (zs_in (by decide) mf280 (Nat.le_of_ble_eq_true rfl) ?_) (fun _ _ q => q)
                show zGo X l 0 0 0 280 0 [(0, .int g)] [] M _
                refine zs_iload_n (pc := 0) t280_0 rfl ?_
                refine zs_if_geT (pc := 1) t280_1 rfl (by omega) ?_
                refine zs_iload_n (pc := 9) t280_9 rfl ?_
                refine zs_iret (pc := 10) t280_10 mr280 rfl ?_
                show zGo X l 1 0 0 279 69 [(0, .int a), (1, .int b), (2, .int c), (3, .int d), (4, .int e), (5, .int f), (6, .int g), (7, .int h)] [.int g, .int c] M _
                by_cases w43 : g.toInt ≤ c.toInt
                · refine zs_icmp_geT (pc := 69) t279_69 rfl rfl (by omega) ?_
                  refine zs_iconst (pc := 76) t279_76 (v := 0) (by decide) ?_
                  exact zs_iret (pc := 77) t279_77 mr279 (by decide) (hQ _ (by decide) (by decide))
                · refine zs_icmp_geF (pc := 69) t279_69 rfl rfl (by omega) ?_
                  refine zs_iconst (pc := 72) t279_72 (v := 1) (by decide) ?_
                  refine zs_goto (pc := 73) t279_73 ?_
                  exact zs_iret (pc := 77) t279_77 mr279 (by decide) (hQ _ (by decide) (by decide))
            · refine zs_if_geF (pc := 1) t280_1 rfl (by omega) ?_
              refine zs_iload_n (pc := 4) t280_4 rfl ?_
              obtain ⟨w44v, w44e⟩ : ∃ v, -g = v := ⟨_, rfl⟩
              have w44 := zrg w44v
              refine zs_ineg (pc := 5) t280_5 (c := w44v) w44e ?_
              refine zs_goto (pc := 6) t280_6 ?_
              refine zs_iret (pc := 10) t280_10 mr280 rfl ?_
              show zGo X l 1 0 0 279 57 [(0, .int a), (1, .int b), (2, .int c), (3, .int d), (4, .int e), (5, .int f), (6, .int g), (7, .int h)] [.int w44v, .int c] M _
              by_cases w45 : c.toInt = w44v.toInt
              · refine zs_icmp_eqT (pc := 57) t279_57 rfl rfl (by omega) ?_
                refine zs_iload_n (pc := 78) t279_78 rfl ?_
                refine zs_iload (pc := 79) t279_79 rfl ?_
                refine zs_icmp_eqF (pc := 81) t279_81 rfl rfl (by omega) ?_
                refine zs_iload_n (pc := 84) t279_84 rfl ?_
                refine zs_iload (pc := 85) t279_85 rfl ?_
                refine zs_icmp_geT (pc := 87) t279_87 rfl rfl (by omega) ?_
                refine zs_iconst (pc := 94) t279_94 (v := 0) (by decide) ?_
                exact zs_iret (pc := 95) t279_95 mr279 (by decide) (hQ _ (by decide) (by decide))
              · refine zs_icmp_eqF (pc := 57) t279_57 rfl rfl (by omega) ?_
                refine zs_iload_n (pc := 60) t279_60 rfl ?_
                refine zs_invS (pc := 61) (as := [.int c]) (st := []) t279_61 (by decide) mf280 rfl rfl ⟨by decide, by decide, Nat.le_of_ble_eq_true rfl, Nat.le_of_ble_eq_true rfl⟩ (zs_in (by decide) mf280 (Nat.le_of_ble_eq_true rfl) ?_) (fun _ _ q => q)
                show zGo X l 0 0 0 280 0 [(0, .int c)] [] M _
                refine zs_iload_n (pc := 0) t280_0 rfl ?_
                refine zs_if_geT (pc := 1) t280_1 rfl (by omega) ?_
                refine zs_iload_n (pc := 9) t280_9 rfl ?_
                refine zs_iret (pc := 10) t280_10 mr280 rfl ?_
                show zGo X l 1 0 0 279 64 [(0, .int a), (1, .int b), (2, .int c), (3, .int d), (4, .int e), (5, .int f), (6, .int g), (7, .int h)] [.int c] M _
                refine zs_iload (pc := 64) t279_64 rfl ?_
                refine zs_invS (pc := 66) (as := [.int g]) (st := [.int c]) t279_66 (by decide) mf280 rfl rfl ⟨by decide, by decide, Nat.le_of_ble_eq_true rfl, Nat.le_of_ble_eq_true rfl⟩ (zs_in (by decide) mf280 (Nat.le_of_ble_eq_true rfl) ?_) (fun _ _ q => q)
                show zGo X l 0 0 0 280 0 [(0, .int g)] [] M _
                refine zs_iload_n (pc := 0) t280_0 rfl ?_
                refine zs_if_geF (pc := 1) t280_1 rfl (by omega) ?_
                refine zs_iload_n (pc := 4) t280_4 rfl ?_
                obtain ⟨w46v, w46e⟩ : ∃ v, -g = v := ⟨_, rfl⟩
                have w46 := zrg w46v
                refine zs_ineg (pc := 5) t280_5 (c := w46v) w46e ?_
                refine zs_goto (pc := 6) t280_6 ?_
                refine zs_iret (pc := 10) t280_10 mr280 rfl ?_
                show zGo X l 1 0 0 279 69 [(0, .int a), (1, .int b), (2, .int c), (3, .int d), (4, .int e), (5, .int f), (6, .int g), (7, .int h)] [.int w46v, .int c] M _
                by_cases w47 : w46v.toInt ≤ c.toInt
                · refine zs_icmp_geT (pc := 69) t279_69 rfl rfl (by omega) ?_
                  refine zs_iconst (pc := 76) t279_76 (v := 0) (by decide) ?_
                  exact zs_iret (pc := 77) t279_77 mr279 (by decide) (hQ _ (by decide) (by decide))
                · refine zs_icmp_geF (pc := 69) t279_69 rfl rfl (by omega) ?_
                  refine zs_iconst (pc := 72) t279_72 (v := 1) (by decide) ?_
                  refine zs_goto (pc := 73) t279_73 ?_
                  exact zs_iret (pc := 77) t279_77 mr279 (by decide) (hQ _ (by decide) (by decide))
          · refine zs_if_geF (pc := 1) t280_1 rfl (by omega) ?_
            refine zs_iload_n (pc := 4) t280_4 rfl ?_
            obtain ⟨w48v, w48e⟩ : ∃ v, -c = v := ⟨_, rfl⟩
            have w48 := zrg w48v
            refine zs_ineg (pc := 5) t280_5 (c := w48v) w48e ?_
            refine zs_goto (pc := 6) t280_6 ?_
            refine zs_iret (pc := 10) t280_10 mr280 rfl ?_
            show zGo X l 1 0 0 279 52 [(0, .int a), (1, .int b), (2, .int c), (3, .int d), (4, .int e), (5, .int f), (6, .int g), (7, .int h)] [.int w48v] M _
            refine zs_iload (pc := 52) t279_52 rfl ?_
            refine zs_invS (pc := 54) (as := [.int g]) (st := [.int w48v]) t279_54 (by decide) mf280 rfl rfl ⟨by decide, by decide, Nat.le_of_ble_eq_true rfl, Nat.le_of_ble_eq_true rfl⟩ (zs_in (by decide) mf280 (Nat.le_of_ble_eq_true rfl) ?_) (fun _ _ q => q)
            show zGo X l 0 0 0 280 0 [(0, .int g)] [] M _
            refine zs_iload_n (pc := 0) t280_0 rfl ?_
            by_cases w49 : 0 ≤ g.toInt
            · refine zs_if_geT (pc := 1) t280_1 rfl (by omega) ?_
              refine zs_iload_n (pc := 9) t280_9 rfl ?_
              refine zs_iret (pc := 10) t280_10 mr280 rfl ?_
              show zGo X l 1 0 0 279 57 [(0, .int a), (1, .int b), (2, .int c), (3, .int d), (4, .int e), (5, .int f), (6, .int g), (7, .int h)] [.int g, .int w48v] M _
              by_cases w50 : w48v.toInt = g.toInt
              · refine zs_icmp_eqT (pc := 57) t279_57 rfl rfl (by omega) ?_
                refine zs_iload_n (pc := 78) t279_78 rfl ?_
                refine zs_iload (pc := 79) t279_79 rfl ?_
                refine zs_icmp_eqF (pc := 81) t279_81 rfl rfl (by omega) ?_
                refine zs_iload_n (pc := 84) t279_84 rfl ?_
                refine zs_iload (pc := 85) t279_85 rfl ?_
                refine zs_icmp_geT (pc := 87) t279_87 rfl rfl (by omega) ?_
                refine zs_iconst (pc := 94) t279_94 (v := 0) (by decide) ?_
                exact zs_iret (pc := 95) t279_95 mr279 (by decide) (hQ _ (by decide) (by decide))
              · refine zs_icmp_eqF (pc := 57) t279_57 rfl rfl (by omega) ?_
                refine zs_iload_n (pc := 60) t279_60 rfl ?_
                refine zs_invS (pc := 61) (as := [.int c]) (st := []) t279_61 (by decide) mf280 rfl rfl ⟨by decide, by decide, Nat.le_of_ble_eq_true rfl, Nat.le_of_ble_eq_true rfl⟩ (zs_in (by decide) mf280 (Nat.le_of_ble_eq_true rfl) ?_) (fun _ _ q => q)
                show zGo X l 0 0 0 280 0 [(0, .int c)] [] M _
                refine zs_iload_n (pc := 0) t280_0 rfl ?_
                refine zs_if_geF (pc := 1) t280_1 rfl (by omega) ?_
                refine zs_iload_n (pc := 4) t280_4 rfl ?_
                obtain ⟨w51v, w51e⟩ : ∃ v, -c = v := ⟨_, rfl⟩
                have w51 := zrg w51v
                refine zs_ineg (pc := 5) t280_5 (c := w51v) w51e ?_
                refine zs_goto (pc := 6) t280_6 ?_
                refine zs_iret (pc := 10) t280_10 mr280 rfl ?_
                show zGo X l 1 0 0 279 64 [(0, .int a), (1, .int b), (2, .int c), (3, .int d), (4, .int e), (5, .int f), (6, .int g), (7, .int h)] [.int w51v] M _
                refine zs_iload (pc := 64) t279_64 rfl ?_
                refine zs_invS (pc := 66) (as := [.int g]) (st := [.int w51v]) t279_66 (by decide) mf280 rfl rfl ⟨by decide, by decide, Nat.le_of_ble_eq_true rfl, Nat.le_of_ble_eq_true rfl⟩ (zs_in (by decide) mf280 (Nat.le_of_ble_eq_true rfl) ?_) (fun _ _ q => q)
                show zGo X l 0 0 0 280 0 [(0, .int g)] [] M _
                refine zs_iload_n (pc := 0) t280_0 rfl ?_
                refine zs_if_geT (pc := 1) t280_1 rfl (by omega) ?_
                refine zs_iload_n (pc := 9) t280_9 rfl ?_
                refine zs_iret (pc := 10) t280_10 mr280 rfl ?_
                show zGo X l 1 0 0 279 69 [(0, .int a), (1, .int b), (2, .int c), (3, .int d), (4, .int e), (5, .int f), (6, .int g), (7, .int h)] [.int g, .int w51v] M _
                by_cases w52 : g.toInt ≤ w51v.toInt
                · refine zs_icmp_geT (pc := 69) t279_69 rfl rfl (by omega) ?_
                  refine zs_iconst (pc := 76) t279_76 (v := 0) (by decide) ?_
                  exact zs_iret (pc := 77) t279_77 mr279 (by decide) (hQ _ (by decide) (by decide))
                · refine zs_icmp_geF (pc := 69) t279_69 rfl rfl (by omega) ?_
                  refine zs_iconst (pc := 72) t279_72 (v := 1) (by decide) ?_
                  refine zs_goto (pc := 73) t279_73 ?_
                  exact zs_iret (pc := 77) t279_77 mr279 (by decide) (hQ _ (by decide) (by decide))
            · refine zs_if_geF (pc := 1) t280_1 rfl (by omega) ?_
              refine zs_iload_n (pc := 4) t280_4 rfl ?_
              obtain ⟨w53v, w53e⟩ : ∃ v, -g = v := ⟨_, rfl⟩
              have w53 := zrg w53v
              refine zs_ineg (pc := 5) t280_5 (c := w53v) w53e ?_
              refine zs_goto (pc := 6) t280_6 ?_
              refine zs_iret (pc := 10) t280_10 mr280 rfl ?_
              show zGo X l 1 0 0 279 57 [(0, .int a), (1, .int b), (2, .int c), (3, .int d), (4, .int e), (5, .int f), (6, .int g), (7, .int h)] [.int w53v, .int w48v] M _
              by_cases w54 : w48v.toInt = w53v.toInt
              · refine zs_icmp_eqT (pc := 57) t279_57 rfl rfl (by omega) ?_
                refine zs_iload_n (pc := 78) t279_78 rfl ?_
                refine zs_iload (pc := 79) t279_79 rfl ?_
                refine zs_icmp_eqF (pc := 81) t279_81 rfl rfl (by omega) ?_
                refine zs_iload_n (pc := 84) t279_84 rfl ?_
                refine zs_iload (pc := 85) t279_85 rfl ?_
                refine zs_icmp_geT (pc := 87) t279_87 rfl rfl (by omega) ?_
                refine zs_iconst (pc := 94) t279_94 (v := 0) (by decide) ?_
                exact zs_iret (pc := 95) t279_95 mr279 (by decide) (hQ _ (by decide) (by decide))
              · refine zs_icmp_eqF (pc := 57) t279_57 rfl rfl (by omega) ?_
                refine zs_iload_n (pc := 60) t279_60 rfl ?_
                refine zs_invS (pc := 61) (as := [.int c]) (st := []) t279_61 (by decide) mf280 rfl rfl ⟨by decide, by decide, Nat.le_of_ble_eq_true rfl, Nat.le_of_ble_eq_true rfl⟩ (zs_in (by decide) mf280 (Nat.le_of_ble_eq_true rfl) ?_) (fun _ _ q => q)
                show zGo X l 0 0 0 280 0 [(0, .int c)] [] M _
                refine zs_iload_n (pc := 0) t280_0 rfl ?_
                refine zs_if_geF (pc := 1) t280_1 rfl (by omega) ?_
                refine zs_iload_n (pc := 4) t280_4 rfl ?_
                obtain ⟨w55v, w55e⟩ : ∃ v, -c = v := ⟨_, rfl⟩
                have w55 := zrg w55v
                refine zs_ineg (pc := 5) t280_5 (c := w55v) w55e ?_
                refine zs_goto (pc := 6) t280_6 ?_
                refine zs_iret (pc := 10) t280_10 mr280 rfl ?_
                show zGo X l 1 0 0 279 64 [(0, .int a), (1, .int b), (2, .int c), (3, .int d), (4, .int e), (5, .int f), (6, .int g), (7, .int h)] [.int w55v] M _
                refine zs_iload (pc := 64) t279_64 rfl ?_
                refine zs_invS (pc := 66) (as := [.int g]) (st := [.int w55v]) t279_66 (by decide) mf280 rfl rfl ⟨by decide, by decide, Nat.le_of_ble_eq_true rfl, Nat.le_of_ble_eq_true rfl⟩ (zs_in (by decide) mf280 (Nat.le_of_ble_eq_true rfl) ?_) (fun _ _ q => q)
                show zGo X l 0 0 0 280 0 [(0, .int g)] [] M _
                refine zs_iload_n (pc := 0) t280_0 rfl ?_
                refine zs_if_geF (pc := 1) t280_1 rfl (by omega) ?_
                refine zs_iload_n (pc := 4) t280_4 rfl ?_
                obtain ⟨w56v, w56e⟩ : ∃ v, -g = v := ⟨_, rfl⟩
                have w56 := zrg w56v
                refine zs_ineg (pc := 5) t280_5 (c := w56v) w56e ?_
                refine zs_goto (pc := 6) t280_6 ?_
                refine zs_iret (pc := 10) t280_10 mr280 rfl ?_
                show zGo X l 1 0 0 279 69 [(0, .int a), (1, .int b), (2, .int c), (3, .int d), (4, .int e), (5, .int f), (6, .int g), (7, .int h)] [.int w56v, .int w55v] M _
                by_cases w57 : w56v.toInt ≤ w55v.toInt
                · refine zs_icmp_geT (pc := 69) t279_69 rfl rfl (by omega) ?_
                  refine zs_iconst (pc := 76) t279_76 (v := 0) (by decide) ?_
                  exact zs_iret (pc := 77) t279_77 mr279 (by decide) (hQ _ (by decide) (by decide))
                · refine zs_icmp_geF (pc := 69) t279_69 rfl rfl (by omega) ?_
                  refine zs_iconst (pc := 72) t279_72 (v := 1) (by decide) ?_
                  refine zs_goto (pc := 73) t279_73 ?_
                  exact zs_iret (pc := 77) t279_77 mr279 (by decide) (hQ _ (by decide) (by decide))
        · refine zs_icmp_eqF (pc := 27) t279_27 rfl rfl (by omega) ?_
          refine zs_iload_n (pc := 30) t279_30 rfl ?_
          refine zs_invS (pc := 31) (as := [.int b]) (st := []) t279_31 (by decide) mf280 rfl rfl ⟨by decide, by decide, Nat.le_of_ble_eq_true rfl, Nat.le_of_ble_eq_true rfl⟩ (zs_in (by decide) mf280 (Nat.le_of_ble_eq_true rfl) ?_) (fun _ _ q => q)
          show zGo X l 0 0 0 280 0 [(0, .int b)] [] M _
          refine zs_iload_n (pc := 0) t280_0 rfl ?_
          refine zs_if_geT (pc := 1) t280_1 rfl (by omega) ?_
          refine zs_iload_n (pc := 9) t280_9 rfl ?_
          refine zs_iret (pc := 10) t280_10 mr280 rfl ?_
          show zGo X l 1 0 0 279 34 [(0, .int a), (1, .int b), (2, .int c), (3, .int d), (4, .int e), (5, .int f), (6, .int g), (7, .int h)] [.int b] M _
          refine zs_iload (pc := 34) t279_34 rfl ?_
          refine zs_invS (pc := 36) (as := [.int f]) (st := [.int b]) t279_36 (by decide) mf280 rfl rfl ⟨by decide, by decide, Nat.le_of_ble_eq_true rfl, Nat.le_of_ble_eq_true rfl⟩ (zs_in (by decide) mf280 (Nat.le_of_ble_eq_true rfl) ?_) (fun _ _ q => q)
          show zGo X l 0 0 0 280 0 [(0, .int f)] [] M _
          refine zs_iload_n (pc := 0) t280_0 rfl ?_
          refine zs_if_geF (pc := 1) t280_1 rfl (by omega) ?_
          refine zs_iload_n (pc := 4) t280_4 rfl ?_
          obtain ⟨w58v, w58e⟩ : ∃ v, -f = v := ⟨_, rfl⟩
          have w58 := zrg w58v
          refine zs_ineg (pc := 5) t280_5 (c := w58v) w58e ?_
          refine zs_goto (pc := 6) t280_6 ?_
          refine zs_iret (pc := 10) t280_10 mr280 rfl ?_
          show zGo X l 1 0 0 279 39 [(0, .int a), (1, .int b), (2, .int c), (3, .int d), (4, .int e), (5, .int f), (6, .int g), (7, .int h)] [.int w58v, .int b] M _
          by_cases w59 : w58v.toInt ≤ b.toInt
          · refine zs_icmp_geT (pc := 39) t279_39 rfl rfl (by omega) ?_
            refine zs_iconst (pc := 46) t279_46 (v := 0) (by decide) ?_
            exact zs_iret (pc := 47) t279_47 mr279 (by decide) (hQ _ (by decide) (by decide))
          · refine zs_icmp_geF (pc := 39) t279_39 rfl rfl (by omega) ?_
            refine zs_iconst (pc := 42) t279_42 (v := 1) (by decide) ?_
            refine zs_goto (pc := 43) t279_43 ?_
            exact zs_iret (pc := 47) t279_47 mr279 (by decide) (hQ _ (by decide) (by decide))
    · refine zs_if_geF (pc := 1) t280_1 rfl (by omega) ?_
      refine zs_iload_n (pc := 4) t280_4 rfl ?_
      obtain ⟨w60v, w60e⟩ : ∃ v, -b = v := ⟨_, rfl⟩
      have w60 := zrg w60v
      refine zs_ineg (pc := 5) t280_5 (c := w60v) w60e ?_
      refine zs_goto (pc := 6) t280_6 ?_
      refine zs_iret (pc := 10) t280_10 mr280 rfl ?_
      show zGo X l 1 0 0 279 22 [(0, .int a), (1, .int b), (2, .int c), (3, .int d), (4, .int e), (5, .int f), (6, .int g), (7, .int h)] [.int w60v] M _
      refine zs_iload (pc := 22) t279_22 rfl ?_
      refine zs_invS (pc := 24) (as := [.int f]) (st := [.int w60v]) t279_24 (by decide) mf280 rfl rfl ⟨by decide, by decide, Nat.le_of_ble_eq_true rfl, Nat.le_of_ble_eq_true rfl⟩ (zs_in (by decide) mf280 (Nat.le_of_ble_eq_true rfl) ?_) (fun _ _ q => q)
      show zGo X l 0 0 0 280 0 [(0, .int f)] [] M _
      refine zs_iload_n (pc := 0) t280_0 rfl ?_
      by_cases w61 : 0 ≤ f.toInt
      · refine zs_if_geT (pc := 1) t280_1 rfl (by omega) ?_
        refine zs_iload_n (pc := 9) t280_9 rfl ?_
        refine zs_iret (pc := 10) t280_10 mr280 rfl ?_
        show zGo X l 1 0 0 279 27 [(0, .int a), (1, .int b), (2, .int c), (3, .int d), (4, .int e), (5, .int f), (6, .int g), (7, .int h)] [.int f, .int w60v] M _
        by_cases w62 : w60v.toInt = f.toInt
        · refine zs_icmp_eqT (pc := 27) t279_27 rfl rfl (by omega) ?_
          refine zs_iload_n (pc := 48) t279_48 rfl ?_
          refine zs_invS (pc := 49) (as := [.int c]) (st := []) t279_49 (by decide) mf280 rfl rfl ⟨by decide, by decide, Nat.le_of_ble_eq_true rfl, Nat.le_of_ble_eq_true rfl⟩ (zs_in (by decide) mf280 (Nat.le_of_ble_eq_true rfl) ?_) (fun _ _ q => q)
          show zGo X l 0 0 0 280 0 [(0, .int c)] [] M _
          refine zs_iload_n (pc := 0) t280_0 rfl ?_
          by_cases w63 : 0 ≤ c.toInt
          · refine zs_if_geT (pc := 1) t280_1 rfl (by omega) ?_
            refine zs_iload_n (pc := 9) t280_9 rfl ?_
            refine zs_iret (pc := 10) t280_10 mr280 rfl ?_
            show zGo X l 1 0 0 279 52 [(0, .int a), (1, .int b), (2, .int c), (3, .int d), (4, .int e), (5, .int f), (6, .int g), (7, .int h)] [.int c] M _
            refine zs_iload (pc := 52) t279_52 rfl ?_
            refine zs_invS (pc := 54) (as := [.int g]) (st := [.int c]) t279_54 (by decide) mf280 rfl rfl ⟨by decide, by decide, Nat.le_of_ble_eq_true rfl, Nat.le_of_ble_eq_true rfl⟩ (zs_in (by decide) mf280 (Nat.le_of_ble_eq_true rfl) ?_) (fun _ _ q => q)
            show zGo X l 0 0 0 280 0 [(0, .int g)] [] M _
            refine zs_iload_n (pc := 0) t280_0 rfl ?_
            by_cases w64 : 0 ≤ g.toInt
            · refine zs_if_geT (pc := 1) t280_1 rfl (by omega) ?_
              refine zs_iload_n (pc := 9) t280_9 rfl ?_
              refine zs_iret (pc := 10) t280_10 mr280 rfl ?_
              show zGo X l 1 0 0 279 57 [(0, .int a), (1, .int b), (2, .int c), (3, .int d), (4, .int e), (5, .int f), (6, .int g), (7, .int h)] [.int g, .int c] M _
              by_cases w65 : c.toInt = g.toInt
              · refine zs_icmp_eqT (pc := 57) t279_57 rfl rfl (by omega) ?_
                refine zs_iload_n (pc := 78) t279_78 rfl ?_
                refine zs_iload (pc := 79) t279_79 rfl ?_
                refine zs_icmp_eqF (pc := 81) t279_81 rfl rfl (by omega) ?_
                refine zs_iload_n (pc := 84) t279_84 rfl ?_
                refine zs_iload (pc := 85) t279_85 rfl ?_
                refine zs_icmp_geF (pc := 87) t279_87 rfl rfl (by omega) ?_
                refine zs_iconst (pc := 90) t279_90 (v := 1) (by decide) ?_
                refine zs_goto (pc := 91) t279_91 ?_
                exact zs_iret (pc := 95) t279_95 mr279 (by decide) (hQ _ (by decide) (by decide))
              · refine zs_icmp_eqF (pc := 57) t279_57 rfl rfl (by omega) ?_
                refine zs_iload_n (pc := 60) t279_60 rfl ?_
                refine zs_invS (pc := 61) (as := [.int c]) (st := []) t279_61 (by decide) mf280 rfl rfl ⟨by decide, by decide, Nat.le_of_ble_eq_true rfl, Nat.le_of_ble_eq_true rfl⟩ (zs_in (by decide) mf280 (Nat.le_of_ble_eq_true rfl) ?_) (fun _ _ q => q)
                show zGo X l 0 0 0 280 0 [(0, .int c)] [] M _
                refine zs_iload_n (pc := 0) t280_0 rfl ?_
                refine zs_if_geT (pc := 1) t280_1 rfl (by omega) ?_
                refine zs_iload_n (pc := 9) t280_9 rfl ?_
                refine zs_iret (pc := 10) t280_10 mr280 rfl ?_
                show zGo X l 1 0 0 279 64 [(0, .int a), (1, .int b), (2, .int c), (3, .int d), (4, .int e), (5, .int f), (6, .int g), (7, .int h)] [.int c] M _
                refine zs_iload (pc := 64) t279_64 rfl ?_
                refine zs_invS (pc := 66) (as := [.int g]) (st := [.int c]) t279_66 (by decide) mf280 rfl rfl ⟨by decide, by decide, Nat.le_of_ble_eq_true rfl, Nat.le_of_ble_eq_true rfl⟩ (zs_in (by decide) mf280 (Nat.le_of_ble_eq_true rfl) ?_) (fun _ _ q => q)
                show zGo X l 0 0 0 280 0 [(0, .int g)] [] M _
                refine zs_iload_n (pc := 0) t280_0 rfl ?_
                refine zs_if_geT (pc := 1) t280_1 rfl (by omega) ?_
                refine zs_iload_n (pc := 9) t280_9 rfl ?_
                refine zs_iret (pc := 10) t280_10 mr280 rfl ?_
                show zGo X l 1 0 0 279 69 [(0, .int a), (1, .int b), (2, .int c), (3, .int d), (4, .int e), (5, .int f), (6, .int g), (7, .int h)] [.int g, .int c] M _
                by_cases w66 : g.toInt ≤ c.toInt
                · refine zs_icmp_geT (pc := 69) t279_69 rfl rfl (by omega) ?_
                  refine zs_iconst (pc := 76) t279_76 (v := 0) (by decide) ?_
                  exact zs_iret (pc := 77) t279_77 mr279 (by decide) (hQ _ (by decide) (by decide))
                · refine zs_icmp_geF (pc := 69) t279_69 rfl rfl (by omega) ?_
                  refine zs_iconst (pc := 72) t279_72 (v := 1) (by decide) ?_
                  refine zs_goto (pc := 73) t279_73 ?_
                  exact zs_iret (pc := 77) t279_77 mr279 (by decide) (hQ _ (by decide) (by decide))
            · refine zs_if_geF (pc := 1) t280_1 rfl (by omega) ?_
              refine zs_iload_n (pc := 4) t280_4 rfl ?_
              obtain ⟨w67v, w67e⟩ : ∃ v, -g = v := ⟨_, rfl⟩
              have w67 := zrg w67v
              refine zs_ineg (pc := 5) t280_5 (c := w67v) w67e ?_
              refine zs_goto (pc := 6) t280_6 ?_
              refine zs_iret (pc := 10) t280_10 mr280 rfl ?_
              show zGo X l 1 0 0 279 57 [(0, .int a), (1, .int b), (2, .int c), (3, .int d), (4, .int e), (5, .int f), (6, .int g), (7, .int h)] [.int w67v, .int c] M _
              by_cases w68 : c.toInt = w67v.toInt
              · refine zs_icmp_eqT (pc := 57) t279_57 rfl rfl (by omega) ?_
                refine zs_iload_n (pc := 78) t279_78 rfl ?_
                refine zs_iload (pc := 79) t279_79 rfl ?_
                refine zs_icmp_eqF (pc := 81) t279_81 rfl rfl (by omega) ?_
                refine zs_iload_n (pc := 84) t279_84 rfl ?_
                refine zs_iload (pc := 85) t279_85 rfl ?_
                refine zs_icmp_geF (pc := 87) t279_87 rfl rfl (by omega) ?_
                refine zs_iconst (pc := 90) t279_90 (v := 1) (by decide) ?_
                refine zs_goto (pc := 91) t279_91 ?_
                exact zs_iret (pc := 95) t279_95 mr279 (by decide) (hQ _ (by decide) (by decide))
              · refine zs_icmp_eqF (pc := 57) t279_57 rfl rfl (by omega) ?_
                refine zs_iload_n (pc := 60) t279_60 rfl ?_
                refine zs_invS (pc := 61) (as := [.int c]) (st := []) t279_61 (by decide) mf280 rfl rfl ⟨by decide, by decide, Nat.le_of_ble_eq_true rfl, Nat.le_of_ble_eq_true rfl⟩ (zs_in (by decide) mf280 (Nat.le_of_ble_eq_true rfl) ?_) (fun _ _ q => q)
                show zGo X l 0 0 0 280 0 [(0, .int c)] [] M _
                refine zs_iload_n (pc := 0) t280_0 rfl ?_
                refine zs_if_geT (pc := 1) t280_1 rfl (by omega) ?_
                refine zs_iload_n (pc := 9) t280_9 rfl ?_
                refine zs_iret (pc := 10) t280_10 mr280 rfl ?_
                show zGo X l 1 0 0 279 64 [(0, .int a), (1, .int b), (2, .int c), (3, .int d), (4, .int e), (5, .int f), (6, .int g), (7, .int h)] [.int c] M _
                refine zs_iload (pc := 64) t279_64 rfl ?_
                refine zs_invS (pc := 66) (as := [.int g]) (st := [.int c]) t279_66 (by decide) mf280 rfl rfl ⟨by decide, by decide, Nat.le_of_ble_eq_true rfl, Nat.le_of_ble_eq_true rfl⟩ (zs_in (by decide) mf280 (Nat.le_of_ble_eq_true rfl) ?_) (fun _ _ q => q)
                show zGo X l 0 0 0 280 0 [(0, .int g)] [] M _
                refine zs_iload_n (pc := 0) t280_0 rfl ?_
                refine zs_if_geF (pc := 1) t280_1 rfl (by omega) ?_
                refine zs_iload_n (pc := 4) t280_4 rfl ?_
                obtain ⟨w69v, w69e⟩ : ∃ v, -g = v := ⟨_, rfl⟩
                have w69 := zrg w69v
                refine zs_ineg (pc := 5) t280_5 (c := w69v) w69e ?_
                refine zs_goto (pc := 6) t280_6 ?_
                refine zs_iret (pc := 10) t280_10 mr280 rfl ?_
                show zGo X l 1 0 0 279 69 [(0, .int a), (1, .int b), (2, .int c), (3, .int d), (4, .int e), (5, .int f), (6, .int g), (7, .int h)] [.int w69v, .int c] M _
                by_cases w70 : w69v.toInt ≤ c.toInt
                · refine zs_icmp_geT (pc := 69) t279_69 rfl rfl (by omega) ?_
                  refine zs_iconst (pc := 76) t279_76 (v := 0) (by decide) ?_
                  exact zs_iret (pc := 77) t279_77 mr279 (by decide) (hQ _ (by decide) (by decide))
                · refine zs_icmp_geF (pc := 69) t279_69 rfl rfl (by omega) ?_
                  refine zs_iconst (pc := 72) t279_72 (v := 1) (by decide) ?_
                  refine zs_goto (pc := 73) t279_73 ?_
                  exact zs_iret (pc := 77) t279_77 mr279 (by decide) (hQ _ (by decide) (by decide))
          · refine zs_if_geF (pc := 1) t280_1 rfl (by omega) ?_
            refine zs_iload_n (pc := 4) t280_4 rfl ?_
            obtain ⟨w71v, w71e⟩ : ∃ v, -c = v := ⟨_, rfl⟩
            have w71 := zrg w71v
            refine zs_ineg (pc := 5) t280_5 (c := w71v) w71e ?_
            refine zs_goto (pc := 6) t280_6 ?_
            refine zs_iret (pc := 10) t280_10 mr280 rfl ?_
            show zGo X l 1 0 0 279 52 [(0, .int a), (1, .int b), (2, .int c), (3, .int d), (4, .int e), (5, .int f), (6, .int g), (7, .int h)] [.int w71v] M _
            refine zs_iload (pc := 52) t279_52 rfl ?_
            refine zs_invS (pc := 54) (as := [.int g]) (st := [.int w71v]) t279_54 (by decide) mf280 rfl rfl ⟨by decide, by decide, Nat.le_of_ble_eq_true rfl, Nat.le_of_ble_eq_true rfl⟩ (zs_in (by decide) mf280 (Nat.le_of_ble_eq_true rfl) ?_) (fun _ _ q => q)
            show zGo X l 0 0 0 280 0 [(0, .int g)] [] M _
            refine zs_iload_n (pc := 0) t280_0 rfl ?_
            by_cases w72 : 0 ≤ g.toInt
            · refine zs_if_geT (pc := 1) t280_1 rfl (by omega) ?_
              refine zs_iload_n (pc := 9) t280_9 rfl ?_
              refine zs_iret (pc := 10) t280_10 mr280 rfl ?_
              show zGo X l 1 0 0 279 57 [(0, .int a), (1, .int b), (2, .int c), (3, .int d), (4, .int e), (5, .int f), (6, .int g), (7, .int h)] [.int g, .int w71v] M _
              by_cases w73 : w71v.toInt = g.toInt
              · refine zs_icmp_eqT (pc := 57) t279_57 rfl rfl (by omega) ?_
                refine zs_iload_n (pc := 78) t279_78 rfl ?_
                refine zs_iload (pc := 79) t279_79 rfl ?_
                refine zs_icmp_eqF (pc := 81) t279_81 rfl rfl (by omega) ?_
                refine zs_iload_n (pc := 84) t279_84 rfl ?_
                refine zs_iload (pc := 85) t279_85 rfl ?_
                refine zs_icmp_geF (pc := 87) t279_87 rfl rfl (by omega) ?_
                refine zs_iconst (pc := 90) t279_90 (v := 1) (by decide) ?_
                refine zs_goto (pc := 91) t279_91 ?_
                exact zs_iret (pc := 95) t279_95 mr279 (by decide) (hQ _ (by decide) (by decide))
              · refine zs_icmp_eqF (pc := 57) t279_57 rfl rfl (by omega) ?_
                refine zs_iload_n (pc := 60) t279_60 rfl ?_
                refine zs_invS (pc := 61) (as := [.int c]) (st := []) t279_61 (by decide) mf280 rfl rfl ⟨by decide, by decide, Nat.le_of_ble_eq_true rfl, Nat.le_of_ble_eq_true rfl⟩ (zs_in (by decide) mf280 (Nat.le_of_ble_eq_true rfl) ?_) (fun _ _ q => q)
                show zGo X l 0 0 0 280 0 [(0, .int c)] [] M _
                refine zs_iload_n (pc := 0) t280_0 rfl ?_
                refine zs_if_geF (pc := 1) t280_1 rfl (by omega) ?_
                refine zs_iload_n (pc := 4) t280_4 rfl ?_
                obtain ⟨w74v, w74e⟩ : ∃ v, -c = v := ⟨_, rfl⟩
                have w74 := zrg w74v
                refine zs_ineg (pc := 5) t280_5 (c := w74v) w74e ?_
                refine zs_goto (pc := 6) t280_6 ?_
                refine zs_iret (pc := 10) t280_10 mr280 rfl ?_
                show zGo X l 1 0 0 279 64 [(0, .int a), (1, .int b), (2, .int c), (3, .int d), (4, .int e), (5, .int f), (6, .int g), (7, .int h)] [.int w74v] M _
                refine zs_iload (pc := 64) t279_64 rfl ?_
                refine zs_invS (pc := 66) (as := [.int g]) (st := [.int w74v]) t279_66 (by decide) mf280 rfl rfl ⟨by decide, by decide, Nat.le_of_ble_eq_true rfl, Nat.le_of_ble_eq_true rfl⟩ (zs_in (by decide) mf280 (Nat.le_of_ble_eq_true rfl) ?_) (fun _ _ q => q)
                show zGo X l 0 0 0 280 0 [(0, .int g)] [] M _
                refine zs_iload_n (pc := 0) t280_0 rfl ?_
                refine zs_if_geT (pc := 1) t280_1 rfl (by omega) ?_
                refine zs_iload_n (pc := 9) t280_9 rfl ?_
                refine zs_iret (pc := 10) t280_10 mr280 rfl ?_
                show zGo X l 1 0 0 279 69 [(0, .int a), (1, .int b), (2, .int c), (3, .int d), (4, .int e), (5, .int f), (6, .int g), (7, .int h)] [.int g, .int w74v] M _
                by_cases w75 : g.toInt ≤ w74v.toInt
                · refine zs_icmp_geT (pc := 69) t279_69 rfl rfl (by omega) ?_
                  refine zs_iconst (pc := 76) t279_76 (v := 0) (by decide) ?_
                  exact zs_iret (pc := 77) t279_77 mr279 (by decide) (hQ _ (by decide) (by decide))
                · refine zs_icmp_geF (pc := 69) t279_69 rfl rfl (by omega) ?_
                  refine zs_iconst (pc := 72) t279_72 (v := 1) (by decide) ?_
                  refine zs_goto (pc := 73) t279_73 ?_
                  exact zs_iret (pc := 77) t279_77 mr279 (by decide) (hQ _ (by decide) (by decide))
            · refine zs_if_geF (pc := 1) t280_1 rfl (by omega) ?_
              refine zs_iload_n (pc := 4) t280_4 rfl ?_
              obtain ⟨w76v, w76e⟩ : ∃ v, -g = v := ⟨_, rfl⟩
              have w76 := zrg w76v
              refine zs_ineg (pc := 5) t280_5 (c := w76v) w76e ?_
              refine zs_goto (pc := 6) t280_6 ?_
              refine zs_iret (pc := 10) t280_10 mr280 rfl ?_
              show zGo X l 1 0 0 279 57 [(0, .int a), (1, .int b), (2, .int c), (3, .int d), (4, .int e), (5, .int f), (6, .int g), (7, .int h)] [.int w76v, .int w71v] M _
              by_cases w77 : w71v.toInt = w76v.toInt
              · refine zs_icmp_eqT (pc := 57) t279_57 rfl rfl (by omega) ?_
                refine zs_iload_n (pc := 78) t279_78 rfl ?_
                refine zs_iload (pc := 79) t279_79 rfl ?_
                refine zs_icmp_eqF (pc := 81) t279_81 rfl rfl (by omega) ?_
                refine zs_iload_n (pc := 84) t279_84 rfl ?_
                refine zs_iload (pc := 85) t279_85 rfl ?_
                refine zs_icmp_geF (pc := 87) t279_87 rfl rfl (by omega) ?_
                refine zs_iconst (pc := 90) t279_90 (v := 1) (by decide) ?_
                refine zs_goto (pc := 91) t279_91 ?_
                exact zs_iret (pc := 95) t279_95 mr279 (by decide) (hQ _ (by decide) (by decide))
              · refine zs_icmp_eqF (pc := 57) t279_57 rfl rfl (by omega) ?_
                refine zs_iload_n (pc := 60) t279_60 rfl ?_
                refine zs_invS (pc := 61) (as := [.int c]) (st := []) t279_61 (by decide) mf280 rfl rfl ⟨by decide, by decide, Nat.le_of_ble_eq_true rfl, Nat.le_of_ble_eq_true rfl⟩ (zs_in (by decide) mf280 (Nat.le_of_ble_eq_true rfl) ?_) (fun _ _ q => q)
                show zGo X l 0 0 0 280 0 [(0, .int c)] [] M _
                refine zs_iload_n (pc := 0) t280_0 rfl ?_
                refine zs_if_geF (pc := 1) t280_1 rfl (by omega) ?_
                refine zs_iload_n (pc := 4) t280_4 rfl ?_
                obtain ⟨w78v, w78e⟩ : ∃ v, -c = v := ⟨_, rfl⟩
                have w78 := zrg w78v
                refine zs_ineg (pc := 5) t280_5 (c := w78v) w78e ?_
                refine zs_goto (pc := 6) t280_6 ?_
                refine zs_iret (pc := 10) t280_10 mr280 rfl ?_
                show zGo X l 1 0 0 279 64 [(0, .int a), (1, .int b), (2, .int c), (3, .int d), (4, .int e), (5, .int f), (6, .int g), (7, .int h)] [.int w78v] M _
                refine zs_iload (pc := 64) t279_64 rfl ?_
                refine zs_invS (pc := 66) (as := [.int g]) (st := [.int w78v]) t279_66 (by decide) mf280 rfl rfl ⟨by decide, by decide, Nat.le_of_ble_eq_true rfl, Nat.le_of_ble_eq_true rfl⟩ (zs_in (by decide) mf280 (Nat.le_of_ble_eq_true rfl) ?_) (fun _ _ q => q)
                show zGo X l 0 0 0 280 0 [(0, .int g)] [] M _
                refine zs_iload_n (pc := 0) t280_0 rfl ?_
                refine zs_if_geF (pc := 1) t280_1 rfl (by omega) ?_
                refine zs_iload_n (pc := 4) t280_4 rfl ?_
                obtain ⟨w79v, w79e⟩ : ∃ v, -g = v := ⟨_, rfl⟩
                have w79 := zrg w79v
                refine zs_ineg (pc := 5) t280_5 (c := w79v) w79e ?_
                refine zs_goto (pc := 6) t280_6 ?_
                refine zs_iret (pc := 10) t280_10 mr280 rfl ?_
                show zGo X l 1 0 0 279 69 [(0, .int a), (1, .int b), (2, .int c), (3, .int d), (4, .int e), (5, .int f), (6, .int g), (7, .int h)] [.int w79v, .int w78v] M _
                by_cases w80 : w79v.toInt ≤ w78v.toInt
                · refine zs_icmp_geT (pc := 69) t279_69 rfl rfl (by omega) ?_
                  refine zs_iconst (pc := 76) t279_76 (v := 0) (by decide) ?_
                  exact zs_iret (pc := 77) t279_77 mr279 (by decide) (hQ _ (by decide) (by decide))
                · refine zs_icmp_geF (pc := 69) t279_69 rfl rfl (by omega) ?_
                  refine zs_iconst (pc := 72) t279_72 (v := 1) (by decide) ?_
                  refine zs_goto (pc := 73) t279_73 ?_
                  exact zs_iret (pc := 77) t279_77 mr279 (by decide) (hQ _ (by decide) (by decide))
        · refine zs_icmp_eqF (pc := 27) t279_27 rfl rfl (by omega) ?_
          refine zs_iload_n (pc := 30) t279_30 rfl ?_
          refine zs_invS (pc := 31) (as := [.int b]) (st := []) t279_31 (by decide) mf280 rfl rfl ⟨by decide, by decide, Nat.le_of_ble_eq_true rfl, Nat.le_of_ble_eq_true rfl⟩ (zs_in (by decide) mf280 (Nat.le_of_ble_eq_true rfl) ?_) (fun _ _ q => q)
          show zGo X l 0 0 0 280 0 [(0, .int b)] [] M _
          refine zs_iload_n (pc := 0) t280_0 rfl ?_
          refine zs_if_geF (pc := 1) t280_1 rfl (by omega) ?_
          refine zs_iload_n (pc := 4) t280_4 rfl ?_
          obtain ⟨w81v, w81e⟩ : ∃ v, -b = v := ⟨_, rfl⟩
          have w81 := zrg w81v
          refine zs_ineg (pc := 5) t280_5 (c := w81v) w81e ?_
          refine zs_goto (pc := 6) t280_6 ?_
          refine zs_iret (pc := 10) t280_10 mr280 rfl ?_
          show zGo X l 1 0 0 279 34 [(0, .int a), (1, .int b), (2, .int c), (3, .int d), (4, .int e), (5, .int f), (6, .int g), (7, .int h)] [.int w81v] M _
          refine zs_iload (pc := 34) t279_34 rfl ?_
          refine zs_invS (pc := 36) (as := [.int f]) (st := [.int w81v]) t279_36 (by decide) mf280 rfl rfl ⟨by decide, by decide, Nat.le_of_ble_eq_true rfl, Nat.le_of_ble_eq_true rfl⟩ (zs_in (by decide) mf280 (Nat.le_of_ble_eq_true rfl) ?_) (fun _ _ q => q)
          show zGo X l 0 0 0 280 0 [(0, .int f)] [] M _
          refine zs_iload_n (pc := 0) t280_0 rfl ?_
          refine zs_if_geT (pc := 1) t280_1 rfl (by omega) ?_
          refine zs_iload_n (pc := 9) t280_9 rfl ?_
          refine zs_iret (pc := 10) t280_10 mr280 rfl ?_
          show zGo X l 1 0 0 279 39 [(0, .int a), (1, .int b), (2, .int c), (3, .int d), (4, .int e), (5, .int f), (6, .int g), (7, .int h)] [.int f, .int w81v] M _
          by_cases w82 : f.toInt ≤ w81v.toInt
          · refine zs_icmp_geT (pc := 39) t279_39 rfl rfl (by omega) ?_
            refine zs_iconst (pc := 46) t279_46 (v := 0) (by decide) ?_
            exact zs_iret (pc := 47) t279_47 mr279 (by decide) (hQ _ (by decide) (by decide))
          · refine zs_icmp_geF (pc := 39) t279_39 rfl rfl (by omega) ?_
            refine zs_iconst (pc := 42) t279_42 (v := 1) (by decide) ?_
            refine zs_goto (pc := 43) t279_43 ?_
            exact zs_iret (pc := 47) t279_47 mr279 (by decide) (hQ _ (by decide) (by decide))
      · refine zs_if_geF (pc := 1) t280_1 rfl (by omega) ?_
        refine zs_iload_n (pc := 4) t280_4 rfl ?_
        obtain ⟨w83v, w83e⟩ : ∃ v, -f = v := ⟨_, rfl⟩
        have w83 := zrg w83v
        refine zs_ineg (pc := 5) t280_5 (c := w83v) w83e ?_
        refine zs_goto (pc := 6) t280_6 ?_
        refine zs_iret (pc := 10) t280_10 mr280 rfl ?_
        show zGo X l 1 0 0 279 27 [(0, .int a), (1, .int b), (2, .int c), (3, .int d), (4, .int e), (5, .int f), (6, .int g), (7, .int h)] [.int w83v, .int w60v] M _
        by_cases w84 : w60v.toInt = w83v.toInt
        · refine zs_icmp_eqT (pc := 27) t279_27 rfl rfl (by omega) ?_
          refine zs_iload_n (pc := 48) t279_48 rfl ?_
          refine zs_invS (pc := 49) (as := [.int c]) (st := []) t279_49 (by decide) mf280 rfl rfl ⟨by decide, by decide, Nat.le_of_ble_eq_true rfl, Nat.le_of_ble_eq_true rfl⟩ (zs_in (by decide) mf280 (Nat.le_of_ble_eq_true rfl) ?_) (fun _ _ q => q)
          show zGo X l 0 0 0 280 0 [(0, .int c)] [] M _
          refine zs_iload_n (pc := 0) t280_0 rfl ?_
          by_cases w85 : 0 ≤ c.toInt
          · refine zs_if_geT (pc := 1) t280_1 rfl (by omega) ?_
            refine zs_iload_n (pc := 9) t280_9 rfl ?_
            refine zs_iret (pc := 10) t280_10 mr280 rfl ?_
            show zGo X l 1 0 0 279 52 [(0, .int a), (1, .int b), (2, .int c), (3, .int d), (4, .int e), (5, .int f), (6, .int g), (7, .int h)] [.int c] M _
            refine zs_iload (pc := 52) t279_52 rfl ?_
            refine zs_invS (pc := 54) (as := [.int g]) (st := [.int c]) t279_54 (by decide) mf280 rfl rfl ⟨by decide, by decide, Nat.le_of_ble_eq_true rfl, Nat.le_of_ble_eq_true rfl⟩ (zs_in (by decide) mf280 (Nat.le_of_ble_eq_true rfl) ?_) (fun _ _ q => q)
            show zGo X l 0 0 0 280 0 [(0, .int g)] [] M _
            refine zs_iload_n (pc := 0) t280_0 rfl ?_
            by_cases w86 : 0 ≤ g.toInt
            · refine zs_if_geT (pc := 1) t280_1 rfl (by omega) ?_
              refine zs_iload_n (pc := 9) t280_9 rfl ?_
              refine zs_iret (pc := 10) t280_10 mr280 rfl ?_
              show zGo X l 1 0 0 279 57 [(0, .int a), (1, .int b), (2, .int c), (3, .int d), (4, .int e), (5, .int f), (6, .int g), (7, .int h)] [.int g, .int c] M _
              by_cases w87 : c.toInt = g.toInt
              · refine zs_icmp_eqT (pc := 57) t279_57 rfl rfl (by omega) ?_
                refine zs_iload_n (pc := 78) t279_78 rfl ?_
                refine zs_iload (pc := 79) t279_79 rfl ?_
                by_cases w88 : b.toInt = f.toInt
                · refine zs_icmp_eqT (pc := 81) t279_81 rfl rfl (by omega) ?_
                  refine zs_iload_n (pc := 96) t279_96 rfl ?_
                  refine zs_iload (pc := 97) t279_97 rfl ?_
                  by_cases w89 : c.toInt = g.toInt
                  · refine zs_icmp_eqT (pc := 99) t279_99 rfl rfl (by omega) ?_
                    refine zs_iload_n (pc := 116) t279_116 rfl ?_
                    refine zs_iload (pc := 117) t279_117 rfl ?_
                    by_cases w90 : h.toInt ≤ d.toInt
                    · refine zs_icmp_geT (pc := 119) t279_119 rfl rfl (by omega) ?_
                      refine zs_iconst (pc := 126) t279_126 (v := 0) (by decide) ?_
                      exact zs_iret (pc := 127) t279_127 mr279 (by decide) (hQ _ (by decide) (by decide))
                    · refine zs_icmp_geF (pc := 119) t279_119 rfl rfl (by omega) ?_
                      refine zs_iconst (pc := 122) t279_122 (v := 1) (by decide) ?_
                      refine zs_goto (pc := 123) t279_123 ?_
                      exact zs_iret (pc := 127) t279_127 mr279 (by decide) (hQ _ (by decide) (by decide))
                  · refine zs_icmp_eqF (pc := 99) t279_99 rfl rfl (by omega) ?_
                    refine zs_iload_n (pc := 102) t279_102 rfl ?_
                    refine zs_iload (pc := 103) t279_103 rfl ?_
                    by_cases w91 : g.toInt ≤ c.toInt
                    · refine zs_icmp_geT (pc := 105) t279_105 rfl rfl (by omega) ?_
                      refine zs_iconst (pc := 112) t279_112 (v := 0) (by decide) ?_
                      refine zs_goto (pc := 113) t279_113 ?_
                      exact zs_iret (pc := 127) t279_127 mr279 (by decide) (hQ _ (by decide) (by decide))
                    · refine zs_icmp_geF (pc := 105) t279_105 rfl rfl (by omega) ?_
                      refine zs_iconst (pc := 108) t279_108 (v := 1) (by decide) ?_
                      refine zs_goto (pc := 109) t279_109 ?_
                      exact zs_iret (pc := 127) t279_127 mr279 (by decide) (hQ _ (by decide) (by decide))
                · refine zs_icmp_eqF (pc := 81) t279_81 rfl rfl (by omega) ?_
                  refine zs_iload_n (pc := 84) t279_84 rfl ?_
                  refine zs_iload (pc := 85) t279_85 rfl ?_
                  by_cases w92 : f.toInt ≤ b.toInt
                  · refine zs_icmp_geT (pc := 87) t279_87 rfl rfl (by omega) ?_
                    refine zs_iconst (pc := 94) t279_94 (v := 0) (by decide) ?_
                    exact zs_iret (pc := 95) t279_95 mr279 (by decide) (hQ _ (by decide) (by decide))
                  · refine zs_icmp_geF (pc := 87) t279_87 rfl rfl (by omega) ?_
                    refine zs_iconst (pc := 90) t279_90 (v := 1) (by decide) ?_
                    refine zs_goto (pc := 91) t279_91 ?_
                    exact zs_iret (pc := 95) t279_95 mr279 (by decide) (hQ _ (by decide) (by decide))
              · refine zs_icmp_eqF (pc := 57) t279_57 rfl rfl (by omega) ?_
                refine zs_iload_n (pc := 60) t279_60 rfl ?_
                refine zs_invS (pc := 61) (as := [.int c]) (st := []) t279_61 (by decide) mf280 rfl rfl ⟨by decide, by decide, Nat.le_of_ble_eq_true rfl, Nat.le_of_ble_eq_true rfl⟩ (zs_in (by decide) mf280 (Nat.le_of_ble_eq_true rfl) ?_) (fun _ _ q => q)
                show zGo X l 0 0 0 280 0 [(0, .int c)] [] M _
                refine zs_iload_n (pc := 0) t280_0 rfl ?_
                refine zs_if_geT (pc := 1) t280_1 rfl (by omega) ?_
                refine zs_iload_n (pc := 9) t280_9 rfl ?_
                refine zs_iret (pc := 10) t280_10 mr280 rfl ?_
                show zGo X l 1 0 0 279 64 [(0, .int a), (1, .int b), (2, .int c), (3, .int d), (4, .int e), (5, .int f), (6, .int g), (7, .int h)] [.int c] M _
                refine zs_iload (pc := 64) t279_64 rfl ?_
                refine zs_invS (pc := 66) (as := [.int g]) (st := [.int c]) t279_66 (by decide) mf280 rfl rfl ⟨by decide, by decide, Nat.le_of_ble_eq_true rfl, Nat.le_of_ble_eq_true rfl⟩ (zs_in (by decide) mf280 (Nat.le_of_ble_eq_true rfl) ?_) (fun _ _ q => q)
                show zGo X l 0 0 0 280 0 [(0, .int g)] [] M _
                refine zs_iload_n (pc := 0) t280_0 rfl ?_
                refine zs_if_geT (pc := 1) t280_1 rfl (by omega) ?_
                refine zs_iload_n (pc := 9) t280_9 rfl ?_
                refine zs_iret (pc := 10) t280_10 mr280 rfl ?_
                show zGo X l 1 0 0 279 69 [(0, .int a), (1, .int b), (2, .int c), (3, .int d), (4, .int e), (5, .int f), (6, .int g), (7, .int h)] [.int g, .int c] M _
                by_cases w93 : g.toInt ≤ c.toInt
                · refine zs_icmp_geT (pc := 69) t279_69 rfl rfl (by omega) ?_
                  refine zs_iconst (pc := 76) t279_76 (v := 0) (by decide) ?_
                  exact zs_iret (pc := 77) t279_77 mr279 (by decide) (hQ _ (by decide) (by decide))
                · refine zs_icmp_geF (pc := 69) t279_69 rfl rfl (by omega) ?_
                  refine zs_iconst (pc := 72) t279_72 (v := 1) (by decide) ?_
                  refine zs_goto (pc := 73) t279_73 ?_
                  exact zs_iret (pc := 77) t279_77 mr279 (by decide) (hQ _ (by decide) (by decide))
            · refine zs_if_geF (pc := 1) t280_1 rfl (by omega) ?_
              refine zs_iload_n (pc := 4) t280_4 rfl ?_
              obtain ⟨w94v, w94e⟩ : ∃ v, -g = v := ⟨_, rfl⟩
              have w94 := zrg w94v
              refine zs_ineg (pc := 5) t280_5 (c := w94v) w94e ?_
              refine zs_goto (pc := 6) t280_6 ?_
              refine zs_iret (pc := 10) t280_10 mr280 rfl ?_
              show zGo X l 1 0 0 279 57 [(0, .int a), (1, .int b), (2, .int c), (3, .int d), (4, .int e), (5, .int f), (6, .int g), (7, .int h)] [.int w94v, .int c] M _
              by_cases w95 : c.toInt = w94v.toInt
              · refine zs_icmp_eqT (pc := 57) t279_57 rfl rfl (by omega) ?_
                refine zs_iload_n (pc := 78) t279_78 rfl ?_
                refine zs_iload (pc := 79) t279_79 rfl ?_
                by_cases w96 : b.toInt = f.toInt
                · refine zs_icmp_eqT (pc := 81) t279_81 rfl rfl (by omega) ?_
                  refine zs_iload_n (pc := 96) t279_96 rfl ?_
                  refine zs_iload (pc := 97) t279_97 rfl ?_
                  refine zs_icmp_eqF (pc := 99) t279_99 rfl rfl (by omega) ?_
                  refine zs_iload_n (pc := 102) t279_102 rfl ?_
                  refine zs_iload (pc := 103) t279_103 rfl ?_
                  refine zs_icmp_geT (pc := 105) t279_105 rfl rfl (by omega) ?_
                  refine zs_iconst (pc := 112) t279_112 (v := 0) (by decide) ?_
                  refine zs_goto (pc := 113) t279_113 ?_
                  exact zs_iret (pc := 127) t279_127 mr279 (by decide) (hQ _ (by decide) (by decide))
                · refine zs_icmp_eqF (pc := 81) t279_81 rfl rfl (by omega) ?_
                  refine zs_iload_n (pc := 84) t279_84 rfl ?_
                  refine zs_iload (pc := 85) t279_85 rfl ?_
                  by_cases w97 : f.toInt ≤ b.toInt
                  · refine zs_icmp_geT (pc := 87) t279_87 rfl rfl (by omega) ?_
                    refine zs_iconst (pc := 94) t279_94 (v := 0) (by decide) ?_
                    exact zs_iret (pc := 95) t279_95 mr279 (by decide) (hQ _ (by decide) (by decide))
                  · refine zs_icmp_geF (pc := 87) t279_87 rfl rfl (by omega) ?_
                    refine zs_iconst (pc := 90) t279_90 (v := 1) (by decide) ?_
                    refine zs_goto (pc := 91) t279_91 ?_
                    exact zs_iret (pc := 95) t279_95 mr279 (by decide) (hQ _ (by decide) (by decide))
              · refine zs_icmp_eqF (pc := 57) t279_57 rfl rfl (by omega) ?_
                refine zs_iload_n (pc := 60) t279_60 rfl ?_
                refine zs_invS (pc := 61) (as := [.int c]) (st := []) t279_61 (by decide) mf280 rfl rfl ⟨by decide, by decide, Nat.le_of_ble_eq_true rfl, Nat.le_of_ble_eq_true rfl⟩ (zs_in (by decide) mf280 (Nat.le_of_ble_eq_true rfl) ?_) (fun _ _ q => q)
                show zGo X l 0 0 0 280 0 [(0, .int c)] [] M _
                refine zs_iload_n (pc := 0) t280_0 rfl ?_
                refine zs_if_geT (pc := 1) t280_1 rfl (by omega) ?_
                refine zs_iload_n (pc := 9) t280_9 rfl ?_
                refine zs_iret (pc := 10) t280_10 mr280 rfl ?_
                show zGo X l 1 0 0 279 64 [(0, .int a), (1, .int b), (2, .int c), (3, .int d), (4, .int e), (5, .int f), (6, .int g), (7, .int h)] [.int c] M _
                refine zs_iload (pc := 64) t279_64 rfl ?_
                refine zs_invS (pc := 66) (as := [.int g]) (st := [.int c]) t279_66 (by decide) mf280 rfl rfl ⟨by decide, by decide, Nat.le_of_ble_eq_true rfl, Nat.le_of_ble_eq_true rfl⟩ (zs_in (by decide) mf280 (Nat.le_of_ble_eq_true rfl) ?_) (fun _ _ q => q)
                show zGo X l 0 0 0 280 0 [(0, .int g)] [] M _
                refine zs_iload_n (pc := 0) t280_0 rfl ?_
                refine zs_if_geF (pc := 1) t280_1 rfl (by omega) ?_
                refine zs_iload_n (pc := 4) t280_4 rfl ?_
                obtain ⟨w98v, w98e⟩ : ∃ v, -g = v := ⟨_, rfl⟩
                have w98 := zrg w98v
                refine zs_ineg (pc := 5) t280_5 (c := w98v) w98e ?_
                refine zs_goto (pc := 6) t280_6 ?_
                refine zs_iret (pc := 10) t280_10 mr280 rfl ?_
                show zGo X l 1 0 0 279 69 [(0, .int a), (1, .int b), (2, .int c), (3, .int d), (4, .int e), (5, .int f), (6, .int g), (7, .int h)] [.int w98v, .int c] M _
                by_cases w99 : w98v.toInt ≤ c.toInt
                · refine zs_icmp_geT (pc := 69) t279_69 rfl rfl (by omega) ?_
                  refine zs_iconst (pc := 76) t279_76 (v := 0) (by decide) ?_
                  exact zs_iret (pc := 77) t279_77 mr279 (by decide) (hQ _ (by decide) (by decide))
                · refine zs_icmp_geF (pc := 69) t279_69 rfl rfl (by omega) ?_
                  refine zs_iconst (pc := 72) t279_72 (v := 1) (by decide) ?_
                  refine zs_goto (pc := 73) t279_73 ?_
                  exact zs_iret (pc := 77) t279_77 mr279 (by decide) (hQ _ (by decide) (by decide))
          · refine zs_if_geF (pc := 1) t280_1 rfl (by omega) ?_
            refine zs_iload_n (pc := 4) t280_4 rfl ?_
            obtain ⟨w100v, w100e⟩ : ∃ v, -c = v := ⟨_, rfl⟩
            have w100 := zrg w100v
            refine zs_ineg (pc := 5) t280_5 (c := w100v) w100e ?_
            refine zs_goto (pc := 6) t280_6 ?_
            refine zs_iret (pc := 10) t280_10 mr280 rfl ?_
            show zGo X l 1 0 0 279 52 [(0, .int a), (1, .int b), (2, .int c), (3, .int d), (4, .int e), (5, .int f), (6, .int g), (7, .int h)] [.int w100v] M _
            refine zs_iload (pc := 52) t279_52 rfl ?_
            refine zs_invS (pc := 54) (as := [.int g]) (st := [.int w100v]) t279_54 (by decide) mf280 rfl rfl ⟨by decide, by decide, Nat.le_of_ble_eq_true rfl, Nat.le_of_ble_eq_true rfl⟩ (zs_in (by decide) mf280 (Nat.le_of_ble_eq_true rfl) ?_) (fun _ _ q => q)
            show zGo X l 0 0 0 280 0 [(0, .int g)] [] M _
            refine zs_iload_n (pc := 0) t280_0 rfl ?_
            by_cases w101 : 0 ≤ g.toInt
            · refine zs_if_geT (pc := 1) t280_1 rfl (by omega) ?_
              refine zs_iload_n (pc := 9) t280_9 rfl ?_
              refine zs_iret (pc := 10) t280_10 mr280 rfl ?_
              show zGo X l 1 0 0 279 57 [(0, .int a), (1, .int b), (2, .int c), (3, .int d), (4, .int e), (5, .int f), (6, .int g), (7, .int h)] [.int g, .int w100v] M _
              by_cases w102 : w100v.toInt = g.toInt
              · refine zs_icmp_eqT (pc := 57) t279_57 rfl rfl (by omega) ?_
                refine zs_iload_n (pc := 78) t279_78 rfl ?_
                refine zs_iload (pc := 79) t279_79 rfl ?_
                by_cases w103 : b.toInt = f.toInt
                · refine zs_icmp_eqT (pc := 81) t279_81 rfl rfl (by omega) ?_
                  refine zs_iload_n (pc := 96) t279_96 rfl ?_
                  refine zs_iload (pc := 97) t279_97 rfl ?_
                  refine zs_icmp_eqF (pc := 99) t279_99 rfl rfl (by omega) ?_
                  refine zs_iload_n (pc := 102) t279_102 rfl ?_
                  refine zs_iload (pc := 103) t279_103 rfl ?_
                  refine zs_icmp_geF (pc := 105) t279_105 rfl rfl (by omega) ?_
                  refine zs_iconst (pc := 108) t279_108 (v := 1) (by decide) ?_
                  refine zs_goto (pc := 109) t279_109 ?_
                  exact zs_iret (pc := 127) t279_127 mr279 (by decide) (hQ _ (by decide) (by decide))
                · refine zs_icmp_eqF (pc := 81) t279_81 rfl rfl (by omega) ?_
                  refine zs_iload_n (pc := 84) t279_84 rfl ?_
                  refine zs_iload (pc := 85) t279_85 rfl ?_
                  by_cases w104 : f.toInt ≤ b.toInt
                  · refine zs_icmp_geT (pc := 87) t279_87 rfl rfl (by omega) ?_
                    refine zs_iconst (pc := 94) t279_94 (v := 0) (by decide) ?_
                    exact zs_iret (pc := 95) t279_95 mr279 (by decide) (hQ _ (by decide) (by decide))
                  · refine zs_icmp_geF (pc := 87) t279_87 rfl rfl (by omega) ?_
                    refine zs_iconst (pc := 90) t279_90 (v := 1) (by decide) ?_
                    refine zs_goto (pc := 91) t279_91 ?_
                    exact zs_iret (pc := 95) t279_95 mr279 (by decide) (hQ _ (by decide) (by decide))
              · refine zs_icmp_eqF (pc := 57) t279_57 rfl rfl (by omega) ?_
                refine zs_iload_n (pc := 60) t279_60 rfl ?_
                refine zs_invS (pc := 61) (as := [.int c]) (st := []) t279_61 (by decide) mf280 rfl rfl ⟨by decide, by decide, Nat.le_of_ble_eq_true rfl, Nat.le_of_ble_eq_true rfl⟩ (zs_in (by decide) mf280 (Nat.le_of_ble_eq_true rfl) ?_) (fun _ _ q => q)
                show zGo X l 0 0 0 280 0 [(0, .int c)] [] M _
                refine zs_iload_n (pc := 0) t280_0 rfl ?_
                refine zs_if_geF (pc := 1) t280_1 rfl (by omega) ?_
                refine zs_iload_n (pc := 4) t280_4 rfl ?_
                obtain ⟨w105v, w105e⟩ : ∃ v, -c = v := ⟨_, rfl⟩
                have w105 := zrg w105v
                refine zs_ineg (pc := 5) t280_5 (c := w105v) w105e ?_
                refine zs_goto (pc := 6) t280_6 ?_
                refine zs_iret (pc := 10) t280_10 mr280 rfl ?_
                show zGo X l 1 0 0 279 64 [(0, .int a), (1, .int b), (2, .int c), (3, .int d), (4, .int e), (5, .int f), (6, .int g), (7, .int h)] [.int w105v] M _
                refine zs_iload (pc := 64) t279_64 rfl ?_
                refine zs_invS (pc := 66) (as := [.int g]) (st := [.int w105v]) t279_66 (by decide) mf280 rfl rfl ⟨by decide, by decide, Nat.le_of_ble_eq_true rfl, Nat.le_of_ble_eq_true rfl⟩ (zs_in (by decide) mf280 (Nat.le_of_ble_eq_true rfl) ?_) (fun _ _ q => q)
                show zGo X l 0 0 0 280 0 [(0, .int g)] [] M _
                refine zs_iload_n (pc := 0) t280_0 rfl ?_
                refine zs_if_geT (pc := 1) t280_1 rfl (by omega) ?_
                refine zs_iload_n (pc := 9) t280_9 rfl ?_
                refine zs_iret (pc := 10) t280_10 mr280 rfl ?_
                show zGo X l 1 0 0 279 69 [(0, .int a), (1, .int b), (2, .int c), (3, .int d), (4, .int e), (5, .int f), (6, .int g), (7, .int h)] [.int g, .int w105v] M _
                by_cases w106 : g.toInt ≤ w105v.toInt
                · refine zs_icmp_geT (pc := 69) t279_69 rfl rfl (by omega) ?_
                  refine zs_iconst (pc := 76) t279_76 (v := 0) (by decide) ?_
                  exact zs_iret (pc := 77) t279_77 mr279 (by decide) (hQ _ (by decide) (by decide))
                · refine zs_icmp_geF (pc := 69) t279_69 rfl rfl (by omega) ?_
                  refine zs_iconst (pc := 72) t279_72 (v := 1) (by decide) ?_
                  refine zs_goto (pc := 73) t279_73 ?_
                  exact zs_iret (pc := 77) t279_77 mr279 (by decide) (hQ _ (by decide) (by decide))
            · refine zs_if_geF (pc := 1) t280_1 rfl (by omega) ?_
              refine zs_iload_n (pc := 4) t280_4 rfl ?_
              obtain ⟨w107v, w107e⟩ : ∃ v, -g = v := ⟨_, rfl⟩
              have w107 := zrg w107v
              refine zs_ineg (pc := 5) t280_5 (c := w107v) w107e ?_
              refine zs_goto (pc := 6) t280_6 ?_
              refine zs_iret (pc := 10) t280_10 mr280 rfl ?_
              show zGo X l 1 0 0 279 57 [(0, .int a), (1, .int b), (2, .int c), (3, .int d), (4, .int e), (5, .int f), (6, .int g), (7, .int h)] [.int w107v, .int w100v] M _
              by_cases w108 : w100v.toInt = w107v.toInt
              · refine zs_icmp_eqT (pc := 57) t279_57 rfl rfl (by omega) ?_
                refine zs_iload_n (pc := 78) t279_78 rfl ?_
                refine zs_iload (pc := 79) t279_79 rfl ?_
                by_cases w109 : b.toInt = f.toInt
                · refine zs_icmp_eqT (pc := 81) t279_81 rfl rfl (by omega) ?_
                  refine zs_iload_n (pc := 96) t279_96 rfl ?_
                  refine zs_iload (pc := 97) t279_97 rfl ?_
                  by_cases w110 : c.toInt = g.toInt
                  · refine zs_icmp_eqT (pc := 99) t279_99 rfl rfl (by omega) ?_
                    refine zs_iload_n (pc := 116) t279_116 rfl ?_
                    refine zs_iload (pc := 117) t279_117 rfl ?_
                    by_cases w111 : h.toInt ≤ d.toInt
                    · refine zs_icmp_geT (pc := 119) t279_119 rfl rfl (by omega) ?_
                      refine zs_iconst (pc := 126) t279_126 (v := 0) (by decide) ?_
                      exact zs_iret (pc := 127) t279_127 mr279 (by decide) (hQ _ (by decide) (by decide))
                    · refine zs_icmp_geF (pc := 119) t279_119 rfl rfl (by omega) ?_
                      refine zs_iconst (pc := 122) t279_122 (v := 1) (by decide) ?_
                      refine zs_goto (pc := 123) t279_123 ?_
                      exact zs_iret (pc := 127) t279_127 mr279 (by decide) (hQ _ (by decide) (by decide))
                  · refine zs_icmp_eqF (pc := 99) t279_99 rfl rfl (by omega) ?_
                    refine zs_iload_n (pc := 102) t279_102 rfl ?_
                    refine zs_iload (pc := 103) t279_103 rfl ?_
                    by_cases w112 : g.toInt ≤ c.toInt
                    · refine zs_icmp_geT (pc := 105) t279_105 rfl rfl (by omega) ?_
                      refine zs_iconst (pc := 112) t279_112 (v := 0) (by decide) ?_
                      refine zs_goto (pc := 113) t279_113 ?_
                      exact zs_iret (pc := 127) t279_127 mr279 (by decide) (hQ _ (by decide) (by decide))
                    · refine zs_icmp_geF (pc := 105) t279_105 rfl rfl (by omega) ?_
                      refine zs_iconst (pc := 108) t279_108 (v := 1) (by decide) ?_
                      refine zs_goto (pc := 109) t279_109 ?_
                      exact zs_iret (pc := 127) t279_127 mr279 (by decide) (hQ _ (by decide) (by decide))
                · refine zs_icmp_eqF (pc := 81) t279_81 rfl rfl (by omega) ?_
                  refine zs_iload_n (pc := 84) t279_84 rfl ?_
                  refine zs_iload (pc := 85) t279_85 rfl ?_
                  by_cases w113 : f.toInt ≤ b.toInt
                  · refine zs_icmp_geT (pc := 87) t279_87 rfl rfl (by omega) ?_
                    refine zs_iconst (pc := 94) t279_94 (v := 0) (by decide) ?_
                    exact zs_iret (pc := 95) t279_95 mr279 (by decide) (hQ _ (by decide) (by decide))
                  · refine zs_icmp_geF (pc := 87) t279_87 rfl rfl (by omega) ?_
                    refine zs_iconst (pc := 90) t279_90 (v := 1) (by decide) ?_
                    refine zs_goto (pc := 91) t279_91 ?_
                    exact zs_iret (pc := 95) t279_95 mr279 (by decide) (hQ _ (by decide) (by decide))
              · refine zs_icmp_eqF (pc := 57) t279_57 rfl rfl (by omega) ?_
                refine zs_iload_n (pc := 60) t279_60 rfl ?_
                refine zs_invS (pc := 61) (as := [.int c]) (st := []) t279_61 (by decide) mf280 rfl rfl ⟨by decide, by decide, Nat.le_of_ble_eq_true rfl, Nat.le_of_ble_eq_true rfl⟩ (zs_in (by decide) mf280 (Nat.le_of_ble_eq_true rfl) ?_) (fun _ _ q => q)
                show zGo X l 0 0 0 280 0 [(0, .int c)] [] M _
                refine zs_iload_n (pc := 0) t280_0 rfl ?_
                refine zs_if_geF (pc := 1) t280_1 rfl (by omega) ?_
                refine zs_iload_n (pc := 4) t280_4 rfl ?_
                obtain ⟨w114v, w114e⟩ : ∃ v, -c = v := ⟨_, rfl⟩
                have w114 := zrg w114v
                refine zs_ineg (pc := 5) t280_5 (c := w114v) w114e ?_
                refine zs_goto (pc := 6) t280_6 ?_
                refine zs_iret (pc := 10) t280_10 mr280 rfl ?_
                show zGo X l 1 0 0 279 64 [(0, .int a), (1, .int b), (2, .int c), (3, .int d), (4, .int e), (5, .int f), (6, .int g), (7, .int h)] [.int w114v] M _
                refine zs_iload (pc := 64) t279_64 rfl ?_
                refine zs_invS (pc := 66) (as := [.int g]) (st := [.int w114v]) t279_66 (by decide) mf280 rfl rfl ⟨by decide, by decide, Nat.le_of_ble_eq_true rfl, Nat.le_of_ble_eq_true rfl⟩ (zs_in (by decide) mf280 (Nat.le_of_ble_eq_true rfl) ?_) (fun _ _ q => q)
                show zGo X l 0 0 0 280 0 [(0, .int g)] [] M _
                refine zs_iload_n (pc := 0) t280_0 rfl ?_
                refine zs_if_geF (pc := 1) t280_1 rfl (by omega) ?_
                refine zs_iload_n (pc := 4) t280_4 rfl ?_
                obtain ⟨w115v, w115e⟩ : ∃ v, -g = v := ⟨_, rfl⟩
                have w115 := zrg w115v
                refine zs_ineg (pc := 5) t280_5 (c := w115v) w115e ?_
                refine zs_goto (pc := 6) t280_6 ?_
                refine zs_iret (pc := 10) t280_10 mr280 rfl ?_
                show zGo X l 1 0 0 279 69 [(0, .int a), (1, .int b), (2, .int c), (3, .int d), (4, .int e), (5, .int f), (6, .int g), (7, .int h)] [.int w115v, .int w114v] M _
                by_cases w116 : w115v.toInt ≤ w114v.toInt
                · refine zs_icmp_geT (pc := 69) t279_69 rfl rfl (by omega) ?_
                  refine zs_iconst (pc := 76) t279_76 (v := 0) (by decide) ?_
                  exact zs_iret (pc := 77) t279_77 mr279 (by decide) (hQ _ (by decide) (by decide))
                · refine zs_icmp_geF (pc := 69) t279_69 rfl rfl (by omega) ?_
                  refine zs_iconst (pc := 72) t279_72 (v := 1) (by decide) ?_
                  refine zs_goto (pc := 73) t279_73 ?_
                  exact zs_iret (pc := 77) t279_77 mr279 (by decide) (hQ _ (by decide) (by decide))
        · refine zs_icmp_eqF (pc := 27) t279_27 rfl rfl (by omega) ?_
          refine zs_iload_n (pc := 30) t279_30 rfl ?_
          refine zs_invS (pc := 31) (as := [.int b]) (st := []) t279_31 (by decide) mf280 rfl rfl ⟨by decide, by decide, Nat.le_of_ble_eq_true rfl, Nat.le_of_ble_eq_true rfl⟩ (zs_in (by decide) mf280 (Nat.le_of_ble_eq_true rfl) ?_) (fun _ _ q => q)
          show zGo X l 0 0 0 280 0 [(0, .int b)] [] M _
          refine zs_iload_n (pc := 0) t280_0 rfl ?_
          refine zs_if_geF (pc := 1) t280_1 rfl (by omega) ?_
          refine zs_iload_n (pc := 4) t280_4 rfl ?_
          obtain ⟨w117v, w117e⟩ : ∃ v, -b = v := ⟨_, rfl⟩
          have w117 := zrg w117v
          refine zs_ineg (pc := 5) t280_5 (c := w117v) w117e ?_
          refine zs_goto (pc := 6) t280_6 ?_
          refine zs_iret (pc := 10) t280_10 mr280 rfl ?_
          show zGo X l 1 0 0 279 34 [(0, .int a), (1, .int b), (2, .int c), (3, .int d), (4, .int e), (5, .int f), (6, .int g), (7, .int h)] [.int w117v] M _
          refine zs_iload (pc := 34) t279_34 rfl ?_
          refine zs_invS (pc := 36) (as := [.int f]) (st := [.int w117v]) t279_36 (by decide) mf280 rfl rfl ⟨by decide, by decide, Nat.le_of_ble_eq_true rfl, Nat.le_of_ble_eq_true rfl⟩ (zs_in (by decide) mf280 (Nat.le_of_ble_eq_true rfl) ?_) (fun _ _ q => q)
          show zGo X l 0 0 0 280 0 [(0, .int f)] [] M _
          refine zs_iload_n (pc := 0) t280_0 rfl ?_
          refine zs_if_geF (pc := 1) t280_1 rfl (by omega) ?_
          refine zs_iload_n (pc := 4) t280_4 rfl ?_
          obtain ⟨w118v, w118e⟩ : ∃ v, -f = v := ⟨_, rfl⟩
          have w118 := zrg w118v
          refine zs_ineg (pc := 5) t280_5 (c := w118v) w118e ?_
          refine zs_goto (pc := 6) t280_6 ?_
          refine zs_iret (pc := 10) t280_10 mr280 rfl ?_
          show zGo X l 1 0 0 279 39 [(0, .int a), (1, .int b), (2, .int c), (3, .int d), (4, .int e), (5, .int f), (6, .int g), (7, .int h)] [.int w118v, .int w117v] M _
          by_cases w119 : w118v.toInt ≤ w117v.toInt
          · refine zs_icmp_geT (pc := 39) t279_39 rfl rfl (by omega) ?_
            refine zs_iconst (pc := 46) t279_46 (v := 0) (by decide) ?_
            exact zs_iret (pc := 47) t279_47 mr279 (by decide) (hQ _ (by decide) (by decide))
          · refine zs_icmp_geF (pc := 39) t279_39 rfl rfl (by omega) ?_
            refine zs_iconst (pc := 42) t279_42 (v := 1) (by decide) ?_
            refine zs_goto (pc := 43) t279_43 ?_
            exact zs_iret (pc := 47) t279_47 mr279 (by decide) (hQ _ (by decide) (by decide))
  · refine zs_icmp_eqF (pc := 3) t279_3 rfl rfl (by omega) ?_
    refine zs_iload_n (pc := 6) t279_6 rfl ?_
    refine zs_iload (pc := 7) t279_7 rfl ?_
    by_cases w120 : a.toInt ≤ e.toInt
    · refine zs_icmp_leT (pc := 9) t279_9 rfl rfl (by omega) ?_
      refine zs_iconst (pc := 16) t279_16 (v := 0) (by decide) ?_
      exact zs_iret (pc := 17) t279_17 mr279 (by decide) (hQ _ (by decide) (by decide))
    · refine zs_icmp_leF (pc := 9) t279_9 rfl rfl (by omega) ?_
      refine zs_iconst (pc := 12) t279_12 (v := 1) (by decide) ?_
      refine zs_goto (pc := 13) t279_13 ?_
      exact zs_iret (pc := 17) t279_17 mr279 (by decide) (hQ _ (by decide) (by decide))
