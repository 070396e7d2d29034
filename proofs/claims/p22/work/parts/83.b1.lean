theorem W348 {X : zX} {l : Launch} {M : zM} {Q : Option Value → zM → Prop} {a b : Int32} (hs : zSk zMm M) (hI : zIv mLo mHi M) {c : zWt} (ha : 0 ≤ a.toInt ∧ a.toInt ≤ 9999) (hb : 0 ≤ b.toInt ∧ b.toInt ≤ 127) (u0 : (zI M 336 50).toInt ≤ 140) (x0 : zWr M 336 50 363 c) (hQ : ∀ M', zSk zMm M' → zIv mLo mHi M' → zFr [(363, 363, none), (336, 336, some 50)] M M' → zJ M' 351 = zJ M 351 → ((zI M' 336 50).toInt ≤ (zI M 336 50).toInt + 5) → (zWr M' 336 50 363 (wS (wN c a.toInt) b.toInt)) → Q none M') : zCall X l 1 0 0 348 [.ref 336, .int a, .int b] M Q := by
  have ga := zrg a
  have gb := zrg b
  refine zs_in (by decide) mf348 (Nat.le_of_ble_eq_true rfl) ?_
  show zGo X l 1 0 0 348 0 [(0, .ref 336), (1, .int a), (2, .int b)] [] M _
  refine zs_iconst (pc := 0) t348_0 (v := 1) (by decide) ?_
  refine zs_istore_n (pc := 1) t348_1 (ls' := [(3, .int (1 : Int32)), (0, .ref 336), (1, .int a), (2, .int b)]) (zml mf348 (by decide)) rfl ?_
  refine zs_iload_n (pc := 2) t348_2 rfl ?_
  refine zs_iload_n (pc := 3) t348_3 rfl ?_
  obtain ⟨w1v, w1⟩ : ∃ v, a / (1 : Int32) = v := ⟨_, rfl⟩
  have w1g : w1v.toInt = a.toInt / 1 := by rw [← w1]; exact zdivp rfl li1 (by omega) (by decide)
  refine zs_idiv (pc := 4) t348_4 (by decide) (c := w1v) w1 ?_
  refine zs_bipush (pc := 5) t348_5 (v := 9) (by decide) ?_
  by_cases w2 : w1v.toInt ≤ 9
  · refine zs_icmp_leT (pc := 7) t348_7 rfl li9 (by omega) ?_
    refine zs_iload_n (pc := 18) t348_18 rfl ?_
    refine zs_if_leF (pc := 19) t348_19 li1 (by decide) ?_
    refine zs_aload_n (pc := 22) t348_22 rfl ?_
    refine zs_bipush (pc := 23) t348_23 (v := 48) (by decide) ?_
    refine zs_iload_n (pc := 25) t348_25 rfl ?_
    refine zs_iload_n (pc := 26) t348_26 rfl ?_
    obtain ⟨w3v, w3⟩ : ∃ v, a / (1 : Int32) = v := ⟨_, rfl⟩
    have w3g : w3v.toInt = a.toInt / 1 := by rw [← w3]; exact zdivp rfl li1 (by omega) (by decide)
    refine zs_idiv (pc := 27) t348_27 (by decide) (c := w3v) w3 ?_
    refine zs_bipush (pc := 28) t348_28 (v := 10) (by decide) ?_
    obtain ⟨w4v, w4⟩ : ∃ v, w3v - w3v / (10 : Int32) * (10 : Int32) = v := ⟨_, rfl⟩
    have w4g : 0 ≤ w4v.toInt ∧ w4v.toInt ≤ 9 := by rw [← w4]; exact zrem rfl li10 (by omega) (by decide)
    have w4r : w4v.toInt = w3v.toInt % 10 := by rw [← w4]; exact zremE rfl li10 (by omega) (by decide)
    refine zs_irem (pc := 30) t348_30 (by decide) (c := w4v) w4 ?_
    obtain ⟨w5v, w5e, w5⟩ := ziadd (a := (48 : Int32)) (b := w4v) li48 rfl (by omega) (by omega)
    refine zs_iadd (pc := 31) t348_31 (c := w5v) w5e ?_
    have w6 : w5v.toInt = (48 + w4v.toInt) := w5
    have w7 : w5v.toInt = (48 + w4v.toInt) := w5
    have w8 := ib336_50 hI
    have w9 : (zI M 336 50).toInt = (zI M 336 50).toInt := (congrArg Int32.toInt rfl).trans rfl
    have w10 : (zI M 336 50).toInt = (zI M 336 50).toInt := (congrArg Int32.toInt rfl).trans rfl
    refine zs_invV (pc := 32) (k := 336) (as' := [.int w5v]) (st := []) t348_32 mf347 rfl rfl (Or.inl ⟨by decide, (zk1 (hs.k fk_zMm_336))⟩) ⟨by decide, by decide, Nat.le_of_ble_eq_true rfl, Nat.le_of_ble_eq_true rfl⟩ (W347 hs hI ⟨by omega, by omega⟩ (by omega) x0 ?_) (fun _ _ q => q)
    intro w11M w11s w11I w11F w11J w11t0 w11x0
    have w12 := ib336_50 w11I
    show zGo X l 1 0 0 348 35 [(3, .int (1 : Int32)), (0, .ref 336), (1, .int a), (2, .int b)] [] w11M _
    have w11y : zWr w11M 336 50 363 (wS c (48 + a.toInt / 1 % 10)) := by
      have q := w11x0
      rw [show w5v.toInt = (48 + a.toInt / 1 % 10) by first | decide | omega] at q
      exact q
    refine zs_iload_n (pc := 35) t348_35 rfl ?_
    refine zs_bipush (pc := 36) t348_36 (v := 10) (by decide) ?_
    refine zs_idiv (pc := 38) t348_38 (by decide) (c := 0) (by decide) ?_
    refine zs_istore_n (pc := 39) t348_39 (ls' := [(3, .int (0 : Int32)), (0, .ref 336), (1, .int a), (2, .int b)]) (zml mf348 (by decide)) rfl ?_
    refine zs_goto (pc := 40) t348_40 ?_
    refine zs_iload_n (pc := 18) t348_18 rfl ?_
    refine zs_if_leT (pc := 19) t348_19 li0 (by decide) ?_
    refine zs_aload_n (pc := 43) t348_43 rfl ?_
    refine zs_iload_n (pc := 44) t348_44 rfl ?_
    have w13 : (zI w11M 336 50).toInt = (zI w11M 336 50).toInt := (congrArg Int32.toInt rfl).trans rfl
    have w14 : (zI w11M 336 50).toInt = (zI w11M 336 50).toInt := (congrArg Int32.toInt rfl).trans rfl
    refine zs_invV (pc := 45) (k := 336) (as' := [.int b]) (st := []) t348_45 mf347 rfl rfl (Or.inl ⟨by decide, (zk1 (w11s.k fk_zMm_336))⟩) ⟨by decide, by decide, Nat.le_of_ble_eq_true rfl, Nat.le_of_ble_eq_true rfl⟩ (W347 w11s w11I ⟨by omega, by omega⟩ (by omega) w11y ?_) (fun _ _ q => q)
    intro w15M w15s w15I w15F w15J w15t0 w15x0
    have w16 := ib336_50 w15I
    show zGo X l 1 0 0 348 48 [(3, .int (0 : Int32)), (0, .ref 336), (1, .int a), (2, .int b)] [] w15M _
    have w15y : zWr w15M 336 50 363 (wS (wS c (48 + a.toInt / 1 % 10)) b.toInt) := by
      have q := w15x0
      rw [show b.toInt = b.toInt by first | decide | omega] at q
      exact q
    have w17 : (zI w15M 336 50).toInt = (zI w15M 336 50).toInt := (congrArg Int32.toInt rfl).trans rfl
    exact zs_vret (pc := 48) t348_48 mr348 (hQ _ w15s w15I (((zFr.refl).trans (w11F.mono rfl)).trans (w15F.mono rfl)) (w15J.trans w11J) (by omega) (by rw [wN.k1 (by omega)]; exact w15y))
  · refine zs_icmp_leF (pc := 7) t348_7 rfl li9 (by omega) ?_
    refine zs_iload_n (pc := 10) t348_10 rfl ?_
    refine zs_bipush (pc := 11) t348_11 (v := 10) (by decide) ?_
    refine zs_imul (pc := 13) t348_13 (c := 10) (by decide) ?_
    refine zs_istore_n (pc := 14) t348_14 (ls' := [(3, .int (10 : Int32)), (0, .ref 336), (1, .int a), (2, .int b)]) (zml mf348 (by decide)) rfl ?_
    refine zs_goto (pc := 15) t348_15 ?_
    refine zs_iload_n (pc := 2) t348_2 rfl ?_
    refine zs_iload_n (pc := 3) t348_3 rfl ?_
    obtain ⟨w18v, w18⟩ : ∃ v, a / (10 : Int32) = v := ⟨_, rfl⟩
    have w18g : w18v.toInt = a.toInt / 10 := by rw [← w18]; exact zdivp rfl li10 (by omega) (by decide)
    refine zs_idiv (pc := 4) t348_4 (by decide) (c := w18v) w18 ?_
    refine zs_bipush (pc := 5) t348_5 (v := 9) (by decide) ?_
    by_cases w19 : w18v.toInt ≤ 9
    · refine zs_icmp_leT (pc := 7) t348_7 rfl li9 (by omega) ?_
      refine zs_iload_n (pc := 18) t348_18 rfl ?_
      refine zs_if_leF (pc := 19) t348_19 li10 (by decide) ?_
      refine zs_aload_n (pc := 22) t348_22 rfl ?_
      refine zs_bipush (pc := 23) t348_23 (v := 48) (by decide) ?_
      refine zs_iload_n (pc := 25) t348_25 rfl ?_
      refine zs_iload_n (pc := 26) t348_26 rfl ?_
      obtain ⟨w20v, w20⟩ : ∃ v, a / (10 : Int32) = v := ⟨_, rfl⟩
      have w20g : w20v.toInt = a.toInt / 10 := by rw [← w20]; exact zdivp rfl li10 (by omega) (by decide)
      refine zs_idiv (pc := 27) t348_27 (by decide) (c := w20v) w20 ?_
      refine zs_bipush (pc := 28) t348_28 (v := 10) (by decide) ?_
      obtain ⟨w21v, w21⟩ : ∃ v, w20v - w20v / (10 : Int32) * (10 : Int32) = v := ⟨_, rfl⟩
      have w21g : 0 ≤ w21v.toInt ∧ w21v.toInt ≤ 9 := by rw [← w21]; exact zrem rfl li10 (by omega) (by decide)
      have w21r : w21v.toInt = w20v.toInt % 10 := by rw [← w21]; exact zremE rfl li10 (by omega) (by decide)
      refine zs_irem (pc := 30) t348_30 (by decide) (c := w21v) w21 ?_
      obtain ⟨w22v, w22e, w22⟩ := ziadd (a := (48 : Int32)) (b := w21v) li48 rfl (by omega) (by omega)
      refine zs_iadd (pc := 31) t348_31 (c := w22v) w22e ?_
      have w23 : w22v.toInt = (48 + w21v.toInt) := w22
      have w24 : w22v.toInt = (48 + w21v.toInt) := w22
      have w25 := ib336_50 hI
      have w26 : (zI M 336 50).toInt = (zI M 336 50).toInt := (congrArg Int32.toInt rfl).trans rfl
      have w27 : (zI M 336 50).toInt = (zI M 336 50).toInt := (congrArg Int32.toInt rfl).trans rfl
      refine zs_invV (pc := 32) (k := 336) (as' := [.int w22v]) (st := []) t348_32 mf347 rfl rfl (Or.inl ⟨by decide, (zk1 (hs.k fk_zMm_336))⟩) ⟨by decide, by decide, Nat.le_of_ble_eq_true rfl, Nat.le_of_ble_eq_true rfl⟩ (W347 hs hI ⟨by omega, by omega⟩ (by omega) x0 ?_) (fun _ _ q => q)
      intro w28M w28s w28I w28F w28J w28t0 w28x0
      have w29 := ib336_50 w28I
      show zGo X l 1 0 0 348 35 [(3, .int (10 : Int32)), (0, .ref 336), (1, .int a), (2, .int b)] [] w28M _
      have w28y : zWr w28M 336 50 363 (wS c (48 + a.toInt / 10 % 10)) := by
        have q := w28x0
        rw [show w22v.toInt = (48 + a.toInt / 10 % 10) by first | decide | omega] at q
        exact q
      refine zs_iload_n (pc := 35) t348_35 rfl ?_
      refine zs_bipush (pc := 36) t348_36 (v := 10) (by decide) ?_
      refine zs_idiv (pc := 38) t348_38 (by decide) (c := 1) (by decide) ?_
      refine zs_istore_n (pc := 39) t348_39 (ls' := [(3, .int (1 : Int32)), (0, .ref 336), (1, .int a), (2, .int b)]) (zml mf348 (by decide)) rfl ?_
      refine zs_goto (pc := 40) t348_40 ?_
      refine zs_iload_n (pc := 18) t348_18 rfl ?_
      refine zs_if_leF (pc := 19) t348_19 li1 (by decide) ?_
      refine zs_aload_n (pc := 22) t348_22 rfl ?_
      refine zs_bipush (pc := 23) t348_23 (v := 48) (by decide) ?_
      refine zs_iload_n (pc := 25) t348_25 rfl ?_
      refine zs_iload_n (pc := 26) t348_26 rfl ?_
      obtain ⟨w30v, w30⟩ : ∃ v, a / (1 : Int32) = v := ⟨_, rfl⟩
      have w30g : w30v.toInt = a.toInt / 1 := by rw [← w30]; exact zdivp rfl li1 (by omega) (by decide)
      refine zs_idiv (pc := 27) t348_27 (by decide) (c := w30v) w30 ?_
      refine zs_bipush (pc := 28) t348_28 (v := 10) (by decide) ?_
      obtain ⟨w31v, w31⟩ : ∃ v, w30v - w30v / (10 : Int32) * (10 : Int32) = v := ⟨_, rfl⟩
      have w31g : 0 ≤ w31v.toInt ∧ w31v.toInt ≤ 9 := by rw [← w31]; exact zrem rfl li10 (by omega) (by decide)
      have w31r : w31v.toInt = w30v.toInt % 10 := by rw [← w31]; exact zremE rfl li10 (by omega) (by decide)
      refine zs_irem (pc := 30) t348_30 (by decide) (c := w31v) w31 ?_
      obtain ⟨w32v, w32e, w32⟩ := ziadd (a := (48 : Int32)) (b := w31v) li48 rfl (by omega) (by omega)
      refine zs_iadd (pc := 31) t348_31 (c := w32v) w32e ?_
      have w33 : w32v.toInt = (48 + w31v.toInt) := w32
      have w34 : w32v.toInt = (48 + w31v.toInt) := w32
      have w35 : (zI w28M 336 50).toInt = (zI w28M 336 50).toInt := (congrArg Int32.toInt rfl).trans rfl
      have w36 : (zI w28M 336 50).toInt = (zI w28M 336 50).toInt := (congrArg Int32.toInt rfl).trans rfl
      refine zs_invV (pc := 32) (k := 336) (as' := [.int w32v]) (st := []) t348_32 mf347 rfl rfl (Or.inl ⟨by decide, (zk1 (w28s.k fk_zMm_336))⟩) ⟨by decide, by decide, Nat.le_of_ble_eq_true rfl, Nat.le_of_ble_eq_true rfl⟩ (W347 w28s w28I ⟨by omega, by omega⟩ (by omega) w28y ?_) (fun _ _ q => q)
      intro w37M w37s w37I w37F w37J w37t0 w37x0
      have w38 := ib336_50 w37I
      show zGo X l 1 0 0 348 35 [(3, .int (1 : Int32)), (0, .ref 336), (1, .int a), (2, .int b)] [] w37M _
      have w37y : zWr w37M 336 50 363 (wS (wS c (48 + a.toInt / 10 % 10)) (48 + a.toInt / 1 % 10)) := by
        have q := w37x0
        rw [show w32v.toInt = (48 + a.toInt / 1 % 10) by first | decide | omega] at q
        exact q
      refine zs_iload_n (pc := 35) t348_35 rfl ?_
      refine zs_bipush (pc := 36) t348_36 (v := 10) (by decide) ?_
      refine zs_idiv (pc := 38) t348_38 (by decide) (c := 0) (by decide) ?_
      refine zs_istore_n (pc := 39) t348_39 (ls' := [(3, .int (0 : Int32)), (0, .ref 336), (1, .int a), (2, .int b)]) (zml mf348 (by decide)) rfl ?_
      refine zs_goto (pc := 40) t348_40 ?_
      refine zs_iload_n (pc := 18) t348_18 rfl ?_
      refine zs_if_leT (pc := 19) t348_19 li0 (by decide) ?_
      refine zs_aload_n (pc := 43) t348_43 rfl ?_
      refine zs_iload_n (pc := 44) t348_44 rfl ?_
      have w39 : (zI w37M 336 50).toInt = (zI w37M 336 50).toInt := (congrArg Int32.toInt rfl).trans rfl
      have w40 : (zI w37M 336 50).toInt = (zI w37M 336 50).toInt := (congrArg Int32.toInt rfl).trans rfl
      refine zs_invV (pc := 45) (k := 336) (as' := [.int b]) (st := []) t348_45 mf347 rfl rfl (Or.inl ⟨by decide, (zk1 (w37s.k fk_zMm_336))⟩) ⟨by decide, by decide, Nat.le_of_ble_eq_true rfl, Nat.le_of_ble_eq_true rfl⟩ (W347 w37s w37I ⟨by omega, by omega⟩ (by omega) w37y ?_) (fun _ _ q => q)
      intro w41M w41s w41I w41F w41J w41t0 w41x0
      have w42 := ib336_50 w41I
      show zGo X l 1 0 0 348 48 [(3, .int (0 : Int32)), (0, .ref 336), (1, .int a), (2, .int b)] [] w41M _
      have w41y : zWr w41M 336 50 363 (wS (wS (wS c (48 + a.toInt / 10 % 10)) (48 + a.toInt / 1 % 10)) b.toInt) := by
        have q := w41x0
        rw [show b.toInt = b.toInt by first | decide | omega] at q
        exact q
      have w43 : (zI w41M 336 50).toInt = (zI w41M 336 50).toInt := (congrArg Int32.toInt rfl).trans rfl
      exact zs_vret (pc := 48) t348_48 mr348 (hQ _ w41s w41I ((((zFr.refl).trans (w28F.mono rfl)).trans (w37F.mono rfl)).trans (w41F.mono rfl)) (w41J.trans (w37J.trans w28J)) (by omega) (by rw [wN.k2 (by omega) (by omega)]; exact w41y))
    · refine zs_icmp_leF (pc := 7) t348_7 rfl li9 (by omega) ?_
      refine zs_iload_n (pc := 10) t348_10 rfl ?_
      refine zs_bipush (pc := 11) t348_11 (v := 10) (by decide) ?_
      refine zs_imul (pc := 13) t348_13 (c := 100) (by decide) ?_
      refine zs_istore_n (pc := 14) t348_14 (ls' := [(3, .int (100 : Int32)), (0, .ref 336), (1, .int a), (2, .int b)]) (zml mf348 (by decide)) rfl ?_
      refine zs_goto (pc := 15) t348_15 ?_
      refine zs_iload_n (pc := 2) t348_2 rfl ?_
      refine zs_iload_n (pc := 3) t348_3 rfl ?_
      obtain ⟨w44v, w44⟩ : ∃ v, a / (100 : Int32) = v := ⟨_, rfl⟩
      have w44g : w44v.toInt = a.toInt / 100 := by rw [← w44]; exact zdivp rfl li100 (by omega) (by decide)
      refine zs_idiv (pc := 4) t348_4 (by decide) (c := w44v) w44 ?_
      refine zs_bipush (pc := 5) t348_5 (v := 9) (by decide) ?_
      by_cases w45 : w44v.toInt ≤ 9
      · refine zs_icmp_leT (pc := 7) t348_7 rfl li9 (by omega) ?_
        refine zs_iload_n (pc := 18) t348_18 rfl ?_
        refine zs_if_leF (pc := 19) t348_19 li100 (by decide) ?_
        refine zs_aload_n (pc := 22) t348_22 rfl ?_
        refine zs_bipush (pc := 23) t348_23 (v := 48) (by decide) ?_
        refine zs_iload_n (pc := 25) t348_25 rfl ?_
        refine zs_iload_n (pc := 26) t348_26 rfl ?_
        obtain ⟨w46v, w46⟩ : ∃ v, a / (100 : Int32) = v := ⟨_, rfl⟩
        have w46g : w46v.toInt = a.toInt / 100 := by rw [← w46]; exact zdivp rfl li100 (by omega) (by decide)
        refine zs_idiv (pc := 27) t348_27 (by decide) (c := w46v) w46 ?_
        refine zs_bipush (pc := 28) t348_28 (v := 10) (by decide) ?_
        obtain ⟨w47v, w47⟩ : ∃ v, w46v - w46v / (10 : Int32) * (10 : Int32) = v := ⟨_, rfl⟩
        have w47g : 0 ≤ w47v.toInt ∧ w47v.toInt ≤ 9 := by rw [← w47]; exact zrem rfl li10 (by omega) (by decide)
        have w47r : w47v.toInt = w46v.toInt % 10 := by rw [← w47]; exact zremE rfl li10 (by omega) (by decide)
        refine zs_irem (pc := 30) t348_30 (by decide) (c := w47v) w47 ?_
        obtain ⟨w48v, w48e, w48⟩ := ziadd (a := (48 : Int32)) (b := w47v) li48 rfl (by omega) (by omega)
        refine zs_iadd (pc := 31) t348_31 (c := w48v) w48e ?_
        have w49 : w48v.toInt = (48 + w47v.toInt) := w48
        have w50 : w48v.toInt = (48 + w47v.toInt) := w48
        have w51 := ib336_50 hI
        have w52 : (zI M 336 50).toInt = (zI M 336 50).toInt := (congrArg Int32.toInt rfl).trans rfl
        have w53 : (zI M 336 50).toInt = (zI M 336 50).toInt := (congrArg Int32.toInt rfl).trans rfl
        refine zs_invV (pc := 32) (k := 336) (as' := [.int w48v]) (st := []) t348_32 mf347 rfl rfl (Or.inl ⟨by decide, (zk1 (hs.k fk_zMm_336))⟩) ⟨by decide, by decide, Nat.le_of_ble_eq_true rfl, Nat.le_of_ble_eq_true rfl⟩ (W347 hs hI ⟨by omega, by omega⟩ (by omega) x0 ?_) (fun _ _ q => q)
        intro w54M w54s w54I w54F w54J w54t0 w54x0
        have w55 := ib336_50 w54I
        show zGo X l 1 0 0 348 35 [(3, .int (100 : Int32)), (0, .ref 336), (1, .int a), (2, .int b)] [] w54M _
        have w54y : zWr w54M 336 50 363 (wS c (48 + a.toInt / 100 % 10)) := by
          have q := w54x0
          rw [show w48v.toInt = (48 + a.toInt / 100 % 10) by first | decide | omega] at q
          exact q
        refine zs_iload_n (pc := 35) t348_35 rfl ?_
        refine zs_bipush (pc := 36) t348_36 (v := 10) (by decide) ?_
        refine zs_idiv (pc := 38) t348_38 (by decide) (c := 10) (by decide) ?_
        refine zs_istore_n (pc := 39) t348_39 (ls' := [(3, .int (10 : Int32)), (0, .ref 336), (1, .int a), (2, .int b)]) (zml mf348 (by decide)) rfl ?_
        refine zs_goto (pc := 40) t348_40 ?_
        refine zs_iload_n (pc := 18) t348_18 rfl ?_
        refine zs_if_leF (pc := 19) t348_19 li10 (by decide) ?_
        refine zs_aload_n (pc := 22) t348_22 rfl ?_
        refine zs_bipush (pc := 23) t348_23 (v := 48) (by decide) ?_
        refine zs_iload_n (pc := 25) t348_25 rfl ?_
        refine zs_iload_n (pc := 26) t348_26 rfl ?_
        obtain ⟨w56v, w56⟩ : ∃ v, a / (10 : Int32) = v := ⟨_, rfl⟩
        have w56g : w56v.toInt = a.toInt / 10 := by rw [← w56]; exact zdivp rfl li10 (by omega) (by decide)
        refine zs_idiv (pc := 27) t348_27 (by decide) (c := w56v) w56 ?_
        refine zs_bipush (pc := 28) t348_28 (v := 10) (by decide) ?_
        obtain ⟨w57v, w57⟩ : ∃ v, w56v - w56v / (10 : Int32) * (10 : Int32) = v := ⟨_, rfl⟩
        have w57g : 0 ≤ w57v.toInt ∧ w57v.toInt ≤ 9 := by rw [← w57]; exact zrem rfl li10 (by omega) (by decide)
        have w57r : w57v.toInt = w56v.toInt % 10 := by rw [← w57]; exact zremE rfl li10 (by omega) (by decide)
        refine zs_irem (pc := 30) t348_30 (by decide) (c := w57v) w57 ?_
        obtain ⟨w58v, w58e, w58⟩ := ziadd (a := (48 : Int32)) (b := w57v) li48 rfl (by omega) (by omega)
        refine zs_iadd (pc := 31) t348_31 (c := w58v) w58e ?_
        have w59 : w58v.toInt = (48 + w57v.toInt) := w58
        have w60 : w58v.toInt = (48 + w57v.toInt) := w58
        have w61 : (zI w54M 336 50).toInt = (zI w54M 336 50).toInt := (congrArg Int32.toInt rfl).trans rfl
        have w62 : (zI w54M 336 50).toInt = (zI w54M 336 50).toInt := (congrArg Int32.toInt rfl).trans rfl
        refine zs_invV (pc := 32) (k := 336) (as' := [.int w58v]) (st := []) t348_32 mf347 rfl rfl (Or.inl ⟨by decide, (zk1 (w54s.k fk_zMm_336))⟩) ⟨by decide, by decide, Nat.le_of_ble_eq_true rfl, Nat.le_of_ble_eq_true rfl⟩ (W347 w54s w54I ⟨by omega, by omega⟩ (by omega) w54y ?_) (fun _ _ q => q)
        intro w63M w63s w63I w63F w63J w63t0 w63x0
        have w64 := ib336_50 w63I
        show zGo X l 1 0 0 348 35 [(3, .int (10 : Int32)), (0, .ref 336), (1, .int a), (2, .int b)] [] w63M _
        have w63y : zWr w63M 336 50 363 (wS (wS c (48 + a.toInt / 100 % 10)) (48 + a.toInt / 10 % 10)) := by
          have q := w63x0
          rw [show w58v.toInt = (48 + a.toInt / 10 % 10) by first | decide | omega] at q
          exact q
        refine zs_iload_n (pc := 35) t348_35 rfl ?_
        refine zs_bipush (pc := 36) t348_36 (v := 10) (by decide) ?_
        refine zs_idiv (pc := 38) t348_38 (by decide) (c := 1) (by decide) ?_
        refine zs_istore_n (pc := 39) t348_39 (ls' := [(3, .int (1 : Int32)), (0, .ref 336), (1, .int a), (2, .int b)]) (zml mf348 (by decide)) rfl ?_
        refine zs_goto (pc := 40) t348_40 ?_
        refine zs_iload_n (pc := 18) t348_18 rfl ?_
        refine zs_if_leF (pc := 19) t348_19 li1 (by decide) ?_
        refine zs_aload_n (pc := 22) t348_22 rfl ?_
        refine zs_bipush (pc := 23) t348_23 (v := 48) (by decide) ?_
        refine zs_iload_n (pc := 25) t348_25 rfl ?_
        refine zs_iload_n (pc := 26) t348_26 rfl ?_
        obtain ⟨w65v, w65⟩ : ∃ v, a / (1 : Int32) = v := ⟨_, rfl⟩
        have w65g : w65v.toInt = a.toInt / 1 := by rw [← w65]; exact zdivp rfl li1 (by omega) (by decide)
        refine zs_idiv (pc := 27) t348_27 (by decide) (c := w65v) w65 ?_
        refine zs_bipush (pc := 28) t348_28 (v := 10) (by decide) ?_
        obtain ⟨w66v, w66⟩ : ∃ v, w65v - w65v / (10 : Int32) * (10 : Int32) = v := ⟨_, rfl⟩
        have w66g : 0 ≤ w66v.toInt ∧ w66v.toInt ≤ 9 := by rw [← w66]; exact zrem rfl li10 (by omega) (by decide)
        have w66r : w66v.toInt = w65v.toInt % 10 := by rw [← w66]; exact zremE rfl li10 (by omega) (by decide)
        refine zs_irem (pc := 30) t348_30 (by decide) (c := w66v) w66 ?_
        obtain ⟨w67v, w67e, w67⟩ := ziadd (a := (48 : Int32)) (b := w66v) li48 rfl (by omega) (by omega)
        refine zs_iadd (pc := 31) t348_31 (c := w67v) w67e ?_
        have w68 : w67v.toInt = (48 + w66v.toInt) := w67
        have w69 : w67v.toInt = (48 + w66v.toInt) := w67
        have w70 : (zI w63M 336 50).toInt = (zI w63M 336 50).toInt := (congrArg Int32.toInt rfl).trans rfl
        have w71 : (zI w63M 336 50).toInt = (zI w63M 336 50).toInt := (congrArg Int32.toInt rfl).trans rfl
        refine zs_invV (pc := 32) (k := 336) (as' := [.int w67v]) (st := []) t348_32 mf347 rfl rfl (Or.inl ⟨by decide, (zk1 (w63s.k fk_zMm_336))⟩) ⟨by decide, by decide, Nat.le_of_ble_eq_true rfl, Nat.le_of_ble_eq_true rfl⟩ (W347 w63s w63I ⟨by omega, by omega⟩ (by omega) w63y ?_) (fun _ _ q => q)
        intro w72M w72s w72I w72F w72J w72t0 w72x0
        have w73 := ib336_50 w72I
        show zGo X l 1 0 0 348 35 [(3, .int (1 : Int32)), (0, .ref 336), (1, .int a), (2, .int b)] [] w72M _
        have w72y : zWr w72M 336 50 363 (wS (wS (wS c (48 + a.toInt / 100 % 10)) (48 + a.toInt / 10 % 10)) (48 + a.toInt / 1 % 10)) := by
          have q := w72x0
          rw [show w67v.toInt = (48 + a.toInt / 1 % 10) by first | decide | omega] at q
          exact q
        refine zs_iload_n (pc := 35) t348_35 rfl ?_
        refine zs_bipush (pc := 36) t348_36 (v := 10) (by decide) ?_
        refine zs_idiv (pc := 38) t348_38 (by decide) (c := 0) (by decide) ?_
        refine zs_istore_n (pc := 39) t348_39 (ls' := [(3, .int (0 : Int32)), (0, .ref 336), (1, .int a), (2, .int b)]) (zml mf348 (by decide)) rfl ?_
        refine zs_goto (pc := 40) t348_40 ?_
        refine zs_iload_n (pc := 18) t348_18 rfl ?_
        refine zs_if_leT (pc := 19) t348_19 li0 (by decide) ?_
        refine zs_aload_n (pc := 43) t348_43 rfl ?_
        refine zs_iload_n (pc := 44) t348_44 rfl ?_
        have w74 : (zI w72M 336 50).toInt = (zI w72M 336 50).toInt := (congrArg Int32.toInt rfl).trans rfl
        have w75 : (zI w72M 336 50).toInt = (zI w72M 336 50).toInt := (congrArg Int32.toInt rfl).trans rfl
        refine zs_invV (pc := 45) (k := 336) (as' := [.int b]) (st := []) t348_45 mf347 rfl rfl (Or.inl ⟨by decide, (zk1 (w72s.k fk_zMm_336))⟩) ⟨by decide, by decide, Nat.le_of_ble_eq_true rfl, Nat.le_of_ble_eq_true rfl⟩ (W347 w72s w72I ⟨by omega, by omega⟩ (by omega) w72y ?_) (fun _ _ q => q)
        intro w76M w76s w76I w76F w76J w76t0 w76x0
        have w77 := ib336_50 w76I
        show zGo X l 1 0 0 348 48 [(3, .int (0 : Int32)), (0, .ref 336), (1, .int a), (2, .int b)] [] w76M _
        have w76y : zWr w76M 336 50 363 (wS (wS (wS (wS c (48 + a.toInt / 100 % 10)) (48 + a.toInt / 10 % 10)) (48 + a.toInt / 1 % 10)) b.toInt) := by
          have q := w76x0
          rw [show b.toInt = b.toInt by first | decide | omega] at q
          exact q
        have w78 : (zI w76M 336 50).toInt = (zI w76M 336 50).toInt := (congrArg Int32.toInt rfl).trans rfl
        exact zs_vret (pc := 48) t348_48 mr348 (hQ _ w76s w76I (((((zFr.refl).trans (w54F.mono rfl)).trans (w63F.mono rfl)).trans (w72F.mono rfl)).trans (w76F.mono rfl)) (w76J.trans (w72J.trans (w63J.trans w54J))) (by omega) (by rw [wN.k3 (by omega) (by omega)]; exact w76y))
      · refine zs_icmp_leF (pc := 7) t348_7 rfl li9 (by omega) ?_
        refine zs_iload_n (pc := 10) t348_10 rfl ?_
        refine zs_bipush (pc := 11) t348_11 (v := 10) (by decide) ?_
        refine zs_imul (pc := 13) t348_13 (c := 1000) (by decide) ?_
        refine zs_istore_n (pc := 14) t348_14 (ls' := [(3, .int (1000 : Int32)), (0, .ref 336), (1, .int a), (2, .int b)]) (zml mf348 (by decide)) rfl ?_
        refine zs_goto (pc := 15) t348_15 ?_
        refine zs_iload_n (pc := 2) t348_2 rfl ?_
        refine zs_iload_n (pc := 3) t348_3 rfl ?_
        obtain ⟨w79v, w79⟩ : ∃ v, a / (1000 : Int32) = v := ⟨_, rfl⟩
        have w79g : w79v.toInt = a.toInt / 1000 := by rw [← w79]; exact zdivp rfl li1000 (by omega) (by decide)
        refine zs_idiv (pc := 4) t348_4 (by decide) (c := w79v) w79 ?_
        refine zs_bipush (pc := 5) t348_5 (v := 9) (by decide) ?_
        refine zs_icmp_leT (pc := 7) t348_7 rfl li9 (by omega) ?_
        refine zs_iload_n (pc := 18) t348_18 rfl ?_
        refine zs_if_leF (pc := 19) t348_19 li1000 (by decide) ?_
        refine zs_aload_n (pc := 22) t348_22 rfl ?_
        refine zs_bipush (pc := 23) t348_23 (v := 48) (by decide) ?_
        refine zs_iload_n (pc := 25) t348_25 rfl ?_
        refine zs_iload_n (pc := 26) t348_26 rfl ?_
        obtain ⟨w80v, w80⟩ : ∃ v, a / (1000 : Int32) = v := ⟨_, rfl⟩
        have w80g : w80v.toInt = a.toInt / 1000 := by rw [← w80]; exact zdivp rfl li1000 (by omega) (by decide)
        refine zs_idiv (pc := 27) t348_27 (by decide) (c := w80v) w80 ?_
        refine zs_bipush (pc := 28) t348_28 (v := 10) (by decide) ?_
        obtain ⟨w81v, w81⟩ : ∃ v, w80v - w80v / (10 : Int32) * (10 : Int32) = v := ⟨_, rfl⟩
        have w81g : 0 ≤ w81v.toInt ∧ w81v.toInt ≤ 9 := by rw [← w81]; exact zrem rfl li10 (by omega) (by decide)
        have w81r : w81v.toInt = w80v.toInt % 10 := by rw [← w81]; exact zremE rfl li10 (by omega) (by decide)
        refine zs_irem (pc := 30) t348_30 (by decide) (c := w81v) w81 ?_
        obtain ⟨w82v, w82e, w82⟩ := ziadd (a := (48 : Int32)) (b := w81v) li48 rfl (by omega) (by omega)
        refine zs_iadd (pc := 31) t348_31 (c := w82v) w82e ?_
        have w83 : w82v.toInt = (48 + w81v.toInt) := w82
        have w84 : w82v.toInt = (48 + w81v.toInt) := w82
        have w85 := ib336_50 hI
        have w86 : (zI M 336 50).toInt = (zI M 336 50).toInt := (congrArg Int32.toInt rfl).trans rfl
        have w87 : (zI M 336 50).toInt = (zI M 336 50).toInt := (congrArg Int32.toInt rfl).trans rfl
        refine zs_invV (pc := 32) (k := 336) (as' := [.int w82v]) (st := []) t348_32 mf347 rfl rfl (Or.inl ⟨by decide, (zk1 (hs.k fk_zMm_336))⟩) ⟨by decide, by decide, Nat.le_of_ble_eq_true rfl, Nat.le_of_ble_eq_true rfl⟩ (W347 hs hI ⟨by omega, by omega⟩ (by omega) x0 ?_) (fun _ _ q => q)
        intro w88M w88s w88I w88F w88J w88t0 w88x0
        have w89 := ib336_50 w88I
        show zGo X l 1 0 0 348 35 [(3, .int (1000 : Int32)), (0, .ref 336), (1, .int a), (2, .int b)] [] w88M _
        have w88y : zWr w88M 336 50 363 (wS c (48 + a.toInt / 1000 % 10)) := by
          have q := w88x0
          rw [show w82v.toInt = (48 + a.toInt / 1000 % 10) by first | decide | omega] at q
          exact q
        refine zs_iload_n (pc := 35) t348_35 rfl ?_
        refine zs_bipush (pc := 36) t348_36 (v := 10) (by decide) ?_
        refine zs_idiv (pc := 38) t348_38 (by decide) (c := 100) (by decide) ?_
        refine zs_istore_n (pc := 39) t348_39 (ls' := [(3, .int (100 : Int32)), (0, .ref 336), (1, .int a), (2, .int b)]) (zml mf348 (by decide)) rfl ?_
        refine zs_goto (pc := 40) t348_40 ?_
        refine zs_iload_n (pc := 18) t348_18 rfl ?_
        refine zs_if_leF (pc := 19) t348_19 li100 (by decide) ?_
        refine zs_aload_n (pc := 22) t348_22 rfl ?_
        refine zs_bipush (pc := 23) t348_23 (v := 48) (by decide) ?_
        refine zs_iload_n (pc := 25) t348_25 rfl ?_
        refine zs_iload_n (pc := 26) t348_26 rfl ?_
        obtain ⟨w90v, w90⟩ : ∃ v, a / (100 : Int32) = v := ⟨_, rfl⟩
        have w90g : w90v.toInt = a.toInt / 100 := by rw [← w90]; exact zdivp rfl li100 (by omega) (by decide)
        refine zs_idiv (pc := 27) t348_27 (by decide) (c := w90v) w90 ?_
        refine zs_bipush (pc := 28) t348_28 (v := 10) (by decide) ?_
        obtain ⟨w91v, w91⟩ : ∃ v, w90v - w90v / (10 : Int32) * (10 : Int32) = v := ⟨_, rfl⟩
        have w91g : 0 ≤ w91v.toInt ∧ w91v.toInt ≤ 9 := by rw [← w91]; exact zrem rfl li10 (by omega) (by decide)
        have w91r : w91v.toInt = w90v.toInt % 10 := by rw [← w91]; exact zremE rfl li10 (by omega) (by decide)
        refine zs_irem (pc := 30) t348_30 (by decide) (c := w91v) w91 ?_
        obtain ⟨w92v, w92e, w92⟩ := ziadd (a := (48 : Int32)) (b := w91v) li48 rfl (by omega) (by omega)
        refine zs_iadd (pc := 31) t348_31 (c := w92v) w92e ?_
        have w93 : w92v.toInt = (48 + w91v.toInt) := w92
        have w94 : w92v.toInt = (48 + w91v.toInt) := w92
        have w95 : (zI w88M 336 50).toInt = (zI w88M 336 50).toInt := (congrArg Int32.toInt rfl).trans rfl
        have w96 : (zI w88M 336 50).toInt = (zI w88M 336 50).toInt := (congrArg Int32.toInt rfl).trans rfl
        refine zs_invV (pc := 32) (k := 336) (as' := [.int w92v]) (st := []) t348_32 mf347 rfl rfl (Or.inl ⟨by decide, (zk1 (w88s.k fk_zMm_336))⟩) ⟨by decide, by decide, Nat.le_of_ble_eq_true rfl, Nat.le_of_ble_eq_true rfl⟩ (W347 w88s w88I ⟨by omega, by omega⟩ (by omega) w88y ?_) (fun _ _ q => q)
        intro w97M w97s w97I w97F w97J w97t0 w97x0
        have w98 := ib336_50 w97I
        show zGo X l 1 0 0 348 35 [(3, .int (100 : Int32)), (0, .ref 336), (1, .int a), (2, .int b)] [] w97M _
        have w97y : zWr w97M 336 50 363 (wS (wS c (48 + a.toInt / 1000 % 10)) (48 + a.toInt / 100 % 10)) := by
          have q := w97x0
          rw [show w92v.toInt = (48 + a.toInt / 100 % 10) by first | decide | omega] at q
          exact q
        refine zs_iload_n (pc := 35) t348_35 rfl ?_
        refine zs_bipush (pc := 36) t348_36 (v := 10) (by decide) ?_
        refine zs_idiv (pc := 38) t348_38 (by decide) (c := 10) (by decide) ?_
        refine zs_istore_n (pc := 39) t348_39 (ls' := [(3, .int (10 : Int32)), (0, .ref 336), (1, .int a), (2, .int b)]) (zml mf348 (by decide)) rfl ?_
        refine zs_goto (pc := 40) t348_40 ?_
        refine zs_iload_n (pc := 18) t348_18 rfl ?_
        refine zs_if_leF (pc := 19) t348_19 li10 (by decide) ?_
        refine zs_aload_n (pc := 22) t348_22 rfl ?_
        refine zs_bipush (pc := 23) t348_23 (v := 48) (by decide) ?_
        refine zs_iload_n (pc := 25) t348_25 rfl ?_
        refine zs_iload_n (pc := 26) t348_26 rfl ?_
        obtain ⟨w99v, w99⟩ : ∃ v, a / (10 : Int32) = v := ⟨_, rfl⟩
        have w99g : w99v.toInt = a.toInt / 10 := by rw [← w99]; exact zdivp rfl li10 (by omega) (by decide)
        refine zs_idiv (pc := 27) t348_27 (by decide) (c := w99v) w99 ?_
        refine zs_bipush (pc := 28) t348_28 (v := 10) (by decide) ?_
        obtain ⟨w100v, w100⟩ : ∃ v, w99v - w99v / (10 : Int32) * (10 : Int32) = v := ⟨_, rfl⟩
        have w100g : 0 ≤ w100v.toInt ∧ w100v.toInt ≤ 9 := by rw [← w100]; exact zrem rfl li10 (by omega) (by decide)
        have w100r : w100v.toInt = w99v.toInt % 10 := by rw [← w100]; exact zremE rfl li10 (by omega) (by decide)
        refine zs_irem (pc := 30) t348_30 (by decide) (c := w100v) w100 ?_
        obtain ⟨w101v, w101e, w101⟩ := ziadd (a := (48 : Int32)) (b := w100v) li48 rfl (by omega) (by omega)
        refine zs_iadd (pc := 31) t348_31 (c := w101v) w101e ?_
        have w102 : w101v.toInt = (48 + w100v.toInt) := w101
        have w103 : w101v.toInt = (48 + w100v.toInt) := w101
        have w104 : (zI w97M 336 50).toInt = (zI w97M 336 50).toInt := (congrArg Int32.toInt rfl).trans rfl
        have w105 : (zI w97M 336 50).toInt = (zI w97M 336 50).toInt := (congrArg Int32.toInt rfl).trans rfl
        refine zs_invV (pc := 32) (k := 336) (as' := [.int w101v]) (st := []) t348_32 mf347 rfl rfl (Or.inl ⟨by decide, (zk1 (w97s.k fk_zMm_336))⟩) ⟨by decide, by decide, Nat.le_of_ble_eq_true rfl, Nat.le_of_ble_eq_true rfl⟩ (W347 w97s w97I ⟨by omega, by omega⟩ (by omega) w97y ?_) (fun _ _ q => q)
        intro w106M w106s w106I w106F w106J w106t0 w106x0
        have w107 := ib336_50 w106I
        show zGo X l 1 0 0 348 35 [(3, .int (10 : Int32)), (0, .ref 336), (1, .int a), (2, .int b)] [] w106M _
        have w106y : zWr w106M 336 50 363 (wS (wS (wS c (48 + a.toInt / 1000 % 10)) (48 + a.toInt / 100 % 10)) (48 + a.toInt / 10 % 10)) := by
          have q := w106x0
          rw [show w101v.toInt = (48 + a.toInt / 10 % 10) by first | decide | omega] at q
          exact q
        refine zs_iload_n (pc := 35) t348_35 rfl ?_
        refine zs_bipush (pc := 36) t348_36 (v := 10) (by decide) ?_
        refine zs_idiv (pc := 38) t348_38 (by decide) (c := 1) (by decide) ?_
        refine zs_istore_n (pc := 39) t348_39 (ls' := [(3, .int (1 : Int32)), (0, .ref 336), (1, .int a), (2, .int b)]) (zml mf348 (by decide)) rfl ?_
        refine zs_goto (pc := 40) t348_40 ?_
        refine zs_iload_n (pc := 18) t348_18 rfl ?_
        refine zs_if_leF (pc := 19) t348_19 li1 (by decide) ?_
        refine zs_aload_n (pc := 22) t348_22 rfl ?_
        refine zs_bipush (pc := 23) t348_23 (v := 48) (by decide) ?_
        refine zs_iload_n (pc := 25) t348_25 rfl ?_
        refine zs_iload_n (pc := 26) t348_26 rfl ?_
        obtain ⟨w108v, w108⟩ : ∃ v, a / (1 : Int32) = v := ⟨_, rfl⟩
        have w108g : w108v.toInt = a.toInt / 1 := by rw [← w108]; exact zdivp rfl li1 (by omega) (by decide)
        refine zs_idiv (pc := 27) t348_27 (by decide) (c := w108v) w108 ?_
        refine zs_bipush (pc := 28) t348_28 (v := 10) (by decide) ?_
        obtain ⟨w109v, w109⟩ : ∃ v, w108v - w108v / (10 : Int32) * (10 : Int32) = v := ⟨_, rfl⟩
        have w109g : 0 ≤ w109v.toInt ∧ w109v.toInt ≤ 9 := by rw [← w109]; exact zrem rfl li10 (by omega) (by decide)
        have w109r : w109v.toInt = w108v.toInt % 10 := by rw [← w109]; exact zremE rfl li10 (by omega) (by decide)
        refine zs_irem (pc := 30) t348_30 (by decide) (c := w109v) w109 ?_
        obtain ⟨w110v, w110e, w110⟩ := ziadd (a := (48 : Int32)) (b := w109v) li48 rfl (by omega) (by omega)
        refine zs_iadd (pc := 31) t348_31 (c := w110v) w110e ?_
        have w111 : w110v.toInt = (48 + w109v.toInt) := w110
        have w112 : w110v.toInt = (48 + w109v.toInt) := w110
        have w113 : (zI w106M 336 50).toInt = (zI w106M 336 50).toInt := (congrArg Int32.toInt rfl).trans rfl
        have w114 : (zI w106M 336 50).toInt = (zI w106M 336 50).toInt := (congrArg Int32.toInt rfl).trans rfl
        refine zs_invV (pc := 32) (k := 336) (as' := [.int w110v]) (st := []) t348_32 mf347 rfl rfl (Or.inl ⟨by decide, (zk1 (w106s.k fk_zMm_336))⟩) ⟨by decide, by decide, Nat.le_of_ble_eq_true rfl, Nat.le_of_ble_eq_true rfl⟩ (W347 w106s w106I ⟨by omega, by omega⟩ (by omega) w106y ?_) (fun _ _ q => q)
        intro w115M w115s w115I w115F w115J w115t0 w115x0
        have w116 := ib336_50 w115I
        show zGo X l 1 0 0 348 35 [(3, .int (1 : Int32)), (0, .ref 336), (1, .int a), (2, .int b)] [] w115M _
        have w115y : zWr w115M 336 50 363 (wS (wS (wS (wS c (48 + a.toInt / 1000 % 10)) (48 + a.toInt / 100 % 10)) (48 + a.toInt / 10 % 10)) (48 + a.toInt / 1 % 10)) := by
          have q := w115x0
          rw [show w110v.toInt = (48 + a.toInt / 1 % 10) by first | decide | omega] at q
          exact q
        refine zs_iload_n (pc := 35) t348_35 rfl ?_
        refine zs_bipush (pc := 36) t348_36 (v := 10) (by decide) ?_
        refine zs_idiv (pc := 38) t348_38 (by decide) (c := 0) (by decide) ?_
        refine zs_istore_n (pc := 39) t348_39 (ls' := [(3, .int (0 : Int32)), (0, .ref 336), (1, .int a), (2, .int b)]) (zml mf348 (by decide)) rfl ?_
        refine zs_goto (pc := 40) t348_40 ?_
        refine zs_iload_n (pc := 18) t348_18 rfl ?_
        refine zs_if_leT (pc := 19) t348_19 li0 (by decide) ?_
        refine zs_aload_n (pc := 43) t348_43 rfl ?_
        refine zs_iload_n (pc := 44) t348_44 rfl ?_
        have w117 : (zI w115M 336 50).toInt = (zI w115M 336 50).toInt := (congrArg Int32.toInt rfl).trans rfl
        have w118 : (zI w115M 336 50).toInt = (zI w115M 336 50).toInt := (congrArg Int32.toInt rfl).trans rfl
        refine zs_invV (pc := 45) (k := 336) (as' := [.int b]) (st := []) t348_45 mf347 rfl rfl (Or.inl ⟨by decide, (zk1 (w115s.k fk_zMm_336))⟩) ⟨by decide, by decide, Nat.le_of_ble_eq_true rfl, Nat.le_of_ble_eq_true rfl⟩ (W347 w115s w115I ⟨by omega, by omega⟩ (by omega) w115y ?_) (fun _ _ q => q)
        intro w119M w119s w119I w119F w119J w119t0 w119x0
        have w120 := ib336_50 w119I
        show zGo X l 1 0 0 348 48 [(3, .int (0 : Int32)), (0, .ref 336), (1, .int a), (2, .int b)] [] w119M _
        have w119y : zWr w119M 336 50 363 (wS (wS (wS (wS (wS c (48 + a.toInt / 1000 % 10)) (48 + a.toInt / 100 % 10)) (48 + a.toInt / 10 % 10)) (48 + a.toInt / 1 % 10)) b.toInt) := by
          have q := w119x0
          rw [show b.toInt = b.toInt by first | decide | omega] at q
          exact q
        have w121 : (zI w119M 336 50).toInt = (zI w119M 336 50).toInt := (congrArg Int32.toInt rfl).trans rfl
        exact zs_vret (pc := 48) t348_48 mr348 (hQ _ w119s w119I ((((((zFr.refl).trans (w88F.mono rfl)).trans (w97F.mono rfl)).trans (w106F.mono rfl)).trans (w115F.mono rfl)).trans (w119F.mono rfl)) (w119J.trans (w115J.trans (w106J.trans (w97J.trans w88J)))) (by omega) (by rw [wN.k4 (by omega)]; exact w119y))
theorem O346 {X : zX} {l : Launch} {M : zM} {Q : Option Value → zM → Prop} (hs : zSk zMm M) (hI : zIv mLo mHi M) {F : Nat → Int} (pR : zPR M) (pC : zPC M) (pF : zPF M) (x0 : zRw M 0 F) (x1 : zWF F) (hQ : ∀ (M' : zM) (v : Int32), zSk zMm M' → zIv mLo mHi M' → zFr [(363, 363, none), (336, 336, some 50)] M M' → zJ M' 351 = zJ M 351 → zPR M' → zPC M' → zPF M' → (v.toInt = (wAll F).1 ∧ zWr M' 336 50 363 (wAll F)) → Q (some (.int v)) M') : zCall X l 2 0 0 346 [.ref 336] M Q := by
  refine zs_in (by decide) mf346 (Nat.le_of_ble_eq_true rfl) ?_
  show zGo X l 2 0 0 346 0 [(0, .ref 336)] [] M _
  have f1 := x1.1
  have f3 := x1.2.2.2
  have w1 := ibA0 hI
  have w2 : (zI M 337 0).toInt = (zI M 337 0).toInt := (congrArg Int32.toInt rfl).trans rfl
  have e0 : (zI M 337 0).toInt = F 0 := x0.at (by decide) (by decide) (by decide)
  have w3 := ibA1 hI
  have w4 : (zI M 337 1).toInt = (zI M 337 1).toInt := (congrArg Int32.toInt rfl).trans rfl
  have e1 : (zI M 337 1).toInt = F 1 := x0.at (by decide) (by decide) (by decide)
  have w5 := ibA2 hI
  have w6 : (zI M 337 2).toInt = (zI M 337 2).toInt := (congrArg Int32.toInt rfl).trans rfl
  have e2 : (zI M 337 2).toInt = F 2 := x0.at (by decide) (by decide) (by decide)
  refine zs_aload_n (pc := 0) t346_0 rfl ?_
  refine zs_iconst (pc := 1) t346_1 (v := 0) (by decide) ?_
  have w7 : zIv mLo mHi (zsI M 336 50 (0 : Int32)) := zIv.put hI (show 0 ≤ (0 : Int32).toInt ∧ (0 : Int32).toInt ≤ 150 from ⟨by decide, by decide⟩)
  have w8 : zWr (zsI M 336 50 (0 : Int32)) 336 50 363 (0, fun _ => 0) := zWr.zero (by rw [zIs]; decide)
  refine zs_putI (pc := 2) t346_2 (zk1 (hs.k fk_zMm_336)) rfl ?_
  refine zs_iconst (pc := 5) t346_5 (v := 0) (by decide) ?_
  refine zs_istore_n (pc := 6) t346_6 (ls' := [(1, .int (0 : Int32)), (0, .ref 336)]) (zml mf346 (by decide)) rfl ?_
  have w9L : ∀ (m : Nat) (w9x1 : Int32) (w9M : zM), (0 ≤ w9x1.toInt ∧ w9x1.toInt ≤ 8) → zSk zMm w9M → zIv mLo mHi w9M → zFr [(363, 363, none), (336, 336, some 50)] (zsI M 336 50 (0 : Int32)) w9M → zJ w9M 351 = zJ (zsI M 336 50 (0 : Int32)) 351 → (w9x1.toInt ≤ F 0) → ((zI w9M 336 50).toInt ≤ 6 * w9x1.toInt) → (∀ l : Nat, (l : Int) = w9x1.toInt → zWr w9M 336 50 363 (wL F l)) → 8 - w9x1.toInt ≤ (m : Int) → zGo X l 2 0 0 346 7 [(0, .ref 336), (1, .int w9x1)] [] w9M Q := by
    intro m
    induction m using Nat.strongRecOn with
    | ind w9m w9ih =>
      intro w9x1 w9M w9b1 w9s w9I w9F w9J w9r0 w9r1 w9t0 w9q
      obtain ⟨w10n, w10⟩ : ∃ n : Nat, w9x1.toInt = (n : Int) := ⟨(w9x1.toInt).toNat, by omega⟩
      have w11 := ib336_50 w9I
      refine zs_iload_n (pc := 7) t346_7 rfl ?_
      refine zs_aload_n (pc := 8) t346_8 rfl ?_
      refine zs_get (pc := 9) t346_9 (by decide) (zk1 (w9s.k fk_zMm_336)) (w9s.p rfl fv_zMm_336_0) ?_
      refine zs_iconst (pc := 12) t346_12 (v := 0) (by decide) ?_
      have w12 : (zI M 337 0).toInt = F 0 := x0.at (by decide) (by decide) (by decide)
      have w13 : (zI M 337 0).toInt = F 0 := x0.at (by decide) (by decide) (by decide)
      refine zs_iald (pc := 13) t346_13 (j := 0) (by decide) (zk1 (w9s.k fk_zMm_337)) li0 (zk2 (w9s.k fk_zMm_337) (by decide)) ((w9F 337 0 rfl).trans ((zIo (by decide)).trans rfl)) ?_
      by_cases w14 : (zI M 337 0).toInt ≤ w9x1.toInt
      · refine zs_icmp_geT (pc := 14) t346_14 rfl rfl (by omega) ?_
        refine zs_aload_n (pc := 40) t346_40 rfl ?_
        refine zs_bipush (pc := 41) t346_41 (v := 115) (by decide) ?_
        have w15 : (115 : Int32).toInt = 115 := li115
        have w16 : (115 : Int32).toInt = 115 := li115
        have w17 : (zI w9M 336 50).toInt = (zI w9M 336 50).toInt := (congrArg Int32.toInt rfl).trans rfl
        have w18 : (zI w9M 336 50).toInt = (zI w9M 336 50).toInt := (congrArg Int32.toInt rfl).trans rfl
        refine zs_invV (pc := 43) (k := 336) (as' := [.int (115 : Int32)]) (st := []) t346_43 mf347 rfl rfl (Or.inl ⟨by decide, (zk1 (w9s.k fk_zMm_336))⟩) ⟨by decide, by decide, Nat.le_of_ble_eq_true rfl, Nat.le_of_ble_eq_true rfl⟩ (W347 w9s w9I ⟨by decide, by decide⟩ (by omega) (w9t0 w10n (by omega)) ?_) (fun _ _ q => q)
        intro w19M w19s w19I w19F w19J w19t0 w19x0
        have w20 := ib336_50 w19I
        show zGo X l 2 0 0 346 46 [(0, .ref 336), (1, .int w9x1)] [] w19M _
        have w19y : zWr w19M 336 50 363 (wS (wL F w10n) 115) := by
          have q := w19x0
          rw [show (115 : Int32).toInt = 115 by first | decide | omega] at q
          exact q
        refine zs_iconst (pc := 46) t346_46 (v := 5) (by decide) ?_
        refine zs_istore_n (pc := 47) t346_47 (ls' := [(1, .int (5 : Int32)), (0, .ref 336)]) (zml mf346 (by decide)) rfl ?_
        refine zs_iload_n (pc := 48) t346_48 rfl ?_
        refine zs_bipush (pc := 49) t346_49 (v := 8) (by decide) ?_
        refine zs_icmp_gtF (pc := 51) t346_51 li5 li8 (by decide) ?_
        refine zs_aload_n (pc := 54) t346_54 rfl ?_
        refine zs_aload_n (pc := 55) t346_55 rfl ?_
        refine zs_get (pc := 56) t346_56 (by decide) (zk1 (w19s.k fk_zMm_336)) (w19s.p rfl fv_zMm_336_0) ?_
        refine zs_iload_n (pc := 59) t346_59 rfl ?_
        have w21 := ibA5 hI
        have w22 : (zI M 337 5).toInt = F 5 := x0.at (by decide) (by decide) (by decide)
        have w23 : (zI M 337 5).toInt = F 5 := x0.at (by decide) (by decide) (by decide)
        refine zs_iald (pc := 60) t346_60 (j := 5) (by decide) (zk1 (w19s.k fk_zMm_337)) li5 (zk2 (w19s.k fk_zMm_337) (by decide)) ((w19F 337 5 rfl).trans ((w9F 337 5 rfl).trans ((zIo (by decide)).trans rfl))) ?_
        refine zs_iload_n (pc := 61) t346_61 rfl ?_
        refine zs_bipush (pc := 62) t346_62 (v := 8) (by decide) ?_
        refine zs_icmp_neT (pc := 64) t346_64 li5 li8 (by decide) ?_
        refine zs_bipush (pc := 72) t346_72 (v := 44) (by decide) ?_
        have w24 : (44 : Int32).toInt = 44 := li44
        have w25 : (44 : Int32).toInt = 44 := li44
        have w26 : (zI w19M 336 50).toInt = (zI w19M 336 50).toInt := (congrArg Int32.toInt rfl).trans rfl
        have w27 : (zI w19M 336 50).toInt = (zI w19M 336 50).toInt := (congrArg Int32.toInt rfl).trans rfl
        refine zs_invV (pc := 74) (k := 336) (as' := [.int (zI M 337 5), .int (44 : Int32)]) (st := []) t346_74 mf348 rfl rfl (Or.inl ⟨by decide, (zk1 (w19s.k fk_zMm_336))⟩) ⟨by decide, by decide, Nat.le_of_ble_eq_true rfl, Nat.le_of_ble_eq_true rfl⟩ (W348 w19s w19I ⟨by omega, by omega⟩ ⟨by decide, by decide⟩ (by omega) w19y ?_) (fun _ _ q => q)
        intro w28M w28s w28I w28F w28J w28t0 w28x0
        have w29 := ib336_50 w28I
        show zGo X l 2 0 0 346 77 [(1, .int (5 : Int32)), (0, .ref 336)] [] w28M _
        have w28y : zWr w28M 336 50 363 (wS (wN (wS (wL F w10n) 115) (F 5)) 44) := by
          have q := w28x0
          rw [show (zI M 337 5).toInt = (F 5) by first | decide | omega, show (44 : Int32).toInt = 44 by first | decide | omega] at q
          exact q
        refine zs_iinc (pc := 77) t346_77 (ls' := [(1, .int (6 : Int32)), (0, .ref 336)]) (zml mf346 (by decide)) rfl (c := 6) (by decide) rfl ?_
        refine zs_goto (pc := 80) t346_80 ?_
        refine zs_iload_n (pc := 48) t346_48 rfl ?_
        refine zs_bipush (pc := 49) t346_49 (v := 8) (by decide) ?_
        refine zs_icmp_gtF (pc := 51) t346_51 li6 li8 (by decide) ?_
        refine zs_aload_n (pc := 54) t346_54 rfl ?_
        refine zs_aload_n (pc := 55) t346_55 rfl ?_
        refine zs_get (pc := 56) t346_56 (by decide) (zk1 (w28s.k fk_zMm_336)) (w28s.p rfl fv_zMm_336_0) ?_
        refine zs_iload_n (pc := 59) t346_59 rfl ?_
        have w30 := ibA6 hI
        have w31 : (zI M 337 6).toInt = F 6 := x0.at (by decide) (by decide) (by decide)
        have w32 : (zI M 337 6).toInt = F 6 := x0.at (by decide) (by decide) (by decide)
        refine zs_iald (pc := 60) t346_60 (j := 6) (by decide) (zk1 (w28s.k fk_zMm_337)) li6 (zk2 (w28s.k fk_zMm_337) (by decide)) ((w28F 337 6 rfl).trans ((w19F 337 6 rfl).trans ((w9F 337 6 rfl).trans ((zIo (by decide)).trans rfl)))) ?_
        refine zs_iload_n (pc := 61) t346_61 rfl ?_
        refine zs_bipush (pc := 62) t346_62 (v := 8) (by decide) ?_
        refine zs_icmp_neT (pc := 64) t346_64 li6 li8 (by decide) ?_
        refine zs_bipush (pc := 72) t346_72 (v := 44) (by decide) ?_
        have w33 : (44 : Int32).toInt = 44 := li44
        have w34 : (44 : Int32).toInt = 44 := li44
        have w35 : (zI w28M 336 50).toInt = (zI w28M 336 50).toInt := (congrArg Int32.toInt rfl).trans rfl
        have w36 : (zI w28M 336 50).toInt = (zI w28M 336 50).toInt := (congrArg Int32.toInt rfl).trans rfl
        refine zs_invV (pc := 74) (k := 336) (as' := [.int (zI M 337 6), .int (44 : Int32)]) (st := []) t346_74 mf348 rfl rfl (Or.inl ⟨by decide, (zk1 (w28s.k fk_zMm_336))⟩) ⟨by decide, by decide, Nat.le_of_ble_eq_true rfl, Nat.le_of_ble_eq_true rfl⟩ (W348 w28s w28I ⟨by omega, by omega⟩ ⟨by decide, by decide⟩ (by omega) w28y ?_) (fun _ _ q => q)
        intro w37M w37s w37I w37F w37J w37t0 w37x0
        have w38 := ib336_50 w37I
        show zGo X l 2 0 0 346 77 [(1, .int (6 : Int32)), (0, .ref 336)] [] w37M _
        have w37y : zWr w37M 336 50 363 (wS (wN (wS (wN (wS (wL F w10n) 115) (F 5)) 44) (F 6)) 44) := by
          have q := w37x0
          rw [show (zI M 337 6).toInt = (F 6) by first | decide | omega, show (44 : Int32).toInt = 44 by first | decide | omega] at q
          exact q
        refine zs_iinc (pc := 77) t346_77 (ls' := [(1, .int (7 : Int32)), (0, .ref 336)]) (zml mf346 (by decide)) rfl (c := 7) (by decide) rfl ?_
        refine zs_goto (pc := 80) t346_80 ?_
        refine zs_iload_n (pc := 48) t346_48 rfl ?_
        refine zs_bipush (pc := 49) t346_49 (v := 8) (by decide) ?_
        refine zs_icmp_gtF (pc := 51) t346_51 li7 li8 (by decide) ?_
        refine zs_aload_n (pc := 54) t346_54 rfl ?_
        refine zs_aload_n (pc := 55) t346_55 rfl ?_
        refine zs_get (pc := 56) t346_56 (by decide) (zk1 (w37s.k fk_zMm_336)) (w37s.p rfl fv_zMm_336_0) ?_
        refine zs_iload_n (pc := 59) t346_59 rfl ?_
        have w39 := ibA7 hI
        have w40 : (zI M 337 7).toInt = F 7 := x0.at (by decide) (by decide) (by decide)
        have w41 : (zI M 337 7).toInt = F 7 := x0.at (by decide) (by decide) (by decide)
        refine zs_iald (pc := 60) t346_60 (j := 7) (by decide) (zk1 (w37s.k fk_zMm_337)) li7 (zk2 (w37s.k fk_zMm_337) (by decide)) ((w37F 337 7 rfl).trans ((w28F 337 7 rfl).trans ((w19F 337 7 rfl).trans ((w9F 337 7 rfl).trans ((zIo (by decide)).trans rfl))))) ?_
        refine zs_iload_n (pc := 61) t346_61 rfl ?_
        refine zs_bipush (pc := 62) t346_62 (v := 8) (by decide) ?_
        refine zs_icmp_neT (pc := 64) t346_64 li7 li8 (by decide) ?_
        refine zs_bipush (pc := 72) t346_72 (v := 44) (by decide) ?_
        have w42 : (44 : Int32).toInt = 44 := li44
        have w43 : (44 : Int32).toInt = 44 := li44
        have w44 : (zI w37M 336 50).toInt = (zI w37M 336 50).toInt := (congrArg Int32.toInt rfl).trans rfl
        have w45 : (zI w37M 336 50).toInt = (zI w37M 336 50).toInt := (congrArg Int32.toInt rfl).trans rfl
        refine zs_invV (pc := 74) (k := 336) (as' := [.int (zI M 337 7), .int (44 : Int32)]) (st := []) t346_74 mf348 rfl rfl (Or.inl ⟨by decide, (zk1 (w37s.k fk_zMm_336))⟩) ⟨by decide, by decide, Nat.le_of_ble_eq_true rfl, Nat.le_of_ble_eq_true rfl⟩ (W348 w37s w37I ⟨by omega, by omega⟩ ⟨by decide, by decide⟩ (by omega) w37y ?_) (fun _ _ q => q)
        intro w46M w46s w46I w46F w46J w46t0 w46x0
        have w47 := ib336_50 w46I
        show zGo X l 2 0 0 346 77 [(1, .int (7 : Int32)), (0, .ref 336)] [] w46M _
        have w46y : zWr w46M 336 50 363 (wS (wN (wS (wN (wS (wN (wS (wL F w10n) 115) (F 5)) 44) (F 6)) 44) (F 7)) 44) := by
          have q := w46x0
          rw [show (zI M 337 7).toInt = (F 7) by first | decide | omega, show (44 : Int32).toInt = 44 by first | decide | omega] at q
          exact q
        refine zs_iinc (pc := 77) t346_77 (ls' := [(1, .int (8 : Int32)), (0, .ref 336)]) (zml mf346 (by decide)) rfl (c := 8) (by decide) rfl ?_
        refine zs_goto (pc := 80) t346_80 ?_
        refine zs_iload_n (pc := 48) t346_48 rfl ?_
        refine zs_bipush (pc := 49) t346_49 (v := 8) (by decide) ?_
        refine zs_icmp_gtF (pc := 51) t346_51 li8 li8 (by decide) ?_
        refine zs_aload_n (pc := 54) t346_54 rfl ?_
        refine zs_aload_n (pc := 55) t346_55 rfl ?_
        refine zs_get (pc := 56) t346_56 (by decide) (zk1 (w46s.k fk_zMm_336)) (w46s.p rfl fv_zMm_336_0) ?_
        refine zs_iload_n (pc := 59) t346_59 rfl ?_
        have w48 := ibA8 hI
        have w49 : (zI M 337 8).toInt = F 8 := x0.at (by decide) (by decide) (by decide)
        have w50 : (zI M 337 8).toInt = F 8 := x0.at (by decide) (by decide) (by decide)
        refine zs_iald (pc := 60) t346_60 (j := 8) (by decide) (zk1 (w46s.k fk_zMm_337)) li8 (zk2 (w46s.k fk_zMm_337) (by decide)) ((w46F 337 8 rfl).trans ((w37F 337 8 rfl).trans ((w28F 337 8 rfl).trans ((w19F 337 8 rfl).trans ((w9F 337 8 rfl).trans ((zIo (by decide)).trans rfl)))))) ?_
        refine zs_iload_n (pc := 61) t346_61 rfl ?_
        refine zs_bipush (pc := 62) t346_62 (v := 8) (by decide) ?_
        refine zs_icmp_neF (pc := 64) t346_64 li8 li8 (by decide) ?_
        refine zs_bipush (pc := 67) t346_67 (v := 59) (by decide) ?_
        refine zs_goto (pc := 69) t346_69 ?_
        have w51 : (59 : Int32).toInt = 59 := li59
        have w52 : (59 : Int32).toInt = 59 := li59
        have w53 : (zI w46M 336 50).toInt = (zI w46M 336 50).toInt := (congrArg Int32.toInt rfl).trans rfl
        have w54 : (zI w46M 336 50).toInt = (zI w46M 336 50).toInt := (congrArg Int32.toInt rfl).trans rfl
        refine zs_invV (pc := 74) (k := 336) (as' := [.int (zI M 337 8), .int (59 : Int32)]) (st := []) t346_74 mf348 rfl rfl (Or.inl ⟨by decide, (zk1 (w46s.k fk_zMm_336))⟩) ⟨by decide, by decide, Nat.le_of_ble_eq_true rfl, Nat.le_of_ble_eq_true rfl⟩ (W348 w46s w46I ⟨by omega, by omega⟩ ⟨by decide, by decide⟩ (by omega) w46y ?_) (fun _ _ q => q)
        intro w55M w55s w55I w55F w55J w55t0 w55x0
        have w56 := ib336_50 w55I
        show zGo X l 2 0 0 346 77 [(1, .int (8 : Int32)), (0, .ref 336)] [] w55M _
        have w55y : zWr w55M 336 50 363 (wS (wN (wS (wN (wS (wN (wS (wN (wS (wL F w10n) 115) (F 5)) 44) (F 6)) 44) (F 7)) 44) (F 8)) 59) := by
          have q := w55x0
          rw [show (zI M 337 8).toInt = (F 8) by first | decide | omega, show (59 : Int32).toInt = 59 by first | decide | omega] at q
          exact q
        refine zs_iinc (pc := 77) t346_77 (ls' := [(1, .int (9 : Int32)), (0, .ref 336)]) (zml mf346 (by decide)) rfl (c := 9) (by decide) rfl ?_
        refine zs_goto (pc := 80) t346_80 ?_
        refine zs_iload_n (pc := 48) t346_48 rfl ?_
        refine zs_bipush (pc := 49) t346_49 (v := 8) (by decide) ?_
        refine zs_icmp_gtT (pc := 51) t346_51 li9 li8 (by decide) ?_
        refine zs_aload_n (pc := 83) t346_83 rfl ?_
        refine zs_bipush (pc := 84) t346_84 (v := 103) (by decide) ?_
        have w57 : (103 : Int32).toInt = 103 := li103
        have w58 : (103 : Int32).toInt = 103 := li103
        have w59 : (zI w55M 336 50).toInt = (zI w55M 336 50).toInt := (congrArg Int32.toInt rfl).trans rfl
        have w60 : (zI w55M 336 50).toInt = (zI w55M 336 50).toInt := (congrArg Int32.toInt rfl).trans rfl
        refine zs_invV (pc := 86) (k := 336) (as' := [.int (103 : Int32)]) (st := []) t346_86 mf347 rfl rfl (Or.inl ⟨by decide, (zk1 (w55s.k fk_zMm_336))⟩) ⟨by decide, by decide, Nat.le_of_ble_eq_true rfl, Nat.le_of_ble_eq_true rfl⟩ (W347 w55s w55I ⟨by decide, by decide⟩ (by omega) w55y ?_) (fun _ _ q => q)
        intro w61M w61s w61I w61F w61J w61t0 w61x0
        have w62 := ib336_50 w61I
        show zGo X l 2 0 0 346 89 [(1, .int (9 : Int32)), (0, .ref 336)] [] w61M _
        have w61y : zWr w61M 336 50 363 (wS (wS (wN (wS (wN (wS (wN (wS (wN (wS (wL F w10n) 115) (F 5)) 44) (F 6)) 44) (F 7)) 44) (F 8)) 59) 103) := by
          have q := w61x0
          rw [show (103 : Int32).toInt = 103 by first | decide | omega] at q
          exact q
        refine zs_aload_n (pc := 89) t346_89 rfl ?_
        refine zs_aload_n (pc := 90) t346_90 rfl ?_
        refine zs_get (pc := 91) t346_91 (by decide) (zk1 (w61s.k fk_zMm_336)) (w61s.p rfl fv_zMm_336_0) ?_
        refine zs_bipush (pc := 94) t346_94 (v := 9) (by decide) ?_
        have w63 := ibA9 hI
        have w64 : (zI M 337 9).toInt = F 9 := x0.at (by decide) (by decide) (by decide)
        have w65 : (zI M 337 9).toInt = F 9 := x0.at (by decide) (by decide) (by decide)
        refine zs_iald (pc := 96) t346_96 (j := 9) (by decide) (zk1 (w61s.k fk_zMm_337)) li9 (zk2 (w61s.k fk_zMm_337) (by decide)) ((w61F 337 9 rfl).trans ((w55F 337 9 rfl).trans ((w46F 337 9 rfl).trans ((w37F 337 9 rfl).trans ((w28F 337 9 rfl).trans ((w19F 337 9 rfl).trans ((w9F 337 9 rfl).trans ((zIo (by decide)).trans rfl)))))))) ?_
        refine zs_bipush (pc := 97) t346_97 (v := 59) (by decide) ?_
        have w66 : (59 : Int32).toInt = 59 := li59
        have w67 : (59 : Int32).toInt = 59 := li59
        have w68 : (zI w61M 336 50).toInt = (zI w61M 336 50).toInt := (congrArg Int32.toInt rfl).trans rfl
        have w69 : (zI w61M 336 50).toInt = (zI w61M 336 50).toInt := (congrArg Int32.toInt rfl).trans rfl
        refine zs_invV (pc := 99) (k := 336) (as' := [.int (zI M 337 9), .int (59 : Int32)]) (st := []) t346_99 mf348 rfl rfl (Or.inl ⟨by decide, (zk1 (w61s.k fk_zMm_336))⟩) ⟨by decide, by decide, Nat.le_of_ble_eq_true rfl, Nat.le_of_ble_eq_true rfl⟩ (W348 w61s w61I ⟨by omega, by omega⟩ ⟨by decide, by decide⟩ (by omega) w61y ?_) (fun _ _ q => q)
        intro w70M w70s w70I w70F w70J w70t0 w70x0
        have w71 := ib336_50 w70I
        show zGo X l 2 0 0 346 102 [(1, .int (9 : Int32)), (0, .ref 336)] [] w70M _
        have w70y : zWr w70M 336 50 363 (wS (wN (wS (wS (wN (wS (wN (wS (wN (wS (wN (wS (wL F w10n) 115) (F 5)) 44) (F 6)) 44) (F 7)) 44) (F 8)) 59) 103) (F 9)) 59) := by
          have q := w70x0
          rw [show (zI M 337 9).toInt = (F 9) by first | decide | omega, show (59 : Int32).toInt = 59 by first | decide | omega] at q
          exact q
        refine zs_aload_n (pc := 102) t346_102 rfl ?_
        refine zs_bipush (pc := 103) t346_103 (v := 119) (by decide) ?_
        have w72 : (119 : Int32).toInt = 119 := li119
        have w73 : (119 : Int32).toInt = 119 := li119
        have w74 : (zI w70M 336 50).toInt = (zI w70M 336 50).toInt := (congrArg Int32.toInt rfl).trans rfl
        have w75 : (zI w70M 336 50).toInt = (zI w70M 336 50).toInt := (congrArg Int32.toInt rfl).trans rfl
        refine zs_invV (pc := 105) (k := 336) (as' := [.int (119 : Int32)]) (st := []) t346_105 mf347 rfl rfl (Or.inl ⟨by decide, (zk1 (w70s.k fk_zMm_336))⟩) ⟨by decide, by decide, Nat.le_of_ble_eq_true rfl, Nat.le_of_ble_eq_true rfl⟩ (W347 w70s w70I ⟨by decide, by decide⟩ (by omega) w70y ?_) (fun _ _ q => q)
        intro w76M w76s w76I w76F w76J w76t0 w76x0
        have w77 := ib336_50 w76I
        show zGo X l 2 0 0 346 108 [(1, .int (9 : Int32)), (0, .ref 336)] [] w76M _
        have w76y : zWr w76M 336 50 363 (wS (wS (wN (wS (wS (wN (wS (wN (wS (wN (wS (wN (wS (wL F w10n) 115) (F 5)) 44) (F 6)) 44) (F 7)) 44) (F 8)) 59) 103) (F 9)) 59) 119) := by
          have q := w76x0
          rw [show (119 : Int32).toInt = 119 by first | decide | omega] at q
          exact q
        refine zs_aload_n (pc := 108) t346_108 rfl ?_
        refine zs_aload_n (pc := 109) t346_109 rfl ?_
        refine zs_get (pc := 110) t346_110 (by decide) (zk1 (w76s.k fk_zMm_336)) (w76s.p rfl fv_zMm_336_0) ?_
        refine zs_bipush (pc := 113) t346_113 (v := 10) (by decide) ?_
        have w78 := ibA10 hI
        have w79 : (zI M 337 10).toInt = F 10 := x0.at (by decide) (by decide) (by decide)
        have w80 : (zI M 337 10).toInt = F 10 := x0.at (by decide) (by decide) (by decide)
        refine zs_iald (pc := 115) t346_115 (j := 10) (by decide) (zk1 (w76s.k fk_zMm_337)) li10 (zk2 (w76s.k fk_zMm_337) (by decide)) ((w76F 337 10 rfl).trans ((w70F 337 10 rfl).trans ((w61F 337 10 rfl).trans ((w55F 337 10 rfl).trans ((w46F 337 10 rfl).trans ((w37F 337 10 rfl).trans ((w28F 337 10 rfl).trans ((w19F 337 10 rfl).trans ((w9F 337 10 rfl).trans ((zIo (by decide)).trans rfl)))))))))) ?_
        refine zs_bipush (pc := 116) t346_116 (v := 44) (by decide) ?_
        have w81 : (44 : Int32).toInt = 44 := li44
        have w82 : (44 : Int32).toInt = 44 := li44
        have w83 : (zI w76M 336 50).toInt = (zI w76M 336 50).toInt := (congrArg Int32.toInt rfl).trans rfl
        have w84 : (zI w76M 336 50).toInt = (zI w76M 336 50).toInt := (congrArg Int32.toInt rfl).trans rfl
        refine zs_invV (pc := 118) (k := 336) (as' := [.int (zI M 337 10), .int (44 : Int32)]) (st := []) t346_118 mf348 rfl rfl (Or.inl ⟨by decide, (zk1 (w76s.k fk_zMm_336))⟩) ⟨by decide, by decide, Nat.le_of_ble_eq_true rfl, Nat.le_of_ble_eq_true rfl⟩ (W348 w76s w76I ⟨by omega, by omega⟩ ⟨by decide, by decide⟩ (by omega) w76y ?_) (fun _ _ q => q)
        intro w85M w85s w85I w85F w85J w85t0 w85x0
        have w86 := ib336_50 w85I
        show zGo X l 2 0 0 346 121 [(1, .int (9 : Int32)), (0, .ref 336)] [] w85M _
        have w85y : zWr w85M 336 50 363 (wS (wN (wS (wS (wN (wS (wS (wN (wS (wN (wS (wN (wS (wN (wS (wL F w10n) 115) (F 5)) 44) (F 6)) 44) (F 7)) 44) (F 8)) 59) 103) (F 9)) 59) 119) (F 10)) 44) := by
          have q := w85x0
          rw [show (zI M 337 10).toInt = (F 10) by first | decide | omega, show (44 : Int32).toInt = 44 by first | decide | omega] at q
          exact q
        refine zs_aload_n (pc := 121) t346_121 rfl ?_
        refine zs_aload_n (pc := 122) t346_122 rfl ?_
        refine zs_get (pc := 123) t346_123 (by decide) (zk1 (w85s.k fk_zMm_336)) (w85s.p rfl fv_zMm_336_0) ?_
        refine zs_bipush (pc := 126) t346_126 (v := 11) (by decide) ?_
        have w87 := ibA11 hI
        have w88 : (zI M 337 11).toInt = F 11 := x0.at (by decide) (by decide) (by decide)
        have w89 : (zI M 337 11).toInt = F 11 := x0.at (by decide) (by decide) (by decide)
        refine zs_iald (pc := 128) t346_128 (j := 11) (by decide) (zk1 (w85s.k fk_zMm_337)) li11 (zk2 (w85s.k fk_zMm_337) (by decide)) ((w85F 337 11 rfl).trans ((w76F 337 11 rfl).trans ((w70F 337 11 rfl).trans ((w61F 337 11 rfl).trans ((w55F 337 11 rfl).trans ((w46F 337 11 rfl).trans ((w37F 337 11 rfl).trans ((w28F 337 11 rfl).trans ((w19F 337 11 rfl).trans ((w9F 337 11 rfl).trans ((zIo (by decide)).trans rfl))))))))))) ?_
        refine zs_bipush (pc := 129) t346_129 (v := 59) (by decide) ?_
        have w90 : (59 : Int32).toInt = 59 := li59
        have w91 : (59 : Int32).toInt = 59 := li59
        have w92 : (zI w85M 336 50).toInt = (zI w85M 336 50).toInt := (congrArg Int32.toInt rfl).trans rfl
        have w93 : (zI w85M 336 50).toInt = (zI w85M 336 50).toInt := (congrArg Int32.toInt rfl).trans rfl
        refine zs_invV (pc := 131) (k := 336) (as' := [.int (zI M 337 11), .int (59 : Int32)]) (st := []) t346_131 mf348 rfl rfl (Or.inl ⟨by decide, (zk1 (w85s.k fk_zMm_336))⟩) ⟨by decide, by decide, Nat.le_of_ble_eq_true rfl, Nat.le_of_ble_eq_true rfl⟩ (W348 w85s w85I ⟨by omega, by omega⟩ ⟨by decide, by decide⟩ (by omega) w85y ?_) (fun _ _ q => q)
        intro w94M w94s w94I w94F w94J w94t0 w94x0
        have w95 := ib336_50 w94I
        show zGo X l 2 0 0 346 134 [(1, .int (9 : Int32)), (0, .ref 336)] [] w94M _
        have w94y : zWr w94M 336 50 363 (wS (wN (wS (wN (wS (wS (wN (wS (wS (wN (wS (wN (wS (wN (wS (wN (wS (wL F w10n) 115) (F 5)) 44) (F 6)) 44) (F 7)) 44) (F 8)) 59) 103) (F 9)) 59) 119) (F 10)) 44) (F 11)) 59) := by
          have q := w94x0
          rw [show (zI M 337 11).toInt = (F 11) by first | decide | omega, show (59 : Int32).toInt = 59 by first | decide | omega] at q
          exact q
        refine zs_aload_n (pc := 134) t346_134 rfl ?_
        refine zs_bipush (pc := 135) t346_135 (v := 113) (by decide) ?_
        have w96 : (113 : Int32).toInt = 113 := li113
        have w97 : (113 : Int32).toInt = 113 := li113
        have w98 : (zI w94M 336 50).toInt = (zI w94M 336 50).toInt := (congrArg Int32.toInt rfl).trans rfl
        have w99 : (zI w94M 336 50).toInt = (zI w94M 336 50).toInt := (congrArg Int32.toInt rfl).trans rfl
        refine zs_invV (pc := 137) (k := 336) (as' := [.int (113 : Int32)]) (st := []) t346_137 mf347 rfl rfl (Or.inl ⟨by decide, (zk1 (w94s.k fk_zMm_336))⟩) ⟨by decide, by decide, Nat.le_of_ble_eq_true rfl, Nat.le_of_ble_eq_true rfl⟩ (W347 w94s w94I ⟨by decide, by decide⟩ (by omega) w94y ?_) (fun _ _ q => q)
        intro w100M w100s w100I w100F w100J w100t0 w100x0
        have w101 := ib336_50 w100I
        show zGo X l 2 0 0 346 140 [(1, .int (9 : Int32)), (0, .ref 336)] [] w100M _
        have w100y : zWr w100M 336 50 363 (wS (wS (wN (wS (wN (wS (wS (wN (wS (wS (wN (wS (wN (wS (wN (wS (wN (wS (wL F w10n) 115) (F 5)) 44) (F 6)) 44) (F 7)) 44) (F 8)) 59) 103) (F 9)) 59) 119) (F 10)) 44) (F 11)) 59) 113) := by
          have q := w100x0
          rw [show (113 : Int32).toInt = 113 by first | decide | omega] at q
          exact q
        refine zs_aload_n (pc := 140) t346_140 rfl ?_
        refine zs_aload_n (pc := 141) t346_141 rfl ?_
        refine zs_get (pc := 142) t346_142 (by decide) (zk1 (w100s.k fk_zMm_336)) (w100s.p rfl fv_zMm_336_0) ?_
        refine zs_bipush (pc := 145) t346_145 (v := 12) (by decide) ?_
        have w102 := ibA12 hI
        have w103 : (zI M 337 12).toInt = F 12 := x0.at (by decide) (by decide) (by decide)
        have w104 : (zI M 337 12).toInt = F 12 := x0.at (by decide) (by decide) (by decide)
        refine zs_iald (pc := 147) t346_147 (j := 12) (by decide) (zk1 (w100s.k fk_zMm_337)) li12 (zk2 (w100s.k fk_zMm_337) (by decide)) ((w100F 337 12 rfl).trans ((w94F 337 12 rfl).trans ((w85F 337 12 rfl).trans ((w76F 337 12 rfl).trans ((w70F 337 12 rfl).trans ((w61F 337 12 rfl).trans ((w55F 337 12 rfl).trans ((w46F 337 12 rfl).trans ((w37F 337 12 rfl).trans ((w28F 337 12 rfl).trans ((w19F 337 12 rfl).trans ((w9F 337 12 rfl).trans ((zIo (by decide)).trans rfl))))))))))))) ?_
        refine zs_bipush (pc := 148) t346_148 (v := 44) (by decide) ?_
        have w105 : (44 : Int32).toInt = 44 := li44
        have w106 : (44 : Int32).toInt = 44 := li44
        have w107 : (zI w100M 336 50).toInt = (zI w100M 336 50).toInt := (congrArg Int32.toInt rfl).trans rfl
        have w108 : (zI w100M 336 50).toInt = (zI w100M 336 50).toInt := (congrArg Int32.toInt rfl).trans rfl
        refine zs_invV (pc := 150) (k := 336) (as' := [.int (zI M 337 12), .int (44 : Int32)]) (st := []) t346_150 mf348 rfl rfl (Or.inl ⟨by decide, (zk1 (w100s.k fk_zMm_336))⟩) ⟨by decide, by decide, Nat.le_of_ble_eq_true rfl, Nat.le_of_ble_eq_true rfl⟩ (W348 w100s w100I ⟨by omega, by omega⟩ ⟨by decide, by decide⟩ (by omega) w100y ?_) (fun _ _ q => q)
        intro w109M w109s w109I w109F w109J w109t0 w109x0
        have w110 := ib336_50 w109I
        show zGo X l 2 0 0 346 153 [(1, .int (9 : Int32)), (0, .ref 336)] [] w109M _
        have w109y : zWr w109M 336 50 363 (wS (wN (wS (wS (wN (wS (wN (wS (wS (wN (wS (wS (wN (wS (wN (wS (wN (wS (wN (wS (wL F w10n) 115) (F 5)) 44) (F 6)) 44) (F 7)) 44) (F 8)) 59) 103) (F 9)) 59) 119) (F 10)) 44) (F 11)) 59) 113) (F 12)) 44) := by
          have q := w109x0
          rw [show (zI M 337 12).toInt = (F 12) by first | decide | omega, show (44 : Int32).toInt = 44 by first | decide | omega] at q
          exact q
        refine zs_aload_n (pc := 153) t346_153 rfl ?_
        refine zs_aload_n (pc := 154) t346_154 rfl ?_
        refine zs_get (pc := 155) t346_155 (by decide) (zk1 (w109s.k fk_zMm_336)) (w109s.p rfl fv_zMm_336_0) ?_
        refine zs_bipush (pc := 158) t346_158 (v := 13) (by decide) ?_
        have w111 := ibA13 hI
        have w112 : (zI M 337 13).toInt = F 13 := x0.at (by decide) (by decide) (by decide)
        have w113 : (zI M 337 13).toInt = F 13 := x0.at (by decide) (by decide) (by decide)
        refine zs_iald (pc := 160) t346_160 (j := 13) (by decide) (zk1 (w109s.k fk_zMm_337)) li13 (zk2 (w109s.k fk_zMm_337) (by decide)) ((w109F 337 13 rfl).trans ((w100F 337 13 rfl).trans ((w94F 337 13 rfl).trans ((w85F 337 13 rfl).trans ((w76F 337 13 rfl).trans ((w70F 337 13 rfl).trans ((w61F 337 13 rfl).trans ((w55F 337 13 rfl).trans ((w46F 337 13 rfl).trans ((w37F 337 13 rfl).trans ((w28F 337 13 rfl).trans ((w19F 337 13 rfl).trans ((w9F 337 13 rfl).trans ((zIo (by decide)).trans rfl)))))))))))))) ?_
        refine zs_bipush (pc := 161) t346_161 (v := 59) (by decide) ?_
        have w114 : (59 : Int32).toInt = 59 := li59
        have w115 : (59 : Int32).toInt = 59 := li59
        have w116 : (zI w109M 336 50).toInt = (zI w109M 336 50).toInt := (congrArg Int32.toInt rfl).trans rfl
        have w117 : (zI w109M 336 50).toInt = (zI w109M 336 50).toInt := (congrArg Int32.toInt rfl).trans rfl
        refine zs_invV (pc := 163) (k := 336) (as' := [.int (zI M 337 13), .int (59 : Int32)]) (st := []) t346_163 mf348 rfl rfl (Or.inl ⟨by decide, (zk1 (w109s.k fk_zMm_336))⟩) ⟨by decide, by decide, Nat.le_of_ble_eq_true rfl, Nat.le_of_ble_eq_true rfl⟩ (W348 w109s w109I ⟨by omega, by omega⟩ ⟨by decide, by decide⟩ (by omega) w109y ?_) (fun _ _ q => q)
        intro w118M w118s w118I w118F w118J w118t0 w118x0
        have w119 := ib336_50 w118I
        show zGo X l 2 0 0 346 166 [(1, .int (9 : Int32)), (0, .ref 336)] [] w118M _
        have w118y : zWr w118M 336 50 363 (wS (wN (wS (wN (wS (wS (wN (wS (wN (wS (wS (wN (wS (wS (wN (wS (wN (wS (wN (wS (wN (wS (wL F w10n) 115) (F 5)) 44) (F 6)) 44) (F 7)) 44) (F 8)) 59) 103) (F 9)) 59) 119) (F 10)) 44) (F 11)) 59) 113) (F 12)) 44) (F 13)) 59) := by
          have q := w118x0
          rw [show (zI M 337 13).toInt = (F 13) by first | decide | omega, show (59 : Int32).toInt = 59 by first | decide | omega] at q
          exact q
        refine zs_aload_n (pc := 166) t346_166 rfl ?_
        refine zs_get (pc := 167) t346_167 (by decide) (zk1 (w118s.k fk_zMm_336)) (zfvi rfl rfl) ?_
        exact zs_iret (pc := 170) t346_170 mr346 rfl (hQ _ _ w118s w118I ((((((((((((((((zFr.refl).put rfl).trans (w9F.mono rfl)).trans (w19F.mono rfl)).trans (w28F.mono rfl)).trans (w37F.mono rfl)).trans (w46F.mono rfl)).trans (w55F.mono rfl)).trans (w61F.mono rfl)).trans (w70F.mono rfl)).trans (w76F.mono rfl)).trans (w85F.mono rfl)).trans (w94F.mono rfl)).trans (w100F.mono rfl)).trans (w109F.mono rfl)).trans (w118F.mono rfl)) (w118J.trans (w109J.trans (w100J.trans (w94J.trans (w85J.trans (w76J.trans (w70J.trans (w61J.trans (w55J.trans (w46J.trans (w37J.trans (w28J.trans (w19J.trans w9J))))))))))))) (zPR.fr (zPR.fr (zPR.fr (zPR.fr (zPR.fr (zPR.fr (zPR.fr (zPR.fr (zPR.fr (zPR.fr (zPR.fr (zPR.fr (zPR.fr (zPR.fr (zPR.fr (M' := (zsI M 336 50 (0 : Int32))) pR (zEq.put rfl)) (w9F.eq rfl)) (w19F.eq rfl)) (w28F.eq rfl)) (w37F.eq rfl)) (w46F.eq rfl)) (w55F.eq rfl)) (w61F.eq rfl)) (w70F.eq rfl)) (w76F.eq rfl)) (w85F.eq rfl)) (w94F.eq rfl)) (w100F.eq rfl)) (w109F.eq rfl)) (w118F.eq rfl)) (zPC.fr (zPC.fr (zPC.fr (zPC.fr (zPC.fr (zPC.fr (zPC.fr (zPC.fr (zPC.fr (zPC.fr (zPC.fr (zPC.fr (zPC.fr (zPC.fr (zPC.fr (M' := (zsI M 336 50 (0 : Int32))) pC (zEq.put rfl)) (w9F.eq rfl)) (w19F.eq rfl)) (w28F.eq rfl)) (w37F.eq rfl)) (w46F.eq rfl)) (w55F.eq rfl)) (w61F.eq rfl)) (w70F.eq rfl)) (w76F.eq rfl)) (w85F.eq rfl)) (w94F.eq rfl)) (w100F.eq rfl)) (w109F.eq rfl)) (w118F.eq rfl)) (zPF.fr (zPF.fr (zPF.fr (zPF.fr (zPF.fr (zPF.fr (zPF.fr (zPF.fr (zPF.fr (zPF.fr (zPF.fr (zPF.fr (zPF.fr (zPF.fr (zPF.fr (M' := (zsI M 336 50 (0 : Int32))) pF (zEq.put rfl) rfl) (w9F.eq rfl) w9J) (w19F.eq rfl) w19J) (w28F.eq rfl) w28J) (w37F.eq rfl) w37J) (w46F.eq rfl) w46J) (w55F.eq rfl) w55J) (w61F.eq rfl) w61J) (w70F.eq rfl) w70J) (w76F.eq rfl) w76J) (w85F.eq rfl) w85J) (w94F.eq rfl) w94J) (w100F.eq rfl) w100J) (w109F.eq rfl) w109J) (w118F.eq rfl) w118J) (by have q := w118y; unfold wAll; rw [show (F 0).toNat = w10n by omega]; exact ⟨q.1.2, q⟩))
      · refine zs_icmp_geF (pc := 14) t346_14 rfl rfl (by omega) ?_
        refine zs_aload_n (pc := 17) t346_17 rfl ?_
        refine zs_bipush (pc := 18) t346_18 (v := 114) (by decide) ?_
        have w120 : (114 : Int32).toInt = 114 := li114
        have w121 : (114 : Int32).toInt = 114 := li114
        have w122 : (zI w9M 336 50).toInt = (zI w9M 336 50).toInt := (congrArg Int32.toInt rfl).trans rfl
        have w123 : (zI w9M 336 50).toInt = (zI w9M 336 50).toInt := (congrArg Int32.toInt rfl).trans rfl
        refine zs_invV (pc := 20) (k := 336) (as' := [.int (114 : Int32)]) (st := []) t346_20 mf347 rfl rfl (Or.inl ⟨by decide, (zk1 (w9s.k fk_zMm_336))⟩) ⟨by decide, by decide, Nat.le_of_ble_eq_true rfl, Nat.le_of_ble_eq_true rfl⟩ (W347 w9s w9I ⟨by decide, by decide⟩ (by omega) (w9t0 w10n (by omega)) ?_) (fun _ _ q => q)
        intro w124M w124s w124I w124F w124J w124t0 w124x0
        have w125 := ib336_50 w124I
        show zGo X l 2 0 0 346 23 [(0, .ref 336), (1, .int w9x1)] [] w124M _
        have w124y : zWr w124M 336 50 363 (wS (wL F w10n) 114) := by
          have q := w124x0
          rw [show (114 : Int32).toInt = 114 by first | decide | omega] at q
          exact q
        refine zs_aload_n (pc := 23) t346_23 rfl ?_
        refine zs_aload_n (pc := 24) t346_24 rfl ?_
        refine zs_iload_n (pc := 25) t346_25 rfl ?_
        refine zs_invV (pc := 26) (k := 336) (as' := [.int w9x1]) (st := [.ref 336]) t346_26 mf241 rfl rfl (Or.inl ⟨by decide, (zk1 (w124s.k fk_zMm_336))⟩) ⟨by decide, by decide, Nat.le_of_ble_eq_true rfl, Nat.le_of_ble_eq_true rfl⟩ (zs_in (by decide) mf241 (Nat.le_of_ble_eq_true rfl) ?_) (fun _ _ q => q)
        show zGo X l 0 0 0 241 0 [(0, .ref 336), (1, .int w9x1)] [] w124M _
        refine zs_aload_n (pc := 0) t241_0 rfl ?_
        refine zs_get (pc := 1) t241_1 (by decide) (zk1 (w124s.k fk_zMm_336)) (w124s.p rfl fv_zMm_336_0) ?_
        refine zs_bipush (pc := 4) t241_4 (v := 14) (by decide) ?_
        refine zs_iconst (pc := 6) t241_6 (v := 2) (by decide) ?_
        refine zs_iload_n (pc := 7) t241_7 rfl ?_
        obtain ⟨w126v, w126⟩ : ∃ v, (2 : Int32) * w9x1 = v := ⟨_, rfl⟩
        have w126g : w126v.toInt = 2 * w9x1.toInt := by rw [← w126]; exact zmulc li2 rfl (by omega) (by omega)
        refine zs_imul (pc := 8) t241_8 (c := w126v) w126 ?_
        obtain ⟨w127v, w127e, w127⟩ := ziadd (a := (14 : Int32)) (b := w126v) li14 w126g (by omega) (by omega)
        refine zs_iadd (pc := 9) t241_9 (c := w127v) w127e ?_
        have w128 := ibX (j := (14 + 2 * w10n)) hI (by omega) (by omega) (by omega)
        have w129 : (zI M 337 (14 + 2 * w10n)).toInt = F (14 + 2 * w10n) := x0.at (by omega) (by omega) (by omega)
        have w130 := x1.2.1 w10n (by omega)
        refine zs_iald (pc := 10) t241_10 (j := (14 + 2 * w10n)) (by decide) (zk1 (w124s.k fk_zMm_337)) (show w127v.toInt = (((14 + 2 * w10n) : Nat) : Int) by omega) (zk2 (w124s.k fk_zMm_337) (by omega)) ((w124F 337 (14 + 2 * w10n) rfl).trans ((w9F 337 (14 + 2 * w10n) rfl).trans ((zIo (by decide)).trans rfl))) ?_
        refine zs_iret (pc := 11) t241_11 mr241 rfl ?_
        show zGo X l 2 0 0 346 29 [(0, .ref 336), (1, .int w9x1)] [.int (zI M 337 (14 + 2 * w10n)), .ref 336] w124M _
        refine zs_bipush (pc := 29) t346_29 (v := 59) (by decide) ?_
        have w131 : (59 : Int32).toInt = 59 := li59
        have w132 : (59 : Int32).toInt = 59 := li59
        have w133 : (zI w124M 336 50).toInt = (zI w124M 336 50).toInt := (congrArg Int32.toInt rfl).trans rfl
        have w134 : (zI w124M 336 50).toInt = (zI w124M 336 50).toInt := (congrArg Int32.toInt rfl).trans rfl
        refine zs_invV (pc := 31) (k := 336) (as' := [.int (zI M 337 (14 + 2 * w10n)), .int (59 : Int32)]) (st := []) t346_31 mf348 rfl rfl (Or.inl ⟨by decide, (zk1 (w124s.k fk_zMm_336))⟩) ⟨by decide, by decide, Nat.le_of_ble_eq_true rfl, Nat.le_of_ble_eq_true rfl⟩ (W348 w124s w124I ⟨by omega, by omega⟩ ⟨by decide, by decide⟩ (by omega) w124y ?_) (fun _ _ q => q)
        intro w135M w135s w135I w135F w135J w135t0 w135x0
        have w136 := ib336_50 w135I
        show zGo X l 2 0 0 346 34 [(0, .ref 336), (1, .int w9x1)] [] w135M _
        have w135y : zWr w135M 336 50 363 (wS (wN (wS (wL F w10n) 114) (F (14 + 2 * w10n))) 59) := by
          have q := w135x0
          rw [show (zI M 337 (14 + 2 * w10n)).toInt = (F (14 + 2 * w10n)) by first | decide | omega, show (59 : Int32).toInt = 59 by first | decide | omega] at q
          exact q
        obtain ⟨w137v, w137e, w137⟩ := ziadd (a := w9x1) (b := Int32.ofInt 1) rfl (show (Int32.ofInt 1).toInt = 1 by decide) (by omega) (by omega)
        refine zs_iinc (pc := 34) t346_34 (ls' := [(1, .int w137v), (0, .ref 336)]) (zml mf346 (by decide)) rfl (c := w137v) w137e rfl ?_
        refine zs_goto (pc := 37) t346_37 ?_
        refine zGo.locals (ls' := [(0, .ref 336), (1, .int w137v)]) (by simp) ?_
        have w138 := w137
        have w139 : (zI w135M 336 50).toInt = (zI w135M 336 50).toInt := (congrArg Int32.toInt rfl).trans rfl
        exact w9ih (w9m - 1) (by omega) w137v w135M ⟨by omega, by omega⟩ w135s w135I ((((zFr.refl).trans (w9F.mono rfl)).trans (w124F.mono rfl)).trans (w135F.mono rfl)) (w135J.trans (w124J.trans w9J)) (by omega) (by omega) (fun l hl => by obtain rfl : l = w10n + 1 := (by omega); exact w135y) (by omega)
  refine zGo.locals (ls' := [(0, .ref 336), (1, .int (0 : Int32))]) (by simp) ?_
  have w140 := li0
  have w141 : (zI (zsI M 336 50 (0 : Int32)) 336 50).toInt = 0 := (congrArg Int32.toInt zIs).trans li0
  exact w9L ((8 - 0 : Int).toNat) (0 : Int32) (zsI M 336 50 (0 : Int32)) ⟨by decide, by decide⟩ hs w7 zFr.refl rfl (by omega) (by omega) (fun l hl => by obtain rfl : l = 0 := (by omega); exact w8) (by omega)
theorem O349 {X : zX} {l : Launch} {M : zM} {Q : Option Value → zM → Prop} {a : Int32} (hs : zSk zMm M) (hI : zIv mLo mHi M) {c : zWt} (x0 : zWr M 336 50 363 c) (hQ : ∀ v : Int32, (zOcP c a.toInt v.toInt) → Q (some (.int v)) M) : zCall X l 1 0 0 349 [.ref 336, .int a] M Q := by
  have ga := zrg a
  refine zs_in (by decide) mf349 (Nat.le_of_ble_eq_true rfl) ?_
  show zGo X l 1 0 0 349 0 [(0, .ref 336), (1, .int a)] [] M _
  have g0 := x0.1
  refine zs_iload_n (pc := 0) t349_0 rfl ?_
  refine zs_i2l (pc := 1) t349_1 rfl ?_
  refine zs_lconst (pc := 2) t349_2 (v := 0) (by decide) ?_
  refine zs_aload_n (pc := 3) t349_3 rfl ?_
  have w1 := ib336_50 hI
  refine zs_get (pc := 4) t349_4 (by decide) (zk1 (hs.k fk_zMm_336)) (zfvi rfl rfl) ?_
  refine zs_iconst (pc := 7) t349_7 (v := 1) (by decide) ?_
  obtain ⟨w2v, w2e, w2⟩ := zisub (a := (zI M 336 50)) (b := (1 : Int32)) rfl li1 (by omega) (by omega)
  refine zs_isub (pc := 8) t349_8 (c := w2v) w2e ?_
  refine zs_i2l (pc := 9) t349_9 rfl ?_
  by_cases w3 : 0 ≤ a.toInt ∧ a.toInt ≤ ((zI M 336 50).toInt - 1)
  · refine zs_invS (pc := 10) (as := [.long a.toInt64, .long (0 : Int64), .long w2v.toInt64]) (st := []) t349_10 (by decide) mf228 rfl rfl ⟨by decide, by decide, Nat.le_of_ble_eq_true rfl, Nat.le_of_ble_eq_true rfl⟩ (K228T (zi2l rfl) ll0 (zi2l w2) (by omega) ?_) (fun _ _ q => q)
    show zGo X l 1 0 0 349 13 [(0, .ref 336), (1, .int a)] [.int (1 : Int32)] M _
    refine zs_if_eqF (pc := 13) t349_13 li1 (by decide) ?_
    refine zs_aload_n (pc := 16) t349_16 rfl ?_
    refine zs_get (pc := 17) t349_17 (by decide) (zk1 (hs.k fk_zMm_336)) (hs.p rfl fv_zMm_336_49) ?_
    refine zs_iload_n (pc := 20) t349_20 rfl ?_
    obtain ⟨w4n, w4⟩ : ∃ n : Nat, a.toInt = (n : Int) := ⟨(a.toInt).toNat, by omega⟩
    have w5 := ib363 hI w4n
    have w6 := x0.2 w4n (by omega)
    refine zs_bald (pc := 21) t349_21 (j := w4n) (Or.inl (zk1 (hs.k fk_zMm_363))) (show a.toInt = ((w4n : Nat) : Int) by omega) (zk2 (hs.k fk_zMm_363) (by omega)) rfl ?_
    refine zs_goto (pc := 22) t349_22 ?_
    exact zs_iret (pc := 26) t349_26 mr349 rfl (hQ _ (zWr.oc (n := w4n) x0 (by omega) (by omega) (by omega)))
  · refine zs_invS (pc := 10) (as := [.long a.toInt64, .long (0 : Int64), .long w2v.toInt64]) (st := []) t349_10 (by decide) mf228 rfl rfl ⟨by decide, by decide, Nat.le_of_ble_eq_true rfl, Nat.le_of_ble_eq_true rfl⟩ (K228F (zi2l rfl) ll0 (zi2l w2) (by omega) ?_) (fun _ _ q => q)
    show zGo X l 1 0 0 349 13 [(0, .ref 336), (1, .int a)] [.int (0 : Int32)] M _
    refine zs_if_eqT (pc := 13) t349_13 li0 (by decide) ?_
    refine zs_iconst (pc := 25) t349_25 (v := -1) (by decide) ?_
    have w7 : (-1 : Int32).toInt = (-1) := lin1
    have w8 : (-1 : Int32).toInt = (-1) := lin1
    exact zs_iret (pc := 26) t349_26 mr349 (by decide) (hQ _ (zWr.on x0 (by omega) (by decide)))
theorem W278 {X : zX} {l : Launch} {M : zM} {Q : Option Value → zM → Prop} {a : Int32} (hs : zSk zMm M) (hI : zIv mLo mHi M) (hQ : ∀ v : Int32, (v = zbm a) → Q (some (.int v)) M) : zCall X l 0 0 0 278 [.int a] M Q := by
  have ga := zrg a
  refine zs_in (by decide) mf278 (Nat.le_of_ble_eq_true rfl) ?_
  show zGo X l 0 0 0 278 0 [(0, .int a)] [] M _
  refine zs_iconst (pc := 0) t278_0 (v := 0) (by decide) ?_
  refine zs_istore_n (pc := 1) t278_1 (ls' := [(1, .int (0 : Int32)), (0, .int a)]) (zml mf278 (by decide)) rfl ?_
  refine zs_iconst (pc := 2) t278_2 (v := 0) (by decide) ?_
  refine zs_istore_n (pc := 3) t278_3 (ls' := [(2, .int (0 : Int32)), (1, .int (0 : Int32)), (0, .int a)]) (zml mf278 (by decide)) rfl ?_
  refine zs_iload_n (pc := 4) t278_4 rfl ?_
  refine zs_bipush (pc := 5) t278_5 (v := 8) (by decide) ?_
  refine zs_icmp_geF (pc := 7) t278_7 li0 li8 (by decide) ?_
  refine zs_iload_n (pc := 10) t278_10 rfl ?_
  refine zs_iload_n (pc := 11) t278_11 rfl ?_
  refine zs_iload_n (pc := 12) t278_12 rfl ?_
  obtain ⟨w1v, w1⟩ : ∃ v, a >>> ((0 : Int32) &&& 31) = v := ⟨_, rfl⟩
  have w1g := zrg w1v
  refine zs_ishr (pc := 13) t278_13 (c := w1v) w1 ?_
  refine zs_iconst (pc := 14) t278_14 (v := 1) (by decide) ?_
  obtain ⟨w2v, w2⟩ : ∃ v, w1v &&& (1 : Int32) = v := ⟨_, rfl⟩
  have w2g : 0 ≤ w2v.toInt ∧ w2v.toInt ≤ 1 := by rw [← w2]; exact zand li1 (by decide)
  refine zs_iand (pc := 15) t278_15 (c := w2v) w2 ?_
  obtain ⟨w3v, w3e, w3⟩ := ziadd (a := (0 : Int32)) (b := w2v) li0 rfl (by omega) (by omega)
  refine zs_iadd (pc := 16) t278_16 (c := w3v) w3e ?_
  refine zs_istore_n (pc := 17) t278_17 (ls' := [(1, .int w3v), (2, .int (0 : Int32)), (0, .int a)]) (zml mf278 (by decide)) rfl ?_
  refine zs_iinc (pc := 18) t278_18 (ls' := [(2, .int (1 : Int32)), (1, .int w3v), (0, .int a)]) (zml mf278 (by decide)) rfl (c := 1) (by decide) rfl ?_
  refine zs_goto (pc := 21) t278_21 ?_
  refine zs_iload_n (pc := 4) t278_4 rfl ?_
  refine zs_bipush (pc := 5) t278_5 (v := 8) (by decide) ?_
  refine zs_icmp_geF (pc := 7) t278_7 li1 li8 (by decide) ?_
  refine zs_iload_n (pc := 10) t278_10 rfl ?_
  refine zs_iload_n (pc := 11) t278_11 rfl ?_
  refine zs_iload_n (pc := 12) t278_12 rfl ?_
  obtain ⟨w4v, w4⟩ : ∃ v, a >>> ((1 : Int32) &&& 31) = v := ⟨_, rfl⟩
  have w4g := zrg w4v
  refine zs_ishr (pc := 13) t278_13 (c := w4v) w4 ?_
  refine zs_iconst (pc := 14) t278_14 (v := 1) (by decide) ?_
  obtain ⟨w5v, w5⟩ : ∃ v, w4v &&& (1 : Int32) = v := ⟨_, rfl⟩
  have w5g : 0 ≤ w5v.toInt ∧ w5v.toInt ≤ 1 := by rw [← w5]; exact zand li1 (by decide)
  refine zs_iand (pc := 15) t278_15 (c := w5v) w5 ?_
  obtain ⟨w6v, w6e, w6⟩ := ziadd (a := w3v) (b := w5v) w3 rfl (by omega) (by omega)
  refine zs_iadd (pc := 16) t278_16 (c := w6v) w6e ?_
  refine zs_istore_n (pc := 17) t278_17 (ls' := [(1, .int w6v), (2, .int (1 : Int32)), (0, .int a)]) (zml mf278 (by decide)) rfl ?_
  refine zs_iinc (pc := 18) t278_18 (ls' := [(2, .int (2 : Int32)), (1, .int w6v), (0, .int a)]) (zml mf278 (by decide)) rfl (c := 2) (by decide) rfl ?_
  refine zs_goto (pc := 21) t278_21 ?_
  refine zs_iload_n (pc := 4) t278_4 rfl ?_
  refine zs_bipush (pc := 5) t278_5 (v := 8) (by decide) ?_
  refine zs_icmp_geF (pc := 7) t278_7 li2 li8 (by decide) ?_
  refine zs_iload_n (pc := 10) t278_10 rfl ?_
  refine zs_iload_n (pc := 11) t278_11 rfl ?_
  refine zs_iload_n (pc := 12) t278_12 rfl ?_
  obtain ⟨w7v, w7⟩ : ∃ v, a >>> ((2 : Int32) &&& 31) = v := ⟨_, rfl⟩
  have w7g := zrg w7v
  refine zs_ishr (pc := 13) t278_13 (c := w7v) w7 ?_
  refine zs_iconst (pc := 14) t278_14 (v := 1) (by decide) ?_
  obtain ⟨w8v, w8⟩ : ∃ v, w7v &&& (1 : Int32) = v := ⟨_, rfl⟩
  have w8g : 0 ≤ w8v.toInt ∧ w8v.toInt ≤ 1 := by rw [← w8]; exact zand li1 (by decide)
  refine zs_iand (pc := 15) t278_15 (c := w8v) w8 ?_
  obtain ⟨w9v, w9e, w9⟩ := ziadd (a := w6v) (b := w8v) w6 rfl (by omega) (by omega)
  refine zs_iadd (pc := 16) t278_16 (c := w9v) w9e ?_
  refine zs_istore_n (pc := 17) t278_17 (ls' := [(1, .int w9v), (2, .int (2 : Int32)), (0, .int a)]) (zml mf278 (by decide)) rfl ?_
  refine zs_iinc (pc := 18) t278_18 (ls' := [(2, .int (3 : Int32)), (1, .int w9v), (0, .int a)]) (zml mf278 (by decide)) rfl (c := 3) (by decide) rfl ?_
  refine zs_goto (pc := 21) t278_21 ?_
  refine zs_iload_n (pc := 4) t278_4 rfl ?_
  refine zs_bipush (pc := 5) t278_5 (v := 8) (by decide) ?_
  refine zs_icmp_geF (pc := 7) t278_7 li3 li8 (by decide) ?_
  refine zs_iload_n (pc := 10) t278_10 rfl ?_
  refine zs_iload_n (pc := 11) t278_11 rfl ?_
  refine zs_iload_n (pc := 12) t278_12 rfl ?_
  obtain ⟨w10v, w10⟩ : ∃ v, a >>> ((3 : Int32) &&& 31) = v := ⟨_, rfl⟩
  have w10g := zrg w10v
  refine zs_ishr (pc := 13) t278_13 (c := w10v) w10 ?_
  refine zs_iconst (pc := 14) t278_14 (v := 1) (by decide) ?_
  obtain ⟨w11v, w11⟩ : ∃ v, w10v &&& (1 : Int32) = v := ⟨_, rfl⟩
  have w11g : 0 ≤ w11v.toInt ∧ w11v.toInt ≤ 1 := by rw [← w11]; exact zand li1 (by decide)
  refine zs_iand (pc := 15) t278_15 (c := w11v) w11 ?_
  obtain ⟨w12v, w12e, w12⟩ := ziadd (a := w9v) (b := w11v) w9 rfl (by omega) (by omega)
  refine zs_iadd (pc := 16) t278_16 (c := w12v) w12e ?_
  refine zs_istore_n (pc := 17) t278_17 (ls' := [(1, .int w12v), (2, .int (3 : Int32)), (0, .int a)]) (zml mf278 (by decide)) rfl ?_
  refine zs_iinc (pc := 18) t278_18 (ls' := [(2, .int (4 : Int32)), (1, .int w12v), (0, .int a)]) (zml mf278 (by decide)) rfl (c := 4) (by decide) rfl ?_
  refine zs_goto (pc := 21) t278_21 ?_
  refine zs_iload_n (pc := 4) t278_4 rfl ?_
  refine zs_bipush (pc := 5) t278_5 (v := 8) (by decide) ?_
  refine zs_icmp_geF (pc := 7) t278_7 li4 li8 (by decide) ?_
  refine zs_iload_n (pc := 10) t278_10 rfl ?_
  refine zs_iload_n (pc := 11) t278_11 rfl ?_
  refine zs_iload_n (pc := 12) t278_12 rfl ?_
  obtain ⟨w13v, w13⟩ : ∃ v, a >>> ((4 : Int32) &&& 31) = v := ⟨_, rfl⟩
  have w13g := zrg w13v
  refine zs_ishr (pc := 13) t278_13 (c := w13v) w13 ?_
  refine zs_iconst (pc := 14) t278_14 (v := 1) (by decide) ?_
  obtain ⟨w14v, w14⟩ : ∃ v, w13v &&& (1 : Int32) = v := ⟨_, rfl⟩
  have w14g : 0 ≤ w14v.toInt ∧ w14v.toInt ≤ 1 := by rw [← w14]; exact zand li1 (by decide)
  refine zs_iand (pc := 15) t278_15 (c := w14v) w14 ?_
  obtain ⟨w15v, w15e, w15⟩ := ziadd (a := w12v) (b := w14v) w12 rfl (by omega) (by omega)
  refine zs_iadd (pc := 16) t278_16 (c := w15v) w15e ?_
  refine zs_istore_n (pc := 17) t278_17 (ls' := [(1, .int w15v), (2, .int (4 : Int32)), (0, .int a)]) (zml mf278 (by decide)) rfl ?_
  refine zs_iinc (pc := 18) t278_18 (ls' := [(2, .int (5 : Int32)), (1, .int w15v), (0, .int a)]) (zml mf278 (by decide)) rfl (c := 5) (by decide) rfl ?_
  refine zs_goto (pc := 21) t278_21 ?_
  refine zs_iload_n (pc := 4) t278_4 rfl ?_
  refine zs_bipush (pc := 5) t278_5 (v := 8) (by decide) ?_
  refine zs_icmp_geF (pc := 7) t278_7 li5 li8 (by decide) ?_
  refine zs_iload_n (pc := 10) t278_10 rfl ?_
  refine zs_iload_n (pc := 11) t278_11 rfl ?_
  refine zs_iload_n (pc := 12) t278_12 rfl ?_
  obtain ⟨w16v, w16⟩ : ∃ v, a >>> ((5 : Int32) &&& 31) = v := ⟨_, rfl⟩
  have w16g := zrg w16v
  refine zs_ishr (pc := 13) t278_13 (c := w16v) w16 ?_
  refine zs_iconst (pc := 14) t278_14 (v := 1) (by decide) ?_
  obtain ⟨w17v, w17⟩ : ∃ v, w16v &&& (1 : Int32) = v := ⟨_, rfl⟩
  have w17g : 0 ≤ w17v.toInt ∧ w17v.toInt ≤ 1 := by rw [← w17]; exact zand li1 (by decide)
  refine zs_iand (pc := 15) t278_15 (c := w17v) w17 ?_
  obtain ⟨w18v, w18e, w18⟩ := ziadd (a := w15v) (b := w17v) w15 rfl (by omega) (by omega)
  refine zs_iadd (pc := 16) t278_16 (c := w18v) w18e ?_
  refine zs_istore_n (pc := 17) t278_17 (ls' := [(1, .int w18v), (2, .int (5 : Int32)), (0, .int a)]) (zml mf278 (by decide)) rfl ?_
  refine zs_iinc (pc := 18) t278_18 (ls' := [(2, .int (6 : Int32)), (1, .int w18v), (0, .int a)]) (zml mf278 (by decide)) rfl (c := 6) (by decide) rfl ?_
  refine zs_goto (pc := 21) t278_21 ?_
  refine zs_iload_n (pc := 4) t278_4 rfl ?_
  refine zs_bipush (pc := 5) t278_5 (v := 8) (by decide) ?_
  refine zs_icmp_geF (pc := 7) t278_7 li6 li8 (by decide) ?_
  refine zs_iload_n (pc := 10) t278_10 rfl ?_
  refine zs_iload_n (pc := 11) t278_11 rfl ?_
  refine zs_iload_n (pc := 12) t278_12 rfl ?_
  obtain ⟨w19v, w19⟩ : ∃ v, a >>> ((6 : Int32) &&& 31) = v := ⟨_, rfl⟩
  have w19g := zrg w19v
  refine zs_ishr (pc := 13) t278_13 (c := w19v) w19 ?_
  refine zs_iconst (pc := 14) t278_14 (v := 1) (by decide) ?_
  obtain ⟨w20v, w20⟩ : ∃ v, w19v &&& (1 : Int32) = v := ⟨_, rfl⟩
  have w20g : 0 ≤ w20v.toInt ∧ w20v.toInt ≤ 1 := by rw [← w20]; exact zand li1 (by decide)
  refine zs_iand (pc := 15) t278_15 (c := w20v) w20 ?_
  obtain ⟨w21v, w21e, w21⟩ := ziadd (a := w18v) (b := w20v) w18 rfl (by omega) (by omega)
  refine zs_iadd (pc := 16) t278_16 (c := w21v) w21e ?_
  refine zs_istore_n (pc := 17) t278_17 (ls' := [(1, .int w21v), (2, .int (6 : Int32)), (0, .int a)]) (zml mf278 (by decide)) rfl ?_
  refine zs_iinc (pc := 18) t278_18 (ls' := [(2, .int (7 : Int32)), (1, .int w21v), (0, .int a)]) (zml mf278 (by decide)) rfl (c := 7) (by decide) rfl ?_
  refine zs_goto (pc := 21) t278_21 ?_
  refine zs_iload_n (pc := 4) t278_4 rfl ?_
  refine zs_bipush (pc := 5) t278_5 (v := 8) (by decide) ?_
  refine zs_icmp_geF (pc := 7) t278_7 li7 li8 (by decide) ?_
  refine zs_iload_n (pc := 10) t278_10 rfl ?_
  refine zs_iload_n (pc := 11) t278_11 rfl ?_
  refine zs_iload_n (pc := 12) t278_12 rfl ?_
  obtain ⟨w22v, w22⟩ : ∃ v, a >>> ((7 : Int32) &&& 31) = v := ⟨_, rfl⟩
  have w22g := zrg w22v
  refine zs_ishr (pc := 13) t278_13 (c := w22v) w22 ?_
  refine zs_iconst (pc := 14) t278_14 (v := 1) (by decide) ?_
  obtain ⟨w23v, w23⟩ : ∃ v, w22v &&& (1 : Int32) = v := ⟨_, rfl⟩
  have w23g : 0 ≤ w23v.toInt ∧ w23v.toInt ≤ 1 := by rw [← w23]; exact zand li1 (by decide)
  refine zs_iand (pc := 15) t278_15 (c := w23v) w23 ?_
  obtain ⟨w24v, w24e, w24⟩ := ziadd (a := w21v) (b := w23v) w21 rfl (by omega) (by omega)
  refine zs_iadd (pc := 16) t278_16 (c := w24v) w24e ?_
  refine zs_istore_n (pc := 17) t278_17 (ls' := [(1, .int w24v), (2, .int (7 : Int32)), (0, .int a)]) (zml mf278 (by decide)) rfl ?_
  refine zs_iinc (pc := 18) t278_18 (ls' := [(2, .int (8 : Int32)), (1, .int w24v), (0, .int a)]) (zml mf278 (by decide)) rfl (c := 8) (by decide) rfl ?_
  refine zs_goto (pc := 21) t278_21 ?_
  refine zs_iload_n (pc := 4) t278_4 rfl ?_
  refine zs_bipush (pc := 5) t278_5 (v := 8) (by decide) ?_
  refine zs_icmp_geT (pc := 7) t278_7 li8 li8 (by decide) ?_
  refine zs_iload_n (pc := 24) t278_24 rfl ?_
  exact zs_iret (pc := 25) t278_25 mr278 rfl (hQ _ (by subst_vars; rfl))
