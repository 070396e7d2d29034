theorem X220_6 {X : zX} {l : Launch} {M : zM} {Q : Option Value → zM → Prop} {a : Int32} (hs : zSk zMc M) (hI : zIv cLo cHi M) {c : zWt} (ha : 0 ≤ a.toInt ∧ a.toInt ≤ 65535) (u0 : a.toInt ≤ 127) (u1 : (zI M 6 10).toInt ≤ 127) (x0 : zWr M 6 10 335 c) (hQ : ∀ M', zSk zMc M' → zIv cLo cHi M' → zFr [(6, 6, some 10), (335, 335, none)] M M' → ((zI M' 6 10).toInt = (zI M 6 10).toInt + 1) → (zWr M' 6 10 335 (wS c a.toInt)) → Q none M') : zCall X l 0 0 0 220 [.ref 6, .int a] M Q := by
  have ga := zrg a
  refine zs_in (by decide) mf220 (Nat.le_of_ble_eq_true rfl) ?_
  show zGo X l 0 0 0 220 0 [(0, .ref 6), (1, .int a)] [] M _
  have g0 := x0.1
  refine zs_aload_n (pc := 0) t220_0 rfl ?_
  have w1 := ib6_10 hI
  refine zs_get (pc := 1) t220_1 (by decide) (zk1 (hs.k fk_zMc_6)) (zfvi rfl rfl) ?_
  refine zs_sipush (pc := 4) t220_4 (v := 128) (by decide) ?_
  refine zs_icmp_geF (pc := 7) t220_7 rfl li128 (by omega) ?_
  refine zs_aload_n (pc := 10) t220_10 rfl ?_
  refine zs_get (pc := 11) t220_11 (by decide) (zk1 (hs.k fk_zMc_6)) (hs.p rfl fv_zMc_6_9) ?_
  refine zs_aload_n (pc := 14) t220_14 rfl ?_
  refine zs_get (pc := 15) t220_15 (by decide) (zk1 (hs.k fk_zMc_6)) (zfvi rfl rfl) ?_
  refine zs_iload_n (pc := 18) t220_18 rfl ?_
  obtain ⟨w2v, w2e⟩ : ∃ v, a.toInt8.toInt32 = v := ⟨_, rfl⟩
  have w2x := zi2b rfl (by omega) (by omega) w2e
  have w2 : (-128) ≤ w2v.toInt ∧ w2v.toInt ≤ 127 := by rw [← w2e]; exact znb _
  refine zs_i2b (pc := 19) t220_19 (c := w2v) w2e ?_
  obtain ⟨w3n, w3⟩ : ∃ n : Nat, (zI M 6 10).toInt = (n : Int) := ⟨((zI M 6 10).toInt).toNat, by omega⟩
  obtain ⟨w4v, w4e⟩ : ∃ v, vp_nar .byte w2v = v := ⟨_, rfl⟩
  have w4 : -128 ≤ w4v.toInt ∧ w4v.toInt ≤ 127 := by rw [← w4e]; exact znb _
  have w5 : zIv cLo cHi (zsI M 335 w3n w4v) := zIv.put hI (show (-128) ≤ w4v.toInt ∧ w4v.toInt ≤ 127 from ⟨by omega, by omega⟩)
  refine zs_bastB (pc := 20) t220_20 (j := w3n) (by decide) (zk1 (hs.k fk_zMc_335)) (show (zI M 6 10).toInt = ((w3n : Nat) : Int) by omega) (zk2 (hs.k fk_zMc_335) (by omega)) w4e ?_
  refine zs_aload_n (pc := 21) t220_21 rfl ?_
  refine zs_dup (pc := 22) t220_22 rfl ?_
  refine zs_get (pc := 23) t220_23 (by decide) (zk1 (hs.k fk_zMc_6)) (zfvi rfl ((zIo (by decide)).trans rfl)) ?_
  refine zs_iconst (pc := 26) t220_26 (v := 1) (by decide) ?_
  obtain ⟨w6v, w6e, w6⟩ := ziadd (a := (zI M 6 10)) (b := (1 : Int32)) rfl li1 (by omega) (by omega)
  refine zs_iadd (pc := 27) t220_27 (c := w6v) w6e ?_
  have w7 : zIv cLo cHi (zsI (zsI M 335 w3n w4v) 6 10 w6v) := zIv.put w5 (show 0 ≤ w6v.toInt ∧ w6v.toInt ≤ 128 from ⟨by omega, by omega⟩)
  refine zs_putI (pc := 28) t220_28 (zk1 (hs.k fk_zMc_6)) rfl ?_
  have w8 : (zI (zsI (zsI M 335 w3n w4v) 6 10 w6v) 6 10).toInt = ((zI M 6 10).toInt + 1) := (congrArg Int32.toInt zIs).trans w6
  have w10 : w6v.toInt = ((zI M 6 10).toInt + 1) := w6
  have w9 : w4v.toInt = a.toInt := by rw [← w4e, znar (by omega) (by omega)]; omega
  exact zs_vret (pc := 31) t220_31 mr220 (hQ _ hs w7 (((zFr.refl).put rfl).put rfl) (by omega) (zWr.put (n := w3n) x0 (by decide) (by omega) w9 (by omega) (by omega) (by omega)))
theorem X221_6 {X : zX} {l : Launch} {M : zM} {Q : Option Value → zM → Prop} {a : Int32} (hs : zSk zMc M) (hI : zIv cLo cHi M) {c : zWt} (ha : 0 ≤ a.toInt ∧ a.toInt ≤ 9999) (u0 : (zI M 6 10).toInt ≤ 123) (x0 : zWr M 6 10 335 c) (hQ : ∀ M', zSk zMc M' → zIv cLo cHi M' → zFr [(6, 6, some 10), (335, 335, none)] M M' → ((zI M' 6 10).toInt ≤ (zI M 6 10).toInt + 4) → (zWr M' 6 10 335 (wN c a.toInt)) → Q none M') : zCall X l 1 0 0 221 [.ref 6, .int a] M Q := by
  have ga := zrg a
  refine zs_in (by decide) mf221 (Nat.le_of_ble_eq_true rfl) ?_
  show zGo X l 1 0 0 221 0 [(0, .ref 6), (1, .int a)] [] M _
  refine zs_sipush (pc := 0) t221_0 (v := 1000) (by decide) ?_
  refine zs_istore_n (pc := 3) t221_3 (ls' := [(2, .int (1000 : Int32)), (0, .ref 6), (1, .int a)]) (zml mf221 (by decide)) rfl ?_
  refine zs_iload_n (pc := 4) t221_4 rfl ?_
  refine zs_iconst (pc := 5) t221_5 (v := 1) (by decide) ?_
  refine zs_icmp_ltF (pc := 6) t221_6 li1000 li1 (by decide) ?_
  refine zs_iload_n (pc := 9) t221_9 rfl ?_
  refine zs_iload_n (pc := 10) t221_10 rfl ?_
  by_cases w1 : 1000 ≤ a.toInt
  · refine zs_icmp_geT (pc := 11) t221_11 rfl li1000 (by omega) ?_
    refine zs_aload_n (pc := 19) t221_19 rfl ?_
    refine zs_bipush (pc := 20) t221_20 (v := 48) (by decide) ?_
    refine zs_iload_n (pc := 22) t221_22 rfl ?_
    refine zs_iload_n (pc := 23) t221_23 rfl ?_
    obtain ⟨w2v, w2⟩ : ∃ v, a / (1000 : Int32) = v := ⟨_, rfl⟩
    have w2g : w2v.toInt = a.toInt / 1000 := by rw [← w2]; exact zdivp rfl li1000 (by omega) (by decide)
    refine zs_idiv (pc := 24) t221_24 (by decide) (c := w2v) w2 ?_
    refine zs_bipush (pc := 25) t221_25 (v := 10) (by decide) ?_
    obtain ⟨w3v, w3⟩ : ∃ v, w2v - w2v / (10 : Int32) * (10 : Int32) = v := ⟨_, rfl⟩
    have w3g : 0 ≤ w3v.toInt ∧ w3v.toInt ≤ 9 := by rw [← w3]; exact zrem rfl li10 (by omega) (by decide)
    have w3r : w3v.toInt = w2v.toInt % 10 := by rw [← w3]; exact zremE rfl li10 (by omega) (by decide)
    refine zs_irem (pc := 27) t221_27 (by decide) (c := w3v) w3 ?_
    obtain ⟨w4v, w4e, w4⟩ := ziadd (a := (48 : Int32)) (b := w3v) li48 rfl (by omega) (by omega)
    refine zs_iadd (pc := 28) t221_28 (c := w4v) w4e ?_
    obtain ⟨w5v, w5e⟩ : ∃ v, (w4v.toUInt32 % 65536).toInt32 = v := ⟨_, rfl⟩
    have w5 : w5v.toInt = (48 + w3v.toInt) := zi2c w4 (by omega) (by omega) w5e
    refine zs_i2c (pc := 29) t221_29 (c := w5v) w5e ?_
    have w6 : w5v.toInt = (48 + w3v.toInt) := w5
    have w7 : w5v.toInt = (48 + w3v.toInt) := w5
    have w8 := ib6_10 hI
    have w9 : (zI M 6 10).toInt = (zI M 6 10).toInt := (congrArg Int32.toInt rfl).trans rfl
    have w10 : (zI M 6 10).toInt = (zI M 6 10).toInt := (congrArg Int32.toInt rfl).trans rfl
    refine zs_invV (pc := 30) (k := 6) (as' := [.int w5v]) (st := []) t221_30 mf220 rfl rfl (Or.inl ⟨by decide, (zk1 (hs.k fk_zMc_6))⟩) ⟨by decide, by decide, Nat.le_of_ble_eq_true rfl, Nat.le_of_ble_eq_true rfl⟩ (X220_6 hs hI ⟨by omega, by omega⟩ (by omega) (by omega) x0 ?_) (fun _ _ q => q)
    intro w11M w11s w11I w11F w11t0 w11x0
    have w12 := ib6_10 w11I
    show zGo X l 1 0 0 221 33 [(2, .int (1000 : Int32)), (0, .ref 6), (1, .int a)] [] w11M _
    have w11y : zWr w11M 6 10 335 (wS c (48 + a.toInt / 1000 % 10)) := by
      have q := w11x0
      rw [show w5v.toInt = (48 + a.toInt / 1000 % 10) by first | decide | omega] at q
      exact q
    refine zs_iload_n (pc := 33) t221_33 rfl ?_
    refine zs_bipush (pc := 34) t221_34 (v := 10) (by decide) ?_
    refine zs_idiv (pc := 36) t221_36 (by decide) (c := 100) (by decide) ?_
    refine zs_istore_n (pc := 37) t221_37 (ls' := [(2, .int (100 : Int32)), (0, .ref 6), (1, .int a)]) (zml mf221 (by decide)) rfl ?_
    refine zs_goto (pc := 38) t221_38 ?_
    refine zs_iload_n (pc := 4) t221_4 rfl ?_
    refine zs_iconst (pc := 5) t221_5 (v := 1) (by decide) ?_
    refine zs_icmp_ltF (pc := 6) t221_6 li100 li1 (by decide) ?_
    refine zs_iload_n (pc := 9) t221_9 rfl ?_
    refine zs_iload_n (pc := 10) t221_10 rfl ?_
    refine zs_icmp_geT (pc := 11) t221_11 rfl li100 (by omega) ?_
    refine zs_aload_n (pc := 19) t221_19 rfl ?_
    refine zs_bipush (pc := 20) t221_20 (v := 48) (by decide) ?_
    refine zs_iload_n (pc := 22) t221_22 rfl ?_
    refine zs_iload_n (pc := 23) t221_23 rfl ?_
    obtain ⟨w13v, w13⟩ : ∃ v, a / (100 : Int32) = v := ⟨_, rfl⟩
    have w13g : w13v.toInt = a.toInt / 100 := by rw [← w13]; exact zdivp rfl li100 (by omega) (by decide)
    refine zs_idiv (pc := 24) t221_24 (by decide) (c := w13v) w13 ?_
    refine zs_bipush (pc := 25) t221_25 (v := 10) (by decide) ?_
    obtain ⟨w14v, w14⟩ : ∃ v, w13v - w13v / (10 : Int32) * (10 : Int32) = v := ⟨_, rfl⟩
    have w14g : 0 ≤ w14v.toInt ∧ w14v.toInt ≤ 9 := by rw [← w14]; exact zrem rfl li10 (by omega) (by decide)
    have w14r : w14v.toInt = w13v.toInt % 10 := by rw [← w14]; exact zremE rfl li10 (by omega) (by decide)
    refine zs_irem (pc := 27) t221_27 (by decide) (c := w14v) w14 ?_
    obtain ⟨w15v, w15e, w15⟩ := ziadd (a := (48 : Int32)) (b := w14v) li48 rfl (by omega) (by omega)
    refine zs_iadd (pc := 28) t221_28 (c := w15v) w15e ?_
    obtain ⟨w16v, w16e⟩ : ∃ v, (w15v.toUInt32 % 65536).toInt32 = v := ⟨_, rfl⟩
    have w16 : w16v.toInt = (48 + w14v.toInt) := zi2c w15 (by omega) (by omega) w16e
    refine zs_i2c (pc := 29) t221_29 (c := w16v) w16e ?_
    have w17 : w16v.toInt = (48 + w14v.toInt) := w16
    have w18 : w16v.toInt = (48 + w14v.toInt) := w16
    have w19 : (zI w11M 6 10).toInt = (zI w11M 6 10).toInt := (congrArg Int32.toInt rfl).trans rfl
    have w20 : (zI w11M 6 10).toInt = (zI w11M 6 10).toInt := (congrArg Int32.toInt rfl).trans rfl
    refine zs_invV (pc := 30) (k := 6) (as' := [.int w16v]) (st := []) t221_30 mf220 rfl rfl (Or.inl ⟨by decide, (zk1 (w11s.k fk_zMc_6))⟩) ⟨by decide, by decide, Nat.le_of_ble_eq_true rfl, Nat.le_of_ble_eq_true rfl⟩ (X220_6 w11s w11I ⟨by omega, by omega⟩ (by omega) (by omega) w11y ?_) (fun _ _ q => q)
    intro w21M w21s w21I w21F w21t0 w21x0
    have w22 := ib6_10 w21I
    show zGo X l 1 0 0 221 33 [(2, .int (100 : Int32)), (0, .ref 6), (1, .int a)] [] w21M _
    have w21y : zWr w21M 6 10 335 (wS (wS c (48 + a.toInt / 1000 % 10)) (48 + a.toInt / 100 % 10)) := by
      have q := w21x0
      rw [show w16v.toInt = (48 + a.toInt / 100 % 10) by first | decide | omega] at q
      exact q
    refine zs_iload_n (pc := 33) t221_33 rfl ?_
    refine zs_bipush (pc := 34) t221_34 (v := 10) (by decide) ?_
    refine zs_idiv (pc := 36) t221_36 (by decide) (c := 10) (by decide) ?_
    refine zs_istore_n (pc := 37) t221_37 (ls' := [(2, .int (10 : Int32)), (0, .ref 6), (1, .int a)]) (zml mf221 (by decide)) rfl ?_
    refine zs_goto (pc := 38) t221_38 ?_
    refine zs_iload_n (pc := 4) t221_4 rfl ?_
    refine zs_iconst (pc := 5) t221_5 (v := 1) (by decide) ?_
    refine zs_icmp_ltF (pc := 6) t221_6 li10 li1 (by decide) ?_
    refine zs_iload_n (pc := 9) t221_9 rfl ?_
    refine zs_iload_n (pc := 10) t221_10 rfl ?_
    refine zs_icmp_geT (pc := 11) t221_11 rfl li10 (by omega) ?_
    refine zs_aload_n (pc := 19) t221_19 rfl ?_
    refine zs_bipush (pc := 20) t221_20 (v := 48) (by decide) ?_
    refine zs_iload_n (pc := 22) t221_22 rfl ?_
    refine zs_iload_n (pc := 23) t221_23 rfl ?_
    obtain ⟨w23v, w23⟩ : ∃ v, a / (10 : Int32) = v := ⟨_, rfl⟩
    have w23g : w23v.toInt = a.toInt / 10 := by rw [← w23]; exact zdivp rfl li10 (by omega) (by decide)
    refine zs_idiv (pc := 24) t221_24 (by decide) (c := w23v) w23 ?_
    refine zs_bipush (pc := 25) t221_25 (v := 10) (by decide) ?_
    obtain ⟨w24v, w24⟩ : ∃ v, w23v - w23v / (10 : Int32) * (10 : Int32) = v := ⟨_, rfl⟩
    have w24g : 0 ≤ w24v.toInt ∧ w24v.toInt ≤ 9 := by rw [← w24]; exact zrem rfl li10 (by omega) (by decide)
    have w24r : w24v.toInt = w23v.toInt % 10 := by rw [← w24]; exact zremE rfl li10 (by omega) (by decide)
    refine zs_irem (pc := 27) t221_27 (by decide) (c := w24v) w24 ?_
    obtain ⟨w25v, w25e, w25⟩ := ziadd (a := (48 : Int32)) (b := w24v) li48 rfl (by omega) (by omega)
    refine zs_iadd (pc := 28) t221_28 (c := w25v) w25e ?_
    obtain ⟨w26v, w26e⟩ : ∃ v, (w25v.toUInt32 % 65536).toInt32 = v := ⟨_, rfl⟩
    have w26 : w26v.toInt = (48 + w24v.toInt) := zi2c w25 (by omega) (by omega) w26e
    refine zs_i2c (pc := 29) t221_29 (c := w26v) w26e ?_
    have w27 : w26v.toInt = (48 + w24v.toInt) := w26
    have w28 : w26v.toInt = (48 + w24v.toInt) := w26
    have w29 : (zI w21M 6 10).toInt = (zI w21M 6 10).toInt := (congrArg Int32.toInt rfl).trans rfl
    have w30 : (zI w21M 6 10).toInt = (zI w21M 6 10).toInt := (congrArg Int32.toInt rfl).trans rfl
    refine zs_invV (pc := 30) (k := 6) (as' := [.int w26v]) (st := []) t221_30 mf220 rfl rfl (Or.inl ⟨by decide, (zk1 (w21s.k fk_zMc_6))⟩) ⟨by decide, by decide, Nat.le_of_ble_eq_true rfl, Nat.le_of_ble_eq_true rfl⟩ (X220_6 w21s w21I ⟨by omega, by omega⟩ (by omega) (by omega) w21y ?_) (fun _ _ q => q)
    intro w31M w31s w31I w31F w31t0 w31x0
    have w32 := ib6_10 w31I
    show zGo X l 1 0 0 221 33 [(2, .int (10 : Int32)), (0, .ref 6), (1, .int a)] [] w31M _
    have w31y : zWr w31M 6 10 335 (wS (wS (wS c (48 + a.toInt / 1000 % 10)) (48 + a.toInt / 100 % 10)) (48 + a.toInt / 10 % 10)) := by
      have q := w31x0
      rw [show w26v.toInt = (48 + a.toInt / 10 % 10) by first | decide | omega] at q
      exact q
    refine zs_iload_n (pc := 33) t221_33 rfl ?_
    refine zs_bipush (pc := 34) t221_34 (v := 10) (by decide) ?_
    refine zs_idiv (pc := 36) t221_36 (by decide) (c := 1) (by decide) ?_
    refine zs_istore_n (pc := 37) t221_37 (ls' := [(2, .int (1 : Int32)), (0, .ref 6), (1, .int a)]) (zml mf221 (by decide)) rfl ?_
    refine zs_goto (pc := 38) t221_38 ?_
    refine zs_iload_n (pc := 4) t221_4 rfl ?_
    refine zs_iconst (pc := 5) t221_5 (v := 1) (by decide) ?_
    refine zs_icmp_ltF (pc := 6) t221_6 li1 li1 (by decide) ?_
    refine zs_iload_n (pc := 9) t221_9 rfl ?_
    refine zs_iload_n (pc := 10) t221_10 rfl ?_
    refine zs_icmp_geT (pc := 11) t221_11 rfl li1 (by omega) ?_
    refine zs_aload_n (pc := 19) t221_19 rfl ?_
    refine zs_bipush (pc := 20) t221_20 (v := 48) (by decide) ?_
    refine zs_iload_n (pc := 22) t221_22 rfl ?_
    refine zs_iload_n (pc := 23) t221_23 rfl ?_
    obtain ⟨w33v, w33⟩ : ∃ v, a / (1 : Int32) = v := ⟨_, rfl⟩
    have w33g : w33v.toInt = a.toInt / 1 := by rw [← w33]; exact zdivp rfl li1 (by omega) (by decide)
    refine zs_idiv (pc := 24) t221_24 (by decide) (c := w33v) w33 ?_
    refine zs_bipush (pc := 25) t221_25 (v := 10) (by decide) ?_
    obtain ⟨w34v, w34⟩ : ∃ v, w33v - w33v / (10 : Int32) * (10 : Int32) = v := ⟨_, rfl⟩
    have w34g : 0 ≤ w34v.toInt ∧ w34v.toInt ≤ 9 := by rw [← w34]; exact zrem rfl li10 (by omega) (by decide)
    have w34r : w34v.toInt = w33v.toInt % 10 := by rw [← w34]; exact zremE rfl li10 (by omega) (by decide)
    refine zs_irem (pc := 27) t221_27 (by decide) (c := w34v) w34 ?_
    obtain ⟨w35v, w35e, w35⟩ := ziadd (a := (48 : Int32)) (b := w34v) li48 rfl (by omega) (by omega)
    refine zs_iadd (pc := 28) t221_28 (c := w35v) w35e ?_
    obtain ⟨w36v, w36e⟩ : ∃ v, (w35v.toUInt32 % 65536).toInt32 = v := ⟨_, rfl⟩
    have w36 : w36v.toInt = (48 + w34v.toInt) := zi2c w35 (by omega) (by omega) w36e
    refine zs_i2c (pc := 29) t221_29 (c := w36v) w36e ?_
    have w37 : w36v.toInt = (48 + w34v.toInt) := w36
    have w38 : w36v.toInt = (48 + w34v.toInt) := w36
    have w39 : (zI w31M 6 10).toInt = (zI w31M 6 10).toInt := (congrArg Int32.toInt rfl).trans rfl
    have w40 : (zI w31M 6 10).toInt = (zI w31M 6 10).toInt := (congrArg Int32.toInt rfl).trans rfl
    refine zs_invV (pc := 30) (k := 6) (as' := [.int w36v]) (st := []) t221_30 mf220 rfl rfl (Or.inl ⟨by decide, (zk1 (w31s.k fk_zMc_6))⟩) ⟨by decide, by decide, Nat.le_of_ble_eq_true rfl, Nat.le_of_ble_eq_true rfl⟩ (X220_6 w31s w31I ⟨by omega, by omega⟩ (by omega) (by omega) w31y ?_) (fun _ _ q => q)
    intro w41M w41s w41I w41F w41t0 w41x0
    have w42 := ib6_10 w41I
    show zGo X l 1 0 0 221 33 [(2, .int (1 : Int32)), (0, .ref 6), (1, .int a)] [] w41M _
    have w41y : zWr w41M 6 10 335 (wS (wS (wS (wS c (48 + a.toInt / 1000 % 10)) (48 + a.toInt / 100 % 10)) (48 + a.toInt / 10 % 10)) (48 + a.toInt / 1 % 10)) := by
      have q := w41x0
      rw [show w36v.toInt = (48 + a.toInt / 1 % 10) by first | decide | omega] at q
      exact q
    refine zs_iload_n (pc := 33) t221_33 rfl ?_
    refine zs_bipush (pc := 34) t221_34 (v := 10) (by decide) ?_
    refine zs_idiv (pc := 36) t221_36 (by decide) (c := 0) (by decide) ?_
    refine zs_istore_n (pc := 37) t221_37 (ls' := [(2, .int (0 : Int32)), (0, .ref 6), (1, .int a)]) (zml mf221 (by decide)) rfl ?_
    refine zs_goto (pc := 38) t221_38 ?_
    refine zs_iload_n (pc := 4) t221_4 rfl ?_
    refine zs_iconst (pc := 5) t221_5 (v := 1) (by decide) ?_
    refine zs_icmp_ltT (pc := 6) t221_6 li0 li1 (by decide) ?_
    have w43 : (zI w41M 6 10).toInt = (zI w41M 6 10).toInt := (congrArg Int32.toInt rfl).trans rfl
    exact zs_vret (pc := 41) t221_41 mr221 (hQ _ w41s w41I (((((zFr.refl).trans (w11F.mono rfl)).trans (w21F.mono rfl)).trans (w31F.mono rfl)).trans (w41F.mono rfl)) (by omega) (by rw [wN.k4 (by omega)]; exact w41y))
  · refine zs_icmp_geF (pc := 11) t221_11 rfl li1000 (by omega) ?_
    refine zs_iload_n (pc := 14) t221_14 rfl ?_
    refine zs_iconst (pc := 15) t221_15 (v := 1) (by decide) ?_
    refine zs_icmp_neT (pc := 16) t221_16 li1000 li1 (by decide) ?_
    refine zs_iload_n (pc := 33) t221_33 rfl ?_
    refine zs_bipush (pc := 34) t221_34 (v := 10) (by decide) ?_
    refine zs_idiv (pc := 36) t221_36 (by decide) (c := 100) (by decide) ?_
    refine zs_istore_n (pc := 37) t221_37 (ls' := [(2, .int (100 : Int32)), (0, .ref 6), (1, .int a)]) (zml mf221 (by decide)) rfl ?_
    refine zs_goto (pc := 38) t221_38 ?_
    refine zs_iload_n (pc := 4) t221_4 rfl ?_
    refine zs_iconst (pc := 5) t221_5 (v := 1) (by decide) ?_
    refine zs_icmp_ltF (pc := 6) t221_6 li100 li1 (by decide) ?_
    refine zs_iload_n (pc := 9) t221_9 rfl ?_
    refine zs_iload_n (pc := 10) t221_10 rfl ?_
    by_cases w44 : 100 ≤ a.toInt
    · refine zs_icmp_geT (pc := 11) t221_11 rfl li100 (by omega) ?_
      refine zs_aload_n (pc := 19) t221_19 rfl ?_
      refine zs_bipush (pc := 20) t221_20 (v := 48) (by decide) ?_
      refine zs_iload_n (pc := 22) t221_22 rfl ?_
      refine zs_iload_n (pc := 23) t221_23 rfl ?_
      obtain ⟨w45v, w45⟩ : ∃ v, a / (100 : Int32) = v := ⟨_, rfl⟩
      have w45g : w45v.toInt = a.toInt / 100 := by rw [← w45]; exact zdivp rfl li100 (by omega) (by decide)
      refine zs_idiv (pc := 24) t221_24 (by decide) (c := w45v) w45 ?_
      refine zs_bipush (pc := 25) t221_25 (v := 10) (by decide) ?_
      obtain ⟨w46v, w46⟩ : ∃ v, w45v - w45v / (10 : Int32) * (10 : Int32) = v := ⟨_, rfl⟩
      have w46g : 0 ≤ w46v.toInt ∧ w46v.toInt ≤ 9 := by rw [← w46]; exact zrem rfl li10 (by omega) (by decide)
      have w46r : w46v.toInt = w45v.toInt % 10 := by rw [← w46]; exact zremE rfl li10 (by omega) (by decide)
      refine zs_irem (pc := 27) t221_27 (by decide) (c := w46v) w46 ?_
      obtain ⟨w47v, w47e, w47⟩ := ziadd (a := (48 : Int32)) (b := w46v) li48 rfl (by omega) (by omega)
      refine zs_iadd (pc := 28) t221_28 (c := w47v) w47e ?_
      obtain ⟨w48v, w48e⟩ : ∃ v, (w47v.toUInt32 % 65536).toInt32 = v := ⟨_, rfl⟩
      have w48 : w48v.toInt = (48 + w46v.toInt) := zi2c w47 (by omega) (by omega) w48e
      refine zs_i2c (pc := 29) t221_29 (c := w48v) w48e ?_
      have w49 : w48v.toInt = (48 + w46v.toInt) := w48
      have w50 : w48v.toInt = (48 + w46v.toInt) := w48
      have w51 := ib6_10 hI
      have w52 : (zI M 6 10).toInt = (zI M 6 10).toInt := (congrArg Int32.toInt rfl).trans rfl
      have w53 : (zI M 6 10).toInt = (zI M 6 10).toInt := (congrArg Int32.toInt rfl).trans rfl
      refine zs_invV (pc := 30) (k := 6) (as' := [.int w48v]) (st := []) t221_30 mf220 rfl rfl (Or.inl ⟨by decide, (zk1 (hs.k fk_zMc_6))⟩) ⟨by decide, by decide, Nat.le_of_ble_eq_true rfl, Nat.le_of_ble_eq_true rfl⟩ (X220_6 hs hI ⟨by omega, by omega⟩ (by omega) (by omega) x0 ?_) (fun _ _ q => q)
      intro w54M w54s w54I w54F w54t0 w54x0
      have w55 := ib6_10 w54I
      show zGo X l 1 0 0 221 33 [(2, .int (100 : Int32)), (0, .ref 6), (1, .int a)] [] w54M _
      have w54y : zWr w54M 6 10 335 (wS c (48 + a.toInt / 100 % 10)) := by
        have q := w54x0
        rw [show w48v.toInt = (48 + a.toInt / 100 % 10) by first | decide | omega] at q
        exact q
      refine zs_iload_n (pc := 33) t221_33 rfl ?_
      refine zs_bipush (pc := 34) t221_34 (v := 10) (by decide) ?_
      refine zs_idiv (pc := 36) t221_36 (by decide) (c := 10) (by decide) ?_
      refine zs_istore_n (pc := 37) t221_37 (ls' := [(2, .int (10 : Int32)), (0, .ref 6), (1, .int a)]) (zml mf221 (by decide)) rfl ?_
      refine zs_goto (pc := 38) t221_38 ?_
      refine zs_iload_n (pc := 4) t221_4 rfl ?_
      refine zs_iconst (pc := 5) t221_5 (v := 1) (by decide) ?_
      refine zs_icmp_ltF (pc := 6) t221_6 li10 li1 (by decide) ?_
      refine zs_iload_n (pc := 9) t221_9 rfl ?_
      refine zs_iload_n (pc := 10) t221_10 rfl ?_
      refine zs_icmp_geT (pc := 11) t221_11 rfl li10 (by omega) ?_
      refine zs_aload_n (pc := 19) t221_19 rfl ?_
      refine zs_bipush (pc := 20) t221_20 (v := 48) (by decide) ?_
      refine zs_iload_n (pc := 22) t221_22 rfl ?_
      refine zs_iload_n (pc := 23) t221_23 rfl ?_
      obtain ⟨w56v, w56⟩ : ∃ v, a / (10 : Int32) = v := ⟨_, rfl⟩
      have w56g : w56v.toInt = a.toInt / 10 := by rw [← w56]; exact zdivp rfl li10 (by omega) (by decide)
      refine zs_idiv (pc := 24) t221_24 (by decide) (c := w56v) w56 ?_
      refine zs_bipush (pc := 25) t221_25 (v := 10) (by decide) ?_
      obtain ⟨w57v, w57⟩ : ∃ v, w56v - w56v / (10 : Int32) * (10 : Int32) = v := ⟨_, rfl⟩
      have w57g : 0 ≤ w57v.toInt ∧ w57v.toInt ≤ 9 := by rw [← w57]; exact zrem rfl li10 (by omega) (by decide)
      have w57r : w57v.toInt = w56v.toInt % 10 := by rw [← w57]; exact zremE rfl li10 (by omega) (by decide)
      refine zs_irem (pc := 27) t221_27 (by decide) (c := w57v) w57 ?_
      obtain ⟨w58v, w58e, w58⟩ := ziadd (a := (48 : Int32)) (b := w57v) li48 rfl (by omega) (by omega)
      refine zs_iadd (pc := 28) t221_28 (c := w58v) w58e ?_
      obtain ⟨w59v, w59e⟩ : ∃ v, (w58v.toUInt32 % 65536).toInt32 = v := ⟨_, rfl⟩
      have w59 : w59v.toInt = (48 + w57v.toInt) := zi2c w58 (by omega) (by omega) w59e
      refine zs_i2c (pc := 29) t221_29 (c := w59v) w59e ?_
      have w60 : w59v.toInt = (48 + w57v.toInt) := w59
      have w61 : w59v.toInt = (48 + w57v.toInt) := w59
      have w62 : (zI w54M 6 10).toInt = (zI w54M 6 10).toInt := (congrArg Int32.toInt rfl).trans rfl
      have w63 : (zI w54M 6 10).toInt = (zI w54M 6 10).toInt := (congrArg Int32.toInt rfl).trans rfl
      refine zs_invV (pc := 30) (k := 6) (as' := [.int w59v]) (st := []) t221_30 mf220 rfl rfl (Or.inl ⟨by decide, (zk1 (w54s.k fk_zMc_6))⟩) ⟨by decide, by decide, Nat.le_of_ble_eq_true rfl, Nat.le_of_ble_eq_true rfl⟩ (X220_6 w54s w54I ⟨by omega, by omega⟩ (by omega) (by omega) w54y ?_) (fun _ _ q => q)
      intro w64M w64s w64I w64F w64t0 w64x0
      have w65 := ib6_10 w64I
      show zGo X l 1 0 0 221 33 [(2, .int (10 : Int32)), (0, .ref 6), (1, .int a)] [] w64M _
      have w64y : zWr w64M 6 10 335 (wS (wS c (48 + a.toInt / 100 % 10)) (48 + a.toInt / 10 % 10)) := by
        have q := w64x0
        rw [show w59v.toInt = (48 + a.toInt / 10 % 10) by first | decide | omega] at q
        exact q
      refine zs_iload_n (pc := 33) t221_33 rfl ?_
      refine zs_bipush (pc := 34) t221_34 (v := 10) (by decide) ?_
      refine zs_idiv (pc := 36) t221_36 (by decide) (c := 1) (by decide) ?_
      refine zs_istore_n (pc := 37) t221_37 (ls' := [(2, .int (1 : Int32)), (0, .ref 6), (1, .int a)]) (zml mf221 (by decide)) rfl ?_
      refine zs_goto (pc := 38) t221_38 ?_
      refine zs_iload_n (pc := 4) t221_4 rfl ?_
      refine zs_iconst (pc := 5) t221_5 (v := 1) (by decide) ?_
      refine zs_icmp_ltF (pc := 6) t221_6 li1 li1 (by decide) ?_
      refine zs_iload_n (pc := 9) t221_9 rfl ?_
      refine zs_iload_n (pc := 10) t221_10 rfl ?_
      refine zs_icmp_geT (pc := 11) t221_11 rfl li1 (by omega) ?_
      refine zs_aload_n (pc := 19) t221_19 rfl ?_
      refine zs_bipush (pc := 20) t221_20 (v := 48) (by decide) ?_
      refine zs_iload_n (pc := 22) t221_22 rfl ?_
      refine zs_iload_n (pc := 23) t221_23 rfl ?_
      obtain ⟨w66v, w66⟩ : ∃ v, a / (1 : Int32) = v := ⟨_, rfl⟩
      have w66g : w66v.toInt = a.toInt / 1 := by rw [← w66]; exact zdivp rfl li1 (by omega) (by decide)
      refine zs_idiv (pc := 24) t221_24 (by decide) (c := w66v) w66 ?_
      refine zs_bipush (pc := 25) t221_25 (v := 10) (by decide) ?_
      obtain ⟨w67v, w67⟩ : ∃ v, w66v - w66v / (10 : Int32) * (10 : Int32) = v := ⟨_, rfl⟩
      have w67g : 0 ≤ w67v.toInt ∧ w67v.toInt ≤ 9 := by rw [← w67]; exact zrem rfl li10 (by omega) (by decide)
      have w67r : w67v.toInt = w66v.toInt % 10 := by rw [← w67]; exact zremE rfl li10 (by omega) (by decide)
      refine zs_irem (pc := 27) t221_27 (by decide) (c := w67v) w67 ?_
      obtain ⟨w68v, w68e, w68⟩ := ziadd (a := (48 : Int32)) (b := w67v) li48 rfl (by omega) (by omega)
      refine zs_iadd (pc := 28) t221_28 (c := w68v) w68e ?_
      obtain ⟨w69v, w69e⟩ : ∃ v, (w68v.toUInt32 % 65536).toInt32 = v := ⟨_, rfl⟩
      have w69 : w69v.toInt = (48 + w67v.toInt) := zi2c w68 (by omega) (by omega) w69e
      refine zs_i2c (pc := 29) t221_29 (c := w69v) w69e ?_
      have w70 : w69v.toInt = (48 + w67v.toInt) := w69
      have w71 : w69v.toInt = (48 + w67v.toInt) := w69
      have w72 : (zI w64M 6 10).toInt = (zI w64M 6 10).toInt := (congrArg Int32.toInt rfl).trans rfl
      have w73 : (zI w64M 6 10).toInt = (zI w64M 6 10).toInt := (congrArg Int32.toInt rfl).trans rfl
      refine zs_invV (pc := 30) (k := 6) (as' := [.int w69v]) (st := []) t221_30 mf220 rfl rfl (Or.inl ⟨by decide, (zk1 (w64s.k fk_zMc_6))⟩) ⟨by decide, by decide, Nat.le_of_ble_eq_true rfl, Nat.le_of_ble_eq_true rfl⟩ (X220_6 w64s w64I ⟨by omega, by omega⟩ (by omega) (by omega) w64y ?_) (fun _ _ q => q)
      intro w74M w74s w74I w74F w74t0 w74x0
      have w75 := ib6_10 w74I
      show zGo X l 1 0 0 221 33 [(2, .int (1 : Int32)), (0, .ref 6), (1, .int a)] [] w74M _
      have w74y : zWr w74M 6 10 335 (wS (wS (wS c (48 + a.toInt / 100 % 10)) (48 + a.toInt / 10 % 10)) (48 + a.toInt / 1 % 10)) := by
        have q := w74x0
        rw [show w69v.toInt = (48 + a.toInt / 1 % 10) by first | decide | omega] at q
        exact q
      refine zs_iload_n (pc := 33) t221_33 rfl ?_
      refine zs_bipush (pc := 34) t221_34 (v := 10) (by decide) ?_
      refine zs_idiv (pc := 36) t221_36 (by decide) (c := 0) (by decide) ?_
      refine zs_istore_n (pc := 37) t221_37 (ls' := [(2, .int (0 : Int32)), (0, .ref 6), (1, .int a)]) (zml mf221 (by decide)) rfl ?_
      refine zs_goto (pc := 38) t221_38 ?_
      refine zs_iload_n (pc := 4) t221_4 rfl ?_
      refine zs_iconst (pc := 5) t221_5 (v := 1) (by decide) ?_
      refine zs_icmp_ltT (pc := 6) t221_6 li0 li1 (by decide) ?_
      have w76 : (zI w74M 6 10).toInt = (zI w74M 6 10).toInt := (congrArg Int32.toInt rfl).trans rfl
      exact zs_vret (pc := 41) t221_41 mr221 (hQ _ w74s w74I ((((zFr.refl).trans (w54F.mono rfl)).trans (w64F.mono rfl)).trans (w74F.mono rfl)) (by omega) (by rw [wN.k3 (by omega) (by omega)]; exact w74y))
    · refine zs_icmp_geF (pc := 11) t221_11 rfl li100 (by omega) ?_
      refine zs_iload_n (pc := 14) t221_14 rfl ?_
      refine zs_iconst (pc := 15) t221_15 (v := 1) (by decide) ?_
      refine zs_icmp_neT (pc := 16) t221_16 li100 li1 (by decide) ?_
      refine zs_iload_n (pc := 33) t221_33 rfl ?_
      refine zs_bipush (pc := 34) t221_34 (v := 10) (by decide) ?_
      refine zs_idiv (pc := 36) t221_36 (by decide) (c := 10) (by decide) ?_
      refine zs_istore_n (pc := 37) t221_37 (ls' := [(2, .int (10 : Int32)), (0, .ref 6), (1, .int a)]) (zml mf221 (by decide)) rfl ?_
      refine zs_goto (pc := 38) t221_38 ?_
      refine zs_iload_n (pc := 4) t221_4 rfl ?_
      refine zs_iconst (pc := 5) t221_5 (v := 1) (by decide) ?_
      refine zs_icmp_ltF (pc := 6) t221_6 li10 li1 (by decide) ?_
      refine zs_iload_n (pc := 9) t221_9 rfl ?_
      refine zs_iload_n (pc := 10) t221_10 rfl ?_
      by_cases w77 : 10 ≤ a.toInt
      · refine zs_icmp_geT (pc := 11) t221_11 rfl li10 (by omega) ?_
        refine zs_aload_n (pc := 19) t221_19 rfl ?_
        refine zs_bipush (pc := 20) t221_20 (v := 48) (by decide) ?_
        refine zs_iload_n (pc := 22) t221_22 rfl ?_
        refine zs_iload_n (pc := 23) t221_23 rfl ?_
        obtain ⟨w78v, w78⟩ : ∃ v, a / (10 : Int32) = v := ⟨_, rfl⟩
        have w78g : w78v.toInt = a.toInt / 10 := by rw [← w78]; exact zdivp rfl li10 (by omega) (by decide)
        refine zs_idiv (pc := 24) t221_24 (by decide) (c := w78v) w78 ?_
        refine zs_bipush (pc := 25) t221_25 (v := 10) (by decide) ?_
        obtain ⟨w79v, w79⟩ : ∃ v, w78v - w78v / (10 : Int32) * (10 : Int32) = v := ⟨_, rfl⟩
        have w79g : 0 ≤ w79v.toInt ∧ w79v.toInt ≤ 9 := by rw [← w79]; exact zrem rfl li10 (by omega) (by decide)
        have w79r : w79v.toInt = w78v.toInt % 10 := by rw [← w79]; exact zremE rfl li10 (by omega) (by decide)
        refine zs_irem (pc := 27) t221_27 (by decide) (c := w79v) w79 ?_
        obtain ⟨w80v, w80e, w80⟩ := ziadd (a := (48 : Int32)) (b := w79v) li48 rfl (by omega) (by omega)
        refine zs_iadd (pc := 28) t221_28 (c := w80v) w80e ?_
        obtain ⟨w81v, w81e⟩ : ∃ v, (w80v.toUInt32 % 65536).toInt32 = v := ⟨_, rfl⟩
        have w81 : w81v.toInt = (48 + w79v.toInt) := zi2c w80 (by omega) (by omega) w81e
        refine zs_i2c (pc := 29) t221_29 (c := w81v) w81e ?_
        have w82 : w81v.toInt = (48 + w79v.toInt) := w81
        have w83 : w81v.toInt = (48 + w79v.toInt) := w81
        have w84 := ib6_10 hI
        have w85 : (zI M 6 10).toInt = (zI M 6 10).toInt := (congrArg Int32.toInt rfl).trans rfl
        have w86 : (zI M 6 10).toInt = (zI M 6 10).toInt := (congrArg Int32.toInt rfl).trans rfl
        refine zs_invV (pc := 30) (k := 6) (as' := [.int w81v]) (st := []) t221_30 mf220 rfl rfl (Or.inl ⟨by decide, (zk1 (hs.k fk_zMc_6))⟩) ⟨by decide, by decide, Nat.le_of_ble_eq_true rfl, Nat.le_of_ble_eq_true rfl⟩ (X220_6 hs hI ⟨by omega, by omega⟩ (by omega) (by omega) x0 ?_) (fun _ _ q => q)
        intro w87M w87s w87I w87F w87t0 w87x0
        have w88 := ib6_10 w87I
        show zGo X l 1 0 0 221 33 [(2, .int (10 : Int32)), (0, .ref 6), (1, .int a)] [] w87M _
        have w87y : zWr w87M 6 10 335 (wS c (48 + a.toInt / 10 % 10)) := by
          have q := w87x0
          rw [show w81v.toInt = (48 + a.toInt / 10 % 10) by first | decide | omega] at q
          exact q
        refine zs_iload_n (pc := 33) t221_33 rfl ?_
        refine zs_bipush (pc := 34) t221_34 (v := 10) (by decide) ?_
        refine zs_idiv (pc := 36) t221_36 (by decide) (c := 1) (by decide) ?_
        refine zs_istore_n (pc := 37) t221_37 (ls' := [(2, .int (1 : Int32)), (0, .ref 6), (1, .int a)]) (zml mf221 (by decide)) rfl ?_
        refine zs_goto (pc := 38) t221_38 ?_
        refine zs_iload_n (pc := 4) t221_4 rfl ?_
        refine zs_iconst (pc := 5) t221_5 (v := 1) (by decide) ?_
        refine zs_icmp_ltF (pc := 6) t221_6 li1 li1 (by decide) ?_
        refine zs_iload_n (pc := 9) t221_9 rfl ?_
        refine zs_iload_n (pc := 10) t221_10 rfl ?_
        refine zs_icmp_geT (pc := 11) t221_11 rfl li1 (by omega) ?_
        refine zs_aload_n (pc := 19) t221_19 rfl ?_
        refine zs_bipush (pc := 20) t221_20 (v := 48) (by decide) ?_
        refine zs_iload_n (pc := 22) t221_22 rfl ?_
        refine zs_iload_n (pc := 23) t221_23 rfl ?_
        obtain ⟨w89v, w89⟩ : ∃ v, a / (1 : Int32) = v := ⟨_, rfl⟩
        have w89g : w89v.toInt = a.toInt / 1 := by rw [← w89]; exact zdivp rfl li1 (by omega) (by decide)
        refine zs_idiv (pc := 24) t221_24 (by decide) (c := w89v) w89 ?_
        refine zs_bipush (pc := 25) t221_25 (v := 10) (by decide) ?_
        obtain ⟨w90v, w90⟩ : ∃ v, w89v - w89v / (10 : Int32) * (10 : Int32) = v := ⟨_, rfl⟩
        have w90g : 0 ≤ w90v.toInt ∧ w90v.toInt ≤ 9 := by rw [← w90]; exact zrem rfl li10 (by omega) (by decide)
        have w90r : w90v.toInt = w89v.toInt % 10 := by rw [← w90]; exact zremE rfl li10 (by omega) (by decide)
        refine zs_irem (pc := 27) t221_27 (by decide) (c := w90v) w90 ?_
        obtain ⟨w91v, w91e, w91⟩ := ziadd (a := (48 : Int32)) (b := w90v) li48 rfl (by omega) (by omega)
        refine zs_iadd (pc := 28) t221_28 (c := w91v) w91e ?_
        obtain ⟨w92v, w92e⟩ : ∃ v, (w91v.toUInt32 % 65536).toInt32 = v := ⟨_, rfl⟩
        have w92 : w92v.toInt = (48 + w90v.toInt) := zi2c w91 (by omega) (by omega) w92e
        refine zs_i2c (pc := 29) t221_29 (c := w92v) w92e ?_
        have w93 : w92v.toInt = (48 + w90v.toInt) := w92
        have w94 : w92v.toInt = (48 + w90v.toInt) := w92
        have w95 : (zI w87M 6 10).toInt = (zI w87M 6 10).toInt := (congrArg Int32.toInt rfl).trans rfl
        have w96 : (zI w87M 6 10).toInt = (zI w87M 6 10).toInt := (congrArg Int32.toInt rfl).trans rfl
        refine zs_invV (pc := 30) (k := 6) (as' := [.int w92v]) (st := []) t221_30 mf220 rfl rfl (Or.inl ⟨by decide, (zk1 (w87s.k fk_zMc_6))⟩) ⟨by decide, by decide, Nat.le_of_ble_eq_true rfl, Nat.le_of_ble_eq_true rfl⟩ (X220_6 w87s w87I ⟨by omega, by omega⟩ (by omega) (by omega) w87y ?_) (fun _ _ q => q)
        intro w97M w97s w97I w97F w97t0 w97x0
        have w98 := ib6_10 w97I
        show zGo X l 1 0 0 221 33 [(2, .int (1 : Int32)), (0, .ref 6), (1, .int a)] [] w97M _
        have w97y : zWr w97M 6 10 335 (wS (wS c (48 + a.toInt / 10 % 10)) (48 + a.toInt / 1 % 10)) := by
          have q := w97x0
          rw [show w92v.toInt = (48 + a.toInt / 1 % 10) by first | decide | omega] at q
          exact q
        refine zs_iload_n (pc := 33) t221_33 rfl ?_
        refine zs_bipush (pc := 34) t221_34 (v := 10) (by decide) ?_
        refine zs_idiv (pc := 36) t221_36 (by decide) (c := 0) (by decide) ?_
        refine zs_istore_n (pc := 37) t221_37 (ls' := [(2, .int (0 : Int32)), (0, .ref 6), (1, .int a)]) (zml mf221 (by decide)) rfl ?_
        refine zs_goto (pc := 38) t221_38 ?_
        refine zs_iload_n (pc := 4) t221_4 rfl ?_
        refine zs_iconst (pc := 5) t221_5 (v := 1) (by decide) ?_
        refine zs_icmp_ltT (pc := 6) t221_6 li0 li1 (by decide) ?_
        have w99 : (zI w97M 6 10).toInt = (zI w97M 6 10).toInt := (congrArg Int32.toInt rfl).trans rfl
        exact zs_vret (pc := 41) t221_41 mr221 (hQ _ w97s w97I (((zFr.refl).trans (w87F.mono rfl)).trans (w97F.mono rfl)) (by omega) (by rw [wN.k2 (by omega) (by omega)]; exact w97y))
      · refine zs_icmp_geF (pc := 11) t221_11 rfl li10 (by omega) ?_
        refine zs_iload_n (pc := 14) t221_14 rfl ?_
        refine zs_iconst (pc := 15) t221_15 (v := 1) (by decide) ?_
        refine zs_icmp_neT (pc := 16) t221_16 li10 li1 (by decide) ?_
        refine zs_iload_n (pc := 33) t221_33 rfl ?_
        refine zs_bipush (pc := 34) t221_34 (v := 10) (by decide) ?_
        refine zs_idiv (pc := 36) t221_36 (by decide) (c := 1) (by decide) ?_
        refine zs_istore_n (pc := 37) t221_37 (ls' := [(2, .int (1 : Int32)), (0, .ref 6), (1, .int a)]) (zml mf221 (by decide)) rfl ?_
        refine zs_goto (pc := 38) t221_38 ?_
        refine zs_iload_n (pc := 4) t221_4 rfl ?_
        refine zs_iconst (pc := 5) t221_5 (v := 1) (by decide) ?_
        refine zs_icmp_ltF (pc := 6) t221_6 li1 li1 (by decide) ?_
        refine zs_iload_n (pc := 9) t221_9 rfl ?_
        refine zs_iload_n (pc := 10) t221_10 rfl ?_
        by_cases w100 : 1 ≤ a.toInt
        · refine zs_icmp_geT (pc := 11) t221_11 rfl li1 (by omega) ?_
          refine zs_aload_n (pc := 19) t221_19 rfl ?_
          refine zs_bipush (pc := 20) t221_20 (v := 48) (by decide) ?_
          refine zs_iload_n (pc := 22) t221_22 rfl ?_
          refine zs_iload_n (pc := 23) t221_23 rfl ?_
          obtain ⟨w101v, w101⟩ : ∃ v, a / (1 : Int32) = v := ⟨_, rfl⟩
          have w101g : w101v.toInt = a.toInt / 1 := by rw [← w101]; exact zdivp rfl li1 (by omega) (by decide)
          refine zs_idiv (pc := 24) t221_24 (by decide) (c := w101v) w101 ?_
          refine zs_bipush (pc := 25) t221_25 (v := 10) (by decide) ?_
          obtain ⟨w102v, w102⟩ : ∃ v, w101v - w101v / (10 : Int32) * (10 : Int32) = v := ⟨_, rfl⟩
          have w102g : 0 ≤ w102v.toInt ∧ w102v.toInt ≤ 9 := by rw [← w102]; exact zrem rfl li10 (by omega) (by decide)
          have w102r : w102v.toInt = w101v.toInt % 10 := by rw [← w102]; exact zremE rfl li10 (by omega) (by decide)
          refine zs_irem (pc := 27) t221_27 (by decide) (c := w102v) w102 ?_
          obtain ⟨w103v, w103e, w103⟩ := ziadd (a := (48 : Int32)) (b := w102v) li48 rfl (by omega) (by omega)
          refine zs_iadd (pc := 28) t221_28 (c := w103v) w103e ?_
          obtain ⟨w104v, w104e⟩ : ∃ v, (w103v.toUInt32 % 65536).toInt32 = v := ⟨_, rfl⟩
          have w104 : w104v.toInt = (48 + w102v.toInt) := zi2c w103 (by omega) (by omega) w104e
          refine zs_i2c (pc := 29) t221_29 (c := w104v) w104e ?_
          have w105 : w104v.toInt = (48 + w102v.toInt) := w104
          have w106 : w104v.toInt = (48 + w102v.toInt) := w104
          have w107 := ib6_10 hI
          have w108 : (zI M 6 10).toInt = (zI M 6 10).toInt := (congrArg Int32.toInt rfl).trans rfl
          have w109 : (zI M 6 10).toInt = (zI M 6 10).toInt := (congrArg Int32.toInt rfl).trans rfl
          refine zs_invV (pc := 30) (k := 6) (as' := [.int w104v]) (st := []) t221_30 mf220 rfl rfl (Or.inl ⟨by decide, (zk1 (hs.k fk_zMc_6))⟩) ⟨by decide, by decide, Nat.le_of_ble_eq_true rfl, Nat.le_of_ble_eq_true rfl⟩ (X220_6 hs hI ⟨by omega, by omega⟩ (by omega) (by omega) x0 ?_) (fun _ _ q => q)
          intro w110M w110s w110I w110F w110t0 w110x0
          have w111 := ib6_10 w110I
          show zGo X l 1 0 0 221 33 [(2, .int (1 : Int32)), (0, .ref 6), (1, .int a)] [] w110M _
          have w110y : zWr w110M 6 10 335 (wS c (48 + a.toInt / 1 % 10)) := by
            have q := w110x0
            rw [show w104v.toInt = (48 + a.toInt / 1 % 10) by first | decide | omega] at q
            exact q
          refine zs_iload_n (pc := 33) t221_33 rfl ?_
          refine zs_bipush (pc := 34) t221_34 (v := 10) (by decide) ?_
          refine zs_idiv (pc := 36) t221_36 (by decide) (c := 0) (by decide) ?_
          refine zs_istore_n (pc := 37) t221_37 (ls' := [(2, .int (0 : Int32)), (0, .ref 6), (1, .int a)]) (zml mf221 (by decide)) rfl ?_
          refine zs_goto (pc := 38) t221_38 ?_
          refine zs_iload_n (pc := 4) t221_4 rfl ?_
          refine zs_iconst (pc := 5) t221_5 (v := 1) (by decide) ?_
          refine zs_icmp_ltT (pc := 6) t221_6 li0 li1 (by decide) ?_
          have w112 : (zI w110M 6 10).toInt = (zI w110M 6 10).toInt := (congrArg Int32.toInt rfl).trans rfl
          exact zs_vret (pc := 41) t221_41 mr221 (hQ _ w110s w110I ((zFr.refl).trans (w110F.mono rfl)) (by omega) (by rw [wN.k1 (by omega)]; exact w110y))
        · refine zs_icmp_geF (pc := 11) t221_11 rfl li1 (by omega) ?_
          refine zs_iload_n (pc := 14) t221_14 rfl ?_
          refine zs_iconst (pc := 15) t221_15 (v := 1) (by decide) ?_
          refine zs_icmp_neF (pc := 16) t221_16 li1 li1 (by decide) ?_
          refine zs_aload_n (pc := 19) t221_19 rfl ?_
          refine zs_bipush (pc := 20) t221_20 (v := 48) (by decide) ?_
          refine zs_iload_n (pc := 22) t221_22 rfl ?_
          refine zs_iload_n (pc := 23) t221_23 rfl ?_
          obtain ⟨w113v, w113⟩ : ∃ v, a / (1 : Int32) = v := ⟨_, rfl⟩
          have w113g : w113v.toInt = a.toInt / 1 := by rw [← w113]; exact zdivp rfl li1 (by omega) (by decide)
          refine zs_idiv (pc := 24) t221_24 (by decide) (c := w113v) w113 ?_
          refine zs_bipush (pc := 25) t221_25 (v := 10) (by decide) ?_
          obtain ⟨w114v, w114⟩ : ∃ v, w113v - w113v / (10 : Int32) * (10 : Int32) = v := ⟨_, rfl⟩
          have w114g : 0 ≤ w114v.toInt ∧ w114v.toInt ≤ 9 := by rw [← w114]; exact zrem rfl li10 (by omega) (by decide)
          have w114r : w114v.toInt = w113v.toInt % 10 := by rw [← w114]; exact zremE rfl li10 (by omega) (by decide)
          refine zs_irem (pc := 27) t221_27 (by decide) (c := w114v) w114 ?_
          obtain ⟨w115v, w115e, w115⟩ := ziadd (a := (48 : Int32)) (b := w114v) li48 rfl (by omega) (by omega)
          refine zs_iadd (pc := 28) t221_28 (c := w115v) w115e ?_
          obtain ⟨w116v, w116e⟩ : ∃ v, (w115v.toUInt32 % 65536).toInt32 = v := ⟨_, rfl⟩
          have w116 : w116v.toInt = (48 + w114v.toInt) := zi2c w115 (by omega) (by omega) w116e
          refine zs_i2c (pc := 29) t221_29 (c := w116v) w116e ?_
          have w117 : w116v.toInt = (48 + w114v.toInt) := w116
          have w118 : w116v.toInt = (48 + w114v.toInt) := w116
          have w119 := ib6_10 hI
          have w120 : (zI M 6 10).toInt = (zI M 6 10).toInt := (congrArg Int32.toInt rfl).trans rfl
          have w121 : (zI M 6 10).toInt = (zI M 6 10).toInt := (congrArg Int32.toInt rfl).trans rfl
          refine zs_invV (pc := 30) (k := 6) (as' := [.int w116v]) (st := []) t221_30 mf220 rfl rfl (Or.inl ⟨by decide, (zk1 (hs.k fk_zMc_6))⟩) ⟨by decide, by decide, Nat.le_of_ble_eq_true rfl, Nat.le_of_ble_eq_true rfl⟩ (X220_6 hs hI ⟨by omega, by omega⟩ (by omega) (by omega) x0 ?_) (fun _ _ q => q)
          intro w122M w122s w122I w122F w122t0 w122x0
          have w123 := ib6_10 w122I
          show zGo X l 1 0 0 221 33 [(2, .int (1 : Int32)), (0, .ref 6), (1, .int a)] [] w122M _
          have w122y : zWr w122M 6 10 335 (wS c (48 + a.toInt / 1 % 10)) := by
            have q := w122x0
            rw [show w116v.toInt = (48 + a.toInt / 1 % 10) by first | decide | omega] at q
            exact q
          refine zs_iload_n (pc := 33) t221_33 rfl ?_
          refine zs_bipush (pc := 34) t221_34 (v := 10) (by decide) ?_
          refine zs_idiv (pc := 36) t221_36 (by decide) (c := 0) (by decide) ?_
          refine zs_istore_n (pc := 37) t221_37 (ls' := [(2, .int (0 : Int32)), (0, .ref 6), (1, .int a)]) (zml mf221 (by decide)) rfl ?_
          refine zs_goto (pc := 38) t221_38 ?_
          refine zs_iload_n (pc := 4) t221_4 rfl ?_
          refine zs_iconst (pc := 5) t221_5 (v := 1) (by decide) ?_
          refine zs_icmp_ltT (pc := 6) t221_6 li0 li1 (by decide) ?_
          have w124 : (zI w122M 6 10).toInt = (zI w122M 6 10).toInt := (congrArg Int32.toInt rfl).trans rfl
          exact zs_vret (pc := 41) t221_41 mr221 (hQ _ w122s w122I ((zFr.refl).trans (w122F.mono rfl)) (by omega) (by rw [wN.k1 (by omega)]; exact w122y))
