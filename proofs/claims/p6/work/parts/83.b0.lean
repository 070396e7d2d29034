theorem W347 {X : zX} {l : Launch} {M : zM} {Q : Option Value → zM → Prop} {a : Int32} (hs : zSk zMm M) (hI : zIv mLo mHi M) {c : zWt} (ha : 0 ≤ a.toInt ∧ a.toInt ≤ 127) (u0 : (zI M 336 50).toInt ≤ 149) (x0 : zWr M 336 50 363 c) (hQ : ∀ M', zSk zMm M' → zIv mLo mHi M' → zFr [(363, 363, none), (336, 336, some 50)] M M' → zJ M' 351 = zJ M 351 → ((zI M' 336 50).toInt = (zI M 336 50).toInt + 1) → (zWr M' 336 50 363 (wS c a.toInt)) → Q none M') : zCall X l 0 0 0 347 [.ref 336, .int a] M Q := by
  have ga := zrg a
  refine zs_in (by decide) mf347 (Nat.le_of_ble_eq_true rfl) ?_
  show zGo X l 0 0 0 347 0 [(0, .ref 336), (1, .int a)] [] M _
  have g0 := x0.1
  refine zs_aload_n (pc := 0) t347_0 rfl ?_
  refine zs_get (pc := 1) t347_1 (by decide) (zk1 (hs.k fk_zMm_336)) (hs.p rfl fv_zMm_336_49) ?_
  refine zs_aload_n (pc := 4) t347_4 rfl ?_
  have w1 := ib336_50 hI
  refine zs_get (pc := 5) t347_5 (by decide) (zk1 (hs.k fk_zMm_336)) (zfvi rfl rfl) ?_
  refine zs_iload_n (pc := 8) t347_8 rfl ?_
  obtain ⟨w2v, w2e⟩ : ∃ v, a.toInt8.toInt32 = v := ⟨_, rfl⟩
  have w2x := zi2b rfl (by omega) (by omega) w2e
  have w2 : (-128) ≤ w2v.toInt ∧ w2v.toInt ≤ 127 := by rw [← w2e]; exact znb _
  refine zs_i2b (pc := 9) t347_9 (c := w2v) w2e ?_
  obtain ⟨w3n, w3⟩ : ∃ n : Nat, (zI M 336 50).toInt = (n : Int) := ⟨((zI M 336 50).toInt).toNat, by omega⟩
  obtain ⟨w4v, w4e⟩ : ∃ v, vp_nar .byte w2v = v := ⟨_, rfl⟩
  have w4 : -128 ≤ w4v.toInt ∧ w4v.toInt ≤ 127 := by rw [← w4e]; exact znb _
  have w5 : zIv mLo mHi (zsI M 363 w3n w4v) := zIv.put hI (show (-128) ≤ w4v.toInt ∧ w4v.toInt ≤ 127 from ⟨by omega, by omega⟩)
  refine zs_bastB (pc := 10) t347_10 (j := w3n) (by decide) (zk1 (hs.k fk_zMm_363)) (show (zI M 336 50).toInt = ((w3n : Nat) : Int) by omega) (zk2 (hs.k fk_zMm_363) (by omega)) w4e ?_
  refine zs_aload_n (pc := 11) t347_11 rfl ?_
  refine zs_dup (pc := 12) t347_12 rfl ?_
  refine zs_get (pc := 13) t347_13 (by decide) (zk1 (hs.k fk_zMm_336)) (zfvi rfl ((zIo (by decide)).trans rfl)) ?_
  refine zs_iconst (pc := 16) t347_16 (v := 1) (by decide) ?_
  obtain ⟨w6v, w6e, w6⟩ := ziadd (a := (zI M 336 50)) (b := (1 : Int32)) rfl li1 (by omega) (by omega)
  refine zs_iadd (pc := 17) t347_17 (c := w6v) w6e ?_
  have w7 : zIv mLo mHi (zsI (zsI M 363 w3n w4v) 336 50 w6v) := zIv.put w5 (show 0 ≤ w6v.toInt ∧ w6v.toInt ≤ 150 from ⟨by omega, by omega⟩)
  refine zs_putI (pc := 18) t347_18 (zk1 (hs.k fk_zMm_336)) rfl ?_
  have w8 : (zI (zsI (zsI M 363 w3n w4v) 336 50 w6v) 336 50).toInt = ((zI M 336 50).toInt + 1) := (congrArg Int32.toInt zIs).trans w6
  have w10 : w6v.toInt = ((zI M 336 50).toInt + 1) := w6
  have w9 : w4v.toInt = a.toInt := by rw [← w4e, znar (by omega) (by omega)]; omega
  exact zs_vret (pc := 21) t347_21 mr347 (hQ _ hs w7 (((zFr.refl).put rfl).put rfl) rfl (by omega) (zWr.put (n := w3n) x0 (by decide) (by omega) w9 (by omega) (by omega) (by omega)))
