theorem H238 {X : zX} {l : Launch} {M : zM} {Q : Option Value → zM → Prop} (hs : zSk zMm M) (hI : zIv mLo mHi M) (hQ : Q (some (.int (zhere M))) M) : zCall X l 0 0 0 238 [.ref 336] M Q := by
  refine zs_in (by decide) mf238 (Nat.le_of_ble_eq_true rfl) ?_
  show zGo X l 0 0 0 238 0 [(0, .ref 336)] [] M _
  refine zs_aload_n (pc := 0) t238_0 rfl ?_
  have w1 := ib336_6 hI
  refine zs_get (pc := 1) t238_1 (by decide) (zk1 (hs.k fk_zMm_336)) (zfvi rfl rfl) ?_
  refine zs_aload_n (pc := 4) t238_4 rfl ?_
  have w2 := ib336_5 hI
  refine zs_get (pc := 5) t238_5 (by decide) (zk1 (hs.k fk_zMm_336)) (zfvi rfl rfl) ?_
  by_cases w3 : (zI M 336 5).toInt ≤ (zI M 336 6).toInt
  · refine zs_icmp_geT (pc := 8) t238_8 rfl rfl (by omega) ?_
    refine zs_iconst (pc := 27) t238_27 (v := -1) (by decide) ?_
    exact zs_iret (pc := 28) t238_28 mr238 (by decide) (by unfold zhere at hQ; rw [if_neg (by omega)] at hQ; exact hQ)
  · refine zs_icmp_geF (pc := 8) t238_8 rfl rfl (by omega) ?_
    refine zs_aload_n (pc := 11) t238_11 rfl ?_
    refine zs_get (pc := 12) t238_12 (by decide) (zk1 (hs.k fk_zMm_336)) (hs.p rfl fv_zMm_336_4) ?_
    refine zs_aload_n (pc := 15) t238_15 rfl ?_
    refine zs_get (pc := 16) t238_16 (by decide) (zk1 (hs.k fk_zMm_336)) (zfvi rfl rfl) ?_
    obtain ⟨w4n, w4⟩ : ∃ n : Nat, (zI M 336 6).toInt = (n : Int) := ⟨((zI M 336 6).toInt).toNat, by omega⟩
    have w5 := ib339 hI w4n
    refine zs_bald (pc := 19) t238_19 (j := w4n) (Or.inl (zk1 (hs.k fk_zMm_339))) (show (zI M 336 6).toInt = ((w4n : Nat) : Int) by omega) (zk2 (hs.k fk_zMm_339) (by omega)) rfl ?_
    refine zs_sipush (pc := 20) t238_20 (v := 255) (by decide) ?_
    obtain ⟨w6v, w6⟩ : ∃ v, (zI M 339 w4n) &&& (255 : Int32) = v := ⟨_, rfl⟩
    have w6g : 0 ≤ w6v.toInt ∧ w6v.toInt ≤ 255 := by rw [← w6]; exact zand li255 (by decide)
    refine zs_iand (pc := 23) t238_23 (c := w6v) w6 ?_
    refine zs_goto (pc := 24) t238_24 ?_
    exact zs_iret (pc := 28) t238_28 mr238 rfl (by unfold zhere at hQ; rw [if_pos (by omega), show (zI M 336 6).toInt.toNat = w4n by omega] at hQ; subst_vars; exact hQ)
