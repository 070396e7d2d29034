theorem K264 {X : zX} {l : Launch} {M : zM} {Q : Option Value → zM → Prop} {a : Int32} (hs : zSk zMm M) (hI : zIv mLo mHi M) (hQ : ∀ v : Int32, ((v.toInt = 1 ∧ 1 ≤ (zI M 336 12).toInt ∧ ∀ n : Nat, (n : Int) + 1 = (zI M 336 12).toInt → (zI M 341 n).toInt = a.toInt) ∨ (v.toInt = 0 ∧ ∀ n : Nat, (n : Int) + 1 = (zI M 336 12).toInt → (zI M 341 n).toInt ≠ a.toInt)) → 0 ≤ v.toInt → v.toInt ≤ 1 → Q (some (.int v)) M) : zCall X l 0 0 0 264 [.ref 336, .int a] M Q := by
  have ga := zrg a
  refine zs_in (by decide) mf264 (Nat.le_of_ble_eq_true rfl) ?_
  show zGo X l 0 0 0 264 0 [(0, .ref 336), (1, .int a)] [] M _
  refine zs_aload_n (pc := 0) t264_0 rfl ?_
  have w1 := ib336_12 hI
  refine zs_get (pc := 1) t264_1 (by decide) (zk1 (hs.k fk_zMm_336)) (zfvi rfl rfl) ?_
  by_cases w2 : (zI M 336 12).toInt ≤ 0
  · refine zs_if_leT (pc := 4) t264_4 rfl (by omega) ?_
    refine zs_iconst (pc := 26) t264_26 (v := 0) (by decide) ?_
    exact zs_iret (pc := 27) t264_27 mr264 (by decide) (hQ _ (Or.inr ⟨by decide, fun n hn => by omega⟩) (by decide) (by decide))
  · refine zs_if_leF (pc := 4) t264_4 rfl (by omega) ?_
    refine zs_aload_n (pc := 7) t264_7 rfl ?_
    refine zs_get (pc := 8) t264_8 (by decide) (zk1 (hs.k fk_zMm_336)) (hs.p rfl fv_zMm_336_10) ?_
    refine zs_aload_n (pc := 11) t264_11 rfl ?_
    refine zs_get (pc := 12) t264_12 (by decide) (zk1 (hs.k fk_zMm_336)) (zfvi rfl rfl) ?_
    refine zs_iconst (pc := 15) t264_15 (v := 1) (by decide) ?_
    obtain ⟨w3v, w3e, w3⟩ := zisub (a := (zI M 336 12)) (b := (1 : Int32)) rfl li1 (by omega) (by omega)
    refine zs_isub (pc := 16) t264_16 (c := w3v) w3e ?_
    obtain ⟨w4n, w4⟩ : ∃ n : Nat, w3v.toInt = (n : Int) := ⟨w3v.toInt.toNat, by omega⟩
    have w5 := zrg (zI M 341 w4n)
    refine zs_iald (pc := 17) t264_17 (j := w4n) (by decide) (zk1 (hs.k fk_zMm_341)) w4 (zk2 (hs.k fk_zMm_341) (by omega)) rfl ?_
    refine zs_iload_n (pc := 18) t264_18 rfl ?_
    by_cases w6 : (zI M 341 w4n).toInt ≠ a.toInt
    · refine zs_icmp_neT (pc := 19) t264_19 rfl rfl (by omega) ?_
      refine zs_iconst (pc := 26) t264_26 (v := 0) (by decide) ?_
      exact zs_iret (pc := 27) t264_27 mr264 (by decide) (hQ _ (Or.inr ⟨by decide, fun n hn => by obtain rfl : n = w4n := (by omega); omega⟩) (by decide) (by decide))
    · refine zs_icmp_neF (pc := 19) t264_19 rfl rfl (by omega) ?_
      refine zs_iconst (pc := 22) t264_22 (v := 1) (by decide) ?_
      refine zs_goto (pc := 23) t264_23 ?_
      exact zs_iret (pc := 27) t264_27 mr264 (by decide) (hQ _ (Or.inl ⟨by decide, by omega, fun n hn => by obtain rfl : n = w4n := (by omega); omega⟩) (by decide) (by decide))
theorem K265 {X : zX} {l : Launch} {M : zM} {Q : Option Value → zM → Prop} (hs : zSk zMm M) (hI : zIv mLo mHi M) {hh hq : Int} (pH : zGh M hh) (u0 : 1 ≤ (zI M 336 12).toInt) (u1 : (zI M 336 11).toInt ≤ 199) (x0 : ∀ n : Nat, (n : Int) + 1 = (zI M 336 12).toInt → ((zI M 341 n).toInt = 33 ∧ 1 ≤ hh ∧ hq = hh) ∨ (((zI M 341 n).toInt = 38 ∨ (zI M 341 n).toInt = 124) ∧ 2 ≤ hh ∧ hq = hh - 1)) (hQ : ∀ M', zSk zMm M' → zIv mLo mHi M' → zFr [(336, 336, some 12), (336, 336, some 11), (340, 340, none)] M M' → zJ M' 351 = zJ M 351 → zGh M' hq → ((zI M' 336 12).toInt = (zI M 336 12).toInt - 1) → ((zI M' 336 11).toInt = (zI M 336 11).toInt + 1) → Q none M') : zCall X l 1 0 0 265 [.ref 336] M Q := by
  refine zs_in (by decide) mf265 (Nat.le_of_ble_eq_true rfl) ?_
  show zGo X l 1 0 0 265 0 [(0, .ref 336)] [] M _
  refine zs_aload_n (pc := 0) t265_0 rfl ?_
  refine zs_dup (pc := 1) t265_1 rfl ?_
  have w1 := ib336_12 hI
  refine zs_get (pc := 2) t265_2 (by decide) (zk1 (hs.k fk_zMm_336)) (zfvi rfl rfl) ?_
  refine zs_iconst (pc := 5) t265_5 (v := 1) (by decide) ?_
  obtain ⟨w2v, w2e, w2⟩ := zisub (a := (zI M 336 12)) (b := (1 : Int32)) rfl li1 (by omega) (by omega)
  refine zs_isub (pc := 6) t265_6 (c := w2v) w2e ?_
  have w3 : zIv mLo mHi (zsI M 336 12 w2v) := zIv.put hI (show 0 ≤ w2v.toInt ∧ w2v.toInt ≤ 40 from ⟨by omega, by omega⟩)
  refine zs_putI (pc := 7) t265_7 (zk1 (hs.k fk_zMm_336)) rfl ?_
  refine zs_aload_n (pc := 10) t265_10 rfl ?_
  refine zs_sipush (pc := 11) t265_11 (v := 20000) (by decide) ?_
  refine zs_aload_n (pc := 14) t265_14 rfl ?_
  refine zs_get (pc := 15) t265_15 (by decide) (zk1 (hs.k fk_zMm_336)) (hs.p rfl fv_zMm_336_10) ?_
  refine zs_aload_n (pc := 18) t265_18 rfl ?_
  refine zs_get (pc := 19) t265_19 (by decide) (zk1 (hs.k fk_zMm_336)) (zfvi rfl zIs) ?_
  obtain ⟨w4n, w4⟩ : ∃ n : Nat, w2v.toInt = (n : Int) := ⟨w2v.toInt.toNat, by omega⟩
  have w5 := zrg (zI M 341 w4n)
  have w6 := x0 w4n (by omega)
  refine zs_iald (pc := 22) t265_22 (j := w4n) (by decide) (zk1 (hs.k fk_zMm_341)) w4 (zk2 (hs.k fk_zMm_341) (by omega)) ((zIo (by decide)).trans rfl) ?_
  obtain ⟨w7v, w7e, w7⟩ := ziadd (a := (20000 : Int32)) (b := (zI M 341 w4n)) li20000 rfl (by omega) (by omega)
  refine zs_iadd (pc := 23) t265_23 (c := w7v) w7e ?_
  refine zs_invV (pc := 24) (k := 336) (as' := [.int w7v]) (st := []) t265_24 mf261 rfl rfl (Or.inl ⟨by decide, (zk1 (hs.k fk_zMm_336))⟩) ⟨by decide, by decide, Nat.le_of_ble_eq_true rfl, Nat.le_of_ble_eq_true rfl⟩ (zs_in (by decide) mf261 (Nat.le_of_ble_eq_true rfl) ?_) (fun _ _ q => q)
  show zGo X l 0 0 0 261 0 [(0, .ref 336), (1, .int w7v)] [] (zsI M 336 12 w2v) _
  refine zs_aload_n (pc := 0) t261_0 rfl ?_
  refine zs_get (pc := 1) t261_1 (by decide) (zk1 (hs.k fk_zMm_336)) (hs.p rfl fv_zMm_336_9) ?_
  refine zs_aload_n (pc := 4) t261_4 rfl ?_
  have w8 := ib336_11 hI
  refine zs_get (pc := 5) t261_5 (by decide) (zk1 (hs.k fk_zMm_336)) (zfvi rfl ((zIoj (by decide)).trans rfl)) ?_
  refine zs_iload_n (pc := 8) t261_8 rfl ?_
  obtain ⟨w9n, w9⟩ : ∃ n : Nat, (zI M 336 11).toInt = (n : Int) := ⟨((zI M 336 11).toInt).toNat, by omega⟩
  have w10 : zIv mLo mHi (zsI (zsI M 336 12 w2v) 340 w9n w7v) := zIv.put w3 (show (-2147483648) ≤ w7v.toInt ∧ w7v.toInt ≤ 2147483647 from zrg w7v)
  refine zs_iast (pc := 9) t261_9 (j := w9n) (by decide) (zk1 (hs.k fk_zMm_340)) (show (zI M 336 11).toInt = ((w9n : Nat) : Int) by omega) (zk2 (hs.k fk_zMm_340) (by omega)) ?_
  refine zs_aload_n (pc := 10) t261_10 rfl ?_
  refine zs_dup (pc := 11) t261_11 rfl ?_
  refine zs_get (pc := 12) t261_12 (by decide) (zk1 (hs.k fk_zMm_336)) (zfvi rfl ((zIo (by decide)).trans ((zIoj (by decide)).trans rfl))) ?_
  refine zs_iconst (pc := 15) t261_15 (v := 1) (by decide) ?_
  obtain ⟨w11v, w11e, w11⟩ := ziadd (a := (zI M 336 11)) (b := (1 : Int32)) rfl li1 (by omega) (by omega)
  refine zs_iadd (pc := 16) t261_16 (c := w11v) w11e ?_
  have w12 : zIv mLo mHi (zsI (zsI (zsI M 336 12 w2v) 340 w9n w7v) 336 11 w11v) := zIv.put w10 (show 0 ≤ w11v.toInt ∧ w11v.toInt ≤ 200 from ⟨by omega, by omega⟩)
  have w13 : (zI (zsI M 336 12 w2v) 336 11).toInt = (zI M 336 11).toInt := (congrArg Int32.toInt ((zIoj (by decide)).trans rfl)).trans rfl
  have w14 : w11v.toInt = ((zI M 336 11).toInt + 1) := w11
  have w15 : w7v.toInt = (20000 + (zI M 341 w4n).toInt) := w7
  have w16 : zGh (zsI (zsI (zsI M 336 12 w2v) 340 w9n w7v) 336 11 w11v) hq := zGh.put (n := w9n) (zGh.fr (M' := (zsI M 336 12 w2v)) pH (zEq.put rfl)) (by omega) (by omega) (by omega)
  refine zs_putI (pc := 17) t261_17 (zk1 (hs.k fk_zMm_336)) rfl ?_
  refine zs_vret (pc := 20) t261_20 mr261 ?_
  show zGo X l 1 0 0 265 27 [(0, .ref 336)] [] (zsI (zsI (zsI M 336 12 w2v) 340 w9n w7v) 336 11 w11v) _
  have w17 : (zI (zsI (zsI (zsI M 336 12 w2v) 340 w9n w7v) 336 11 w11v) 336 11).toInt = ((zI M 336 11).toInt + 1) := (congrArg Int32.toInt zIs).trans w11
  have w18 : (zI (zsI (zsI (zsI M 336 12 w2v) 340 w9n w7v) 336 11 w11v) 336 12).toInt = ((zI M 336 12).toInt - 1) := (congrArg Int32.toInt ((zIoj (by decide)).trans ((zIo (by decide)).trans zIs))).trans w2
  exact zs_vret (pc := 27) t265_27 mr265 (hQ _ hs w12 ((((zFr.refl).put rfl).put rfl).put rfl) rfl w16 (by omega) (by omega))
