theorem K283 {X : zX} {l : Launch} {M : zM} {Q : Option Value → zM → Prop} {a b : Int32} (hs : zSk zMm M) (hI : zIv mLo mHi M) (ha : 0 ≤ a.toInt ∧ a.toInt ≤ 19) (hb : 0 ≤ b.toInt ∧ b.toInt ≤ 7) (hQ : ∀ v : Int32, Q (some (.int v)) M) : zCall X l 2 0 0 283 [.ref 336, .int a, .int b] M Q := by
  have ga := zrg a
  have gb := zrg b
  refine zs_in (by decide) mf283 (Nat.le_of_ble_eq_true rfl) ?_
  show zGo X l 2 0 0 283 0 [(0, .ref 336), (1, .int a), (2, .int b)] [] M _
  refine zs_aload_n (pc := 0) t283_0 rfl ?_
  refine zs_aload_n (pc := 1) t283_1 rfl ?_
  refine zs_get (pc := 2) t283_2 (by decide) (zk1 (hs.k fk_zMm_336)) (hs.p rfl fv_zMm_336_27) ?_
  refine zs_bipush (pc := 5) t283_5 (v := 8) (by decide) ?_
  refine zs_iload_n (pc := 7) t283_7 rfl ?_
  obtain ⟨w1v, w1⟩ : ∃ v, (8 : Int32) * a = v := ⟨_, rfl⟩
  have w1g : w1v.toInt = 8 * a.toInt := by rw [← w1]; exact zmulc li8 rfl (by omega) (by omega)
  refine zs_imul (pc := 8) t283_8 (c := w1v) w1 ?_
  refine zs_iload_n (pc := 9) t283_9 rfl ?_
  obtain ⟨w2v, w2e, w2⟩ := ziadd (a := w1v) (b := b) w1g rfl (by omega) (by omega)
  refine zs_iadd (pc := 10) t283_10 (c := w2v) w2e ?_
  obtain ⟨w3n, w3⟩ : ∃ n : Nat, a.toInt = (n : Int) := ⟨(a.toInt).toNat, by omega⟩
  obtain ⟨w4n, w4⟩ : ∃ n : Nat, b.toInt = (n : Int) := ⟨(b.toInt).toNat, by omega⟩
  have w5 := ib349 hI (8 * w3n + w4n)
  refine zs_iald (pc := 11) t283_11 (j := (8 * w3n + w4n)) (by decide) (zk1 (hs.k fk_zMm_349)) (show w2v.toInt = (((8 * w3n + w4n) : Nat) : Int) by omega) (zk2 (hs.k fk_zMm_349) (by omega)) rfl ?_
  refine zs_iconst (pc := 12) t283_12 (v := 1) (by decide) ?_
  refine zs_invV (pc := 13) (k := 336) (as' := [.int (zI M 349 (8 * w3n + w4n)), .int (1 : Int32)]) (st := []) t283_13 mf272 rfl rfl (Or.inl ⟨by decide, (zk1 (hs.k fk_zMm_336))⟩) ⟨by decide, by decide, Nat.le_of_ble_eq_true rfl, Nat.le_of_ble_eq_true rfl⟩ (zs_in (by decide) mf272 (Nat.le_of_ble_eq_true rfl) ?_) (fun _ _ q => q)
  show zGo X l 0 0 0 272 0 [(0, .ref 336), (1, .int (zI M 349 (8 * w3n + w4n))), (2, .int (1 : Int32))] [] M _
  refine zs_aload_n (pc := 0) t272_0 rfl ?_
  refine zs_get (pc := 1) t272_1 (by decide) (zk1 (hs.k fk_zMm_336)) (hs.p rfl fv_zMm_336_0) ?_
  refine zs_bipush (pc := 4) t272_4 (v := 30) (by decide) ?_
  refine zs_iconst (pc := 6) t272_6 (v := 4) (by decide) ?_
  refine zs_iload_n (pc := 7) t272_7 rfl ?_
  obtain ⟨w6v, w6⟩ : ∃ v, (4 : Int32) * (zI M 349 (8 * w3n + w4n)) = v := ⟨_, rfl⟩
  have w6g : w6v.toInt = 4 * (zI M 349 (8 * w3n + w4n)).toInt := by rw [← w6]; exact zmulc li4 rfl (by omega) (by omega)
  refine zs_imul (pc := 8) t272_8 (c := w6v) w6 ?_
  obtain ⟨w7v, w7e, w7⟩ := ziadd (a := (30 : Int32)) (b := w6v) li30 w6g (by omega) (by omega)
  refine zs_iadd (pc := 9) t272_9 (c := w7v) w7e ?_
  refine zs_iload_n (pc := 10) t272_10 rfl ?_
  obtain ⟨w8v, w8e, w8⟩ := ziadd (a := w7v) (b := (1 : Int32)) w7 li1 (by omega) (by omega)
  refine zs_iadd (pc := 11) t272_11 (c := w8v) w8e ?_
  obtain ⟨w9n, w9⟩ : ∃ n : Nat, w8v.toInt = (n : Int) := ⟨w8v.toInt.toNat, by omega⟩
  have w10 := zrg (zI M 337 w9n)
  refine zs_iald (pc := 12) t272_12 (j := w9n) (by decide) (zk1 (hs.k fk_zMm_337)) w9 (zk2 (hs.k fk_zMm_337) (by omega)) rfl ?_
  refine zs_iret (pc := 13) t272_13 mr272 rfl ?_
  show zGo X l 2 0 0 283 16 [(0, .ref 336), (1, .int a), (2, .int b)] [.int (zI M 337 w9n)] M _
  refine zs_aload_n (pc := 16) t283_16 rfl ?_
  refine zs_iload_n (pc := 17) t283_17 rfl ?_
  refine zs_aload_n (pc := 18) t283_18 rfl ?_
  refine zs_get (pc := 19) t283_19 (by decide) (zk1 (hs.k fk_zMm_336)) (hs.p rfl fv_zMm_336_23) ?_
  refine zs_iload_n (pc := 22) t283_22 rfl ?_
  have w11 := zrg (zI M 345 w3n)
  refine zs_iald (pc := 23) t283_23 (j := w3n) (by decide) (zk1 (hs.k fk_zMm_345)) (show a.toInt = ((w3n : Nat) : Int) by omega) (zk2 (hs.k fk_zMm_345) (by omega)) rfl ?_
  refine zs_invV (pc := 24) (k := 336) (as' := [.int b, .int (zI M 345 w3n)]) (st := [.int (zI M 337 w9n)]) t283_24 mf251 rfl rfl (Or.inl ⟨by decide, (zk1 (hs.k fk_zMm_336))⟩) ⟨by decide, by decide, Nat.le_of_ble_eq_true rfl, Nat.le_of_ble_eq_true rfl⟩ (K251 hs hI ⟨by omega, by omega⟩ ?_) (fun _ _ q => q)
  have w12 := zrg (zbend M b (zI M 345 w3n))
  show zGo X l 2 0 0 283 27 [(0, .ref 336), (1, .int a), (2, .int b)] [.int (zbend M b (zI M 345 w3n)), .int (zI M 337 w9n)] M _
  obtain ⟨w13v, w13⟩ : ∃ v, v = (zI M 337 w9n) - (zbend M b (zI M 345 w3n)) := ⟨_, rfl⟩
  have w13g := zrg w13v
  refine zs_isub (pc := 27) t283_27 (c := w13v) w13.symm ?_
  exact zs_iret (pc := 28) t283_28 mr283 rfl (hQ _)
theorem K285 {X : zX} {l : Launch} {M : zM} {Q : Option Value → zM → Prop} {a : Int32} (hs : zSk zMm M) (hI : zIv mLo mHi M) (pD : zPD M) (ha : 0 ≤ a.toInt ∧ a.toInt ≤ 19) (u0 : a.toInt < (zI M 336 22).toInt) (hQ : ∀ v : Int32, Q (some (.int v)) M) : zCall X l 1 0 0 285 [.ref 336, .int a] M Q := by
  have ga := zrg a
  refine zs_in (by decide) mf285 (Nat.le_of_ble_eq_true rfl) ?_
  show zGo X l 1 0 0 285 0 [(0, .ref 336), (1, .int a)] [] M _
  refine zs_aload_n (pc := 0) t285_0 rfl ?_
  refine zs_get (pc := 1) t285_1 (by decide) (zk1 (hs.k fk_zMm_336)) (hs.p rfl fv_zMm_336_30) ?_
  refine zs_iload_n (pc := 4) t285_4 rfl ?_
  obtain ⟨w1n, w1⟩ : ∃ n : Nat, a.toInt = (n : Int) := ⟨(a.toInt).toNat, by omega⟩
  have w2 := zrg64 (zJ M 352 w1n)
  refine zs_lald (pc := 5) t285_5 (j := w1n) (zk1 (hs.k fk_zMm_352)) (show a.toInt = ((w1n : Nat) : Int) by omega) (zk2 (hs.k fk_zMm_352) (by omega)) rfl ?_
  refine zs_aload_n (pc := 6) t285_6 rfl ?_
  refine zs_get (pc := 7) t285_7 (by decide) (zk1 (hs.k fk_zMm_336)) (hs.p rfl fv_zMm_336_29) ?_
  refine zs_iload_n (pc := 10) t285_10 rfl ?_
  have w3 := zrg64 (zJ M 351 w1n)
  have w4 := ib336_22 hI
  have w5 : (zI M 336 22).toInt = (zI M 336 22).toInt := (congrArg Int32.toInt rfl).trans rfl
  have w6 : 0 < (zJ M 351 w1n).toInt := pD w1n (by omega)
  refine zs_lald (pc := 11) t285_11 (j := w1n) (zk1 (hs.k fk_zMm_351)) (show a.toInt = ((w1n : Nat) : Int) by omega) (zk2 (hs.k fk_zMm_351) (by omega)) rfl ?_
  refine zs_invS (pc := 12) (as := [.long (zJ M 352 w1n), .long (zJ M 351 w1n)]) (st := []) t285_12 (by decide) mf286 rfl rfl ⟨by decide, by decide, Nat.le_of_ble_eq_true rfl, Nat.le_of_ble_eq_true rfl⟩ (K286 hs hI ⟨by omega, by omega⟩ ?_) (fun _ _ q => q)
  intro w7v
  have w7g := zrg64 w7v
  show zGo X l 1 0 0 285 15 [(0, .ref 336), (1, .int a)] [.long w7v] M _
  obtain ⟨w8v, w8⟩ : ∃ v, w7v.toInt32 = v := ⟨_, rfl⟩
  have w8g := zrg w8v
  refine zs_l2i (pc := 15) t285_15 (c := w8v) w8 ?_
  exact zs_iret (pc := 16) t285_16 mr285 rfl (hQ _)
theorem K288 {X : zX} {l : Launch} {M : zM} {Q : Option Value → zM → Prop} {a b c : Int32} (hs : zSk zMm M) (hI : zIv mLo mHi M) (hQ : ∀ v : Int32, 0 ≤ v.toInt → v.toInt ≤ 1 → Q (some (.int v)) M) : zCall X l 0 0 0 288 [.ref 336, .int a, .int b, .int c] M Q := by
  have ga := zrg a
  have gb := zrg b
  have gc := zrg c
  refine zs_in (by decide) mf288 (Nat.le_of_ble_eq_true rfl) ?_
  show zGo X l 0 0 0 288 0 [(0, .ref 336), (1, .int a), (2, .int b), (3, .int c)] [] M _
  refine zs_iconst (pc := 0) t288_0 (v := 0) (by decide) ?_
  refine zs_istore (pc := 1) t288_1 (ls' := [(4, .int (0 : Int32)), (0, .ref 336), (1, .int a), (2, .int b), (3, .int c)]) (zml mf288 (by decide)) rfl ?_
  have w1L : ∀ (m : Nat) (w1x4 : Int32), (0 ≤ w1x4.toInt ∧ w1x4.toInt ≤ 20) → 20 - w1x4.toInt ≤ (m : Int) → zGo X l 0 0 0 288 3 [(0, .ref 336), (1, .int a), (2, .int b), (3, .int c), (4, .int w1x4)] [] M Q := by
    intro m
    induction m using Nat.strongRecOn with
    | ind w1m w1ih =>
      intro w1x4 w1b4 w1q
      refine zs_iload (pc := 3) t288_3 rfl ?_
      refine zs_aload_n (pc := 5) t288_5 rfl ?_
      have w2 := ib336_22 hI
      refine zs_get (pc := 6) t288_6 (by decide) (zk1 (hs.k fk_zMm_336)) (zfvi rfl rfl) ?_
      by_cases w3 : (zI M 336 22).toInt ≤ w1x4.toInt
      · refine zs_icmp_geT (pc := 9) t288_9 rfl rfl (by omega) ?_
        refine zs_iconst (pc := 53) t288_53 (v := 0) (by decide) ?_
        exact zs_iret (pc := 54) t288_54 mr288 (by decide) (hQ _ (by decide) (by decide))
      · refine zs_icmp_geF (pc := 9) t288_9 rfl rfl (by omega) ?_
        refine zs_aload_n (pc := 12) t288_12 rfl ?_
        refine zs_get (pc := 13) t288_13 (by decide) (zk1 (hs.k fk_zMm_336)) (hs.p rfl fv_zMm_336_23) ?_
        refine zs_iload (pc := 16) t288_16 rfl ?_
        obtain ⟨w4n, w4⟩ : ∃ n : Nat, w1x4.toInt = (n : Int) := ⟨(w1x4.toInt).toNat, by omega⟩
        have w5 := zrg (zI M 345 w4n)
        refine zs_iald (pc := 18) t288_18 (j := w4n) (by decide) (zk1 (hs.k fk_zMm_345)) (show w1x4.toInt = ((w4n : Nat) : Int) by omega) (zk2 (hs.k fk_zMm_345) (by omega)) rfl ?_
        refine zs_iload_n (pc := 19) t288_19 rfl ?_
        by_cases w6 : (zI M 345 w4n).toInt ≠ a.toInt
        · refine zs_icmp_neT (pc := 20) t288_20 rfl rfl (by omega) ?_
          obtain ⟨w7v, w7e, w7⟩ := ziadd (a := w1x4) (b := Int32.ofInt 1) rfl (show (Int32.ofInt 1).toInt = 1 by decide) (by omega) (by omega)
          refine zs_iinc (pc := 47) t288_47 (ls' := [(4, .int w7v), (0, .ref 336), (1, .int a), (2, .int b), (3, .int c)]) (zml mf288 (by decide)) rfl (c := w7v) w7e rfl ?_
          refine zs_goto (pc := 50) t288_50 ?_
          refine zGo.locals (ls' := [(0, .ref 336), (1, .int a), (2, .int b), (3, .int c), (4, .int w7v)]) (by simp) ?_
          have w8 := w7
          exact w1ih (w1m - 1) (by omega) w7v ⟨by omega, by omega⟩ (by omega)
        · refine zs_icmp_neF (pc := 20) t288_20 rfl rfl (by omega) ?_
          refine zs_aload_n (pc := 23) t288_23 rfl ?_
          refine zs_get (pc := 24) t288_24 (by decide) (zk1 (hs.k fk_zMm_336)) (hs.p rfl fv_zMm_336_24) ?_
          refine zs_iload (pc := 27) t288_27 rfl ?_
          have w9 := zrg (zI M 346 w4n)
          refine zs_iald (pc := 29) t288_29 (j := w4n) (by decide) (zk1 (hs.k fk_zMm_346)) (show w1x4.toInt = ((w4n : Nat) : Int) by omega) (zk2 (hs.k fk_zMm_346) (by omega)) rfl ?_
          refine zs_iload_n (pc := 30) t288_30 rfl ?_
          by_cases w10 : (zI M 346 w4n).toInt ≠ b.toInt
          · refine zs_icmp_neT (pc := 31) t288_31 rfl rfl (by omega) ?_
            obtain ⟨w11v, w11e, w11⟩ := ziadd (a := w1x4) (b := Int32.ofInt 1) rfl (show (Int32.ofInt 1).toInt = 1 by decide) (by omega) (by omega)
            refine zs_iinc (pc := 47) t288_47 (ls' := [(4, .int w11v), (0, .ref 336), (1, .int a), (2, .int b), (3, .int c)]) (zml mf288 (by decide)) rfl (c := w11v) w11e rfl ?_
            refine zs_goto (pc := 50) t288_50 ?_
            refine zGo.locals (ls' := [(0, .ref 336), (1, .int a), (2, .int b), (3, .int c), (4, .int w11v)]) (by simp) ?_
            have w12 := w11
            exact w1ih (w1m - 1) (by omega) w11v ⟨by omega, by omega⟩ (by omega)
          · refine zs_icmp_neF (pc := 31) t288_31 rfl rfl (by omega) ?_
            refine zs_aload_n (pc := 34) t288_34 rfl ?_
            refine zs_get (pc := 35) t288_35 (by decide) (zk1 (hs.k fk_zMm_336)) (hs.p rfl fv_zMm_336_25) ?_
            refine zs_iload (pc := 38) t288_38 rfl ?_
            have w13 := zrg (zI M 347 w4n)
            refine zs_iald (pc := 40) t288_40 (j := w4n) (by decide) (zk1 (hs.k fk_zMm_347)) (show w1x4.toInt = ((w4n : Nat) : Int) by omega) (zk2 (hs.k fk_zMm_347) (by omega)) rfl ?_
            refine zs_iload_n (pc := 41) t288_41 rfl ?_
            by_cases w14 : (zI M 347 w4n).toInt ≠ c.toInt
            · refine zs_icmp_neT (pc := 42) t288_42 rfl rfl (by omega) ?_
              obtain ⟨w15v, w15e, w15⟩ := ziadd (a := w1x4) (b := Int32.ofInt 1) rfl (show (Int32.ofInt 1).toInt = 1 by decide) (by omega) (by omega)
              refine zs_iinc (pc := 47) t288_47 (ls' := [(4, .int w15v), (0, .ref 336), (1, .int a), (2, .int b), (3, .int c)]) (zml mf288 (by decide)) rfl (c := w15v) w15e rfl ?_
              refine zs_goto (pc := 50) t288_50 ?_
              refine zGo.locals (ls' := [(0, .ref 336), (1, .int a), (2, .int b), (3, .int c), (4, .int w15v)]) (by simp) ?_
              have w16 := w15
              exact w1ih (w1m - 1) (by omega) w15v ⟨by omega, by omega⟩ (by omega)
            · refine zs_icmp_neF (pc := 42) t288_42 rfl rfl (by omega) ?_
              refine zs_iconst (pc := 45) t288_45 (v := 1) (by decide) ?_
              exact zs_iret (pc := 46) t288_46 mr288 (by decide) (hQ _ (by decide) (by decide))
  refine zGo.locals (ls' := [(0, .ref 336), (1, .int a), (2, .int b), (3, .int c), (4, .int (0 : Int32))]) (by simp) ?_
  have w17 := li0
  exact w1L ((20 - 0 : Int).toNat) (0 : Int32) ⟨by decide, by decide⟩ (by omega)
theorem K291_348 {X : zX} {l : Launch} {M : zM} {Q : Option Value → zM → Prop} {a : Int32} (hs : zSk zMm M) (hI : zIv mLo mHi M) (ha : 0 ≤ a.toInt ∧ a.toInt ≤ 20) (hQ : ∀ v : Int32, Q (some (.int v)) M) : zCall X l 0 0 0 291 [.ref 336, .ref 348, .int a] M Q := by
  have ga := zrg a
  refine zs_in (by decide) mf291 (Nat.le_of_ble_eq_true rfl) ?_
  show zGo X l 0 0 0 291 0 [(0, .ref 336), (1, .ref 348), (2, .int a)] [] M _
  refine zs_iconst (pc := 0) t291_0 (v := 0) (by decide) ?_
  refine zs_istore_n (pc := 1) t291_1 (ls' := [(3, .int (0 : Int32)), (0, .ref 336), (1, .ref 348), (2, .int a)]) (zml mf291 (by decide)) rfl ?_
  refine zs_iconst (pc := 2) t291_2 (v := 0) (by decide) ?_
  refine zs_istore (pc := 3) t291_3 (ls' := [(4, .int (0 : Int32)), (3, .int (0 : Int32)), (0, .ref 336), (1, .ref 348), (2, .int a)]) (zml mf291 (by decide)) rfl ?_
  have w1L : ∀ (m : Nat) (w1x3 : Int32) (w1x4 : Int32), (0 ≤ w1x4.toInt ∧ w1x4.toInt ≤ 20) → 20 - w1x4.toInt ≤ (m : Int) → zGo X l 0 0 0 291 5 [(0, .ref 336), (1, .ref 348), (2, .int a), (3, .int w1x3), (4, .int w1x4)] [] M Q := by
    intro m
    induction m using Nat.strongRecOn with
    | ind w1m w1ih =>
      intro w1x3 w1x4 w1b4 w1q
      have w1g3 := zrg w1x3
      refine zs_iload (pc := 5) t291_5 rfl ?_
      refine zs_iload_n (pc := 7) t291_7 rfl ?_
      by_cases w2 : a.toInt ≤ w1x4.toInt
      · refine zs_icmp_geT (pc := 8) t291_8 rfl rfl (by omega) ?_
        refine zs_iload_n (pc := 34) t291_34 rfl ?_
        exact zs_iret (pc := 35) t291_35 mr291 rfl (hQ _)
      · refine zs_icmp_geF (pc := 8) t291_8 rfl rfl (by omega) ?_
        refine zs_aload_n (pc := 11) t291_11 rfl ?_
        refine zs_iload (pc := 12) t291_12 rfl ?_
        obtain ⟨w3n, w3⟩ : ∃ n : Nat, w1x4.toInt = (n : Int) := ⟨(w1x4.toInt).toNat, by omega⟩
        have w4 := zrg (zI M 348 w3n)
        refine zs_iald (pc := 14) t291_14 (j := w3n) (by decide) (zk1 (hs.k fk_zMm_348)) (show w1x4.toInt = ((w3n : Nat) : Int) by omega) (zk2 (hs.k fk_zMm_348) (by omega)) rfl ?_
        refine zs_iload_n (pc := 15) t291_15 rfl ?_
        by_cases w5 : (zI M 348 w3n).toInt ≤ w1x3.toInt
        · refine zs_icmp_leT (pc := 16) t291_16 rfl rfl (by omega) ?_
          refine zs_iload_n (pc := 26) t291_26 rfl ?_
          refine zs_istore_n (pc := 27) t291_27 (ls' := [(3, .int w1x3), (0, .ref 336), (1, .ref 348), (2, .int a), (4, .int w1x4)]) (zml mf291 (by decide)) rfl ?_
          obtain ⟨w6v, w6e, w6⟩ := ziadd (a := w1x4) (b := Int32.ofInt 1) rfl (show (Int32.ofInt 1).toInt = 1 by decide) (by omega) (by omega)
          refine zs_iinc (pc := 28) t291_28 (ls' := [(4, .int w6v), (3, .int w1x3), (0, .ref 336), (1, .ref 348), (2, .int a)]) (zml mf291 (by decide)) rfl (c := w6v) w6e rfl ?_
          refine zs_goto (pc := 31) t291_31 ?_
          refine zGo.locals (ls' := [(0, .ref 336), (1, .ref 348), (2, .int a), (3, .int w1x3), (4, .int w6v)]) (by simp) ?_
          have w7 := w6
          exact w1ih (w1m - 1) (by omega) w1x3 w6v ⟨by omega, by omega⟩ (by omega)
        · refine zs_icmp_leF (pc := 16) t291_16 rfl rfl (by omega) ?_
          refine zs_aload_n (pc := 19) t291_19 rfl ?_
          refine zs_iload (pc := 20) t291_20 rfl ?_
          refine zs_iald (pc := 22) t291_22 (j := w3n) (by decide) (zk1 (hs.k fk_zMm_348)) (show w1x4.toInt = ((w3n : Nat) : Int) by omega) (zk2 (hs.k fk_zMm_348) (by omega)) rfl ?_
          refine zs_goto (pc := 23) t291_23 ?_
          refine zs_istore_n (pc := 27) t291_27 (ls' := [(3, .int (zI M 348 w3n)), (0, .ref 336), (1, .ref 348), (2, .int a), (4, .int w1x4)]) (zml mf291 (by decide)) rfl ?_
          obtain ⟨w8v, w8e, w8⟩ := ziadd (a := w1x4) (b := Int32.ofInt 1) rfl (show (Int32.ofInt 1).toInt = 1 by decide) (by omega) (by omega)
          refine zs_iinc (pc := 28) t291_28 (ls' := [(4, .int w8v), (3, .int (zI M 348 w3n)), (0, .ref 336), (1, .ref 348), (2, .int a)]) (zml mf291 (by decide)) rfl (c := w8v) w8e rfl ?_
          refine zs_goto (pc := 31) t291_31 ?_
          refine zGo.locals (ls' := [(0, .ref 336), (1, .ref 348), (2, .int a), (3, .int (zI M 348 w3n)), (4, .int w8v)]) (by simp) ?_
          have w9 := w8
          exact w1ih (w1m - 1) (by omega) (zI M 348 w3n) w8v ⟨by omega, by omega⟩ (by omega)
  refine zGo.locals (ls' := [(0, .ref 336), (1, .ref 348), (2, .int a), (3, .int (0 : Int32)), (4, .int (0 : Int32))]) (by simp) ?_
  have w10 := li0
  have w11 := li0
  exact w1L ((20 - 0 : Int).toNat) (0 : Int32) (0 : Int32) ⟨by decide, by decide⟩ (by omega)
theorem K291_356 {X : zX} {l : Launch} {M : zM} {Q : Option Value → zM → Prop} {a : Int32} (hs : zSk zMm M) (hI : zIv mLo mHi M) (ha : 0 ≤ a.toInt ∧ a.toInt ≤ 20) (hQ : ∀ v : Int32, Q (some (.int v)) M) : zCall X l 0 0 0 291 [.ref 336, .ref 356, .int a] M Q := by
  have ga := zrg a
  refine zs_in (by decide) mf291 (Nat.le_of_ble_eq_true rfl) ?_
  show zGo X l 0 0 0 291 0 [(0, .ref 336), (1, .ref 356), (2, .int a)] [] M _
  refine zs_iconst (pc := 0) t291_0 (v := 0) (by decide) ?_
  refine zs_istore_n (pc := 1) t291_1 (ls' := [(3, .int (0 : Int32)), (0, .ref 336), (1, .ref 356), (2, .int a)]) (zml mf291 (by decide)) rfl ?_
  refine zs_iconst (pc := 2) t291_2 (v := 0) (by decide) ?_
  refine zs_istore (pc := 3) t291_3 (ls' := [(4, .int (0 : Int32)), (3, .int (0 : Int32)), (0, .ref 336), (1, .ref 356), (2, .int a)]) (zml mf291 (by decide)) rfl ?_
  have w1L : ∀ (m : Nat) (w1x3 : Int32) (w1x4 : Int32), (0 ≤ w1x4.toInt ∧ w1x4.toInt ≤ 20) → 20 - w1x4.toInt ≤ (m : Int) → zGo X l 0 0 0 291 5 [(0, .ref 336), (1, .ref 356), (2, .int a), (3, .int w1x3), (4, .int w1x4)] [] M Q := by
    intro m
    induction m using Nat.strongRecOn with
    | ind w1m w1ih =>
      intro w1x3 w1x4 w1b4 w1q
      have w1g3 := zrg w1x3
      refine zs_iload (pc := 5) t291_5 rfl ?_
      refine zs_iload_n (pc := 7) t291_7 rfl ?_
      by_cases w2 : a.toInt ≤ w1x4.toInt
      · refine zs_icmp_geT (pc := 8) t291_8 rfl rfl (by omega) ?_
        refine zs_iload_n (pc := 34) t291_34 rfl ?_
        exact zs_iret (pc := 35) t291_35 mr291 rfl (hQ _)
      · refine zs_icmp_geF (pc := 8) t291_8 rfl rfl (by omega) ?_
        refine zs_aload_n (pc := 11) t291_11 rfl ?_
        refine zs_iload (pc := 12) t291_12 rfl ?_
        obtain ⟨w3n, w3⟩ : ∃ n : Nat, w1x4.toInt = (n : Int) := ⟨(w1x4.toInt).toNat, by omega⟩
        have w4 := zrg (zI M 356 w3n)
        refine zs_iald (pc := 14) t291_14 (j := w3n) (by decide) (zk1 (hs.k fk_zMm_356)) (show w1x4.toInt = ((w3n : Nat) : Int) by omega) (zk2 (hs.k fk_zMm_356) (by omega)) rfl ?_
        refine zs_iload_n (pc := 15) t291_15 rfl ?_
        by_cases w5 : (zI M 356 w3n).toInt ≤ w1x3.toInt
        · refine zs_icmp_leT (pc := 16) t291_16 rfl rfl (by omega) ?_
          refine zs_iload_n (pc := 26) t291_26 rfl ?_
          refine zs_istore_n (pc := 27) t291_27 (ls' := [(3, .int w1x3), (0, .ref 336), (1, .ref 356), (2, .int a), (4, .int w1x4)]) (zml mf291 (by decide)) rfl ?_
          obtain ⟨w6v, w6e, w6⟩ := ziadd (a := w1x4) (b := Int32.ofInt 1) rfl (show (Int32.ofInt 1).toInt = 1 by decide) (by omega) (by omega)
          refine zs_iinc (pc := 28) t291_28 (ls' := [(4, .int w6v), (3, .int w1x3), (0, .ref 336), (1, .ref 356), (2, .int a)]) (zml mf291 (by decide)) rfl (c := w6v) w6e rfl ?_
          refine zs_goto (pc := 31) t291_31 ?_
          refine zGo.locals (ls' := [(0, .ref 336), (1, .ref 356), (2, .int a), (3, .int w1x3), (4, .int w6v)]) (by simp) ?_
          have w7 := w6
          exact w1ih (w1m - 1) (by omega) w1x3 w6v ⟨by omega, by omega⟩ (by omega)
        · refine zs_icmp_leF (pc := 16) t291_16 rfl rfl (by omega) ?_
          refine zs_aload_n (pc := 19) t291_19 rfl ?_
          refine zs_iload (pc := 20) t291_20 rfl ?_
          refine zs_iald (pc := 22) t291_22 (j := w3n) (by decide) (zk1 (hs.k fk_zMm_356)) (show w1x4.toInt = ((w3n : Nat) : Int) by omega) (zk2 (hs.k fk_zMm_356) (by omega)) rfl ?_
          refine zs_goto (pc := 23) t291_23 ?_
          refine zs_istore_n (pc := 27) t291_27 (ls' := [(3, .int (zI M 356 w3n)), (0, .ref 336), (1, .ref 356), (2, .int a), (4, .int w1x4)]) (zml mf291 (by decide)) rfl ?_
          obtain ⟨w8v, w8e, w8⟩ := ziadd (a := w1x4) (b := Int32.ofInt 1) rfl (show (Int32.ofInt 1).toInt = 1 by decide) (by omega) (by omega)
          refine zs_iinc (pc := 28) t291_28 (ls' := [(4, .int w8v), (3, .int (zI M 356 w3n)), (0, .ref 336), (1, .ref 356), (2, .int a)]) (zml mf291 (by decide)) rfl (c := w8v) w8e rfl ?_
          refine zs_goto (pc := 31) t291_31 ?_
          refine zGo.locals (ls' := [(0, .ref 336), (1, .ref 356), (2, .int a), (3, .int (zI M 356 w3n)), (4, .int w8v)]) (by simp) ?_
          have w9 := w8
          exact w1ih (w1m - 1) (by omega) (zI M 356 w3n) w8v ⟨by omega, by omega⟩ (by omega)
  refine zGo.locals (ls' := [(0, .ref 336), (1, .ref 356), (2, .int a), (3, .int (0 : Int32)), (4, .int (0 : Int32))]) (by simp) ?_
  have w10 := li0
  have w11 := li0
  exact w1L ((20 - 0 : Int).toNat) (0 : Int32) (0 : Int32) ⟨by decide, by decide⟩ (by omega)
theorem K293 {X : zX} {l : Launch} {M : zM} {Q : Option Value → zM → Prop} (hs : zSk zMm M) (hI : zIv mLo mHi M) (hQ : ∀ v : Int32, Q (some (.int v)) M) : zCall X l 2 0 0 293 [.ref 336] M Q := by
  refine zs_in (by decide) mf293 (Nat.le_of_ble_eq_true rfl) ?_
  show zGo X l 2 0 0 293 0 [(0, .ref 336)] [] M _
  refine zs_iconst (pc := 0) t293_0 (v := 0) (by decide) ?_
  refine zs_istore_n (pc := 1) t293_1 (ls' := [(1, .int (0 : Int32)), (0, .ref 336)]) (zml mf293 (by decide)) rfl ?_
  refine zs_iconst (pc := 2) t293_2 (v := 0) (by decide) ?_
  refine zs_istore_n (pc := 3) t293_3 (ls' := [(2, .int (0 : Int32)), (1, .int (0 : Int32)), (0, .ref 336)]) (zml mf293 (by decide)) rfl ?_
  have w1L : ∀ (m : Nat) (w1x1 : Int32) (w1x2 : Int32), (0 ≤ w1x2.toInt ∧ w1x2.toInt ≤ 60) → 60 - w1x2.toInt ≤ (m : Int) → zGo X l 2 0 0 293 4 [(0, .ref 336), (1, .int w1x1), (2, .int w1x2)] [] M Q := by
    intro m
    induction m using Nat.strongRecOn with
    | ind w1m w1ih =>
      intro w1x1 w1x2 w1b2 w1q
      have w1g1 := zrg w1x1
      refine zs_iload_n (pc := 4) t293_4 rfl ?_
      refine zs_aload_n (pc := 5) t293_5 rfl ?_
      refine zs_get (pc := 6) t293_6 (by decide) (zk1 (hs.k fk_zMm_336)) (hs.p rfl fv_zMm_336_0) ?_
      refine zs_iconst (pc := 9) t293_9 (v := 1) (by decide) ?_
      have w2 := ibA1 hI
      refine zs_iald (pc := 10) t293_10 (j := 1) (by decide) (zk1 (hs.k fk_zMm_337)) li1 (zk2 (hs.k fk_zMm_337) (by decide)) rfl ?_
      by_cases w3 : (zI M 337 1).toInt ≤ w1x2.toInt
      · refine zs_icmp_geT (pc := 11) t293_11 rfl rfl (by omega) ?_
        refine zs_iload_n (pc := 48) t293_48 rfl ?_
        exact zs_iret (pc := 49) t293_49 mr293 rfl (hQ _)
      · refine zs_icmp_geF (pc := 11) t293_11 rfl rfl (by omega) ?_
        refine zs_iload_n (pc := 14) t293_14 rfl ?_
        refine zs_aload_n (pc := 15) t293_15 rfl ?_
        refine zs_iload_n (pc := 16) t293_16 rfl ?_
        refine zs_iconst (pc := 17) t293_17 (v := -1) (by decide) ?_
        refine zs_invV (pc := 18) (k := 336) (as' := [.int w1x2, .int (-1 : Int32)]) (st := [.int w1x1]) t293_18 mf271 rfl rfl (Or.inl ⟨by decide, (zk1 (hs.k fk_zMm_336))⟩) ⟨by decide, by decide, Nat.le_of_ble_eq_true rfl, Nat.le_of_ble_eq_true rfl⟩ (K271 hs hI ⟨by omega, by omega⟩ ?_) (fun _ _ q => q)
        intro w4v  w4a w4b
        show zGo X l 2 0 0 293 21 [(0, .ref 336), (1, .int w1x1), (2, .int w1x2)] [.int w4v, .int w1x1] M _
        by_cases w5 : w4v.toInt = 0
        · refine zs_if_eqT (pc := 21) t293_21 rfl (by omega) ?_
          refine zs_iconst (pc := 39) t293_39 (v := 0) (by decide) ?_
          obtain ⟨w6v, w6e, w6⟩ := ziadd (a := w1x1) (b := (0 : Int32)) rfl li0 (by omega) (by omega)
          refine zs_iadd (pc := 40) t293_40 (c := w6v) w6e ?_
          refine zs_istore_n (pc := 41) t293_41 (ls' := [(1, .int w6v), (0, .ref 336), (2, .int w1x2)]) (zml mf293 (by decide)) rfl ?_
          obtain ⟨w7v, w7e, w7⟩ := ziadd (a := w1x2) (b := Int32.ofInt 1) rfl (show (Int32.ofInt 1).toInt = 1 by decide) (by omega) (by omega)
          refine zs_iinc (pc := 42) t293_42 (ls' := [(2, .int w7v), (1, .int w6v), (0, .ref 336)]) (zml mf293 (by decide)) rfl (c := w7v) w7e rfl ?_
          refine zs_goto (pc := 45) t293_45 ?_
          refine zGo.locals (ls' := [(0, .ref 336), (1, .int w6v), (2, .int w7v)]) (by simp) ?_
          have w8 := w6
          have w9 := w7
          exact w1ih (w1m - 1) (by omega) w6v w7v ⟨by omega, by omega⟩ (by omega)
        · refine zs_if_eqF (pc := 21) t293_21 rfl (by omega) ?_
          refine zs_aload_n (pc := 24) t293_24 rfl ?_
          refine zs_get (pc := 25) t293_25 (by decide) (zk1 (hs.k fk_zMm_336)) (hs.p rfl fv_zMm_336_28) ?_
          refine zs_iload_n (pc := 28) t293_28 rfl ?_
          obtain ⟨w10n, w10⟩ : ∃ n : Nat, w1x2.toInt = (n : Int) := ⟨(w1x2.toInt).toNat, by omega⟩
          have w11 := zrg (zI M 350 w10n)
          refine zs_iald (pc := 29) t293_29 (j := w10n) (by decide) (zk1 (hs.k fk_zMm_350)) (show w1x2.toInt = ((w10n : Nat) : Int) by omega) (zk2 (hs.k fk_zMm_350) (by omega)) rfl ?_
          refine zs_bipush (pc := 30) t293_30 (v := -2) (by decide) ?_
          by_cases w12 : (zI M 350 w10n).toInt ≠ (-2)
          · refine zs_icmp_neT (pc := 32) t293_32 rfl lin2 (by omega) ?_
            refine zs_iconst (pc := 39) t293_39 (v := 0) (by decide) ?_
            obtain ⟨w13v, w13e, w13⟩ := ziadd (a := w1x1) (b := (0 : Int32)) rfl li0 (by omega) (by omega)
            refine zs_iadd (pc := 40) t293_40 (c := w13v) w13e ?_
            refine zs_istore_n (pc := 41) t293_41 (ls' := [(1, .int w13v), (0, .ref 336), (2, .int w1x2)]) (zml mf293 (by decide)) rfl ?_
            obtain ⟨w14v, w14e, w14⟩ := ziadd (a := w1x2) (b := Int32.ofInt 1) rfl (show (Int32.ofInt 1).toInt = 1 by decide) (by omega) (by omega)
            refine zs_iinc (pc := 42) t293_42 (ls' := [(2, .int w14v), (1, .int w13v), (0, .ref 336)]) (zml mf293 (by decide)) rfl (c := w14v) w14e rfl ?_
            refine zs_goto (pc := 45) t293_45 ?_
            refine zGo.locals (ls' := [(0, .ref 336), (1, .int w13v), (2, .int w14v)]) (by simp) ?_
            have w15 := w13
            have w16 := w14
            exact w1ih (w1m - 1) (by omega) w13v w14v ⟨by omega, by omega⟩ (by omega)
          · refine zs_icmp_neF (pc := 32) t293_32 rfl lin2 (by omega) ?_
            refine zs_iconst (pc := 35) t293_35 (v := 1) (by decide) ?_
            refine zs_goto (pc := 36) t293_36 ?_
            obtain ⟨w17v, w17⟩ : ∃ v, v = w1x1 + (1 : Int32) := ⟨_, rfl⟩
            have w17g := zrg w17v
            refine zs_iadd (pc := 40) t293_40 (c := w17v) w17.symm ?_
            refine zs_istore_n (pc := 41) t293_41 (ls' := [(1, .int w17v), (0, .ref 336), (2, .int w1x2)]) (zml mf293 (by decide)) rfl ?_
            obtain ⟨w18v, w18e, w18⟩ := ziadd (a := w1x2) (b := Int32.ofInt 1) rfl (show (Int32.ofInt 1).toInt = 1 by decide) (by omega) (by omega)
            refine zs_iinc (pc := 42) t293_42 (ls' := [(2, .int w18v), (1, .int w17v), (0, .ref 336)]) (zml mf293 (by decide)) rfl (c := w18v) w18e rfl ?_
            refine zs_goto (pc := 45) t293_45 ?_
            refine zGo.locals (ls' := [(0, .ref 336), (1, .int w17v), (2, .int w18v)]) (by simp) ?_
            have w19 := w18
            exact w1ih (w1m - 1) (by omega) w17v w18v ⟨by omega, by omega⟩ (by omega)
  refine zGo.locals (ls' := [(0, .ref 336), (1, .int (0 : Int32)), (2, .int (0 : Int32))]) (by simp) ?_
  have w20 := li0
  have w21 := li0
  exact w1L ((60 - 0 : Int).toNat) (0 : Int32) (0 : Int32) ⟨by decide, by decide⟩ (by omega)
theorem K294 {X : zX} {l : Launch} {M : zM} {Q : Option Value → zM → Prop} {a b c : Int32} (hs : zSk zMm M) (hI : zIv mLo mHi M) (hQ : ∀ v : Int32, Q (some (.int v)) M) : zCall X l 0 0 0 294 [.int a, .int b, .int c] M Q := by
  have ga := zrg a
  have gb := zrg b
  have gc := zrg c
  refine zs_in (by decide) mf294 (Nat.le_of_ble_eq_true rfl) ?_
  show zGo X l 0 0 0 294 0 [(0, .int a), (1, .int b), (2, .int c)] [] M _
  refine zs_iload_n (pc := 0) t294_0 rfl ?_
  by_cases w1 : a.toInt = 38
  · refine zs_tswI (pc := 1) t294_1 ((rfl : a.toInt = a.toInt).trans w1) (by decide) rfl (pc2 := 161) rfl ?_
    refine zs_iload_n (pc := 161) t294_161 rfl ?_
    refine zs_iload_n (pc := 162) t294_162 rfl ?_
    obtain ⟨w2v, w2⟩ : ∃ v, b &&& c = v := ⟨_, rfl⟩
    have w2g := zrg w2v
    refine zs_iand (pc := 163) t294_163 (c := w2v) w2 ?_
    exact zs_iret (pc := 164) t294_164 mr294 rfl (hQ _)
  by_cases w3 : a.toInt = 39
  · refine zs_tswI (pc := 1) t294_1 ((rfl : a.toInt = a.toInt).trans w3) (by decide) rfl (pc2 := 165) rfl ?_
    refine zs_iload_n (pc := 165) t294_165 rfl ?_
    refine zs_iload_n (pc := 166) t294_166 rfl ?_
    obtain ⟨w4v, w4⟩ : ∃ v, b ||| c = v := ⟨_, rfl⟩
    have w4g := zrg w4v
    refine zs_ior (pc := 167) t294_167 (c := w4v) w4 ?_
    exact zs_iret (pc := 168) t294_168 mr294 rfl (hQ _)
  by_cases w5 : a.toInt = 40
  · refine zs_tswI (pc := 1) t294_1 ((rfl : a.toInt = a.toInt).trans w5) (by decide) rfl (pc2 := 165) rfl ?_
    refine zs_iload_n (pc := 165) t294_165 rfl ?_
    refine zs_iload_n (pc := 166) t294_166 rfl ?_
    obtain ⟨w6v, w6⟩ : ∃ v, b ||| c = v := ⟨_, rfl⟩
    have w6g := zrg w6v
    refine zs_ior (pc := 167) t294_167 (c := w6v) w6 ?_
    exact zs_iret (pc := 168) t294_168 mr294 rfl (hQ _)
  by_cases w7 : a.toInt = 41
  · refine zs_tswI (pc := 1) t294_1 ((rfl : a.toInt = a.toInt).trans w7) (by decide) rfl (pc2 := 165) rfl ?_
    refine zs_iload_n (pc := 165) t294_165 rfl ?_
    refine zs_iload_n (pc := 166) t294_166 rfl ?_
    obtain ⟨w8v, w8⟩ : ∃ v, b ||| c = v := ⟨_, rfl⟩
    have w8g := zrg w8v
    refine zs_ior (pc := 167) t294_167 (c := w8v) w8 ?_
    exact zs_iret (pc := 168) t294_168 mr294 rfl (hQ _)
  by_cases w9 : a.toInt = 42
  · refine zs_tswI (pc := 1) t294_1 ((rfl : a.toInt = a.toInt).trans w9) (by decide) rfl (pc2 := 124) rfl ?_
    refine zs_iload_n (pc := 124) t294_124 rfl ?_
    refine zs_iload_n (pc := 125) t294_125 rfl ?_
    obtain ⟨w10v, w10⟩ : ∃ v, b * c = v := ⟨_, rfl⟩
    have w10g := zrg w10v
    refine zs_imul (pc := 126) t294_126 (c := w10v) w10 ?_
    exact zs_iret (pc := 127) t294_127 mr294 rfl (hQ _)
  by_cases w11 : a.toInt = 43
  · refine zs_tswI (pc := 1) t294_1 ((rfl : a.toInt = a.toInt).trans w11) (by decide) rfl (pc2 := 116) rfl ?_
    refine zs_iload_n (pc := 116) t294_116 rfl ?_
    refine zs_iload_n (pc := 117) t294_117 rfl ?_
    obtain ⟨w12v, w12⟩ : ∃ v, v = b + c := ⟨_, rfl⟩
    have w12g := zrg w12v
    refine zs_iadd (pc := 118) t294_118 (c := w12v) w12.symm ?_
    exact zs_iret (pc := 119) t294_119 mr294 rfl (hQ _)
  by_cases w13 : a.toInt = 44
  · refine zs_tswI (pc := 1) t294_1 ((rfl : a.toInt = a.toInt).trans w13) (by decide) rfl (pc2 := 165) rfl ?_
    refine zs_iload_n (pc := 165) t294_165 rfl ?_
    refine zs_iload_n (pc := 166) t294_166 rfl ?_
    obtain ⟨w14v, w14⟩ : ∃ v, b ||| c = v := ⟨_, rfl⟩
    have w14g := zrg w14v
    refine zs_ior (pc := 167) t294_167 (c := w14v) w14 ?_
    exact zs_iret (pc := 168) t294_168 mr294 rfl (hQ _)
  by_cases w15 : a.toInt = 45
  · refine zs_tswI (pc := 1) t294_1 ((rfl : a.toInt = a.toInt).trans w15) (by decide) rfl (pc2 := 120) rfl ?_
    refine zs_iload_n (pc := 120) t294_120 rfl ?_
    refine zs_iload_n (pc := 121) t294_121 rfl ?_
    obtain ⟨w16v, w16⟩ : ∃ v, v = b - c := ⟨_, rfl⟩
    have w16g := zrg w16v
    refine zs_isub (pc := 122) t294_122 (c := w16v) w16.symm ?_
    exact zs_iret (pc := 123) t294_123 mr294 rfl (hQ _)
  by_cases w17 : a.toInt = 46
  · refine zs_tswI (pc := 1) t294_1 ((rfl : a.toInt = a.toInt).trans w17) (by decide) rfl (pc2 := 165) rfl ?_
    refine zs_iload_n (pc := 165) t294_165 rfl ?_
    refine zs_iload_n (pc := 166) t294_166 rfl ?_
    obtain ⟨w18v, w18⟩ : ∃ v, b ||| c = v := ⟨_, rfl⟩
    have w18g := zrg w18v
    refine zs_ior (pc := 167) t294_167 (c := w18v) w18 ?_
    exact zs_iret (pc := 168) t294_168 mr294 rfl (hQ _)
  by_cases w19 : a.toInt = 47
  · refine zs_tswI (pc := 1) t294_1 ((rfl : a.toInt = a.toInt).trans w19) (by decide) rfl (pc2 := 165) rfl ?_
    refine zs_iload_n (pc := 165) t294_165 rfl ?_
    refine zs_iload_n (pc := 166) t294_166 rfl ?_
    obtain ⟨w20v, w20⟩ : ∃ v, b ||| c = v := ⟨_, rfl⟩
    have w20g := zrg w20v
    refine zs_ior (pc := 167) t294_167 (c := w20v) w20 ?_
    exact zs_iret (pc := 168) t294_168 mr294 rfl (hQ _)
  by_cases w21 : a.toInt = 48
  · refine zs_tswI (pc := 1) t294_1 ((rfl : a.toInt = a.toInt).trans w21) (by decide) rfl (pc2 := 165) rfl ?_
    refine zs_iload_n (pc := 165) t294_165 rfl ?_
    refine zs_iload_n (pc := 166) t294_166 rfl ?_
    obtain ⟨w22v, w22⟩ : ∃ v, b ||| c = v := ⟨_, rfl⟩
    have w22g := zrg w22v
    refine zs_ior (pc := 167) t294_167 (c := w22v) w22 ?_
    exact zs_iret (pc := 168) t294_168 mr294 rfl (hQ _)
  by_cases w23 : a.toInt = 49
  · refine zs_tswI (pc := 1) t294_1 ((rfl : a.toInt = a.toInt).trans w23) (by decide) rfl (pc2 := 165) rfl ?_
    refine zs_iload_n (pc := 165) t294_165 rfl ?_
    refine zs_iload_n (pc := 166) t294_166 rfl ?_
    obtain ⟨w24v, w24⟩ : ∃ v, b ||| c = v := ⟨_, rfl⟩
    have w24g := zrg w24v
    refine zs_ior (pc := 167) t294_167 (c := w24v) w24 ?_
    exact zs_iret (pc := 168) t294_168 mr294 rfl (hQ _)
  by_cases w25 : a.toInt = 50
  · refine zs_tswI (pc := 1) t294_1 ((rfl : a.toInt = a.toInt).trans w25) (by decide) rfl (pc2 := 165) rfl ?_
    refine zs_iload_n (pc := 165) t294_165 rfl ?_
    refine zs_iload_n (pc := 166) t294_166 rfl ?_
    obtain ⟨w26v, w26⟩ : ∃ v, b ||| c = v := ⟨_, rfl⟩
    have w26g := zrg w26v
    refine zs_ior (pc := 167) t294_167 (c := w26v) w26 ?_
    exact zs_iret (pc := 168) t294_168 mr294 rfl (hQ _)
  by_cases w27 : a.toInt = 51
  · refine zs_tswI (pc := 1) t294_1 ((rfl : a.toInt = a.toInt).trans w27) (by decide) rfl (pc2 := 165) rfl ?_
    refine zs_iload_n (pc := 165) t294_165 rfl ?_
    refine zs_iload_n (pc := 166) t294_166 rfl ?_
    obtain ⟨w28v, w28⟩ : ∃ v, b ||| c = v := ⟨_, rfl⟩
    have w28g := zrg w28v
    refine zs_ior (pc := 167) t294_167 (c := w28v) w28 ?_
    exact zs_iret (pc := 168) t294_168 mr294 rfl (hQ _)
  by_cases w29 : a.toInt = 52
  · refine zs_tswI (pc := 1) t294_1 ((rfl : a.toInt = a.toInt).trans w29) (by decide) rfl (pc2 := 165) rfl ?_
    refine zs_iload_n (pc := 165) t294_165 rfl ?_
    refine zs_iload_n (pc := 166) t294_166 rfl ?_
    obtain ⟨w30v, w30⟩ : ∃ v, b ||| c = v := ⟨_, rfl⟩
    have w30g := zrg w30v
    refine zs_ior (pc := 167) t294_167 (c := w30v) w30 ?_
    exact zs_iret (pc := 168) t294_168 mr294 rfl (hQ _)
  by_cases w31 : a.toInt = 53
  · refine zs_tswI (pc := 1) t294_1 ((rfl : a.toInt = a.toInt).trans w31) (by decide) rfl (pc2 := 165) rfl ?_
    refine zs_iload_n (pc := 165) t294_165 rfl ?_
    refine zs_iload_n (pc := 166) t294_166 rfl ?_
    obtain ⟨w32v, w32⟩ : ∃ v, b ||| c = v := ⟨_, rfl⟩
    have w32g := zrg w32v
    refine zs_ior (pc := 167) t294_167 (c := w32v) w32 ?_
    exact zs_iret (pc := 168) t294_168 mr294 rfl (hQ _)
  by_cases w33 : a.toInt = 54
  · refine zs_tswI (pc := 1) t294_1 ((rfl : a.toInt = a.toInt).trans w33) (by decide) rfl (pc2 := 165) rfl ?_
    refine zs_iload_n (pc := 165) t294_165 rfl ?_
    refine zs_iload_n (pc := 166) t294_166 rfl ?_
    obtain ⟨w34v, w34⟩ : ∃ v, b ||| c = v := ⟨_, rfl⟩
    have w34g := zrg w34v
    refine zs_ior (pc := 167) t294_167 (c := w34v) w34 ?_
    exact zs_iret (pc := 168) t294_168 mr294 rfl (hQ _)
  by_cases w35 : a.toInt = 55
  · refine zs_tswI (pc := 1) t294_1 ((rfl : a.toInt = a.toInt).trans w35) (by decide) rfl (pc2 := 165) rfl ?_
    refine zs_iload_n (pc := 165) t294_165 rfl ?_
    refine zs_iload_n (pc := 166) t294_166 rfl ?_
    obtain ⟨w36v, w36⟩ : ∃ v, b ||| c = v := ⟨_, rfl⟩
    have w36g := zrg w36v
    refine zs_ior (pc := 167) t294_167 (c := w36v) w36 ?_
    exact zs_iret (pc := 168) t294_168 mr294 rfl (hQ _)
  by_cases w37 : a.toInt = 56
  · refine zs_tswI (pc := 1) t294_1 ((rfl : a.toInt = a.toInt).trans w37) (by decide) rfl (pc2 := 165) rfl ?_
    refine zs_iload_n (pc := 165) t294_165 rfl ?_
    refine zs_iload_n (pc := 166) t294_166 rfl ?_
    obtain ⟨w38v, w38⟩ : ∃ v, b ||| c = v := ⟨_, rfl⟩
    have w38g := zrg w38v
    refine zs_ior (pc := 167) t294_167 (c := w38v) w38 ?_
    exact zs_iret (pc := 168) t294_168 mr294 rfl (hQ _)
  by_cases w39 : a.toInt = 57
  · refine zs_tswI (pc := 1) t294_1 ((rfl : a.toInt = a.toInt).trans w39) (by decide) rfl (pc2 := 165) rfl ?_
    refine zs_iload_n (pc := 165) t294_165 rfl ?_
    refine zs_iload_n (pc := 166) t294_166 rfl ?_
    obtain ⟨w40v, w40⟩ : ∃ v, b ||| c = v := ⟨_, rfl⟩
    have w40g := zrg w40v
    refine zs_ior (pc := 167) t294_167 (c := w40v) w40 ?_
    exact zs_iret (pc := 168) t294_168 mr294 rfl (hQ _)
  by_cases w41 : a.toInt = 58
  · refine zs_tswI (pc := 1) t294_1 ((rfl : a.toInt = a.toInt).trans w41) (by decide) rfl (pc2 := 165) rfl ?_
    refine zs_iload_n (pc := 165) t294_165 rfl ?_
    refine zs_iload_n (pc := 166) t294_166 rfl ?_
    obtain ⟨w42v, w42⟩ : ∃ v, b ||| c = v := ⟨_, rfl⟩
    have w42g := zrg w42v
    refine zs_ior (pc := 167) t294_167 (c := w42v) w42 ?_
    exact zs_iret (pc := 168) t294_168 mr294 rfl (hQ _)
  by_cases w43 : a.toInt = 59
  · refine zs_tswI (pc := 1) t294_1 ((rfl : a.toInt = a.toInt).trans w43) (by decide) rfl (pc2 := 165) rfl ?_
    refine zs_iload_n (pc := 165) t294_165 rfl ?_
    refine zs_iload_n (pc := 166) t294_166 rfl ?_
    obtain ⟨w44v, w44⟩ : ∃ v, b ||| c = v := ⟨_, rfl⟩
    have w44g := zrg w44v
    refine zs_ior (pc := 167) t294_167 (c := w44v) w44 ?_
    exact zs_iret (pc := 168) t294_168 mr294 rfl (hQ _)
  by_cases w45 : a.toInt = 60
  · refine zs_tswI (pc := 1) t294_1 ((rfl : a.toInt = a.toInt).trans w45) (by decide) rfl (pc2 := 128) rfl ?_
    refine zs_iload_n (pc := 128) t294_128 rfl ?_
    refine zs_iload_n (pc := 129) t294_129 rfl ?_
    by_cases w46 : c.toInt ≤ b.toInt
    · refine zs_icmp_geT (pc := 130) t294_130 rfl rfl (by omega) ?_
      refine zs_iconst (pc := 137) t294_137 (v := 0) (by decide) ?_
      exact zs_iret (pc := 138) t294_138 mr294 (by decide) (hQ _)
    · refine zs_icmp_geF (pc := 130) t294_130 rfl rfl (by omega) ?_
      refine zs_iconst (pc := 133) t294_133 (v := 1) (by decide) ?_
      refine zs_goto (pc := 134) t294_134 ?_
      exact zs_iret (pc := 138) t294_138 mr294 (by decide) (hQ _)
  by_cases w47 : a.toInt = 61
  · refine zs_tswI (pc := 1) t294_1 ((rfl : a.toInt = a.toInt).trans w47) (by decide) rfl (pc2 := 150) rfl ?_
    refine zs_iload_n (pc := 150) t294_150 rfl ?_
    refine zs_iload_n (pc := 151) t294_151 rfl ?_
    by_cases w48 : b.toInt ≠ c.toInt
    · refine zs_icmp_neT (pc := 152) t294_152 rfl rfl (by omega) ?_
      refine zs_iconst (pc := 159) t294_159 (v := 0) (by decide) ?_
      exact zs_iret (pc := 160) t294_160 mr294 (by decide) (hQ _)
    · refine zs_icmp_neF (pc := 152) t294_152 rfl rfl (by omega) ?_
      refine zs_iconst (pc := 155) t294_155 (v := 1) (by decide) ?_
      refine zs_goto (pc := 156) t294_156 ?_
      exact zs_iret (pc := 160) t294_160 mr294 (by decide) (hQ _)
  by_cases w49 : a.toInt = 62
  · refine zs_tswI (pc := 1) t294_1 ((rfl : a.toInt = a.toInt).trans w49) (by decide) rfl (pc2 := 139) rfl ?_
    refine zs_iload_n (pc := 139) t294_139 rfl ?_
    refine zs_iload_n (pc := 140) t294_140 rfl ?_
    by_cases w50 : b.toInt ≤ c.toInt
    · refine zs_icmp_leT (pc := 141) t294_141 rfl rfl (by omega) ?_
      refine zs_iconst (pc := 148) t294_148 (v := 0) (by decide) ?_
      exact zs_iret (pc := 149) t294_149 mr294 (by decide) (hQ _)
    · refine zs_icmp_leF (pc := 141) t294_141 rfl rfl (by omega) ?_
      refine zs_iconst (pc := 144) t294_144 (v := 1) (by decide) ?_
      refine zs_goto (pc := 145) t294_145 ?_
      exact zs_iret (pc := 149) t294_149 mr294 (by decide) (hQ _)
  refine zs_tswD (pc := 1) t294_1 rfl (by omega) (pc2 := 165) rfl ?_
  refine zs_iload_n (pc := 165) t294_165 rfl ?_
  refine zs_iload_n (pc := 166) t294_166 rfl ?_
  obtain ⟨w51v, w51⟩ : ∃ v, b ||| c = v := ⟨_, rfl⟩
  have w51g := zrg w51v
  refine zs_ior (pc := 167) t294_167 (c := w51v) w51 ?_
  exact zs_iret (pc := 168) t294_168 mr294 rfl (hQ _)
theorem K311 {X : zX} {l : Launch} {M : zM} {Q : Option Value → zM → Prop} {a : Int32} (hs : zSk zMm M) (hI : zIv mLo mHi M) (hQ : ∀ v : Int32, Q (some (.int v)) M) : zCall X l 2 0 0 311 [.ref 336, .int a] M Q := by
  have ga := zrg a
  refine zs_in (by decide) mf311 (Nat.le_of_ble_eq_true rfl) ?_
  show zGo X l 2 0 0 311 0 [(0, .ref 336), (1, .int a)] [] M _
  refine zs_iconst (pc := 0) t311_0 (v := 0) (by decide) ?_
  refine zs_istore_n (pc := 1) t311_1 (ls' := [(2, .int (0 : Int32)), (0, .ref 336), (1, .int a)]) (zml mf311 (by decide)) rfl ?_
  refine zs_iconst (pc := 2) t311_2 (v := 0) (by decide) ?_
  refine zs_istore_n (pc := 3) t311_3 (ls' := [(3, .int (0 : Int32)), (2, .int (0 : Int32)), (0, .ref 336), (1, .int a)]) (zml mf311 (by decide)) rfl ?_
  have w1L : ∀ (m : Nat) (w1x2 : Int32) (w1x3 : Int32), (0 ≤ w1x3.toInt ∧ w1x3.toInt ≤ 60) → 60 - w1x3.toInt ≤ (m : Int) → zGo X l 2 0 0 311 4 [(0, .ref 336), (1, .int a), (2, .int w1x2), (3, .int w1x3)] [] M Q := by
    intro m
    induction m using Nat.strongRecOn with
    | ind w1m w1ih =>
      intro w1x2 w1x3 w1b3 w1q
      have w1g2 := zrg w1x2
      refine zs_iload_n (pc := 4) t311_4 rfl ?_
      refine zs_aload_n (pc := 5) t311_5 rfl ?_
      refine zs_get (pc := 6) t311_6 (by decide) (zk1 (hs.k fk_zMm_336)) (hs.p rfl fv_zMm_336_0) ?_
      refine zs_iconst (pc := 9) t311_9 (v := 1) (by decide) ?_
      have w2 := ibA1 hI
      refine zs_iald (pc := 10) t311_10 (j := 1) (by decide) (zk1 (hs.k fk_zMm_337)) li1 (zk2 (hs.k fk_zMm_337) (by decide)) rfl ?_
      by_cases w3 : (zI M 337 1).toInt ≤ w1x3.toInt
      · refine zs_icmp_geT (pc := 11) t311_11 rfl rfl (by omega) ?_
        refine zs_iload_n (pc := 47) t311_47 rfl ?_
        exact zs_iret (pc := 48) t311_48 mr311 rfl (hQ _)
      · refine zs_icmp_geF (pc := 11) t311_11 rfl rfl (by omega) ?_
        refine zs_iload_n (pc := 14) t311_14 rfl ?_
        refine zs_aload_n (pc := 15) t311_15 rfl ?_
        refine zs_iload_n (pc := 16) t311_16 rfl ?_
        refine zs_iconst (pc := 17) t311_17 (v := 3) (by decide) ?_
        refine zs_invV (pc := 18) (k := 336) (as' := [.int w1x3, .int (3 : Int32)]) (st := [.int w1x2]) t311_18 mf272 rfl rfl (Or.inl ⟨by decide, (zk1 (hs.k fk_zMm_336))⟩) ⟨by decide, by decide, Nat.le_of_ble_eq_true rfl, Nat.le_of_ble_eq_true rfl⟩ (zs_in (by decide) mf272 (Nat.le_of_ble_eq_true rfl) ?_) (fun _ _ q => q)
        show zGo X l 0 0 0 272 0 [(0, .ref 336), (1, .int w1x3), (2, .int (3 : Int32))] [] M _
        refine zs_aload_n (pc := 0) t272_0 rfl ?_
        refine zs_get (pc := 1) t272_1 (by decide) (zk1 (hs.k fk_zMm_336)) (hs.p rfl fv_zMm_336_0) ?_
        refine zs_bipush (pc := 4) t272_4 (v := 30) (by decide) ?_
        refine zs_iconst (pc := 6) t272_6 (v := 4) (by decide) ?_
        refine zs_iload_n (pc := 7) t272_7 rfl ?_
        obtain ⟨w4v, w4⟩ : ∃ v, (4 : Int32) * w1x3 = v := ⟨_, rfl⟩
        have w4g : w4v.toInt = 4 * w1x3.toInt := by rw [← w4]; exact zmulc li4 rfl (by omega) (by omega)
        refine zs_imul (pc := 8) t272_8 (c := w4v) w4 ?_
        obtain ⟨w5v, w5e, w5⟩ := ziadd (a := (30 : Int32)) (b := w4v) li30 w4g (by omega) (by omega)
        refine zs_iadd (pc := 9) t272_9 (c := w5v) w5e ?_
        refine zs_iload_n (pc := 10) t272_10 rfl ?_
        obtain ⟨w6v, w6e, w6⟩ := ziadd (a := w5v) (b := (3 : Int32)) w5 li3 (by omega) (by omega)
        refine zs_iadd (pc := 11) t272_11 (c := w6v) w6e ?_
        obtain ⟨w7n, w7⟩ : ∃ n : Nat, w1x3.toInt = (n : Int) := ⟨(w1x3.toInt).toNat, by omega⟩
        have w8 := zrg (zI M 337 (33 + 4 * w7n))
        refine zs_iald (pc := 12) t272_12 (j := (33 + 4 * w7n)) (by decide) (zk1 (hs.k fk_zMm_337)) (show w6v.toInt = (((33 + 4 * w7n) : Nat) : Int) by omega) (zk2 (hs.k fk_zMm_337) (by omega)) rfl ?_
        refine zs_iret (pc := 13) t272_13 mr272 rfl ?_
        show zGo X l 2 0 0 311 21 [(0, .ref 336), (1, .int a), (2, .int w1x2), (3, .int w1x3)] [.int (zI M 337 (33 + 4 * w7n)), .int w1x2] M _
        refine zs_iload_n (pc := 21) t311_21 rfl ?_
        by_cases w9 : (zI M 337 (33 + 4 * w7n)).toInt ≠ a.toInt
        · refine zs_icmp_neT (pc := 22) t311_22 rfl rfl (by omega) ?_
          refine zs_iconst (pc := 38) t311_38 (v := 0) (by decide) ?_
          obtain ⟨w10v, w10e, w10⟩ := ziadd (a := w1x2) (b := (0 : Int32)) rfl li0 (by omega) (by omega)
          refine zs_iadd (pc := 39) t311_39 (c := w10v) w10e ?_
          refine zs_istore_n (pc := 40) t311_40 (ls' := [(2, .int w10v), (0, .ref 336), (1, .int a), (3, .int w1x3)]) (zml mf311 (by decide)) rfl ?_
          obtain ⟨w11v, w11e, w11⟩ := ziadd (a := w1x3) (b := Int32.ofInt 1) rfl (show (Int32.ofInt 1).toInt = 1 by decide) (by omega) (by omega)
          refine zs_iinc (pc := 41) t311_41 (ls' := [(3, .int w11v), (2, .int w10v), (0, .ref 336), (1, .int a)]) (zml mf311 (by decide)) rfl (c := w11v) w11e rfl ?_
          refine zs_goto (pc := 44) t311_44 ?_
          refine zGo.locals (ls' := [(0, .ref 336), (1, .int a), (2, .int w10v), (3, .int w11v)]) (by simp) ?_
          have w12 := w10
          have w13 := w11
          exact w1ih (w1m - 1) (by omega) w10v w11v ⟨by omega, by omega⟩ (by omega)
        · refine zs_icmp_neF (pc := 22) t311_22 rfl rfl (by omega) ?_
          refine zs_aload_n (pc := 25) t311_25 rfl ?_
          refine zs_iload_n (pc := 26) t311_26 rfl ?_
          refine zs_iconst (pc := 27) t311_27 (v := -1) (by decide) ?_
          refine zs_invV (pc := 28) (k := 336) (as' := [.int w1x3, .int (-1 : Int32)]) (st := [.int w1x2]) t311_28 mf271 rfl rfl (Or.inl ⟨by decide, (zk1 (hs.k fk_zMm_336))⟩) ⟨by decide, by decide, Nat.le_of_ble_eq_true rfl, Nat.le_of_ble_eq_true rfl⟩ (K271 hs hI ⟨by omega, by omega⟩ ?_) (fun _ _ q => q)
          intro w14v  w14a w14b
          show zGo X l 2 0 0 311 31 [(0, .ref 336), (1, .int a), (2, .int w1x2), (3, .int w1x3)] [.int w14v, .int w1x2] M _
          by_cases w15 : w14v.toInt = 0
          · refine zs_if_eqT (pc := 31) t311_31 rfl (by omega) ?_
            refine zs_iconst (pc := 38) t311_38 (v := 0) (by decide) ?_
            obtain ⟨w16v, w16e, w16⟩ := ziadd (a := w1x2) (b := (0 : Int32)) rfl li0 (by omega) (by omega)
            refine zs_iadd (pc := 39) t311_39 (c := w16v) w16e ?_
            refine zs_istore_n (pc := 40) t311_40 (ls' := [(2, .int w16v), (0, .ref 336), (1, .int a), (3, .int w1x3)]) (zml mf311 (by decide)) rfl ?_
            obtain ⟨w17v, w17e, w17⟩ := ziadd (a := w1x3) (b := Int32.ofInt 1) rfl (show (Int32.ofInt 1).toInt = 1 by decide) (by omega) (by omega)
            refine zs_iinc (pc := 41) t311_41 (ls' := [(3, .int w17v), (2, .int w16v), (0, .ref 336), (1, .int a)]) (zml mf311 (by decide)) rfl (c := w17v) w17e rfl ?_
            refine zs_goto (pc := 44) t311_44 ?_
            refine zGo.locals (ls' := [(0, .ref 336), (1, .int a), (2, .int w16v), (3, .int w17v)]) (by simp) ?_
            have w18 := w16
            have w19 := w17
            exact w1ih (w1m - 1) (by omega) w16v w17v ⟨by omega, by omega⟩ (by omega)
          · refine zs_if_eqF (pc := 31) t311_31 rfl (by omega) ?_
            refine zs_iconst (pc := 34) t311_34 (v := 1) (by decide) ?_
            refine zs_goto (pc := 35) t311_35 ?_
            obtain ⟨w20v, w20⟩ : ∃ v, v = w1x2 + (1 : Int32) := ⟨_, rfl⟩
            have w20g := zrg w20v
            refine zs_iadd (pc := 39) t311_39 (c := w20v) w20.symm ?_
            refine zs_istore_n (pc := 40) t311_40 (ls' := [(2, .int w20v), (0, .ref 336), (1, .int a), (3, .int w1x3)]) (zml mf311 (by decide)) rfl ?_
            obtain ⟨w21v, w21e, w21⟩ := ziadd (a := w1x3) (b := Int32.ofInt 1) rfl (show (Int32.ofInt 1).toInt = 1 by decide) (by omega) (by omega)
            refine zs_iinc (pc := 41) t311_41 (ls' := [(3, .int w21v), (2, .int w20v), (0, .ref 336), (1, .int a)]) (zml mf311 (by decide)) rfl (c := w21v) w21e rfl ?_
            refine zs_goto (pc := 44) t311_44 ?_
            refine zGo.locals (ls' := [(0, .ref 336), (1, .int a), (2, .int w20v), (3, .int w21v)]) (by simp) ?_
            have w22 := w21
            exact w1ih (w1m - 1) (by omega) w20v w21v ⟨by omega, by omega⟩ (by omega)
  refine zGo.locals (ls' := [(0, .ref 336), (1, .int a), (2, .int (0 : Int32)), (3, .int (0 : Int32))]) (by simp) ?_
  have w23 := li0
  have w24 := li0
  exact w1L ((60 - 0 : Int).toNat) (0 : Int32) (0 : Int32) ⟨by decide, by decide⟩ (by omega)
theorem K313 {X : zX} {l : Launch} {M : zM} {Q : Option Value → zM → Prop} {a b : Int32} (hs : zSk zMm M) (hI : zIv mLo mHi M) (ha : 0 ≤ a.toInt ∧ a.toInt ≤ 19) (hQ : ∀ v : Int32, Q (some (.int v)) M) : zCall X l 1 0 0 313 [.ref 336, .int a, .int b] M Q := by
  have ga := zrg a
  have gb := zrg b
  refine zs_in (by decide) mf313 (Nat.le_of_ble_eq_true rfl) ?_
  show zGo X l 1 0 0 313 0 [(0, .ref 336), (1, .int a), (2, .int b)] [] M _
  refine zs_iconst (pc := 0) t313_0 (v := 0) (by decide) ?_
  refine zs_istore_n (pc := 1) t313_1 (ls' := [(3, .int (0 : Int32)), (0, .ref 336), (1, .int a), (2, .int b)]) (zml mf313 (by decide)) rfl ?_
  refine zs_iconst (pc := 2) t313_2 (v := 0) (by decide) ?_
  refine zs_istore (pc := 3) t313_3 (ls' := [(4, .int (0 : Int32)), (3, .int (0 : Int32)), (0, .ref 336), (1, .int a), (2, .int b)]) (zml mf313 (by decide)) rfl ?_
  have w1L : ∀ (m : Nat) (w1x3 : Int32) (w1x4 : Int32), (0 ≤ w1x4.toInt ∧ w1x4.toInt ≤ 8) → 8 - w1x4.toInt ≤ (m : Int) → zGo X l 1 0 0 313 5 [(0, .ref 336), (1, .int a), (2, .int b), (3, .int w1x3), (4, .int w1x4)] [] M Q := by
    intro m
    induction m using Nat.strongRecOn with
    | ind w1m w1ih =>
      intro w1x3 w1x4 w1b4 w1q
      have w1g3 := zrg w1x3
      refine zs_iload (pc := 5) t313_5 rfl ?_
      refine zs_aload_n (pc := 7) t313_7 rfl ?_
      refine zs_get (pc := 8) t313_8 (by decide) (zk1 (hs.k fk_zMm_336)) (hs.p rfl fv_zMm_336_0) ?_
      refine zs_iconst (pc := 11) t313_11 (v := 0) (by decide) ?_
      have w2 := ibA0 hI
      refine zs_iald (pc := 12) t313_12 (j := 0) (by decide) (zk1 (hs.k fk_zMm_337)) li0 (zk2 (hs.k fk_zMm_337) (by decide)) rfl ?_
      by_cases w3 : (zI M 337 0).toInt ≤ w1x4.toInt
      · refine zs_icmp_geT (pc := 13) t313_13 rfl rfl (by omega) ?_
        refine zs_iload_n (pc := 68) t313_68 rfl ?_
        exact zs_iret (pc := 69) t313_69 mr313 rfl (hQ _)
      · refine zs_icmp_geF (pc := 13) t313_13 rfl rfl (by omega) ?_
        refine zs_iload_n (pc := 16) t313_16 rfl ?_
        refine zs_aload_n (pc := 17) t313_17 rfl ?_
        refine zs_get (pc := 18) t313_18 (by decide) (zk1 (hs.k fk_zMm_336)) (hs.p rfl fv_zMm_336_27) ?_
        refine zs_bipush (pc := 21) t313_21 (v := 8) (by decide) ?_
        refine zs_iload_n (pc := 23) t313_23 rfl ?_
        obtain ⟨w4v, w4⟩ : ∃ v, (8 : Int32) * a = v := ⟨_, rfl⟩
        have w4g : w4v.toInt = 8 * a.toInt := by rw [← w4]; exact zmulc li8 rfl (by omega) (by omega)
        refine zs_imul (pc := 24) t313_24 (c := w4v) w4 ?_
        refine zs_iload (pc := 25) t313_25 rfl ?_
        obtain ⟨w5v, w5e, w5⟩ := ziadd (a := w4v) (b := w1x4) w4g rfl (by omega) (by omega)
        refine zs_iadd (pc := 27) t313_27 (c := w5v) w5e ?_
        obtain ⟨w6n, w6⟩ : ∃ n : Nat, a.toInt = (n : Int) := ⟨(a.toInt).toNat, by omega⟩
        obtain ⟨w7n, w7⟩ : ∃ n : Nat, w1x4.toInt = (n : Int) := ⟨(w1x4.toInt).toNat, by omega⟩
        have w8 := ib349 hI (8 * w6n + w7n)
        refine zs_iald (pc := 28) t313_28 (j := (8 * w6n + w7n)) (by decide) (zk1 (hs.k fk_zMm_349)) (show w5v.toInt = (((8 * w6n + w7n) : Nat) : Int) by omega) (zk2 (hs.k fk_zMm_349) (by omega)) rfl ?_
        refine zs_bipush (pc := 29) t313_29 (v := -2) (by decide) ?_
        by_cases w9 : (zI M 349 (8 * w6n + w7n)).toInt = (-2)
        · refine zs_icmp_eqT (pc := 31) t313_31 rfl lin2 (by omega) ?_
          refine zs_iconst (pc := 59) t313_59 (v := 0) (by decide) ?_
          obtain ⟨w10v, w10e, w10⟩ := ziadd (a := w1x3) (b := (0 : Int32)) rfl li0 (by omega) (by omega)
          refine zs_iadd (pc := 60) t313_60 (c := w10v) w10e ?_
          refine zs_istore_n (pc := 61) t313_61 (ls' := [(3, .int w10v), (0, .ref 336), (1, .int a), (2, .int b), (4, .int w1x4)]) (zml mf313 (by decide)) rfl ?_
          obtain ⟨w11v, w11e, w11⟩ := ziadd (a := w1x4) (b := Int32.ofInt 1) rfl (show (Int32.ofInt 1).toInt = 1 by decide) (by omega) (by omega)
          refine zs_iinc (pc := 62) t313_62 (ls' := [(4, .int w11v), (3, .int w10v), (0, .ref 336), (1, .int a), (2, .int b)]) (zml mf313 (by decide)) rfl (c := w11v) w11e rfl ?_
          refine zs_goto (pc := 65) t313_65 ?_
          refine zGo.locals (ls' := [(0, .ref 336), (1, .int a), (2, .int b), (3, .int w10v), (4, .int w11v)]) (by simp) ?_
          have w12 := w10
          have w13 := w11
          exact w1ih (w1m - 1) (by omega) w10v w11v ⟨by omega, by omega⟩ (by omega)
        · refine zs_icmp_eqF (pc := 31) t313_31 rfl lin2 (by omega) ?_
          refine zs_aload_n (pc := 34) t313_34 rfl ?_
          refine zs_aload_n (pc := 35) t313_35 rfl ?_
          refine zs_get (pc := 36) t313_36 (by decide) (zk1 (hs.k fk_zMm_336)) (hs.p rfl fv_zMm_336_27) ?_
          refine zs_bipush (pc := 39) t313_39 (v := 8) (by decide) ?_
          refine zs_iload_n (pc := 41) t313_41 rfl ?_
          obtain ⟨w14v, w14⟩ : ∃ v, (8 : Int32) * a = v := ⟨_, rfl⟩
          have w14g : w14v.toInt = 8 * a.toInt := by rw [← w14]; exact zmulc li8 rfl (by omega) (by omega)
          refine zs_imul (pc := 42) t313_42 (c := w14v) w14 ?_
          refine zs_iload (pc := 43) t313_43 rfl ?_
          obtain ⟨w15v, w15e, w15⟩ := ziadd (a := w14v) (b := w1x4) w14g rfl (by omega) (by omega)
          refine zs_iadd (pc := 45) t313_45 (c := w15v) w15e ?_
          refine zs_iald (pc := 46) t313_46 (j := (8 * w6n + w7n)) (by decide) (zk1 (hs.k fk_zMm_349)) (show w15v.toInt = (((8 * w6n + w7n) : Nat) : Int) by omega) (zk2 (hs.k fk_zMm_349) (by omega)) rfl ?_
          refine zs_iconst (pc := 47) t313_47 (v := 3) (by decide) ?_
          refine zs_invV (pc := 48) (k := 336) (as' := [.int (zI M 349 (8 * w6n + w7n)), .int (3 : Int32)]) (st := [.int w1x3]) t313_48 mf272 rfl rfl (Or.inl ⟨by decide, (zk1 (hs.k fk_zMm_336))⟩) ⟨by decide, by decide, Nat.le_of_ble_eq_true rfl, Nat.le_of_ble_eq_true rfl⟩ (zs_in (by decide) mf272 (Nat.le_of_ble_eq_true rfl) ?_) (fun _ _ q => q)
          show zGo X l 0 0 0 272 0 [(0, .ref 336), (1, .int (zI M 349 (8 * w6n + w7n))), (2, .int (3 : Int32))] [] M _
          refine zs_aload_n (pc := 0) t272_0 rfl ?_
          refine zs_get (pc := 1) t272_1 (by decide) (zk1 (hs.k fk_zMm_336)) (hs.p rfl fv_zMm_336_0) ?_
          refine zs_bipush (pc := 4) t272_4 (v := 30) (by decide) ?_
          refine zs_iconst (pc := 6) t272_6 (v := 4) (by decide) ?_
          refine zs_iload_n (pc := 7) t272_7 rfl ?_
          obtain ⟨w16v, w16⟩ : ∃ v, (4 : Int32) * (zI M 349 (8 * w6n + w7n)) = v := ⟨_, rfl⟩
          have w16g : w16v.toInt = 4 * (zI M 349 (8 * w6n + w7n)).toInt := by rw [← w16]; exact zmulc li4 rfl (by omega) (by omega)
          refine zs_imul (pc := 8) t272_8 (c := w16v) w16 ?_
          obtain ⟨w17v, w17e, w17⟩ := ziadd (a := (30 : Int32)) (b := w16v) li30 w16g (by omega) (by omega)
          refine zs_iadd (pc := 9) t272_9 (c := w17v) w17e ?_
          refine zs_iload_n (pc := 10) t272_10 rfl ?_
          obtain ⟨w18v, w18e, w18⟩ := ziadd (a := w17v) (b := (3 : Int32)) w17 li3 (by omega) (by omega)
          refine zs_iadd (pc := 11) t272_11 (c := w18v) w18e ?_
          obtain ⟨w19n, w19⟩ : ∃ n : Nat, w18v.toInt = (n : Int) := ⟨w18v.toInt.toNat, by omega⟩
          have w20 := zrg (zI M 337 w19n)
          refine zs_iald (pc := 12) t272_12 (j := w19n) (by decide) (zk1 (hs.k fk_zMm_337)) w19 (zk2 (hs.k fk_zMm_337) (by omega)) rfl ?_
          refine zs_iret (pc := 13) t272_13 mr272 rfl ?_
          show zGo X l 1 0 0 313 51 [(0, .ref 336), (1, .int a), (2, .int b), (3, .int w1x3), (4, .int w1x4)] [.int (zI M 337 w19n), .int w1x3] M _
          refine zs_iload_n (pc := 51) t313_51 rfl ?_
          by_cases w21 : (zI M 337 w19n).toInt ≠ b.toInt
          · refine zs_icmp_neT (pc := 52) t313_52 rfl rfl (by omega) ?_
            refine zs_iconst (pc := 59) t313_59 (v := 0) (by decide) ?_
            obtain ⟨w22v, w22e, w22⟩ := ziadd (a := w1x3) (b := (0 : Int32)) rfl li0 (by omega) (by omega)
            refine zs_iadd (pc := 60) t313_60 (c := w22v) w22e ?_
            refine zs_istore_n (pc := 61) t313_61 (ls' := [(3, .int w22v), (0, .ref 336), (1, .int a), (2, .int b), (4, .int w1x4)]) (zml mf313 (by decide)) rfl ?_
            obtain ⟨w23v, w23e, w23⟩ := ziadd (a := w1x4) (b := Int32.ofInt 1) rfl (show (Int32.ofInt 1).toInt = 1 by decide) (by omega) (by omega)
            refine zs_iinc (pc := 62) t313_62 (ls' := [(4, .int w23v), (3, .int w22v), (0, .ref 336), (1, .int a), (2, .int b)]) (zml mf313 (by decide)) rfl (c := w23v) w23e rfl ?_
            refine zs_goto (pc := 65) t313_65 ?_
            refine zGo.locals (ls' := [(0, .ref 336), (1, .int a), (2, .int b), (3, .int w22v), (4, .int w23v)]) (by simp) ?_
            have w24 := w22
            have w25 := w23
            exact w1ih (w1m - 1) (by omega) w22v w23v ⟨by omega, by omega⟩ (by omega)
          · refine zs_icmp_neF (pc := 52) t313_52 rfl rfl (by omega) ?_
            refine zs_iconst (pc := 55) t313_55 (v := 1) (by decide) ?_
            refine zs_goto (pc := 56) t313_56 ?_
            obtain ⟨w26v, w26⟩ : ∃ v, v = w1x3 + (1 : Int32) := ⟨_, rfl⟩
            have w26g := zrg w26v
            refine zs_iadd (pc := 60) t313_60 (c := w26v) w26.symm ?_
            refine zs_istore_n (pc := 61) t313_61 (ls' := [(3, .int w26v), (0, .ref 336), (1, .int a), (2, .int b), (4, .int w1x4)]) (zml mf313 (by decide)) rfl ?_
            obtain ⟨w27v, w27e, w27⟩ := ziadd (a := w1x4) (b := Int32.ofInt 1) rfl (show (Int32.ofInt 1).toInt = 1 by decide) (by omega) (by omega)
            refine zs_iinc (pc := 62) t313_62 (ls' := [(4, .int w27v), (3, .int w26v), (0, .ref 336), (1, .int a), (2, .int b)]) (zml mf313 (by decide)) rfl (c := w27v) w27e rfl ?_
            refine zs_goto (pc := 65) t313_65 ?_
            refine zGo.locals (ls' := [(0, .ref 336), (1, .int a), (2, .int b), (3, .int w26v), (4, .int w27v)]) (by simp) ?_
            have w28 := w27
            exact w1ih (w1m - 1) (by omega) w26v w27v ⟨by omega, by omega⟩ (by omega)
  refine zGo.locals (ls' := [(0, .ref 336), (1, .int a), (2, .int b), (3, .int (0 : Int32)), (4, .int (0 : Int32))]) (by simp) ?_
  have w29 := li0
  have w30 := li0
  exact w1L ((8 - 0 : Int).toNat) (0 : Int32) (0 : Int32) ⟨by decide, by decide⟩ (by omega)
theorem K312 {X : zX} {l : Launch} {M : zM} {Q : Option Value → zM → Prop} {a : Int32} (hs : zSk zMm M) (hI : zIv mLo mHi M) (hQ : ∀ v : Int32, (-2) ≤ v.toInt → v.toInt ≤ 19 → Q (some (.int v)) M) : zCall X l 3 0 0 312 [.ref 336, .int a] M Q := by
  have ga := zrg a
  refine zs_in (by decide) mf312 (Nat.le_of_ble_eq_true rfl) ?_
  show zGo X l 3 0 0 312 0 [(0, .ref 336), (1, .int a)] [] M _
  refine zs_bipush (pc := 0) t312_0 (v := -2) (by decide) ?_
  refine zs_istore_n (pc := 2) t312_2 (ls' := [(2, .int (-2 : Int32)), (0, .ref 336), (1, .int a)]) (zml mf312 (by decide)) rfl ?_
  refine zs_iconst (pc := 3) t312_3 (v := 0) (by decide) ?_
  refine zs_istore_n (pc := 4) t312_4 (ls' := [(3, .int (0 : Int32)), (2, .int (-2 : Int32)), (0, .ref 336), (1, .int a)]) (zml mf312 (by decide)) rfl ?_
  refine zs_iconst (pc := 5) t312_5 (v := 0) (by decide) ?_
  refine zs_istore (pc := 6) t312_6 (ls' := [(4, .int (0 : Int32)), (3, .int (0 : Int32)), (2, .int (-2 : Int32)), (0, .ref 336), (1, .int a)]) (zml mf312 (by decide)) rfl ?_
  have w1L : ∀ (m : Nat) (w1x2 : Int32) (w1x3 : Int32) (w1x4 : Int32), ((-2) ≤ w1x2.toInt ∧ w1x2.toInt ≤ 19) → (0 ≤ w1x4.toInt ∧ w1x4.toInt ≤ 20) → 20 - w1x4.toInt ≤ (m : Int) → zGo X l 3 0 0 312 8 [(0, .ref 336), (1, .int a), (2, .int w1x2), (3, .int w1x3), (4, .int w1x4)] [] M Q := by
    intro m
    induction m using Nat.strongRecOn with
    | ind w1m w1ih =>
      intro w1x2 w1x3 w1x4 w1b2 w1b4 w1q
      have w1g3 := zrg w1x3
      refine zs_iload (pc := 8) t312_8 rfl ?_
      refine zs_aload_n (pc := 10) t312_10 rfl ?_
      have w2 := ib336_22 hI
      refine zs_get (pc := 11) t312_11 (by decide) (zk1 (hs.k fk_zMm_336)) (zfvi rfl rfl) ?_
      by_cases w3 : (zI M 336 22).toInt ≤ w1x4.toInt
      · refine zs_icmp_geT (pc := 14) t312_14 rfl rfl (by omega) ?_
        refine zs_iload_n (pc := 59) t312_59 rfl ?_
        exact zs_iret (pc := 60) t312_60 mr312 rfl (hQ _ (by omega) (by omega))
      · refine zs_icmp_geF (pc := 14) t312_14 rfl rfl (by omega) ?_
        refine zs_aload_n (pc := 17) t312_17 rfl ?_
        refine zs_iload (pc := 18) t312_18 rfl ?_
        refine zs_iload_n (pc := 20) t312_20 rfl ?_
        refine zs_invV (pc := 21) (k := 336) (as' := [.int w1x4, .int a]) (st := []) t312_21 mf313 rfl rfl (Or.inl ⟨by decide, (zk1 (hs.k fk_zMm_336))⟩) ⟨by decide, by decide, Nat.le_of_ble_eq_true rfl, Nat.le_of_ble_eq_true rfl⟩ (K313 hs hI ⟨by omega, by omega⟩ ?_) (fun _ _ q => q)
        intro w4v
        have w4g := zrg w4v
        show zGo X l 3 0 0 312 24 [(0, .ref 336), (1, .int a), (2, .int w1x2), (3, .int w1x3), (4, .int w1x4)] [.int w4v] M _
        refine zs_istore (pc := 24) t312_24 (ls' := [(5, .int w4v), (0, .ref 336), (1, .int a), (2, .int w1x2), (3, .int w1x3), (4, .int w1x4)]) (zml mf312 (by decide)) rfl ?_
        refine zs_iload (pc := 26) t312_26 rfl ?_
        refine zs_iload_n (pc := 28) t312_28 rfl ?_
        by_cases w5 : w4v.toInt ≤ w1x3.toInt
        · refine zs_icmp_leT (pc := 29) t312_29 rfl rfl (by omega) ?_
          obtain ⟨w6v, w6e, w6⟩ := ziadd (a := w1x4) (b := Int32.ofInt 1) rfl (show (Int32.ofInt 1).toInt = 1 by decide) (by omega) (by omega)
          refine zs_iinc (pc := 53) t312_53 (ls' := [(4, .int w6v), (5, .int w4v), (0, .ref 336), (1, .int a), (2, .int w1x2), (3, .int w1x3)]) (zml mf312 (by decide)) rfl (c := w6v) w6e rfl ?_
          refine zs_goto (pc := 56) t312_56 ?_
          refine zGo.locals (ls' := [(0, .ref 336), (1, .int a), (2, .int w1x2), (3, .int w1x3), (4, .int w6v)]) (by simp) ?_
          have w7 := w6
          exact w1ih (w1m - 1) (by omega) w1x2 w1x3 w6v ⟨by omega, by omega⟩ ⟨by omega, by omega⟩ (by omega)
        · refine zs_icmp_leF (pc := 29) t312_29 rfl rfl (by omega) ?_
          refine zs_iconst (pc := 32) t312_32 (v := 2) (by decide) ?_
          refine zs_iload (pc := 33) t312_33 rfl ?_
          obtain ⟨w8v, w8⟩ : ∃ v, (2 : Int32) * w4v = v := ⟨_, rfl⟩
          have w8g := zrg w8v
          refine zs_imul (pc := 35) t312_35 (c := w8v) w8 ?_
          refine zs_aload_n (pc := 36) t312_36 rfl ?_
          refine zs_iload_n (pc := 37) t312_37 rfl ?_
          refine zs_invV (pc := 38) (k := 336) (as' := [.int a]) (st := [.int w8v]) t312_38 mf311 rfl rfl (Or.inl ⟨by decide, (zk1 (hs.k fk_zMm_336))⟩) ⟨by decide, by decide, Nat.le_of_ble_eq_true rfl, Nat.le_of_ble_eq_true rfl⟩ (K311 hs hI ?_) (fun _ _ q => q)
          intro w9v
          have w9g := zrg w9v
          show zGo X l 3 0 0 312 41 [(5, .int w4v), (0, .ref 336), (1, .int a), (2, .int w1x2), (3, .int w1x3), (4, .int w1x4)] [.int w9v, .int w8v] M _
          by_cases w10 : w9v.toInt ≤ w8v.toInt
          · refine zs_icmp_geT (pc := 41) t312_41 rfl rfl (by omega) ?_
            refine zs_iload (pc := 47) t312_47 rfl ?_
            refine zs_istore_n (pc := 49) t312_49 (ls' := [(2, .int w1x4), (5, .int w4v), (0, .ref 336), (1, .int a), (3, .int w1x3), (4, .int w1x4)]) (zml mf312 (by decide)) rfl ?_
            refine zs_iload (pc := 50) t312_50 rfl ?_
            refine zs_istore_n (pc := 52) t312_52 (ls' := [(3, .int w4v), (2, .int w1x4), (5, .int w4v), (0, .ref 336), (1, .int a), (4, .int w1x4)]) (zml mf312 (by decide)) rfl ?_
            obtain ⟨w11v, w11e, w11⟩ := ziadd (a := w1x4) (b := Int32.ofInt 1) rfl (show (Int32.ofInt 1).toInt = 1 by decide) (by omega) (by omega)
            refine zs_iinc (pc := 53) t312_53 (ls' := [(4, .int w11v), (3, .int w4v), (2, .int w1x4), (5, .int w4v), (0, .ref 336), (1, .int a)]) (zml mf312 (by decide)) rfl (c := w11v) w11e rfl ?_
            refine zs_goto (pc := 56) t312_56 ?_
            refine zGo.locals (ls' := [(0, .ref 336), (1, .int a), (2, .int w1x4), (3, .int w4v), (4, .int w11v)]) (by simp) ?_
            have w12 := w11
            exact w1ih (w1m - 1) (by omega) w1x4 w4v w11v ⟨by omega, by omega⟩ ⟨by omega, by omega⟩ (by omega)
          · refine zs_icmp_geF (pc := 41) t312_41 rfl rfl (by omega) ?_
            refine zs_goto (pc := 44) t312_44 ?_
            obtain ⟨w13v, w13e, w13⟩ := ziadd (a := w1x4) (b := Int32.ofInt 1) rfl (show (Int32.ofInt 1).toInt = 1 by decide) (by omega) (by omega)
            refine zs_iinc (pc := 53) t312_53 (ls' := [(4, .int w13v), (5, .int w4v), (0, .ref 336), (1, .int a), (2, .int w1x2), (3, .int w1x3)]) (zml mf312 (by decide)) rfl (c := w13v) w13e rfl ?_
            refine zs_goto (pc := 56) t312_56 ?_
            refine zGo.locals (ls' := [(0, .ref 336), (1, .int a), (2, .int w1x2), (3, .int w1x3), (4, .int w13v)]) (by simp) ?_
            have w14 := w13
            exact w1ih (w1m - 1) (by omega) w1x2 w1x3 w13v ⟨by omega, by omega⟩ ⟨by omega, by omega⟩ (by omega)
  refine zGo.locals (ls' := [(0, .ref 336), (1, .int a), (2, .int (-2 : Int32)), (3, .int (0 : Int32)), (4, .int (0 : Int32))]) (by simp) ?_
  have w15 := lin2
  have w16 := li0
  have w17 := li0
  exact w1L ((20 - 0 : Int).toNat) (-2 : Int32) (0 : Int32) (0 : Int32) ⟨by decide, by decide⟩ ⟨by decide, by decide⟩ (by omega)
theorem K318 {X : zX} {l : Launch} {M : zM} {Q : Option Value → zM → Prop} {a : Int32} (hs : zSk zMm M) (hI : zIv mLo mHi M) (ha : 0 ≤ a.toInt ∧ a.toInt ≤ 19) (hQ : ∀ v : Int32, Q (some (.int v)) M) : zCall X l 0 0 0 318 [.ref 336, .int a] M Q := by
  have ga := zrg a
  refine zs_in (by decide) mf318 (Nat.le_of_ble_eq_true rfl) ?_
  show zGo X l 0 0 0 318 0 [(0, .ref 336), (1, .int a)] [] M _
  refine zs_iconst (pc := 0) t318_0 (v := 0) (by decide) ?_
  refine zs_istore_n (pc := 1) t318_1 (ls' := [(2, .int (0 : Int32)), (0, .ref 336), (1, .int a)]) (zml mf318 (by decide)) rfl ?_
  refine zs_iconst (pc := 2) t318_2 (v := 0) (by decide) ?_
  refine zs_istore_n (pc := 3) t318_3 (ls' := [(3, .int (0 : Int32)), (2, .int (0 : Int32)), (0, .ref 336), (1, .int a)]) (zml mf318 (by decide)) rfl ?_
  have w1L : ∀ (m : Nat) (w1x2 : Int32) (w1x3 : Int32), (0 ≤ w1x3.toInt ∧ w1x3.toInt ≤ 8) → 8 - w1x3.toInt ≤ (m : Int) → zGo X l 0 0 0 318 4 [(0, .ref 336), (1, .int a), (2, .int w1x2), (3, .int w1x3)] [] M Q := by
    intro m
    induction m using Nat.strongRecOn with
    | ind w1m w1ih =>
      intro w1x2 w1x3 w1b3 w1q
      have w1g2 := zrg w1x2
      refine zs_iload_n (pc := 4) t318_4 rfl ?_
      refine zs_aload_n (pc := 5) t318_5 rfl ?_
      refine zs_get (pc := 6) t318_6 (by decide) (zk1 (hs.k fk_zMm_336)) (hs.p rfl fv_zMm_336_0) ?_
      refine zs_iconst (pc := 9) t318_9 (v := 0) (by decide) ?_
      have w2 := ibA0 hI
      refine zs_iald (pc := 10) t318_10 (j := 0) (by decide) (zk1 (hs.k fk_zMm_337)) li0 (zk2 (hs.k fk_zMm_337) (by decide)) rfl ?_
      by_cases w3 : (zI M 337 0).toInt ≤ w1x3.toInt
      · refine zs_icmp_geT (pc := 11) t318_11 rfl rfl (by omega) ?_
        refine zs_iload_n (pc := 44) t318_44 rfl ?_
        exact zs_iret (pc := 45) t318_45 mr318 rfl (hQ _)
      · refine zs_icmp_geF (pc := 11) t318_11 rfl rfl (by omega) ?_
        refine zs_iload_n (pc := 14) t318_14 rfl ?_
        refine zs_aload_n (pc := 15) t318_15 rfl ?_
        refine zs_get (pc := 16) t318_16 (by decide) (zk1 (hs.k fk_zMm_336)) (hs.p rfl fv_zMm_336_27) ?_
        refine zs_bipush (pc := 19) t318_19 (v := 8) (by decide) ?_
        refine zs_iload_n (pc := 21) t318_21 rfl ?_
        obtain ⟨w4v, w4⟩ : ∃ v, (8 : Int32) * a = v := ⟨_, rfl⟩
        have w4g : w4v.toInt = 8 * a.toInt := by rw [← w4]; exact zmulc li8 rfl (by omega) (by omega)
        refine zs_imul (pc := 22) t318_22 (c := w4v) w4 ?_
        refine zs_iload_n (pc := 23) t318_23 rfl ?_
        obtain ⟨w5v, w5e, w5⟩ := ziadd (a := w4v) (b := w1x3) w4g rfl (by omega) (by omega)
        refine zs_iadd (pc := 24) t318_24 (c := w5v) w5e ?_
        obtain ⟨w6n, w6⟩ : ∃ n : Nat, a.toInt = (n : Int) := ⟨(a.toInt).toNat, by omega⟩
        obtain ⟨w7n, w7⟩ : ∃ n : Nat, w1x3.toInt = (n : Int) := ⟨(w1x3.toInt).toNat, by omega⟩
        have w8 := ib349 hI (8 * w6n + w7n)
        refine zs_iald (pc := 25) t318_25 (j := (8 * w6n + w7n)) (by decide) (zk1 (hs.k fk_zMm_349)) (show w5v.toInt = (((8 * w6n + w7n) : Nat) : Int) by omega) (zk2 (hs.k fk_zMm_349) (by omega)) rfl ?_
        refine zs_bipush (pc := 26) t318_26 (v := -2) (by decide) ?_
        by_cases w9 : (zI M 349 (8 * w6n + w7n)).toInt ≠ (-2)
        · refine zs_icmp_neT (pc := 28) t318_28 rfl lin2 (by omega) ?_
          refine zs_iconst (pc := 35) t318_35 (v := 1) (by decide) ?_
          obtain ⟨w10v, w10⟩ : ∃ v, v = w1x2 + (1 : Int32) := ⟨_, rfl⟩
          have w10g := zrg w10v
          refine zs_iadd (pc := 36) t318_36 (c := w10v) w10.symm ?_
          refine zs_istore_n (pc := 37) t318_37 (ls' := [(2, .int w10v), (0, .ref 336), (1, .int a), (3, .int w1x3)]) (zml mf318 (by decide)) rfl ?_
          obtain ⟨w11v, w11e, w11⟩ := ziadd (a := w1x3) (b := Int32.ofInt 1) rfl (show (Int32.ofInt 1).toInt = 1 by decide) (by omega) (by omega)
          refine zs_iinc (pc := 38) t318_38 (ls' := [(3, .int w11v), (2, .int w10v), (0, .ref 336), (1, .int a)]) (zml mf318 (by decide)) rfl (c := w11v) w11e rfl ?_
          refine zs_goto (pc := 41) t318_41 ?_
          refine zGo.locals (ls' := [(0, .ref 336), (1, .int a), (2, .int w10v), (3, .int w11v)]) (by simp) ?_
          have w12 := w11
          exact w1ih (w1m - 1) (by omega) w10v w11v ⟨by omega, by omega⟩ (by omega)
        · refine zs_icmp_neF (pc := 28) t318_28 rfl lin2 (by omega) ?_
          refine zs_iconst (pc := 31) t318_31 (v := 0) (by decide) ?_
          refine zs_goto (pc := 32) t318_32 ?_
          obtain ⟨w13v, w13e, w13⟩ := ziadd (a := w1x2) (b := (0 : Int32)) rfl li0 (by omega) (by omega)
          refine zs_iadd (pc := 36) t318_36 (c := w13v) w13e ?_
          refine zs_istore_n (pc := 37) t318_37 (ls' := [(2, .int w13v), (0, .ref 336), (1, .int a), (3, .int w1x3)]) (zml mf318 (by decide)) rfl ?_
          obtain ⟨w14v, w14e, w14⟩ := ziadd (a := w1x3) (b := Int32.ofInt 1) rfl (show (Int32.ofInt 1).toInt = 1 by decide) (by omega) (by omega)
          refine zs_iinc (pc := 38) t318_38 (ls' := [(3, .int w14v), (2, .int w13v), (0, .ref 336), (1, .int a)]) (zml mf318 (by decide)) rfl (c := w14v) w14e rfl ?_
          refine zs_goto (pc := 41) t318_41 ?_
          refine zGo.locals (ls' := [(0, .ref 336), (1, .int a), (2, .int w13v), (3, .int w14v)]) (by simp) ?_
          have w15 := w13
          have w16 := w14
          exact w1ih (w1m - 1) (by omega) w13v w14v ⟨by omega, by omega⟩ (by omega)
  refine zGo.locals (ls' := [(0, .ref 336), (1, .int a), (2, .int (0 : Int32)), (3, .int (0 : Int32))]) (by simp) ?_
  have w17 := li0
  have w18 := li0
  exact w1L ((8 - 0 : Int).toNat) (0 : Int32) (0 : Int32) ⟨by decide, by decide⟩ (by omega)
theorem K319 {X : zX} {l : Launch} {M : zM} {Q : Option Value → zM → Prop} {a : Int32} (hs : zSk zMm M) (hI : zIv mLo mHi M) (pD : zPD M) (ha : 0 ≤ a.toInt ∧ a.toInt ≤ 19) (u0 : a.toInt < (zI M 336 22).toInt) (hQ : ∀ v : Int32, Q (some (.int v)) M) : zCall X l 3 0 0 319 [.ref 336, .int a] M Q := by
  have ga := zrg a
  refine zs_in (by decide) mf319 (Nat.le_of_ble_eq_true rfl) ?_
  show zGo X l 3 0 0 319 0 [(0, .ref 336), (1, .int a)] [] M _
  refine zs_lconst (pc := 0) t319_0 (v := 0) (by decide) ?_
  refine zs_lstore_n (pc := 1) t319_1 (ls' := [(2, .long (0 : Int64)), (0, .ref 336), (1, .int a)]) (zml mf319 (by decide)) rfl ?_
  refine zs_iconst (pc := 2) t319_2 (v := 0) (by decide) ?_
  refine zs_istore (pc := 3) t319_3 (ls' := [(4, .int (0 : Int32)), (2, .long (0 : Int64)), (0, .ref 336), (1, .int a)]) (zml mf319 (by decide)) rfl ?_
  have w1L : ∀ (m : Nat) (w1x2 : Int64) (w1x4 : Int32), (0 ≤ w1x4.toInt ∧ w1x4.toInt ≤ 8) → 8 - w1x4.toInt ≤ (m : Int) → zGo X l 3 0 0 319 5 [(0, .ref 336), (1, .int a), (2, .long w1x2), (4, .int w1x4)] [] M Q := by
    intro m
    induction m using Nat.strongRecOn with
    | ind w1m w1ih =>
      intro w1x2 w1x4 w1b4 w1q
      have w1g2 := zrg64 w1x2
      refine zs_iload (pc := 5) t319_5 rfl ?_
      refine zs_aload_n (pc := 7) t319_7 rfl ?_
      refine zs_get (pc := 8) t319_8 (by decide) (zk1 (hs.k fk_zMm_336)) (hs.p rfl fv_zMm_336_0) ?_
      refine zs_iconst (pc := 11) t319_11 (v := 0) (by decide) ?_
      have w2 := ibA0 hI
      refine zs_iald (pc := 12) t319_12 (j := 0) (by decide) (zk1 (hs.k fk_zMm_337)) li0 (zk2 (hs.k fk_zMm_337) (by decide)) rfl ?_
      by_cases w3 : (zI M 337 0).toInt ≤ w1x4.toInt
      · refine zs_icmp_geT (pc := 13) t319_13 rfl rfl (by omega) ?_
        refine zs_lload_n (pc := 112) t319_112 rfl ?_
        refine zs_aload_n (pc := 113) t319_113 rfl ?_
        refine zs_get (pc := 114) t319_114 (by decide) (zk1 (hs.k fk_zMm_336)) (hs.p rfl fv_zMm_336_29) ?_
        refine zs_iload_n (pc := 117) t319_117 rfl ?_
        obtain ⟨w4n, w4⟩ : ∃ n : Nat, a.toInt = (n : Int) := ⟨(a.toInt).toNat, by omega⟩
        have w5 := zrg64 (zJ M 351 w4n)
        have w6 := ib336_22 hI
        have w7 : (zI M 336 22).toInt = (zI M 336 22).toInt := (congrArg Int32.toInt rfl).trans rfl
        have w8 : 0 < (zJ M 351 w4n).toInt := pD w4n (by omega)
        refine zs_lald (pc := 118) t319_118 (j := w4n) (zk1 (hs.k fk_zMm_351)) (show a.toInt = ((w4n : Nat) : Int) by omega) (zk2 (hs.k fk_zMm_351) (by omega)) rfl ?_
        obtain ⟨w9v, w9⟩ : ∃ v, w1x2 / (zJ M 351 w4n) = v := ⟨_, rfl⟩
        have w9g := zrg64 w9v
        refine zs_ldiv (pc := 119) t319_119 (znz64 rfl (by omega)) (c := w9v) w9 ?_
        obtain ⟨w10v, w10⟩ : ∃ v, w9v.toInt32 = v := ⟨_, rfl⟩
        have w10g := zrg w10v
        refine zs_l2i (pc := 120) t319_120 (c := w10v) w10 ?_
        exact zs_iret (pc := 121) t319_121 mr319 rfl (hQ _)
      · refine zs_icmp_geF (pc := 13) t319_13 rfl rfl (by omega) ?_
        refine zs_aload_n (pc := 16) t319_16 rfl ?_
        refine zs_get (pc := 17) t319_17 (by decide) (zk1 (hs.k fk_zMm_336)) (hs.p rfl fv_zMm_336_27) ?_
        refine zs_bipush (pc := 20) t319_20 (v := 8) (by decide) ?_
        refine zs_iload_n (pc := 22) t319_22 rfl ?_
        obtain ⟨w11v, w11⟩ : ∃ v, (8 : Int32) * a = v := ⟨_, rfl⟩
        have w11g : w11v.toInt = 8 * a.toInt := by rw [← w11]; exact zmulc li8 rfl (by omega) (by omega)
        refine zs_imul (pc := 23) t319_23 (c := w11v) w11 ?_
        refine zs_iload (pc := 24) t319_24 rfl ?_
        obtain ⟨w12v, w12e, w12⟩ := ziadd (a := w11v) (b := w1x4) w11g rfl (by omega) (by omega)
        refine zs_iadd (pc := 26) t319_26 (c := w12v) w12e ?_
        obtain ⟨w13n, w13⟩ : ∃ n : Nat, a.toInt = (n : Int) := ⟨(a.toInt).toNat, by omega⟩
        obtain ⟨w14n, w14⟩ : ∃ n : Nat, w1x4.toInt = (n : Int) := ⟨(w1x4.toInt).toNat, by omega⟩
        have w15 := ib349 hI (8 * w13n + w14n)
        refine zs_iald (pc := 27) t319_27 (j := (8 * w13n + w14n)) (by decide) (zk1 (hs.k fk_zMm_349)) (show w12v.toInt = (((8 * w13n + w14n) : Nat) : Int) by omega) (zk2 (hs.k fk_zMm_349) (by omega)) rfl ?_
        refine zs_bipush (pc := 28) t319_28 (v := -2) (by decide) ?_
        by_cases w16 : (zI M 349 (8 * w13n + w14n)).toInt ≠ (-2)
        · refine zs_icmp_neT (pc := 30) t319_30 rfl lin2 (by omega) ?_
          refine zs_aload_n (pc := 36) t319_36 rfl ?_
          refine zs_iload_n (pc := 37) t319_37 rfl ?_
          refine zs_iload (pc := 38) t319_38 rfl ?_
          refine zs_invV (pc := 40) (k := 336) (as' := [.int a, .int w1x4]) (st := []) t319_40 mf283 rfl rfl (Or.inl ⟨by decide, (zk1 (hs.k fk_zMm_336))⟩) ⟨by decide, by decide, Nat.le_of_ble_eq_true rfl, Nat.le_of_ble_eq_true rfl⟩ (K283 hs hI ⟨by omega, by omega⟩ ⟨by omega, by omega⟩ ?_) (fun _ _ q => q)
          intro w17v
          have w17g := zrg w17v
          show zGo X l 3 0 0 319 43 [(0, .ref 336), (1, .int a), (2, .long w1x2), (4, .int w1x4)] [.int w17v] M _
          refine zs_i2l (pc := 43) t319_43 rfl ?_
          refine zs_aload_n (pc := 44) t319_44 rfl ?_
          refine zs_get (pc := 45) t319_45 (by decide) (zk1 (hs.k fk_zMm_336)) (hs.p rfl fv_zMm_336_29) ?_
          refine zs_iload_n (pc := 48) t319_48 rfl ?_
          have w18 := zrg64 (zJ M 351 w13n)
          have w19 := ib336_22 hI
          have w20 : (zI M 336 22).toInt = (zI M 336 22).toInt := (congrArg Int32.toInt rfl).trans rfl
          have w21 : 0 < (zJ M 351 w13n).toInt := pD w13n (by omega)
          refine zs_lald (pc := 49) t319_49 (j := w13n) (zk1 (hs.k fk_zMm_351)) (show a.toInt = ((w13n : Nat) : Int) by omega) (zk2 (hs.k fk_zMm_351) (by omega)) rfl ?_
          obtain ⟨w22v, w22⟩ : ∃ v, w17v.toInt64 * (zJ M 351 w13n) = v := ⟨_, rfl⟩
          have w22g := zrg64 w22v
          refine zs_lmul (pc := 50) t319_50 (c := w22v) w22 ?_
          refine zs_aload_n (pc := 51) t319_51 rfl ?_
          refine zs_get (pc := 52) t319_52 (by decide) (zk1 (hs.k fk_zMm_336)) (hs.p rfl fv_zMm_336_30) ?_
          refine zs_iload_n (pc := 55) t319_55 rfl ?_
          have w23 := zrg64 (zJ M 352 w13n)
          refine zs_lald (pc := 56) t319_56 (j := w13n) (zk1 (hs.k fk_zMm_352)) (show a.toInt = ((w13n : Nat) : Int) by omega) (zk2 (hs.k fk_zMm_352) (by omega)) rfl ?_
          obtain ⟨w24v, w24⟩ : ∃ v, w22v - (zJ M 352 w13n) = v := ⟨_, rfl⟩
          have w24g := zrg64 w24v
          refine zs_lsub (pc := 57) t319_57 (c := w24v) w24 ?_
          refine zs_aload_n (pc := 58) t319_58 rfl ?_
          refine zs_get (pc := 59) t319_59 (by decide) (zk1 (hs.k fk_zMm_336)) (hs.p rfl fv_zMm_336_31) ?_
          refine zs_iload_n (pc := 62) t319_62 rfl ?_
          have w25 := zrg64 (zJ M 353 w13n)
          refine zs_lald (pc := 63) t319_63 (j := w13n) (zk1 (hs.k fk_zMm_353)) (show a.toInt = ((w13n : Nat) : Int) by omega) (zk2 (hs.k fk_zMm_353) (by omega)) rfl ?_
          refine zs_aload_n (pc := 64) t319_64 rfl ?_
          refine zs_iload (pc := 65) t319_65 rfl ?_
          refine zs_invV (pc := 67) (k := 336) (as' := [.int w1x4]) (st := [.long (zJ M 353 w13n), .long w24v]) t319_67 mf241 rfl rfl (Or.inl ⟨by decide, (zk1 (hs.k fk_zMm_336))⟩) ⟨by decide, by decide, Nat.le_of_ble_eq_true rfl, Nat.le_of_ble_eq_true rfl⟩ (zs_in (by decide) mf241 (Nat.le_of_ble_eq_true rfl) ?_) (fun _ _ q => q)
          show zGo X l 0 0 0 241 0 [(0, .ref 336), (1, .int w1x4)] [] M _
          refine zs_aload_n (pc := 0) t241_0 rfl ?_
          refine zs_get (pc := 1) t241_1 (by decide) (zk1 (hs.k fk_zMm_336)) (hs.p rfl fv_zMm_336_0) ?_
          refine zs_bipush (pc := 4) t241_4 (v := 14) (by decide) ?_
          refine zs_iconst (pc := 6) t241_6 (v := 2) (by decide) ?_
          refine zs_iload_n (pc := 7) t241_7 rfl ?_
          obtain ⟨w26v, w26⟩ : ∃ v, (2 : Int32) * w1x4 = v := ⟨_, rfl⟩
          have w26g : w26v.toInt = 2 * w1x4.toInt := by rw [← w26]; exact zmulc li2 rfl (by omega) (by omega)
          refine zs_imul (pc := 8) t241_8 (c := w26v) w26 ?_
          obtain ⟨w27v, w27e, w27⟩ := ziadd (a := (14 : Int32)) (b := w26v) li14 w26g (by omega) (by omega)
          refine zs_iadd (pc := 9) t241_9 (c := w27v) w27e ?_
          have w28 := ibX (j := (14 + 2 * w14n)) hI (by omega) (by omega) (by omega)
          refine zs_iald (pc := 10) t241_10 (j := (14 + 2 * w14n)) (by decide) (zk1 (hs.k fk_zMm_337)) (show w27v.toInt = (((14 + 2 * w14n) : Nat) : Int) by omega) (zk2 (hs.k fk_zMm_337) (by omega)) rfl ?_
          refine zs_iret (pc := 11) t241_11 mr241 rfl ?_
          show zGo X l 3 0 0 319 70 [(0, .ref 336), (1, .int a), (2, .long w1x2), (4, .int w1x4)] [.int (zI M 337 (14 + 2 * w14n)), .long (zJ M 353 w13n), .long w24v] M _
          refine zs_i2l (pc := 70) t319_70 rfl ?_
          obtain ⟨w29v, w29⟩ : ∃ v, (zJ M 353 w13n) * (zI M 337 (14 + 2 * w14n)).toInt64 = v := ⟨_, rfl⟩
          have w29g := zrg64 w29v
          refine zs_lmul (pc := 71) t319_71 (c := w29v) w29 ?_
          obtain ⟨w30v, w30⟩ : ∃ v, w24v - w29v = v := ⟨_, rfl⟩
          have w30g := zrg64 w30v
          refine zs_lsub (pc := 72) t319_72 (c := w30v) w30 ?_
          refine zs_lstore (pc := 73) t319_73 (ls' := [(5, .long w30v), (0, .ref 336), (1, .int a), (2, .long w1x2), (4, .int w1x4)]) (zml mf319 (by decide)) rfl ?_
          refine zs_lload (pc := 75) t319_75 rfl ?_
          refine zs_lconst (pc := 77) t319_77 (v := 0) (by decide) ?_
          by_cases w31 : w30v.toInt < 0
          · refine zs_lcmp (pc := 78) t319_78 (c := -1) (zlcL rfl ll0 (by omega)) ?_
            refine zs_if_geF (pc := 79) t319_79 lin1 (by decide) ?_
            refine zs_lload (pc := 82) t319_82 rfl ?_
            obtain ⟨w32v, w32⟩ : ∃ v, -w30v = v := ⟨_, rfl⟩
            have w32g := zrg64 w32v
            refine zs_lneg (pc := 84) t319_84 (c := w32v) w32 ?_
            refine zs_goto (pc := 85) t319_85 ?_
            refine zs_lstore (pc := 90) t319_90 (ls' := [(5, .long w32v), (0, .ref 336), (1, .int a), (2, .long w1x2), (4, .int w1x4)]) (zml mf319 (by decide)) rfl ?_
            refine zs_lload (pc := 92) t319_92 rfl ?_
            refine zs_lload_n (pc := 94) t319_94 rfl ?_
            by_cases w33 : w32v.toInt < w1x2.toInt
            · refine zs_lcmp (pc := 95) t319_95 (c := -1) (zlcL rfl rfl (by omega)) ?_
              refine zs_if_leT (pc := 96) t319_96 lin1 (by decide) ?_
              refine zs_lload_n (pc := 104) t319_104 rfl ?_
              refine zs_lstore_n (pc := 105) t319_105 (ls' := [(2, .long w1x2), (5, .long w32v), (0, .ref 336), (1, .int a), (4, .int w1x4)]) (zml mf319 (by decide)) rfl ?_
              obtain ⟨w34v, w34e, w34⟩ := ziadd (a := w1x4) (b := Int32.ofInt 1) rfl (show (Int32.ofInt 1).toInt = 1 by decide) (by omega) (by omega)
              refine zs_iinc (pc := 106) t319_106 (ls' := [(4, .int w34v), (2, .long w1x2), (5, .long w32v), (0, .ref 336), (1, .int a)]) (zml mf319 (by decide)) rfl (c := w34v) w34e rfl ?_
              refine zs_goto (pc := 109) t319_109 ?_
              refine zGo.locals (ls' := [(0, .ref 336), (1, .int a), (2, .long w1x2), (4, .int w34v)]) (by simp) ?_
              have w35 := w34
              exact w1ih (w1m - 1) (by omega) w1x2 w34v ⟨by omega, by omega⟩ (by omega)
            by_cases w36 : w32v.toInt = w1x2.toInt
            · refine zs_lcmp (pc := 95) t319_95 (c := 0) (zlcE rfl rfl (by omega)) ?_
              refine zs_if_leT (pc := 96) t319_96 li0 (by decide) ?_
              refine zs_lload_n (pc := 104) t319_104 rfl ?_
              refine zs_lstore_n (pc := 105) t319_105 (ls' := [(2, .long w1x2), (5, .long w32v), (0, .ref 336), (1, .int a), (4, .int w1x4)]) (zml mf319 (by decide)) rfl ?_
              obtain ⟨w37v, w37e, w37⟩ := ziadd (a := w1x4) (b := Int32.ofInt 1) rfl (show (Int32.ofInt 1).toInt = 1 by decide) (by omega) (by omega)
              refine zs_iinc (pc := 106) t319_106 (ls' := [(4, .int w37v), (2, .long w1x2), (5, .long w32v), (0, .ref 336), (1, .int a)]) (zml mf319 (by decide)) rfl (c := w37v) w37e rfl ?_
              refine zs_goto (pc := 109) t319_109 ?_
              refine zGo.locals (ls' := [(0, .ref 336), (1, .int a), (2, .long w1x2), (4, .int w37v)]) (by simp) ?_
              have w38 := w37
              exact w1ih (w1m - 1) (by omega) w1x2 w37v ⟨by omega, by omega⟩ (by omega)
            refine zs_lcmp (pc := 95) t319_95 (c := 1) (zlcG rfl rfl (by omega)) ?_
            refine zs_if_leF (pc := 96) t319_96 li1 (by decide) ?_
            refine zs_lload (pc := 99) t319_99 rfl ?_
            refine zs_goto (pc := 101) t319_101 ?_
            refine zs_lstore_n (pc := 105) t319_105 (ls' := [(2, .long w32v), (5, .long w32v), (0, .ref 336), (1, .int a), (4, .int w1x4)]) (zml mf319 (by decide)) rfl ?_
            obtain ⟨w40v, w40e, w40⟩ := ziadd (a := w1x4) (b := Int32.ofInt 1) rfl (show (Int32.ofInt 1).toInt = 1 by decide) (by omega) (by omega)
            refine zs_iinc (pc := 106) t319_106 (ls' := [(4, .int w40v), (2, .long w32v), (5, .long w32v), (0, .ref 336), (1, .int a)]) (zml mf319 (by decide)) rfl (c := w40v) w40e rfl ?_
            refine zs_goto (pc := 109) t319_109 ?_
            refine zGo.locals (ls' := [(0, .ref 336), (1, .int a), (2, .long w32v), (4, .int w40v)]) (by simp) ?_
            have w41 := w40
            exact w1ih (w1m - 1) (by omega) w32v w40v ⟨by omega, by omega⟩ (by omega)
          by_cases w42 : w30v.toInt = 0
          · refine zs_lcmp (pc := 78) t319_78 (c := 0) (zlcE rfl ll0 (by omega)) ?_
            refine zs_if_geT (pc := 79) t319_79 li0 (by decide) ?_
            refine zs_lload (pc := 88) t319_88 rfl ?_
            refine zs_lstore (pc := 90) t319_90 (ls' := [(5, .long w30v), (0, .ref 336), (1, .int a), (2, .long w1x2), (4, .int w1x4)]) (zml mf319 (by decide)) rfl ?_
            refine zs_lload (pc := 92) t319_92 rfl ?_
            refine zs_lload_n (pc := 94) t319_94 rfl ?_
            by_cases w43 : w30v.toInt < w1x2.toInt
            · refine zs_lcmp (pc := 95) t319_95 (c := -1) (zlcL rfl rfl (by omega)) ?_
              refine zs_if_leT (pc := 96) t319_96 lin1 (by decide) ?_
              refine zs_lload_n (pc := 104) t319_104 rfl ?_
              refine zs_lstore_n (pc := 105) t319_105 (ls' := [(2, .long w1x2), (5, .long w30v), (0, .ref 336), (1, .int a), (4, .int w1x4)]) (zml mf319 (by decide)) rfl ?_
              obtain ⟨w44v, w44e, w44⟩ := ziadd (a := w1x4) (b := Int32.ofInt 1) rfl (show (Int32.ofInt 1).toInt = 1 by decide) (by omega) (by omega)
              refine zs_iinc (pc := 106) t319_106 (ls' := [(4, .int w44v), (2, .long w1x2), (5, .long w30v), (0, .ref 336), (1, .int a)]) (zml mf319 (by decide)) rfl (c := w44v) w44e rfl ?_
              refine zs_goto (pc := 109) t319_109 ?_
              refine zGo.locals (ls' := [(0, .ref 336), (1, .int a), (2, .long w1x2), (4, .int w44v)]) (by simp) ?_
              have w45 := w44
              exact w1ih (w1m - 1) (by omega) w1x2 w44v ⟨by omega, by omega⟩ (by omega)
            by_cases w46 : w30v.toInt = w1x2.toInt
            · refine zs_lcmp (pc := 95) t319_95 (c := 0) (zlcE rfl rfl (by omega)) ?_
              refine zs_if_leT (pc := 96) t319_96 li0 (by decide) ?_
              refine zs_lload_n (pc := 104) t319_104 rfl ?_
              refine zs_lstore_n (pc := 105) t319_105 (ls' := [(2, .long w1x2), (5, .long w30v), (0, .ref 336), (1, .int a), (4, .int w1x4)]) (zml mf319 (by decide)) rfl ?_
              obtain ⟨w47v, w47e, w47⟩ := ziadd (a := w1x4) (b := Int32.ofInt 1) rfl (show (Int32.ofInt 1).toInt = 1 by decide) (by omega) (by omega)
              refine zs_iinc (pc := 106) t319_106 (ls' := [(4, .int w47v), (2, .long w1x2), (5, .long w30v), (0, .ref 336), (1, .int a)]) (zml mf319 (by decide)) rfl (c := w47v) w47e rfl ?_
              refine zs_goto (pc := 109) t319_109 ?_
              refine zGo.locals (ls' := [(0, .ref 336), (1, .int a), (2, .long w1x2), (4, .int w47v)]) (by simp) ?_
              have w48 := w47
              exact w1ih (w1m - 1) (by omega) w1x2 w47v ⟨by omega, by omega⟩ (by omega)
            refine zs_lcmp (pc := 95) t319_95 (c := 1) (zlcG rfl rfl (by omega)) ?_
            refine zs_if_leF (pc := 96) t319_96 li1 (by decide) ?_
            refine zs_lload (pc := 99) t319_99 rfl ?_
            refine zs_goto (pc := 101) t319_101 ?_
            refine zs_lstore_n (pc := 105) t319_105 (ls' := [(2, .long w30v), (5, .long w30v), (0, .ref 336), (1, .int a), (4, .int w1x4)]) (zml mf319 (by decide)) rfl ?_
            obtain ⟨w50v, w50e, w50⟩ := ziadd (a := w1x4) (b := Int32.ofInt 1) rfl (show (Int32.ofInt 1).toInt = 1 by decide) (by omega) (by omega)
            refine zs_iinc (pc := 106) t319_106 (ls' := [(4, .int w50v), (2, .long w30v), (5, .long w30v), (0, .ref 336), (1, .int a)]) (zml mf319 (by decide)) rfl (c := w50v) w50e rfl ?_
            refine zs_goto (pc := 109) t319_109 ?_
            refine zGo.locals (ls' := [(0, .ref 336), (1, .int a), (2, .long w30v), (4, .int w50v)]) (by simp) ?_
            have w51 := w50
            exact w1ih (w1m - 1) (by omega) w30v w50v ⟨by omega, by omega⟩ (by omega)
          refine zs_lcmp (pc := 78) t319_78 (c := 1) (zlcG rfl ll0 (by omega)) ?_
          refine zs_if_geT (pc := 79) t319_79 li1 (by decide) ?_
          refine zs_lload (pc := 88) t319_88 rfl ?_
          refine zs_lstore (pc := 90) t319_90 (ls' := [(5, .long w30v), (0, .ref 336), (1, .int a), (2, .long w1x2), (4, .int w1x4)]) (zml mf319 (by decide)) rfl ?_
          refine zs_lload (pc := 92) t319_92 rfl ?_
          refine zs_lload_n (pc := 94) t319_94 rfl ?_
          by_cases w53 : w30v.toInt < w1x2.toInt
          · refine zs_lcmp (pc := 95) t319_95 (c := -1) (zlcL rfl rfl (by omega)) ?_
            refine zs_if_leT (pc := 96) t319_96 lin1 (by decide) ?_
            refine zs_lload_n (pc := 104) t319_104 rfl ?_
            refine zs_lstore_n (pc := 105) t319_105 (ls' := [(2, .long w1x2), (5, .long w30v), (0, .ref 336), (1, .int a), (4, .int w1x4)]) (zml mf319 (by decide)) rfl ?_
            obtain ⟨w54v, w54e, w54⟩ := ziadd (a := w1x4) (b := Int32.ofInt 1) rfl (show (Int32.ofInt 1).toInt = 1 by decide) (by omega) (by omega)
            refine zs_iinc (pc := 106) t319_106 (ls' := [(4, .int w54v), (2, .long w1x2), (5, .long w30v), (0, .ref 336), (1, .int a)]) (zml mf319 (by decide)) rfl (c := w54v) w54e rfl ?_
            refine zs_goto (pc := 109) t319_109 ?_
            refine zGo.locals (ls' := [(0, .ref 336), (1, .int a), (2, .long w1x2), (4, .int w54v)]) (by simp) ?_
            have w55 := w54
            exact w1ih (w1m - 1) (by omega) w1x2 w54v ⟨by omega, by omega⟩ (by omega)
          by_cases w56 : w30v.toInt = w1x2.toInt
          · refine zs_lcmp (pc := 95) t319_95 (c := 0) (zlcE rfl rfl (by omega)) ?_
            refine zs_if_leT (pc := 96) t319_96 li0 (by decide) ?_
            refine zs_lload_n (pc := 104) t319_104 rfl ?_
            refine zs_lstore_n (pc := 105) t319_105 (ls' := [(2, .long w1x2), (5, .long w30v), (0, .ref 336), (1, .int a), (4, .int w1x4)]) (zml mf319 (by decide)) rfl ?_
            obtain ⟨w57v, w57e, w57⟩ := ziadd (a := w1x4) (b := Int32.ofInt 1) rfl (show (Int32.ofInt 1).toInt = 1 by decide) (by omega) (by omega)
            refine zs_iinc (pc := 106) t319_106 (ls' := [(4, .int w57v), (2, .long w1x2), (5, .long w30v), (0, .ref 336), (1, .int a)]) (zml mf319 (by decide)) rfl (c := w57v) w57e rfl ?_
            refine zs_goto (pc := 109) t319_109 ?_
            refine zGo.locals (ls' := [(0, .ref 336), (1, .int a), (2, .long w1x2), (4, .int w57v)]) (by simp) ?_
            have w58 := w57
            exact w1ih (w1m - 1) (by omega) w1x2 w57v ⟨by omega, by omega⟩ (by omega)
          refine zs_lcmp (pc := 95) t319_95 (c := 1) (zlcG rfl rfl (by omega)) ?_
          refine zs_if_leF (pc := 96) t319_96 li1 (by decide) ?_
          refine zs_lload (pc := 99) t319_99 rfl ?_
          refine zs_goto (pc := 101) t319_101 ?_
          refine zs_lstore_n (pc := 105) t319_105 (ls' := [(2, .long w30v), (5, .long w30v), (0, .ref 336), (1, .int a), (4, .int w1x4)]) (zml mf319 (by decide)) rfl ?_
          obtain ⟨w60v, w60e, w60⟩ := ziadd (a := w1x4) (b := Int32.ofInt 1) rfl (show (Int32.ofInt 1).toInt = 1 by decide) (by omega) (by omega)
          refine zs_iinc (pc := 106) t319_106 (ls' := [(4, .int w60v), (2, .long w30v), (5, .long w30v), (0, .ref 336), (1, .int a)]) (zml mf319 (by decide)) rfl (c := w60v) w60e rfl ?_
          refine zs_goto (pc := 109) t319_109 ?_
          refine zGo.locals (ls' := [(0, .ref 336), (1, .int a), (2, .long w30v), (4, .int w60v)]) (by simp) ?_
          have w61 := w60
          exact w1ih (w1m - 1) (by omega) w30v w60v ⟨by omega, by omega⟩ (by omega)
        · refine zs_icmp_neF (pc := 30) t319_30 rfl lin2 (by omega) ?_
          refine zs_goto (pc := 33) t319_33 ?_
          obtain ⟨w62v, w62e, w62⟩ := ziadd (a := w1x4) (b := Int32.ofInt 1) rfl (show (Int32.ofInt 1).toInt = 1 by decide) (by omega) (by omega)
          refine zs_iinc (pc := 106) t319_106 (ls' := [(4, .int w62v), (0, .ref 336), (1, .int a), (2, .long w1x2)]) (zml mf319 (by decide)) rfl (c := w62v) w62e rfl ?_
          refine zs_goto (pc := 109) t319_109 ?_
          refine zGo.locals (ls' := [(0, .ref 336), (1, .int a), (2, .long w1x2), (4, .int w62v)]) (by simp) ?_
          have w63 := w62
          exact w1ih (w1m - 1) (by omega) w1x2 w62v ⟨by omega, by omega⟩ (by omega)
  refine zGo.locals (ls' := [(0, .ref 336), (1, .int a), (2, .long (0 : Int64)), (4, .int (0 : Int32))]) (by simp) ?_
  have w64 := ll0
  have w65 := li0
  exact w1L ((8 - 0 : Int).toNat) (0 : Int64) (0 : Int32) ⟨by decide, by decide⟩ (by omega)
