theorem K320 {X : zX} {l : Launch} {M : zM} {Q : Option Value → zM → Prop} {a b : Int32} (hs : zSk zMm M) (hI : zIv mLo mHi M) (ha : 0 ≤ a.toInt ∧ a.toInt ≤ 19) (hb : 0 ≤ b.toInt ∧ b.toInt ≤ 1) (hQ : ∀ v : Int32, Q (some (.int v)) M) : zCall X l 2 0 0 320 [.ref 336, .int a, .int b] M Q := by
  have ga := zrg a
  have gb := zrg b
  refine zs_in (by decide) mf320 (Nat.le_of_ble_eq_true rfl) ?_
  show zGo X l 2 0 0 320 0 [(0, .ref 336), (1, .int a), (2, .int b)] [] M _
  refine zs_bipush (pc := 0) t320_0 (v := -2) (by decide) ?_
  refine zs_istore_n (pc := 2) t320_2 (ls' := [(3, .int (-2 : Int32)), (0, .ref 336), (1, .int a), (2, .int b)]) (zml mf320 (by decide)) rfl ?_
  refine zs_iconst (pc := 3) t320_3 (v := 0) (by decide) ?_
  refine zs_istore (pc := 4) t320_4 (ls' := [(4, .int (0 : Int32)), (3, .int (-2 : Int32)), (0, .ref 336), (1, .int a), (2, .int b)]) (zml mf320 (by decide)) rfl ?_
  refine zs_iconst (pc := 6) t320_6 (v := 0) (by decide) ?_
  refine zs_istore (pc := 7) t320_7 (ls' := [(5, .int (0 : Int32)), (4, .int (0 : Int32)), (3, .int (-2 : Int32)), (0, .ref 336), (1, .int a), (2, .int b)]) (zml mf320 (by decide)) rfl ?_
  have w1L : ∀ (m : Nat) (w1x3 : Int32) (w1x4 : Int32) (w1x5 : Int32), (0 ≤ w1x5.toInt ∧ w1x5.toInt ≤ 12) → 12 - w1x5.toInt ≤ (m : Int) → zGo X l 2 0 0 320 9 [(0, .ref 336), (1, .int a), (2, .int b), (3, .int w1x3), (4, .int w1x4), (5, .int w1x5)] [] M Q := by
    intro m
    induction m using Nat.strongRecOn with
    | ind w1m w1ih =>
      intro w1x3 w1x4 w1x5 w1b5 w1q
      have w1g3 := zrg w1x3
      have w1g4 := zrg w1x4
      refine zs_iload (pc := 9) t320_9 rfl ?_
      refine zs_aload_n (pc := 11) t320_11 rfl ?_
      refine zs_get (pc := 12) t320_12 (by decide) (zk1 (hs.k fk_zMm_336)) (hs.p rfl fv_zMm_336_0) ?_
      refine zs_iconst (pc := 15) t320_15 (v := 2) (by decide) ?_
      have w2 := ibA2 hI
      refine zs_iald (pc := 16) t320_16 (j := 2) (by decide) (zk1 (hs.k fk_zMm_337)) li2 (zk2 (hs.k fk_zMm_337) (by decide)) rfl ?_
      by_cases w3 : (zI M 337 2).toInt ≤ w1x5.toInt
      · refine zs_icmp_geT (pc := 17) t320_17 rfl rfl (by omega) ?_
        refine zs_iload_n (pc := 53) t320_53 rfl ?_
        by_cases w4 : b.toInt = 0
        · refine zs_if_eqT (pc := 54) t320_54 rfl (by omega) ?_
          refine zs_iload (pc := 61) t320_61 rfl ?_
          exact zs_iret (pc := 63) t320_63 mr320 rfl (hQ _)
        · refine zs_if_eqF (pc := 54) t320_54 rfl (by omega) ?_
          refine zs_iload_n (pc := 57) t320_57 rfl ?_
          refine zs_goto (pc := 58) t320_58 ?_
          exact zs_iret (pc := 63) t320_63 mr320 rfl (hQ _)
      · refine zs_icmp_geF (pc := 17) t320_17 rfl rfl (by omega) ?_
        refine zs_aload_n (pc := 20) t320_20 rfl ?_
        refine zs_iload_n (pc := 21) t320_21 rfl ?_
        refine zs_iload (pc := 22) t320_22 rfl ?_
        refine zs_invV (pc := 24) (k := 336) (as' := [.int a, .int w1x5]) (st := []) t320_24 mf313 rfl rfl (Or.inl ⟨by decide, (zk1 (hs.k fk_zMm_336))⟩) ⟨by decide, by decide, Nat.le_of_ble_eq_true rfl, Nat.le_of_ble_eq_true rfl⟩ (K313 hs hI ⟨by omega, by omega⟩ ?_) (fun _ _ q => q)
        intro w5v
        have w5g := zrg w5v
        show zGo X l 2 0 0 320 27 [(0, .ref 336), (1, .int a), (2, .int b), (3, .int w1x3), (4, .int w1x4), (5, .int w1x5)] [.int w5v] M _
        refine zs_iload (pc := 27) t320_27 rfl ?_
        by_cases w6 : w1x4.toInt < w5v.toInt
        · refine zs_icmp_gtT (pc := 29) t320_29 rfl rfl (by omega) ?_
          refine zs_iload (pc := 35) t320_35 rfl ?_
          refine zs_istore_n (pc := 37) t320_37 (ls' := [(3, .int w1x5), (0, .ref 336), (1, .int a), (2, .int b), (4, .int w1x4), (5, .int w1x5)]) (zml mf320 (by decide)) rfl ?_
          refine zs_aload_n (pc := 38) t320_38 rfl ?_
          refine zs_iload_n (pc := 39) t320_39 rfl ?_
          refine zs_iload (pc := 40) t320_40 rfl ?_
          refine zs_invV (pc := 42) (k := 336) (as' := [.int a, .int w1x5]) (st := []) t320_42 mf313 rfl rfl (Or.inl ⟨by decide, (zk1 (hs.k fk_zMm_336))⟩) ⟨by decide, by decide, Nat.le_of_ble_eq_true rfl, Nat.le_of_ble_eq_true rfl⟩ (K313 hs hI ⟨by omega, by omega⟩ ?_) (fun _ _ q => q)
          intro w7v
          have w7g := zrg w7v
          show zGo X l 2 0 0 320 45 [(3, .int w1x5), (0, .ref 336), (1, .int a), (2, .int b), (4, .int w1x4), (5, .int w1x5)] [.int w7v] M _
          refine zs_istore (pc := 45) t320_45 (ls' := [(4, .int w7v), (3, .int w1x5), (0, .ref 336), (1, .int a), (2, .int b), (5, .int w1x5)]) (zml mf320 (by decide)) rfl ?_
          obtain ⟨w8v, w8e, w8⟩ := ziadd (a := w1x5) (b := Int32.ofInt 1) rfl (show (Int32.ofInt 1).toInt = 1 by decide) (by omega) (by omega)
          refine zs_iinc (pc := 47) t320_47 (ls' := [(5, .int w8v), (4, .int w7v), (3, .int w1x5), (0, .ref 336), (1, .int a), (2, .int b)]) (zml mf320 (by decide)) rfl (c := w8v) w8e rfl ?_
          refine zs_goto (pc := 50) t320_50 ?_
          refine zGo.locals (ls' := [(0, .ref 336), (1, .int a), (2, .int b), (3, .int w1x5), (4, .int w7v), (5, .int w8v)]) (by simp) ?_
          have w9 := w8
          exact w1ih (w1m - 1) (by omega) w1x5 w7v w8v ⟨by omega, by omega⟩ (by omega)
        · refine zs_icmp_gtF (pc := 29) t320_29 rfl rfl (by omega) ?_
          refine zs_goto (pc := 32) t320_32 ?_
          obtain ⟨w10v, w10e, w10⟩ := ziadd (a := w1x5) (b := Int32.ofInt 1) rfl (show (Int32.ofInt 1).toInt = 1 by decide) (by omega) (by omega)
          refine zs_iinc (pc := 47) t320_47 (ls' := [(5, .int w10v), (0, .ref 336), (1, .int a), (2, .int b), (3, .int w1x3), (4, .int w1x4)]) (zml mf320 (by decide)) rfl (c := w10v) w10e rfl ?_
          refine zs_goto (pc := 50) t320_50 ?_
          refine zGo.locals (ls' := [(0, .ref 336), (1, .int a), (2, .int b), (3, .int w1x3), (4, .int w1x4), (5, .int w10v)]) (by simp) ?_
          have w11 := w10
          exact w1ih (w1m - 1) (by omega) w1x3 w1x4 w10v ⟨by omega, by omega⟩ (by omega)
  refine zGo.locals (ls' := [(0, .ref 336), (1, .int a), (2, .int b), (3, .int (-2 : Int32)), (4, .int (0 : Int32)), (5, .int (0 : Int32))]) (by simp) ?_
  have w12 := lin2
  have w13 := li0
  have w14 := li0
  exact w1L ((12 - 0 : Int).toNat) (-2 : Int32) (0 : Int32) (0 : Int32) ⟨by decide, by decide⟩ (by omega)
theorem K329 {X : zX} {l : Launch} {M : zM} {Q : Option Value → zM → Prop} (hs : zSk zMm M) (hI : zIv mLo mHi M) (hQ : ∀ v : Int32, Q (some (.int v)) M) : zCall X l 4 0 0 329 [.ref 336] M Q := by
  refine zs_in (by decide) mf329 (Nat.le_of_ble_eq_true rfl) ?_
  show zGo X l 4 0 0 329 0 [(0, .ref 336)] [] M _
  refine zs_iconst (pc := 0) t329_0 (v := 0) (by decide) ?_
  refine zs_istore_n (pc := 1) t329_1 (ls' := [(1, .int (0 : Int32)), (0, .ref 336)]) (zml mf329 (by decide)) rfl ?_
  refine zs_iconst (pc := 2) t329_2 (v := 0) (by decide) ?_
  refine zs_istore_n (pc := 3) t329_3 (ls' := [(2, .int (0 : Int32)), (1, .int (0 : Int32)), (0, .ref 336)]) (zml mf329 (by decide)) rfl ?_
  have w1L : ∀ (m : Nat) (w1x1 : Int32) (w1x2 : Int32), (0 ≤ w1x2.toInt ∧ w1x2.toInt ≤ 12) → 12 - w1x2.toInt ≤ (m : Int) → zGo X l 4 0 0 329 4 [(0, .ref 336), (1, .int w1x1), (2, .int w1x2)] [] M Q := by
    intro m
    induction m using Nat.strongRecOn with
    | ind w1m w1ih =>
      intro w1x1 w1x2 w1b2 w1q
      have w1g1 := zrg w1x1
      refine zs_iload_n (pc := 4) t329_4 rfl ?_
      refine zs_aload_n (pc := 5) t329_5 rfl ?_
      refine zs_get (pc := 6) t329_6 (by decide) (zk1 (hs.k fk_zMm_336)) (hs.p rfl fv_zMm_336_0) ?_
      refine zs_iconst (pc := 9) t329_9 (v := 2) (by decide) ?_
      have w2 := ibA2 hI
      refine zs_iald (pc := 10) t329_10 (j := 2) (by decide) (zk1 (hs.k fk_zMm_337)) li2 (zk2 (hs.k fk_zMm_337) (by decide)) rfl ?_
      by_cases w3 : (zI M 337 2).toInt ≤ w1x2.toInt
      · refine zs_icmp_geT (pc := 11) t329_11 rfl rfl (by omega) ?_
        refine zs_iload_n (pc := 38) t329_38 rfl ?_
        exact zs_iret (pc := 39) t329_39 mr329 rfl (hQ _)
      · refine zs_icmp_geF (pc := 11) t329_11 rfl rfl (by omega) ?_
        refine zs_iload_n (pc := 14) t329_14 rfl ?_
        refine zs_aload_n (pc := 15) t329_15 rfl ?_
        refine zs_iload_n (pc := 16) t329_16 rfl ?_
        refine zs_invV (pc := 17) (k := 336) (as' := [.int w1x2]) (st := [.int w1x1]) t329_17 mf312 rfl rfl (Or.inl ⟨by decide, (zk1 (hs.k fk_zMm_336))⟩) ⟨by decide, by decide, Nat.le_of_ble_eq_true rfl, Nat.le_of_ble_eq_true rfl⟩ (K312 hs hI ?_) (fun _ _ q => q)
        intro w4v  w4a w4b
        show zGo X l 4 0 0 329 20 [(0, .ref 336), (1, .int w1x1), (2, .int w1x2)] [.int w4v, .int w1x1] M _
        refine zs_bipush (pc := 20) t329_20 (v := -2) (by decide) ?_
        by_cases w5 : w4v.toInt ≠ (-2)
        · refine zs_icmp_neT (pc := 22) t329_22 rfl lin2 (by omega) ?_
          refine zs_iconst (pc := 29) t329_29 (v := 1) (by decide) ?_
          obtain ⟨w6v, w6⟩ : ∃ v, v = w1x1 + (1 : Int32) := ⟨_, rfl⟩
          have w6g := zrg w6v
          refine zs_iadd (pc := 30) t329_30 (c := w6v) w6.symm ?_
          refine zs_istore_n (pc := 31) t329_31 (ls' := [(1, .int w6v), (0, .ref 336), (2, .int w1x2)]) (zml mf329 (by decide)) rfl ?_
          obtain ⟨w7v, w7e, w7⟩ := ziadd (a := w1x2) (b := Int32.ofInt 1) rfl (show (Int32.ofInt 1).toInt = 1 by decide) (by omega) (by omega)
          refine zs_iinc (pc := 32) t329_32 (ls' := [(2, .int w7v), (1, .int w6v), (0, .ref 336)]) (zml mf329 (by decide)) rfl (c := w7v) w7e rfl ?_
          refine zs_goto (pc := 35) t329_35 ?_
          refine zGo.locals (ls' := [(0, .ref 336), (1, .int w6v), (2, .int w7v)]) (by simp) ?_
          have w8 := w7
          exact w1ih (w1m - 1) (by omega) w6v w7v ⟨by omega, by omega⟩ (by omega)
        · refine zs_icmp_neF (pc := 22) t329_22 rfl lin2 (by omega) ?_
          refine zs_iconst (pc := 25) t329_25 (v := 0) (by decide) ?_
          refine zs_goto (pc := 26) t329_26 ?_
          obtain ⟨w9v, w9e, w9⟩ := ziadd (a := w1x1) (b := (0 : Int32)) rfl li0 (by omega) (by omega)
          refine zs_iadd (pc := 30) t329_30 (c := w9v) w9e ?_
          refine zs_istore_n (pc := 31) t329_31 (ls' := [(1, .int w9v), (0, .ref 336), (2, .int w1x2)]) (zml mf329 (by decide)) rfl ?_
          obtain ⟨w10v, w10e, w10⟩ := ziadd (a := w1x2) (b := Int32.ofInt 1) rfl (show (Int32.ofInt 1).toInt = 1 by decide) (by omega) (by omega)
          refine zs_iinc (pc := 32) t329_32 (ls' := [(2, .int w10v), (1, .int w9v), (0, .ref 336)]) (zml mf329 (by decide)) rfl (c := w10v) w10e rfl ?_
          refine zs_goto (pc := 35) t329_35 ?_
          refine zGo.locals (ls' := [(0, .ref 336), (1, .int w9v), (2, .int w10v)]) (by simp) ?_
          have w11 := w9
          have w12 := w10
          exact w1ih (w1m - 1) (by omega) w9v w10v ⟨by omega, by omega⟩ (by omega)
  refine zGo.locals (ls' := [(0, .ref 336), (1, .int (0 : Int32)), (2, .int (0 : Int32))]) (by simp) ?_
  have w13 := li0
  have w14 := li0
  exact w1L ((12 - 0 : Int).toNat) (0 : Int32) (0 : Int32) ⟨by decide, by decide⟩ (by omega)
theorem K330 {X : zX} {l : Launch} {M : zM} {Q : Option Value → zM → Prop} (hs : zSk zMm M) (hI : zIv mLo mHi M) (hQ : ∀ v : Int32, Q (some (.int v)) M) : zCall X l 4 0 0 330 [.ref 336] M Q := by
  refine zs_in (by decide) mf330 (Nat.le_of_ble_eq_true rfl) ?_
  show zGo X l 4 0 0 330 0 [(0, .ref 336)] [] M _
  refine zs_iconst (pc := 0) t330_0 (v := 0) (by decide) ?_
  refine zs_istore_n (pc := 1) t330_1 (ls' := [(1, .int (0 : Int32)), (0, .ref 336)]) (zml mf330 (by decide)) rfl ?_
  refine zs_iconst (pc := 2) t330_2 (v := 0) (by decide) ?_
  refine zs_istore_n (pc := 3) t330_3 (ls' := [(2, .int (0 : Int32)), (1, .int (0 : Int32)), (0, .ref 336)]) (zml mf330 (by decide)) rfl ?_
  have w1L : ∀ (m : Nat) (w1x1 : Int32) (w1x2 : Int32), (0 ≤ w1x2.toInt ∧ w1x2.toInt ≤ 12) → 12 - w1x2.toInt ≤ (m : Int) → zGo X l 4 0 0 330 4 [(0, .ref 336), (1, .int w1x1), (2, .int w1x2)] [] M Q := by
    intro m
    induction m using Nat.strongRecOn with
    | ind w1m w1ih =>
      intro w1x1 w1x2 w1b2 w1q
      have w1g1 := zrg w1x1
      refine zs_iload_n (pc := 4) t330_4 rfl ?_
      refine zs_aload_n (pc := 5) t330_5 rfl ?_
      refine zs_get (pc := 6) t330_6 (by decide) (zk1 (hs.k fk_zMm_336)) (hs.p rfl fv_zMm_336_0) ?_
      refine zs_iconst (pc := 9) t330_9 (v := 2) (by decide) ?_
      have w2 := ibA2 hI
      refine zs_iald (pc := 10) t330_10 (j := 2) (by decide) (zk1 (hs.k fk_zMm_337)) li2 (zk2 (hs.k fk_zMm_337) (by decide)) rfl ?_
      by_cases w3 : (zI M 337 2).toInt ≤ w1x2.toInt
      · refine zs_icmp_geT (pc := 11) t330_11 rfl rfl (by omega) ?_
        refine zs_iconst (pc := 44) t330_44 (v := 0) (by decide) ?_
        refine zs_istore_n (pc := 45) t330_45 (ls' := [(2, .int (0 : Int32)), (0, .ref 336), (1, .int w1x1)]) (zml mf330 (by decide)) rfl ?_
        refine zs_iconst (pc := 46) t330_46 (v := 0) (by decide) ?_
        refine zs_istore_n (pc := 47) t330_47 (ls' := [(3, .int (0 : Int32)), (2, .int (0 : Int32)), (0, .ref 336), (1, .int w1x1)]) (zml mf330 (by decide)) rfl ?_
        have w4L : ∀ (m : Nat) (w4x2 : Int32) (w4x3 : Int32), (0 ≤ w4x3.toInt ∧ w4x3.toInt ≤ 20) → 20 - w4x3.toInt ≤ (m : Int) → zGo X l 4 0 0 330 48 [(0, .ref 336), (1, .int w1x1), (2, .int w4x2), (3, .int w4x3)] [] M Q := by
          intro m
          induction m using Nat.strongRecOn with
          | ind w4m w4ih =>
            intro w4x2 w4x3 w4b3 w4q
            have w4g2 := zrg w4x2
            refine zs_iload_n (pc := 48) t330_48 rfl ?_
            refine zs_aload_n (pc := 49) t330_49 rfl ?_
            have w5 := ib336_22 hI
            refine zs_get (pc := 50) t330_50 (by decide) (zk1 (hs.k fk_zMm_336)) (zfvi rfl rfl) ?_
            by_cases w6 : (zI M 336 22).toInt ≤ w4x3.toInt
            · refine zs_icmp_geT (pc := 53) t330_53 rfl rfl (by omega) ?_
              refine zs_iload_n (pc := 72) t330_72 rfl ?_
              exact zs_iret (pc := 73) t330_73 mr330 rfl (hQ _)
            · refine zs_icmp_geF (pc := 53) t330_53 rfl rfl (by omega) ?_
              refine zs_iload_n (pc := 56) t330_56 rfl ?_
              refine zs_iconst (pc := 57) t330_57 (v := 1) (by decide) ?_
              refine zs_iload_n (pc := 58) t330_58 rfl ?_
              refine zs_iload_n (pc := 59) t330_59 rfl ?_
              obtain ⟨w7v, w7⟩ : ∃ v, w1x1 >>> (w4x3 &&& 31) = v := ⟨_, rfl⟩
              have w7g := zrg w7v
              refine zs_ishr (pc := 60) t330_60 (c := w7v) w7 ?_
              refine zs_iconst (pc := 61) t330_61 (v := 1) (by decide) ?_
              obtain ⟨w8v, w8⟩ : ∃ v, w7v &&& (1 : Int32) = v := ⟨_, rfl⟩
              have w8g : 0 ≤ w8v.toInt ∧ w8v.toInt ≤ 1 := by rw [← w8]; exact zand li1 (by decide)
              refine zs_iand (pc := 62) t330_62 (c := w8v) w8 ?_
              obtain ⟨w9v, w9e, w9⟩ := zisub (a := (1 : Int32)) (b := w8v) li1 rfl (by omega) (by omega)
              refine zs_isub (pc := 63) t330_63 (c := w9v) w9e ?_
              obtain ⟨w10v, w10⟩ : ∃ v, v = w4x2 + w9v := ⟨_, rfl⟩
              have w10g := zrg w10v
              refine zs_iadd (pc := 64) t330_64 (c := w10v) w10.symm ?_
              refine zs_istore_n (pc := 65) t330_65 (ls' := [(2, .int w10v), (0, .ref 336), (1, .int w1x1), (3, .int w4x3)]) (zml mf330 (by decide)) rfl ?_
              obtain ⟨w11v, w11e, w11⟩ := ziadd (a := w4x3) (b := Int32.ofInt 1) rfl (show (Int32.ofInt 1).toInt = 1 by decide) (by omega) (by omega)
              refine zs_iinc (pc := 66) t330_66 (ls' := [(3, .int w11v), (2, .int w10v), (0, .ref 336), (1, .int w1x1)]) (zml mf330 (by decide)) rfl (c := w11v) w11e rfl ?_
              refine zs_goto (pc := 69) t330_69 ?_
              refine zGo.locals (ls' := [(0, .ref 336), (1, .int w1x1), (2, .int w10v), (3, .int w11v)]) (by simp) ?_
              have w12 := w11
              exact w4ih (w4m - 1) (by omega) w10v w11v ⟨by omega, by omega⟩ (by omega)
        refine zGo.locals (ls' := [(0, .ref 336), (1, .int w1x1), (2, .int (0 : Int32)), (3, .int (0 : Int32))]) (by simp) ?_
        have w13 := li0
        have w14 := li0
        exact w4L ((20 - 0 : Int).toNat) (0 : Int32) (0 : Int32) ⟨by decide, by decide⟩ (by omega)
      · refine zs_icmp_geF (pc := 11) t330_11 rfl rfl (by omega) ?_
        refine zs_iload_n (pc := 14) t330_14 rfl ?_
        refine zs_aload_n (pc := 15) t330_15 rfl ?_
        refine zs_iload_n (pc := 16) t330_16 rfl ?_
        refine zs_invV (pc := 17) (k := 336) (as' := [.int w1x2]) (st := [.int w1x1]) t330_17 mf312 rfl rfl (Or.inl ⟨by decide, (zk1 (hs.k fk_zMm_336))⟩) ⟨by decide, by decide, Nat.le_of_ble_eq_true rfl, Nat.le_of_ble_eq_true rfl⟩ (K312 hs hI ?_) (fun _ _ q => q)
        intro w15v  w15a w15b
        show zGo X l 4 0 0 330 20 [(0, .ref 336), (1, .int w1x1), (2, .int w1x2)] [.int w15v, .int w1x1] M _
        refine zs_bipush (pc := 20) t330_20 (v := -2) (by decide) ?_
        by_cases w16 : w15v.toInt ≠ (-2)
        · refine zs_icmp_neT (pc := 22) t330_22 rfl lin2 (by omega) ?_
          refine zs_iconst (pc := 29) t330_29 (v := 1) (by decide) ?_
          refine zs_aload_n (pc := 30) t330_30 rfl ?_
          refine zs_iload_n (pc := 31) t330_31 rfl ?_
          refine zs_invV (pc := 32) (k := 336) (as' := [.int w1x2]) (st := [.int (1 : Int32), .int w1x1]) t330_32 mf312 rfl rfl (Or.inl ⟨by decide, (zk1 (hs.k fk_zMm_336))⟩) ⟨by decide, by decide, Nat.le_of_ble_eq_true rfl, Nat.le_of_ble_eq_true rfl⟩ (K312 hs hI ?_) (fun _ _ q => q)
          intro w17v  w17a w17b
          show zGo X l 4 0 0 330 35 [(0, .ref 336), (1, .int w1x1), (2, .int w1x2)] [.int w17v, .int (1 : Int32), .int w1x1] M _
          obtain ⟨w18v, w18⟩ : ∃ v, (1 : Int32) <<< (w17v &&& 31) = v := ⟨_, rfl⟩
          have w18g := zrg w18v
          refine zs_ishl (pc := 35) t330_35 (c := w18v) w18 ?_
          obtain ⟨w19v, w19⟩ : ∃ v, w1x1 ||| w18v = v := ⟨_, rfl⟩
          have w19g := zrg w19v
          refine zs_ior (pc := 36) t330_36 (c := w19v) w19 ?_
          refine zs_istore_n (pc := 37) t330_37 (ls' := [(1, .int w19v), (0, .ref 336), (2, .int w1x2)]) (zml mf330 (by decide)) rfl ?_
          obtain ⟨w20v, w20e, w20⟩ := ziadd (a := w1x2) (b := Int32.ofInt 1) rfl (show (Int32.ofInt 1).toInt = 1 by decide) (by omega) (by omega)
          refine zs_iinc (pc := 38) t330_38 (ls' := [(2, .int w20v), (1, .int w19v), (0, .ref 336)]) (zml mf330 (by decide)) rfl (c := w20v) w20e rfl ?_
          refine zs_goto (pc := 41) t330_41 ?_
          refine zGo.locals (ls' := [(0, .ref 336), (1, .int w19v), (2, .int w20v)]) (by simp) ?_
          have w21 := w20
          exact w1ih (w1m - 1) (by omega) w19v w20v ⟨by omega, by omega⟩ (by omega)
        · refine zs_icmp_neF (pc := 22) t330_22 rfl lin2 (by omega) ?_
          refine zs_iconst (pc := 25) t330_25 (v := 0) (by decide) ?_
          refine zs_goto (pc := 26) t330_26 ?_
          obtain ⟨w22v, w22⟩ : ∃ v, w1x1 ||| (0 : Int32) = v := ⟨_, rfl⟩
          have w22g := zrg w22v
          refine zs_ior (pc := 36) t330_36 (c := w22v) w22 ?_
          refine zs_istore_n (pc := 37) t330_37 (ls' := [(1, .int w22v), (0, .ref 336), (2, .int w1x2)]) (zml mf330 (by decide)) rfl ?_
          obtain ⟨w23v, w23e, w23⟩ := ziadd (a := w1x2) (b := Int32.ofInt 1) rfl (show (Int32.ofInt 1).toInt = 1 by decide) (by omega) (by omega)
          refine zs_iinc (pc := 38) t330_38 (ls' := [(2, .int w23v), (1, .int w22v), (0, .ref 336)]) (zml mf330 (by decide)) rfl (c := w23v) w23e rfl ?_
          refine zs_goto (pc := 41) t330_41 ?_
          refine zGo.locals (ls' := [(0, .ref 336), (1, .int w22v), (2, .int w23v)]) (by simp) ?_
          have w24 := w23
          exact w1ih (w1m - 1) (by omega) w22v w23v ⟨by omega, by omega⟩ (by omega)
  refine zGo.locals (ls' := [(0, .ref 336), (1, .int (0 : Int32)), (2, .int (0 : Int32))]) (by simp) ?_
  have w25 := li0
  have w26 := li0
  exact w1L ((12 - 0 : Int).toNat) (0 : Int32) (0 : Int32) ⟨by decide, by decide⟩ (by omega)
theorem K337 {X : zX} {l : Launch} {M : zM} {Q : Option Value → zM → Prop} {a b : Int32} (hs : zSk zMm M) (hI : zIv mLo mHi M) (pD : zPD M) (ha : 0 ≤ a.toInt ∧ a.toInt ≤ 19) (hb : 0 ≤ b.toInt ∧ b.toInt ≤ 7) (u0 : a.toInt < (zI M 336 22).toInt) (hQ : ∀ v : Int32, Q (some (.int v)) M) : zCall X l 2 0 0 337 [.ref 336, .int a, .int b] M Q := by
  have ga := zrg a
  have gb := zrg b
  refine zs_in (by decide) mf337 (Nat.le_of_ble_eq_true rfl) ?_
  show zGo X l 2 0 0 337 0 [(0, .ref 336), (1, .int a), (2, .int b)] [] M _
  refine zs_aload_n (pc := 0) t337_0 rfl ?_
  refine zs_get (pc := 1) t337_1 (by decide) (zk1 (hs.k fk_zMm_336)) (hs.p rfl fv_zMm_336_30) ?_
  refine zs_iload_n (pc := 4) t337_4 rfl ?_
  obtain ⟨w1n, w1⟩ : ∃ n : Nat, a.toInt = (n : Int) := ⟨(a.toInt).toNat, by omega⟩
  have w2 := zrg64 (zJ M 352 w1n)
  refine zs_lald (pc := 5) t337_5 (j := w1n) (zk1 (hs.k fk_zMm_352)) (show a.toInt = ((w1n : Nat) : Int) by omega) (zk2 (hs.k fk_zMm_352) (by omega)) rfl ?_
  refine zs_aload_n (pc := 6) t337_6 rfl ?_
  refine zs_get (pc := 7) t337_7 (by decide) (zk1 (hs.k fk_zMm_336)) (hs.p rfl fv_zMm_336_31) ?_
  refine zs_iload_n (pc := 10) t337_10 rfl ?_
  have w3 := zrg64 (zJ M 353 w1n)
  refine zs_lald (pc := 11) t337_11 (j := w1n) (zk1 (hs.k fk_zMm_353)) (show a.toInt = ((w1n : Nat) : Int) by omega) (zk2 (hs.k fk_zMm_353) (by omega)) rfl ?_
  refine zs_aload_n (pc := 12) t337_12 rfl ?_
  refine zs_iload_n (pc := 13) t337_13 rfl ?_
  refine zs_invV (pc := 14) (k := 336) (as' := [.int b]) (st := [.long (zJ M 353 w1n), .long (zJ M 352 w1n)]) t337_14 mf241 rfl rfl (Or.inl ⟨by decide, (zk1 (hs.k fk_zMm_336))⟩) ⟨by decide, by decide, Nat.le_of_ble_eq_true rfl, Nat.le_of_ble_eq_true rfl⟩ (zs_in (by decide) mf241 (Nat.le_of_ble_eq_true rfl) ?_) (fun _ _ q => q)
  show zGo X l 0 0 0 241 0 [(0, .ref 336), (1, .int b)] [] M _
  refine zs_aload_n (pc := 0) t241_0 rfl ?_
  refine zs_get (pc := 1) t241_1 (by decide) (zk1 (hs.k fk_zMm_336)) (hs.p rfl fv_zMm_336_0) ?_
  refine zs_bipush (pc := 4) t241_4 (v := 14) (by decide) ?_
  refine zs_iconst (pc := 6) t241_6 (v := 2) (by decide) ?_
  refine zs_iload_n (pc := 7) t241_7 rfl ?_
  obtain ⟨w4v, w4⟩ : ∃ v, (2 : Int32) * b = v := ⟨_, rfl⟩
  have w4g : w4v.toInt = 2 * b.toInt := by rw [← w4]; exact zmulc li2 rfl (by omega) (by omega)
  refine zs_imul (pc := 8) t241_8 (c := w4v) w4 ?_
  obtain ⟨w5v, w5e, w5⟩ := ziadd (a := (14 : Int32)) (b := w4v) li14 w4g (by omega) (by omega)
  refine zs_iadd (pc := 9) t241_9 (c := w5v) w5e ?_
  obtain ⟨w6n, w6⟩ : ∃ n : Nat, b.toInt = (n : Int) := ⟨(b.toInt).toNat, by omega⟩
  have w7 := ibX (j := (14 + 2 * w6n)) hI (by omega) (by omega) (by omega)
  refine zs_iald (pc := 10) t241_10 (j := (14 + 2 * w6n)) (by decide) (zk1 (hs.k fk_zMm_337)) (show w5v.toInt = (((14 + 2 * w6n) : Nat) : Int) by omega) (zk2 (hs.k fk_zMm_337) (by omega)) rfl ?_
  refine zs_iret (pc := 11) t241_11 mr241 rfl ?_
  show zGo X l 2 0 0 337 17 [(0, .ref 336), (1, .int a), (2, .int b)] [.int (zI M 337 (14 + 2 * w6n)), .long (zJ M 353 w1n), .long (zJ M 352 w1n)] M _
  refine zs_i2l (pc := 17) t337_17 rfl ?_
  obtain ⟨w8v, w8⟩ : ∃ v, (zJ M 353 w1n) * (zI M 337 (14 + 2 * w6n)).toInt64 = v := ⟨_, rfl⟩
  have w8g := zrg64 w8v
  refine zs_lmul (pc := 18) t337_18 (c := w8v) w8 ?_
  obtain ⟨w9v, w9⟩ : ∃ v, (zJ M 352 w1n) + w8v = v := ⟨_, rfl⟩
  have w9g := zrg64 w9v
  refine zs_ladd (pc := 19) t337_19 (c := w9v) w9 ?_
  refine zs_aload_n (pc := 20) t337_20 rfl ?_
  refine zs_get (pc := 21) t337_21 (by decide) (zk1 (hs.k fk_zMm_336)) (hs.p rfl fv_zMm_336_29) ?_
  refine zs_iload_n (pc := 24) t337_24 rfl ?_
  have w10 := zrg64 (zJ M 351 w1n)
  have w11 := ib336_22 hI
  have w12 : (zI M 336 22).toInt = (zI M 336 22).toInt := (congrArg Int32.toInt rfl).trans rfl
  have w13 : 0 < (zJ M 351 w1n).toInt := pD w1n (by omega)
  refine zs_lald (pc := 25) t337_25 (j := w1n) (zk1 (hs.k fk_zMm_351)) (show a.toInt = ((w1n : Nat) : Int) by omega) (zk2 (hs.k fk_zMm_351) (by omega)) rfl ?_
  refine zs_invS (pc := 26) (as := [.long w9v, .long (zJ M 351 w1n)]) (st := []) t337_26 (by decide) mf286 rfl rfl ⟨by decide, by decide, Nat.le_of_ble_eq_true rfl, Nat.le_of_ble_eq_true rfl⟩ (K286 hs hI ⟨by omega, by omega⟩ ?_) (fun _ _ q => q)
  intro w14v
  have w14g := zrg64 w14v
  show zGo X l 2 0 0 337 29 [(0, .ref 336), (1, .int a), (2, .int b)] [.long w14v] M _
  obtain ⟨w15v, w15⟩ : ∃ v, w14v.toInt32 = v := ⟨_, rfl⟩
  have w15g := zrg w15v
  refine zs_l2i (pc := 29) t337_29 (c := w15v) w15 ?_
  refine zs_aload_n (pc := 30) t337_30 rfl ?_
  refine zs_iload_n (pc := 31) t337_31 rfl ?_
  refine zs_aload_n (pc := 32) t337_32 rfl ?_
  refine zs_get (pc := 33) t337_33 (by decide) (zk1 (hs.k fk_zMm_336)) (hs.p rfl fv_zMm_336_23) ?_
  refine zs_iload_n (pc := 36) t337_36 rfl ?_
  have w16 := zrg (zI M 345 w1n)
  refine zs_iald (pc := 37) t337_37 (j := w1n) (by decide) (zk1 (hs.k fk_zMm_345)) (show a.toInt = ((w1n : Nat) : Int) by omega) (zk2 (hs.k fk_zMm_345) (by omega)) rfl ?_
  refine zs_invV (pc := 38) (k := 336) (as' := [.int b, .int (zI M 345 w1n)]) (st := [.int w15v]) t337_38 mf251 rfl rfl (Or.inl ⟨by decide, (zk1 (hs.k fk_zMm_336))⟩) ⟨by decide, by decide, Nat.le_of_ble_eq_true rfl, Nat.le_of_ble_eq_true rfl⟩ (K251 hs hI ⟨by omega, by omega⟩ ?_) (fun _ _ q => q)
  have w17 := zrg (zbend M b (zI M 345 w1n))
  show zGo X l 2 0 0 337 41 [(0, .ref 336), (1, .int a), (2, .int b)] [.int (zbend M b (zI M 345 w1n)), .int w15v] M _
  obtain ⟨w18v, w18⟩ : ∃ v, v = w15v + (zbend M b (zI M 345 w1n)) := ⟨_, rfl⟩
  have w18g := zrg w18v
  refine zs_iadd (pc := 41) t337_41 (c := w18v) w18.symm ?_
  exact zs_iret (pc := 42) t337_42 mr337 rfl (hQ _)
theorem K289 {X : zX} {l : Launch} {M : zM} {Q : Option Value → zM → Prop} {a b c d : Int32} (hs : zSk zMm M) (hI : zIv mLo mHi M) (u0 : (zI M 336 39).toInt < 20000) (hQ : ∀ M', zSk zMm M' → zIv mLo mHi M' → zFr [(359, 359, none), (336, 336, some 39)] M M' → zJ M' 351 = zJ M 351 → ((zI M' 336 39).toInt = (zI M 336 39).toInt + 1) → Q none M') : zCall X l 2 0 0 289 [.ref 336, .int a, .int b, .int c, .int d] M Q := by
  have ga := zrg a
  have gb := zrg b
  have gc := zrg c
  have gd := zrg d
  refine zs_in (by decide) mf289 (Nat.le_of_ble_eq_true rfl) ?_
  show zGo X l 2 0 0 289 0 [(0, .ref 336), (1, .int a), (2, .int b), (3, .int c), (4, .int d)] [] M _
  refine zs_aload_n (pc := 0) t289_0 rfl ?_
  have w1 := ib336_39 hI
  refine zs_get (pc := 1) t289_1 (by decide) (zk1 (hs.k fk_zMm_336)) (zfvi rfl rfl) ?_
  refine zs_bipush (pc := 4) t289_4 (v := 20) (by decide) ?_
  by_cases w2 : 20 ≤ (zI M 336 39).toInt
  · refine zs_icmp_geT (pc := 6) t289_6 rfl li20 (by omega) ?_
    refine zs_bipush (pc := 16) t289_16 (v := 20) (by decide) ?_
    refine zs_istore (pc := 18) t289_18 (ls' := [(5, .int (20 : Int32)), (0, .ref 336), (1, .int a), (2, .int b), (3, .int c), (4, .int d)]) (zml mf289 (by decide)) rfl ?_
    have w3L : ∀ (m : Nat) (w3x5 : Int32) (w3M : zM), (0 ≤ w3x5.toInt ∧ w3x5.toInt ≤ 20) → zSk zMm w3M → zIv mLo mHi w3M → zFr [(359, 359, none)] M w3M → zJ w3M 351 = zJ M 351 → w3x5.toInt ≤ (m : Int) → zGo X l 2 0 0 289 20 [(0, .ref 336), (1, .int a), (2, .int b), (3, .int c), (4, .int d), (5, .int w3x5)] [] w3M Q := by
      intro m
      induction m using Nat.strongRecOn with
      | ind w3m w3ih =>
        intro w3x5 w3M w3b5 w3s w3I w3F w3J w3q
        refine zs_iload (pc := 20) t289_20 rfl ?_
        by_cases w4 : w3x5.toInt ≤ 0
        · refine zs_if_leT (pc := 22) t289_22 rfl (by omega) ?_
          refine zs_aload_n (pc := 127) t289_127 rfl ?_
          refine zs_get (pc := 128) t289_128 (by decide) (zk1 (w3s.k fk_zMm_336)) (w3s.p rfl fv_zMm_336_38) ?_
          refine zs_iconst (pc := 131) t289_131 (v := 4) (by decide) ?_
          refine zs_iload (pc := 132) t289_132 rfl ?_
          obtain ⟨w5v, w5⟩ : ∃ v, (4 : Int32) * w3x5 = v := ⟨_, rfl⟩
          have w5g : w5v.toInt = 4 * w3x5.toInt := by rw [← w5]; exact zmulc li4 rfl (by omega) (by omega)
          refine zs_imul (pc := 134) t289_134 (c := w5v) w5 ?_
          refine zs_iload_n (pc := 135) t289_135 rfl ?_
          obtain ⟨w6n, w6⟩ : ∃ n : Nat, w3x5.toInt = (n : Int) := ⟨(w3x5.toInt).toNat, by omega⟩
          have w7 : zIv mLo mHi (zsI w3M 359 (4 * w6n) a) := zIv.put w3I (show (-2147483648) ≤ a.toInt ∧ a.toInt ≤ 2147483647 from zrg a)
          refine zs_iast (pc := 136) t289_136 (j := (4 * w6n)) (by decide) (zk1 (w3s.k fk_zMm_359)) (show w5v.toInt = (((4 * w6n) : Nat) : Int) by omega) (zk2 (w3s.k fk_zMm_359) (by omega)) ?_
          refine zs_aload_n (pc := 137) t289_137 rfl ?_
          refine zs_get (pc := 138) t289_138 (by decide) (zk1 (w3s.k fk_zMm_336)) (w3s.p rfl fv_zMm_336_38) ?_
          refine zs_iconst (pc := 141) t289_141 (v := 4) (by decide) ?_
          refine zs_iload (pc := 142) t289_142 rfl ?_
          obtain ⟨w8v, w8⟩ : ∃ v, (4 : Int32) * w3x5 = v := ⟨_, rfl⟩
          have w8g : w8v.toInt = 4 * w3x5.toInt := by rw [← w8]; exact zmulc li4 rfl (by omega) (by omega)
          refine zs_imul (pc := 144) t289_144 (c := w8v) w8 ?_
          refine zs_iconst (pc := 145) t289_145 (v := 1) (by decide) ?_
          obtain ⟨w9v, w9e, w9⟩ := ziadd (a := w8v) (b := (1 : Int32)) w8g li1 (by omega) (by omega)
          refine zs_iadd (pc := 146) t289_146 (c := w9v) w9e ?_
          refine zs_iload_n (pc := 147) t289_147 rfl ?_
          have w10 : zIv mLo mHi (zsI (zsI w3M 359 (4 * w6n) a) 359 (1 + 4 * w6n) b) := zIv.put w7 (show (-2147483648) ≤ b.toInt ∧ b.toInt ≤ 2147483647 from zrg b)
          refine zs_iast (pc := 148) t289_148 (j := (1 + 4 * w6n)) (by decide) (zk1 (w3s.k fk_zMm_359)) (show w9v.toInt = (((1 + 4 * w6n) : Nat) : Int) by omega) (zk2 (w3s.k fk_zMm_359) (by omega)) ?_
          refine zs_aload_n (pc := 149) t289_149 rfl ?_
          refine zs_get (pc := 150) t289_150 (by decide) (zk1 (w3s.k fk_zMm_336)) (w3s.p rfl fv_zMm_336_38) ?_
          refine zs_iconst (pc := 153) t289_153 (v := 4) (by decide) ?_
          refine zs_iload (pc := 154) t289_154 rfl ?_
          obtain ⟨w11v, w11⟩ : ∃ v, (4 : Int32) * w3x5 = v := ⟨_, rfl⟩
          have w11g : w11v.toInt = 4 * w3x5.toInt := by rw [← w11]; exact zmulc li4 rfl (by omega) (by omega)
          refine zs_imul (pc := 156) t289_156 (c := w11v) w11 ?_
          refine zs_iconst (pc := 157) t289_157 (v := 2) (by decide) ?_
          obtain ⟨w12v, w12e, w12⟩ := ziadd (a := w11v) (b := (2 : Int32)) w11g li2 (by omega) (by omega)
          refine zs_iadd (pc := 158) t289_158 (c := w12v) w12e ?_
          refine zs_iload_n (pc := 159) t289_159 rfl ?_
          have w13 : zIv mLo mHi (zsI (zsI (zsI w3M 359 (4 * w6n) a) 359 (1 + 4 * w6n) b) 359 (2 + 4 * w6n) c) := zIv.put w10 (show (-2147483648) ≤ c.toInt ∧ c.toInt ≤ 2147483647 from zrg c)
          refine zs_iast (pc := 160) t289_160 (j := (2 + 4 * w6n)) (by decide) (zk1 (w3s.k fk_zMm_359)) (show w12v.toInt = (((2 + 4 * w6n) : Nat) : Int) by omega) (zk2 (w3s.k fk_zMm_359) (by omega)) ?_
          refine zs_aload_n (pc := 161) t289_161 rfl ?_
          refine zs_get (pc := 162) t289_162 (by decide) (zk1 (w3s.k fk_zMm_336)) (w3s.p rfl fv_zMm_336_38) ?_
          refine zs_iconst (pc := 165) t289_165 (v := 4) (by decide) ?_
          refine zs_iload (pc := 166) t289_166 rfl ?_
          obtain ⟨w14v, w14⟩ : ∃ v, (4 : Int32) * w3x5 = v := ⟨_, rfl⟩
          have w14g : w14v.toInt = 4 * w3x5.toInt := by rw [← w14]; exact zmulc li4 rfl (by omega) (by omega)
          refine zs_imul (pc := 168) t289_168 (c := w14v) w14 ?_
          refine zs_iconst (pc := 169) t289_169 (v := 3) (by decide) ?_
          obtain ⟨w15v, w15e, w15⟩ := ziadd (a := w14v) (b := (3 : Int32)) w14g li3 (by omega) (by omega)
          refine zs_iadd (pc := 170) t289_170 (c := w15v) w15e ?_
          refine zs_iload (pc := 171) t289_171 rfl ?_
          have w16 : zIv mLo mHi (zsI (zsI (zsI (zsI w3M 359 (4 * w6n) a) 359 (1 + 4 * w6n) b) 359 (2 + 4 * w6n) c) 359 (3 + 4 * w6n) d) := zIv.put w13 (show (-2147483648) ≤ d.toInt ∧ d.toInt ≤ 2147483647 from zrg d)
          refine zs_iast (pc := 173) t289_173 (j := (3 + 4 * w6n)) (by decide) (zk1 (w3s.k fk_zMm_359)) (show w15v.toInt = (((3 + 4 * w6n) : Nat) : Int) by omega) (zk2 (w3s.k fk_zMm_359) (by omega)) ?_
          refine zs_aload_n (pc := 174) t289_174 rfl ?_
          refine zs_dup (pc := 175) t289_175 rfl ?_
          refine zs_get (pc := 176) t289_176 (by decide) (zk1 (w3s.k fk_zMm_336)) (zfvi rfl ((zIo (by decide)).trans ((zIo (by decide)).trans ((zIo (by decide)).trans ((zIo (by decide)).trans ((w3F 336 39 rfl).trans rfl)))))) ?_
          refine zs_iconst (pc := 179) t289_179 (v := 1) (by decide) ?_
          obtain ⟨w17v, w17e, w17⟩ := ziadd (a := (zI M 336 39)) (b := (1 : Int32)) rfl li1 (by omega) (by omega)
          refine zs_iadd (pc := 180) t289_180 (c := w17v) w17e ?_
          have w18 : zIv mLo mHi (zsI (zsI (zsI (zsI (zsI w3M 359 (4 * w6n) a) 359 (1 + 4 * w6n) b) 359 (2 + 4 * w6n) c) 359 (3 + 4 * w6n) d) 336 39 w17v) := zIv.put w16 (show 0 ≤ w17v.toInt ∧ w17v.toInt ≤ 20000 from ⟨by omega, by omega⟩)
          refine zs_putI (pc := 181) t289_181 (zk1 (w3s.k fk_zMm_336)) rfl ?_
          have w19 : (zI (zsI (zsI (zsI (zsI (zsI w3M 359 (4 * w6n) a) 359 (1 + 4 * w6n) b) 359 (2 + 4 * w6n) c) 359 (3 + 4 * w6n) d) 336 39 w17v) 336 39).toInt = ((zI M 336 39).toInt + 1) := (congrArg Int32.toInt zIs).trans w17
          exact zs_vret (pc := 184) t289_184 mr289 (hQ _ w3s w18 (((((((zFr.refl).trans (w3F.mono rfl)).put rfl).put rfl).put rfl).put rfl).put rfl) w3J (by omega))
        · refine zs_if_leF (pc := 22) t289_22 rfl (by omega) ?_
          refine zs_iload (pc := 25) t289_25 rfl ?_
          refine zs_iload_n (pc := 27) t289_27 rfl ?_
          refine zs_iload_n (pc := 28) t289_28 rfl ?_
          refine zs_iload_n (pc := 29) t289_29 rfl ?_
          refine zs_aload_n (pc := 30) t289_30 rfl ?_
          refine zs_get (pc := 31) t289_31 (by decide) (zk1 (w3s.k fk_zMm_336)) (w3s.p rfl fv_zMm_336_38) ?_
          refine zs_iconst (pc := 34) t289_34 (v := 4) (by decide) ?_
          refine zs_iload (pc := 35) t289_35 rfl ?_
          obtain ⟨w20v, w20⟩ : ∃ v, (4 : Int32) * w3x5 = v := ⟨_, rfl⟩
          have w20g : w20v.toInt = 4 * w3x5.toInt := by rw [← w20]; exact zmulc li4 rfl (by omega) (by omega)
          refine zs_imul (pc := 37) t289_37 (c := w20v) w20 ?_
          refine zs_iconst (pc := 38) t289_38 (v := 1) (by decide) ?_
          obtain ⟨w21v, w21e, w21⟩ := zisub (a := w20v) (b := (1 : Int32)) w20g li1 (by omega) (by omega)
          refine zs_isub (pc := 39) t289_39 (c := w21v) w21e ?_
          obtain ⟨w22n, w22⟩ : ∃ n : Nat, w21v.toInt = (n : Int) := ⟨w21v.toInt.toNat, by omega⟩
          have w23 := zrg (zI w3M 359 w22n)
          refine zs_iald (pc := 40) t289_40 (j := w22n) (by decide) (zk1 (w3s.k fk_zMm_359)) w22 (zk2 (w3s.k fk_zMm_359) (by omega)) rfl ?_
          refine zs_aload_n (pc := 41) t289_41 rfl ?_
          refine zs_get (pc := 42) t289_42 (by decide) (zk1 (w3s.k fk_zMm_336)) (w3s.p rfl fv_zMm_336_38) ?_
          refine zs_iconst (pc := 45) t289_45 (v := 4) (by decide) ?_
          refine zs_iload (pc := 46) t289_46 rfl ?_
          obtain ⟨w24v, w24⟩ : ∃ v, (4 : Int32) * w3x5 = v := ⟨_, rfl⟩
          have w24g : w24v.toInt = 4 * w3x5.toInt := by rw [← w24]; exact zmulc li4 rfl (by omega) (by omega)
          refine zs_imul (pc := 48) t289_48 (c := w24v) w24 ?_
          refine zs_iconst (pc := 49) t289_49 (v := 4) (by decide) ?_
          obtain ⟨w25v, w25e, w25⟩ := zisub (a := w24v) (b := (4 : Int32)) w24g li4 (by omega) (by omega)
          refine zs_isub (pc := 50) t289_50 (c := w25v) w25e ?_
          obtain ⟨w26n, w26⟩ : ∃ n : Nat, w25v.toInt = (n : Int) := ⟨w25v.toInt.toNat, by omega⟩
          have w27 := zrg (zI w3M 359 w26n)
          refine zs_iald (pc := 51) t289_51 (j := w26n) (by decide) (zk1 (w3s.k fk_zMm_359)) w26 (zk2 (w3s.k fk_zMm_359) (by omega)) rfl ?_
          refine zs_aload_n (pc := 52) t289_52 rfl ?_
          refine zs_get (pc := 53) t289_53 (by decide) (zk1 (w3s.k fk_zMm_336)) (w3s.p rfl fv_zMm_336_38) ?_
          refine zs_iconst (pc := 56) t289_56 (v := 4) (by decide) ?_
          refine zs_iload (pc := 57) t289_57 rfl ?_
          obtain ⟨w28v, w28⟩ : ∃ v, (4 : Int32) * w3x5 = v := ⟨_, rfl⟩
          have w28g : w28v.toInt = 4 * w3x5.toInt := by rw [← w28]; exact zmulc li4 rfl (by omega) (by omega)
          refine zs_imul (pc := 59) t289_59 (c := w28v) w28 ?_
          refine zs_iconst (pc := 60) t289_60 (v := 3) (by decide) ?_
          obtain ⟨w29v, w29e, w29⟩ := zisub (a := w28v) (b := (3 : Int32)) w28g li3 (by omega) (by omega)
          refine zs_isub (pc := 61) t289_61 (c := w29v) w29e ?_
          obtain ⟨w30n, w30⟩ : ∃ n : Nat, w29v.toInt = (n : Int) := ⟨w29v.toInt.toNat, by omega⟩
          have w31 := zrg (zI w3M 359 w30n)
          refine zs_iald (pc := 62) t289_62 (j := w30n) (by decide) (zk1 (w3s.k fk_zMm_359)) w30 (zk2 (w3s.k fk_zMm_359) (by omega)) rfl ?_
          refine zs_aload_n (pc := 63) t289_63 rfl ?_
          refine zs_get (pc := 64) t289_64 (by decide) (zk1 (w3s.k fk_zMm_336)) (w3s.p rfl fv_zMm_336_38) ?_
          refine zs_iconst (pc := 67) t289_67 (v := 4) (by decide) ?_
          refine zs_iload (pc := 68) t289_68 rfl ?_
          obtain ⟨w32v, w32⟩ : ∃ v, (4 : Int32) * w3x5 = v := ⟨_, rfl⟩
          have w32g : w32v.toInt = 4 * w3x5.toInt := by rw [← w32]; exact zmulc li4 rfl (by omega) (by omega)
          refine zs_imul (pc := 70) t289_70 (c := w32v) w32 ?_
          refine zs_iconst (pc := 71) t289_71 (v := 2) (by decide) ?_
          obtain ⟨w33v, w33e, w33⟩ := zisub (a := w32v) (b := (2 : Int32)) w32g li2 (by omega) (by omega)
          refine zs_isub (pc := 72) t289_72 (c := w33v) w33e ?_
          obtain ⟨w34n, w34⟩ : ∃ n : Nat, w33v.toInt = (n : Int) := ⟨w33v.toInt.toNat, by omega⟩
          have w35 := zrg (zI w3M 359 w34n)
          refine zs_iald (pc := 73) t289_73 (j := w34n) (by decide) (zk1 (w3s.k fk_zMm_359)) w34 (zk2 (w3s.k fk_zMm_359) (by omega)) rfl ?_
          refine zs_invS (pc := 74) (as := [.int d, .int a, .int b, .int c, .int (zI w3M 359 w22n), .int (zI w3M 359 w26n), .int (zI w3M 359 w30n), .int (zI w3M 359 w34n)]) (st := []) t289_74 (by decide) mf279 rfl rfl ⟨by decide, by decide, Nat.le_of_ble_eq_true rfl, Nat.le_of_ble_eq_true rfl⟩ (K279 w3s w3I ?_) (fun _ _ q => q)
          intro w36v  w36a w36b
          show zGo X l 2 0 0 289 77 [(0, .ref 336), (1, .int a), (2, .int b), (3, .int c), (4, .int d), (5, .int w3x5)] [.int w36v] w3M _
          by_cases w37 : w36v.toInt = 0
          · refine zs_if_eqT (pc := 77) t289_77 rfl (by omega) ?_
            refine zs_aload_n (pc := 127) t289_127 rfl ?_
            refine zs_get (pc := 128) t289_128 (by decide) (zk1 (w3s.k fk_zMm_336)) (w3s.p rfl fv_zMm_336_38) ?_
            refine zs_iconst (pc := 131) t289_131 (v := 4) (by decide) ?_
            refine zs_iload (pc := 132) t289_132 rfl ?_
            obtain ⟨w38v, w38⟩ : ∃ v, (4 : Int32) * w3x5 = v := ⟨_, rfl⟩
            have w38g : w38v.toInt = 4 * w3x5.toInt := by rw [← w38]; exact zmulc li4 rfl (by omega) (by omega)
            refine zs_imul (pc := 134) t289_134 (c := w38v) w38 ?_
            refine zs_iload_n (pc := 135) t289_135 rfl ?_
            obtain ⟨w39n, w39⟩ : ∃ n : Nat, w3x5.toInt = (n : Int) := ⟨(w3x5.toInt).toNat, by omega⟩
            have w40 : zIv mLo mHi (zsI w3M 359 (4 * w39n) a) := zIv.put w3I (show (-2147483648) ≤ a.toInt ∧ a.toInt ≤ 2147483647 from zrg a)
            refine zs_iast (pc := 136) t289_136 (j := (4 * w39n)) (by decide) (zk1 (w3s.k fk_zMm_359)) (show w38v.toInt = (((4 * w39n) : Nat) : Int) by omega) (zk2 (w3s.k fk_zMm_359) (by omega)) ?_
            refine zs_aload_n (pc := 137) t289_137 rfl ?_
            refine zs_get (pc := 138) t289_138 (by decide) (zk1 (w3s.k fk_zMm_336)) (w3s.p rfl fv_zMm_336_38) ?_
            refine zs_iconst (pc := 141) t289_141 (v := 4) (by decide) ?_
            refine zs_iload (pc := 142) t289_142 rfl ?_
            obtain ⟨w41v, w41⟩ : ∃ v, (4 : Int32) * w3x5 = v := ⟨_, rfl⟩
            have w41g : w41v.toInt = 4 * w3x5.toInt := by rw [← w41]; exact zmulc li4 rfl (by omega) (by omega)
            refine zs_imul (pc := 144) t289_144 (c := w41v) w41 ?_
            refine zs_iconst (pc := 145) t289_145 (v := 1) (by decide) ?_
            obtain ⟨w42v, w42e, w42⟩ := ziadd (a := w41v) (b := (1 : Int32)) w41g li1 (by omega) (by omega)
            refine zs_iadd (pc := 146) t289_146 (c := w42v) w42e ?_
            refine zs_iload_n (pc := 147) t289_147 rfl ?_
            have w43 : zIv mLo mHi (zsI (zsI w3M 359 (4 * w39n) a) 359 (1 + 4 * w39n) b) := zIv.put w40 (show (-2147483648) ≤ b.toInt ∧ b.toInt ≤ 2147483647 from zrg b)
            refine zs_iast (pc := 148) t289_148 (j := (1 + 4 * w39n)) (by decide) (zk1 (w3s.k fk_zMm_359)) (show w42v.toInt = (((1 + 4 * w39n) : Nat) : Int) by omega) (zk2 (w3s.k fk_zMm_359) (by omega)) ?_
            refine zs_aload_n (pc := 149) t289_149 rfl ?_
            refine zs_get (pc := 150) t289_150 (by decide) (zk1 (w3s.k fk_zMm_336)) (w3s.p rfl fv_zMm_336_38) ?_
            refine zs_iconst (pc := 153) t289_153 (v := 4) (by decide) ?_
            refine zs_iload (pc := 154) t289_154 rfl ?_
            obtain ⟨w44v, w44⟩ : ∃ v, (4 : Int32) * w3x5 = v := ⟨_, rfl⟩
            have w44g : w44v.toInt = 4 * w3x5.toInt := by rw [← w44]; exact zmulc li4 rfl (by omega) (by omega)
            refine zs_imul (pc := 156) t289_156 (c := w44v) w44 ?_
            refine zs_iconst (pc := 157) t289_157 (v := 2) (by decide) ?_
            obtain ⟨w45v, w45e, w45⟩ := ziadd (a := w44v) (b := (2 : Int32)) w44g li2 (by omega) (by omega)
            refine zs_iadd (pc := 158) t289_158 (c := w45v) w45e ?_
            refine zs_iload_n (pc := 159) t289_159 rfl ?_
            have w46 : zIv mLo mHi (zsI (zsI (zsI w3M 359 (4 * w39n) a) 359 (1 + 4 * w39n) b) 359 (2 + 4 * w39n) c) := zIv.put w43 (show (-2147483648) ≤ c.toInt ∧ c.toInt ≤ 2147483647 from zrg c)
            refine zs_iast (pc := 160) t289_160 (j := (2 + 4 * w39n)) (by decide) (zk1 (w3s.k fk_zMm_359)) (show w45v.toInt = (((2 + 4 * w39n) : Nat) : Int) by omega) (zk2 (w3s.k fk_zMm_359) (by omega)) ?_
            refine zs_aload_n (pc := 161) t289_161 rfl ?_
            refine zs_get (pc := 162) t289_162 (by decide) (zk1 (w3s.k fk_zMm_336)) (w3s.p rfl fv_zMm_336_38) ?_
            refine zs_iconst (pc := 165) t289_165 (v := 4) (by decide) ?_
            refine zs_iload (pc := 166) t289_166 rfl ?_
            obtain ⟨w47v, w47⟩ : ∃ v, (4 : Int32) * w3x5 = v := ⟨_, rfl⟩
            have w47g : w47v.toInt = 4 * w3x5.toInt := by rw [← w47]; exact zmulc li4 rfl (by omega) (by omega)
            refine zs_imul (pc := 168) t289_168 (c := w47v) w47 ?_
            refine zs_iconst (pc := 169) t289_169 (v := 3) (by decide) ?_
            obtain ⟨w48v, w48e, w48⟩ := ziadd (a := w47v) (b := (3 : Int32)) w47g li3 (by omega) (by omega)
            refine zs_iadd (pc := 170) t289_170 (c := w48v) w48e ?_
            refine zs_iload (pc := 171) t289_171 rfl ?_
            have w49 : zIv mLo mHi (zsI (zsI (zsI (zsI w3M 359 (4 * w39n) a) 359 (1 + 4 * w39n) b) 359 (2 + 4 * w39n) c) 359 (3 + 4 * w39n) d) := zIv.put w46 (show (-2147483648) ≤ d.toInt ∧ d.toInt ≤ 2147483647 from zrg d)
            refine zs_iast (pc := 173) t289_173 (j := (3 + 4 * w39n)) (by decide) (zk1 (w3s.k fk_zMm_359)) (show w48v.toInt = (((3 + 4 * w39n) : Nat) : Int) by omega) (zk2 (w3s.k fk_zMm_359) (by omega)) ?_
            refine zs_aload_n (pc := 174) t289_174 rfl ?_
            refine zs_dup (pc := 175) t289_175 rfl ?_
            refine zs_get (pc := 176) t289_176 (by decide) (zk1 (w3s.k fk_zMm_336)) (zfvi rfl ((zIo (by decide)).trans ((zIo (by decide)).trans ((zIo (by decide)).trans ((zIo (by decide)).trans ((w3F 336 39 rfl).trans rfl)))))) ?_
            refine zs_iconst (pc := 179) t289_179 (v := 1) (by decide) ?_
            obtain ⟨w50v, w50e, w50⟩ := ziadd (a := (zI M 336 39)) (b := (1 : Int32)) rfl li1 (by omega) (by omega)
            refine zs_iadd (pc := 180) t289_180 (c := w50v) w50e ?_
            have w51 : zIv mLo mHi (zsI (zsI (zsI (zsI (zsI w3M 359 (4 * w39n) a) 359 (1 + 4 * w39n) b) 359 (2 + 4 * w39n) c) 359 (3 + 4 * w39n) d) 336 39 w50v) := zIv.put w49 (show 0 ≤ w50v.toInt ∧ w50v.toInt ≤ 20000 from ⟨by omega, by omega⟩)
            refine zs_putI (pc := 181) t289_181 (zk1 (w3s.k fk_zMm_336)) rfl ?_
            have w52 : (zI (zsI (zsI (zsI (zsI (zsI w3M 359 (4 * w39n) a) 359 (1 + 4 * w39n) b) 359 (2 + 4 * w39n) c) 359 (3 + 4 * w39n) d) 336 39 w50v) 336 39).toInt = ((zI M 336 39).toInt + 1) := (congrArg Int32.toInt zIs).trans w50
            exact zs_vret (pc := 184) t289_184 mr289 (hQ _ w3s w51 (((((((zFr.refl).trans (w3F.mono rfl)).put rfl).put rfl).put rfl).put rfl).put rfl) w3J (by omega))
          · refine zs_if_eqF (pc := 77) t289_77 rfl (by omega) ?_
            refine zs_iconst (pc := 80) t289_80 (v := 0) (by decide) ?_
            refine zs_istore (pc := 81) t289_81 (ls' := [(6, .int (0 : Int32)), (0, .ref 336), (1, .int a), (2, .int b), (3, .int c), (4, .int d), (5, .int w3x5)]) (zml mf289 (by decide)) rfl ?_
            have w53L : ∀ (m : Nat) (w53x6 : Int32) (w53M : zM), (0 ≤ w53x6.toInt ∧ w53x6.toInt ≤ 4) → zSk zMm w53M → zIv mLo mHi w53M → zFr [(359, 359, none)] w3M w53M → zJ w53M 351 = zJ w3M 351 → 4 - w53x6.toInt ≤ (m : Int) → zGo X l 2 0 0 289 83 [(0, .ref 336), (1, .int a), (2, .int b), (3, .int c), (4, .int d), (5, .int w3x5), (6, .int w53x6)] [] w53M Q := by
              intro m
              induction m using Nat.strongRecOn with
              | ind w53m w53ih =>
                intro w53x6 w53M w53b6 w53s w53I w53F w53J w53q
                refine zs_iload (pc := 83) t289_83 rfl ?_
                refine zs_iconst (pc := 85) t289_85 (v := 4) (by decide) ?_
                by_cases w54 : 4 ≤ w53x6.toInt
                · refine zs_icmp_geT (pc := 86) t289_86 rfl li4 (by omega) ?_
                  obtain ⟨w55v, w55e, w55⟩ := ziadd (a := w3x5) (b := Int32.ofInt (-1)) rfl (show (Int32.ofInt (-1)).toInt = (-1) by decide) (by omega) (by omega)
                  refine zs_iinc (pc := 121) t289_121 (ls' := [(5, .int w55v), (0, .ref 336), (1, .int a), (2, .int b), (3, .int c), (4, .int d), (6, .int w53x6)]) (zml mf289 (by decide)) rfl (c := w55v) w55e rfl ?_
                  refine zs_goto (pc := 124) t289_124 ?_
                  refine zGo.locals (ls' := [(0, .ref 336), (1, .int a), (2, .int b), (3, .int c), (4, .int d), (5, .int w55v)]) (by simp) ?_
                  have w56 := w55
                  exact w3ih (w3m - 1) (by omega) w55v w53M ⟨by omega, by omega⟩ w53s w53I (((zFr.refl).trans (w3F.mono rfl)).trans (w53F.mono rfl)) (w53J.trans w3J) (by omega)
                · refine zs_icmp_geF (pc := 86) t289_86 rfl li4 (by omega) ?_
                  refine zs_aload_n (pc := 89) t289_89 rfl ?_
                  refine zs_get (pc := 90) t289_90 (by decide) (zk1 (w53s.k fk_zMm_336)) (w53s.p rfl fv_zMm_336_38) ?_
                  refine zs_iconst (pc := 93) t289_93 (v := 4) (by decide) ?_
                  refine zs_iload (pc := 94) t289_94 rfl ?_
                  obtain ⟨w57v, w57⟩ : ∃ v, (4 : Int32) * w3x5 = v := ⟨_, rfl⟩
                  have w57g : w57v.toInt = 4 * w3x5.toInt := by rw [← w57]; exact zmulc li4 rfl (by omega) (by omega)
                  refine zs_imul (pc := 96) t289_96 (c := w57v) w57 ?_
                  refine zs_iload (pc := 97) t289_97 rfl ?_
                  obtain ⟨w58v, w58e, w58⟩ := ziadd (a := w57v) (b := w53x6) w57g rfl (by omega) (by omega)
                  refine zs_iadd (pc := 99) t289_99 (c := w58v) w58e ?_
                  refine zs_aload_n (pc := 100) t289_100 rfl ?_
                  refine zs_get (pc := 101) t289_101 (by decide) (zk1 (w53s.k fk_zMm_336)) (w53s.p rfl fv_zMm_336_38) ?_
                  refine zs_iconst (pc := 104) t289_104 (v := 4) (by decide) ?_
                  refine zs_iload (pc := 105) t289_105 rfl ?_
                  obtain ⟨w59v, w59⟩ : ∃ v, (4 : Int32) * w3x5 = v := ⟨_, rfl⟩
                  have w59g : w59v.toInt = 4 * w3x5.toInt := by rw [← w59]; exact zmulc li4 rfl (by omega) (by omega)
                  refine zs_imul (pc := 107) t289_107 (c := w59v) w59 ?_
                  refine zs_iconst (pc := 108) t289_108 (v := 4) (by decide) ?_
                  obtain ⟨w60v, w60e, w60⟩ := zisub (a := w59v) (b := (4 : Int32)) w59g li4 (by omega) (by omega)
                  refine zs_isub (pc := 109) t289_109 (c := w60v) w60e ?_
                  refine zs_iload (pc := 110) t289_110 rfl ?_
                  obtain ⟨w61v, w61e, w61⟩ := ziadd (a := w60v) (b := w53x6) w60 rfl (by omega) (by omega)
                  refine zs_iadd (pc := 112) t289_112 (c := w61v) w61e ?_
                  obtain ⟨w62n, w62⟩ : ∃ n : Nat, w61v.toInt = (n : Int) := ⟨w61v.toInt.toNat, by omega⟩
                  have w63 := zrg (zI w53M 359 w62n)
                  refine zs_iald (pc := 113) t289_113 (j := w62n) (by decide) (zk1 (w53s.k fk_zMm_359)) w62 (zk2 (w53s.k fk_zMm_359) (by omega)) rfl ?_
                  obtain ⟨w64n, w64⟩ : ∃ n : Nat, w3x5.toInt = (n : Int) := ⟨(w3x5.toInt).toNat, by omega⟩
                  obtain ⟨w65n, w65⟩ : ∃ n : Nat, w53x6.toInt = (n : Int) := ⟨(w53x6.toInt).toNat, by omega⟩
                  have w66 : zIv mLo mHi (zsI w53M 359 (4 * w64n + w65n) (zI w53M 359 w62n)) := zIv.put w53I (show (-2147483648) ≤ (zI w53M 359 w62n).toInt ∧ (zI w53M 359 w62n).toInt ≤ 2147483647 from zrg (zI w53M 359 w62n))
                  refine zs_iast (pc := 114) t289_114 (j := (4 * w64n + w65n)) (by decide) (zk1 (w53s.k fk_zMm_359)) (show w58v.toInt = (((4 * w64n + w65n) : Nat) : Int) by omega) (zk2 (w53s.k fk_zMm_359) (by omega)) ?_
                  obtain ⟨w67v, w67e, w67⟩ := ziadd (a := w53x6) (b := Int32.ofInt 1) rfl (show (Int32.ofInt 1).toInt = 1 by decide) (by omega) (by omega)
                  refine zs_iinc (pc := 115) t289_115 (ls' := [(6, .int w67v), (0, .ref 336), (1, .int a), (2, .int b), (3, .int c), (4, .int d), (5, .int w3x5)]) (zml mf289 (by decide)) rfl (c := w67v) w67e rfl ?_
                  refine zs_goto (pc := 118) t289_118 ?_
                  refine zGo.locals (ls' := [(0, .ref 336), (1, .int a), (2, .int b), (3, .int c), (4, .int d), (5, .int w3x5), (6, .int w67v)]) (by simp) ?_
                  have w68 := w67
                  exact w53ih (w53m - 1) (by omega) w67v (zsI w53M 359 (4 * w64n + w65n) (zI w53M 359 w62n)) ⟨by omega, by omega⟩ w53s w66 (((zFr.refl).trans (w53F.mono rfl)).put rfl) w53J (by omega)
            refine zGo.locals (ls' := [(0, .ref 336), (1, .int a), (2, .int b), (3, .int c), (4, .int d), (5, .int w3x5), (6, .int (0 : Int32))]) (by simp) ?_
            have w69 := li0
            exact w53L ((4 - 0 : Int).toNat) (0 : Int32) w3M ⟨by decide, by decide⟩ w3s w3I zFr.refl rfl (by omega)
    refine zGo.locals (ls' := [(0, .ref 336), (1, .int a), (2, .int b), (3, .int c), (4, .int d), (5, .int (20 : Int32))]) (by simp) ?_
    have w70 := li20
    exact w3L ((20 : Int).toNat) (20 : Int32) M ⟨by decide, by decide⟩ hs hI zFr.refl rfl (by omega)
  · refine zs_icmp_geF (pc := 6) t289_6 rfl li20 (by omega) ?_
    refine zs_aload_n (pc := 9) t289_9 rfl ?_
    refine zs_get (pc := 10) t289_10 (by decide) (zk1 (hs.k fk_zMm_336)) (zfvi rfl rfl) ?_
    refine zs_goto (pc := 13) t289_13 ?_
    refine zs_istore (pc := 18) t289_18 (ls' := [(5, .int (zI M 336 39)), (0, .ref 336), (1, .int a), (2, .int b), (3, .int c), (4, .int d)]) (zml mf289 (by decide)) rfl ?_
    have w71L : ∀ (m : Nat) (w71x5 : Int32) (w71M : zM), (0 ≤ w71x5.toInt ∧ w71x5.toInt ≤ 20) → zSk zMm w71M → zIv mLo mHi w71M → zFr [(359, 359, none)] M w71M → zJ w71M 351 = zJ M 351 → w71x5.toInt ≤ (m : Int) → zGo X l 2 0 0 289 20 [(0, .ref 336), (1, .int a), (2, .int b), (3, .int c), (4, .int d), (5, .int w71x5)] [] w71M Q := by
      intro m
      induction m using Nat.strongRecOn with
      | ind w71m w71ih =>
        intro w71x5 w71M w71b5 w71s w71I w71F w71J w71q
        refine zs_iload (pc := 20) t289_20 rfl ?_
        by_cases w72 : w71x5.toInt ≤ 0
        · refine zs_if_leT (pc := 22) t289_22 rfl (by omega) ?_
          refine zs_aload_n (pc := 127) t289_127 rfl ?_
          refine zs_get (pc := 128) t289_128 (by decide) (zk1 (w71s.k fk_zMm_336)) (w71s.p rfl fv_zMm_336_38) ?_
          refine zs_iconst (pc := 131) t289_131 (v := 4) (by decide) ?_
          refine zs_iload (pc := 132) t289_132 rfl ?_
          obtain ⟨w73v, w73⟩ : ∃ v, (4 : Int32) * w71x5 = v := ⟨_, rfl⟩
          have w73g : w73v.toInt = 4 * w71x5.toInt := by rw [← w73]; exact zmulc li4 rfl (by omega) (by omega)
          refine zs_imul (pc := 134) t289_134 (c := w73v) w73 ?_
          refine zs_iload_n (pc := 135) t289_135 rfl ?_
          obtain ⟨w74n, w74⟩ : ∃ n : Nat, w71x5.toInt = (n : Int) := ⟨(w71x5.toInt).toNat, by omega⟩
          have w75 : zIv mLo mHi (zsI w71M 359 (4 * w74n) a) := zIv.put w71I (show (-2147483648) ≤ a.toInt ∧ a.toInt ≤ 2147483647 from zrg a)
          refine zs_iast (pc := 136) t289_136 (j := (4 * w74n)) (by decide) (zk1 (w71s.k fk_zMm_359)) (show w73v.toInt = (((4 * w74n) : Nat) : Int) by omega) (zk2 (w71s.k fk_zMm_359) (by omega)) ?_
          refine zs_aload_n (pc := 137) t289_137 rfl ?_
          refine zs_get (pc := 138) t289_138 (by decide) (zk1 (w71s.k fk_zMm_336)) (w71s.p rfl fv_zMm_336_38) ?_
          refine zs_iconst (pc := 141) t289_141 (v := 4) (by decide) ?_
          refine zs_iload (pc := 142) t289_142 rfl ?_
          obtain ⟨w76v, w76⟩ : ∃ v, (4 : Int32) * w71x5 = v := ⟨_, rfl⟩
          have w76g : w76v.toInt = 4 * w71x5.toInt := by rw [← w76]; exact zmulc li4 rfl (by omega) (by omega)
          refine zs_imul (pc := 144) t289_144 (c := w76v) w76 ?_
          refine zs_iconst (pc := 145) t289_145 (v := 1) (by decide) ?_
          obtain ⟨w77v, w77e, w77⟩ := ziadd (a := w76v) (b := (1 : Int32)) w76g li1 (by omega) (by omega)
          refine zs_iadd (pc := 146) t289_146 (c := w77v) w77e ?_
          refine zs_iload_n (pc := 147) t289_147 rfl ?_
          have w78 : zIv mLo mHi (zsI (zsI w71M 359 (4 * w74n) a) 359 (1 + 4 * w74n) b) := zIv.put w75 (show (-2147483648) ≤ b.toInt ∧ b.toInt ≤ 2147483647 from zrg b)
          refine zs_iast (pc := 148) t289_148 (j := (1 + 4 * w74n)) (by decide) (zk1 (w71s.k fk_zMm_359)) (show w77v.toInt = (((1 + 4 * w74n) : Nat) : Int) by omega) (zk2 (w71s.k fk_zMm_359) (by omega)) ?_
          refine zs_aload_n (pc := 149) t289_149 rfl ?_
          refine zs_get (pc := 150) t289_150 (by decide) (zk1 (w71s.k fk_zMm_336)) (w71s.p rfl fv_zMm_336_38) ?_
          refine zs_iconst (pc := 153) t289_153 (v := 4) (by decide) ?_
          refine zs_iload (pc := 154) t289_154 rfl ?_
          obtain ⟨w79v, w79⟩ : ∃ v, (4 : Int32) * w71x5 = v := ⟨_, rfl⟩
          have w79g : w79v.toInt = 4 * w71x5.toInt := by rw [← w79]; exact zmulc li4 rfl (by omega) (by omega)
          refine zs_imul (pc := 156) t289_156 (c := w79v) w79 ?_
          refine zs_iconst (pc := 157) t289_157 (v := 2) (by decide) ?_
          obtain ⟨w80v, w80e, w80⟩ := ziadd (a := w79v) (b := (2 : Int32)) w79g li2 (by omega) (by omega)
          refine zs_iadd (pc := 158) t289_158 (c := w80v) w80e ?_
          refine zs_iload_n (pc := 159) t289_159 rfl ?_
          have w81 : zIv mLo mHi (zsI (zsI (zsI w71M 359 (4 * w74n) a) 359 (1 + 4 * w74n) b) 359 (2 + 4 * w74n) c) := zIv.put w78 (show (-2147483648) ≤ c.toInt ∧ c.toInt ≤ 2147483647 from zrg c)
          refine zs_iast (pc := 160) t289_160 (j := (2 + 4 * w74n)) (by decide) (zk1 (w71s.k fk_zMm_359)) (show w80v.toInt = (((2 + 4 * w74n) : Nat) : Int) by omega) (zk2 (w71s.k fk_zMm_359) (by omega)) ?_
          refine zs_aload_n (pc := 161) t289_161 rfl ?_
          refine zs_get (pc := 162) t289_162 (by decide) (zk1 (w71s.k fk_zMm_336)) (w71s.p rfl fv_zMm_336_38) ?_
          refine zs_iconst (pc := 165) t289_165 (v := 4) (by decide) ?_
          refine zs_iload (pc := 166) t289_166 rfl ?_
          obtain ⟨w82v, w82⟩ : ∃ v, (4 : Int32) * w71x5 = v := ⟨_, rfl⟩
          have w82g : w82v.toInt = 4 * w71x5.toInt := by rw [← w82]; exact zmulc li4 rfl (by omega) (by omega)
          refine zs_imul (pc := 168) t289_168 (c := w82v) w82 ?_
          refine zs_iconst (pc := 169) t289_169 (v := 3) (by decide) ?_
          obtain ⟨w83v, w83e, w83⟩ := ziadd (a := w82v) (b := (3 : Int32)) w82g li3 (by omega) (by omega)
          refine zs_iadd (pc := 170) t289_170 (c := w83v) w83e ?_
          refine zs_iload (pc := 171) t289_171 rfl ?_
          have w84 : zIv mLo mHi (zsI (zsI (zsI (zsI w71M 359 (4 * w74n) a) 359 (1 + 4 * w74n) b) 359 (2 + 4 * w74n) c) 359 (3 + 4 * w74n) d) := zIv.put w81 (show (-2147483648) ≤ d.toInt ∧ d.toInt ≤ 2147483647 from zrg d)
          refine zs_iast (pc := 173) t289_173 (j := (3 + 4 * w74n)) (by decide) (zk1 (w71s.k fk_zMm_359)) (show w83v.toInt = (((3 + 4 * w74n) : Nat) : Int) by omega) (zk2 (w71s.k fk_zMm_359) (by omega)) ?_
          refine zs_aload_n (pc := 174) t289_174 rfl ?_
          refine zs_dup (pc := 175) t289_175 rfl ?_
          refine zs_get (pc := 176) t289_176 (by decide) (zk1 (w71s.k fk_zMm_336)) (zfvi rfl ((zIo (by decide)).trans ((zIo (by decide)).trans ((zIo (by decide)).trans ((zIo (by decide)).trans ((w71F 336 39 rfl).trans rfl)))))) ?_
          refine zs_iconst (pc := 179) t289_179 (v := 1) (by decide) ?_
          obtain ⟨w85v, w85e, w85⟩ := ziadd (a := (zI M 336 39)) (b := (1 : Int32)) rfl li1 (by omega) (by omega)
          refine zs_iadd (pc := 180) t289_180 (c := w85v) w85e ?_
          have w86 : zIv mLo mHi (zsI (zsI (zsI (zsI (zsI w71M 359 (4 * w74n) a) 359 (1 + 4 * w74n) b) 359 (2 + 4 * w74n) c) 359 (3 + 4 * w74n) d) 336 39 w85v) := zIv.put w84 (show 0 ≤ w85v.toInt ∧ w85v.toInt ≤ 20000 from ⟨by omega, by omega⟩)
          refine zs_putI (pc := 181) t289_181 (zk1 (w71s.k fk_zMm_336)) rfl ?_
          have w87 : (zI (zsI (zsI (zsI (zsI (zsI w71M 359 (4 * w74n) a) 359 (1 + 4 * w74n) b) 359 (2 + 4 * w74n) c) 359 (3 + 4 * w74n) d) 336 39 w85v) 336 39).toInt = ((zI M 336 39).toInt + 1) := (congrArg Int32.toInt zIs).trans w85
          exact zs_vret (pc := 184) t289_184 mr289 (hQ _ w71s w86 (((((((zFr.refl).trans (w71F.mono rfl)).put rfl).put rfl).put rfl).put rfl).put rfl) w71J (by omega))
        · refine zs_if_leF (pc := 22) t289_22 rfl (by omega) ?_
          refine zs_iload (pc := 25) t289_25 rfl ?_
          refine zs_iload_n (pc := 27) t289_27 rfl ?_
          refine zs_iload_n (pc := 28) t289_28 rfl ?_
          refine zs_iload_n (pc := 29) t289_29 rfl ?_
          refine zs_aload_n (pc := 30) t289_30 rfl ?_
          refine zs_get (pc := 31) t289_31 (by decide) (zk1 (w71s.k fk_zMm_336)) (w71s.p rfl fv_zMm_336_38) ?_
          refine zs_iconst (pc := 34) t289_34 (v := 4) (by decide) ?_
          refine zs_iload (pc := 35) t289_35 rfl ?_
          obtain ⟨w88v, w88⟩ : ∃ v, (4 : Int32) * w71x5 = v := ⟨_, rfl⟩
          have w88g : w88v.toInt = 4 * w71x5.toInt := by rw [← w88]; exact zmulc li4 rfl (by omega) (by omega)
          refine zs_imul (pc := 37) t289_37 (c := w88v) w88 ?_
          refine zs_iconst (pc := 38) t289_38 (v := 1) (by decide) ?_
          obtain ⟨w89v, w89e, w89⟩ := zisub (a := w88v) (b := (1 : Int32)) w88g li1 (by omega) (by omega)
          refine zs_isub (pc := 39) t289_39 (c := w89v) w89e ?_
          obtain ⟨w90n, w90⟩ : ∃ n : Nat, w89v.toInt = (n : Int) := ⟨w89v.toInt.toNat, by omega⟩
          have w91 := zrg (zI w71M 359 w90n)
          refine zs_iald (pc := 40) t289_40 (j := w90n) (by decide) (zk1 (w71s.k fk_zMm_359)) w90 (zk2 (w71s.k fk_zMm_359) (by omega)) rfl ?_
          refine zs_aload_n (pc := 41) t289_41 rfl ?_
          refine zs_get (pc := 42) t289_42 (by decide) (zk1 (w71s.k fk_zMm_336)) (w71s.p rfl fv_zMm_336_38) ?_
          refine zs_iconst (pc := 45) t289_45 (v := 4) (by decide) ?_
          refine zs_iload (pc := 46) t289_46 rfl ?_
          obtain ⟨w92v, w92⟩ : ∃ v, (4 : Int32) * w71x5 = v := ⟨_, rfl⟩
          have w92g : w92v.toInt = 4 * w71x5.toInt := by rw [← w92]; exact zmulc li4 rfl (by omega) (by omega)
          refine zs_imul (pc := 48) t289_48 (c := w92v) w92 ?_
          refine zs_iconst (pc := 49) t289_49 (v := 4) (by decide) ?_
          obtain ⟨w93v, w93e, w93⟩ := zisub (a := w92v) (b := (4 : Int32)) w92g li4 (by omega) (by omega)
          refine zs_isub (pc := 50) t289_50 (c := w93v) w93e ?_
          obtain ⟨w94n, w94⟩ : ∃ n : Nat, w93v.toInt = (n : Int) := ⟨w93v.toInt.toNat, by omega⟩
          have w95 := zrg (zI w71M 359 w94n)
          refine zs_iald (pc := 51) t289_51 (j := w94n) (by decide) (zk1 (w71s.k fk_zMm_359)) w94 (zk2 (w71s.k fk_zMm_359) (by omega)) rfl ?_
          refine zs_aload_n (pc := 52) t289_52 rfl ?_
          refine zs_get (pc := 53) t289_53 (by decide) (zk1 (w71s.k fk_zMm_336)) (w71s.p rfl fv_zMm_336_38) ?_
          refine zs_iconst (pc := 56) t289_56 (v := 4) (by decide) ?_
          refine zs_iload (pc := 57) t289_57 rfl ?_
          obtain ⟨w96v, w96⟩ : ∃ v, (4 : Int32) * w71x5 = v := ⟨_, rfl⟩
          have w96g : w96v.toInt = 4 * w71x5.toInt := by rw [← w96]; exact zmulc li4 rfl (by omega) (by omega)
          refine zs_imul (pc := 59) t289_59 (c := w96v) w96 ?_
          refine zs_iconst (pc := 60) t289_60 (v := 3) (by decide) ?_
          obtain ⟨w97v, w97e, w97⟩ := zisub (a := w96v) (b := (3 : Int32)) w96g li3 (by omega) (by omega)
          refine zs_isub (pc := 61) t289_61 (c := w97v) w97e ?_
          obtain ⟨w98n, w98⟩ : ∃ n : Nat, w97v.toInt = (n : Int) := ⟨w97v.toInt.toNat, by omega⟩
          have w99 := zrg (zI w71M 359 w98n)
          refine zs_iald (pc := 62) t289_62 (j := w98n) (by decide) (zk1 (w71s.k fk_zMm_359)) w98 (zk2 (w71s.k fk_zMm_359) (by omega)) rfl ?_
          refine zs_aload_n (pc := 63) t289_63 rfl ?_
          refine zs_get (pc := 64) t289_64 (by decide) (zk1 (w71s.k fk_zMm_336)) (w71s.p rfl fv_zMm_336_38) ?_
          refine zs_iconst (pc := 67) t289_67 (v := 4) (by decide) ?_
          refine zs_iload (pc := 68) t289_68 rfl ?_
          obtain ⟨w100v, w100⟩ : ∃ v, (4 : Int32) * w71x5 = v := ⟨_, rfl⟩
          have w100g : w100v.toInt = 4 * w71x5.toInt := by rw [← w100]; exact zmulc li4 rfl (by omega) (by omega)
          refine zs_imul (pc := 70) t289_70 (c := w100v) w100 ?_
          refine zs_iconst (pc := 71) t289_71 (v := 2) (by decide) ?_
          obtain ⟨w101v, w101e, w101⟩ := zisub (a := w100v) (b := (2 : Int32)) w100g li2 (by omega) (by omega)
          refine zs_isub (pc := 72) t289_72 (c := w101v) w101e ?_
          obtain ⟨w102n, w102⟩ : ∃ n : Nat, w101v.toInt = (n : Int) := ⟨w101v.toInt.toNat, by omega⟩
          have w103 := zrg (zI w71M 359 w102n)
          refine zs_iald (pc := 73) t289_73 (j := w102n) (by decide) (zk1 (w71s.k fk_zMm_359)) w102 (zk2 (w71s.k fk_zMm_359) (by omega)) rfl ?_
          refine zs_invS (pc := 74) (as := [.int d, .int a, .int b, .int c, .int (zI w71M 359 w90n), .int (zI w71M 359 w94n), .int (zI w71M 359 w98n), .int (zI w71M 359 w102n)]) (st := []) t289_74 (by decide) mf279 rfl rfl ⟨by decide, by decide, Nat.le_of_ble_eq_true rfl, Nat.le_of_ble_eq_true rfl⟩ (K279 w71s w71I ?_) (fun _ _ q => q)
          intro w104v  w104a w104b
          show zGo X l 2 0 0 289 77 [(0, .ref 336), (1, .int a), (2, .int b), (3, .int c), (4, .int d), (5, .int w71x5)] [.int w104v] w71M _
          by_cases w105 : w104v.toInt = 0
          · refine zs_if_eqT (pc := 77) t289_77 rfl (by omega) ?_
            refine zs_aload_n (pc := 127) t289_127 rfl ?_
            refine zs_get (pc := 128) t289_128 (by decide) (zk1 (w71s.k fk_zMm_336)) (w71s.p rfl fv_zMm_336_38) ?_
            refine zs_iconst (pc := 131) t289_131 (v := 4) (by decide) ?_
            refine zs_iload (pc := 132) t289_132 rfl ?_
            obtain ⟨w106v, w106⟩ : ∃ v, (4 : Int32) * w71x5 = v := ⟨_, rfl⟩
            have w106g : w106v.toInt = 4 * w71x5.toInt := by rw [← w106]; exact zmulc li4 rfl (by omega) (by omega)
            refine zs_imul (pc := 134) t289_134 (c := w106v) w106 ?_
            refine zs_iload_n (pc := 135) t289_135 rfl ?_
            obtain ⟨w107n, w107⟩ : ∃ n : Nat, w71x5.toInt = (n : Int) := ⟨(w71x5.toInt).toNat, by omega⟩
            have w108 : zIv mLo mHi (zsI w71M 359 (4 * w107n) a) := zIv.put w71I (show (-2147483648) ≤ a.toInt ∧ a.toInt ≤ 2147483647 from zrg a)
            refine zs_iast (pc := 136) t289_136 (j := (4 * w107n)) (by decide) (zk1 (w71s.k fk_zMm_359)) (show w106v.toInt = (((4 * w107n) : Nat) : Int) by omega) (zk2 (w71s.k fk_zMm_359) (by omega)) ?_
            refine zs_aload_n (pc := 137) t289_137 rfl ?_
            refine zs_get (pc := 138) t289_138 (by decide) (zk1 (w71s.k fk_zMm_336)) (w71s.p rfl fv_zMm_336_38) ?_
            refine zs_iconst (pc := 141) t289_141 (v := 4) (by decide) ?_
            refine zs_iload (pc := 142) t289_142 rfl ?_
            obtain ⟨w109v, w109⟩ : ∃ v, (4 : Int32) * w71x5 = v := ⟨_, rfl⟩
            have w109g : w109v.toInt = 4 * w71x5.toInt := by rw [← w109]; exact zmulc li4 rfl (by omega) (by omega)
            refine zs_imul (pc := 144) t289_144 (c := w109v) w109 ?_
            refine zs_iconst (pc := 145) t289_145 (v := 1) (by decide) ?_
            obtain ⟨w110v, w110e, w110⟩ := ziadd (a := w109v) (b := (1 : Int32)) w109g li1 (by omega) (by omega)
            refine zs_iadd (pc := 146) t289_146 (c := w110v) w110e ?_
            refine zs_iload_n (pc := 147) t289_147 rfl ?_
            have w111 : zIv mLo mHi (zsI (zsI w71M 359 (4 * w107n) a) 359 (1 + 4 * w107n) b) := zIv.put w108 (show (-2147483648) ≤ b.toInt ∧ b.toInt ≤ 2147483647 from zrg b)
            refine zs_iast (pc := 148) t289_148 (j := (1 + 4 * w107n)) (by decide) (zk1 (w71s.k fk_zMm_359)) (show w110v.toInt = (((1 + 4 * w107n) : Nat) : Int) by omega) (zk2 (w71s.k fk_zMm_359) (by omega)) ?_
            refine zs_aload_n (pc := 149) t289_149 rfl ?_
            refine zs_get (pc := 150) t289_150 (by decide) (zk1 (w71s.k fk_zMm_336)) (w71s.p rfl fv_zMm_336_38) ?_
            refine zs_iconst (pc := 153) t289_153 (v := 4) (by decide) ?_
            refine zs_iload (pc := 154) t289_154 rfl ?_
            obtain ⟨w112v, w112⟩ : ∃ v, (4 : Int32) * w71x5 = v := ⟨_, rfl⟩
            have w112g : w112v.toInt = 4 * w71x5.toInt := by rw [← w112]; exact zmulc li4 rfl (by omega) (by omega)
            refine zs_imul (pc := 156) t289_156 (c := w112v) w112 ?_
            refine zs_iconst (pc := 157) t289_157 (v := 2) (by decide) ?_
            obtain ⟨w113v, w113e, w113⟩ := ziadd (a := w112v) (b := (2 : Int32)) w112g li2 (by omega) (by omega)
            refine zs_iadd (pc := 158) t289_158 (c := w113v) w113e ?_
            refine zs_iload_n (pc := 159) t289_159 rfl ?_
            have w114 : zIv mLo mHi (zsI (zsI (zsI w71M 359 (4 * w107n) a) 359 (1 + 4 * w107n) b) 359 (2 + 4 * w107n) c) := zIv.put w111 (show (-2147483648) ≤ c.toInt ∧ c.toInt ≤ 2147483647 from zrg c)
            refine zs_iast (pc := 160) t289_160 (j := (2 + 4 * w107n)) (by decide) (zk1 (w71s.k fk_zMm_359)) (show w113v.toInt = (((2 + 4 * w107n) : Nat) : Int) by omega) (zk2 (w71s.k fk_zMm_359) (by omega)) ?_
            refine zs_aload_n (pc := 161) t289_161 rfl ?_
            refine zs_get (pc := 162) t289_162 (by decide) (zk1 (w71s.k fk_zMm_336)) (w71s.p rfl fv_zMm_336_38) ?_
            refine zs_iconst (pc := 165) t289_165 (v := 4) (by decide) ?_
            refine zs_iload (pc := 166) t289_166 rfl ?_
            obtain ⟨w115v, w115⟩ : ∃ v, (4 : Int32) * w71x5 = v := ⟨_, rfl⟩
            have w115g : w115v.toInt = 4 * w71x5.toInt := by rw [← w115]; exact zmulc li4 rfl (by omega) (by omega)
            refine zs_imul (pc := 168) t289_168 (c := w115v) w115 ?_
            refine zs_iconst (pc := 169) t289_169 (v := 3) (by decide) ?_
            obtain ⟨w116v, w116e, w116⟩ := ziadd (a := w115v) (b := (3 : Int32)) w115g li3 (by omega) (by omega)
            refine zs_iadd (pc := 170) t289_170 (c := w116v) w116e ?_
            refine zs_iload (pc := 171) t289_171 rfl ?_
            have w117 : zIv mLo mHi (zsI (zsI (zsI (zsI w71M 359 (4 * w107n) a) 359 (1 + 4 * w107n) b) 359 (2 + 4 * w107n) c) 359 (3 + 4 * w107n) d) := zIv.put w114 (show (-2147483648) ≤ d.toInt ∧ d.toInt ≤ 2147483647 from zrg d)
            refine zs_iast (pc := 173) t289_173 (j := (3 + 4 * w107n)) (by decide) (zk1 (w71s.k fk_zMm_359)) (show w116v.toInt = (((3 + 4 * w107n) : Nat) : Int) by omega) (zk2 (w71s.k fk_zMm_359) (by omega)) ?_
            refine zs_aload_n (pc := 174) t289_174 rfl ?_
            refine zs_dup (pc := 175) t289_175 rfl ?_
            refine zs_get (pc := 176) t289_176 (by decide) (zk1 (w71s.k fk_zMm_336)) (zfvi rfl ((zIo (by decide)).trans ((zIo (by decide)).trans ((zIo (by decide)).trans ((zIo (by decide)).trans ((w71F 336 39 rfl).trans rfl)))))) ?_
            refine zs_iconst (pc := 179) t289_179 (v := 1) (by decide) ?_
            obtain ⟨w118v, w118e, w118⟩ := ziadd (a := (zI M 336 39)) (b := (1 : Int32)) rfl li1 (by omega) (by omega)
            refine zs_iadd (pc := 180) t289_180 (c := w118v) w118e ?_
            have w119 : zIv mLo mHi (zsI (zsI (zsI (zsI (zsI w71M 359 (4 * w107n) a) 359 (1 + 4 * w107n) b) 359 (2 + 4 * w107n) c) 359 (3 + 4 * w107n) d) 336 39 w118v) := zIv.put w117 (show 0 ≤ w118v.toInt ∧ w118v.toInt ≤ 20000 from ⟨by omega, by omega⟩)
            refine zs_putI (pc := 181) t289_181 (zk1 (w71s.k fk_zMm_336)) rfl ?_
            have w120 : (zI (zsI (zsI (zsI (zsI (zsI w71M 359 (4 * w107n) a) 359 (1 + 4 * w107n) b) 359 (2 + 4 * w107n) c) 359 (3 + 4 * w107n) d) 336 39 w118v) 336 39).toInt = ((zI M 336 39).toInt + 1) := (congrArg Int32.toInt zIs).trans w118
            exact zs_vret (pc := 184) t289_184 mr289 (hQ _ w71s w119 (((((((zFr.refl).trans (w71F.mono rfl)).put rfl).put rfl).put rfl).put rfl).put rfl) w71J (by omega))
          · refine zs_if_eqF (pc := 77) t289_77 rfl (by omega) ?_
            refine zs_iconst (pc := 80) t289_80 (v := 0) (by decide) ?_
            refine zs_istore (pc := 81) t289_81 (ls' := [(6, .int (0 : Int32)), (0, .ref 336), (1, .int a), (2, .int b), (3, .int c), (4, .int d), (5, .int w71x5)]) (zml mf289 (by decide)) rfl ?_
            have w121L : ∀ (m : Nat) (w121x6 : Int32) (w121M : zM), (0 ≤ w121x6.toInt ∧ w121x6.toInt ≤ 4) → zSk zMm w121M → zIv mLo mHi w121M → zFr [(359, 359, none)] w71M w121M → zJ w121M 351 = zJ w71M 351 → 4 - w121x6.toInt ≤ (m : Int) → zGo X l 2 0 0 289 83 [(0, .ref 336), (1, .int a), (2, .int b), (3, .int c), (4, .int d), (5, .int w71x5), (6, .int w121x6)] [] w121M Q := by
              intro m
              induction m using Nat.strongRecOn with
              | ind w121m w121ih =>
                intro w121x6 w121M w121b6 w121s w121I w121F w121J w121q
                refine zs_iload (pc := 83) t289_83 rfl ?_
                refine zs_iconst (pc := 85) t289_85 (v := 4) (by decide) ?_
                by_cases w122 : 4 ≤ w121x6.toInt
                · refine zs_icmp_geT (pc := 86) t289_86 rfl li4 (by omega) ?_
                  obtain ⟨w123v, w123e, w123⟩ := ziadd (a := w71x5) (b := Int32.ofInt (-1)) rfl (show (Int32.ofInt (-1)).toInt = (-1) by decide) (by omega) (by omega)
                  refine zs_iinc (pc := 121) t289_121 (ls' := [(5, .int w123v), (0, .ref 336), (1, .int a), (2, .int b), (3, .int c), (4, .int d), (6, .int w121x6)]) (zml mf289 (by decide)) rfl (c := w123v) w123e rfl ?_
                  refine zs_goto (pc := 124) t289_124 ?_
                  refine zGo.locals (ls' := [(0, .ref 336), (1, .int a), (2, .int b), (3, .int c), (4, .int d), (5, .int w123v)]) (by simp) ?_
                  have w124 := w123
                  exact w71ih (w71m - 1) (by omega) w123v w121M ⟨by omega, by omega⟩ w121s w121I (((zFr.refl).trans (w71F.mono rfl)).trans (w121F.mono rfl)) (w121J.trans w71J) (by omega)
                · refine zs_icmp_geF (pc := 86) t289_86 rfl li4 (by omega) ?_
                  refine zs_aload_n (pc := 89) t289_89 rfl ?_
                  refine zs_get (pc := 90) t289_90 (by decide) (zk1 (w121s.k fk_zMm_336)) (w121s.p rfl fv_zMm_336_38) ?_
                  refine zs_iconst (pc := 93) t289_93 (v := 4) (by decide) ?_
                  refine zs_iload (pc := 94) t289_94 rfl ?_
                  obtain ⟨w125v, w125⟩ : ∃ v, (4 : Int32) * w71x5 = v := ⟨_, rfl⟩
                  have w125g : w125v.toInt = 4 * w71x5.toInt := by rw [← w125]; exact zmulc li4 rfl (by omega) (by omega)
                  refine zs_imul (pc := 96) t289_96 (c := w125v) w125 ?_
                  refine zs_iload (pc := 97) t289_97 rfl ?_
                  obtain ⟨w126v, w126e, w126⟩ := ziadd (a := w125v) (b := w121x6) w125g rfl (by omega) (by omega)
                  refine zs_iadd (pc := 99) t289_99 (c := w126v) w126e ?_
                  refine zs_aload_n (pc := 100) t289_100 rfl ?_
                  refine zs_get (pc := 101) t289_101 (by decide) (zk1 (w121s.k fk_zMm_336)) (w121s.p rfl fv_zMm_336_38) ?_
                  refine zs_iconst (pc := 104) t289_104 (v := 4) (by decide) ?_
                  refine zs_iload (pc := 105) t289_105 rfl ?_
                  obtain ⟨w127v, w127⟩ : ∃ v, (4 : Int32) * w71x5 = v := ⟨_, rfl⟩
                  have w127g : w127v.toInt = 4 * w71x5.toInt := by rw [← w127]; exact zmulc li4 rfl (by omega) (by omega)
                  refine zs_imul (pc := 107) t289_107 (c := w127v) w127 ?_
                  refine zs_iconst (pc := 108) t289_108 (v := 4) (by decide) ?_
                  obtain ⟨w128v, w128e, w128⟩ := zisub (a := w127v) (b := (4 : Int32)) w127g li4 (by omega) (by omega)
                  refine zs_isub (pc := 109) t289_109 (c := w128v) w128e ?_
                  refine zs_iload (pc := 110) t289_110 rfl ?_
                  obtain ⟨w129v, w129e, w129⟩ := ziadd (a := w128v) (b := w121x6) w128 rfl (by omega) (by omega)
                  refine zs_iadd (pc := 112) t289_112 (c := w129v) w129e ?_
                  obtain ⟨w130n, w130⟩ : ∃ n : Nat, w129v.toInt = (n : Int) := ⟨w129v.toInt.toNat, by omega⟩
                  have w131 := zrg (zI w121M 359 w130n)
                  refine zs_iald (pc := 113) t289_113 (j := w130n) (by decide) (zk1 (w121s.k fk_zMm_359)) w130 (zk2 (w121s.k fk_zMm_359) (by omega)) rfl ?_
                  obtain ⟨w132n, w132⟩ : ∃ n : Nat, w71x5.toInt = (n : Int) := ⟨(w71x5.toInt).toNat, by omega⟩
                  obtain ⟨w133n, w133⟩ : ∃ n : Nat, w121x6.toInt = (n : Int) := ⟨(w121x6.toInt).toNat, by omega⟩
                  have w134 : zIv mLo mHi (zsI w121M 359 (4 * w132n + w133n) (zI w121M 359 w130n)) := zIv.put w121I (show (-2147483648) ≤ (zI w121M 359 w130n).toInt ∧ (zI w121M 359 w130n).toInt ≤ 2147483647 from zrg (zI w121M 359 w130n))
                  refine zs_iast (pc := 114) t289_114 (j := (4 * w132n + w133n)) (by decide) (zk1 (w121s.k fk_zMm_359)) (show w126v.toInt = (((4 * w132n + w133n) : Nat) : Int) by omega) (zk2 (w121s.k fk_zMm_359) (by omega)) ?_
                  obtain ⟨w135v, w135e, w135⟩ := ziadd (a := w121x6) (b := Int32.ofInt 1) rfl (show (Int32.ofInt 1).toInt = 1 by decide) (by omega) (by omega)
                  refine zs_iinc (pc := 115) t289_115 (ls' := [(6, .int w135v), (0, .ref 336), (1, .int a), (2, .int b), (3, .int c), (4, .int d), (5, .int w71x5)]) (zml mf289 (by decide)) rfl (c := w135v) w135e rfl ?_
                  refine zs_goto (pc := 118) t289_118 ?_
                  refine zGo.locals (ls' := [(0, .ref 336), (1, .int a), (2, .int b), (3, .int c), (4, .int d), (5, .int w71x5), (6, .int w135v)]) (by simp) ?_
                  have w136 := w135
                  exact w121ih (w121m - 1) (by omega) w135v (zsI w121M 359 (4 * w132n + w133n) (zI w121M 359 w130n)) ⟨by omega, by omega⟩ w121s w134 (((zFr.refl).trans (w121F.mono rfl)).put rfl) w121J (by omega)
            refine zGo.locals (ls' := [(0, .ref 336), (1, .int a), (2, .int b), (3, .int c), (4, .int d), (5, .int w71x5), (6, .int (0 : Int32))]) (by simp) ?_
            have w137 := li0
            exact w121L ((4 - 0 : Int).toNat) (0 : Int32) w71M ⟨by decide, by decide⟩ w71s w71I zFr.refl rfl (by omega)
    refine zGo.locals (ls' := [(0, .ref 336), (1, .int a), (2, .int b), (3, .int c), (4, .int d), (5, .int (zI M 336 39))]) (by simp) ?_
    exact w71L (((zI M 336 39).toInt : Int).toNat) (zI M 336 39) M ⟨by omega, by omega⟩ hs hI zFr.refl rfl (by omega)
