theorem O315 {X : zX} {l : Launch} {M : zM} {Q : Option Value → zM → Prop} {a b c : Int32} (hs : zSk zMm M) (hI : zIv mLo mHi M) {F : Nat → Int} (x0 : zRw M 0 F) (x1 : zWF F) (hQ : ∀ v : Int32, (zVtP F a.toInt b.toInt c.toInt v.toInt) → Q (some (.int v)) M) : zCall X l 3 0 0 315 [.ref 336, .int a, .int b, .int c] M Q := by
  have ga := zrg a
  have gb := zrg b
  have gc := zrg c
  refine zs_in (by decide) mf315 (Nat.le_of_ble_eq_true rfl) ?_
  show zGo X l 3 0 0 315 0 [(0, .ref 336), (1, .int a), (2, .int b), (3, .int c)] [] M _
  have f1 := x1.1
  have f3 := x1.2.2.2
  have w1 := ibA0 hI
  have w2 : (zI M 337 0).toInt = (zI M 337 0).toInt := (congrArg Int32.toInt rfl).trans rfl
  have e0 : (zI M 337 0).toInt = F 0 := x0.at (by decide) (by decide) (by decide)
  have w3 := ibA1 hI
  have w4 : (zI M 337 1).toInt = (zI M 337 1).toInt := (congrArg Int32.toInt rfl).trans rfl
  have e1 : (zI M 337 1).toInt = F 1 := x0.at (by decide) (by decide) (by decide)
  have w5 := ibA2 hI
  have w6 : (zI M 337 2).toInt = (zI M 337 2).toInt := (congrArg Int32.toInt rfl).trans rfl
  have e2 : (zI M 337 2).toInt = F 2 := x0.at (by decide) (by decide) (by decide)
  refine zs_iload_n (pc := 0) t315_0 rfl ?_
  refine zs_i2l (pc := 1) t315_1 rfl ?_
  refine zs_aload_n (pc := 2) t315_2 rfl ?_
  refine zs_get (pc := 3) t315_3 (by decide) (zk1 (hs.k fk_zMm_336)) (hs.p rfl fv_zMm_336_0) ?_
  refine zs_iconst (pc := 6) t315_6 (v := 5) (by decide) ?_
  have w7 := ibA5 hI
  have w8 : (zI M 337 5).toInt = F 5 := x0.at (by decide) (by decide) (by decide)
  refine zs_iald (pc := 7) t315_7 (j := 5) (by decide) (zk1 (hs.k fk_zMm_337)) li5 (zk2 (hs.k fk_zMm_337) (by decide)) rfl ?_
  obtain ⟨w9v, w9e⟩ : ∃ v, -(zI M 337 5) = v := ⟨_, rfl⟩
  have w9 : w9v.toInt = -(zI M 337 5).toInt := by rw [← w9e]; exact zneg rfl (by omega)
  refine zs_ineg (pc := 8) t315_8 (c := w9v) w9e ?_
  refine zs_i2l (pc := 9) t315_9 rfl ?_
  refine zs_aload_n (pc := 10) t315_10 rfl ?_
  refine zs_get (pc := 11) t315_11 (by decide) (zk1 (hs.k fk_zMm_336)) (hs.p rfl fv_zMm_336_0) ?_
  refine zs_iconst (pc := 14) t315_14 (v := 5) (by decide) ?_
  have w10 : (zI M 337 5).toInt = F 5 := x0.at (by decide) (by decide) (by decide)
  refine zs_iald (pc := 15) t315_15 (j := 5) (by decide) (zk1 (hs.k fk_zMm_337)) li5 (zk2 (hs.k fk_zMm_337) (by decide)) rfl ?_
  refine zs_i2l (pc := 16) t315_16 rfl ?_
  by_cases w11 : (-(zI M 337 5).toInt) ≤ a.toInt ∧ a.toInt ≤ (zI M 337 5).toInt
  · refine zs_invS (pc := 17) (as := [.long a.toInt64, .long w9v.toInt64, .long (zI M 337 5).toInt64]) (st := []) t315_17 (by decide) mf228 rfl rfl ⟨by decide, by decide, Nat.le_of_ble_eq_true rfl, Nat.le_of_ble_eq_true rfl⟩ (K228T (zi2l rfl) (zi2l w9) (zi2l rfl) (by omega) ?_) (fun _ _ q => q)
    show zGo X l 3 0 0 315 20 [(0, .ref 336), (1, .int a), (2, .int b), (3, .int c)] [.int (1 : Int32)] M _
    refine zs_if_eqF (pc := 20) t315_20 li1 (by decide) ?_
    refine zs_iload_n (pc := 23) t315_23 rfl ?_
    refine zs_i2l (pc := 24) t315_24 rfl ?_
    refine zs_aload_n (pc := 25) t315_25 rfl ?_
    refine zs_get (pc := 26) t315_26 (by decide) (zk1 (hs.k fk_zMm_336)) (hs.p rfl fv_zMm_336_0) ?_
    refine zs_bipush (pc := 29) t315_29 (v := 6) (by decide) ?_
    have w12 := ibA6 hI
    have w13 : (zI M 337 6).toInt = F 6 := x0.at (by decide) (by decide) (by decide)
    refine zs_iald (pc := 31) t315_31 (j := 6) (by decide) (zk1 (hs.k fk_zMm_337)) li6 (zk2 (hs.k fk_zMm_337) (by decide)) rfl ?_
    obtain ⟨w14v, w14e⟩ : ∃ v, -(zI M 337 6) = v := ⟨_, rfl⟩
    have w14 : w14v.toInt = -(zI M 337 6).toInt := by rw [← w14e]; exact zneg rfl (by omega)
    refine zs_ineg (pc := 32) t315_32 (c := w14v) w14e ?_
    refine zs_i2l (pc := 33) t315_33 rfl ?_
    refine zs_aload_n (pc := 34) t315_34 rfl ?_
    refine zs_get (pc := 35) t315_35 (by decide) (zk1 (hs.k fk_zMm_336)) (hs.p rfl fv_zMm_336_0) ?_
    refine zs_bipush (pc := 38) t315_38 (v := 6) (by decide) ?_
    have w15 : (zI M 337 6).toInt = F 6 := x0.at (by decide) (by decide) (by decide)
    refine zs_iald (pc := 40) t315_40 (j := 6) (by decide) (zk1 (hs.k fk_zMm_337)) li6 (zk2 (hs.k fk_zMm_337) (by decide)) rfl ?_
    refine zs_i2l (pc := 41) t315_41 rfl ?_
    by_cases w16 : (-(zI M 337 6).toInt) ≤ b.toInt ∧ b.toInt ≤ (zI M 337 6).toInt
    · refine zs_invS (pc := 42) (as := [.long b.toInt64, .long w14v.toInt64, .long (zI M 337 6).toInt64]) (st := []) t315_42 (by decide) mf228 rfl rfl ⟨by decide, by decide, Nat.le_of_ble_eq_true rfl, Nat.le_of_ble_eq_true rfl⟩ (K228T (zi2l rfl) (zi2l w14) (zi2l rfl) (by omega) ?_) (fun _ _ q => q)
      show zGo X l 3 0 0 315 45 [(0, .ref 336), (1, .int a), (2, .int b), (3, .int c)] [.int (1 : Int32)] M _
      refine zs_if_neT (pc := 45) t315_45 li1 (by decide) ?_
      refine zs_iconst (pc := 50) t315_50 (v := 0) (by decide) ?_
      refine zs_istore (pc := 51) t315_51 (ls' := [(4, .int (0 : Int32)), (0, .ref 336), (1, .int a), (2, .int b), (3, .int c)]) (zml mf315 (by decide)) rfl ?_
      refine zs_iconst (pc := 53) t315_53 (v := 0) (by decide) ?_
      refine zs_istore (pc := 54) t315_54 (ls' := [(5, .int (0 : Int32)), (4, .int (0 : Int32)), (0, .ref 336), (1, .int a), (2, .int b), (3, .int c)]) (zml mf315 (by decide)) rfl ?_
      have w17L : ∀ (m : Nat) (w17x4 : Int32) (w17x5 : Int32), (0 ≤ w17x5.toInt ∧ w17x5.toInt ≤ 60) → (w17x5.toInt ≤ F 1) → (∀ k : Nat, (k : Int) = w17x5.toInt → zMk w17x4 (zlr F (zvh F a.toInt b.toInt c.toInt) k)) → 60 - w17x5.toInt ≤ (m : Int) → zGo X l 3 0 0 315 56 [(0, .ref 336), (1, .int a), (2, .int b), (3, .int c), (4, .int w17x4), (5, .int w17x5)] [] M Q := by
        intro m
        induction m using Nat.strongRecOn with
        | ind w17m w17ih =>
          intro w17x4 w17x5 w17b5 w17r0 w17t0 w17q
          have w17g4 := zrg w17x4
          refine zs_iload (pc := 56) t315_56 rfl ?_
          refine zs_aload_n (pc := 58) t315_58 rfl ?_
          refine zs_get (pc := 59) t315_59 (by decide) (zk1 (hs.k fk_zMm_336)) (hs.p rfl fv_zMm_336_0) ?_
          refine zs_iconst (pc := 62) t315_62 (v := 1) (by decide) ?_
          have w18 : (zI M 337 1).toInt = F 1 := x0.at (by decide) (by decide) (by decide)
          refine zs_iald (pc := 63) t315_63 (j := 1) (by decide) (zk1 (hs.k fk_zMm_337)) li1 (zk2 (hs.k fk_zMm_337) (by decide)) rfl ?_
          by_cases w19 : (zI M 337 1).toInt ≤ w17x5.toInt
          · refine zs_icmp_geT (pc := 64) t315_64 rfl rfl (by omega) ?_
            refine zs_iload (pc := 133) t315_133 rfl ?_
            refine zs_invS (pc := 135) (as := [.int w17x4]) (st := []) t315_135 (by decide) mf278 rfl rfl ⟨by decide, by decide, Nat.le_of_ble_eq_true rfl, Nat.le_of_ble_eq_true rfl⟩ (W278 hs hI ?_) (fun _ _ q => q)
            intro w20v w20x0
            have w20g := zrg w20v
            show zGo X l 3 0 0 315 138 [(0, .ref 336), (1, .int a), (2, .int b), (3, .int c), (4, .int w17x4), (5, .int w17x5)] [.int w20v] M _
            obtain ⟨w21n, w21⟩ : ∃ n : Nat, w17x5.toInt = (n : Int) := ⟨(w17x5.toInt).toNat, by omega⟩
            exact zs_iret (pc := 138) t315_138 mr315 rfl (hQ _ (zVtP.mk (n := w21n) (by omega) (by omega) (by omega) (by omega) (w17t0 w21n (by omega)) (by omega) (fun h => by rw [w20x0]; exact h.m)))
          · refine zs_icmp_geF (pc := 64) t315_64 rfl rfl (by omega) ?_
            refine zs_aload_n (pc := 67) t315_67 rfl ?_
            refine zs_iload (pc := 68) t315_68 rfl ?_
            refine zs_iconst (pc := 70) t315_70 (v := 0) (by decide) ?_
            refine zs_invV (pc := 71) (k := 336) (as' := [.int w17x5, .int (0 : Int32)]) (st := []) t315_71 mf272 rfl rfl (Or.inl ⟨by decide, (zk1 (hs.k fk_zMm_336))⟩) ⟨by decide, by decide, Nat.le_of_ble_eq_true rfl, Nat.le_of_ble_eq_true rfl⟩ (zs_in (by decide) mf272 (Nat.le_of_ble_eq_true rfl) ?_) (fun _ _ q => q)
            show zGo X l 0 0 0 272 0 [(0, .ref 336), (1, .int w17x5), (2, .int (0 : Int32))] [] M _
            refine zs_aload_n (pc := 0) t272_0 rfl ?_
            refine zs_get (pc := 1) t272_1 (by decide) (zk1 (hs.k fk_zMm_336)) (hs.p rfl fv_zMm_336_0) ?_
            refine zs_bipush (pc := 4) t272_4 (v := 30) (by decide) ?_
            refine zs_iconst (pc := 6) t272_6 (v := 4) (by decide) ?_
            refine zs_iload_n (pc := 7) t272_7 rfl ?_
            obtain ⟨w22v, w22⟩ : ∃ v, (4 : Int32) * w17x5 = v := ⟨_, rfl⟩
            have w22g : w22v.toInt = 4 * w17x5.toInt := by rw [← w22]; exact zmulc li4 rfl (by omega) (by omega)
            refine zs_imul (pc := 8) t272_8 (c := w22v) w22 ?_
            obtain ⟨w23v, w23e, w23⟩ := ziadd (a := (30 : Int32)) (b := w22v) li30 w22g (by omega) (by omega)
            refine zs_iadd (pc := 9) t272_9 (c := w23v) w23e ?_
            refine zs_iload_n (pc := 10) t272_10 rfl ?_
            obtain ⟨w24v, w24e, w24⟩ := ziadd (a := w23v) (b := (0 : Int32)) w23 li0 (by omega) (by omega)
            refine zs_iadd (pc := 11) t272_11 (c := w24v) w24e ?_
            obtain ⟨w25n, w25⟩ : ∃ n : Nat, w17x5.toInt = (n : Int) := ⟨(w17x5.toInt).toNat, by omega⟩
            have w26 := ibL (j := (30 + 4 * w25n)) hI (by omega) (by omega) (by omega)
            have w27 : (zI M 337 (30 + 4 * w25n)).toInt = F (30 + 4 * w25n) := x0.at (by omega) (by omega) (by omega)
            have w28 := x1.2.2.1 w25n (by omega)
            refine zs_iald (pc := 12) t272_12 (j := (30 + 4 * w25n)) (by decide) (zk1 (hs.k fk_zMm_337)) (show w24v.toInt = (((30 + 4 * w25n) : Nat) : Int) by omega) (zk2 (hs.k fk_zMm_337) (by omega)) rfl ?_
            refine zs_iret (pc := 13) t272_13 mr272 rfl ?_
            show zGo X l 3 0 0 315 74 [(0, .ref 336), (1, .int a), (2, .int b), (3, .int c), (4, .int w17x4), (5, .int w17x5)] [.int (zI M 337 (30 + 4 * w25n))] M _
            refine zs_istore (pc := 74) t315_74 (ls' := [(6, .int (zI M 337 (30 + 4 * w25n))), (0, .ref 336), (1, .int a), (2, .int b), (3, .int c), (4, .int w17x4), (5, .int w17x5)]) (zml mf315 (by decide)) rfl ?_
            refine zs_aload_n (pc := 76) t315_76 rfl ?_
            refine zs_iload (pc := 77) t315_77 rfl ?_
            refine zs_iconst (pc := 79) t315_79 (v := -1) (by decide) ?_
            have w29 : (-1 : Int32).toInt = (-1) := lin1
            have w30 : (zI M 337 1).toInt = (zI M 337 1).toInt := (congrArg Int32.toInt rfl).trans rfl
            refine zs_invV (pc := 80) (k := 336) (as' := [.int w17x5, .int (-1 : Int32)]) (st := []) t315_80 mf271 rfl rfl (Or.inl ⟨by decide, (zk1 (hs.k fk_zMm_336))⟩) ⟨by decide, by decide, Nat.le_of_ble_eq_true rfl, Nat.le_of_ble_eq_true rfl⟩ (R271 hs hI ⟨by omega, by omega⟩ (by omega) x0 x1 ?_) (fun _ _ q => q)
            intro w31v w31x0 w31a w31b
            show zGo X l 3 0 0 315 83 [(6, .int (zI M 337 (30 + 4 * w25n))), (0, .ref 336), (1, .int a), (2, .int b), (3, .int c), (4, .int w17x4), (5, .int w17x5)] [.int w31v] M _
            by_cases w32 : w31v.toInt = 0
            · refine zs_if_eqT (pc := 83) t315_83 rfl (by omega) ?_
              obtain ⟨w33v, w33e, w33⟩ := ziadd (a := w17x5) (b := Int32.ofInt 1) rfl (show (Int32.ofInt 1).toInt = 1 by decide) (by omega) (by omega)
              refine zs_iinc (pc := 127) t315_127 (ls' := [(5, .int w33v), (6, .int (zI M 337 (30 + 4 * w25n))), (0, .ref 336), (1, .int a), (2, .int b), (3, .int c), (4, .int w17x4)]) (zml mf315 (by decide)) rfl (c := w33v) w33e rfl ?_
              refine zs_goto (pc := 130) t315_130 ?_
              refine zGo.locals (ls' := [(0, .ref 336), (1, .int a), (2, .int b), (3, .int c), (4, .int w17x4), (5, .int w33v)]) (by simp) ?_
              have w34 := w33
              exact w17ih (w17m - 1) (by omega) w17x4 w33v ⟨by omega, by omega⟩ (by omega) (fun k hk => by obtain rfl : k = w25n + 1 := (by omega); have hw := x1.2.2.1 w25n (by omega); rcases (w31x0 w25n (by omega) (by omega)) with ⟨q1, q2, q3⟩ | ⟨q1, q2⟩ <;> first | exact absurd q1 (by omega) | exact zMk.vn (w17t0 w25n (by omega)) (zvh.n (q2.resolve_right (by omega))) | skip) (by omega)
            · refine zs_if_eqF (pc := 83) t315_83 rfl (by omega) ?_
              refine zs_aload_n (pc := 86) t315_86 rfl ?_
              refine zs_iload (pc := 87) t315_87 rfl ?_
              refine zs_iconst (pc := 89) t315_89 (v := 1) (by decide) ?_
              refine zs_invV (pc := 90) (k := 336) (as' := [.int w17x5, .int (1 : Int32)]) (st := []) t315_90 mf272 rfl rfl (Or.inl ⟨by decide, (zk1 (hs.k fk_zMm_336))⟩) ⟨by decide, by decide, Nat.le_of_ble_eq_true rfl, Nat.le_of_ble_eq_true rfl⟩ (zs_in (by decide) mf272 (Nat.le_of_ble_eq_true rfl) ?_) (fun _ _ q => q)
              show zGo X l 0 0 0 272 0 [(0, .ref 336), (1, .int w17x5), (2, .int (1 : Int32))] [] M _
              refine zs_aload_n (pc := 0) t272_0 rfl ?_
              refine zs_get (pc := 1) t272_1 (by decide) (zk1 (hs.k fk_zMm_336)) (hs.p rfl fv_zMm_336_0) ?_
              refine zs_bipush (pc := 4) t272_4 (v := 30) (by decide) ?_
              refine zs_iconst (pc := 6) t272_6 (v := 4) (by decide) ?_
              refine zs_iload_n (pc := 7) t272_7 rfl ?_
              obtain ⟨w35v, w35⟩ : ∃ v, (4 : Int32) * w17x5 = v := ⟨_, rfl⟩
              have w35g : w35v.toInt = 4 * w17x5.toInt := by rw [← w35]; exact zmulc li4 rfl (by omega) (by omega)
              refine zs_imul (pc := 8) t272_8 (c := w35v) w35 ?_
              obtain ⟨w36v, w36e, w36⟩ := ziadd (a := (30 : Int32)) (b := w35v) li30 w35g (by omega) (by omega)
              refine zs_iadd (pc := 9) t272_9 (c := w36v) w36e ?_
              refine zs_iload_n (pc := 10) t272_10 rfl ?_
              obtain ⟨w37v, w37e, w37⟩ := ziadd (a := w36v) (b := (1 : Int32)) w36 li1 (by omega) (by omega)
              refine zs_iadd (pc := 11) t272_11 (c := w37v) w37e ?_
              have w38 := zrg (zI M 337 (31 + 4 * w25n))
              have w39 : (zI M 337 (31 + 4 * w25n)).toInt = F (31 + 4 * w25n) := x0.at (by omega) (by omega) (by omega)
              have w40 := x1.2.2.1 w25n (by omega)
              refine zs_iald (pc := 12) t272_12 (j := (31 + 4 * w25n)) (by decide) (zk1 (hs.k fk_zMm_337)) (show w37v.toInt = (((31 + 4 * w25n) : Nat) : Int) by omega) (zk2 (hs.k fk_zMm_337) (by omega)) rfl ?_
              refine zs_iret (pc := 13) t272_13 mr272 rfl ?_
              show zGo X l 3 0 0 315 93 [(6, .int (zI M 337 (30 + 4 * w25n))), (0, .ref 336), (1, .int a), (2, .int b), (3, .int c), (4, .int w17x4), (5, .int w17x5)] [.int (zI M 337 (31 + 4 * w25n))] M _
              refine zs_aload_n (pc := 93) t315_93 rfl ?_
              refine zs_iload (pc := 94) t315_94 rfl ?_
              refine zs_iload_n (pc := 96) t315_96 rfl ?_
              refine zs_iload_n (pc := 97) t315_97 rfl ?_
              refine zs_invV (pc := 98) (k := 336) (as' := [.int (zI M 337 (30 + 4 * w25n)), .int b, .int a]) (st := [.int (zI M 337 (31 + 4 * w25n))]) t315_98 mf249 rfl rfl (Or.inl ⟨by decide, (zk1 (hs.k fk_zMm_336))⟩) ⟨by decide, by decide, Nat.le_of_ble_eq_true rfl, Nat.le_of_ble_eq_true rfl⟩ (K249 hs hI ⟨by omega, by omega⟩ ?_) (fun _ _ q => q)
              have w41 := zrg (zlift M (zI M 337 (30 + 4 * w25n)) b a)
              obtain ⟨w43n, w43⟩ : ∃ n : Nat, (zI M 337 (30 + 4 * w25n)).toInt = (n : Int) := ⟨((zI M 337 (30 + 4 * w25n)).toInt).toNat, by omega⟩
              have w44 := zrg (zI M 337 (14 + 2 * w43n))
              have w42w := x1.2.1 w43n (by omega)
              have w42 : (zlift M (zI M 337 (30 + 4 * w25n)) b a).toInt = (b.toInt * F (14 + 2 * w43n) / 100 + a.toInt * F (14 + 2 * w43n) * F (14 + 2 * w43n) / 10000) := zliftE (F := F) (n := w43n) (by omega) rfl rfl (by omega) (by omega) (by omega) (by omega) (x0.at (by omega) (by omega) (by omega)) w42w.1 w42w.2.1
              have w42b := pLf.b (l := w43n) (t := b.toInt) (k := a.toInt) w42w.1 w42w.2.1 (by omega) (by omega) (by omega) (by omega)
              have w42e : -98901000 ≤ (zlift M (zI M 337 (30 + 4 * w25n)) b a).toInt ∧ (zlift M (zI M 337 (30 + 4 * w25n)) b a).toInt ≤ 98901000 := by omega
              show zGo X l 3 0 0 315 101 [(6, .int (zI M 337 (30 + 4 * w25n))), (0, .ref 336), (1, .int a), (2, .int b), (3, .int c), (4, .int w17x4), (5, .int w17x5)] [.int (zlift M (zI M 337 (30 + 4 * w25n)) b a), .int (zI M 337 (31 + 4 * w25n))] M _
              obtain ⟨w45v, w45e, w45⟩ := zisub (a := (zI M 337 (31 + 4 * w25n))) (b := (zlift M (zI M 337 (30 + 4 * w25n)) b a)) rfl rfl (by omega) (by omega)
              refine zs_isub (pc := 101) t315_101 (c := w45v) w45e ?_
              refine zs_i2l (pc := 102) t315_102 rfl ?_
              refine zs_aload_n (pc := 103) t315_103 rfl ?_
              refine zs_get (pc := 104) t315_104 (by decide) (zk1 (hs.k fk_zMm_336)) (hs.p rfl fv_zMm_336_0) ?_
              refine zs_bipush (pc := 107) t315_107 (v := 7) (by decide) ?_
              have w46 := ibA7 hI
              have w47 : (zI M 337 7).toInt = F 7 := x0.at (by decide) (by decide) (by decide)
              refine zs_iald (pc := 109) t315_109 (j := 7) (by decide) (zk1 (hs.k fk_zMm_337)) li7 (zk2 (hs.k fk_zMm_337) (by decide)) rfl ?_
              refine zs_i2l (pc := 110) t315_110 rfl ?_
              have w48 : w45v.toInt64.toInt = ((zI M 337 (31 + 4 * w25n)).toInt - (zlift M (zI M 337 (30 + 4 * w25n)) b a).toInt) := (zi2l w45)
              have w49 : (zI M 337 7).toInt64.toInt = (zI M 337 7).toInt := (zi2l rfl)
              refine zs_invS (pc := 111) (as := [.long w45v.toInt64, .long (zI M 337 7).toInt64]) (st := []) t315_111 (by decide) mf250 rfl rfl ⟨by decide, by decide, Nat.le_of_ble_eq_true rfl, Nat.le_of_ble_eq_true rfl⟩ (K250 hs hI ⟨by omega, by omega⟩ ?_) (fun _ _ q => q)
              have w50 := zrg (zflr w45v.toInt64 (zI M 337 7).toInt64)
              have w51d : (zflr w45v.toInt64 (zI M 337 7).toInt64).toInt = ((zI M 337 (31 + 4 * w25n)).toInt - (zlift M (zI M 337 (30 + 4 * w25n)) b a).toInt) / (zI M 337 7).toInt := zflrE (zi2l w45) (zi2l rfl) (by omega) (by omega) (by omega) (by omega)
              have w51 : (zflr w45v.toInt64 (zI M 337 7).toInt64).toInt = (F (31 + 4 * w25n) - (b.toInt * F (14 + 2 * w43n) / 100 + a.toInt * F (14 + 2 * w43n) * F (14 + 2 * w43n) / 10000)) / F 7 := by rw [w51d, show ((zI M 337 (31 + 4 * w25n)).toInt - (zlift M (zI M 337 (30 + 4 * w25n)) b a).toInt) = F (31 + 4 * w25n) - (b.toInt * F (14 + 2 * w43n) / 100 + a.toInt * F (14 + 2 * w43n) * F (14 + 2 * w43n) / 10000) by omega, show (zI M 337 7).toInt = F 7 by omega]
              show zGo X l 3 0 0 315 114 [(6, .int (zI M 337 (30 + 4 * w25n))), (0, .ref 336), (1, .int a), (2, .int b), (3, .int c), (4, .int w17x4), (5, .int w17x5)] [.int (zflr w45v.toInt64 (zI M 337 7).toInt64)] M _
              refine zs_iload_n (pc := 114) t315_114 rfl ?_
              by_cases w52 : (zflr w45v.toInt64 (zI M 337 7).toInt64).toInt ≠ c.toInt
              · refine zs_icmp_neT (pc := 115) t315_115 rfl rfl (by omega) ?_
                obtain ⟨w53v, w53e, w53⟩ := ziadd (a := w17x5) (b := Int32.ofInt 1) rfl (show (Int32.ofInt 1).toInt = 1 by decide) (by omega) (by omega)
                refine zs_iinc (pc := 127) t315_127 (ls' := [(5, .int w53v), (6, .int (zI M 337 (30 + 4 * w25n))), (0, .ref 336), (1, .int a), (2, .int b), (3, .int c), (4, .int w17x4)]) (zml mf315 (by decide)) rfl (c := w53v) w53e rfl ?_
                refine zs_goto (pc := 130) t315_130 ?_
                refine zGo.locals (ls' := [(0, .ref 336), (1, .int a), (2, .int b), (3, .int c), (4, .int w17x4), (5, .int w53v)]) (by simp) ?_
                have w54 := w53
                exact w17ih (w17m - 1) (by omega) w17x4 w53v ⟨by omega, by omega⟩ (by omega) (fun k hk => by obtain rfl : k = w25n + 1 := (by omega); have hw := x1.2.2.1 w25n (by omega); rcases (w31x0 w25n (by omega) (by omega)) with ⟨q1, q2, q3⟩ | ⟨q1, q2⟩ <;> first | exact absurd q1 (by omega) | exact zMk.vn (w17t0 w25n (by omega)) (zvh.n (q2.resolve_right (by omega))) | exact zMk.vn (w17t0 w25n (by omega)) (zvh.o (l := w43n) (by omega) (by unfold pLf; rw [← w51]; omega))) (by omega)
              · refine zs_icmp_neF (pc := 115) t315_115 rfl rfl (by omega) ?_
                refine zs_iload (pc := 118) t315_118 rfl ?_
                refine zs_iconst (pc := 120) t315_120 (v := 1) (by decide) ?_
                refine zs_iload (pc := 121) t315_121 rfl ?_
                obtain ⟨w55v, w55⟩ : ∃ v, (1 : Int32) <<< ((zI M 337 (30 + 4 * w25n)) &&& 31) = v := ⟨_, rfl⟩
                have w55g := zrg w55v
                refine zs_ishl (pc := 123) t315_123 (c := w55v) w55 ?_
                obtain ⟨w56v, w56⟩ : ∃ v, w17x4 ||| w55v = v := ⟨_, rfl⟩
                have w56g := zrg w56v
                refine zs_ior (pc := 124) t315_124 (c := w56v) w56 ?_
                refine zs_istore (pc := 125) t315_125 (ls' := [(4, .int w56v), (6, .int (zI M 337 (30 + 4 * w25n))), (0, .ref 336), (1, .int a), (2, .int b), (3, .int c), (5, .int w17x5)]) (zml mf315 (by decide)) rfl ?_
                obtain ⟨w57v, w57e, w57⟩ := ziadd (a := w17x5) (b := Int32.ofInt 1) rfl (show (Int32.ofInt 1).toInt = 1 by decide) (by omega) (by omega)
                refine zs_iinc (pc := 127) t315_127 (ls' := [(5, .int w57v), (4, .int w56v), (6, .int (zI M 337 (30 + 4 * w25n))), (0, .ref 336), (1, .int a), (2, .int b), (3, .int c)]) (zml mf315 (by decide)) rfl (c := w57v) w57e rfl ?_
                refine zs_goto (pc := 130) t315_130 ?_
                refine zGo.locals (ls' := [(0, .ref 336), (1, .int a), (2, .int b), (3, .int c), (4, .int w56v), (5, .int w57v)]) (by simp) ?_
                have w58 := w57
                exact w17ih (w17m - 1) (by omega) w56v w57v ⟨by omega, by omega⟩ (by omega) (fun k hk => by obtain rfl : k = w25n + 1 := (by omega); have hw := x1.2.2.1 w25n (by omega); rcases (w31x0 w25n (by omega) (by omega)) with ⟨q1, q2, q3⟩ | ⟨q1, q2⟩ <;> first | exact absurd q1 (by omega) | exact zMk.vy (j := w43n) (w17t0 w25n (by omega)) (zvh.y (l := w43n) q2 (by omega) (by unfold pLf; rw [← w51]; omega)) (by omega) (by omega) (by omega) w55 w56) (by omega)
      refine zGo.locals (ls' := [(0, .ref 336), (1, .int a), (2, .int b), (3, .int c), (4, .int (0 : Int32)), (5, .int (0 : Int32))]) (by simp) ?_
      have w59 := li0
      have w60 := li0
      exact w17L ((60 - 0 : Int).toNat) (0 : Int32) (0 : Int32) ⟨by decide, by decide⟩ (by omega) (fun k hk => by obtain rfl : k = 0 := (by omega); exact zMk.zero (by decide) (fun _ => rfl)) (by omega)
    · refine zs_invS (pc := 42) (as := [.long b.toInt64, .long w14v.toInt64, .long (zI M 337 6).toInt64]) (st := []) t315_42 (by decide) mf228 rfl rfl ⟨by decide, by decide, Nat.le_of_ble_eq_true rfl, Nat.le_of_ble_eq_true rfl⟩ (K228F (zi2l rfl) (zi2l w14) (zi2l rfl) (by omega) ?_) (fun _ _ q => q)
      show zGo X l 3 0 0 315 45 [(0, .ref 336), (1, .int a), (2, .int b), (3, .int c)] [.int (0 : Int32)] M _
      refine zs_if_neF (pc := 45) t315_45 li0 (by decide) ?_
      refine zs_iconst (pc := 48) t315_48 (v := -1) (by decide) ?_
      have w61 : (-1 : Int32).toInt = (-1) := lin1
      have w62 : (-1 : Int32).toInt = (-1) := lin1
      exact zs_iret (pc := 49) t315_49 mr315 (by decide) (hQ _ (Or.inl ⟨by omega, by omega⟩))
  · refine zs_invS (pc := 17) (as := [.long a.toInt64, .long w9v.toInt64, .long (zI M 337 5).toInt64]) (st := []) t315_17 (by decide) mf228 rfl rfl ⟨by decide, by decide, Nat.le_of_ble_eq_true rfl, Nat.le_of_ble_eq_true rfl⟩ (K228F (zi2l rfl) (zi2l w9) (zi2l rfl) (by omega) ?_) (fun _ _ q => q)
    show zGo X l 3 0 0 315 20 [(0, .ref 336), (1, .int a), (2, .int b), (3, .int c)] [.int (0 : Int32)] M _
    refine zs_if_eqT (pc := 20) t315_20 li0 (by decide) ?_
    refine zs_iconst (pc := 48) t315_48 (v := -1) (by decide) ?_
    have w63 : (-1 : Int32).toInt = (-1) := lin1
    have w64 : (-1 : Int32).toInt = (-1) := lin1
    exact zs_iret (pc := 49) t315_49 mr315 (by decide) (hQ _ (Or.inl ⟨by omega, by omega⟩))
