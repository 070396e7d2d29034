theorem X128_7 {X : zX} {l : Launch} {M : zM} {Q : Option Value → zM → Prop} {a : Int32} (hs : zSk zMc M) (hI : zIv cLo cHi M) {F : Nat → Int} (x0 : zSo M 7 F) (x1 : zWF F) (hQ : ∀ v : Int32, (v.toInt = pct (zcqB F 33 a.toInt) (F 1).toNat) → 0 ≤ v.toInt → v.toInt ≤ 60 → Q (some (.int v)) M) : zCall X l 2 0 0 128 [.ref 7, .int a] M Q := by
  have ga := zrg a
  refine zs_in (by decide) mf128 (Nat.le_of_ble_eq_true rfl) ?_
  show zGo X l 2 0 0 128 0 [(0, .ref 7), (1, .int a)] [] M _
  have f0 := x0.1
  have w1 := ib7_0 hI
  have w2 : (zI M 7 0).toInt = (zI M 7 0).toInt := (congrArg Int32.toInt rfl).trans rfl
  have w3 := ib7_3 hI
  have w4 : (zI M 7 3).toInt = (zI M 7 3).toInt := (congrArg Int32.toInt rfl).trans rfl
  have w5 := ib7_8 hI
  have w6 : (zI M 7 8).toInt = (zI M 7 8).toInt := (congrArg Int32.toInt rfl).trans rfl
  have f1 := x1.1
  have f3 := x1.2.2.2
  have f2 := (show (zI M 7 0).toInt = F 0 ∧ (zI M 7 3).toInt = F 1 ∧ (zI M 7 8).toInt = F 2 from ⟨x0.1.1, x0.1.2.1, x0.1.2.2.1⟩)
  refine zs_iconst (pc := 0) t128_0 (v := 0) (by decide) ?_
  refine zs_istore_n (pc := 1) t128_1 (ls' := [(2, .int (0 : Int32)), (0, .ref 7), (1, .int a)]) (zml mf128 (by decide)) rfl ?_
  refine zs_iconst (pc := 2) t128_2 (v := 0) (by decide) ?_
  refine zs_istore_n (pc := 3) t128_3 (ls' := [(3, .int (0 : Int32)), (2, .int (0 : Int32)), (0, .ref 7), (1, .int a)]) (zml mf128 (by decide)) rfl ?_
  have w7L : ∀ (m : Nat) (w7x2 : Int32) (w7x3 : Int32), (0 ≤ w7x2.toInt ∧ w7x2.toInt ≤ 60) → (0 ≤ w7x3.toInt ∧ w7x3.toInt ≤ 60) → (w7x2.toInt ≤ w7x3.toInt) → (w7x3.toInt ≤ F 1) → (∀ k : Nat, (k : Int) = w7x3.toInt → w7x2.toInt = pct (zcqB F 33 a.toInt) k) → 60 - w7x3.toInt ≤ (m : Int) → zGo X l 2 0 0 128 4 [(0, .ref 7), (1, .int a), (2, .int w7x2), (3, .int w7x3)] [] M Q := by
    intro m
    induction m using Nat.strongRecOn with
    | ind w7m w7ih =>
      intro w7x2 w7x3 w7b2 w7b3 w7r0 w7r1 w7t0 w7q
      refine zs_iload_n (pc := 4) t128_4 rfl ?_
      refine zs_aload_n (pc := 5) t128_5 rfl ?_
      refine zs_get (pc := 6) t128_6 (by decide) (zk1 (hs.k fk_zMc_7)) (zfvi rfl rfl) ?_
      by_cases w8 : (zI M 7 3).toInt ≤ w7x3.toInt
      · refine zs_icmp_geT (pc := 9) t128_9 rfl rfl (by omega) ?_
        refine zs_iload_n (pc := 39) t128_39 rfl ?_
        exact zs_iret (pc := 40) t128_40 mr128 rfl (hQ _ (by have q := w7t0 (F 1).toNat (by omega); omega) (by omega) (by omega))
      · refine zs_icmp_geF (pc := 9) t128_9 rfl rfl (by omega) ?_
        refine zs_aload_n (pc := 12) t128_12 rfl ?_
        refine zs_get (pc := 13) t128_13 (by decide) (zk1 (hs.k fk_zMc_7)) (hs.p rfl fv_zMc_7_7) ?_
        refine zs_iload_n (pc := 16) t128_16 rfl ?_
        obtain ⟨w9n, w9⟩ : ∃ n : Nat, w7x3.toInt = (n : Int) := ⟨(w7x3.toInt).toNat, by omega⟩
        have w10 := zrg (zI M 13 w9n)
        have w11 : (zI M 10 w9n).toInt = F (30 + 4 * w9n) ∧ (zI M 11 w9n).toInt = F (31 + 4 * w9n) ∧ (zI M 12 w9n).toInt = F (32 + 4 * w9n) ∧ (zI M 13 w9n).toInt = F (33 + 4 * w9n) := x0.2.2.1 w9n (by omega)
        have w12 := x1.2.2.1 w9n (by omega)
        refine zs_iald (pc := 17) t128_17 (j := w9n) (by decide) (zk1 (hs.k fk_zMc_13)) (show w7x3.toInt = ((w9n : Nat) : Int) by omega) (zk2 (hs.k fk_zMc_13) (by omega)) rfl ?_
        refine zs_iload_n (pc := 18) t128_18 rfl ?_
        by_cases w13 : (zI M 13 w9n).toInt ≠ a.toInt
        · refine zs_icmp_neT (pc := 19) t128_19 rfl rfl (by omega) ?_
          obtain ⟨w14v, w14e, w14⟩ := ziadd (a := w7x3) (b := Int32.ofInt 1) rfl (show (Int32.ofInt 1).toInt = 1 by decide) (by omega) (by omega)
          refine zs_iinc (pc := 33) t128_33 (ls' := [(3, .int w14v), (0, .ref 7), (1, .int a), (2, .int w7x2)]) (zml mf128 (by decide)) rfl (c := w14v) w14e rfl ?_
          refine zs_goto (pc := 36) t128_36 ?_
          refine zGo.locals (ls' := [(0, .ref 7), (1, .int a), (2, .int w7x2), (3, .int w14v)]) (by simp) ?_
          have w15 := w14
          exact w7ih (w7m - 1) (by omega) w7x2 w14v ⟨by omega, by omega⟩ ⟨by omega, by omega⟩ (by omega) (by omega) (fun k hk => by obtain rfl : k = w9n + 1 := (by omega); exact pct.no (n := w9n) (fun k hk => w7t0 k (by omega)) (zcqB.o (by omega)) (by omega) rfl) (by omega)
        · refine zs_icmp_neF (pc := 19) t128_19 rfl rfl (by omega) ?_
          refine zs_aload_n (pc := 22) t128_22 rfl ?_
          refine zs_iload_n (pc := 23) t128_23 rfl ?_
          refine zs_invV (pc := 24) (k := 7) (as' := [.int w7x3]) (st := []) t128_24 mf93 rfl rfl (Or.inl ⟨by decide, (zk1 (hs.k fk_zMc_7))⟩) ⟨by decide, by decide, Nat.le_of_ble_eq_true rfl, Nat.le_of_ble_eq_true rfl⟩ (X93_7 hs hI x0 x1 ?_) (fun _ _ q => q)
          intro w16v w16x0 w16a w16b
          show zGo X l 2 0 0 128 27 [(0, .ref 7), (1, .int a), (2, .int w7x2), (3, .int w7x3)] [.int w16v] M _
          by_cases w17 : w16v.toInt = 0
          · refine zs_if_eqT (pc := 27) t128_27 rfl (by omega) ?_
            obtain ⟨w18v, w18e, w18⟩ := ziadd (a := w7x3) (b := Int32.ofInt 1) rfl (show (Int32.ofInt 1).toInt = 1 by decide) (by omega) (by omega)
            refine zs_iinc (pc := 33) t128_33 (ls' := [(3, .int w18v), (0, .ref 7), (1, .int a), (2, .int w7x2)]) (zml mf128 (by decide)) rfl (c := w18v) w18e rfl ?_
            refine zs_goto (pc := 36) t128_36 ?_
            refine zGo.locals (ls' := [(0, .ref 7), (1, .int a), (2, .int w7x2), (3, .int w18v)]) (by simp) ?_
            have w19 := w18
            exact w7ih (w7m - 1) (by omega) w7x2 w18v ⟨by omega, by omega⟩ ⟨by omega, by omega⟩ (by omega) (by omega) (fun k hk => by obtain rfl : k = w9n + 1 := (by omega); rcases (w16x0 w9n (by omega) (by omega)) with ⟨q1, q2⟩ | ⟨q1, q2⟩ <;> first | exact absurd q1 (by omega) | exact pct.up (n := w9n) (fun k hk => w7t0 k (by omega)) (zcqB.y q2 (by omega)) (by omega) rfl | exact pct.no (n := w9n) (fun k hk => w7t0 k (by omega)) (zcqB.n q2) (by omega) rfl) (by omega)
          · refine zs_if_eqF (pc := 27) t128_27 rfl (by omega) ?_
            obtain ⟨w20v, w20e, w20⟩ := ziadd (a := w7x2) (b := Int32.ofInt 1) rfl (show (Int32.ofInt 1).toInt = 1 by decide) (by omega) (by omega)
            refine zs_iinc (pc := 30) t128_30 (ls' := [(2, .int w20v), (0, .ref 7), (1, .int a), (3, .int w7x3)]) (zml mf128 (by decide)) rfl (c := w20v) w20e rfl ?_
            obtain ⟨w21v, w21e, w21⟩ := ziadd (a := w7x3) (b := Int32.ofInt 1) rfl (show (Int32.ofInt 1).toInt = 1 by decide) (by omega) (by omega)
            refine zs_iinc (pc := 33) t128_33 (ls' := [(3, .int w21v), (2, .int w20v), (0, .ref 7), (1, .int a)]) (zml mf128 (by decide)) rfl (c := w21v) w21e rfl ?_
            refine zs_goto (pc := 36) t128_36 ?_
            refine zGo.locals (ls' := [(0, .ref 7), (1, .int a), (2, .int w20v), (3, .int w21v)]) (by simp) ?_
            have w22 := w20
            have w23 := w21
            exact w7ih (w7m - 1) (by omega) w20v w21v ⟨by omega, by omega⟩ ⟨by omega, by omega⟩ (by omega) (by omega) (fun k hk => by obtain rfl : k = w9n + 1 := (by omega); rcases (w16x0 w9n (by omega) (by omega)) with ⟨q1, q2⟩ | ⟨q1, q2⟩ <;> first | exact absurd q1 (by omega) | exact pct.up (n := w9n) (fun k hk => w7t0 k (by omega)) (zcqB.y q2 (by omega)) (by omega) rfl | exact pct.no (n := w9n) (fun k hk => w7t0 k (by omega)) (zcqB.n q2) (by omega) rfl) (by omega)
  refine zGo.locals (ls' := [(0, .ref 7), (1, .int a), (2, .int (0 : Int32)), (3, .int (0 : Int32))]) (by simp) ?_
  have w24 := li0
  have w25 := li0
  exact w7L ((60 - 0 : Int).toNat) (0 : Int32) (0 : Int32) ⟨by decide, by decide⟩ ⟨by decide, by decide⟩ (by omega) (by omega) (fun k hk => by obtain rfl : k = 0 := (by omega); rfl) (by omega)
theorem X100_7 {X : zX} {l : Launch} {M : zM} {Q : Option Value → zM → Prop} (hs : zSk zMc M) (hI : zIv cLo cHi M) {F : Nat → Int} (x0 : zSo M 7 F) (x1 : zWF F) (hQ : ∀ v : Int32, (v.toInt = pct (zalv F) (F 0).toNat) → 0 ≤ v.toInt → v.toInt ≤ 8 → Q (some (.int v)) M) : zCall X l 0 0 0 100 [.ref 7] M Q := by
  refine zs_in (by decide) mf100 (Nat.le_of_ble_eq_true rfl) ?_
  show zGo X l 0 0 0 100 0 [(0, .ref 7)] [] M _
  have f0 := x0.1
  have w1 := ib7_0 hI
  have w2 : (zI M 7 0).toInt = (zI M 7 0).toInt := (congrArg Int32.toInt rfl).trans rfl
  have w3 := ib7_3 hI
  have w4 : (zI M 7 3).toInt = (zI M 7 3).toInt := (congrArg Int32.toInt rfl).trans rfl
  have w5 := ib7_8 hI
  have w6 : (zI M 7 8).toInt = (zI M 7 8).toInt := (congrArg Int32.toInt rfl).trans rfl
  have f1 := x1.1
  have f3 := x1.2.2.2
  have f2 := (show (zI M 7 0).toInt = F 0 ∧ (zI M 7 3).toInt = F 1 ∧ (zI M 7 8).toInt = F 2 from ⟨x0.1.1, x0.1.2.1, x0.1.2.2.1⟩)
  refine zs_iconst (pc := 0) t100_0 (v := 0) (by decide) ?_
  refine zs_istore_n (pc := 1) t100_1 (ls' := [(1, .int (0 : Int32)), (0, .ref 7)]) (zml mf100 (by decide)) rfl ?_
  refine zs_iconst (pc := 2) t100_2 (v := 0) (by decide) ?_
  refine zs_istore_n (pc := 3) t100_3 (ls' := [(2, .int (0 : Int32)), (1, .int (0 : Int32)), (0, .ref 7)]) (zml mf100 (by decide)) rfl ?_
  have w7L : ∀ (m : Nat) (w7x1 : Int32) (w7x2 : Int32), (0 ≤ w7x1.toInt ∧ w7x1.toInt ≤ 8) → (0 ≤ w7x2.toInt ∧ w7x2.toInt ≤ 8) → (w7x1.toInt ≤ w7x2.toInt) → (w7x2.toInt ≤ F 0) → (∀ k : Nat, (k : Int) = w7x2.toInt → w7x1.toInt = pct (zalv F) k) → 8 - w7x2.toInt ≤ (m : Int) → zGo X l 0 0 0 100 4 [(0, .ref 7), (1, .int w7x1), (2, .int w7x2)] [] M Q := by
    intro m
    induction m using Nat.strongRecOn with
    | ind w7m w7ih =>
      intro w7x1 w7x2 w7b1 w7b2 w7r0 w7r1 w7t0 w7q
      refine zs_iload_n (pc := 4) t100_4 rfl ?_
      refine zs_aload_n (pc := 5) t100_5 rfl ?_
      refine zs_get (pc := 6) t100_6 (by decide) (zk1 (hs.k fk_zMc_7)) (zfvi rfl rfl) ?_
      by_cases w8 : (zI M 7 0).toInt ≤ w7x2.toInt
      · refine zs_icmp_geT (pc := 9) t100_9 rfl rfl (by omega) ?_
        refine zs_iload_n (pc := 30) t100_30 rfl ?_
        exact zs_iret (pc := 31) t100_31 mr100 rfl (hQ _ (by have q := w7t0 (F 0).toNat (by omega); omega) (by omega) (by omega))
      · refine zs_icmp_geF (pc := 9) t100_9 rfl rfl (by omega) ?_
        refine zs_aload_n (pc := 12) t100_12 rfl ?_
        refine zs_get (pc := 13) t100_13 (by decide) (zk1 (hs.k fk_zMc_7)) (hs.p rfl fv_zMc_7_2) ?_
        refine zs_iload_n (pc := 16) t100_16 rfl ?_
        obtain ⟨w9n, w9⟩ : ∃ n : Nat, w7x2.toInt = (n : Int) := ⟨(w7x2.toInt).toNat, by omega⟩
        have w10 := ib9 hI w9n
        have w11 : (zI M 8 w9n).toInt = F (14 + 2 * w9n) ∧ (zI M 9 w9n).toInt = F (15 + 2 * w9n) := x0.2.1 w9n (by omega)
        have w12 := x1.2.1 w9n (by omega)
        refine zs_bald (pc := 17) t100_17 (j := w9n) (Or.inr (zk1 (hs.k fk_zMc_9))) (show w7x2.toInt = ((w9n : Nat) : Int) by omega) (zk2 (hs.k fk_zMc_9) (by omega)) rfl ?_
        by_cases w13 : (zI M 9 w9n).toInt = 0
        · refine zs_if_eqT (pc := 18) t100_18 rfl (by omega) ?_
          obtain ⟨w14v, w14e, w14⟩ := ziadd (a := w7x2) (b := Int32.ofInt 1) rfl (show (Int32.ofInt 1).toInt = 1 by decide) (by omega) (by omega)
          refine zs_iinc (pc := 24) t100_24 (ls' := [(2, .int w14v), (0, .ref 7), (1, .int w7x1)]) (zml mf100 (by decide)) rfl (c := w14v) w14e rfl ?_
          refine zs_goto (pc := 27) t100_27 ?_
          refine zGo.locals (ls' := [(0, .ref 7), (1, .int w7x1), (2, .int w14v)]) (by simp) ?_
          have w15 := w14
          exact w7ih (w7m - 1) (by omega) w7x1 w14v ⟨by omega, by omega⟩ ⟨by omega, by omega⟩ (by omega) (by omega) (fun k hk => by obtain rfl : k = w9n + 1 := (by omega); first | exact pct.up (n := w9n) (fun k hk => w7t0 k (by omega)) (zalv.y (by omega)) (by omega) rfl | exact pct.no (n := w9n) (fun k hk => w7t0 k (by omega)) (zalv.n (by omega)) (by omega) rfl) (by omega)
        · refine zs_if_eqF (pc := 18) t100_18 rfl (by omega) ?_
          obtain ⟨w16v, w16e, w16⟩ := ziadd (a := w7x1) (b := Int32.ofInt 1) rfl (show (Int32.ofInt 1).toInt = 1 by decide) (by omega) (by omega)
          refine zs_iinc (pc := 21) t100_21 (ls' := [(1, .int w16v), (0, .ref 7), (2, .int w7x2)]) (zml mf100 (by decide)) rfl (c := w16v) w16e rfl ?_
          obtain ⟨w17v, w17e, w17⟩ := ziadd (a := w7x2) (b := Int32.ofInt 1) rfl (show (Int32.ofInt 1).toInt = 1 by decide) (by omega) (by omega)
          refine zs_iinc (pc := 24) t100_24 (ls' := [(2, .int w17v), (1, .int w16v), (0, .ref 7)]) (zml mf100 (by decide)) rfl (c := w17v) w17e rfl ?_
          refine zs_goto (pc := 27) t100_27 ?_
          refine zGo.locals (ls' := [(0, .ref 7), (1, .int w16v), (2, .int w17v)]) (by simp) ?_
          have w18 := w16
          have w19 := w17
          exact w7ih (w7m - 1) (by omega) w16v w17v ⟨by omega, by omega⟩ ⟨by omega, by omega⟩ (by omega) (by omega) (fun k hk => by obtain rfl : k = w9n + 1 := (by omega); first | exact pct.up (n := w9n) (fun k hk => w7t0 k (by omega)) (zalv.y (by omega)) (by omega) rfl | exact pct.no (n := w9n) (fun k hk => w7t0 k (by omega)) (zalv.n (by omega)) (by omega) rfl) (by omega)
  refine zGo.locals (ls' := [(0, .ref 7), (1, .int (0 : Int32)), (2, .int (0 : Int32))]) (by simp) ?_
  have w20 := li0
  have w21 := li0
  exact w7L ((8 - 0 : Int).toNat) (0 : Int32) (0 : Int32) ⟨by decide, by decide⟩ ⟨by decide, by decide⟩ (by omega) (by omega) (fun k hk => by obtain rfl : k = 0 := (by omega); rfl) (by omega)
