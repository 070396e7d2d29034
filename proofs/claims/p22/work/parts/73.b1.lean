theorem R290 {X : zX} {l : Launch} {M : zM} {Q : Option Value → zM → Prop} {a : Int32} (hs : zSk zMm M) (hI : zIv mLo mHi M) {F : Nat → Int} (u0 : 0 ≤ a.toInt) (x0 : zRw M 0 F) (x1 : zWF F) (hQ : ∀ v : Int32, (v.toInt = pct (zcqB F 30 a.toInt) (F 1).toNat) → Q (some (.int v)) M) : zCall X l 2 0 0 290 [.ref 336, .int a] M Q := by
  have ga := zrg a
  refine zs_in (by decide) mf290 (Nat.le_of_ble_eq_true rfl) ?_
  show zGo X l 2 0 0 290 0 [(0, .ref 336), (1, .int a)] [] M _
  have f1 := x1.1
  have f3 := x1.2.2.2
  have w1 := ibA0 hI
  have w2 : (zI M 337 0).toInt = (zI M 337 0).toInt := (congrArg Int32.toInt rfl).trans rfl
  have e0 : (zI M 337 0).toInt = F 0 := x0.at (by decide) (by decide) (by decide)
  have w3 := ibA1 hI
  have w4 : (zI M 337 1).toInt = (zI M 337 1).toInt := (congrArg Int32.toInt rfl).trans rfl
  have e1 : (zI M 337 1).toInt = F 1 := x0.at (by decide) (by decide) (by decide)
  have w5 := ibA2 hI
  have w6 : (zI M 337 2).toInt = (zI M 337 2).toInt := (congrArg Int32.toInt rfl).trans rfl
  have e2 : (zI M 337 2).toInt = F 2 := x0.at (by decide) (by decide) (by decide)
  refine zs_iconst (pc := 0) t290_0 (v := 0) (by decide) ?_
  refine zs_istore_n (pc := 1) t290_1 (ls' := [(2, .int (0 : Int32)), (0, .ref 336), (1, .int a)]) (zml mf290 (by decide)) rfl ?_
  refine zs_iconst (pc := 2) t290_2 (v := 0) (by decide) ?_
  refine zs_istore_n (pc := 3) t290_3 (ls' := [(3, .int (0 : Int32)), (2, .int (0 : Int32)), (0, .ref 336), (1, .int a)]) (zml mf290 (by decide)) rfl ?_
  have w7L : ∀ (m : Nat) (w7x2 : Int32) (w7x3 : Int32), (0 ≤ w7x2.toInt ∧ w7x2.toInt ≤ 60) → (0 ≤ w7x3.toInt ∧ w7x3.toInt ≤ 60) → (w7x2.toInt ≤ w7x3.toInt) → (w7x3.toInt ≤ F 1) → (∀ k : Nat, (k : Int) = w7x3.toInt → w7x2.toInt = pct (zcqB F 30 a.toInt) k) → 60 - w7x3.toInt ≤ (m : Int) → zGo X l 2 0 0 290 4 [(0, .ref 336), (1, .int a), (2, .int w7x2), (3, .int w7x3)] [] M Q := by
    intro m
    induction m using Nat.strongRecOn with
    | ind w7m w7ih =>
      intro w7x2 w7x3 w7b2 w7b3 w7r0 w7r1 w7t0 w7q
      refine zs_iload_n (pc := 4) t290_4 rfl ?_
      refine zs_aload_n (pc := 5) t290_5 rfl ?_
      refine zs_get (pc := 6) t290_6 (by decide) (zk1 (hs.k fk_zMm_336)) (hs.p rfl fv_zMm_336_0) ?_
      refine zs_iconst (pc := 9) t290_9 (v := 1) (by decide) ?_
      have w8 : (zI M 337 1).toInt = F 1 := x0.at (by decide) (by decide) (by decide)
      refine zs_iald (pc := 10) t290_10 (j := 1) (by decide) (zk1 (hs.k fk_zMm_337)) li1 (zk2 (hs.k fk_zMm_337) (by decide)) rfl ?_
      by_cases w9 : (zI M 337 1).toInt ≤ w7x3.toInt
      · refine zs_icmp_geT (pc := 11) t290_11 rfl rfl (by omega) ?_
        refine zs_iload_n (pc := 52) t290_52 rfl ?_
        exact zs_iret (pc := 53) t290_53 mr290 rfl (hQ _ (by have q := w7t0 (F 1).toNat (by omega); omega))
      · refine zs_icmp_geF (pc := 11) t290_11 rfl rfl (by omega) ?_
        refine zs_iload_n (pc := 14) t290_14 rfl ?_
        refine zs_aload_n (pc := 15) t290_15 rfl ?_
        refine zs_iload_n (pc := 16) t290_16 rfl ?_
        refine zs_iconst (pc := 17) t290_17 (v := -1) (by decide) ?_
        have w10 : (-1 : Int32).toInt = (-1) := lin1
        have w11 : (zI M 337 1).toInt = (zI M 337 1).toInt := (congrArg Int32.toInt rfl).trans rfl
        refine zs_invV (pc := 18) (k := 336) (as' := [.int w7x3, .int (-1 : Int32)]) (st := [.int w7x2]) t290_18 mf271 rfl rfl (Or.inl ⟨by decide, (zk1 (hs.k fk_zMm_336))⟩) ⟨by decide, by decide, Nat.le_of_ble_eq_true rfl, Nat.le_of_ble_eq_true rfl⟩ (R271 hs hI ⟨by omega, by omega⟩ (by omega) x0 x1 ?_) (fun _ _ q => q)
        intro w12v w12x0 w12a w12b
        show zGo X l 2 0 0 290 21 [(0, .ref 336), (1, .int a), (2, .int w7x2), (3, .int w7x3)] [.int w12v, .int w7x2] M _
        by_cases w13 : w12v.toInt = 0
        · refine zs_if_eqT (pc := 21) t290_21 rfl (by omega) ?_
          refine zs_iconst (pc := 43) t290_43 (v := 0) (by decide) ?_
          obtain ⟨w14v, w14e, w14⟩ := ziadd (a := w7x2) (b := (0 : Int32)) rfl li0 (by omega) (by omega)
          refine zs_iadd (pc := 44) t290_44 (c := w14v) w14e ?_
          refine zs_istore_n (pc := 45) t290_45 (ls' := [(2, .int w14v), (0, .ref 336), (1, .int a), (3, .int w7x3)]) (zml mf290 (by decide)) rfl ?_
          obtain ⟨w15v, w15e, w15⟩ := ziadd (a := w7x3) (b := Int32.ofInt 1) rfl (show (Int32.ofInt 1).toInt = 1 by decide) (by omega) (by omega)
          refine zs_iinc (pc := 46) t290_46 (ls' := [(3, .int w15v), (2, .int w14v), (0, .ref 336), (1, .int a)]) (zml mf290 (by decide)) rfl (c := w15v) w15e rfl ?_
          refine zs_goto (pc := 49) t290_49 ?_
          refine zGo.locals (ls' := [(0, .ref 336), (1, .int a), (2, .int w14v), (3, .int w15v)]) (by simp) ?_
          have w16 := w14
          have w17 := w15
          obtain ⟨w18n, w18⟩ : ∃ n : Nat, w7x3.toInt = (n : Int) := ⟨(w7x3.toInt).toNat, by omega⟩
          have w19 : w14v.toInt = (w7x2.toInt + 0) := w14
          exact w7ih (w7m - 1) (by omega) w14v w15v ⟨by omega, by omega⟩ ⟨by omega, by omega⟩ (by omega) (by omega) (fun k hk => by obtain rfl : k = w18n + 1 := (by omega); have hw := x1.2.2.1 w18n (by omega); rcases (w12x0 w18n (by omega) (by omega)) with ⟨q1, q2, q3⟩ | ⟨q1, q2⟩ <;> first | exact absurd q1 (by omega) | exact pct.up (n := w18n) (fun k hk => w7t0 k (by omega)) (zcqB.y q2 (by omega)) (by omega) rfl | exact pct.no (n := w18n) (fun k hk => w7t0 k (by omega)) (zcqB.o (by omega)) (by omega) rfl | exact pct.no (n := w18n) (fun k hk => w7t0 k (by omega)) (q2.elim zcqB.n (fun q => absurd q (by omega))) (by omega) rfl) (by omega)
        · refine zs_if_eqF (pc := 21) t290_21 rfl (by omega) ?_
          refine zs_iload_n (pc := 24) t290_24 rfl ?_
          refine zs_iconst (pc := 25) t290_25 (v := -1) (by decide) ?_
          by_cases w20 : a.toInt = (-1)
          · refine zs_icmp_eqT (pc := 26) t290_26 rfl lin1 (by omega) ?_
            refine zs_iconst (pc := 39) t290_39 (v := 1) (by decide) ?_
            refine zs_goto (pc := 40) t290_40 ?_
            obtain ⟨w21v, w21e, w21⟩ := ziadd (a := w7x2) (b := (1 : Int32)) rfl li1 (by omega) (by omega)
            refine zs_iadd (pc := 44) t290_44 (c := w21v) w21e ?_
            refine zs_istore_n (pc := 45) t290_45 (ls' := [(2, .int w21v), (0, .ref 336), (1, .int a), (3, .int w7x3)]) (zml mf290 (by decide)) rfl ?_
            obtain ⟨w22v, w22e, w22⟩ := ziadd (a := w7x3) (b := Int32.ofInt 1) rfl (show (Int32.ofInt 1).toInt = 1 by decide) (by omega) (by omega)
            refine zs_iinc (pc := 46) t290_46 (ls' := [(3, .int w22v), (2, .int w21v), (0, .ref 336), (1, .int a)]) (zml mf290 (by decide)) rfl (c := w22v) w22e rfl ?_
            refine zs_goto (pc := 49) t290_49 ?_
            refine zGo.locals (ls' := [(0, .ref 336), (1, .int a), (2, .int w21v), (3, .int w22v)]) (by simp) ?_
            have w23 := w21
            have w24 := w22
            obtain ⟨w25n, w25⟩ : ∃ n : Nat, w7x3.toInt = (n : Int) := ⟨(w7x3.toInt).toNat, by omega⟩
            have w26 : w21v.toInt = (w7x2.toInt + 1) := w21
            exact w7ih (w7m - 1) (by omega) w21v w22v ⟨by omega, by omega⟩ ⟨by omega, by omega⟩ (by omega) (by omega) (fun k hk => by obtain rfl : k = w25n + 1 := (by omega); have hw := x1.2.2.1 w25n (by omega); rcases (w12x0 w25n (by omega) (by omega)) with ⟨q1, q2, q3⟩ | ⟨q1, q2⟩ <;> first | exact absurd q1 (by omega) | exact pct.up (n := w25n) (fun k hk => w7t0 k (by omega)) (zcqB.y q2 (by omega)) (by omega) rfl | exact pct.no (n := w25n) (fun k hk => w7t0 k (by omega)) (zcqB.o (by omega)) (by omega) rfl | exact pct.no (n := w25n) (fun k hk => w7t0 k (by omega)) (q2.elim zcqB.n (fun q => absurd q (by omega))) (by omega) rfl) (by omega)
          · refine zs_icmp_eqF (pc := 26) t290_26 rfl lin1 (by omega) ?_
            refine zs_aload_n (pc := 29) t290_29 rfl ?_
            refine zs_iload_n (pc := 30) t290_30 rfl ?_
            refine zs_iconst (pc := 31) t290_31 (v := 0) (by decide) ?_
            refine zs_invV (pc := 32) (k := 336) (as' := [.int w7x3, .int (0 : Int32)]) (st := [.int w7x2]) t290_32 mf272 rfl rfl (Or.inl ⟨by decide, (zk1 (hs.k fk_zMm_336))⟩) ⟨by decide, by decide, Nat.le_of_ble_eq_true rfl, Nat.le_of_ble_eq_true rfl⟩ (zs_in (by decide) mf272 (Nat.le_of_ble_eq_true rfl) ?_) (fun _ _ q => q)
            show zGo X l 0 0 0 272 0 [(0, .ref 336), (1, .int w7x3), (2, .int (0 : Int32))] [] M _
            refine zs_aload_n (pc := 0) t272_0 rfl ?_
            refine zs_get (pc := 1) t272_1 (by decide) (zk1 (hs.k fk_zMm_336)) (hs.p rfl fv_zMm_336_0) ?_
            refine zs_bipush (pc := 4) t272_4 (v := 30) (by decide) ?_
            refine zs_iconst (pc := 6) t272_6 (v := 4) (by decide) ?_
            refine zs_iload_n (pc := 7) t272_7 rfl ?_
            obtain ⟨w27v, w27⟩ : ∃ v, (4 : Int32) * w7x3 = v := ⟨_, rfl⟩
            have w27g : w27v.toInt = 4 * w7x3.toInt := by rw [← w27]; exact zmulc li4 rfl (by omega) (by omega)
            refine zs_imul (pc := 8) t272_8 (c := w27v) w27 ?_
            obtain ⟨w28v, w28e, w28⟩ := ziadd (a := (30 : Int32)) (b := w27v) li30 w27g (by omega) (by omega)
            refine zs_iadd (pc := 9) t272_9 (c := w28v) w28e ?_
            refine zs_iload_n (pc := 10) t272_10 rfl ?_
            obtain ⟨w29v, w29e, w29⟩ := ziadd (a := w28v) (b := (0 : Int32)) w28 li0 (by omega) (by omega)
            refine zs_iadd (pc := 11) t272_11 (c := w29v) w29e ?_
            obtain ⟨w30n, w30⟩ : ∃ n : Nat, w7x3.toInt = (n : Int) := ⟨(w7x3.toInt).toNat, by omega⟩
            have w31 := ibL (j := (30 + 4 * w30n)) hI (by omega) (by omega) (by omega)
            have w32 : (zI M 337 (30 + 4 * w30n)).toInt = F (30 + 4 * w30n) := x0.at (by omega) (by omega) (by omega)
            have w33 := x1.2.2.1 w30n (by omega)
            refine zs_iald (pc := 12) t272_12 (j := (30 + 4 * w30n)) (by decide) (zk1 (hs.k fk_zMm_337)) (show w29v.toInt = (((30 + 4 * w30n) : Nat) : Int) by omega) (zk2 (hs.k fk_zMm_337) (by omega)) rfl ?_
            refine zs_iret (pc := 13) t272_13 mr272 rfl ?_
            show zGo X l 2 0 0 290 35 [(0, .ref 336), (1, .int a), (2, .int w7x2), (3, .int w7x3)] [.int (zI M 337 (30 + 4 * w30n)), .int w7x2] M _
            refine zs_iload_n (pc := 35) t290_35 rfl ?_
            by_cases w34 : (zI M 337 (30 + 4 * w30n)).toInt ≠ a.toInt
            · refine zs_icmp_neT (pc := 36) t290_36 rfl rfl (by omega) ?_
              refine zs_iconst (pc := 43) t290_43 (v := 0) (by decide) ?_
              obtain ⟨w35v, w35e, w35⟩ := ziadd (a := w7x2) (b := (0 : Int32)) rfl li0 (by omega) (by omega)
              refine zs_iadd (pc := 44) t290_44 (c := w35v) w35e ?_
              refine zs_istore_n (pc := 45) t290_45 (ls' := [(2, .int w35v), (0, .ref 336), (1, .int a), (3, .int w7x3)]) (zml mf290 (by decide)) rfl ?_
              obtain ⟨w36v, w36e, w36⟩ := ziadd (a := w7x3) (b := Int32.ofInt 1) rfl (show (Int32.ofInt 1).toInt = 1 by decide) (by omega) (by omega)
              refine zs_iinc (pc := 46) t290_46 (ls' := [(3, .int w36v), (2, .int w35v), (0, .ref 336), (1, .int a)]) (zml mf290 (by decide)) rfl (c := w36v) w36e rfl ?_
              refine zs_goto (pc := 49) t290_49 ?_
              refine zGo.locals (ls' := [(0, .ref 336), (1, .int a), (2, .int w35v), (3, .int w36v)]) (by simp) ?_
              have w37 := w35
              have w38 := w36
              have w39 : w35v.toInt = (w7x2.toInt + 0) := w35
              exact w7ih (w7m - 1) (by omega) w35v w36v ⟨by omega, by omega⟩ ⟨by omega, by omega⟩ (by omega) (by omega) (fun k hk => by obtain rfl : k = w30n + 1 := (by omega); have hw := x1.2.2.1 w30n (by omega); rcases (w12x0 w30n (by omega) (by omega)) with ⟨q1, q2, q3⟩ | ⟨q1, q2⟩ <;> first | exact absurd q1 (by omega) | exact pct.up (n := w30n) (fun k hk => w7t0 k (by omega)) (zcqB.y q2 (by omega)) (by omega) rfl | exact pct.no (n := w30n) (fun k hk => w7t0 k (by omega)) (zcqB.o (by omega)) (by omega) rfl | exact pct.no (n := w30n) (fun k hk => w7t0 k (by omega)) (q2.elim zcqB.n (fun q => absurd q (by omega))) (by omega) rfl) (by omega)
            · refine zs_icmp_neF (pc := 36) t290_36 rfl rfl (by omega) ?_
              refine zs_iconst (pc := 39) t290_39 (v := 1) (by decide) ?_
              refine zs_goto (pc := 40) t290_40 ?_
              obtain ⟨w40v, w40e, w40⟩ := ziadd (a := w7x2) (b := (1 : Int32)) rfl li1 (by omega) (by omega)
              refine zs_iadd (pc := 44) t290_44 (c := w40v) w40e ?_
              refine zs_istore_n (pc := 45) t290_45 (ls' := [(2, .int w40v), (0, .ref 336), (1, .int a), (3, .int w7x3)]) (zml mf290 (by decide)) rfl ?_
              obtain ⟨w41v, w41e, w41⟩ := ziadd (a := w7x3) (b := Int32.ofInt 1) rfl (show (Int32.ofInt 1).toInt = 1 by decide) (by omega) (by omega)
              refine zs_iinc (pc := 46) t290_46 (ls' := [(3, .int w41v), (2, .int w40v), (0, .ref 336), (1, .int a)]) (zml mf290 (by decide)) rfl (c := w41v) w41e rfl ?_
              refine zs_goto (pc := 49) t290_49 ?_
              refine zGo.locals (ls' := [(0, .ref 336), (1, .int a), (2, .int w40v), (3, .int w41v)]) (by simp) ?_
              have w42 := w40
              have w43 := w41
              have w44 : w40v.toInt = (w7x2.toInt + 1) := w40
              exact w7ih (w7m - 1) (by omega) w40v w41v ⟨by omega, by omega⟩ ⟨by omega, by omega⟩ (by omega) (by omega) (fun k hk => by obtain rfl : k = w30n + 1 := (by omega); have hw := x1.2.2.1 w30n (by omega); rcases (w12x0 w30n (by omega) (by omega)) with ⟨q1, q2, q3⟩ | ⟨q1, q2⟩ <;> first | exact absurd q1 (by omega) | exact pct.up (n := w30n) (fun k hk => w7t0 k (by omega)) (zcqB.y q2 (by omega)) (by omega) rfl | exact pct.no (n := w30n) (fun k hk => w7t0 k (by omega)) (zcqB.o (by omega)) (by omega) rfl | exact pct.no (n := w30n) (fun k hk => w7t0 k (by omega)) (q2.elim zcqB.n (fun q => absurd q (by omega))) (by omega) rfl) (by omega)
  refine zGo.locals (ls' := [(0, .ref 336), (1, .int a), (2, .int (0 : Int32)), (3, .int (0 : Int32))]) (by simp) ?_
  have w45 := li0
  have w46 := li0
  exact w7L ((60 - 0 : Int).toNat) (0 : Int32) (0 : Int32) ⟨by decide, by decide⟩ ⟨by decide, by decide⟩ (by omega) (by omega) (fun k hk => by obtain rfl : k = 0 := (by omega); rfl) (by omega)
theorem R332 {X : zX} {l : Launch} {M : zM} {Q : Option Value → zM → Prop} {a : Int32} (hs : zSk zMm M) (hI : zIv mLo mHi M) {F : Nat → Int} {H : Nat → Nat → Int} {n : Int} {K : Nat → Nat → Int} {T : Nat → Int} (pR : zPR M) (pC : zPC M) (pF : zPF M) (x0 : zRw M 0 F) (x1 : zHM M H n) (x2 : zKM M K T) (x3 : zWF F) (hQ : ∀ (M' : zM) (v : Int32), zSk zMm M' → zIv mLo mHi M' → zFr [(337, 337, none), (336, 336, some 1), (336, 336, some 3)] M M' → zJ M' 351 = zJ M 351 → zPR M' → zPC M' → zPF M' → ((zI M' 336 3).toInt = 0 ∨ (v.toInt = -1 ∧ (zI M' 336 3).toInt = (zI M 336 3).toInt)) → ((v.toInt = -1 ∧ (a.toInt < 0 ∨ F 1 ≤ a.toInt ∨ F (32 + 4 * a.toInt.toNat) < 0) ∧ zSM M' F H n K T) ∨ (0 ≤ a.toInt ∧ a.toInt < F 1 ∧ 0 ≤ F (32 + 4 * a.toInt.toNat) ∧ v.toInt = pct (zctb (uS F (32 + 4 * a.toInt.toNat) (-1))) ((uS F (32 + 4 * a.toInt.toNat) (-1)) 1).toNat ∧ zSM M' (uS F (32 + 4 * a.toInt.toNat) (-1)) (pushH F H) (nP n) K T)) → Q (some (.int v)) M') : zCall X l 3 0 0 332 [.ref 336, .int a] M Q := by
  have ga := zrg a
  refine zs_in (by decide) mf332 (Nat.le_of_ble_eq_true rfl) ?_
  show zGo X l 3 0 0 332 0 [(0, .ref 336), (1, .int a)] [] M _
  have f1 := x3.1
  have f3 := x3.2.2.2
  have w1 := ibA0 hI
  have w2 : (zI M 337 0).toInt = (zI M 337 0).toInt := (congrArg Int32.toInt rfl).trans rfl
  have e0 : (zI M 337 0).toInt = F 0 := x0.at (by decide) (by decide) (by decide)
  have w3 := ibA1 hI
  have w4 : (zI M 337 1).toInt = (zI M 337 1).toInt := (congrArg Int32.toInt rfl).trans rfl
  have e1 : (zI M 337 1).toInt = F 1 := x0.at (by decide) (by decide) (by decide)
  have w5 := ibA2 hI
  have w6 : (zI M 337 2).toInt = (zI M 337 2).toInt := (congrArg Int32.toInt rfl).trans rfl
  have e2 : (zI M 337 2).toInt = F 2 := x0.at (by decide) (by decide) (by decide)
  refine zs_aload_n (pc := 0) t332_0 rfl ?_
  refine zs_iload_n (pc := 1) t332_1 rfl ?_
  refine zs_invV (pc := 2) (k := 336) (as' := [.int a]) (st := []) t332_2 mf308 rfl rfl (Or.inl ⟨by decide, (zk1 (hs.k fk_zMm_336))⟩) ⟨by decide, by decide, Nat.le_of_ble_eq_true rfl, Nat.le_of_ble_eq_true rfl⟩ (zs_in (by decide) mf308 (Nat.le_of_ble_eq_true rfl) ?_) (fun _ _ q => q)
  show zGo X l 1 0 0 308 0 [(0, .ref 336), (1, .int a)] [] M _
  refine zs_iload_n (pc := 0) t308_0 rfl ?_
  refine zs_i2l (pc := 1) t308_1 rfl ?_
  refine zs_lconst (pc := 2) t308_2 (v := 0) (by decide) ?_
  refine zs_aload_n (pc := 3) t308_3 rfl ?_
  refine zs_get (pc := 4) t308_4 (by decide) (zk1 (hs.k fk_zMm_336)) (hs.p rfl fv_zMm_336_0) ?_
  refine zs_iconst (pc := 7) t308_7 (v := 1) (by decide) ?_
  have w7 : (zI M 337 1).toInt = F 1 := x0.at (by decide) (by decide) (by decide)
  refine zs_iald (pc := 8) t308_8 (j := 1) (by decide) (zk1 (hs.k fk_zMm_337)) li1 (zk2 (hs.k fk_zMm_337) (by decide)) rfl ?_
  refine zs_iconst (pc := 9) t308_9 (v := 1) (by decide) ?_
  obtain ⟨w8v, w8e, w8⟩ := zisub (a := (zI M 337 1)) (b := (1 : Int32)) rfl li1 (by omega) (by omega)
  refine zs_isub (pc := 10) t308_10 (c := w8v) w8e ?_
  refine zs_i2l (pc := 11) t308_11 rfl ?_
  by_cases w9 : 0 ≤ a.toInt ∧ a.toInt ≤ ((zI M 337 1).toInt - 1)
  · refine zs_invS (pc := 12) (as := [.long a.toInt64, .long (0 : Int64), .long w8v.toInt64]) (st := []) t308_12 (by decide) mf228 rfl rfl ⟨by decide, by decide, Nat.le_of_ble_eq_true rfl, Nat.le_of_ble_eq_true rfl⟩ (K228T (zi2l rfl) ll0 (zi2l w8) (by omega) ?_) (fun _ _ q => q)
    show zGo X l 1 0 0 308 15 [(0, .ref 336), (1, .int a)] [.int (1 : Int32)] M _
    refine zs_iret (pc := 15) t308_15 mr308 (by decide) ?_
    show zGo X l 3 0 0 332 5 [(0, .ref 336), (1, .int a)] [.int (1 : Int32)] M _
    refine zs_if_eqF (pc := 5) t332_5 li1 (by decide) ?_
    refine zs_aload_n (pc := 8) t332_8 rfl ?_
    refine zs_iload_n (pc := 9) t332_9 rfl ?_
    refine zs_iconst (pc := 10) t332_10 (v := 2) (by decide) ?_
    refine zs_invV (pc := 11) (k := 336) (as' := [.int a, .int (2 : Int32)]) (st := []) t332_11 mf272 rfl rfl (Or.inl ⟨by decide, (zk1 (hs.k fk_zMm_336))⟩) ⟨by decide, by decide, Nat.le_of_ble_eq_true rfl, Nat.le_of_ble_eq_true rfl⟩ (zs_in (by decide) mf272 (Nat.le_of_ble_eq_true rfl) ?_) (fun _ _ q => q)
    show zGo X l 0 0 0 272 0 [(0, .ref 336), (1, .int a), (2, .int (2 : Int32))] [] M _
    refine zs_aload_n (pc := 0) t272_0 rfl ?_
    refine zs_get (pc := 1) t272_1 (by decide) (zk1 (hs.k fk_zMm_336)) (hs.p rfl fv_zMm_336_0) ?_
    refine zs_bipush (pc := 4) t272_4 (v := 30) (by decide) ?_
    refine zs_iconst (pc := 6) t272_6 (v := 4) (by decide) ?_
    refine zs_iload_n (pc := 7) t272_7 rfl ?_
    obtain ⟨w10v, w10⟩ : ∃ v, (4 : Int32) * a = v := ⟨_, rfl⟩
    have w10g : w10v.toInt = 4 * a.toInt := by rw [← w10]; exact zmulc li4 rfl (by omega) (by omega)
    refine zs_imul (pc := 8) t272_8 (c := w10v) w10 ?_
    obtain ⟨w11v, w11e, w11⟩ := ziadd (a := (30 : Int32)) (b := w10v) li30 w10g (by omega) (by omega)
    refine zs_iadd (pc := 9) t272_9 (c := w11v) w11e ?_
    refine zs_iload_n (pc := 10) t272_10 rfl ?_
    obtain ⟨w12v, w12e, w12⟩ := ziadd (a := w11v) (b := (2 : Int32)) w11 li2 (by omega) (by omega)
    refine zs_iadd (pc := 11) t272_11 (c := w12v) w12e ?_
    obtain ⟨w13n, w13⟩ : ∃ n : Nat, a.toInt = (n : Int) := ⟨(a.toInt).toNat, by omega⟩
    have w14 := zrg (zI M 337 (32 + 4 * w13n))
    have w15 : (zI M 337 (32 + 4 * w13n)).toInt = F (32 + 4 * w13n) := x0.at (by omega) (by omega) (by omega)
    have w16 := x3.2.2.1 w13n (by omega)
    refine zs_iald (pc := 12) t272_12 (j := (32 + 4 * w13n)) (by decide) (zk1 (hs.k fk_zMm_337)) (show w12v.toInt = (((32 + 4 * w13n) : Nat) : Int) by omega) (zk2 (hs.k fk_zMm_337) (by omega)) rfl ?_
    refine zs_iret (pc := 13) t272_13 mr272 rfl ?_
    show zGo X l 3 0 0 332 14 [(0, .ref 336), (1, .int a)] [.int (zI M 337 (32 + 4 * w13n))] M _
    refine zs_iconst (pc := 14) t332_14 (v := -1) (by decide) ?_
    by_cases w17 : (zI M 337 (32 + 4 * w13n)).toInt ≠ (-1)
    · refine zs_icmp_neT (pc := 15) t332_15 rfl lin1 (by omega) ?_
      refine zs_aload_n (pc := 20) t332_20 rfl ?_
      refine zs_iconst (pc := 21) t332_21 (v := 0) (by decide) ?_
      have w18 : (zI M 337 1).toInt = (zI M 337 1).toInt := (congrArg Int32.toInt rfl).trans rfl
      have w19 : (zI M 337 2).toInt = (zI M 337 2).toInt := (congrArg Int32.toInt rfl).trans rfl
      have w20 : (zI M 337 0).toInt = (zI M 337 0).toInt := (congrArg Int32.toInt rfl).trans rfl
      refine zs_invV (pc := 22) (k := 336) (as' := [.int (0 : Int32)]) (st := []) t332_22 mf230 rfl rfl (Or.inl ⟨by decide, (zk1 (hs.k fk_zMm_336))⟩) ⟨by decide, by decide, Nat.le_of_ble_eq_true rfl, Nat.le_of_ble_eq_true rfl⟩ (R230_0 hs hI pR pC x0 x1 ?_) (fun _ _ q => q)
      intro w21M w21s w21I w21F w21J w21PR w21PC w21PF w21t0 w21t1 w21t2 w21t3 w21x0 w21x1
      have w22 := ibA1 w21I
      have w23 := ib336_3 w21I
      have w24 := ibA2 w21I
      have w25 := ibA0 w21I
      have w21r0 := w21x1 0 (by decide) _ x0
      show zGo X l 3 0 0 332 25 [(0, .ref 336), (1, .int a)] [] w21M _
      refine zs_aload_n (pc := 25) t332_25 rfl ?_
      refine zs_get (pc := 26) t332_26 (by decide) (zk1 (w21s.k fk_zMm_336)) (w21s.p rfl fv_zMm_336_0) ?_
      refine zs_bipush (pc := 29) t332_29 (v := 30) (by decide) ?_
      refine zs_iconst (pc := 31) t332_31 (v := 4) (by decide) ?_
      refine zs_iload_n (pc := 32) t332_32 rfl ?_
      obtain ⟨w26v, w26⟩ : ∃ v, (4 : Int32) * a = v := ⟨_, rfl⟩
      have w26g : w26v.toInt = 4 * a.toInt := by rw [← w26]; exact zmulc li4 rfl (by omega) (by omega)
      refine zs_imul (pc := 33) t332_33 (c := w26v) w26 ?_
      obtain ⟨w27v, w27e, w27⟩ := ziadd (a := (30 : Int32)) (b := w26v) li30 w26g (by omega) (by omega)
      refine zs_iadd (pc := 34) t332_34 (c := w27v) w27e ?_
      refine zs_iconst (pc := 35) t332_35 (v := 2) (by decide) ?_
      obtain ⟨w28v, w28e, w28⟩ := ziadd (a := w27v) (b := (2 : Int32)) w27 li2 (by omega) (by omega)
      refine zs_iadd (pc := 36) t332_36 (c := w28v) w28e ?_
      refine zs_iconst (pc := 37) t332_37 (v := -1) (by decide) ?_
      have w29a := aN (p := (32 + 4 * w13n)) (by omega)
      have w29 : zIv mLo mHi (zsI w21M 337 (32 + 4 * w13n) (-1 : Int32)) := zIv.putA w21I (by omega) (by rw [w29a.1, w29a.2]; exact zrg (-1 : Int32))
      have w30 : (zI w21M 337 0).toInt = (zI w21M 337 0).toInt := (congrArg Int32.toInt rfl).trans rfl
      have w31 : (zI w21M 337 1).toInt = (zI w21M 337 1).toInt := (congrArg Int32.toInt rfl).trans rfl
      have w32 : zPR (zsI w21M 337 (32 + 4 * w13n) (-1 : Int32)) := zPR.put w21PR (by omega) (by omega) (by omega) (by omega)
      have w33 : zPC (zsI w21M 337 (32 + 4 * w13n) (-1 : Int32)) := zPC.put w21PC (by omega) (by omega)
      have w34 : zRw (zsI w21M 337 (32 + 4 * w13n) (-1 : Int32)) 0 (uS F (32 + 4 * w13n) (-1)) := zRw.put w21r0 (by decide)
      have w35 : zWF (uS F (32 + 4 * w13n) (-1)) := zWF.time x3 (by omega) (by omega) (by omega)
      refine zs_iast (pc := 38) t332_38 (j := (32 + 4 * w13n)) (by decide) (zk1 (w21s.k fk_zMm_337)) (show w28v.toInt = (((32 + 4 * w13n) : Nat) : Int) by omega) (zk2 (w21s.k fk_zMm_337) (by omega)) ?_
      refine zs_aload_n (pc := 39) t332_39 rfl ?_
      refine zs_iconst (pc := 40) t332_40 (v := -1) (by decide) ?_
      refine zs_invV (pc := 41) (k := 336) (as' := [.int (-1 : Int32)]) (st := []) t332_41 mf290 rfl rfl (Or.inl ⟨by decide, (zk1 (w21s.k fk_zMm_336))⟩) ⟨by decide, by decide, Nat.le_of_ble_eq_true rfl, Nat.le_of_ble_eq_true rfl⟩ (R290n w21s w29 w34 w35 ?_) (fun _ _ q => q)
      intro w36v w36x0
      have w36g := zrg w36v
      show zGo X l 3 0 0 332 44 [(0, .ref 336), (1, .int a)] [.int w36v] (zsI w21M 337 (32 + 4 * w13n) (-1 : Int32)) _
      have w37 : (zI (zsI w21M 337 (32 + 4 * w13n) (-1 : Int32)) 336 3).toInt = (zI w21M 336 3).toInt := (congrArg Int32.toInt ((zIo (by decide)).trans rfl)).trans rfl
      exact zs_iret (pc := 44) t332_44 mr332 rfl (hQ _ _ w21s w29 (((zFr.refl).trans (w21F.mono rfl)).put rfl) w21J w32 w33 (zPF.fr (M' := (zsI w21M 337 (32 + 4 * w13n) (-1 : Int32))) w21PF (zEq.put rfl) rfl) (by omega) (Or.inr ⟨by omega, by omega, by rw [show a.toInt.toNat = w13n by omega]; omega, by rw [show a.toInt.toNat = w13n by omega]; exact w36x0, by rw [show a.toInt.toNat = w13n by omega]; exact ⟨w34, (zHM.fr w21x0 (fun j hj => (zIoj (by omega))) (zIo (by decide))), (zKM.fr (zKM.rows x2 (fun r h1 h2 G z => w21x1 r (Or.inl (by omega)) G z) (fun k => w21F 338 k rfl)) (fun j hj => (zIoj (by omega))) (fun k => (zIo (by decide))))⟩⟩))
    · refine zs_icmp_neF (pc := 15) t332_15 rfl lin1 (by omega) ?_
      refine zs_iconst (pc := 18) t332_18 (v := -1) (by decide) ?_
      have w38 := ib336_3 hI
      have w39 : (zI M 336 3).toInt = (zI M 336 3).toInt := (congrArg Int32.toInt rfl).trans rfl
      have w40 := lin1
      exact zs_iret (pc := 19) t332_19 mr332 (by decide) (hQ _ _ hs hI (zFr.refl) rfl pR pC pF (by omega) (Or.inl ⟨by decide, by rw [show a.toInt.toNat = w13n by omega]; omega, x0, x1, x2⟩))
  · refine zs_invS (pc := 12) (as := [.long a.toInt64, .long (0 : Int64), .long w8v.toInt64]) (st := []) t308_12 (by decide) mf228 rfl rfl ⟨by decide, by decide, Nat.le_of_ble_eq_true rfl, Nat.le_of_ble_eq_true rfl⟩ (K228F (zi2l rfl) ll0 (zi2l w8) (by omega) ?_) (fun _ _ q => q)
    show zGo X l 1 0 0 308 15 [(0, .ref 336), (1, .int a)] [.int (0 : Int32)] M _
    refine zs_iret (pc := 15) t308_15 mr308 (by decide) ?_
    show zGo X l 3 0 0 332 5 [(0, .ref 336), (1, .int a)] [.int (0 : Int32)] M _
    refine zs_if_eqT (pc := 5) t332_5 li0 (by decide) ?_
    refine zs_iconst (pc := 18) t332_18 (v := -1) (by decide) ?_
    have w41 := ib336_3 hI
    have w42 : (zI M 336 3).toInt = (zI M 336 3).toInt := (congrArg Int32.toInt rfl).trans rfl
    have w43 := lin1
    exact zs_iret (pc := 19) t332_19 mr332 (by decide) (hQ _ _ hs hI (zFr.refl) rfl pR pC pF (by omega) (Or.inl ⟨by decide, by omega, x0, x1, x2⟩))
theorem R225 {X : zX} {l : Launch} {M : zM} {Q : Option Value → zM → Prop} (hs : zSk zMm M) (hI : zIv mLo mHi M) {F : Nat → Int} {H : Nat → Nat → Int} {n : Int} {K : Nat → Nat → Int} {T : Nat → Int} (pR : zPR M) (pC : zPC M) (pF : zPF M) (x0 : zRw M 0 F) (x1 : zHM M H n) (x2 : zKM M K T) (x3 : zWF F) (hQ : ∀ (M' : zM) (v : Int32), zSk zMm M' → zIv mLo mHi M' → zFr [(337, 337, none), (336, 336, some 1), (336, 336, some 3)] M M' → zJ M' 351 = zJ M 351 → zPR M' → zPC M' → zPF M' → ((zI M' 336 3).toInt = 0 ∨ (v.toInt = -1 ∧ (zI M' 336 3).toInt = (zI M 336 3).toInt)) → ((v.toInt = -1 ∧ n ≤ 0 ∧ zSM M' F H n K T) ∨ (0 < n ∧ v.toInt = n - 1 ∧ zSM M' (H 0) (popH H) (n - 1) K T)) → Q (some (.int v)) M') : zCall X l 1 0 0 225 [.ref 336] M Q := by
  refine zs_in (by decide) mf225 (Nat.le_of_ble_eq_true rfl) ?_
  show zGo X l 1 0 0 225 0 [(0, .ref 336)] [] M _
  have f1 := x3.1
  have f3 := x3.2.2.2
  have w1 := ibA0 hI
  have w2 : (zI M 337 0).toInt = (zI M 337 0).toInt := (congrArg Int32.toInt rfl).trans rfl
  have e0 : (zI M 337 0).toInt = F 0 := x0.at (by decide) (by decide) (by decide)
  have w3 := ibA1 hI
  have w4 : (zI M 337 1).toInt = (zI M 337 1).toInt := (congrArg Int32.toInt rfl).trans rfl
  have e1 : (zI M 337 1).toInt = F 1 := x0.at (by decide) (by decide) (by decide)
  have w5 := ibA2 hI
  have w6 : (zI M 337 2).toInt = (zI M 337 2).toInt := (congrArg Int32.toInt rfl).trans rfl
  have e2 : (zI M 337 2).toInt = F 2 := x0.at (by decide) (by decide) (by decide)
  have w7 := ib336_1 hI
  have w8 : (zI M 336 1).toInt = (zI M 336 1).toInt := (congrArg Int32.toInt rfl).trans rfl
  have g1 := x1.1
  refine zs_aload_n (pc := 0) t225_0 rfl ?_
  refine zs_get (pc := 1) t225_1 (by decide) (zk1 (hs.k fk_zMm_336)) (zfvi rfl rfl) ?_
  by_cases w9 : (zI M 336 1).toInt ≠ 0
  · refine zs_if_neT (pc := 4) t225_4 rfl (by omega) ?_
    refine zs_aload_n (pc := 9) t225_9 rfl ?_
    refine zs_dup (pc := 10) t225_10 rfl ?_
    refine zs_get (pc := 11) t225_11 (by decide) (zk1 (hs.k fk_zMm_336)) (zfvi rfl rfl) ?_
    refine zs_iconst (pc := 14) t225_14 (v := 1) (by decide) ?_
    obtain ⟨w10v, w10e, w10⟩ := zisub (a := (zI M 336 1)) (b := (1 : Int32)) rfl li1 (by omega) (by omega)
    refine zs_isub (pc := 15) t225_15 (c := w10v) w10e ?_
    have w11 : zIv mLo mHi (zsI M 336 1 w10v) := zIv.put hI (show 0 ≤ w10v.toInt ∧ w10v.toInt ≤ 8 from ⟨by omega, by omega⟩)
    have w12 : (zI M 336 1).toInt = (zI M 336 1).toInt := (congrArg Int32.toInt rfl).trans rfl
    have w13 : w10v.toInt = ((zI M 336 1).toInt - 1) := w10
    have w14 : zPR (zsI M 336 1 w10v) := zPR.less pR (by omega)
    refine zs_putI (pc := 16) t225_16 (zk1 (hs.k fk_zMm_336)) rfl ?_
    refine zs_aload_n (pc := 19) t225_19 rfl ?_
    refine zs_iconst (pc := 20) t225_20 (v := 3) (by decide) ?_
    refine zs_aload_n (pc := 21) t225_21 rfl ?_
    refine zs_get (pc := 22) t225_22 (by decide) (zk1 (hs.k fk_zMm_336)) (zfvi rfl zIs) ?_
    obtain ⟨w15v, w15e, w15⟩ := ziadd (a := (3 : Int32)) (b := w10v) li3 w10 (by omega) (by omega)
    refine zs_iadd (pc := 25) t225_25 (c := w15v) w15e ?_
    refine zs_iconst (pc := 26) t225_26 (v := 0) (by decide) ?_
    obtain ⟨w16n, w16⟩ : ∃ n : Nat, (zI M 336 1).toInt = (n : Int) := ⟨((zI M 336 1).toInt).toNat, by omega⟩
    have w17 : (zI M 336 1).toInt = (zI M 336 1).toInt := (congrArg Int32.toInt rfl).trans rfl
    have w18k : zRk (zrow (zsI M 336 1 w10v) (2 + w16n)) := (by rw [zrowN (by decide), show (2 + w16n) = 3 + (w16n - 1) by omega]; exact pR.2.2 (w16n - 1) (by omega))
    refine zs_invV (pc := 27) (k := 336) (as' := [.int w15v, .int (0 : Int32)]) (st := []) t225_27 mf226 rfl rfl (Or.inl ⟨by decide, (zk1 (hs.k fk_zMm_336))⟩) ⟨by decide, by decide, Nat.le_of_ble_eq_true rfl, Nat.le_of_ble_eq_true rfl⟩ (K226 (na := (2 + w16n)) (nb := 0) hs w11 (by omega) (by decide) (by omega) (by omega) (by omega) w18k ?_) (fun _ _ q => q)
    intro w18M w18s w18I w18F w18J w18c
    have w18R : zPR w18M := zPR.cp w14 w11 w18k w18c (w18F.eq rfl)
    have w18C : zPC w18M := zPC.cp (zPC.fr (M' := (zsI M 336 1 w10v)) pC (zEq.put rfl)) w11 w14 w18k w18c
    obtain ⟨w19d, w19⟩ : ∃ d : Nat, (zI M 336 1).toInt = (d : Int) + 1 := ⟨((zI M 336 1).toInt - 1).toNat, by omega⟩
    have w18r0 := zRw.cp w18c (zRw.cast (r' := (2 + w16n)) (by omega) (zRw.frR (zHM.top x1 w19) (by omega) (fun j hj => (zIo (by decide)))))
    show zGo X l 1 0 0 225 30 [(0, .ref 336)] [] w18M _
    refine zs_aload_n (pc := 30) t225_30 rfl ?_
    refine zs_iconst (pc := 31) t225_31 (v := 0) (by decide) ?_
    have w20 : zIv mLo mHi (zsI w18M 336 3 (0 : Int32)) := zIv.put w18I (show 0 ≤ (0 : Int32).toInt ∧ (0 : Int32).toInt ≤ 1 from ⟨by decide, by decide⟩)
    have w21 : zPF (zsI w18M 336 3 (0 : Int32)) := zPF.off
    refine zs_putI (pc := 32) t225_32 (zk1 (w18s.k fk_zMm_336)) (by decide) ?_
    refine zs_aload_n (pc := 35) t225_35 rfl ?_
    refine zs_get (pc := 36) t225_36 (by decide) (zk1 (w18s.k fk_zMm_336)) (zfvi rfl ((zIoj (by decide)).trans ((w18F 336 1 rfl).trans zIs))) ?_
    have w22 : (zI (zsI w18M 336 3 (0 : Int32)) 336 3).toInt = 0 := (congrArg Int32.toInt zIs).trans li0
    have w23 := w10
    have w24 : w10v.toInt = ((zI M 336 1).toInt - 1) := w10
    have w25 : (zI (zsI w18M 336 3 (0 : Int32)) 336 1).toInt = ((zI M 336 1).toInt - 1) := (congrArg Int32.toInt ((zIoj (by decide)).trans ((w18F 336 1 rfl).trans zIs))).trans w10
    exact zs_iret (pc := 39) t225_39 mr225 rfl (hQ _ _ w18s w20 ((((zFr.refl).put rfl).trans (w18F.mono rfl)).put rfl) w18J (zPR.fr (M' := (zsI w18M 336 3 (0 : Int32))) w18R (zEq.put rfl)) (zPC.fr (M' := (zsI w18M 336 3 (0 : Int32))) w18C (zEq.put rfl)) w21 (by omega) (Or.inr ⟨by omega, by omega, (zRw.fr' w18r0 (fun j hj => (zIo (by decide)))), zHM.pop x1 (by omega) (by omega) (by omega) (fun r h1 G z => (zRw.frR (zRw.cpo w18c (zRw.frR z (by omega) (fun j hj => (zIo (by decide)))) (by omega)) (by omega) (fun j hj => (zIo (by decide))))), (zKM.fr (zKM.cp (zKM.fr x2 (fun j hj => (zIo (by decide))) (fun k => (zIo (by decide)))) w18c (by omega) (fun k => w18F 338 k rfl)) (fun j hj => (zIo (by decide))) (fun k => (zIo (by decide))))⟩))
  · refine zs_if_neF (pc := 4) t225_4 rfl (by omega) ?_
    refine zs_iconst (pc := 7) t225_7 (v := -1) (by decide) ?_
    have w26 := ib336_3 hI
    have w27 : (zI M 336 3).toInt = (zI M 336 3).toInt := (congrArg Int32.toInt rfl).trans rfl
    have w28 := lin1
    have w29 : (-1 : Int32).toInt = (-1) := lin1
    exact zs_iret (pc := 8) t225_8 mr225 (by decide) (hQ _ _ hs hI (zFr.refl) rfl pR pC pF (by omega) (Or.inl ⟨by decide, by omega, x0, x1, x2⟩))
theorem R227 {X : zX} {l : Launch} {M : zM} {Q : Option Value → zM → Prop} {a : Int32} (hs : zSk zMm M) (hI : zIv mLo mHi M) {F : Nat → Int} {H : Nat → Nat → Int} {n : Int} {K : Nat → Nat → Int} {T : Nat → Int} (pR : zPR M) (pC : zPC M) (pF : zPF M) (x0 : zRw M 0 F) (x1 : zHM M H n) (x2 : zKM M K T) (x3 : zWF F) (hQ : ∀ (M' : zM) (v : Int32), zSk zMm M' → zIv mLo mHi M' → zFr [(337, 338, none)] M M' → zJ M' 351 = zJ M 351 → zPR M' → zPC M' → zPF M' → ((zI M' 336 3).toInt = (zI M 336 3).toInt) → ((v.toInt = 0 ∧ (a.toInt < 0 ∨ 1 < a.toInt) ∧ zSM M' F H n K T) ∨ (v.toInt = 1 ∧ 0 ≤ a.toInt ∧ a.toInt ≤ 1 ∧ zSM M' F H n (uK K a.toInt.toNat F) (uS T a.toInt.toNat 1))) → 0 ≤ v.toInt → v.toInt ≤ 1 → Q (some (.int v)) M') : zCall X l 1 0 0 227 [.ref 336, .int a] M Q := by
  have ga := zrg a
  refine zs_in (by decide) mf227 (Nat.le_of_ble_eq_true rfl) ?_
  show zGo X l 1 0 0 227 0 [(0, .ref 336), (1, .int a)] [] M _
  have f1 := x3.1
  have f3 := x3.2.2.2
  have w1 := ibA0 hI
  have w2 : (zI M 337 0).toInt = (zI M 337 0).toInt := (congrArg Int32.toInt rfl).trans rfl
  have e0 : (zI M 337 0).toInt = F 0 := x0.at (by decide) (by decide) (by decide)
  have w3 := ibA1 hI
  have w4 : (zI M 337 1).toInt = (zI M 337 1).toInt := (congrArg Int32.toInt rfl).trans rfl
  have e1 : (zI M 337 1).toInt = F 1 := x0.at (by decide) (by decide) (by decide)
  have w5 := ibA2 hI
  have w6 : (zI M 337 2).toInt = (zI M 337 2).toInt := (congrArg Int32.toInt rfl).trans rfl
  have e2 : (zI M 337 2).toInt = F 2 := x0.at (by decide) (by decide) (by decide)
  have w7 := ib336_1 hI
  have w8 : (zI M 336 1).toInt = (zI M 336 1).toInt := (congrArg Int32.toInt rfl).trans rfl
  have g1 := x1.1
  refine zs_iload_n (pc := 0) t227_0 rfl ?_
  refine zs_i2l (pc := 1) t227_1 rfl ?_
  refine zs_lconst (pc := 2) t227_2 (v := 0) (by decide) ?_
  refine zs_lconst (pc := 3) t227_3 (v := 1) (by decide) ?_
  by_cases w9 : 0 ≤ a.toInt ∧ a.toInt ≤ 1
  · refine zs_invS (pc := 4) (as := [.long a.toInt64, .long (0 : Int64), .long (1 : Int64)]) (st := []) t227_4 (by decide) mf228 rfl rfl ⟨by decide, by decide, Nat.le_of_ble_eq_true rfl, Nat.le_of_ble_eq_true rfl⟩ (K228T (zi2l rfl) ll0 ll1 (by omega) ?_) (fun _ _ q => q)
    show zGo X l 1 0 0 227 7 [(0, .ref 336), (1, .int a)] [.int (1 : Int32)] M _
    refine zs_if_neT (pc := 7) t227_7 li1 (by decide) ?_
    refine zs_aload_n (pc := 12) t227_12 rfl ?_
    refine zs_iconst (pc := 13) t227_13 (v := 0) (by decide) ?_
    refine zs_iconst (pc := 14) t227_14 (v := 1) (by decide) ?_
    refine zs_iload_n (pc := 15) t227_15 rfl ?_
    obtain ⟨w10v, w10e, w10⟩ := ziadd (a := (1 : Int32)) (b := a) li1 rfl (by omega) (by omega)
    refine zs_iadd (pc := 16) t227_16 (c := w10v) w10e ?_
    obtain ⟨w11n, w11⟩ : ∃ n : Nat, a.toInt = (n : Int) := ⟨(a.toInt).toNat, by omega⟩
    have w12k : zRk (zrow M 0) := (zRk0 hI pR pC)
    refine zs_invV (pc := 17) (k := 336) (as' := [.int (0 : Int32), .int w10v]) (st := []) t227_17 mf226 rfl rfl (Or.inl ⟨by decide, (zk1 (hs.k fk_zMm_336))⟩) ⟨by decide, by decide, Nat.le_of_ble_eq_true rfl, Nat.le_of_ble_eq_true rfl⟩ (K226 (na := 0) (nb := (1 + w11n)) hs hI (by decide) (by omega) (by omega) (by omega) (by omega) w12k ?_) (fun _ _ q => q)
    intro w12M w12s w12I w12F w12J w12c
    have w12R : zPR w12M := zPR.cp pR hI w12k w12c (w12F.eq rfl)
    have w12C : zPC w12M := zPC.cp pC hI pR w12k w12c
    have w12r0 : zI w12M 337 0 = (zI M 337 0) := (w12c.1 0 (Or.inl (by omega))).trans rfl
    have w12r1 : zI w12M 337 1 = (zI M 337 1) := (w12c.1 1 (Or.inl (by omega))).trans rfl
    have w12r2 : zI w12M 337 2 = (zI M 337 2) := (w12c.1 2 (Or.inl (by omega))).trans rfl
    show zGo X l 1 0 0 227 20 [(0, .ref 336), (1, .int a)] [] w12M _
    refine zs_aload_n (pc := 20) t227_20 rfl ?_
    refine zs_get (pc := 21) t227_21 (by decide) (zk1 (w12s.k fk_zMm_336)) (w12s.p rfl fv_zMm_336_2) ?_
    refine zs_iload_n (pc := 24) t227_24 rfl ?_
    refine zs_iconst (pc := 25) t227_25 (v := 1) (by decide) ?_
    have w13e : vp_nar .boolean (1 : Int32) = (1 : Int32) := by decide
    have w14 : zIv mLo mHi (zsI w12M 338 w11n (1 : Int32)) := zIv.put w12I (show 0 ≤ (1 : Int32).toInt ∧ (1 : Int32).toInt ≤ 1 from ⟨by decide, by decide⟩)
    have w15 : zPR (zsI w12M 338 w11n (1 : Int32)) := zPR.keep (n := w11n) w12R (zCp.k w12c w12k (Or.inl (by omega)))
    refine zs_bastZ (pc := 26) t227_26 (j := w11n) (by decide) (zk1 (w12s.k fk_zMm_338)) (show a.toInt = ((w11n : Nat) : Int) by omega) (zk2 (w12s.k fk_zMm_338) (by omega)) w13e ?_
    refine zs_iconst (pc := 27) t227_27 (v := 1) (by decide) ?_
    have w16 := ib336_3 hI
    have w17 : (zI (zsI w12M 338 w11n (1 : Int32)) 336 3).toInt = (zI M 336 3).toInt := (congrArg Int32.toInt ((zIo (by decide)).trans ((w12F 336 3 rfl).trans rfl))).trans rfl
    have w18 := li1
    exact zs_iret (pc := 28) t227_28 mr227 (by decide) (hQ _ _ w12s w14 (((zFr.refl).trans (w12F.mono rfl)).put rfl) w12J w15 (zPC.fr (M' := (zsI w12M 338 w11n (1 : Int32))) w12C (zEq.put rfl)) (zPF.fr (M' := (zsI w12M 338 w11n (1 : Int32))) (zPF.fr pF (w12F.eq rfl) w12J) (zEq.put rfl) rfl) (by omega) (Or.inr ⟨by decide, by omega, by omega, (zRw.fr' (zRw.cpo w12c x0 (by omega)) (fun j hj => (zIo (by decide)))), (zHM.fr (zHM.cp x1 w12c (by omega) (by omega) (w12F 336 1 rfl)) (fun j hj => (zIo (by decide))) (zIo (by decide))), by rw [show a.toInt.toNat = w11n by omega]; exact zKM.put (i := w11n) x2 (by omega) ((congrArg Int32.toInt zIs).trans li1) (zRw.frR (zRw.cp w12c x0) (by omega) (fun j hj => (zIo (by decide)))) (fun k k1 => ((zIoj k1).trans (w12F 338 k rfl))) (fun k k1 k2 G z => (zRw.frR (zRw.cpo w12c z (by omega)) (by omega) (fun j hj => (zIo (by decide)))))⟩) (by decide) (by decide))
  · refine zs_invS (pc := 4) (as := [.long a.toInt64, .long (0 : Int64), .long (1 : Int64)]) (st := []) t227_4 (by decide) mf228 rfl rfl ⟨by decide, by decide, Nat.le_of_ble_eq_true rfl, Nat.le_of_ble_eq_true rfl⟩ (K228F (zi2l rfl) ll0 ll1 (by omega) ?_) (fun _ _ q => q)
    show zGo X l 1 0 0 227 7 [(0, .ref 336), (1, .int a)] [.int (0 : Int32)] M _
    refine zs_if_neF (pc := 7) t227_7 li0 (by decide) ?_
    refine zs_iconst (pc := 10) t227_10 (v := 0) (by decide) ?_
    have w19 := ib336_3 hI
    have w20 : (zI M 336 3).toInt = (zI M 336 3).toInt := (congrArg Int32.toInt rfl).trans rfl
    have w21 := li0
    exact zs_iret (pc := 11) t227_11 mr227 (by decide) (hQ _ _ hs hI (zFr.refl) rfl pR pC pF (by omega) (Or.inl ⟨by decide, by omega, x0, x1, x2⟩) (by decide) (by decide))
theorem R229 {X : zX} {l : Launch} {M : zM} {Q : Option Value → zM → Prop} {a : Int32} (hs : zSk zMm M) (hI : zIv mLo mHi M) {F : Nat → Int} {H : Nat → Nat → Int} {n : Int} {K : Nat → Nat → Int} {T : Nat → Int} (pR : zPR M) (pC : zPC M) (pF : zPF M) (x0 : zRw M 0 F) (x1 : zHM M H n) (x2 : zKM M K T) (x3 : zWF F) (hQ : ∀ (M' : zM) (v : Int32), zSk zMm M' → zIv mLo mHi M' → zFr [(337, 337, none), (336, 336, some 1), (336, 336, some 3)] M M' → zJ M' 351 = zJ M 351 → zPR M' → zPC M' → zPF M' → ((zI M' 336 3).toInt = 0 ∨ (v.toInt = 0 ∧ (zI M' 336 3).toInt = (zI M 336 3).toInt)) → ((v.toInt = 0 ∧ (a.toInt < 0 ∨ 1 < a.toInt ∨ (0 ≤ a.toInt ∧ a.toInt ≤ 1 ∧ T a.toInt.toNat ≠ 1)) ∧ zSM M' F H n K T) ∨ (v.toInt = 1 ∧ 0 ≤ a.toInt ∧ a.toInt ≤ 1 ∧ T a.toInt.toNat = 1 ∧ zSM M' (K a.toInt.toNat) (pushH F H) (nP n) K T)) → 0 ≤ v.toInt → v.toInt ≤ 1 → Q (some (.int v)) M') : zCall X l 2 0 0 229 [.ref 336, .int a] M Q := by
  have ga := zrg a
  refine zs_in (by decide) mf229 (Nat.le_of_ble_eq_true rfl) ?_
  show zGo X l 2 0 0 229 0 [(0, .ref 336), (1, .int a)] [] M _
  have f1 := x3.1
  have f3 := x3.2.2.2
  have w1 := ibA0 hI
  have w2 : (zI M 337 0).toInt = (zI M 337 0).toInt := (congrArg Int32.toInt rfl).trans rfl
  have e0 : (zI M 337 0).toInt = F 0 := x0.at (by decide) (by decide) (by decide)
  have w3 := ibA1 hI
  have w4 : (zI M 337 1).toInt = (zI M 337 1).toInt := (congrArg Int32.toInt rfl).trans rfl
  have e1 : (zI M 337 1).toInt = F 1 := x0.at (by decide) (by decide) (by decide)
  have w5 := ibA2 hI
  have w6 : (zI M 337 2).toInt = (zI M 337 2).toInt := (congrArg Int32.toInt rfl).trans rfl
  have e2 : (zI M 337 2).toInt = F 2 := x0.at (by decide) (by decide) (by decide)
  have g2 := nP.e (n := n)
  have w7 := ib336_1 hI
  have w8 : (zI M 336 1).toInt = (zI M 336 1).toInt := (congrArg Int32.toInt rfl).trans rfl
  have g1 := x1.1
  have g0 := (x2 0 (by decide)).1
  have g8 := (x2 1 (by decide)).1
  refine zs_iload_n (pc := 0) t229_0 rfl ?_
  refine zs_i2l (pc := 1) t229_1 rfl ?_
  refine zs_lconst (pc := 2) t229_2 (v := 0) (by decide) ?_
  refine zs_lconst (pc := 3) t229_3 (v := 1) (by decide) ?_
  by_cases w9 : 0 ≤ a.toInt ∧ a.toInt ≤ 1
  · refine zs_invS (pc := 4) (as := [.long a.toInt64, .long (0 : Int64), .long (1 : Int64)]) (st := []) t229_4 (by decide) mf228 rfl rfl ⟨by decide, by decide, Nat.le_of_ble_eq_true rfl, Nat.le_of_ble_eq_true rfl⟩ (K228T (zi2l rfl) ll0 ll1 (by omega) ?_) (fun _ _ q => q)
    show zGo X l 2 0 0 229 7 [(0, .ref 336), (1, .int a)] [.int (1 : Int32)] M _
    refine zs_if_eqF (pc := 7) t229_7 li1 (by decide) ?_
    refine zs_aload_n (pc := 10) t229_10 rfl ?_
    refine zs_get (pc := 11) t229_11 (by decide) (zk1 (hs.k fk_zMm_336)) (hs.p rfl fv_zMm_336_2) ?_
    refine zs_iload_n (pc := 14) t229_14 rfl ?_
    obtain ⟨w10n, w10⟩ : ∃ n : Nat, a.toInt = (n : Int) := ⟨(a.toInt).toNat, by omega⟩
    have w11 := ib338 hI w10n
    have w12 := (x2 w10n (by omega)).1
    refine zs_bald (pc := 15) t229_15 (j := w10n) (Or.inr (zk1 (hs.k fk_zMm_338))) (show a.toInt = ((w10n : Nat) : Int) by omega) (zk2 (hs.k fk_zMm_338) (by omega)) rfl ?_
    by_cases w13 : (zI M 338 w10n).toInt ≠ 0
    · refine zs_if_neT (pc := 16) t229_16 rfl (by omega) ?_
      refine zs_aload_n (pc := 21) t229_21 rfl ?_
      refine zs_iconst (pc := 22) t229_22 (v := 0) (by decide) ?_
      have w14 : (zI M 337 1).toInt = (zI M 337 1).toInt := (congrArg Int32.toInt rfl).trans rfl
      have w15 : (zI M 337 2).toInt = (zI M 337 2).toInt := (congrArg Int32.toInt rfl).trans rfl
      have w16 : (zI M 337 0).toInt = (zI M 337 0).toInt := (congrArg Int32.toInt rfl).trans rfl
      refine zs_invV (pc := 23) (k := 336) (as' := [.int (0 : Int32)]) (st := []) t229_23 mf230 rfl rfl (Or.inl ⟨by decide, (zk1 (hs.k fk_zMm_336))⟩) ⟨by decide, by decide, Nat.le_of_ble_eq_true rfl, Nat.le_of_ble_eq_true rfl⟩ (R230_0 hs hI pR pC x0 x1 ?_) (fun _ _ q => q)
      intro w17M w17s w17I w17F w17J w17PR w17PC w17PF w17t0 w17t1 w17t2 w17t3 w17x0 w17x1
      have w18 := ibA1 w17I
      have w19 := ib336_3 w17I
      have w20 := ibA2 w17I
      have w21 := ibA0 w17I
      have w17r0 := w17x1 0 (by decide) _ x0
      show zGo X l 2 0 0 229 26 [(0, .ref 336), (1, .int a)] [] w17M _
      refine zs_aload_n (pc := 26) t229_26 rfl ?_
      refine zs_iconst (pc := 27) t229_27 (v := 1) (by decide) ?_
      refine zs_iload_n (pc := 28) t229_28 rfl ?_
      obtain ⟨w22v, w22e, w22⟩ := ziadd (a := (1 : Int32)) (b := a) li1 rfl (by omega) (by omega)
      refine zs_iadd (pc := 29) t229_29 (c := w22v) w22e ?_
      refine zs_iconst (pc := 30) t229_30 (v := 0) (by decide) ?_
      have w23 : (zI w17M 338 w10n).toInt = (zI M 338 w10n).toInt := (congrArg Int32.toInt ((w17F 338 w10n rfl).trans rfl)).trans rfl
      have w24k : zRk (zrow w17M (1 + w10n)) := (w17PR.2.1 w10n (by omega) (by omega))
      refine zs_invV (pc := 31) (k := 336) (as' := [.int w22v, .int (0 : Int32)]) (st := []) t229_31 mf226 rfl rfl (Or.inl ⟨by decide, (zk1 (w17s.k fk_zMm_336))⟩) ⟨by decide, by decide, Nat.le_of_ble_eq_true rfl, Nat.le_of_ble_eq_true rfl⟩ (K226 (na := (1 + w10n)) (nb := 0) w17s w17I (by omega) (by decide) (by omega) (by omega) (by omega) w24k ?_) (fun _ _ q => q)
      intro w24M w24s w24I w24F w24J w24c
      have w24R : zPR w24M := zPR.cp w17PR w17I w24k w24c (w24F.eq rfl)
      have w24C : zPC w24M := zPC.cp w17PC w17I w17PR w24k w24c
      have w24r0 := zRw.cp w24c (((zKM.rows x2 (fun r h1 h2 G z => w17x1 r (Or.inl (by omega)) G z) (fun k => w17F 338 k rfl)) w10n (by omega)).2 (by omega))
      show zGo X l 2 0 0 229 34 [(0, .ref 336), (1, .int a)] [] w24M _
      refine zs_iconst (pc := 34) t229_34 (v := 1) (by decide) ?_
      have w25 : (zI w24M 336 3).toInt = (zI w17M 336 3).toInt := (congrArg Int32.toInt ((w24F 336 3 rfl).trans rfl)).trans rfl
      have w26 := li1
      exact zs_iret (pc := 35) t229_35 mr229 (by decide) (hQ _ _ w24s w24I (((zFr.refl).trans (w17F.mono rfl)).trans (w24F.mono rfl)) (w24J.trans w17J) w24R w24C (zPF.fr w17PF (w24F.eq rfl) w24J) (by omega) (Or.inr ⟨by decide, by omega, by omega, by rw [show a.toInt.toNat = w10n by omega]; omega, by rw [show a.toInt.toNat = w10n by omega]; exact ⟨w24r0, (zHM.cp w17x0 w24c (by omega) (by omega) (w24F 336 1 rfl)), (zKM.cp (zKM.rows x2 (fun r h1 h2 G z => w17x1 r (Or.inl (by omega)) G z) (fun k => w17F 338 k rfl)) w24c (by omega) (fun k => w24F 338 k rfl))⟩⟩) (by decide) (by decide))
    · refine zs_if_neF (pc := 16) t229_16 rfl (by omega) ?_
      refine zs_iconst (pc := 19) t229_19 (v := 0) (by decide) ?_
      have w27 := ib336_3 hI
      have w28 : (zI M 336 3).toInt = (zI M 336 3).toInt := (congrArg Int32.toInt rfl).trans rfl
      have w29 := li0
      exact zs_iret (pc := 20) t229_20 mr229 (by decide) (hQ _ _ hs hI (zFr.refl) rfl pR pC pF (by omega) (Or.inl ⟨by decide, by rw [show a.toInt.toNat = w10n by omega]; omega, x0, x1, x2⟩) (by decide) (by decide))
  · refine zs_invS (pc := 4) (as := [.long a.toInt64, .long (0 : Int64), .long (1 : Int64)]) (st := []) t229_4 (by decide) mf228 rfl rfl ⟨by decide, by decide, Nat.le_of_ble_eq_true rfl, Nat.le_of_ble_eq_true rfl⟩ (K228F (zi2l rfl) ll0 ll1 (by omega) ?_) (fun _ _ q => q)
    show zGo X l 2 0 0 229 7 [(0, .ref 336), (1, .int a)] [.int (0 : Int32)] M _
    refine zs_if_eqT (pc := 7) t229_7 li0 (by decide) ?_
    refine zs_iconst (pc := 19) t229_19 (v := 0) (by decide) ?_
    have w30 := ib336_3 hI
    have w31 : (zI M 336 3).toInt = (zI M 336 3).toInt := (congrArg Int32.toInt rfl).trans rfl
    have w32 := li0
    exact zs_iret (pc := 20) t229_20 mr229 (by decide) (hQ _ _ hs hI (zFr.refl) rfl pR pC pF (by omega) (Or.inl ⟨by decide, by omega, x0, x1, x2⟩) (by decide) (by decide))
theorem R335 {X : zX} {l : Launch} {M : zM} {Q : Option Value → zM → Prop} {a b : Int32} (hs : zSk zMm M) (hI : zIv mLo mHi M) {F : Nat → Int} {H : Nat → Nat → Int} {n : Int} {K : Nat → Nat → Int} {T : Nat → Int} (pR : zPR M) (pC : zPC M) (pF : zPF M) (x0 : zRw M 0 F) (x1 : zHM M H n) (x2 : zKM M K T) (x3 : zWF F) (hQ : ∀ (M' : zM) (v : Int32), zSk zMm M' → zIv mLo mHi M' → zFr [(337, 337, none), (336, 336, some 1), (336, 336, some 3)] M M' → zJ M' 351 = zJ M 351 → zPR M' → zPC M' → zPF M' → ((zI M' 336 3).toInt = 0 ∨ (v.toInt = -1 ∧ (zI M' 336 3).toInt = (zI M 336 3).toInt)) → ((v.toInt = -1 ∧ (a.toInt < 0 ∨ F 0 ≤ a.toInt ∨ b.toInt < -999 ∨ 999 < b.toInt) ∧ zSM M' F H n K T) ∨ (0 ≤ a.toInt ∧ a.toInt < F 0 ∧ -999 ≤ b.toInt ∧ b.toInt ≤ 999 ∧ v.toInt = pct (zab F a.toInt b.toInt) (F 1).toNat ∧ zSM M' (pAl F a.toInt b.toInt (F 1).toNat) (pushH F H) (nP n) K T)) → Q (some (.int v)) M') : zCall X l 2 0 0 335 [.ref 336, .int a, .int b] M Q := by
  have ga := zrg a
  have gb := zrg b
  refine zs_in (by decide) mf335 (Nat.le_of_ble_eq_true rfl) ?_
  show zGo X l 2 0 0 335 0 [(0, .ref 336), (1, .int a), (2, .int b)] [] M _
  have f1 := x3.1
  have f3 := x3.2.2.2
  have w1 := ibA0 hI
  have w2 : (zI M 337 0).toInt = (zI M 337 0).toInt := (congrArg Int32.toInt rfl).trans rfl
  have e0 : (zI M 337 0).toInt = F 0 := x0.at (by decide) (by decide) (by decide)
  have w3 := ibA1 hI
  have w4 : (zI M 337 1).toInt = (zI M 337 1).toInt := (congrArg Int32.toInt rfl).trans rfl
  have e1 : (zI M 337 1).toInt = F 1 := x0.at (by decide) (by decide) (by decide)
  have w5 := ibA2 hI
  have w6 : (zI M 337 2).toInt = (zI M 337 2).toInt := (congrArg Int32.toInt rfl).trans rfl
  have e2 : (zI M 337 2).toInt = F 2 := x0.at (by decide) (by decide) (by decide)
  refine zs_aload_n (pc := 0) t335_0 rfl ?_
  refine zs_iload_n (pc := 1) t335_1 rfl ?_
  refine zs_invV (pc := 2) (k := 336) (as' := [.int a]) (st := []) t335_2 mf306 rfl rfl (Or.inl ⟨by decide, (zk1 (hs.k fk_zMm_336))⟩) ⟨by decide, by decide, Nat.le_of_ble_eq_true rfl, Nat.le_of_ble_eq_true rfl⟩ (zs_in (by decide) mf306 (Nat.le_of_ble_eq_true rfl) ?_) (fun _ _ q => q)
  show zGo X l 1 0 0 306 0 [(0, .ref 336), (1, .int a)] [] M _
  refine zs_iload_n (pc := 0) t306_0 rfl ?_
  refine zs_i2l (pc := 1) t306_1 rfl ?_
  refine zs_lconst (pc := 2) t306_2 (v := 0) (by decide) ?_
  refine zs_aload_n (pc := 3) t306_3 rfl ?_
  refine zs_get (pc := 4) t306_4 (by decide) (zk1 (hs.k fk_zMm_336)) (hs.p rfl fv_zMm_336_0) ?_
  refine zs_iconst (pc := 7) t306_7 (v := 0) (by decide) ?_
  have w7 : (zI M 337 0).toInt = F 0 := x0.at (by decide) (by decide) (by decide)
  refine zs_iald (pc := 8) t306_8 (j := 0) (by decide) (zk1 (hs.k fk_zMm_337)) li0 (zk2 (hs.k fk_zMm_337) (by decide)) rfl ?_
  refine zs_iconst (pc := 9) t306_9 (v := 1) (by decide) ?_
  obtain ⟨w8v, w8e, w8⟩ := zisub (a := (zI M 337 0)) (b := (1 : Int32)) rfl li1 (by omega) (by omega)
  refine zs_isub (pc := 10) t306_10 (c := w8v) w8e ?_
  refine zs_i2l (pc := 11) t306_11 rfl ?_
  by_cases w9 : 0 ≤ a.toInt ∧ a.toInt ≤ ((zI M 337 0).toInt - 1)
  · refine zs_invS (pc := 12) (as := [.long a.toInt64, .long (0 : Int64), .long w8v.toInt64]) (st := []) t306_12 (by decide) mf228 rfl rfl ⟨by decide, by decide, Nat.le_of_ble_eq_true rfl, Nat.le_of_ble_eq_true rfl⟩ (K228T (zi2l rfl) ll0 (zi2l w8) (by omega) ?_) (fun _ _ q => q)
    show zGo X l 1 0 0 306 15 [(0, .ref 336), (1, .int a)] [.int (1 : Int32)] M _
    refine zs_iret (pc := 15) t306_15 mr306 (by decide) ?_
    show zGo X l 2 0 0 335 5 [(0, .ref 336), (1, .int a), (2, .int b)] [.int (1 : Int32)] M _
    refine zs_if_eqF (pc := 5) t335_5 li1 (by decide) ?_
    refine zs_iload_n (pc := 8) t335_8 rfl ?_
    refine zs_i2l (pc := 9) t335_9 rfl ?_
    refine zs_ldc2_w (pc := 10) t335_10 (v := -999) (by decide) ?_
    refine zs_ldc2_w (pc := 13) t335_13 (v := 999) (by decide) ?_
    by_cases w10 : (-999) ≤ b.toInt ∧ b.toInt ≤ 999
    · refine zs_invS (pc := 16) (as := [.long b.toInt64, .long (-999 : Int64), .long (999 : Int64)]) (st := []) t335_16 (by decide) mf228 rfl rfl ⟨by decide, by decide, Nat.le_of_ble_eq_true rfl, Nat.le_of_ble_eq_true rfl⟩ (K228T (zi2l rfl) lln999 ll999 (by omega) ?_) (fun _ _ q => q)
      show zGo X l 2 0 0 335 19 [(0, .ref 336), (1, .int a), (2, .int b)] [.int (1 : Int32)] M _
      refine zs_if_neT (pc := 19) t335_19 li1 (by decide) ?_
      refine zs_aload_n (pc := 24) t335_24 rfl ?_
      refine zs_iconst (pc := 25) t335_25 (v := 0) (by decide) ?_
      have w11 : (zI M 337 1).toInt = (zI M 337 1).toInt := (congrArg Int32.toInt rfl).trans rfl
      have w12 : (zI M 337 2).toInt = (zI M 337 2).toInt := (congrArg Int32.toInt rfl).trans rfl
      have w13 : (zI M 337 0).toInt = (zI M 337 0).toInt := (congrArg Int32.toInt rfl).trans rfl
      refine zs_invV (pc := 26) (k := 336) (as' := [.int (0 : Int32)]) (st := []) t335_26 mf230 rfl rfl (Or.inl ⟨by decide, (zk1 (hs.k fk_zMm_336))⟩) ⟨by decide, by decide, Nat.le_of_ble_eq_true rfl, Nat.le_of_ble_eq_true rfl⟩ (R230_0 hs hI pR pC x0 x1 ?_) (fun _ _ q => q)
      intro w14M w14s w14I w14F w14J w14PR w14PC w14PF w14t0 w14t1 w14t2 w14t3 w14x0 w14x1
      have w15 := ibA1 w14I
      have w16 := ib336_3 w14I
      have w17 := ibA2 w14I
      have w18 := ibA0 w14I
      have w14r0 := w14x1 0 (by decide) _ x0
      show zGo X l 2 0 0 335 29 [(0, .ref 336), (1, .int a), (2, .int b)] [] w14M _
      refine zs_iconst (pc := 29) t335_29 (v := 0) (by decide) ?_
      refine zs_istore_n (pc := 30) t335_30 (ls' := [(3, .int (0 : Int32)), (0, .ref 336), (1, .int a), (2, .int b)]) (zml mf335 (by decide)) rfl ?_
      refine zs_iconst (pc := 31) t335_31 (v := 0) (by decide) ?_
      refine zs_istore (pc := 32) t335_32 (ls' := [(4, .int (0 : Int32)), (3, .int (0 : Int32)), (0, .ref 336), (1, .int a), (2, .int b)]) (zml mf335 (by decide)) rfl ?_
      have w19L : ∀ (m : Nat) (w19x3 : Int32) (w19x4 : Int32) (w19M : zM), (0 ≤ w19x3.toInt ∧ w19x3.toInt ≤ 60) → (0 ≤ w19x4.toInt ∧ w19x4.toInt ≤ 60) → zSk zMm w19M → zIv mLo mHi w19M → zFr [(337, 337, none)] w14M w19M → zJ w19M 351 = zJ w14M 351 → zUp w14M w19M → zPR w19M → zPC w19M → ((zI w19M 337 1).toInt = (zI w14M 337 1).toInt) → (w19x3.toInt ≤ w19x4.toInt) → (w19x4.toInt ≤ F 1) → (∀ k : Nat, (k : Int) = w19x4.toInt → w19x3.toInt = pct (zab F a.toInt b.toInt) k) → (∀ k : Nat, (k : Int) = w19x4.toInt → zRw w19M 0 (pAl F a.toInt b.toInt k)) → 60 - w19x4.toInt ≤ (m : Int) → zGo X l 2 0 0 335 34 [(0, .ref 336), (1, .int a), (2, .int b), (3, .int w19x3), (4, .int w19x4)] [] w19M Q := by
        intro m
        induction m using Nat.strongRecOn with
        | ind w19m w19ih =>
          intro w19x3 w19x4 w19M w19b3 w19b4 w19s w19I w19F w19J w19U w19PR w19PC w19r0 w19r1 w19r2 w19t0 w19t1 w19q
          obtain ⟨w20n, w20⟩ : ∃ n : Nat, w19x4.toInt = (n : Int) := ⟨(w19x4.toInt).toNat, by omega⟩
          have w21 := ibA1 w19I
          have w22 : (zI w14M 337 1).toInt = (zI w14M 337 1).toInt := (congrArg Int32.toInt rfl).trans rfl
          refine zs_iload (pc := 34) t335_34 rfl ?_
          refine zs_aload_n (pc := 36) t335_36 rfl ?_
          refine zs_get (pc := 37) t335_37 (by decide) (zk1 (w19s.k fk_zMm_336)) (w19s.p rfl fv_zMm_336_0) ?_
          refine zs_iconst (pc := 40) t335_40 (v := 1) (by decide) ?_
          refine zs_iald (pc := 41) t335_41 (j := 1) (by decide) (zk1 (w19s.k fk_zMm_337)) li1 (zk2 (w19s.k fk_zMm_337) (by decide)) rfl ?_
          by_cases w23 : (zI w19M 337 1).toInt ≤ w19x4.toInt
          · refine zs_icmp_geT (pc := 42) t335_42 rfl rfl (by omega) ?_
            refine zs_iload_n (pc := 108) t335_108 rfl ?_
            have w24 : (zI w19M 336 3).toInt = (zI w14M 336 3).toInt := (congrArg Int32.toInt ((w19F 336 3 rfl).trans rfl)).trans rfl
            exact zs_iret (pc := 109) t335_109 mr335 rfl (hQ _ _ w19s w19I (((zFr.refl).trans (w14F.mono rfl)).trans (w19F.mono rfl)) (w19J.trans w14J) w19PR w19PC (zPF.fr w14PF (w19F.eq rfl) w19J) (by omega) (Or.inr ⟨by omega, by omega, by omega, by omega, by have q := w19t0 (F 1).toNat (by omega); omega, (w19t1 (F 1).toNat (by omega)), (zHM.fr w14x0 (fun j hj => (w19U j hj)) (w19F 336 1 rfl)), (zKM.fr (zKM.rows x2 (fun r h1 h2 G z => w14x1 r (Or.inl (by omega)) G z) (fun k => w14F 338 k rfl)) (fun j hj => (w19U j hj)) (fun k => (w19F 338 k rfl)))⟩))
          · refine zs_icmp_geF (pc := 42) t335_42 rfl rfl (by omega) ?_
            refine zs_aload_n (pc := 45) t335_45 rfl ?_
            refine zs_iload (pc := 46) t335_46 rfl ?_
            refine zs_iconst (pc := 48) t335_48 (v := 0) (by decide) ?_
            refine zs_invV (pc := 49) (k := 336) (as' := [.int w19x4, .int (0 : Int32)]) (st := []) t335_49 mf272 rfl rfl (Or.inl ⟨by decide, (zk1 (w19s.k fk_zMm_336))⟩) ⟨by decide, by decide, Nat.le_of_ble_eq_true rfl, Nat.le_of_ble_eq_true rfl⟩ (zs_in (by decide) mf272 (Nat.le_of_ble_eq_true rfl) ?_) (fun _ _ q => q)
            show zGo X l 0 0 0 272 0 [(0, .ref 336), (1, .int w19x4), (2, .int (0 : Int32))] [] w19M _
            refine zs_aload_n (pc := 0) t272_0 rfl ?_
            refine zs_get (pc := 1) t272_1 (by decide) (zk1 (w19s.k fk_zMm_336)) (w19s.p rfl fv_zMm_336_0) ?_
            refine zs_bipush (pc := 4) t272_4 (v := 30) (by decide) ?_
            refine zs_iconst (pc := 6) t272_6 (v := 4) (by decide) ?_
            refine zs_iload_n (pc := 7) t272_7 rfl ?_
            obtain ⟨w25v, w25⟩ : ∃ v, (4 : Int32) * w19x4 = v := ⟨_, rfl⟩
            have w25g : w25v.toInt = 4 * w19x4.toInt := by rw [← w25]; exact zmulc li4 rfl (by omega) (by omega)
            refine zs_imul (pc := 8) t272_8 (c := w25v) w25 ?_
            obtain ⟨w26v, w26e, w26⟩ := ziadd (a := (30 : Int32)) (b := w25v) li30 w25g (by omega) (by omega)
            refine zs_iadd (pc := 9) t272_9 (c := w26v) w26e ?_
            refine zs_iload_n (pc := 10) t272_10 rfl ?_
            obtain ⟨w27v, w27e, w27⟩ := ziadd (a := w26v) (b := (0 : Int32)) w26 li0 (by omega) (by omega)
            refine zs_iadd (pc := 11) t272_11 (c := w27v) w27e ?_
            have w28 := ibL (j := (30 + 4 * w20n)) w19I (by omega) (by omega) (by omega)
            have w29 : (zI w19M 337 (30 + 4 * w20n)).toInt = F (30 + 4 * w20n) := ((w19t1 w20n (by omega)).at (by omega) (by omega) (by omega)).trans (pAl.o _ _ (by omega))
            have w30 := x3.2.2.1 w20n (by omega)
            refine zs_iald (pc := 12) t272_12 (j := (30 + 4 * w20n)) (by decide) (zk1 (w19s.k fk_zMm_337)) (show w27v.toInt = (((30 + 4 * w20n) : Nat) : Int) by omega) (zk2 (w19s.k fk_zMm_337) (by omega)) rfl ?_
            refine zs_iret (pc := 13) t272_13 mr272 rfl ?_
            show zGo X l 2 0 0 335 52 [(0, .ref 336), (1, .int a), (2, .int b), (3, .int w19x3), (4, .int w19x4)] [.int (zI w19M 337 (30 + 4 * w20n))] w19M _
            refine zs_iload_n (pc := 52) t335_52 rfl ?_
            by_cases w31 : (zI w19M 337 (30 + 4 * w20n)).toInt ≠ a.toInt
            · refine zs_icmp_neT (pc := 53) t335_53 rfl rfl (by omega) ?_
              obtain ⟨w32v, w32e, w32⟩ := ziadd (a := w19x4) (b := Int32.ofInt 1) rfl (show (Int32.ofInt 1).toInt = 1 by decide) (by omega) (by omega)
              refine zs_iinc (pc := 102) t335_102 (ls' := [(4, .int w32v), (0, .ref 336), (1, .int a), (2, .int b), (3, .int w19x3)]) (zml mf335 (by decide)) rfl (c := w32v) w32e rfl ?_
              refine zs_goto (pc := 105) t335_105 ?_
              refine zGo.locals (ls' := [(0, .ref 336), (1, .int a), (2, .int b), (3, .int w19x3), (4, .int w32v)]) (by simp) ?_
              have w33 := w32
              have w34 : (zI w19M 337 1).toInt = (zI w19M 337 1).toInt := (congrArg Int32.toInt rfl).trans rfl
              exact w19ih (w19m - 1) (by omega) w19x3 w32v w19M ⟨by omega, by omega⟩ ⟨by omega, by omega⟩ w19s w19I ((zFr.refl).trans (w19F.mono rfl)) w19J ((zUp.refl).trans w19U) w19PR w19PC (by omega) (by omega) (by omega) (fun k hk => by obtain rfl : k = w20n + 1 := (by omega); first | exact pct.up (n := w20n) (fun k hk => w19t0 k (by omega)) (zab.y (by omega) (by omega) (by omega)) (by omega) rfl | exact pct.no (n := w20n) (fun k hk => w19t0 k (by omega)) (zab.n (by omega)) (by omega) rfl) (fun k hk => by obtain rfl : k = w20n + 1 := (by omega); rw [pAl.n (zab.n (by omega))]; exact (w19t1 w20n (by omega))) (by omega)
            · refine zs_icmp_neF (pc := 53) t335_53 rfl rfl (by omega) ?_
              refine zs_aload_n (pc := 56) t335_56 rfl ?_
              refine zs_iload (pc := 57) t335_57 rfl ?_
              refine zs_iconst (pc := 59) t335_59 (v := 1) (by decide) ?_
              refine zs_invV (pc := 60) (k := 336) (as' := [.int w19x4, .int (1 : Int32)]) (st := []) t335_60 mf272 rfl rfl (Or.inl ⟨by decide, (zk1 (w19s.k fk_zMm_336))⟩) ⟨by decide, by decide, Nat.le_of_ble_eq_true rfl, Nat.le_of_ble_eq_true rfl⟩ (zs_in (by decide) mf272 (Nat.le_of_ble_eq_true rfl) ?_) (fun _ _ q => q)
              show zGo X l 0 0 0 272 0 [(0, .ref 336), (1, .int w19x4), (2, .int (1 : Int32))] [] w19M _
              refine zs_aload_n (pc := 0) t272_0 rfl ?_
              refine zs_get (pc := 1) t272_1 (by decide) (zk1 (w19s.k fk_zMm_336)) (w19s.p rfl fv_zMm_336_0) ?_
              refine zs_bipush (pc := 4) t272_4 (v := 30) (by decide) ?_
              refine zs_iconst (pc := 6) t272_6 (v := 4) (by decide) ?_
              refine zs_iload_n (pc := 7) t272_7 rfl ?_
              obtain ⟨w35v, w35⟩ : ∃ v, (4 : Int32) * w19x4 = v := ⟨_, rfl⟩
              have w35g : w35v.toInt = 4 * w19x4.toInt := by rw [← w35]; exact zmulc li4 rfl (by omega) (by omega)
              refine zs_imul (pc := 8) t272_8 (c := w35v) w35 ?_
              obtain ⟨w36v, w36e, w36⟩ := ziadd (a := (30 : Int32)) (b := w35v) li30 w35g (by omega) (by omega)
              refine zs_iadd (pc := 9) t272_9 (c := w36v) w36e ?_
              refine zs_iload_n (pc := 10) t272_10 rfl ?_
              obtain ⟨w37v, w37e, w37⟩ := ziadd (a := w36v) (b := (1 : Int32)) w36 li1 (by omega) (by omega)
              refine zs_iadd (pc := 11) t272_11 (c := w37v) w37e ?_
              have w38 := zrg (zI w19M 337 (31 + 4 * w20n))
              have w39 : (zI w19M 337 (31 + 4 * w20n)).toInt = F (31 + 4 * w20n) := ((w19t1 w20n (by omega)).at (by omega) (by omega) (by omega)).trans (pAl.o _ _ (by omega))
              have w40 := x3.2.2.1 w20n (by omega)
              refine zs_iald (pc := 12) t272_12 (j := (31 + 4 * w20n)) (by decide) (zk1 (w19s.k fk_zMm_337)) (show w37v.toInt = (((31 + 4 * w20n) : Nat) : Int) by omega) (zk2 (w19s.k fk_zMm_337) (by omega)) rfl ?_
              refine zs_iret (pc := 13) t272_13 mr272 rfl ?_
              show zGo X l 2 0 0 335 63 [(0, .ref 336), (1, .int a), (2, .int b), (3, .int w19x3), (4, .int w19x4)] [.int (zI w19M 337 (31 + 4 * w20n))] w19M _
              refine zs_iload_n (pc := 63) t335_63 rfl ?_
              obtain ⟨w41v, w41e, w41⟩ := ziadd (a := (zI w19M 337 (31 + 4 * w20n))) (b := b) rfl rfl (by omega) (by omega)
              refine zs_iadd (pc := 64) t335_64 (c := w41v) w41e ?_
              refine zs_i2l (pc := 65) t335_65 rfl ?_
              refine zs_ldc2_w (pc := 66) t335_66 (v := -9999) (by decide) ?_
              refine zs_ldc2_w (pc := 69) t335_69 (v := 9999) (by decide) ?_
              by_cases w42 : (-9999) ≤ ((zI w19M 337 (31 + 4 * w20n)).toInt + b.toInt) ∧ ((zI w19M 337 (31 + 4 * w20n)).toInt + b.toInt) ≤ 9999
              · refine zs_invS (pc := 72) (as := [.long w41v.toInt64, .long (-9999 : Int64), .long (9999 : Int64)]) (st := []) t335_72 (by decide) mf228 rfl rfl ⟨by decide, by decide, Nat.le_of_ble_eq_true rfl, Nat.le_of_ble_eq_true rfl⟩ (K228T (zi2l w41) lln9999 ll9999 (by omega) ?_) (fun _ _ q => q)
                show zGo X l 2 0 0 335 75 [(0, .ref 336), (1, .int a), (2, .int b), (3, .int w19x3), (4, .int w19x4)] [.int (1 : Int32)] w19M _
                refine zs_if_neT (pc := 75) t335_75 li1 (by decide) ?_
                refine zs_aload_n (pc := 81) t335_81 rfl ?_
                refine zs_get (pc := 82) t335_82 (by decide) (zk1 (w19s.k fk_zMm_336)) (w19s.p rfl fv_zMm_336_0) ?_
                refine zs_bipush (pc := 85) t335_85 (v := 30) (by decide) ?_
                refine zs_iconst (pc := 87) t335_87 (v := 4) (by decide) ?_
                refine zs_iload (pc := 88) t335_88 rfl ?_
                obtain ⟨w43v, w43⟩ : ∃ v, (4 : Int32) * w19x4 = v := ⟨_, rfl⟩
                have w43g : w43v.toInt = 4 * w19x4.toInt := by rw [← w43]; exact zmulc li4 rfl (by omega) (by omega)
                refine zs_imul (pc := 90) t335_90 (c := w43v) w43 ?_
                obtain ⟨w44v, w44e, w44⟩ := ziadd (a := (30 : Int32)) (b := w43v) li30 w43g (by omega) (by omega)
                refine zs_iadd (pc := 91) t335_91 (c := w44v) w44e ?_
                refine zs_iconst (pc := 92) t335_92 (v := 1) (by decide) ?_
                obtain ⟨w45v, w45e, w45⟩ := ziadd (a := w44v) (b := (1 : Int32)) w44 li1 (by omega) (by omega)
                refine zs_iadd (pc := 93) t335_93 (c := w45v) w45e ?_
                refine zs_dup2 (pc := 94) t335_94 ⟨rfl, rfl⟩ ?_
                have w46 : (zI w19M 337 (31 + 4 * w20n)).toInt = F (31 + 4 * w20n) := ((w19t1 w20n (by omega)).at (by omega) (by omega) (by omega)).trans (pAl.o _ _ (by omega))
                have w47 := x3.2.2.1 w20n (by omega)
                refine zs_iald (pc := 95) t335_95 (j := (31 + 4 * w20n)) (by decide) (zk1 (w19s.k fk_zMm_337)) (show w45v.toInt = (((31 + 4 * w20n) : Nat) : Int) by omega) (zk2 (w19s.k fk_zMm_337) (by omega)) rfl ?_
                refine zs_iload_n (pc := 96) t335_96 rfl ?_
                obtain ⟨w48v, w48e, w48⟩ := ziadd (a := (zI w19M 337 (31 + 4 * w20n))) (b := b) rfl rfl (by omega) (by omega)
                refine zs_iadd (pc := 97) t335_97 (c := w48v) w48e ?_
                have w49a := aN (p := (31 + 4 * w20n)) (by omega)
                have w49 : zIv mLo mHi (zsI w19M 337 (31 + 4 * w20n) w48v) := zIv.putA w19I (by omega) (by rw [w49a.1, w49a.2]; exact zrg w48v)
                have w50 := ibA0 w19I
                have w51 : (zI w19M 337 0).toInt = (zI w19M 337 0).toInt := (congrArg Int32.toInt rfl).trans rfl
                have w52 : (zI w19M 337 1).toInt = (zI w19M 337 1).toInt := (congrArg Int32.toInt rfl).trans rfl
                have w53 : zPR (zsI w19M 337 (31 + 4 * w20n) w48v) := zPR.put w19PR (by omega) (by omega) (by omega) (by omega)
                have w54 : zPC (zsI w19M 337 (31 + 4 * w20n) w48v) := zPC.put w19PC (by omega) (by omega)
                have w55 : w48v.toInt = ((zI w19M 337 (31 + 4 * w20n)).toInt + b.toInt) := w48
                have w56 : zRw (zsI w19M 337 (31 + 4 * w20n) w48v) 0 (pAl F a.toInt b.toInt (w20n + 1)) := by
                  rw [pAl.y (zab.y (by omega) (by omega) (by omega))]
                  exact zRw.put (w19t1 w20n (by omega)) (by omega)
                refine zs_iast (pc := 98) t335_98 (j := (31 + 4 * w20n)) (by decide) (zk1 (w19s.k fk_zMm_337)) (show w45v.toInt = (((31 + 4 * w20n) : Nat) : Int) by omega) (zk2 (w19s.k fk_zMm_337) (by omega)) ?_
                obtain ⟨w57v, w57e, w57⟩ := ziadd (a := w19x3) (b := Int32.ofInt 1) rfl (show (Int32.ofInt 1).toInt = 1 by decide) (by omega) (by omega)
                refine zs_iinc (pc := 99) t335_99 (ls' := [(3, .int w57v), (0, .ref 336), (1, .int a), (2, .int b), (4, .int w19x4)]) (zml mf335 (by decide)) rfl (c := w57v) w57e rfl ?_
                obtain ⟨w58v, w58e, w58⟩ := ziadd (a := w19x4) (b := Int32.ofInt 1) rfl (show (Int32.ofInt 1).toInt = 1 by decide) (by omega) (by omega)
                refine zs_iinc (pc := 102) t335_102 (ls' := [(4, .int w58v), (3, .int w57v), (0, .ref 336), (1, .int a), (2, .int b)]) (zml mf335 (by decide)) rfl (c := w58v) w58e rfl ?_
                refine zs_goto (pc := 105) t335_105 ?_
                refine zGo.locals (ls' := [(0, .ref 336), (1, .int a), (2, .int b), (3, .int w57v), (4, .int w58v)]) (by simp) ?_
                have w59 := w57
                have w60 := w58
                have w61 : (zI (zsI w19M 337 (31 + 4 * w20n) w48v) 337 1).toInt = (zI w19M 337 1).toInt := (congrArg Int32.toInt ((zIoj (by omega)).trans rfl)).trans rfl
                have w62 : w57v.toInt = (w19x3.toInt + 1) := w57
                exact w19ih (w19m - 1) (by omega) w57v w58v (zsI w19M 337 (31 + 4 * w20n) w48v) ⟨by omega, by omega⟩ ⟨by omega, by omega⟩ w19s w49 (((zFr.refl).trans (w19F.mono rfl)).put rfl) w19J (((zUp.refl).trans w19U).put (Or.inr (by omega))) w53 w54 (by omega) (by omega) (by omega) (fun k hk => by obtain rfl : k = w20n + 1 := (by omega); first | exact pct.up (n := w20n) (fun k hk => w19t0 k (by omega)) (zab.y (by omega) (by omega) (by omega)) (by omega) rfl | exact pct.no (n := w20n) (fun k hk => w19t0 k (by omega)) (zab.n (by omega)) (by omega) rfl) (fun k hk => by obtain rfl : k = w20n + 1 := (by omega); exact w56) (by omega)
              · refine zs_invS (pc := 72) (as := [.long w41v.toInt64, .long (-9999 : Int64), .long (9999 : Int64)]) (st := []) t335_72 (by decide) mf228 rfl rfl ⟨by decide, by decide, Nat.le_of_ble_eq_true rfl, Nat.le_of_ble_eq_true rfl⟩ (K228F (zi2l w41) lln9999 ll9999 (by omega) ?_) (fun _ _ q => q)
                show zGo X l 2 0 0 335 75 [(0, .ref 336), (1, .int a), (2, .int b), (3, .int w19x3), (4, .int w19x4)] [.int (0 : Int32)] w19M _
                refine zs_if_neF (pc := 75) t335_75 li0 (by decide) ?_
                refine zs_goto (pc := 78) t335_78 ?_
                obtain ⟨w63v, w63e, w63⟩ := ziadd (a := w19x4) (b := Int32.ofInt 1) rfl (show (Int32.ofInt 1).toInt = 1 by decide) (by omega) (by omega)
                refine zs_iinc (pc := 102) t335_102 (ls' := [(4, .int w63v), (0, .ref 336), (1, .int a), (2, .int b), (3, .int w19x3)]) (zml mf335 (by decide)) rfl (c := w63v) w63e rfl ?_
                refine zs_goto (pc := 105) t335_105 ?_
                refine zGo.locals (ls' := [(0, .ref 336), (1, .int a), (2, .int b), (3, .int w19x3), (4, .int w63v)]) (by simp) ?_
                have w64 := w63
                have w65 : (zI w19M 337 1).toInt = (zI w19M 337 1).toInt := (congrArg Int32.toInt rfl).trans rfl
                exact w19ih (w19m - 1) (by omega) w19x3 w63v w19M ⟨by omega, by omega⟩ ⟨by omega, by omega⟩ w19s w19I ((zFr.refl).trans (w19F.mono rfl)) w19J ((zUp.refl).trans w19U) w19PR w19PC (by omega) (by omega) (by omega) (fun k hk => by obtain rfl : k = w20n + 1 := (by omega); first | exact pct.up (n := w20n) (fun k hk => w19t0 k (by omega)) (zab.y (by omega) (by omega) (by omega)) (by omega) rfl | exact pct.no (n := w20n) (fun k hk => w19t0 k (by omega)) (zab.n (by omega)) (by omega) rfl) (fun k hk => by obtain rfl : k = w20n + 1 := (by omega); rw [pAl.n (zab.n (by omega))]; exact (w19t1 w20n (by omega))) (by omega)
      refine zGo.locals (ls' := [(0, .ref 336), (1, .int a), (2, .int b), (3, .int (0 : Int32)), (4, .int (0 : Int32))]) (by simp) ?_
      have w66 := li0
      have w67 := li0
      have w68 : (zI w14M 337 1).toInt = (zI w14M 337 1).toInt := (congrArg Int32.toInt rfl).trans rfl
      exact w19L ((60 - 0 : Int).toNat) (0 : Int32) (0 : Int32) w14M ⟨by decide, by decide⟩ ⟨by decide, by decide⟩ w14s w14I zFr.refl rfl zUp.refl w14PR w14PC (by omega) (by omega) (by omega) (fun k hk => by obtain rfl : k = 0 := (by omega); rfl) (fun k hk => by obtain rfl : k = 0 := (by omega); exact w14r0) (by omega)
    · refine zs_invS (pc := 16) (as := [.long b.toInt64, .long (-999 : Int64), .long (999 : Int64)]) (st := []) t335_16 (by decide) mf228 rfl rfl ⟨by decide, by decide, Nat.le_of_ble_eq_true rfl, Nat.le_of_ble_eq_true rfl⟩ (K228F (zi2l rfl) lln999 ll999 (by omega) ?_) (fun _ _ q => q)
      show zGo X l 2 0 0 335 19 [(0, .ref 336), (1, .int a), (2, .int b)] [.int (0 : Int32)] M _
      refine zs_if_neF (pc := 19) t335_19 li0 (by decide) ?_
      refine zs_iconst (pc := 22) t335_22 (v := -1) (by decide) ?_
      have w69 := ib336_3 hI
      have w70 : (zI M 336 3).toInt = (zI M 336 3).toInt := (congrArg Int32.toInt rfl).trans rfl
      have w71 := lin1
      exact zs_iret (pc := 23) t335_23 mr335 (by decide) (hQ _ _ hs hI (zFr.refl) rfl pR pC pF (by omega) (Or.inl ⟨by decide, by omega, x0, x1, x2⟩))
  · refine zs_invS (pc := 12) (as := [.long a.toInt64, .long (0 : Int64), .long w8v.toInt64]) (st := []) t306_12 (by decide) mf228 rfl rfl ⟨by decide, by decide, Nat.le_of_ble_eq_true rfl, Nat.le_of_ble_eq_true rfl⟩ (K228F (zi2l rfl) ll0 (zi2l w8) (by omega) ?_) (fun _ _ q => q)
    show zGo X l 1 0 0 306 15 [(0, .ref 336), (1, .int a)] [.int (0 : Int32)] M _
    refine zs_iret (pc := 15) t306_15 mr306 (by decide) ?_
    show zGo X l 2 0 0 335 5 [(0, .ref 336), (1, .int a), (2, .int b)] [.int (0 : Int32)] M _
    refine zs_if_eqT (pc := 5) t335_5 li0 (by decide) ?_
    refine zs_iconst (pc := 22) t335_22 (v := -1) (by decide) ?_
    have w72 := ib336_3 hI
    have w73 : (zI M 336 3).toInt = (zI M 336 3).toInt := (congrArg Int32.toInt rfl).trans rfl
    have w74 := lin1
    exact zs_iret (pc := 23) t335_23 mr335 (by decide) (hQ _ _ hs hI (zFr.refl) rfl pR pC pF (by omega) (Or.inl ⟨by decide, by omega, x0, x1, x2⟩))
