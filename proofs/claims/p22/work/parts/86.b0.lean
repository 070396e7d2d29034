theorem U277 {X : zX} {l : Launch} {M : zM} {Q : Option Value → zM → Prop} {a : Int32} (hs : zSk zMm M) (hI : zIv mLo mHi M) {F : Nat → Int} {L : Nat → Bool} {k t : Int} (x0 : zRw M 0 F) (x1 : zWF F) (x2 : zLf M F L) (x3 : zCo M F L k t) (hQ : ∀ v : Int32, (2 ≤ v.toInt → zVw M a) → (v.toInt = vot F L k t a.toInt) → Q (some (.int v)) M) : zCall X l 1 0 0 277 [.ref 336, .int a] M Q := by
  have ga := zrg a
  refine zs_in (by decide) mf277 (Nat.le_of_ble_eq_true rfl) ?_
  show zGo X l 1 0 0 277 0 [(0, .ref 336), (1, .int a)] [] M _
  have f1 := x1.1
  have f3 := x1.2.2.2
  have w1 := ibA0 hI
  have w2 : (zI M 337 0).toInt = (zI M 337 0).toInt := (congrArg Int32.toInt rfl).trans rfl
  have e0 : (zI M 337 0).toInt = F 0 := x0.at (by decide) (by decide) (by decide)
  have w3 := ibA1 hI
  have w4 : (zI M 337 1).toInt = (zI M 337 1).toInt := (congrArg Int32.toInt rfl).trans rfl
  have e1 : (zI M 337 1).toInt = F 1 := x0.at (by decide) (by decide) (by decide)
  have w5 := ibA2 hI
  have w6 : (zI M 337 2).toInt = (zI M 337 2).toInt := (congrArg Int32.toInt rfl).trans rfl
  have e2 : (zI M 337 2).toInt = F 2 := x0.at (by decide) (by decide) (by decide)
  refine zs_iconst (pc := 0) t277_0 (v := 0) (by decide) ?_
  refine zs_istore_n (pc := 1) t277_1 (ls' := [(2, .int (0 : Int32)), (0, .ref 336), (1, .int a)]) (zml mf277 (by decide)) rfl ?_
  refine zs_iconst (pc := 2) t277_2 (v := 0) (by decide) ?_
  refine zs_istore_n (pc := 3) t277_3 (ls' := [(3, .int (0 : Int32)), (2, .int (0 : Int32)), (0, .ref 336), (1, .int a)]) (zml mf277 (by decide)) rfl ?_
  have w7L : ∀ (m : Nat) (w7x2 : Int32) (w7x3 : Int32), (0 ≤ w7x3.toInt ∧ w7x3.toInt ≤ 60) → (w7x3.toInt ≤ F 1) → (∀ n : Nat, (n : Int) = w7x3.toInt → zMk w7x2 (zlr F (vh F L k t a.toInt) n)) → 60 - w7x3.toInt ≤ (m : Int) → zGo X l 1 0 0 277 4 [(0, .ref 336), (1, .int a), (2, .int w7x2), (3, .int w7x3)] [] M Q := by
    intro m
    induction m using Nat.strongRecOn with
    | ind w7m w7ih =>
      intro w7x2 w7x3 w7b3 w7r0 w7t0 w7q
      have w7g2 := zrg w7x2
      refine zs_iload_n (pc := 4) t277_4 rfl ?_
      refine zs_aload_n (pc := 5) t277_5 rfl ?_
      refine zs_get (pc := 6) t277_6 (by decide) (zk1 (hs.k fk_zMm_336)) (hs.p rfl fv_zMm_336_0) ?_
      refine zs_iconst (pc := 9) t277_9 (v := 1) (by decide) ?_
      have w8 : (zI M 337 1).toInt = F 1 := x0.at (by decide) (by decide) (by decide)
      refine zs_iald (pc := 10) t277_10 (j := 1) (by decide) (zk1 (hs.k fk_zMm_337)) li1 (zk2 (hs.k fk_zMm_337) (by decide)) rfl ?_
      by_cases w9 : (zI M 337 1).toInt ≤ w7x3.toInt
      · refine zs_icmp_geT (pc := 11) t277_11 rfl rfl (by omega) ?_
        refine zs_iload_n (pc := 50) t277_50 rfl ?_
        refine zs_invS (pc := 51) (as := [.int w7x2]) (st := []) t277_51 (by decide) mf278 rfl rfl ⟨by decide, by decide, Nat.le_of_ble_eq_true rfl, Nat.le_of_ble_eq_true rfl⟩ (W278 hs hI ?_) (fun _ _ q => q)
        intro w10v w10x0
        have w10g := zrg w10v
        show zGo X l 1 0 0 277 54 [(0, .ref 336), (1, .int a), (2, .int w7x2), (3, .int w7x3)] [.int w10v] M _
        obtain ⟨w11n, w11⟩ : ∃ n : Nat, w7x3.toInt = (n : Int) := ⟨(w7x3.toInt).toNat, by omega⟩
        have w12 : w10v.toInt = vot F L k t a.toInt := vot.mk (n := w11n) (w7t0 w11n (by omega)) (by omega) (fun z => by rw [w10x0]; exact z.m)
        exact zs_iret (pc := 54) t277_54 mr277 rfl (hQ _ (fun q => vot.w x0 x1 x2 x3 (w12 ▸ q)) w12)
      · refine zs_icmp_geF (pc := 11) t277_11 rfl rfl (by omega) ?_
        refine zs_aload_n (pc := 14) t277_14 rfl ?_
        refine zs_get (pc := 15) t277_15 (by decide) (zk1 (hs.k fk_zMm_336)) (hs.p rfl fv_zMm_336_16) ?_
        refine zs_iload_n (pc := 18) t277_18 rfl ?_
        obtain ⟨w13n, w13⟩ : ∃ n : Nat, w7x3.toInt = (n : Int) := ⟨(w7x3.toInt).toNat, by omega⟩
        have w14 := ib343 hI w13n
        refine zs_bald (pc := 19) t277_19 (j := w13n) (Or.inr (zk1 (hs.k fk_zMm_343))) (show w7x3.toInt = ((w13n : Nat) : Int) by omega) (zk2 (hs.k fk_zMm_343) (by omega)) rfl ?_
        by_cases w15 : (zI M 343 w13n).toInt = 0
        · refine zs_if_eqT (pc := 20) t277_20 rfl (by omega) ?_
          obtain ⟨w16v, w16e, w16⟩ := ziadd (a := w7x3) (b := Int32.ofInt 1) rfl (show (Int32.ofInt 1).toInt = 1 by decide) (by omega) (by omega)
          refine zs_iinc (pc := 44) t277_44 (ls' := [(3, .int w16v), (0, .ref 336), (1, .int a), (2, .int w7x2)]) (zml mf277 (by decide)) rfl (c := w16v) w16e rfl ?_
          refine zs_goto (pc := 47) t277_47 ?_
          refine zGo.locals (ls' := [(0, .ref 336), (1, .int a), (2, .int w7x2), (3, .int w16v)]) (by simp) ?_
          have w17 := w16
          exact w7ih (w7m - 1) (by omega) w7x2 w16v ⟨by omega, by omega⟩ (by omega) (fun n hq => by obtain rfl : n = w13n + 1 := (by omega); first | exact zMk.vn (w7t0 w13n (by omega)) (vh.n (x2.n (by omega) (by omega))) | exact zMk.vn (w7t0 w13n (by omega)) (vh.o (fun q => by have z := x3 w13n (by omega) (x2.y (by omega) (by omega)); omega))) (by omega)
        · refine zs_if_eqF (pc := 20) t277_20 rfl (by omega) ?_
          refine zs_aload_n (pc := 23) t277_23 rfl ?_
          refine zs_get (pc := 24) t277_24 (by decide) (zk1 (hs.k fk_zMm_336)) (hs.p rfl fv_zMm_336_17) ?_
          refine zs_iload_n (pc := 27) t277_27 rfl ?_
          have w18 := zrg (zI M 344 w13n)
          refine zs_iald (pc := 28) t277_28 (j := w13n) (by decide) (zk1 (hs.k fk_zMm_344)) (show w7x3.toInt = ((w13n : Nat) : Int) by omega) (zk2 (hs.k fk_zMm_344) (by omega)) rfl ?_
          refine zs_iload_n (pc := 29) t277_29 rfl ?_
          by_cases w19 : (zI M 344 w13n).toInt ≠ a.toInt
          · refine zs_icmp_neT (pc := 30) t277_30 rfl rfl (by omega) ?_
            obtain ⟨w20v, w20e, w20⟩ := ziadd (a := w7x3) (b := Int32.ofInt 1) rfl (show (Int32.ofInt 1).toInt = 1 by decide) (by omega) (by omega)
            refine zs_iinc (pc := 44) t277_44 (ls' := [(3, .int w20v), (0, .ref 336), (1, .int a), (2, .int w7x2)]) (zml mf277 (by decide)) rfl (c := w20v) w20e rfl ?_
            refine zs_goto (pc := 47) t277_47 ?_
            refine zGo.locals (ls' := [(0, .ref 336), (1, .int a), (2, .int w7x2), (3, .int w20v)]) (by simp) ?_
            have w21 := w20
            exact w7ih (w7m - 1) (by omega) w7x2 w20v ⟨by omega, by omega⟩ (by omega) (fun n hq => by obtain rfl : n = w13n + 1 := (by omega); first | exact zMk.vn (w7t0 w13n (by omega)) (vh.n (x2.n (by omega) (by omega))) | exact zMk.vn (w7t0 w13n (by omega)) (vh.o (fun q => by have z := x3 w13n (by omega) (x2.y (by omega) (by omega)); omega))) (by omega)
          · refine zs_icmp_neF (pc := 30) t277_30 rfl rfl (by omega) ?_
            refine zs_iload_n (pc := 33) t277_33 rfl ?_
            refine zs_iconst (pc := 34) t277_34 (v := 1) (by decide) ?_
            refine zs_aload_n (pc := 35) t277_35 rfl ?_
            refine zs_iload_n (pc := 36) t277_36 rfl ?_
            refine zs_iconst (pc := 37) t277_37 (v := 0) (by decide) ?_
            refine zs_invV (pc := 38) (k := 336) (as' := [.int w7x3, .int (0 : Int32)]) (st := [.int (1 : Int32), .int w7x2]) t277_38 mf272 rfl rfl (Or.inl ⟨by decide, (zk1 (hs.k fk_zMm_336))⟩) ⟨by decide, by decide, Nat.le_of_ble_eq_true rfl, Nat.le_of_ble_eq_true rfl⟩ (zs_in (by decide) mf272 (Nat.le_of_ble_eq_true rfl) ?_) (fun _ _ q => q)
            show zGo X l 0 0 0 272 0 [(0, .ref 336), (1, .int w7x3), (2, .int (0 : Int32))] [] M _
            refine zs_aload_n (pc := 0) t272_0 rfl ?_
            refine zs_get (pc := 1) t272_1 (by decide) (zk1 (hs.k fk_zMm_336)) (hs.p rfl fv_zMm_336_0) ?_
            refine zs_bipush (pc := 4) t272_4 (v := 30) (by decide) ?_
            refine zs_iconst (pc := 6) t272_6 (v := 4) (by decide) ?_
            refine zs_iload_n (pc := 7) t272_7 rfl ?_
            obtain ⟨w22v, w22⟩ : ∃ v, (4 : Int32) * w7x3 = v := ⟨_, rfl⟩
            have w22g : w22v.toInt = 4 * w7x3.toInt := by rw [← w22]; exact zmulc li4 rfl (by omega) (by omega)
            refine zs_imul (pc := 8) t272_8 (c := w22v) w22 ?_
            obtain ⟨w23v, w23e, w23⟩ := ziadd (a := (30 : Int32)) (b := w22v) li30 w22g (by omega) (by omega)
            refine zs_iadd (pc := 9) t272_9 (c := w23v) w23e ?_
            refine zs_iload_n (pc := 10) t272_10 rfl ?_
            obtain ⟨w24v, w24e, w24⟩ := ziadd (a := w23v) (b := (0 : Int32)) w23 li0 (by omega) (by omega)
            refine zs_iadd (pc := 11) t272_11 (c := w24v) w24e ?_
            have w25 := ibL (j := (30 + 4 * w13n)) hI (by omega) (by omega) (by omega)
            have w26 : (zI M 337 (30 + 4 * w13n)).toInt = F (30 + 4 * w13n) := x0.at (by omega) (by omega) (by omega)
            have w27 := x1.2.2.1 w13n (by omega)
            refine zs_iald (pc := 12) t272_12 (j := (30 + 4 * w13n)) (by decide) (zk1 (hs.k fk_zMm_337)) (show w24v.toInt = (((30 + 4 * w13n) : Nat) : Int) by omega) (zk2 (hs.k fk_zMm_337) (by omega)) rfl ?_
            refine zs_iret (pc := 13) t272_13 mr272 rfl ?_
            show zGo X l 1 0 0 277 41 [(0, .ref 336), (1, .int a), (2, .int w7x2), (3, .int w7x3)] [.int (zI M 337 (30 + 4 * w13n)), .int (1 : Int32), .int w7x2] M _
            obtain ⟨w28v, w28⟩ : ∃ v, (1 : Int32) <<< ((zI M 337 (30 + 4 * w13n)) &&& 31) = v := ⟨_, rfl⟩
            have w28g := zrg w28v
            refine zs_ishl (pc := 41) t277_41 (c := w28v) w28 ?_
            obtain ⟨w29v, w29⟩ : ∃ v, w7x2 ||| w28v = v := ⟨_, rfl⟩
            have w29g := zrg w29v
            refine zs_ior (pc := 42) t277_42 (c := w29v) w29 ?_
            refine zs_istore_n (pc := 43) t277_43 (ls' := [(2, .int w29v), (0, .ref 336), (1, .int a), (3, .int w7x3)]) (zml mf277 (by decide)) rfl ?_
            obtain ⟨w30v, w30e, w30⟩ := ziadd (a := w7x3) (b := Int32.ofInt 1) rfl (show (Int32.ofInt 1).toInt = 1 by decide) (by omega) (by omega)
            refine zs_iinc (pc := 44) t277_44 (ls' := [(3, .int w30v), (2, .int w29v), (0, .ref 336), (1, .int a)]) (zml mf277 (by decide)) rfl (c := w30v) w30e rfl ?_
            refine zs_goto (pc := 47) t277_47 ?_
            refine zGo.locals (ls' := [(0, .ref 336), (1, .int a), (2, .int w29v), (3, .int w30v)]) (by simp) ?_
            have w31 := w30
            obtain ⟨w32n, w32⟩ : ∃ n : Nat, (zI M 337 (30 + 4 * w13n)).toInt = (n : Int) := ⟨((zI M 337 (30 + 4 * w13n)).toInt).toNat, by omega⟩
            exact w7ih (w7m - 1) (by omega) w29v w30v ⟨by omega, by omega⟩ (by omega) (fun n hq => by obtain rfl : n = w13n + 1 := (by omega); have hL := x2.y (h := w13n) (by omega) (by omega); exact zMk.vy (j := w32n) (w7t0 w13n (by omega)) (vh.y hL ((x3 w13n (by omega) hL).symm.trans (by omega))) (by omega) (by omega) (by omega) w28 w29) (by omega)
  refine zGo.locals (ls' := [(0, .ref 336), (1, .int a), (2, .int (0 : Int32)), (3, .int (0 : Int32))]) (by simp) ?_
  have w33 := li0
  have w34 := li0
  exact w7L ((60 - 0 : Int).toNat) (0 : Int32) (0 : Int32) ⟨by decide, by decide⟩ (by omega) (fun n hq => by obtain rfl : n = 0 := (by omega); exact zMk.zero (by decide) (fun _ => rfl)) (by omega)
theorem U276 {X : zX} {l : Launch} {M : zM} {Q : Option Value → zM → Prop} {a : Int32} (hs : zSk zMm M) (hI : zIv mLo mHi M) {F : Nat → Int} {L : Nat → Bool} {k t : Int} (ha : 0 ≤ a.toInt ∧ a.toInt ≤ 59) (u0 : a.toInt < (zI M 337 1).toInt) (x0 : zRw M 0 F) (x1 : zWF F) (x2 : zLf M F L) (x3 : zCo M F L k t) (hQ : ∀ v : Int32, (v.toInt = 1 ∨ ∃ j : Nat, (j : Int) < a.toInt ∧ L j = true ∧ ∀ h : Nat, (h : Int) = a.toInt → cel F k t j = (zI M 344 h).toInt) → 0 ≤ v.toInt → v.toInt ≤ 1 → Q (some (.int v)) M) : zCall X l 0 0 0 276 [.ref 336, .int a] M Q := by
  have ga := zrg a
  refine zs_in (by decide) mf276 (Nat.le_of_ble_eq_true rfl) ?_
  show zGo X l 0 0 0 276 0 [(0, .ref 336), (1, .int a)] [] M _
  have f1 := x1.1
  have f3 := x1.2.2.2
  have w1 := ibA0 hI
  have w2 : (zI M 337 0).toInt = (zI M 337 0).toInt := (congrArg Int32.toInt rfl).trans rfl
  have e0 : (zI M 337 0).toInt = F 0 := x0.at (by decide) (by decide) (by decide)
  have w3 := ibA1 hI
  have w4 : (zI M 337 1).toInt = (zI M 337 1).toInt := (congrArg Int32.toInt rfl).trans rfl
  have e1 : (zI M 337 1).toInt = F 1 := x0.at (by decide) (by decide) (by decide)
  have w5 := ibA2 hI
  have w6 : (zI M 337 2).toInt = (zI M 337 2).toInt := (congrArg Int32.toInt rfl).trans rfl
  have e2 : (zI M 337 2).toInt = F 2 := x0.at (by decide) (by decide) (by decide)
  refine zs_iconst (pc := 0) t276_0 (v := 0) (by decide) ?_
  refine zs_istore_n (pc := 1) t276_1 (ls' := [(2, .int (0 : Int32)), (0, .ref 336), (1, .int a)]) (zml mf276 (by decide)) rfl ?_
  have w7L : ∀ (m : Nat) (w7x2 : Int32), (0 ≤ w7x2.toInt ∧ w7x2.toInt ≤ 60) → 60 - w7x2.toInt ≤ (m : Int) → zGo X l 0 0 0 276 2 [(0, .ref 336), (1, .int a), (2, .int w7x2)] [] M Q := by
    intro m
    induction m using Nat.strongRecOn with
    | ind w7m w7ih =>
      intro w7x2 w7b2 w7q
      refine zs_iload_n (pc := 2) t276_2 rfl ?_
      refine zs_iload_n (pc := 3) t276_3 rfl ?_
      by_cases w8 : a.toInt ≤ w7x2.toInt
      · refine zs_icmp_geT (pc := 4) t276_4 rfl rfl (by omega) ?_
        refine zs_iconst (pc := 39) t276_39 (v := 1) (by decide) ?_
        have w9 : (1 : Int32).toInt = 1 := li1
        exact zs_iret (pc := 40) t276_40 mr276 (by decide) (hQ _ (Or.inl (by decide)) (by decide) (by decide))
      · refine zs_icmp_geF (pc := 4) t276_4 rfl rfl (by omega) ?_
        refine zs_aload_n (pc := 7) t276_7 rfl ?_
        refine zs_get (pc := 8) t276_8 (by decide) (zk1 (hs.k fk_zMm_336)) (hs.p rfl fv_zMm_336_16) ?_
        refine zs_iload_n (pc := 11) t276_11 rfl ?_
        obtain ⟨w10n, w10⟩ : ∃ n : Nat, w7x2.toInt = (n : Int) := ⟨(w7x2.toInt).toNat, by omega⟩
        have w11 := ib343 hI w10n
        refine zs_bald (pc := 12) t276_12 (j := w10n) (Or.inr (zk1 (hs.k fk_zMm_343))) (show w7x2.toInt = ((w10n : Nat) : Int) by omega) (zk2 (hs.k fk_zMm_343) (by omega)) rfl ?_
        by_cases w12 : (zI M 343 w10n).toInt = 0
        · refine zs_if_eqT (pc := 13) t276_13 rfl (by omega) ?_
          obtain ⟨w13v, w13e, w13⟩ := ziadd (a := w7x2) (b := Int32.ofInt 1) rfl (show (Int32.ofInt 1).toInt = 1 by decide) (by omega) (by omega)
          refine zs_iinc (pc := 33) t276_33 (ls' := [(2, .int w13v), (0, .ref 336), (1, .int a)]) (zml mf276 (by decide)) rfl (c := w13v) w13e rfl ?_
          refine zs_goto (pc := 36) t276_36 ?_
          refine zGo.locals (ls' := [(0, .ref 336), (1, .int a), (2, .int w13v)]) (by simp) ?_
          have w14 := w13
          exact w7ih (w7m - 1) (by omega) w13v ⟨by omega, by omega⟩ (by omega)
        · refine zs_if_eqF (pc := 13) t276_13 rfl (by omega) ?_
          refine zs_aload_n (pc := 16) t276_16 rfl ?_
          refine zs_get (pc := 17) t276_17 (by decide) (zk1 (hs.k fk_zMm_336)) (hs.p rfl fv_zMm_336_17) ?_
          refine zs_iload_n (pc := 20) t276_20 rfl ?_
          have w15 := zrg (zI M 344 w10n)
          refine zs_iald (pc := 21) t276_21 (j := w10n) (by decide) (zk1 (hs.k fk_zMm_344)) (show w7x2.toInt = ((w10n : Nat) : Int) by omega) (zk2 (hs.k fk_zMm_344) (by omega)) rfl ?_
          refine zs_aload_n (pc := 22) t276_22 rfl ?_
          refine zs_get (pc := 23) t276_23 (by decide) (zk1 (hs.k fk_zMm_336)) (hs.p rfl fv_zMm_336_17) ?_
          refine zs_iload_n (pc := 26) t276_26 rfl ?_
          obtain ⟨w16n, w16⟩ : ∃ n : Nat, a.toInt = (n : Int) := ⟨(a.toInt).toNat, by omega⟩
          have w17 := zrg (zI M 344 w16n)
          refine zs_iald (pc := 27) t276_27 (j := w16n) (by decide) (zk1 (hs.k fk_zMm_344)) (show a.toInt = ((w16n : Nat) : Int) by omega) (zk2 (hs.k fk_zMm_344) (by omega)) rfl ?_
          by_cases w18 : (zI M 344 w10n).toInt ≠ (zI M 344 w16n).toInt
          · refine zs_icmp_neT (pc := 28) t276_28 rfl rfl (by omega) ?_
            obtain ⟨w19v, w19e, w19⟩ := ziadd (a := w7x2) (b := Int32.ofInt 1) rfl (show (Int32.ofInt 1).toInt = 1 by decide) (by omega) (by omega)
            refine zs_iinc (pc := 33) t276_33 (ls' := [(2, .int w19v), (0, .ref 336), (1, .int a)]) (zml mf276 (by decide)) rfl (c := w19v) w19e rfl ?_
            refine zs_goto (pc := 36) t276_36 ?_
            refine zGo.locals (ls' := [(0, .ref 336), (1, .int a), (2, .int w19v)]) (by simp) ?_
            have w20 := w19
            exact w7ih (w7m - 1) (by omega) w19v ⟨by omega, by omega⟩ (by omega)
          · refine zs_icmp_neF (pc := 28) t276_28 rfl rfl (by omega) ?_
            refine zs_iconst (pc := 31) t276_31 (v := 0) (by decide) ?_
            have w21 : (0 : Int32).toInt = 0 := li0
            exact zs_iret (pc := 32) t276_32 mr276 (by decide) (hQ _ (Or.inr ⟨w10n, by omega, x2.y (by omega) (by omega), fun h hh => by obtain rfl : w16n = h := (by omega); exact (x3 w10n (by omega) (x2.y (by omega) (by omega))).symm.trans (by omega)⟩) (by decide) (by decide))
  refine zGo.locals (ls' := [(0, .ref 336), (1, .int a), (2, .int (0 : Int32))]) (by simp) ?_
  have w22 := li0
  exact w7L ((60 - 0 : Int).toNat) (0 : Int32) ⟨by decide, by decide⟩ (by omega)
set_option maxHeartbeats 8000000 in
theorem U279 {X : zX} {l : Launch} {M : zM} {Q : Option Value → zM → Prop} {a b c d e f g h : Int32} (hs : zSk zMm M) (hI : zIv mLo mHi M) (ha : 0 ≤ a.toInt ∧ a.toInt ≤ 8) (hb : (-99) ≤ b.toInt ∧ b.toInt ≤ 99) (hc : (-99) ≤ c.toInt ∧ c.toInt ≤ 99) (he : 0 ≤ e.toInt ∧ e.toInt ≤ 8) (hf : (-99) ≤ f.toInt ∧ f.toInt ≤ 99) (hg : (-99) ≤ g.toInt ∧ g.toInt ≤ 99) (hQ : ∀ v : Int32, ((v.toInt = 1 ∧ zah a.toInt b.toInt c.toInt d.toInt e.toInt f.toInt g.toInt h.toInt) ∨ (v.toInt = 0 ∧ ¬ zah a.toInt b.toInt c.toInt d.toInt e.toInt f.toInt g.toInt h.toInt)) → 0 ≤ v.toInt → v.toInt ≤ 1 → Q (some (.int v)) M) : zCall X l 1 0 0 279 [.int a, .int b, .int c, .int d, .int e, .int f, .int g, .int h] M Q := by
  have ga := zrg a
  have gb := zrg b
  have gc := zrg c
  have gd := zrg d
  have ge := zrg e
  have gf := zrg f
  have gg := zrg g
  have gh := zrg h
  refine zs_in (by decide) mf279 (Nat.le_of_ble_eq_true rfl) ?_
  show zGo X l 1 0 0 279 0 [(0, .int a), (1, .int b), (2, .int c), (3, .int d), (4, .int e), (5, .int f), (6, .int g), (7, .int h)] [] M _
  refine zs_iload_n (pc := 0) t279_0 rfl ?_
  refine zs_iload (pc := 1) t279_1 rfl ?_
  by_cases w1 : a.toInt = e.toInt
  · refine zs_icmp_eqT (pc := 3) t279_3 rfl rfl (by omega) ?_
    refine zs_iload_n (pc := 18) t279_18 rfl ?_
    refine zs_invS (pc := 19) (as := [.int b]) (st := []) t279_19 (by decide) mf280 rfl rfl ⟨by decide, by decide, Nat.le_of_ble_eq_true rfl, Nat.le_of_ble_eq_true rfl⟩ (zs_in (by decide) mf280 (Nat.le_of_ble_eq_true rfl) ?_) (fun _ _ q => q)
    show zGo X l 0 0 0 280 0 [(0, .int b)] [] M _
    refine zs_iload_n (pc := 0) t280_0 rfl ?_
    by_cases w2 : 0 ≤ b.toInt
    · refine zs_if_geT (pc := 1) t280_1 rfl (by omega) ?_
      refine zs_iload_n (pc := 9) t280_9 rfl ?_
      refine zs_iret (pc := 10) t280_10 mr280 rfl ?_
      show zGo X l 1 0 0 279 22 [(0, .int a), (1, .int b), (2, .int c), (3, .int d), (4, .int e), (5, .int f), (6, .int g), (7, .int h)] [.int b] M _
      refine zs_iload (pc := 22) t279_22 rfl ?_
      refine zs_invS (pc := 24) (as := [.int f]) (st := [.int b]) t279_24 (by decide) mf280 rfl rfl ⟨by decide, by decide, Nat.le_of_ble_eq_true rfl, Nat.le_of_ble_eq_true rfl⟩ (zs_in (by decide) mf280 (Nat.le_of_ble_eq_true rfl) ?_) (fun _ _ q => q)
      show zGo X l 0 0 0 280 0 [(0, .int f)] [] M _
      refine zs_iload_n (pc := 0) t280_0 rfl ?_
      by_cases w3 : 0 ≤ f.toInt
      · refine zs_if_geT (pc := 1) t280_1 rfl (by omega) ?_
        refine zs_iload_n (pc := 9) t280_9 rfl ?_
        refine zs_iret (pc := 10) t280_10 mr280 rfl ?_
        show zGo X l 1 0 0 279 27 [(0, .int a), (1, .int b), (2, .int c), (3, .int d), (4, .int e), (5, .int f), (6, .int g), (7, .int h)] [.int f, .int b] M _
        by_cases w4 : b.toInt = f.toInt
        · refine zs_icmp_eqT (pc := 27) t279_27 rfl rfl (by omega) ?_
          refine zs_iload_n (pc := 48) t279_48 rfl ?_
          refine zs_invS (pc := 49) (as := [.int c]) (st := []) t279_49 (by decide) mf280 rfl rfl ⟨by decide, by decide, Nat.le_of_ble_eq_true rfl, Nat.le_of_ble_eq_true rfl⟩ (zs_in (by decide) mf280 (Nat.le_of_ble_eq_true rfl) ?_) (fun _ _ q => q)
          show zGo X l 0 0 0 280 0 [(0, .int c)] [] M _
          refine zs_iload_n (pc := 0) t280_0 rfl ?_
          by_cases w5 : 0 ≤ c.toInt
          · refine zs_if_geT (pc := 1) t280_1 rfl (by omega) ?_
            refine zs_iload_n (pc := 9) t280_9 rfl ?_
            refine zs_iret (pc := 10) t280_10 mr280 rfl ?_
            show zGo X l 1 0 0 279 52 [(0, .int a), (1, .int b), (2, .int c), (3, .int d), (4, .int e), (5, .int f), (6, .int g), (7, .int h)] [.int c] M _
            refine zs_iload (pc := 52) t279_52 rfl ?_
            refine zs_invS (pc := 54) (as := [.int g]) (st := [.int c]) t279_54 (by decide) mf280 rfl rfl ⟨by decide, by decide, Nat.le_of_ble_eq_true rfl, Nat.le_of_ble_eq_true rfl⟩ (zs_in (by decide) mf280 (Nat.le_of_ble_eq_true rfl) ?_) (fun _ _ q => q)
            show zGo X l 0 0 0 280 0 [(0, .int g)] [] M _
            refine zs_iload_n (pc := 0) t280_0 rfl ?_
            by_cases w6 : 0 ≤ g.toInt
            · refine zs_if_geT (pc := 1) t280_1 rfl (by omega) ?_
              refine zs_iload_n (pc := 9) t280_9 rfl ?_
              refine zs_iret (pc := 10) t280_10 mr280 rfl ?_
              show zGo X l 1 0 0 279 57 [(0, .int a), (1, .int b), (2, .int c), (3, .int d), (4, .int e), (5, .int f), (6, .int g), (7, .int h)] [.int g, .int c] M _
              by_cases w7 : c.toInt = g.toInt
              · refine zs_icmp_eqT (pc := 57) t279_57 rfl rfl (by omega) ?_
                refine zs_iload_n (pc := 78) t279_78 rfl ?_
                refine zs_iload (pc := 79) t279_79 rfl ?_
                by_cases w8 : b.toInt = f.toInt
                · refine zs_icmp_eqT (pc := 81) t279_81 rfl rfl (by omega) ?_
                  refine zs_iload_n (pc := 96) t279_96 rfl ?_
                  refine zs_iload (pc := 97) t279_97 rfl ?_
                  by_cases w9 : c.toInt = g.toInt
                  · refine zs_icmp_eqT (pc := 99) t279_99 rfl rfl (by omega) ?_
                    refine zs_iload_n (pc := 116) t279_116 rfl ?_
                    refine zs_iload (pc := 117) t279_117 rfl ?_
                    by_cases w10 : h.toInt ≤ d.toInt
                    · refine zs_icmp_geT (pc := 119) t279_119 rfl rfl (by omega) ?_
                      refine zs_iconst (pc := 126) t279_126 (v := 0) (by decide) ?_
                      have w11 : (0 : Int32).toInt = 0 := li0
                      exact zs_iret (pc := 127) t279_127 mr279 (by decide) (hQ _ (Or.inr ⟨by decide, by unfold zah; omega⟩) (by decide) (by decide))
                    · refine zs_icmp_geF (pc := 119) t279_119 rfl rfl (by omega) ?_
                      refine zs_iconst (pc := 122) t279_122 (v := 1) (by decide) ?_
                      refine zs_goto (pc := 123) t279_123 ?_
                      have w12 : (1 : Int32).toInt = 1 := li1
                      exact zs_iret (pc := 127) t279_127 mr279 (by decide) (hQ _ (Or.inl ⟨by decide, by unfold zah; omega⟩) (by decide) (by decide))
                  · refine zs_icmp_eqF (pc := 99) t279_99 rfl rfl (by omega) ?_
                    refine zs_iload_n (pc := 102) t279_102 rfl ?_
                    refine zs_iload (pc := 103) t279_103 rfl ?_
                    by_cases w13 : g.toInt ≤ c.toInt
                    · refine zs_icmp_geT (pc := 105) t279_105 rfl rfl (by omega) ?_
                      refine zs_iconst (pc := 112) t279_112 (v := 0) (by decide) ?_
                      refine zs_goto (pc := 113) t279_113 ?_
                      have w14 : (0 : Int32).toInt = 0 := li0
                      exact zs_iret (pc := 127) t279_127 mr279 (by decide) (hQ _ (Or.inr ⟨by decide, by unfold zah; omega⟩) (by decide) (by decide))
                    · refine zs_icmp_geF (pc := 105) t279_105 rfl rfl (by omega) ?_
                      refine zs_iconst (pc := 108) t279_108 (v := 1) (by decide) ?_
                      refine zs_goto (pc := 109) t279_109 ?_
                      have w15 : (1 : Int32).toInt = 1 := li1
                      exact zs_iret (pc := 127) t279_127 mr279 (by decide) (hQ _ (Or.inl ⟨by decide, by unfold zah; omega⟩) (by decide) (by decide))
                · refine zs_icmp_eqF (pc := 81) t279_81 rfl rfl (by omega) ?_
                  refine zs_iload_n (pc := 84) t279_84 rfl ?_
                  refine zs_iload (pc := 85) t279_85 rfl ?_
                  by_cases w16 : f.toInt ≤ b.toInt
                  · refine zs_icmp_geT (pc := 87) t279_87 rfl rfl (by omega) ?_
                    refine zs_iconst (pc := 94) t279_94 (v := 0) (by decide) ?_
                    have w17 : (0 : Int32).toInt = 0 := li0
                    exact zs_iret (pc := 95) t279_95 mr279 (by decide) (hQ _ (Or.inr ⟨by decide, by unfold zah; omega⟩) (by decide) (by decide))
                  · refine zs_icmp_geF (pc := 87) t279_87 rfl rfl (by omega) ?_
                    refine zs_iconst (pc := 90) t279_90 (v := 1) (by decide) ?_
                    refine zs_goto (pc := 91) t279_91 ?_
                    have w18 : (1 : Int32).toInt = 1 := li1
                    exact zs_iret (pc := 95) t279_95 mr279 (by decide) (hQ _ (Or.inl ⟨by decide, by unfold zah; omega⟩) (by decide) (by decide))
              · refine zs_icmp_eqF (pc := 57) t279_57 rfl rfl (by omega) ?_
                refine zs_iload_n (pc := 60) t279_60 rfl ?_
                refine zs_invS (pc := 61) (as := [.int c]) (st := []) t279_61 (by decide) mf280 rfl rfl ⟨by decide, by decide, Nat.le_of_ble_eq_true rfl, Nat.le_of_ble_eq_true rfl⟩ (zs_in (by decide) mf280 (Nat.le_of_ble_eq_true rfl) ?_) (fun _ _ q => q)
                show zGo X l 0 0 0 280 0 [(0, .int c)] [] M _
                refine zs_iload_n (pc := 0) t280_0 rfl ?_
                refine zs_if_geT (pc := 1) t280_1 rfl (by omega) ?_
                refine zs_iload_n (pc := 9) t280_9 rfl ?_
                refine zs_iret (pc := 10) t280_10 mr280 rfl ?_
                show zGo X l 1 0 0 279 64 [(0, .int a), (1, .int b), (2, .int c), (3, .int d), (4, .int e), (5, .int f), (6, .int g), (7, .int h)] [.int c] M _
                refine zs_iload (pc := 64) t279_64 rfl ?_
                refine zs_invS (pc := 66) (as := [.int g]) (st := [.int c]) t279_66 (by decide) mf280 rfl rfl ⟨by decide, by decide, Nat.le_of_ble_eq_true rfl, Nat.le_of_ble_eq_true rfl⟩ (zs_in (by decide) mf280 (Nat.le_of_ble_eq_true rfl) ?_) (fun _ _ q => q)
                show zGo X l 0 0 0 280 0 [(0, .int g)] [] M _
                refine zs_iload_n (pc := 0) t280_0 rfl ?_
                refine zs_if_geT (pc := 1) t280_1 rfl (by omega) ?_
                refine zs_iload_n (pc := 9) t280_9 rfl ?_
                refine zs_iret (pc := 10) t280_10 mr280 rfl ?_
                show zGo X l 1 0 0 279 69 [(0, .int a), (1, .int b), (2, .int c), (3, .int d), (4, .int e), (5, .int f), (6, .int g), (7, .int h)] [.int g, .int c] M _
                by_cases w19 : g.toInt ≤ c.toInt
                · refine zs_icmp_geT (pc := 69) t279_69 rfl rfl (by omega) ?_
                  refine zs_iconst (pc := 76) t279_76 (v := 0) (by decide) ?_
                  have w20 : (0 : Int32).toInt = 0 := li0
                  exact zs_iret (pc := 77) t279_77 mr279 (by decide) (hQ _ (Or.inr ⟨by decide, by unfold zah; omega⟩) (by decide) (by decide))
                · refine zs_icmp_geF (pc := 69) t279_69 rfl rfl (by omega) ?_
                  refine zs_iconst (pc := 72) t279_72 (v := 1) (by decide) ?_
                  refine zs_goto (pc := 73) t279_73 ?_
                  have w21 : (1 : Int32).toInt = 1 := li1
                  exact zs_iret (pc := 77) t279_77 mr279 (by decide) (hQ _ (Or.inl ⟨by decide, by unfold zah; omega⟩) (by decide) (by decide))
            · refine zs_if_geF (pc := 1) t280_1 rfl (by omega) ?_
              refine zs_iload_n (pc := 4) t280_4 rfl ?_
              obtain ⟨w22v, w22e⟩ : ∃ v, -g = v := ⟨_, rfl⟩
              have w22 : w22v.toInt = -g.toInt := by rw [← w22e]; exact zneg rfl (by omega)
              refine zs_ineg (pc := 5) t280_5 (c := w22v) w22e ?_
              refine zs_goto (pc := 6) t280_6 ?_
              refine zs_iret (pc := 10) t280_10 mr280 rfl ?_
              show zGo X l 1 0 0 279 57 [(0, .int a), (1, .int b), (2, .int c), (3, .int d), (4, .int e), (5, .int f), (6, .int g), (7, .int h)] [.int w22v, .int c] M _
              by_cases w23 : c.toInt = (-g.toInt)
              · refine zs_icmp_eqT (pc := 57) t279_57 rfl w22 (by omega) ?_
                refine zs_iload_n (pc := 78) t279_78 rfl ?_
                refine zs_iload (pc := 79) t279_79 rfl ?_
                by_cases w24 : b.toInt = f.toInt
                · refine zs_icmp_eqT (pc := 81) t279_81 rfl rfl (by omega) ?_
                  refine zs_iload_n (pc := 96) t279_96 rfl ?_
                  refine zs_iload (pc := 97) t279_97 rfl ?_
                  refine zs_icmp_eqF (pc := 99) t279_99 rfl rfl (by omega) ?_
                  refine zs_iload_n (pc := 102) t279_102 rfl ?_
                  refine zs_iload (pc := 103) t279_103 rfl ?_
                  refine zs_icmp_geT (pc := 105) t279_105 rfl rfl (by omega) ?_
                  refine zs_iconst (pc := 112) t279_112 (v := 0) (by decide) ?_
                  refine zs_goto (pc := 113) t279_113 ?_
                  have w25 : (0 : Int32).toInt = 0 := li0
                  exact zs_iret (pc := 127) t279_127 mr279 (by decide) (hQ _ (Or.inr ⟨by decide, by unfold zah; omega⟩) (by decide) (by decide))
                · refine zs_icmp_eqF (pc := 81) t279_81 rfl rfl (by omega) ?_
                  refine zs_iload_n (pc := 84) t279_84 rfl ?_
                  refine zs_iload (pc := 85) t279_85 rfl ?_
                  by_cases w26 : f.toInt ≤ b.toInt
                  · refine zs_icmp_geT (pc := 87) t279_87 rfl rfl (by omega) ?_
                    refine zs_iconst (pc := 94) t279_94 (v := 0) (by decide) ?_
                    have w27 : (0 : Int32).toInt = 0 := li0
                    exact zs_iret (pc := 95) t279_95 mr279 (by decide) (hQ _ (Or.inr ⟨by decide, by unfold zah; omega⟩) (by decide) (by decide))
                  · refine zs_icmp_geF (pc := 87) t279_87 rfl rfl (by omega) ?_
                    refine zs_iconst (pc := 90) t279_90 (v := 1) (by decide) ?_
                    refine zs_goto (pc := 91) t279_91 ?_
                    have w28 : (1 : Int32).toInt = 1 := li1
                    exact zs_iret (pc := 95) t279_95 mr279 (by decide) (hQ _ (Or.inl ⟨by decide, by unfold zah; omega⟩) (by decide) (by decide))
              · refine zs_icmp_eqF (pc := 57) t279_57 rfl w22 (by omega) ?_
                refine zs_iload_n (pc := 60) t279_60 rfl ?_
                refine zs_invS (pc := 61) (as := [.int c]) (st := []) t279_61 (by decide) mf280 rfl rfl ⟨by decide, by decide, Nat.le_of_ble_eq_true rfl, Nat.le_of_ble_eq_true rfl⟩ (zs_in (by decide) mf280 (Nat.le_of_ble_eq_true rfl) ?_) (fun _ _ q => q)
                show zGo X l 0 0 0 280 0 [(0, .int c)] [] M _
                refine zs_iload_n (pc := 0) t280_0 rfl ?_
                refine zs_if_geT (pc := 1) t280_1 rfl (by omega) ?_
                refine zs_iload_n (pc := 9) t280_9 rfl ?_
                refine zs_iret (pc := 10) t280_10 mr280 rfl ?_
                show zGo X l 1 0 0 279 64 [(0, .int a), (1, .int b), (2, .int c), (3, .int d), (4, .int e), (5, .int f), (6, .int g), (7, .int h)] [.int c] M _
                refine zs_iload (pc := 64) t279_64 rfl ?_
                refine zs_invS (pc := 66) (as := [.int g]) (st := [.int c]) t279_66 (by decide) mf280 rfl rfl ⟨by decide, by decide, Nat.le_of_ble_eq_true rfl, Nat.le_of_ble_eq_true rfl⟩ (zs_in (by decide) mf280 (Nat.le_of_ble_eq_true rfl) ?_) (fun _ _ q => q)
                show zGo X l 0 0 0 280 0 [(0, .int g)] [] M _
                refine zs_iload_n (pc := 0) t280_0 rfl ?_
                refine zs_if_geF (pc := 1) t280_1 rfl (by omega) ?_
                refine zs_iload_n (pc := 4) t280_4 rfl ?_
                obtain ⟨w29v, w29e⟩ : ∃ v, -g = v := ⟨_, rfl⟩
                have w29 : w29v.toInt = -g.toInt := by rw [← w29e]; exact zneg rfl (by omega)
                refine zs_ineg (pc := 5) t280_5 (c := w29v) w29e ?_
                refine zs_goto (pc := 6) t280_6 ?_
                refine zs_iret (pc := 10) t280_10 mr280 rfl ?_
                show zGo X l 1 0 0 279 69 [(0, .int a), (1, .int b), (2, .int c), (3, .int d), (4, .int e), (5, .int f), (6, .int g), (7, .int h)] [.int w29v, .int c] M _
                by_cases w30 : (-g.toInt) ≤ c.toInt
                · refine zs_icmp_geT (pc := 69) t279_69 rfl w29 (by omega) ?_
                  refine zs_iconst (pc := 76) t279_76 (v := 0) (by decide) ?_
                  have w31 : (0 : Int32).toInt = 0 := li0
                  exact zs_iret (pc := 77) t279_77 mr279 (by decide) (hQ _ (Or.inr ⟨by decide, by unfold zah; omega⟩) (by decide) (by decide))
                · refine zs_icmp_geF (pc := 69) t279_69 rfl w29 (by omega) ?_
                  refine zs_iconst (pc := 72) t279_72 (v := 1) (by decide) ?_
                  refine zs_goto (pc := 73) t279_73 ?_
                  have w32 : (1 : Int32).toInt = 1 := li1
                  exact zs_iret (pc := 77) t279_77 mr279 (by decide) (hQ _ (Or.inl ⟨by decide, by unfold zah; omega⟩) (by decide) (by decide))
          · refine zs_if_geF (pc := 1) t280_1 rfl (by omega) ?_
            refine zs_iload_n (pc := 4) t280_4 rfl ?_
            obtain ⟨w33v, w33e⟩ : ∃ v, -c = v := ⟨_, rfl⟩
            have w33 : w33v.toInt = -c.toInt := by rw [← w33e]; exact zneg rfl (by omega)
            refine zs_ineg (pc := 5) t280_5 (c := w33v) w33e ?_
            refine zs_goto (pc := 6) t280_6 ?_
            refine zs_iret (pc := 10) t280_10 mr280 rfl ?_
            show zGo X l 1 0 0 279 52 [(0, .int a), (1, .int b), (2, .int c), (3, .int d), (4, .int e), (5, .int f), (6, .int g), (7, .int h)] [.int w33v] M _
            refine zs_iload (pc := 52) t279_52 rfl ?_
            refine zs_invS (pc := 54) (as := [.int g]) (st := [.int w33v]) t279_54 (by decide) mf280 rfl rfl ⟨by decide, by decide, Nat.le_of_ble_eq_true rfl, Nat.le_of_ble_eq_true rfl⟩ (zs_in (by decide) mf280 (Nat.le_of_ble_eq_true rfl) ?_) (fun _ _ q => q)
            show zGo X l 0 0 0 280 0 [(0, .int g)] [] M _
            refine zs_iload_n (pc := 0) t280_0 rfl ?_
            by_cases w34 : 0 ≤ g.toInt
            · refine zs_if_geT (pc := 1) t280_1 rfl (by omega) ?_
              refine zs_iload_n (pc := 9) t280_9 rfl ?_
              refine zs_iret (pc := 10) t280_10 mr280 rfl ?_
              show zGo X l 1 0 0 279 57 [(0, .int a), (1, .int b), (2, .int c), (3, .int d), (4, .int e), (5, .int f), (6, .int g), (7, .int h)] [.int g, .int w33v] M _
              by_cases w35 : (-c.toInt) = g.toInt
              · refine zs_icmp_eqT (pc := 57) t279_57 w33 rfl (by omega) ?_
                refine zs_iload_n (pc := 78) t279_78 rfl ?_
                refine zs_iload (pc := 79) t279_79 rfl ?_
                by_cases w36 : b.toInt = f.toInt
                · refine zs_icmp_eqT (pc := 81) t279_81 rfl rfl (by omega) ?_
                  refine zs_iload_n (pc := 96) t279_96 rfl ?_
                  refine zs_iload (pc := 97) t279_97 rfl ?_
                  refine zs_icmp_eqF (pc := 99) t279_99 rfl rfl (by omega) ?_
                  refine zs_iload_n (pc := 102) t279_102 rfl ?_
                  refine zs_iload (pc := 103) t279_103 rfl ?_
                  refine zs_icmp_geF (pc := 105) t279_105 rfl rfl (by omega) ?_
                  refine zs_iconst (pc := 108) t279_108 (v := 1) (by decide) ?_
                  refine zs_goto (pc := 109) t279_109 ?_
                  have w37 : (1 : Int32).toInt = 1 := li1
                  exact zs_iret (pc := 127) t279_127 mr279 (by decide) (hQ _ (Or.inl ⟨by decide, by unfold zah; omega⟩) (by decide) (by decide))
                · refine zs_icmp_eqF (pc := 81) t279_81 rfl rfl (by omega) ?_
                  refine zs_iload_n (pc := 84) t279_84 rfl ?_
                  refine zs_iload (pc := 85) t279_85 rfl ?_
                  by_cases w38 : f.toInt ≤ b.toInt
                  · refine zs_icmp_geT (pc := 87) t279_87 rfl rfl (by omega) ?_
                    refine zs_iconst (pc := 94) t279_94 (v := 0) (by decide) ?_
                    have w39 : (0 : Int32).toInt = 0 := li0
                    exact zs_iret (pc := 95) t279_95 mr279 (by decide) (hQ _ (Or.inr ⟨by decide, by unfold zah; omega⟩) (by decide) (by decide))
                  · refine zs_icmp_geF (pc := 87) t279_87 rfl rfl (by omega) ?_
                    refine zs_iconst (pc := 90) t279_90 (v := 1) (by decide) ?_
                    refine zs_goto (pc := 91) t279_91 ?_
                    have w40 : (1 : Int32).toInt = 1 := li1
                    exact zs_iret (pc := 95) t279_95 mr279 (by decide) (hQ _ (Or.inl ⟨by decide, by unfold zah; omega⟩) (by decide) (by decide))
              · refine zs_icmp_eqF (pc := 57) t279_57 w33 rfl (by omega) ?_
                refine zs_iload_n (pc := 60) t279_60 rfl ?_
                refine zs_invS (pc := 61) (as := [.int c]) (st := []) t279_61 (by decide) mf280 rfl rfl ⟨by decide, by decide, Nat.le_of_ble_eq_true rfl, Nat.le_of_ble_eq_true rfl⟩ (zs_in (by decide) mf280 (Nat.le_of_ble_eq_true rfl) ?_) (fun _ _ q => q)
                show zGo X l 0 0 0 280 0 [(0, .int c)] [] M _
                refine zs_iload_n (pc := 0) t280_0 rfl ?_
                refine zs_if_geF (pc := 1) t280_1 rfl (by omega) ?_
                refine zs_iload_n (pc := 4) t280_4 rfl ?_
                obtain ⟨w41v, w41e⟩ : ∃ v, -c = v := ⟨_, rfl⟩
                have w41 : w41v.toInt = -c.toInt := by rw [← w41e]; exact zneg rfl (by omega)
                refine zs_ineg (pc := 5) t280_5 (c := w41v) w41e ?_
                refine zs_goto (pc := 6) t280_6 ?_
                refine zs_iret (pc := 10) t280_10 mr280 rfl ?_
                show zGo X l 1 0 0 279 64 [(0, .int a), (1, .int b), (2, .int c), (3, .int d), (4, .int e), (5, .int f), (6, .int g), (7, .int h)] [.int w41v] M _
                refine zs_iload (pc := 64) t279_64 rfl ?_
                refine zs_invS (pc := 66) (as := [.int g]) (st := [.int w41v]) t279_66 (by decide) mf280 rfl rfl ⟨by decide, by decide, Nat.le_of_ble_eq_true rfl, Nat.le_of_ble_eq_true rfl⟩ (zs_in (by decide) mf280 (Nat.le_of_ble_eq_true rfl) ?_) (fun _ _ q => q)
                show zGo X l 0 0 0 280 0 [(0, .int g)] [] M _
                refine zs_iload_n (pc := 0) t280_0 rfl ?_
                refine zs_if_geT (pc := 1) t280_1 rfl (by omega) ?_
                refine zs_iload_n (pc := 9) t280_9 rfl ?_
                refine zs_iret (pc := 10) t280_10 mr280 rfl ?_
                show zGo X l 1 0 0 279 69 [(0, .int a), (1, .int b), (2, .int c), (3, .int d), (4, .int e), (5, .int f), (6, .int g), (7, .int h)] [.int g, .int w41v] M _
                by_cases w42 : g.toInt ≤ (-c.toInt)
                · refine zs_icmp_geT (pc := 69) t279_69 w41 rfl (by omega) ?_
                  refine zs_iconst (pc := 76) t279_76 (v := 0) (by decide) ?_
                  have w43 : (0 : Int32).toInt = 0 := li0
                  exact zs_iret (pc := 77) t279_77 mr279 (by decide) (hQ _ (Or.inr ⟨by decide, by unfold zah; omega⟩) (by decide) (by decide))
                · refine zs_icmp_geF (pc := 69) t279_69 w41 rfl (by omega) ?_
                  refine zs_iconst (pc := 72) t279_72 (v := 1) (by decide) ?_
                  refine zs_goto (pc := 73) t279_73 ?_
                  have w44 : (1 : Int32).toInt = 1 := li1
                  exact zs_iret (pc := 77) t279_77 mr279 (by decide) (hQ _ (Or.inl ⟨by decide, by unfold zah; omega⟩) (by decide) (by decide))
            · refine zs_if_geF (pc := 1) t280_1 rfl (by omega) ?_
              refine zs_iload_n (pc := 4) t280_4 rfl ?_
              obtain ⟨w45v, w45e⟩ : ∃ v, -g = v := ⟨_, rfl⟩
              have w45 : w45v.toInt = -g.toInt := by rw [← w45e]; exact zneg rfl (by omega)
              refine zs_ineg (pc := 5) t280_5 (c := w45v) w45e ?_
              refine zs_goto (pc := 6) t280_6 ?_
              refine zs_iret (pc := 10) t280_10 mr280 rfl ?_
              show zGo X l 1 0 0 279 57 [(0, .int a), (1, .int b), (2, .int c), (3, .int d), (4, .int e), (5, .int f), (6, .int g), (7, .int h)] [.int w45v, .int w33v] M _
              by_cases w46 : (-c.toInt) = (-g.toInt)
              · refine zs_icmp_eqT (pc := 57) t279_57 w33 w45 (by omega) ?_
                refine zs_iload_n (pc := 78) t279_78 rfl ?_
                refine zs_iload (pc := 79) t279_79 rfl ?_
                by_cases w47 : b.toInt = f.toInt
                · refine zs_icmp_eqT (pc := 81) t279_81 rfl rfl (by omega) ?_
                  refine zs_iload_n (pc := 96) t279_96 rfl ?_
                  refine zs_iload (pc := 97) t279_97 rfl ?_
                  by_cases w48 : c.toInt = g.toInt
                  · refine zs_icmp_eqT (pc := 99) t279_99 rfl rfl (by omega) ?_
                    refine zs_iload_n (pc := 116) t279_116 rfl ?_
                    refine zs_iload (pc := 117) t279_117 rfl ?_
                    by_cases w49 : h.toInt ≤ d.toInt
                    · refine zs_icmp_geT (pc := 119) t279_119 rfl rfl (by omega) ?_
                      refine zs_iconst (pc := 126) t279_126 (v := 0) (by decide) ?_
                      have w50 : (0 : Int32).toInt = 0 := li0
                      exact zs_iret (pc := 127) t279_127 mr279 (by decide) (hQ _ (Or.inr ⟨by decide, by unfold zah; omega⟩) (by decide) (by decide))
                    · refine zs_icmp_geF (pc := 119) t279_119 rfl rfl (by omega) ?_
                      refine zs_iconst (pc := 122) t279_122 (v := 1) (by decide) ?_
                      refine zs_goto (pc := 123) t279_123 ?_
                      have w51 : (1 : Int32).toInt = 1 := li1
                      exact zs_iret (pc := 127) t279_127 mr279 (by decide) (hQ _ (Or.inl ⟨by decide, by unfold zah; omega⟩) (by decide) (by decide))
                  · refine zs_icmp_eqF (pc := 99) t279_99 rfl rfl (by omega) ?_
                    refine zs_iload_n (pc := 102) t279_102 rfl ?_
                    refine zs_iload (pc := 103) t279_103 rfl ?_
                    by_cases w52 : g.toInt ≤ c.toInt
                    · refine zs_icmp_geT (pc := 105) t279_105 rfl rfl (by omega) ?_
                      refine zs_iconst (pc := 112) t279_112 (v := 0) (by decide) ?_
                      refine zs_goto (pc := 113) t279_113 ?_
                      have w53 : (0 : Int32).toInt = 0 := li0
                      exact zs_iret (pc := 127) t279_127 mr279 (by decide) (hQ _ (Or.inr ⟨by decide, by unfold zah; omega⟩) (by decide) (by decide))
                    · refine zs_icmp_geF (pc := 105) t279_105 rfl rfl (by omega) ?_
                      refine zs_iconst (pc := 108) t279_108 (v := 1) (by decide) ?_
                      refine zs_goto (pc := 109) t279_109 ?_
                      have w54 : (1 : Int32).toInt = 1 := li1
                      exact zs_iret (pc := 127) t279_127 mr279 (by decide) (hQ _ (Or.inl ⟨by decide, by unfold zah; omega⟩) (by decide) (by decide))
                · refine zs_icmp_eqF (pc := 81) t279_81 rfl rfl (by omega) ?_
                  refine zs_iload_n (pc := 84) t279_84 rfl ?_
                  refine zs_iload (pc := 85) t279_85 rfl ?_
                  by_cases w55 : f.toInt ≤ b.toInt
                  · refine zs_icmp_geT (pc := 87) t279_87 rfl rfl (by omega) ?_
                    refine zs_iconst (pc := 94) t279_94 (v := 0) (by decide) ?_
                    have w56 : (0 : Int32).toInt = 0 := li0
                    exact zs_iret (pc := 95) t279_95 mr279 (by decide) (hQ _ (Or.inr ⟨by decide, by unfold zah; omega⟩) (by decide) (by decide))
                  · refine zs_icmp_geF (pc := 87) t279_87 rfl rfl (by omega) ?_
                    refine zs_iconst (pc := 90) t279_90 (v := 1) (by decide) ?_
                    refine zs_goto (pc := 91) t279_91 ?_
                    have w57 : (1 : Int32).toInt = 1 := li1
                    exact zs_iret (pc := 95) t279_95 mr279 (by decide) (hQ _ (Or.inl ⟨by decide, by unfold zah; omega⟩) (by decide) (by decide))
              · refine zs_icmp_eqF (pc := 57) t279_57 w33 w45 (by omega) ?_
                refine zs_iload_n (pc := 60) t279_60 rfl ?_
                refine zs_invS (pc := 61) (as := [.int c]) (st := []) t279_61 (by decide) mf280 rfl rfl ⟨by decide, by decide, Nat.le_of_ble_eq_true rfl, Nat.le_of_ble_eq_true rfl⟩ (zs_in (by decide) mf280 (Nat.le_of_ble_eq_true rfl) ?_) (fun _ _ q => q)
                show zGo X l 0 0 0 280 0 [(0, .int c)] [] M _
                refine zs_iload_n (pc := 0) t280_0 rfl ?_
                refine zs_if_geF (pc := 1) t280_1 rfl (by omega) ?_
                refine zs_iload_n (pc := 4) t280_4 rfl ?_
                obtain ⟨w58v, w58e⟩ : ∃ v, -c = v := ⟨_, rfl⟩
                have w58 : w58v.toInt = -c.toInt := by rw [← w58e]; exact zneg rfl (by omega)
                refine zs_ineg (pc := 5) t280_5 (c := w58v) w58e ?_
                refine zs_goto (pc := 6) t280_6 ?_
                refine zs_iret (pc := 10) t280_10 mr280 rfl ?_
                show zGo X l 1 0 0 279 64 [(0, .int a), (1, .int b), (2, .int c), (3, .int d), (4, .int e), (5, .int f), (6, .int g), (7, .int h)] [.int w58v] M _
                refine zs_iload (pc := 64) t279_64 rfl ?_
                refine zs_invS (pc := 66) (as := [.int g]) (st := [.int w58v]) t279_66 (by decide) mf280 rfl rfl ⟨by decide, by decide, Nat.le_of_ble_eq_true rfl, Nat.le_of_ble_eq_true rfl⟩ (zs_in (by decide) mf280 (Nat.le_of_ble_eq_true rfl) ?_) (fun _ _ q => q)
                show zGo X l 0 0 0 280 0 [(0, .int g)] [] M _
                refine zs_iload_n (pc := 0) t280_0 rfl ?_
                refine zs_if_geF (pc := 1) t280_1 rfl (by omega) ?_
                refine zs_iload_n (pc := 4) t280_4 rfl ?_
                obtain ⟨w59v, w59e⟩ : ∃ v, -g = v := ⟨_, rfl⟩
                have w59 : w59v.toInt = -g.toInt := by rw [← w59e]; exact zneg rfl (by omega)
                refine zs_ineg (pc := 5) t280_5 (c := w59v) w59e ?_
                refine zs_goto (pc := 6) t280_6 ?_
                refine zs_iret (pc := 10) t280_10 mr280 rfl ?_
                show zGo X l 1 0 0 279 69 [(0, .int a), (1, .int b), (2, .int c), (3, .int d), (4, .int e), (5, .int f), (6, .int g), (7, .int h)] [.int w59v, .int w58v] M _
                by_cases w60 : (-g.toInt) ≤ (-c.toInt)
                · refine zs_icmp_geT (pc := 69) t279_69 w58 w59 (by omega) ?_
                  refine zs_iconst (pc := 76) t279_76 (v := 0) (by decide) ?_
                  have w61 : (0 : Int32).toInt = 0 := li0
                  exact zs_iret (pc := 77) t279_77 mr279 (by decide) (hQ _ (Or.inr ⟨by decide, by unfold zah; omega⟩) (by decide) (by decide))
                · refine zs_icmp_geF (pc := 69) t279_69 w58 w59 (by omega) ?_
                  refine zs_iconst (pc := 72) t279_72 (v := 1) (by decide) ?_
                  refine zs_goto (pc := 73) t279_73 ?_
                  have w62 : (1 : Int32).toInt = 1 := li1
                  exact zs_iret (pc := 77) t279_77 mr279 (by decide) (hQ _ (Or.inl ⟨by decide, by unfold zah; omega⟩) (by decide) (by decide))
        · refine zs_icmp_eqF (pc := 27) t279_27 rfl rfl (by omega) ?_
          refine zs_iload_n (pc := 30) t279_30 rfl ?_
          refine zs_invS (pc := 31) (as := [.int b]) (st := []) t279_31 (by decide) mf280 rfl rfl ⟨by decide, by decide, Nat.le_of_ble_eq_true rfl, Nat.le_of_ble_eq_true rfl⟩ (zs_in (by decide) mf280 (Nat.le_of_ble_eq_true rfl) ?_) (fun _ _ q => q)
          show zGo X l 0 0 0 280 0 [(0, .int b)] [] M _
          refine zs_iload_n (pc := 0) t280_0 rfl ?_
          refine zs_if_geT (pc := 1) t280_1 rfl (by omega) ?_
          refine zs_iload_n (pc := 9) t280_9 rfl ?_
          refine zs_iret (pc := 10) t280_10 mr280 rfl ?_
          show zGo X l 1 0 0 279 34 [(0, .int a), (1, .int b), (2, .int c), (3, .int d), (4, .int e), (5, .int f), (6, .int g), (7, .int h)] [.int b] M _
          refine zs_iload (pc := 34) t279_34 rfl ?_
          refine zs_invS (pc := 36) (as := [.int f]) (st := [.int b]) t279_36 (by decide) mf280 rfl rfl ⟨by decide, by decide, Nat.le_of_ble_eq_true rfl, Nat.le_of_ble_eq_true rfl⟩ (zs_in (by decide) mf280 (Nat.le_of_ble_eq_true rfl) ?_) (fun _ _ q => q)
          show zGo X l 0 0 0 280 0 [(0, .int f)] [] M _
          refine zs_iload_n (pc := 0) t280_0 rfl ?_
          refine zs_if_geT (pc := 1) t280_1 rfl (by omega) ?_
          refine zs_iload_n (pc := 9) t280_9 rfl ?_
          refine zs_iret (pc := 10) t280_10 mr280 rfl ?_
          show zGo X l 1 0 0 279 39 [(0, .int a), (1, .int b), (2, .int c), (3, .int d), (4, .int e), (5, .int f), (6, .int g), (7, .int h)] [.int f, .int b] M _
          by_cases w63 : f.toInt ≤ b.toInt
          · refine zs_icmp_geT (pc := 39) t279_39 rfl rfl (by omega) ?_
            refine zs_iconst (pc := 46) t279_46 (v := 0) (by decide) ?_
            have w64 : (0 : Int32).toInt = 0 := li0
            exact zs_iret (pc := 47) t279_47 mr279 (by decide) (hQ _ (Or.inr ⟨by decide, by unfold zah; omega⟩) (by decide) (by decide))
          · refine zs_icmp_geF (pc := 39) t279_39 rfl rfl (by omega) ?_
            refine zs_iconst (pc := 42) t279_42 (v := 1) (by decide) ?_
            refine zs_goto (pc := 43) t279_43 ?_
            have w65 : (1 : Int32).toInt = 1 := li1
            exact zs_iret (pc := 47) t279_47 mr279 (by decide) (hQ _ (Or.inl ⟨by decide, by unfold zah; omega⟩) (by decide) (by decide))
      · refine zs_if_geF (pc := 1) t280_1 rfl (by omega) ?_
        refine zs_iload_n (pc := 4) t280_4 rfl ?_
        obtain ⟨w66v, w66e⟩ : ∃ v, -f = v := ⟨_, rfl⟩
        have w66 : w66v.toInt = -f.toInt := by rw [← w66e]; exact zneg rfl (by omega)
        refine zs_ineg (pc := 5) t280_5 (c := w66v) w66e ?_
        refine zs_goto (pc := 6) t280_6 ?_
        refine zs_iret (pc := 10) t280_10 mr280 rfl ?_
        show zGo X l 1 0 0 279 27 [(0, .int a), (1, .int b), (2, .int c), (3, .int d), (4, .int e), (5, .int f), (6, .int g), (7, .int h)] [.int w66v, .int b] M _
        by_cases w67 : b.toInt = (-f.toInt)
        · refine zs_icmp_eqT (pc := 27) t279_27 rfl w66 (by omega) ?_
          refine zs_iload_n (pc := 48) t279_48 rfl ?_
          refine zs_invS (pc := 49) (as := [.int c]) (st := []) t279_49 (by decide) mf280 rfl rfl ⟨by decide, by decide, Nat.le_of_ble_eq_true rfl, Nat.le_of_ble_eq_true rfl⟩ (zs_in (by decide) mf280 (Nat.le_of_ble_eq_true rfl) ?_) (fun _ _ q => q)
          show zGo X l 0 0 0 280 0 [(0, .int c)] [] M _
          refine zs_iload_n (pc := 0) t280_0 rfl ?_
          by_cases w68 : 0 ≤ c.toInt
          · refine zs_if_geT (pc := 1) t280_1 rfl (by omega) ?_
            refine zs_iload_n (pc := 9) t280_9 rfl ?_
            refine zs_iret (pc := 10) t280_10 mr280 rfl ?_
            show zGo X l 1 0 0 279 52 [(0, .int a), (1, .int b), (2, .int c), (3, .int d), (4, .int e), (5, .int f), (6, .int g), (7, .int h)] [.int c] M _
            refine zs_iload (pc := 52) t279_52 rfl ?_
            refine zs_invS (pc := 54) (as := [.int g]) (st := [.int c]) t279_54 (by decide) mf280 rfl rfl ⟨by decide, by decide, Nat.le_of_ble_eq_true rfl, Nat.le_of_ble_eq_true rfl⟩ (zs_in (by decide) mf280 (Nat.le_of_ble_eq_true rfl) ?_) (fun _ _ q => q)
            show zGo X l 0 0 0 280 0 [(0, .int g)] [] M _
            refine zs_iload_n (pc := 0) t280_0 rfl ?_
            by_cases w69 : 0 ≤ g.toInt
            · refine zs_if_geT (pc := 1) t280_1 rfl (by omega) ?_
              refine zs_iload_n (pc := 9) t280_9 rfl ?_
              refine zs_iret (pc := 10) t280_10 mr280 rfl ?_
              show zGo X l 1 0 0 279 57 [(0, .int a), (1, .int b), (2, .int c), (3, .int d), (4, .int e), (5, .int f), (6, .int g), (7, .int h)] [.int g, .int c] M _
              by_cases w70 : c.toInt = g.toInt
              · refine zs_icmp_eqT (pc := 57) t279_57 rfl rfl (by omega) ?_
                refine zs_iload_n (pc := 78) t279_78 rfl ?_
                refine zs_iload (pc := 79) t279_79 rfl ?_
                refine zs_icmp_eqF (pc := 81) t279_81 rfl rfl (by omega) ?_
                refine zs_iload_n (pc := 84) t279_84 rfl ?_
                refine zs_iload (pc := 85) t279_85 rfl ?_
                refine zs_icmp_geT (pc := 87) t279_87 rfl rfl (by omega) ?_
                refine zs_iconst (pc := 94) t279_94 (v := 0) (by decide) ?_
                have w71 : (0 : Int32).toInt = 0 := li0
                exact zs_iret (pc := 95) t279_95 mr279 (by decide) (hQ _ (Or.inr ⟨by decide, by unfold zah; omega⟩) (by decide) (by decide))
              · refine zs_icmp_eqF (pc := 57) t279_57 rfl rfl (by omega) ?_
                refine zs_iload_n (pc := 60) t279_60 rfl ?_
                refine zs_invS (pc := 61) (as := [.int c]) (st := []) t279_61 (by decide) mf280 rfl rfl ⟨by decide, by decide, Nat.le_of_ble_eq_true rfl, Nat.le_of_ble_eq_true rfl⟩ (zs_in (by decide) mf280 (Nat.le_of_ble_eq_true rfl) ?_) (fun _ _ q => q)
                show zGo X l 0 0 0 280 0 [(0, .int c)] [] M _
                refine zs_iload_n (pc := 0) t280_0 rfl ?_
                refine zs_if_geT (pc := 1) t280_1 rfl (by omega) ?_
                refine zs_iload_n (pc := 9) t280_9 rfl ?_
                refine zs_iret (pc := 10) t280_10 mr280 rfl ?_
                show zGo X l 1 0 0 279 64 [(0, .int a), (1, .int b), (2, .int c), (3, .int d), (4, .int e), (5, .int f), (6, .int g), (7, .int h)] [.int c] M _
                refine zs_iload (pc := 64) t279_64 rfl ?_
                refine zs_invS (pc := 66) (as := [.int g]) (st := [.int c]) t279_66 (by decide) mf280 rfl rfl ⟨by decide, by decide, Nat.le_of_ble_eq_true rfl, Nat.le_of_ble_eq_true rfl⟩ (zs_in (by decide) mf280 (Nat.le_of_ble_eq_true rfl) ?_) (fun _ _ q => q)
                show zGo X l 0 0 0 280 0 [(0, .int g)] [] M _
                refine zs_iload_n (pc := 0) t280_0 rfl ?_
                refine zs_if_geT (pc := 1) t280_1 rfl (by omega) ?_
                refine zs_iload_n (pc := 9) t280_9 rfl ?_
                refine zs_iret (pc := 10) t280_10 mr280 rfl ?_
                show zGo X l 1 0 0 279 69 [(0, .int a), (1, .int b), (2, .int c), (3, .int d), (4, .int e), (5, .int f), (6, .int g), (7, .int h)] [.int g, .int c] M _
                by_cases w72 : g.toInt ≤ c.toInt
                · refine zs_icmp_geT (pc := 69) t279_69 rfl rfl (by omega) ?_
                  refine zs_iconst (pc := 76) t279_76 (v := 0) (by decide) ?_
                  have w73 : (0 : Int32).toInt = 0 := li0
                  exact zs_iret (pc := 77) t279_77 mr279 (by decide) (hQ _ (Or.inr ⟨by decide, by unfold zah; omega⟩) (by decide) (by decide))
                · refine zs_icmp_geF (pc := 69) t279_69 rfl rfl (by omega) ?_
                  refine zs_iconst (pc := 72) t279_72 (v := 1) (by decide) ?_
                  refine zs_goto (pc := 73) t279_73 ?_
                  have w74 : (1 : Int32).toInt = 1 := li1
                  exact zs_iret (pc := 77) t279_77 mr279 (by decide) (hQ _ (Or.inl ⟨by decide, by unfold zah; omega⟩) (by decide) (by decide))
            · refine zs_if_geF (pc := 1) t280_1 rfl (by omega) ?_
              refine zs_iload_n (pc := 4) t280_4 rfl ?_
              obtain ⟨w75v, w75e⟩ : ∃ v, -g = v := ⟨_, rfl⟩
              have w75 : w75v.toInt = -g.toInt := by rw [← w75e]; exact zneg rfl (by omega)
              refine zs_ineg (pc := 5) t280_5 (c := w75v) w75e ?_
              refine zs_goto (pc := 6) t280_6 ?_
              refine zs_iret (pc := 10) t280_10 mr280 rfl ?_
              show zGo X l 1 0 0 279 57 [(0, .int a), (1, .int b), (2, .int c), (3, .int d), (4, .int e), (5, .int f), (6, .int g), (7, .int h)] [.int w75v, .int c] M _
              by_cases w76 : c.toInt = (-g.toInt)
              · refine zs_icmp_eqT (pc := 57) t279_57 rfl w75 (by omega) ?_
                refine zs_iload_n (pc := 78) t279_78 rfl ?_
                refine zs_iload (pc := 79) t279_79 rfl ?_
                refine zs_icmp_eqF (pc := 81) t279_81 rfl rfl (by omega) ?_
                refine zs_iload_n (pc := 84) t279_84 rfl ?_
                refine zs_iload (pc := 85) t279_85 rfl ?_
                refine zs_icmp_geT (pc := 87) t279_87 rfl rfl (by omega) ?_
                refine zs_iconst (pc := 94) t279_94 (v := 0) (by decide) ?_
                have w77 : (0 : Int32).toInt = 0 := li0
                exact zs_iret (pc := 95) t279_95 mr279 (by decide) (hQ _ (Or.inr ⟨by decide, by unfold zah; omega⟩) (by decide) (by decide))
              · refine zs_icmp_eqF (pc := 57) t279_57 rfl w75 (by omega) ?_
                refine zs_iload_n (pc := 60) t279_60 rfl ?_
                refine zs_invS (pc := 61) (as := [.int c]) (st := []) t279_61 (by decide) mf280 rfl rfl ⟨by decide, by decide, Nat.le_of_ble_eq_true rfl, Nat.le_of_ble_eq_true rfl⟩ (zs_in (by decide) mf280 (Nat.le_of_ble_eq_true rfl) ?_) (fun _ _ q => q)
                show zGo X l 0 0 0 280 0 [(0, .int c)] [] M _
                refine zs_iload_n (pc := 0) t280_0 rfl ?_
                refine zs_if_geT (pc := 1) t280_1 rfl (by omega) ?_
                refine zs_iload_n (pc := 9) t280_9 rfl ?_
                refine zs_iret (pc := 10) t280_10 mr280 rfl ?_
                show zGo X l 1 0 0 279 64 [(0, .int a), (1, .int b), (2, .int c), (3, .int d), (4, .int e), (5, .int f), (6, .int g), (7, .int h)] [.int c] M _
                refine zs_iload (pc := 64) t279_64 rfl ?_
                refine zs_invS (pc := 66) (as := [.int g]) (st := [.int c]) t279_66 (by decide) mf280 rfl rfl ⟨by decide, by decide, Nat.le_of_ble_eq_true rfl, Nat.le_of_ble_eq_true rfl⟩ (zs_in (by decide) mf280 (Nat.le_of_ble_eq_true rfl) ?_) (fun _ _ q => q)
                show zGo X l 0 0 0 280 0 [(0, .int g)] [] M _
                refine zs_iload_n (pc := 0) t280_0 rfl ?_
                refine zs_if_geF (pc := 1) t280_1 rfl (by omega) ?_
                refine zs_iload_n (pc := 4) t280_4 rfl ?_
                obtain ⟨w78v, w78e⟩ : ∃ v, -g = v := ⟨_, rfl⟩
                have w78 : w78v.toInt = -g.toInt := by rw [← w78e]; exact zneg rfl (by omega)
                refine zs_ineg (pc := 5) t280_5 (c := w78v) w78e ?_
                refine zs_goto (pc := 6) t280_6 ?_
                refine zs_iret (pc := 10) t280_10 mr280 rfl ?_
                show zGo X l 1 0 0 279 69 [(0, .int a), (1, .int b), (2, .int c), (3, .int d), (4, .int e), (5, .int f), (6, .int g), (7, .int h)] [.int w78v, .int c] M _
                by_cases w79 : (-g.toInt) ≤ c.toInt
                · refine zs_icmp_geT (pc := 69) t279_69 rfl w78 (by omega) ?_
                  refine zs_iconst (pc := 76) t279_76 (v := 0) (by decide) ?_
                  have w80 : (0 : Int32).toInt = 0 := li0
                  exact zs_iret (pc := 77) t279_77 mr279 (by decide) (hQ _ (Or.inr ⟨by decide, by unfold zah; omega⟩) (by decide) (by decide))
                · refine zs_icmp_geF (pc := 69) t279_69 rfl w78 (by omega) ?_
                  refine zs_iconst (pc := 72) t279_72 (v := 1) (by decide) ?_
                  refine zs_goto (pc := 73) t279_73 ?_
                  have w81 : (1 : Int32).toInt = 1 := li1
                  exact zs_iret (pc := 77) t279_77 mr279 (by decide) (hQ _ (Or.inl ⟨by decide, by unfold zah; omega⟩) (by decide) (by decide))
          · refine zs_if_geF (pc := 1) t280_1 rfl (by omega) ?_
            refine zs_iload_n (pc := 4) t280_4 rfl ?_
            obtain ⟨w82v, w82e⟩ : ∃ v, -c = v := ⟨_, rfl⟩
            have w82 : w82v.toInt = -c.toInt := by rw [← w82e]; exact zneg rfl (by omega)
            refine zs_ineg (pc := 5) t280_5 (c := w82v) w82e ?_
            refine zs_goto (pc := 6) t280_6 ?_
            refine zs_iret (pc := 10) t280_10 mr280 rfl ?_
            show zGo X l 1 0 0 279 52 [(0, .int a), (1, .int b), (2, .int c), (3, .int d), (4, .int e), (5, .int f), (6, .int g), (7, .int h)] [.int w82v] M _
            refine zs_iload (pc := 52) t279_52 rfl ?_
            refine zs_invS (pc := 54) (as := [.int g]) (st := [.int w82v]) t279_54 (by decide) mf280 rfl rfl ⟨by decide, by decide, Nat.le_of_ble_eq_true rfl, Nat.le_of_ble_eq_true rfl⟩ (zs_in (by decide) mf280 (Nat.le_of_ble_eq_true rfl) ?_) (fun _ _ q => q)
            show zGo X l 0 0 0 280 0 [(0, .int g)] [] M _
            refine zs_iload_n (pc := 0) t280_0 rfl ?_
            by_cases w83 : 0 ≤ g.toInt
            · refine zs_if_geT (pc := 1) t280_1 rfl (by omega) ?_
              refine zs_iload_n (pc := 9) t280_9 rfl ?_
              refine zs_iret (pc := 10) t280_10 mr280 rfl ?_
              show zGo X l 1 0 0 279 57 [(0, .int a), (1, .int b), (2, .int c), (3, .int d), (4, .int e), (5, .int f), (6, .int g), (7, .int h)] [.int g, .int w82v] M _
              by_cases w84 : (-c.toInt) = g.toInt
              · refine zs_icmp_eqT (pc := 57) t279_57 w82 rfl (by omega) ?_
                refine zs_iload_n (pc := 78) t279_78 rfl ?_
                refine zs_iload (pc := 79) t279_79 rfl ?_
                refine zs_icmp_eqF (pc := 81) t279_81 rfl rfl (by omega) ?_
                refine zs_iload_n (pc := 84) t279_84 rfl ?_
                refine zs_iload (pc := 85) t279_85 rfl ?_
                refine zs_icmp_geT (pc := 87) t279_87 rfl rfl (by omega) ?_
                refine zs_iconst (pc := 94) t279_94 (v := 0) (by decide) ?_
                have w85 : (0 : Int32).toInt = 0 := li0
                exact zs_iret (pc := 95) t279_95 mr279 (by decide) (hQ _ (Or.inr ⟨by decide, by unfold zah; omega⟩) (by decide) (by decide))
              · refine zs_icmp_eqF (pc := 57) t279_57 w82 rfl (by omega) ?_
                refine zs_iload_n (pc := 60) t279_60 rfl ?_
                refine zs_invS (pc := 61) (as := [.int c]) (st := []) t279_61 (by decide) mf280 rfl rfl ⟨by decide, by decide, Nat.le_of_ble_eq_true rfl, Nat.le_of_ble_eq_true rfl⟩ (zs_in (by decide) mf280 (Nat.le_of_ble_eq_true rfl) ?_) (fun _ _ q => q)
                show zGo X l 0 0 0 280 0 [(0, .int c)] [] M _
                refine zs_iload_n (pc := 0) t280_0 rfl ?_
                refine zs_if_geF (pc := 1) t280_1 rfl (by omega) ?_
                refine zs_iload_n (pc := 4) t280_4 rfl ?_
                obtain ⟨w86v, w86e⟩ : ∃ v, -c = v := ⟨_, rfl⟩
                have w86 : w86v.toInt = -c.toInt := by rw [← w86e]; exact zneg rfl (by omega)
                refine zs_ineg (pc := 5) t280_5 (c := w86v) w86e ?_
                refine zs_goto (pc := 6) t280_6 ?_
                refine zs_iret (pc := 10) t280_10 mr280 rfl ?_
                show zGo X l 1 0 0 279 64 [(0, .int a), (1, .int b), (2, .int c), (3, .int d), (4, .int e), (5, .int f), (6, .int g), (7, .int h)] [.int w86v] M _
                refine zs_iload (pc := 64) t279_64 rfl ?_
                refine zs_invS (pc := 66) (as := [.int g]) (st := [.int w86v]) t279_66 (by decide) mf280 rfl rfl ⟨by decide, by decide, Nat.le_of_ble_eq_true rfl, Nat.le_of_ble_eq_true rfl⟩ (zs_in (by decide) mf280 (Nat.le_of_ble_eq_true rfl) ?_) (fun _ _ q => q)
                show zGo X l 0 0 0 280 0 [(0, .int g)] [] M _
                refine zs_iload_n (pc := 0) t280_0 rfl ?_
                refine zs_if_geT (pc := 1) t280_1 rfl (by omega) ?_
                refine zs_iload_n (pc := 9) t280_9 rfl ?_
                refine zs_iret (pc := 10) t280_10 mr280 rfl ?_
                show zGo X l 1 0 0 279 69 [(0, .int a), (1, .int b), (2, .int c), (3, .int d), (4, .int e), (5, .int f), (6, .int g), (7, .int h)] [.int g, .int w86v] M _
                by_cases w87 : g.toInt ≤ (-c.toInt)
                · refine zs_icmp_geT (pc := 69) t279_69 w86 rfl (by omega) ?_
                  refine zs_iconst (pc := 76) t279_76 (v := 0) (by decide) ?_
                  have w88 : (0 : Int32).toInt = 0 := li0
                  exact zs_iret (pc := 77) t279_77 mr279 (by decide) (hQ _ (Or.inr ⟨by decide, by unfold zah; omega⟩) (by decide) (by decide))
                · refine zs_icmp_geF (pc := 69) t279_69 w86 rfl (by omega) ?_
                  refine zs_iconst (pc := 72) t279_72 (v := 1) (by decide) ?_
                  refine zs_goto (pc := 73) t279_73 ?_
                  have w89 : (1 : Int32).toInt = 1 := li1
                  exact zs_iret (pc := 77) t279_77 mr279 (by decide) (hQ _ (Or.inl ⟨by decide, by unfold zah; omega⟩) (by decide) (by decide))
            · refine zs_if_geF (pc := 1) t280_1 rfl (by omega) ?_
              refine zs_iload_n (pc := 4) t280_4 rfl ?_
              obtain ⟨w90v, w90e⟩ : ∃ v, -g = v := ⟨_, rfl⟩
              have w90 : w90v.toInt = -g.toInt := by rw [← w90e]; exact zneg rfl (by omega)
              refine zs_ineg (pc := 5) t280_5 (c := w90v) w90e ?_
              refine zs_goto (pc := 6) t280_6 ?_
              refine zs_iret (pc := 10) t280_10 mr280 rfl ?_
              show zGo X l 1 0 0 279 57 [(0, .int a), (1, .int b), (2, .int c), (3, .int d), (4, .int e), (5, .int f), (6, .int g), (7, .int h)] [.int w90v, .int w82v] M _
              by_cases w91 : (-c.toInt) = (-g.toInt)
              · refine zs_icmp_eqT (pc := 57) t279_57 w82 w90 (by omega) ?_
                refine zs_iload_n (pc := 78) t279_78 rfl ?_
                refine zs_iload (pc := 79) t279_79 rfl ?_
                refine zs_icmp_eqF (pc := 81) t279_81 rfl rfl (by omega) ?_
                refine zs_iload_n (pc := 84) t279_84 rfl ?_
                refine zs_iload (pc := 85) t279_85 rfl ?_
                refine zs_icmp_geT (pc := 87) t279_87 rfl rfl (by omega) ?_
                refine zs_iconst (pc := 94) t279_94 (v := 0) (by decide) ?_
                have w92 : (0 : Int32).toInt = 0 := li0
                exact zs_iret (pc := 95) t279_95 mr279 (by decide) (hQ _ (Or.inr ⟨by decide, by unfold zah; omega⟩) (by decide) (by decide))
              · refine zs_icmp_eqF (pc := 57) t279_57 w82 w90 (by omega) ?_
                refine zs_iload_n (pc := 60) t279_60 rfl ?_
                refine zs_invS (pc := 61) (as := [.int c]) (st := []) t279_61 (by decide) mf280 rfl rfl ⟨by decide, by decide, Nat.le_of_ble_eq_true rfl, Nat.le_of_ble_eq_true rfl⟩ (zs_in (by decide) mf280 (Nat.le_of_ble_eq_true rfl) ?_) (fun _ _ q => q)
                show zGo X l 0 0 0 280 0 [(0, .int c)] [] M _
                refine zs_iload_n (pc := 0) t280_0 rfl ?_
                refine zs_if_geF (pc := 1) t280_1 rfl (by omega) ?_
                refine zs_iload_n (pc := 4) t280_4 rfl ?_
                obtain ⟨w93v, w93e⟩ : ∃ v, -c = v := ⟨_, rfl⟩
                have w93 : w93v.toInt = -c.toInt := by rw [← w93e]; exact zneg rfl (by omega)
                refine zs_ineg (pc := 5) t280_5 (c := w93v) w93e ?_
                refine zs_goto (pc := 6) t280_6 ?_
                refine zs_iret (pc := 10) t280_10 mr280 rfl ?_
                show zGo X l 1 0 0 279 64 [(0, .int a), (1, .int b), (2, .int c), (3, .int d), (4, .int e), (5, .int f), (6, .int g), (7, .int h)] [.int w93v] M _
                refine zs_iload (pc := 64) t279_64 rfl ?_
                refine zs_invS (pc := 66) (as := [.int g]) (st := [.int w93v]) t279_66 (by decide) mf280 rfl rfl ⟨by decide, by decide, Nat.le_of_ble_eq_true rfl, Nat.le_of_ble_eq_true rfl⟩ (zs_in (by decide) mf280 (Nat.le_of_ble_eq_true rfl) ?_) (fun _ _ q => q)
                show zGo X l 0 0 0 280 0 [(0, .int g)] [] M _
                refine zs_iload_n (pc := 0) t280_0 rfl ?_
                refine zs_if_geF (pc := 1) t280_1 rfl (by omega) ?_
                refine zs_iload_n (pc := 4) t280_4 rfl ?_
                obtain ⟨w94v, w94e⟩ : ∃ v, -g = v := ⟨_, rfl⟩
                have w94 : w94v.toInt = -g.toInt := by rw [← w94e]; exact zneg rfl (by omega)
                refine zs_ineg (pc := 5) t280_5 (c := w94v) w94e ?_
                refine zs_goto (pc := 6) t280_6 ?_
                refine zs_iret (pc := 10) t280_10 mr280 rfl ?_
                show zGo X l 1 0 0 279 69 [(0, .int a), (1, .int b), (2, .int c), (3, .int d), (4, .int e), (5, .int f), (6, .int g), (7, .int h)] [.int w94v, .int w93v] M _
                by_cases w95 : (-g.toInt) ≤ (-c.toInt)
                · refine zs_icmp_geT (pc := 69) t279_69 w93 w94 (by omega) ?_
                  refine zs_iconst (pc := 76) t279_76 (v := 0) (by decide) ?_
                  have w96 : (0 : Int32).toInt = 0 := li0
                  exact zs_iret (pc := 77) t279_77 mr279 (by decide) (hQ _ (Or.inr ⟨by decide, by unfold zah; omega⟩) (by decide) (by decide))
                · refine zs_icmp_geF (pc := 69) t279_69 w93 w94 (by omega) ?_
                  refine zs_iconst (pc := 72) t279_72 (v := 1) (by decide) ?_
                  refine zs_goto (pc := 73) t279_73 ?_
                  have w97 : (1 : Int32).toInt = 1 := li1
                  exact zs_iret (pc := 77) t279_77 mr279 (by decide) (hQ _ (Or.inl ⟨by decide, by unfold zah; omega⟩) (by decide) (by decide))
        · refine zs_icmp_eqF (pc := 27) t279_27 rfl w66 (by omega) ?_
          refine zs_iload_n (pc := 30) t279_30 rfl ?_
          refine zs_invS (pc := 31) (as := [.int b]) (st := []) t279_31 (by decide) mf280 rfl rfl ⟨by decide, by decide, Nat.le_of_ble_eq_true rfl, Nat.le_of_ble_eq_true rfl⟩ (zs_in (by decide) mf280 (Nat.le_of_ble_eq_true rfl) ?_) (fun _ _ q => q)
          show zGo X l 0 0 0 280 0 [(0, .int b)] [] M _
          refine zs_iload_n (pc := 0) t280_0 rfl ?_
          refine zs_if_geT (pc := 1) t280_1 rfl (by omega) ?_
          refine zs_iload_n (pc := 9) t280_9 rfl ?_
          refine zs_iret (pc := 10) t280_10 mr280 rfl ?_
          show zGo X l 1 0 0 279 34 [(0, .int a), (1, .int b), (2, .int c), (3, .int d), (4, .int e), (5, .int f), (6, .int g), (7, .int h)] [.int b] M _
          refine zs_iload (pc := 34) t279_34 rfl ?_
          refine zs_invS (pc := 36) (as := [.int f]) (st := [.int b]) t279_36 (by decide) mf280 rfl rfl ⟨by decide, by decide, Nat.le_of_ble_eq_true rfl, Nat.le_of_ble_eq_true rfl⟩ (zs_in (by decide) mf280 (Nat.le_of_ble_eq_true rfl) ?_) (fun _ _ q => q)
          show zGo X l 0 0 0 280 0 [(0, .int f)] [] M _
          refine zs_iload_n (pc := 0) t280_0 rfl ?_
          refine zs_if_geF (pc := 1) t280_1 rfl (by omega) ?_
          refine zs_iload_n (pc := 4) t280_4 rfl ?_
          obtain ⟨w98v, w98e⟩ : ∃ v, -f = v := ⟨_, rfl⟩
          have w98 : w98v.toInt = -f.toInt := by rw [← w98e]; exact zneg rfl (by omega)
          refine zs_ineg (pc := 5) t280_5 (c := w98v) w98e ?_
          refine zs_goto (pc := 6) t280_6 ?_
          refine zs_iret (pc := 10) t280_10 mr280 rfl ?_
          show zGo X l 1 0 0 279 39 [(0, .int a), (1, .int b), (2, .int c), (3, .int d), (4, .int e), (5, .int f), (6, .int g), (7, .int h)] [.int w98v, .int b] M _
          by_cases w99 : (-f.toInt) ≤ b.toInt
          · refine zs_icmp_geT (pc := 39) t279_39 rfl w98 (by omega) ?_
            refine zs_iconst (pc := 46) t279_46 (v := 0) (by decide) ?_
            have w100 : (0 : Int32).toInt = 0 := li0
            exact zs_iret (pc := 47) t279_47 mr279 (by decide) (hQ _ (Or.inr ⟨by decide, by unfold zah; omega⟩) (by decide) (by decide))
          · refine zs_icmp_geF (pc := 39) t279_39 rfl w98 (by omega) ?_
            refine zs_iconst (pc := 42) t279_42 (v := 1) (by decide) ?_
            refine zs_goto (pc := 43) t279_43 ?_
            have w101 : (1 : Int32).toInt = 1 := li1
            exact zs_iret (pc := 47) t279_47 mr279 (by decide) (hQ _ (Or.inl ⟨by decide, by unfold zah; omega⟩) (by decide) (by decide))
    · refine zs_if_geF (pc := 1) t280_1 rfl (by omega) ?_
      refine zs_iload_n (pc := 4) t280_4 rfl ?_
      obtain ⟨w102v, w102e⟩ : ∃ v, -b = v := ⟨_, rfl⟩
      have w102 : w102v.toInt = -b.toInt := by rw [← w102e]; exact zneg rfl (by omega)
      refine zs_ineg (pc := 5) t280_5 (c := w102v) w102e ?_
      refine zs_goto (pc := 6) t280_6 ?_
      refine zs_iret (pc := 10) t280_10 mr280 rfl ?_
      show zGo X l 1 0 0 279 22 [(0, .int a), (1, .int b), (2, .int c), (3, .int d), (4, .int e), (5, .int f), (6, .int g), (7, .int h)] [.int w102v] M _
      refine zs_iload (pc := 22) t279_22 rfl ?_
      refine zs_invS (pc := 24) (as := [.int f]) (st := [.int w102v]) t279_24 (by decide) mf280 rfl rfl ⟨by decide, by decide, Nat.le_of_ble_eq_true rfl, Nat.le_of_ble_eq_true rfl⟩ (zs_in (by decide) mf280 (Nat.le_of_ble_eq_true rfl) ?_) (fun _ _ q => q)
      show zGo X l 0 0 0 280 0 [(0, .int f)] [] M _
      refine zs_iload_n (pc := 0) t280_0 rfl ?_
      by_cases w103 : 0 ≤ f.toInt
      · refine zs_if_geT (pc := 1) t280_1 rfl (by omega) ?_
        refine zs_iload_n (pc := 9) t280_9 rfl ?_
        refine zs_iret (pc := 10) t280_10 mr280 rfl ?_
        show zGo X l 1 0 0 279 27 [(0, .int a), (1, .int b), (2, .int c), (3, .int d), (4, .int e), (5, .int f), (6, .int g), (7, .int h)] [.int f, .int w102v] M _
        by_cases w104 : (-b.toInt) = f.toInt
        · refine zs_icmp_eqT (pc := 27) t279_27 w102 rfl (by omega) ?_
          refine zs_iload_n (pc := 48) t279_48 rfl ?_
          refine zs_invS (pc := 49) (as := [.int c]) (st := []) t279_49 (by decide) mf280 rfl rfl ⟨by decide, by decide, Nat.le_of_ble_eq_true rfl, Nat.le_of_ble_eq_true rfl⟩ (zs_in (by decide) mf280 (Nat.le_of_ble_eq_true rfl) ?_) (fun _ _ q => q)
          show zGo X l 0 0 0 280 0 [(0, .int c)] [] M _
          refine zs_iload_n (pc := 0) t280_0 rfl ?_
          by_cases w105 : 0 ≤ c.toInt
          · refine zs_if_geT (pc := 1) t280_1 rfl (by omega) ?_
            refine zs_iload_n (pc := 9) t280_9 rfl ?_
            refine zs_iret (pc := 10) t280_10 mr280 rfl ?_
            show zGo X l 1 0 0 279 52 [(0, .int a), (1, .int b), (2, .int c), (3, .int d), (4, .int e), (5, .int f), (6, .int g), (7, .int h)] [.int c] M _
            refine zs_iload (pc := 52) t279_52 rfl ?_
            refine zs_invS (pc := 54) (as := [.int g]) (st := [.int c]) t279_54 (by decide) mf280 rfl rfl ⟨by decide, by decide, Nat.le_of_ble_eq_true rfl, Nat.le_of_ble_eq_true rfl⟩ (zs_in (by decide) mf280 (Nat.le_of_ble_eq_true rfl) ?_) (fun _ _ q => q)
            show zGo X l 0 0 0 280 0 [(0, .int g)] [] M _
            refine zs_iload_n (pc := 0) t280_0 rfl ?_
            by_cases w106 : 0 ≤ g.toInt
            · refine zs_if_geT (pc := 1) t280_1 rfl (by omega) ?_
              refine zs_iload_n (pc := 9) t280_9 rfl ?_
              refine zs_iret (pc := 10) t280_10 mr280 rfl ?_
              show zGo X l 1 0 0 279 57 [(0, .int a), (1, .int b), (2, .int c), (3, .int d), (4, .int e), (5, .int f), (6, .int g), (7, .int h)] [.int g, .int c] M _
              by_cases w107 : c.toInt = g.toInt
              · refine zs_icmp_eqT (pc := 57) t279_57 rfl rfl (by omega) ?_
                refine zs_iload_n (pc := 78) t279_78 rfl ?_
                refine zs_iload (pc := 79) t279_79 rfl ?_
                refine zs_icmp_eqF (pc := 81) t279_81 rfl rfl (by omega) ?_
                refine zs_iload_n (pc := 84) t279_84 rfl ?_
                refine zs_iload (pc := 85) t279_85 rfl ?_
                refine zs_icmp_geF (pc := 87) t279_87 rfl rfl (by omega) ?_
                refine zs_iconst (pc := 90) t279_90 (v := 1) (by decide) ?_
                refine zs_goto (pc := 91) t279_91 ?_
                have w108 : (1 : Int32).toInt = 1 := li1
                exact zs_iret (pc := 95) t279_95 mr279 (by decide) (hQ _ (Or.inl ⟨by decide, by unfold zah; omega⟩) (by decide) (by decide))
              · refine zs_icmp_eqF (pc := 57) t279_57 rfl rfl (by omega) ?_
                refine zs_iload_n (pc := 60) t279_60 rfl ?_
                refine zs_invS (pc := 61) (as := [.int c]) (st := []) t279_61 (by decide) mf280 rfl rfl ⟨by decide, by decide, Nat.le_of_ble_eq_true rfl, Nat.le_of_ble_eq_true rfl⟩ (zs_in (by decide) mf280 (Nat.le_of_ble_eq_true rfl) ?_) (fun _ _ q => q)
                show zGo X l 0 0 0 280 0 [(0, .int c)] [] M _
                refine zs_iload_n (pc := 0) t280_0 rfl ?_
                refine zs_if_geT (pc := 1) t280_1 rfl (by omega) ?_
                refine zs_iload_n (pc := 9) t280_9 rfl ?_
                refine zs_iret (pc := 10) t280_10 mr280 rfl ?_
                show zGo X l 1 0 0 279 64 [(0, .int a), (1, .int b), (2, .int c), (3, .int d), (4, .int e), (5, .int f), (6, .int g), (7, .int h)] [.int c] M _
                refine zs_iload (pc := 64) t279_64 rfl ?_
                refine zs_invS (pc := 66) (as := [.int g]) (st := [.int c]) t279_66 (by decide) mf280 rfl rfl ⟨by decide, by decide, Nat.le_of_ble_eq_true rfl, Nat.le_of_ble_eq_true rfl⟩ (zs_in (by decide) mf280 (Nat.le_of_ble_eq_true rfl) ?_) (fun _ _ q => q)
                show zGo X l 0 0 0 280 0 [(0, .int g)] [] M _
                refine zs_iload_n (pc := 0) t280_0 rfl ?_
                refine zs_if_geT (pc := 1) t280_1 rfl (by omega) ?_
                refine zs_iload_n (pc := 9) t280_9 rfl ?_
                refine zs_iret (pc := 10) t280_10 mr280 rfl ?_
                show zGo X l 1 0 0 279 69 [(0, .int a), (1, .int b), (2, .int c), (3, .int d), (4, .int e), (5, .int f), (6, .int g), (7, .int h)] [.int g, .int c] M _
                by_cases w109 : g.toInt ≤ c.toInt
                · refine zs_icmp_geT (pc := 69) t279_69 rfl rfl (by omega) ?_
                  refine zs_iconst (pc := 76) t279_76 (v := 0) (by decide) ?_
                  have w110 : (0 : Int32).toInt = 0 := li0
                  exact zs_iret (pc := 77) t279_77 mr279 (by decide) (hQ _ (Or.inr ⟨by decide, by unfold zah; omega⟩) (by decide) (by decide))
                · refine zs_icmp_geF (pc := 69) t279_69 rfl rfl (by omega) ?_
                  refine zs_iconst (pc := 72) t279_72 (v := 1) (by decide) ?_
                  refine zs_goto (pc := 73) t279_73 ?_
                  have w111 : (1 : Int32).toInt = 1 := li1
                  exact zs_iret (pc := 77) t279_77 mr279 (by decide) (hQ _ (Or.inl ⟨by decide, by unfold zah; omega⟩) (by decide) (by decide))
            · refine zs_if_geF (pc := 1) t280_1 rfl (by omega) ?_
              refine zs_iload_n (pc := 4) t280_4 rfl ?_
              obtain ⟨w112v, w112e⟩ : ∃ v, -g = v := ⟨_, rfl⟩
              have w112 : w112v.toInt = -g.toInt := by rw [← w112e]; exact zneg rfl (by omega)
              refine zs_ineg (pc := 5) t280_5 (c := w112v) w112e ?_
              refine zs_goto (pc := 6) t280_6 ?_
              refine zs_iret (pc := 10) t280_10 mr280 rfl ?_
              show zGo X l 1 0 0 279 57 [(0, .int a), (1, .int b), (2, .int c), (3, .int d), (4, .int e), (5, .int f), (6, .int g), (7, .int h)] [.int w112v, .int c] M _
              by_cases w113 : c.toInt = (-g.toInt)
              · refine zs_icmp_eqT (pc := 57) t279_57 rfl w112 (by omega) ?_
                refine zs_iload_n (pc := 78) t279_78 rfl ?_
                refine zs_iload (pc := 79) t279_79 rfl ?_
                refine zs_icmp_eqF (pc := 81) t279_81 rfl rfl (by omega) ?_
                refine zs_iload_n (pc := 84) t279_84 rfl ?_
                refine zs_iload (pc := 85) t279_85 rfl ?_
                refine zs_icmp_geF (pc := 87) t279_87 rfl rfl (by omega) ?_
                refine zs_iconst (pc := 90) t279_90 (v := 1) (by decide) ?_
                refine zs_goto (pc := 91) t279_91 ?_
                have w114 : (1 : Int32).toInt = 1 := li1
                exact zs_iret (pc := 95) t279_95 mr279 (by decide) (hQ _ (Or.inl ⟨by decide, by unfold zah; omega⟩) (by decide) (by decide))
              · refine zs_icmp_eqF (pc := 57) t279_57 rfl w112 (by omega) ?_
                refine zs_iload_n (pc := 60) t279_60 rfl ?_
                refine zs_invS (pc := 61) (as := [.int c]) (st := []) t279_61 (by decide) mf280 rfl rfl ⟨by decide, by decide, Nat.le_of_ble_eq_true rfl, Nat.le_of_ble_eq_true rfl⟩ (zs_in (by decide) mf280 (Nat.le_of_ble_eq_true rfl) ?_) (fun _ _ q => q)
                show zGo X l 0 0 0 280 0 [(0, .int c)] [] M _
                refine zs_iload_n (pc := 0) t280_0 rfl ?_
                refine zs_if_geT (pc := 1) t280_1 rfl (by omega) ?_
                refine zs_iload_n (pc := 9) t280_9 rfl ?_
                refine zs_iret (pc := 10) t280_10 mr280 rfl ?_
                show zGo X l 1 0 0 279 64 [(0, .int a), (1, .int b), (2, .int c), (3, .int d), (4, .int e), (5, .int f), (6, .int g), (7, .int h)] [.int c] M _
                refine zs_iload (pc := 64) t279_64 rfl ?_
                refine zs_invS (pc := 66) (as := [.int g]) (st := [.int c]) t279_66 (by decide) mf280 rfl rfl ⟨by decide, by decide, Nat.le_of_ble_eq_true rfl, Nat.le_of_ble_eq_true rfl⟩ (zs_in (by decide) mf280 (Nat.le_of_ble_eq_true rfl) ?_) (fun _ _ q => q)
                show zGo X l 0 0 0 280 0 [(0, .int g)] [] M _
                refine zs_iload_n (pc := 0) t280_0 rfl ?_
                refine zs_if_geF (pc := 1) t280_1 rfl (by omega) ?_
                refine zs_iload_n (pc := 4) t280_4 rfl ?_
                obtain ⟨w115v, w115e⟩ : ∃ v, -g = v := ⟨_, rfl⟩
                have w115 : w115v.toInt = -g.toInt := by rw [← w115e]; exact zneg rfl (by omega)
                refine zs_ineg (pc := 5) t280_5 (c := w115v) w115e ?_
                refine zs_goto (pc := 6) t280_6 ?_
                refine zs_iret (pc := 10) t280_10 mr280 rfl ?_
                show zGo X l 1 0 0 279 69 [(0, .int a), (1, .int b), (2, .int c), (3, .int d), (4, .int e), (5, .int f), (6, .int g), (7, .int h)] [.int w115v, .int c] M _
                by_cases w116 : (-g.toInt) ≤ c.toInt
                · refine zs_icmp_geT (pc := 69) t279_69 rfl w115 (by omega) ?_
                  refine zs_iconst (pc := 76) t279_76 (v := 0) (by decide) ?_
                  have w117 : (0 : Int32).toInt = 0 := li0
                  exact zs_iret (pc := 77) t279_77 mr279 (by decide) (hQ _ (Or.inr ⟨by decide, by unfold zah; omega⟩) (by decide) (by decide))
                · refine zs_icmp_geF (pc := 69) t279_69 rfl w115 (by omega) ?_
                  refine zs_iconst (pc := 72) t279_72 (v := 1) (by decide) ?_
                  refine zs_goto (pc := 73) t279_73 ?_
                  have w118 : (1 : Int32).toInt = 1 := li1
                  exact zs_iret (pc := 77) t279_77 mr279 (by decide) (hQ _ (Or.inl ⟨by decide, by unfold zah; omega⟩) (by decide) (by decide))
          · refine zs_if_geF (pc := 1) t280_1 rfl (by omega) ?_
            refine zs_iload_n (pc := 4) t280_4 rfl ?_
            obtain ⟨w119v, w119e⟩ : ∃ v, -c = v := ⟨_, rfl⟩
            have w119 : w119v.toInt = -c.toInt := by rw [← w119e]; exact zneg rfl (by omega)
            refine zs_ineg (pc := 5) t280_5 (c := w119v) w119e ?_
            refine zs_goto (pc := 6) t280_6 ?_
            refine zs_iret (pc := 10) t280_10 mr280 rfl ?_
            show zGo X l 1 0 0 279 52 [(0, .int a), (1, .int b), (2, .int c), (3, .int d), (4, .int e), (5, .int f), (6, .int g), (7, .int h)] [.int w119v] M _
            refine zs_iload (pc := 52) t279_52 rfl ?_
            refine zs_invS (pc := 54) (as := [.int g]) (st := [.int w119v]) t279_54 (by decide) mf280 rfl rfl ⟨by decide, by decide, Nat.le_of_ble_eq_true rfl, Nat.le_of_ble_eq_true rfl⟩ (zs_in (by decide) mf280 (Nat.le_of_ble_eq_true rfl) ?_) (fun _ _ q => q)
            show zGo X l 0 0 0 280 0 [(0, .int g)] [] M _
            refine zs_iload_n (pc := 0) t280_0 rfl ?_
            by_cases w120 : 0 ≤ g.toInt
            · refine zs_if_geT (pc := 1) t280_1 rfl (by omega) ?_
              refine zs_iload_n (pc := 9) t280_9 rfl ?_
              refine zs_iret (pc := 10) t280_10 mr280 rfl ?_
              show zGo X l 1 0 0 279 57 [(0, .int a), (1, .int b), (2, .int c), (3, .int d), (4, .int e), (5, .int f), (6, .int g), (7, .int h)] [.int g, .int w119v] M _
              by_cases w121 : (-c.toInt) = g.toInt
              · refine zs_icmp_eqT (pc := 57) t279_57 w119 rfl (by omega) ?_
                refine zs_iload_n (pc := 78) t279_78 rfl ?_
                refine zs_iload (pc := 79) t279_79 rfl ?_
                refine zs_icmp_eqF (pc := 81) t279_81 rfl rfl (by omega) ?_
                refine zs_iload_n (pc := 84) t279_84 rfl ?_
                refine zs_iload (pc := 85) t279_85 rfl ?_
                refine zs_icmp_geF (pc := 87) t279_87 rfl rfl (by omega) ?_
                refine zs_iconst (pc := 90) t279_90 (v := 1) (by decide) ?_
                refine zs_goto (pc := 91) t279_91 ?_
                have w122 : (1 : Int32).toInt = 1 := li1
                exact zs_iret (pc := 95) t279_95 mr279 (by decide) (hQ _ (Or.inl ⟨by decide, by unfold zah; omega⟩) (by decide) (by decide))
              · refine zs_icmp_eqF (pc := 57) t279_57 w119 rfl (by omega) ?_
                refine zs_iload_n (pc := 60) t279_60 rfl ?_
                refine zs_invS (pc := 61) (as := [.int c]) (st := []) t279_61 (by decide) mf280 rfl rfl ⟨by decide, by decide, Nat.le_of_ble_eq_true rfl, Nat.le_of_ble_eq_true rfl⟩ (zs_in (by decide) mf280 (Nat.le_of_ble_eq_true rfl) ?_) (fun _ _ q => q)
                show zGo X l 0 0 0 280 0 [(0, .int c)] [] M _
                refine zs_iload_n (pc := 0) t280_0 rfl ?_
                refine zs_if_geF (pc := 1) t280_1 rfl (by omega) ?_
                refine zs_iload_n (pc := 4) t280_4 rfl ?_
                obtain ⟨w123v, w123e⟩ : ∃ v, -c = v := ⟨_, rfl⟩
                have w123 : w123v.toInt = -c.toInt := by rw [← w123e]; exact zneg rfl (by omega)
                refine zs_ineg (pc := 5) t280_5 (c := w123v) w123e ?_
                refine zs_goto (pc := 6) t280_6 ?_
                refine zs_iret (pc := 10) t280_10 mr280 rfl ?_
                show zGo X l 1 0 0 279 64 [(0, .int a), (1, .int b), (2, .int c), (3, .int d), (4, .int e), (5, .int f), (6, .int g), (7, .int h)] [.int w123v] M _
                refine zs_iload (pc := 64) t279_64 rfl ?_
                refine zs_invS (pc := 66) (as := [.int g]) (st := [.int w123v]) t279_66 (by decide) mf280 rfl rfl ⟨by decide, by decide, Nat.le_of_ble_eq_true rfl, Nat.le_of_ble_eq_true rfl⟩ (zs_in (by decide) mf280 (Nat.le_of_ble_eq_true rfl) ?_) (fun _ _ q => q)
                show zGo X l 0 0 0 280 0 [(0, .int g)] [] M _
                refine zs_iload_n (pc := 0) t280_0 rfl ?_
                refine zs_if_geT (pc := 1) t280_1 rfl (by omega) ?_
                refine zs_iload_n (pc := 9) t280_9 rfl ?_
                refine zs_iret (pc := 10) t280_10 mr280 rfl ?_
                show zGo X l 1 0 0 279 69 [(0, .int a), (1, .int b), (2, .int c), (3, .int d), (4, .int e), (5, .int f), (6, .int g), (7, .int h)] [.int g, .int w123v] M _
                by_cases w124 : g.toInt ≤ (-c.toInt)
                · refine zs_icmp_geT (pc := 69) t279_69 w123 rfl (by omega) ?_
                  refine zs_iconst (pc := 76) t279_76 (v := 0) (by decide) ?_
                  have w125 : (0 : Int32).toInt = 0 := li0
                  exact zs_iret (pc := 77) t279_77 mr279 (by decide) (hQ _ (Or.inr ⟨by decide, by unfold zah; omega⟩) (by decide) (by decide))
                · refine zs_icmp_geF (pc := 69) t279_69 w123 rfl (by omega) ?_
                  refine zs_iconst (pc := 72) t279_72 (v := 1) (by decide) ?_
                  refine zs_goto (pc := 73) t279_73 ?_
                  have w126 : (1 : Int32).toInt = 1 := li1
                  exact zs_iret (pc := 77) t279_77 mr279 (by decide) (hQ _ (Or.inl ⟨by decide, by unfold zah; omega⟩) (by decide) (by decide))
            · refine zs_if_geF (pc := 1) t280_1 rfl (by omega) ?_
              refine zs_iload_n (pc := 4) t280_4 rfl ?_
              obtain ⟨w127v, w127e⟩ : ∃ v, -g = v := ⟨_, rfl⟩
              have w127 : w127v.toInt = -g.toInt := by rw [← w127e]; exact zneg rfl (by omega)
              refine zs_ineg (pc := 5) t280_5 (c := w127v) w127e ?_
              refine zs_goto (pc := 6) t280_6 ?_
              refine zs_iret (pc := 10) t280_10 mr280 rfl ?_
              show zGo X l 1 0 0 279 57 [(0, .int a), (1, .int b), (2, .int c), (3, .int d), (4, .int e), (5, .int f), (6, .int g), (7, .int h)] [.int w127v, .int w119v] M _
              by_cases w128 : (-c.toInt) = (-g.toInt)
              · refine zs_icmp_eqT (pc := 57) t279_57 w119 w127 (by omega) ?_
                refine zs_iload_n (pc := 78) t279_78 rfl ?_
                refine zs_iload (pc := 79) t279_79 rfl ?_
                refine zs_icmp_eqF (pc := 81) t279_81 rfl rfl (by omega) ?_
                refine zs_iload_n (pc := 84) t279_84 rfl ?_
                refine zs_iload (pc := 85) t279_85 rfl ?_
                refine zs_icmp_geF (pc := 87) t279_87 rfl rfl (by omega) ?_
                refine zs_iconst (pc := 90) t279_90 (v := 1) (by decide) ?_
                refine zs_goto (pc := 91) t279_91 ?_
                have w129 : (1 : Int32).toInt = 1 := li1
                exact zs_iret (pc := 95) t279_95 mr279 (by decide) (hQ _ (Or.inl ⟨by decide, by unfold zah; omega⟩) (by decide) (by decide))
              · refine zs_icmp_eqF (pc := 57) t279_57 w119 w127 (by omega) ?_
                refine zs_iload_n (pc := 60) t279_60 rfl ?_
                refine zs_invS (pc := 61) (as := [.int c]) (st := []) t279_61 (by decide) mf280 rfl rfl ⟨by decide, by decide, Nat.le_of_ble_eq_true rfl, Nat.le_of_ble_eq_true rfl⟩ (zs_in (by decide) mf280 (Nat.le_of_ble_eq_true rfl) ?_) (fun _ _ q => q)
                show zGo X l 0 0 0 280 0 [(0, .int c)] [] M _
                refine zs_iload_n (pc := 0) t280_0 rfl ?_
                refine zs_if_geF (pc := 1) t280_1 rfl (by omega) ?_
                refine zs_iload_n (pc := 4) t280_4 rfl ?_
                obtain ⟨w130v, w130e⟩ : ∃ v, -c = v := ⟨_, rfl⟩
                have w130 : w130v.toInt = -c.toInt := by rw [← w130e]; exact zneg rfl (by omega)
                refine zs_ineg (pc := 5) t280_5 (c := w130v) w130e ?_
                refine zs_goto (pc := 6) t280_6 ?_
                refine zs_iret (pc := 10) t280_10 mr280 rfl ?_
                show zGo X l 1 0 0 279 64 [(0, .int a), (1, .int b), (2, .int c), (3, .int d), (4, .int e), (5, .int f), (6, .int g), (7, .int h)] [.int w130v] M _
                refine zs_iload (pc := 64) t279_64 rfl ?_
                refine zs_invS (pc := 66) (as := [.int g]) (st := [.int w130v]) t279_66 (by decide) mf280 rfl rfl ⟨by decide, by decide, Nat.le_of_ble_eq_true rfl, Nat.le_of_ble_eq_true rfl⟩ (zs_in (by decide) mf280 (Nat.le_of_ble_eq_true rfl) ?_) (fun _ _ q => q)
                show zGo X l 0 0 0 280 0 [(0, .int g)] [] M _
                refine zs_iload_n (pc := 0) t280_0 rfl ?_
                refine zs_if_geF (pc := 1) t280_1 rfl (by omega) ?_
                refine zs_iload_n (pc := 4) t280_4 rfl ?_
                obtain ⟨w131v, w131e⟩ : ∃ v, -g = v := ⟨_, rfl⟩
                have w131 : w131v.toInt = -g.toInt := by rw [← w131e]; exact zneg rfl (by omega)
                refine zs_ineg (pc := 5) t280_5 (c := w131v) w131e ?_
                refine zs_goto (pc := 6) t280_6 ?_
                refine zs_iret (pc := 10) t280_10 mr280 rfl ?_
                show zGo X l 1 0 0 279 69 [(0, .int a), (1, .int b), (2, .int c), (3, .int d), (4, .int e), (5, .int f), (6, .int g), (7, .int h)] [.int w131v, .int w130v] M _
                by_cases w132 : (-g.toInt) ≤ (-c.toInt)
                · refine zs_icmp_geT (pc := 69) t279_69 w130 w131 (by omega) ?_
                  refine zs_iconst (pc := 76) t279_76 (v := 0) (by decide) ?_
                  have w133 : (0 : Int32).toInt = 0 := li0
                  exact zs_iret (pc := 77) t279_77 mr279 (by decide) (hQ _ (Or.inr ⟨by decide, by unfold zah; omega⟩) (by decide) (by decide))
                · refine zs_icmp_geF (pc := 69) t279_69 w130 w131 (by omega) ?_
                  refine zs_iconst (pc := 72) t279_72 (v := 1) (by decide) ?_
                  refine zs_goto (pc := 73) t279_73 ?_
                  have w134 : (1 : Int32).toInt = 1 := li1
                  exact zs_iret (pc := 77) t279_77 mr279 (by decide) (hQ _ (Or.inl ⟨by decide, by unfold zah; omega⟩) (by decide) (by decide))
        · refine zs_icmp_eqF (pc := 27) t279_27 w102 rfl (by omega) ?_
          refine zs_iload_n (pc := 30) t279_30 rfl ?_
          refine zs_invS (pc := 31) (as := [.int b]) (st := []) t279_31 (by decide) mf280 rfl rfl ⟨by decide, by decide, Nat.le_of_ble_eq_true rfl, Nat.le_of_ble_eq_true rfl⟩ (zs_in (by decide) mf280 (Nat.le_of_ble_eq_true rfl) ?_) (fun _ _ q => q)
          show zGo X l 0 0 0 280 0 [(0, .int b)] [] M _
          refine zs_iload_n (pc := 0) t280_0 rfl ?_
          refine zs_if_geF (pc := 1) t280_1 rfl (by omega) ?_
          refine zs_iload_n (pc := 4) t280_4 rfl ?_
          obtain ⟨w135v, w135e⟩ : ∃ v, -b = v := ⟨_, rfl⟩
          have w135 : w135v.toInt = -b.toInt := by rw [← w135e]; exact zneg rfl (by omega)
          refine zs_ineg (pc := 5) t280_5 (c := w135v) w135e ?_
          refine zs_goto (pc := 6) t280_6 ?_
          refine zs_iret (pc := 10) t280_10 mr280 rfl ?_
          show zGo X l 1 0 0 279 34 [(0, .int a), (1, .int b), (2, .int c), (3, .int d), (4, .int e), (5, .int f), (6, .int g), (7, .int h)] [.int w135v] M _
          refine zs_iload (pc := 34) t279_34 rfl ?_
          refine zs_invS (pc := 36) (as := [.int f]) (st := [.int w135v]) t279_36 (by decide) mf280 rfl rfl ⟨by decide, by decide, Nat.le_of_ble_eq_true rfl, Nat.le_of_ble_eq_true rfl⟩ (zs_in (by decide) mf280 (Nat.le_of_ble_eq_true rfl) ?_) (fun _ _ q => q)
          show zGo X l 0 0 0 280 0 [(0, .int f)] [] M _
          refine zs_iload_n (pc := 0) t280_0 rfl ?_
          refine zs_if_geT (pc := 1) t280_1 rfl (by omega) ?_
          refine zs_iload_n (pc := 9) t280_9 rfl ?_
          refine zs_iret (pc := 10) t280_10 mr280 rfl ?_
          show zGo X l 1 0 0 279 39 [(0, .int a), (1, .int b), (2, .int c), (3, .int d), (4, .int e), (5, .int f), (6, .int g), (7, .int h)] [.int f, .int w135v] M _
          by_cases w136 : f.toInt ≤ (-b.toInt)
          · refine zs_icmp_geT (pc := 39) t279_39 w135 rfl (by omega) ?_
            refine zs_iconst (pc := 46) t279_46 (v := 0) (by decide) ?_
            have w137 : (0 : Int32).toInt = 0 := li0
            exact zs_iret (pc := 47) t279_47 mr279 (by decide) (hQ _ (Or.inr ⟨by decide, by unfold zah; omega⟩) (by decide) (by decide))
          · refine zs_icmp_geF (pc := 39) t279_39 w135 rfl (by omega) ?_
            refine zs_iconst (pc := 42) t279_42 (v := 1) (by decide) ?_
            refine zs_goto (pc := 43) t279_43 ?_
            have w138 : (1 : Int32).toInt = 1 := li1
            exact zs_iret (pc := 47) t279_47 mr279 (by decide) (hQ _ (Or.inl ⟨by decide, by unfold zah; omega⟩) (by decide) (by decide))
      · refine zs_if_geF (pc := 1) t280_1 rfl (by omega) ?_
        refine zs_iload_n (pc := 4) t280_4 rfl ?_
        obtain ⟨w139v, w139e⟩ : ∃ v, -f = v := ⟨_, rfl⟩
        have w139 : w139v.toInt = -f.toInt := by rw [← w139e]; exact zneg rfl (by omega)
        refine zs_ineg (pc := 5) t280_5 (c := w139v) w139e ?_
        refine zs_goto (pc := 6) t280_6 ?_
        refine zs_iret (pc := 10) t280_10 mr280 rfl ?_
        show zGo X l 1 0 0 279 27 [(0, .int a), (1, .int b), (2, .int c), (3, .int d), (4, .int e), (5, .int f), (6, .int g), (7, .int h)] [.int w139v, .int w102v] M _
        by_cases w140 : (-b.toInt) = (-f.toInt)
        · refine zs_icmp_eqT (pc := 27) t279_27 w102 w139 (by omega) ?_
          refine zs_iload_n (pc := 48) t279_48 rfl ?_
          refine zs_invS (pc := 49) (as := [.int c]) (st := []) t279_49 (by decide) mf280 rfl rfl ⟨by decide, by decide, Nat.le_of_ble_eq_true rfl, Nat.le_of_ble_eq_true rfl⟩ (zs_in (by decide) mf280 (Nat.le_of_ble_eq_true rfl) ?_) (fun _ _ q => q)
          show zGo X l 0 0 0 280 0 [(0, .int c)] [] M _
          refine zs_iload_n (pc := 0) t280_0 rfl ?_
          by_cases w141 : 0 ≤ c.toInt
          · refine zs_if_geT (pc := 1) t280_1 rfl (by omega) ?_
            refine zs_iload_n (pc := 9) t280_9 rfl ?_
            refine zs_iret (pc := 10) t280_10 mr280 rfl ?_
            show zGo X l 1 0 0 279 52 [(0, .int a), (1, .int b), (2, .int c), (3, .int d), (4, .int e), (5, .int f), (6, .int g), (7, .int h)] [.int c] M _
            refine zs_iload (pc := 52) t279_52 rfl ?_
            refine zs_invS (pc := 54) (as := [.int g]) (st := [.int c]) t279_54 (by decide) mf280 rfl rfl ⟨by decide, by decide, Nat.le_of_ble_eq_true rfl, Nat.le_of_ble_eq_true rfl⟩ (zs_in (by decide) mf280 (Nat.le_of_ble_eq_true rfl) ?_) (fun _ _ q => q)
            show zGo X l 0 0 0 280 0 [(0, .int g)] [] M _
            refine zs_iload_n (pc := 0) t280_0 rfl ?_
            by_cases w142 : 0 ≤ g.toInt
            · refine zs_if_geT (pc := 1) t280_1 rfl (by omega) ?_
              refine zs_iload_n (pc := 9) t280_9 rfl ?_
              refine zs_iret (pc := 10) t280_10 mr280 rfl ?_
              show zGo X l 1 0 0 279 57 [(0, .int a), (1, .int b), (2, .int c), (3, .int d), (4, .int e), (5, .int f), (6, .int g), (7, .int h)] [.int g, .int c] M _
              by_cases w143 : c.toInt = g.toInt
              · refine zs_icmp_eqT (pc := 57) t279_57 rfl rfl (by omega) ?_
                refine zs_iload_n (pc := 78) t279_78 rfl ?_
                refine zs_iload (pc := 79) t279_79 rfl ?_
                by_cases w144 : b.toInt = f.toInt
                · refine zs_icmp_eqT (pc := 81) t279_81 rfl rfl (by omega) ?_
                  refine zs_iload_n (pc := 96) t279_96 rfl ?_
                  refine zs_iload (pc := 97) t279_97 rfl ?_
                  by_cases w145 : c.toInt = g.toInt
                  · refine zs_icmp_eqT (pc := 99) t279_99 rfl rfl (by omega) ?_
                    refine zs_iload_n (pc := 116) t279_116 rfl ?_
                    refine zs_iload (pc := 117) t279_117 rfl ?_
                    by_cases w146 : h.toInt ≤ d.toInt
                    · refine zs_icmp_geT (pc := 119) t279_119 rfl rfl (by omega) ?_
                      refine zs_iconst (pc := 126) t279_126 (v := 0) (by decide) ?_
                      have w147 : (0 : Int32).toInt = 0 := li0
                      exact zs_iret (pc := 127) t279_127 mr279 (by decide) (hQ _ (Or.inr ⟨by decide, by unfold zah; omega⟩) (by decide) (by decide))
                    · refine zs_icmp_geF (pc := 119) t279_119 rfl rfl (by omega) ?_
                      refine zs_iconst (pc := 122) t279_122 (v := 1) (by decide) ?_
                      refine zs_goto (pc := 123) t279_123 ?_
                      have w148 : (1 : Int32).toInt = 1 := li1
                      exact zs_iret (pc := 127) t279_127 mr279 (by decide) (hQ _ (Or.inl ⟨by decide, by unfold zah; omega⟩) (by decide) (by decide))
                  · refine zs_icmp_eqF (pc := 99) t279_99 rfl rfl (by omega) ?_
                    refine zs_iload_n (pc := 102) t279_102 rfl ?_
                    refine zs_iload (pc := 103) t279_103 rfl ?_
                    by_cases w149 : g.toInt ≤ c.toInt
                    · refine zs_icmp_geT (pc := 105) t279_105 rfl rfl (by omega) ?_
                      refine zs_iconst (pc := 112) t279_112 (v := 0) (by decide) ?_
                      refine zs_goto (pc := 113) t279_113 ?_
                      have w150 : (0 : Int32).toInt = 0 := li0
                      exact zs_iret (pc := 127) t279_127 mr279 (by decide) (hQ _ (Or.inr ⟨by decide, by unfold zah; omega⟩) (by decide) (by decide))
                    · refine zs_icmp_geF (pc := 105) t279_105 rfl rfl (by omega) ?_
                      refine zs_iconst (pc := 108) t279_108 (v := 1) (by decide) ?_
                      refine zs_goto (pc := 109) t279_109 ?_
                      have w151 : (1 : Int32).toInt = 1 := li1
                      exact zs_iret (pc := 127) t279_127 mr279 (by decide) (hQ _ (Or.inl ⟨by decide, by unfold zah; omega⟩) (by decide) (by decide))
                · refine zs_icmp_eqF (pc := 81) t279_81 rfl rfl (by omega) ?_
                  refine zs_iload_n (pc := 84) t279_84 rfl ?_
                  refine zs_iload (pc := 85) t279_85 rfl ?_
                  by_cases w152 : f.toInt ≤ b.toInt
                  · refine zs_icmp_geT (pc := 87) t279_87 rfl rfl (by omega) ?_
                    refine zs_iconst (pc := 94) t279_94 (v := 0) (by decide) ?_
                    have w153 : (0 : Int32).toInt = 0 := li0
                    exact zs_iret (pc := 95) t279_95 mr279 (by decide) (hQ _ (Or.inr ⟨by decide, by unfold zah; omega⟩) (by decide) (by decide))
                  · refine zs_icmp_geF (pc := 87) t279_87 rfl rfl (by omega) ?_
                    refine zs_iconst (pc := 90) t279_90 (v := 1) (by decide) ?_
                    refine zs_goto (pc := 91) t279_91 ?_
                    have w154 : (1 : Int32).toInt = 1 := li1
                    exact zs_iret (pc := 95) t279_95 mr279 (by decide) (hQ _ (Or.inl ⟨by decide, by unfold zah; omega⟩) (by decide) (by decide))
              · refine zs_icmp_eqF (pc := 57) t279_57 rfl rfl (by omega) ?_
                refine zs_iload_n (pc := 60) t279_60 rfl ?_
                refine zs_invS (pc := 61) (as := [.int c]) (st := []) t279_61 (by decide) mf280 rfl rfl ⟨by decide, by decide, Nat.le_of_ble_eq_true rfl, Nat.le_of_ble_eq_true rfl⟩ (zs_in (by decide) mf280 (Nat.le_of_ble_eq_true rfl) ?_) (fun _ _ q => q)
                show zGo X l 0 0 0 280 0 [(0, .int c)] [] M _
                refine zs_iload_n (pc := 0) t280_0 rfl ?_
                refine zs_if_geT (pc := 1) t280_1 rfl (by omega) ?_
                refine zs_iload_n (pc := 9) t280_9 rfl ?_
                refine zs_iret (pc := 10) t280_10 mr280 rfl ?_
                show zGo X l 1 0 0 279 64 [(0, .int a), (1, .int b), (2, .int c), (3, .int d), (4, .int e), (5, .int f), (6, .int g), (7, .int h)] [.int c] M _
                refine zs_iload (pc := 64) t279_64 rfl ?_
                refine zs_invS (pc := 66) (as := [.int g]) (st := [.int c]) t279_66 (by decide) mf280 rfl rfl ⟨by decide, by decide, Nat.le_of_ble_eq_true rfl, Nat.le_of_ble_eq_true rfl⟩ (zs_in (by decide) mf280 (Nat.le_of_ble_eq_true rfl) ?_) (fun _ _ q => q)
                show zGo X l 0 0 0 280 0 [(0, .int g)] [] M _
                refine zs_iload_n (pc := 0) t280_0 rfl ?_
                refine zs_if_geT (pc := 1) t280_1 rfl (by omega) ?_
                refine zs_iload_n (pc := 9) t280_9 rfl ?_
                refine zs_iret (pc := 10) t280_10 mr280 rfl ?_
                show zGo X l 1 0 0 279 69 [(0, .int a), (1, .int b), (2, .int c), (3, .int d), (4, .int e), (5, .int f), (6, .int g), (7, .int h)] [.int g, .int c] M _
                by_cases w155 : g.toInt ≤ c.toInt
                · refine zs_icmp_geT (pc := 69) t279_69 rfl rfl (by omega) ?_
                  refine zs_iconst (pc := 76) t279_76 (v := 0) (by decide) ?_
                  have w156 : (0 : Int32).toInt = 0 := li0
                  exact zs_iret (pc := 77) t279_77 mr279 (by decide) (hQ _ (Or.inr ⟨by decide, by unfold zah; omega⟩) (by decide) (by decide))
                · refine zs_icmp_geF (pc := 69) t279_69 rfl rfl (by omega) ?_
                  refine zs_iconst (pc := 72) t279_72 (v := 1) (by decide) ?_
                  refine zs_goto (pc := 73) t279_73 ?_
                  have w157 : (1 : Int32).toInt = 1 := li1
                  exact zs_iret (pc := 77) t279_77 mr279 (by decide) (hQ _ (Or.inl ⟨by decide, by unfold zah; omega⟩) (by decide) (by decide))
            · refine zs_if_geF (pc := 1) t280_1 rfl (by omega) ?_
              refine zs_iload_n (pc := 4) t280_4 rfl ?_
              obtain ⟨w158v, w158e⟩ : ∃ v, -g = v := ⟨_, rfl⟩
              have w158 : w158v.toInt = -g.toInt := by rw [← w158e]; exact zneg rfl (by omega)
              refine zs_ineg (pc := 5) t280_5 (c := w158v) w158e ?_
              refine zs_goto (pc := 6) t280_6 ?_
              refine zs_iret (pc := 10) t280_10 mr280 rfl ?_
              show zGo X l 1 0 0 279 57 [(0, .int a), (1, .int b), (2, .int c), (3, .int d), (4, .int e), (5, .int f), (6, .int g), (7, .int h)] [.int w158v, .int c] M _
              by_cases w159 : c.toInt = (-g.toInt)
              · refine zs_icmp_eqT (pc := 57) t279_57 rfl w158 (by omega) ?_
                refine zs_iload_n (pc := 78) t279_78 rfl ?_
                refine zs_iload (pc := 79) t279_79 rfl ?_
                by_cases w160 : b.toInt = f.toInt
                · refine zs_icmp_eqT (pc := 81) t279_81 rfl rfl (by omega) ?_
                  refine zs_iload_n (pc := 96) t279_96 rfl ?_
                  refine zs_iload (pc := 97) t279_97 rfl ?_
                  refine zs_icmp_eqF (pc := 99) t279_99 rfl rfl (by omega) ?_
                  refine zs_iload_n (pc := 102) t279_102 rfl ?_
                  refine zs_iload (pc := 103) t279_103 rfl ?_
                  refine zs_icmp_geT (pc := 105) t279_105 rfl rfl (by omega) ?_
                  refine zs_iconst (pc := 112) t279_112 (v := 0) (by decide) ?_
                  refine zs_goto (pc := 113) t279_113 ?_
                  have w161 : (0 : Int32).toInt = 0 := li0
                  exact zs_iret (pc := 127) t279_127 mr279 (by decide) (hQ _ (Or.inr ⟨by decide, by unfold zah; omega⟩) (by decide) (by decide))
                · refine zs_icmp_eqF (pc := 81) t279_81 rfl rfl (by omega) ?_
                  refine zs_iload_n (pc := 84) t279_84 rfl ?_
                  refine zs_iload (pc := 85) t279_85 rfl ?_
                  by_cases w162 : f.toInt ≤ b.toInt
                  · refine zs_icmp_geT (pc := 87) t279_87 rfl rfl (by omega) ?_
                    refine zs_iconst (pc := 94) t279_94 (v := 0) (by decide) ?_
                    have w163 : (0 : Int32).toInt = 0 := li0
                    exact zs_iret (pc := 95) t279_95 mr279 (by decide) (hQ _ (Or.inr ⟨by decide, by unfold zah; omega⟩) (by decide) (by decide))
                  · refine zs_icmp_geF (pc := 87) t279_87 rfl rfl (by omega) ?_
                    refine zs_iconst (pc := 90) t279_90 (v := 1) (by decide) ?_
                    refine zs_goto (pc := 91) t279_91 ?_
                    have w164 : (1 : Int32).toInt = 1 := li1
                    exact zs_iret (pc := 95) t279_95 mr279 (by decide) (hQ _ (Or.inl ⟨by decide, by unfold zah; omega⟩) (by decide) (by decide))
              · refine zs_icmp_eqF (pc := 57) t279_57 rfl w158 (by omega) ?_
                refine zs_iload_n (pc := 60) t279_60 rfl ?_
                refine zs_invS (pc := 61) (as := [.int c]) (st := []) t279_61 (by decide) mf280 rfl rfl ⟨by decide, by decide, Nat.le_of_ble_eq_true rfl, Nat.le_of_ble_eq_true rfl⟩ (zs_in (by decide) mf280 (Nat.le_of_ble_eq_true rfl) ?_) (fun _ _ q => q)
                show zGo X l 0 0 0 280 0 [(0, .int c)] [] M _
                refine zs_iload_n (pc := 0) t280_0 rfl ?_
                refine zs_if_geT (pc := 1) t280_1 rfl (by omega) ?_
                refine zs_iload_n (pc := 9) t280_9 rfl ?_
                refine zs_iret (pc := 10) t280_10 mr280 rfl ?_
                show zGo X l 1 0 0 279 64 [(0, .int a), (1, .int b), (2, .int c), (3, .int d), (4, .int e), (5, .int f), (6, .int g), (7, .int h)] [.int c] M _
                refine zs_iload (pc := 64) t279_64 rfl ?_
                refine zs_invS (pc := 66) (as := [.int g]) (st := [.int c]) t279_66 (by decide) mf280 rfl rfl ⟨by decide, by decide, Nat.le_of_ble_eq_true rfl, Nat.le_of_ble_eq_true rfl⟩ (zs_in (by decide) mf280 (Nat.le_of_ble_eq_true rfl) ?_) (fun _ _ q => q)
                show zGo X l 0 0 0 280 0 [(0, .int g)] [] M _
                refine zs_iload_n (pc := 0) t280_0 rfl ?_
                refine zs_if_geF (pc := 1) t280_1 rfl (by omega) ?_
                refine zs_iload_n (pc := 4) t280_4 rfl ?_
                obtain ⟨w165v, w165e⟩ : ∃ v, -g = v := ⟨_, rfl⟩
                have w165 : w165v.toInt = -g.toInt := by rw [← w165e]; exact zneg rfl (by omega)
                refine zs_ineg (pc := 5) t280_5 (c := w165v) w165e ?_
                refine zs_goto (pc := 6) t280_6 ?_
                refine zs_iret (pc := 10) t280_10 mr280 rfl ?_
                show zGo X l 1 0 0 279 69 [(0, .int a), (1, .int b), (2, .int c), (3, .int d), (4, .int e), (5, .int f), (6, .int g), (7, .int h)] [.int w165v, .int c] M _
                by_cases w166 : (-g.toInt) ≤ c.toInt
                · refine zs_icmp_geT (pc := 69) t279_69 rfl w165 (by omega) ?_
                  refine zs_iconst (pc := 76) t279_76 (v := 0) (by decide) ?_
                  have w167 : (0 : Int32).toInt = 0 := li0
                  exact zs_iret (pc := 77) t279_77 mr279 (by decide) (hQ _ (Or.inr ⟨by decide, by unfold zah; omega⟩) (by decide) (by decide))
                · refine zs_icmp_geF (pc := 69) t279_69 rfl w165 (by omega) ?_
                  refine zs_iconst (pc := 72) t279_72 (v := 1) (by decide) ?_
                  refine zs_goto (pc := 73) t279_73 ?_
                  have w168 : (1 : Int32).toInt = 1 := li1
                  exact zs_iret (pc := 77) t279_77 mr279 (by decide) (hQ _ (Or.inl ⟨by decide, by unfold zah; omega⟩) (by decide) (by decide))
          · refine zs_if_geF (pc := 1) t280_1 rfl (by omega) ?_
            refine zs_iload_n (pc := 4) t280_4 rfl ?_
            obtain ⟨w169v, w169e⟩ : ∃ v, -c = v := ⟨_, rfl⟩
            have w169 : w169v.toInt = -c.toInt := by rw [← w169e]; exact zneg rfl (by omega)
            refine zs_ineg (pc := 5) t280_5 (c := w169v) w169e ?_
            refine zs_goto (pc := 6) t280_6 ?_
            refine zs_iret (pc := 10) t280_10 mr280 rfl ?_
            show zGo X l 1 0 0 279 52 [(0, .int a), (1, .int b), (2, .int c), (3, .int d), (4, .int e), (5, .int f), (6, .int g), (7, .int h)] [.int w169v] M _
            refine zs_iload (pc := 52) t279_52 rfl ?_
            refine zs_invS (pc := 54) (as := [.int g]) (st := [.int w169v]) t279_54 (by decide) mf280 rfl rfl ⟨by decide, by decide, Nat.le_of_ble_eq_true rfl, Nat.le_of_ble_eq_true rfl⟩ (zs_in (by decide) mf280 (Nat.le_of_ble_eq_true rfl) ?_) (fun _ _ q => q)
            show zGo X l 0 0 0 280 0 [(0, .int g)] [] M _
            refine zs_iload_n (pc := 0) t280_0 rfl ?_
            by_cases w170 : 0 ≤ g.toInt
            · refine zs_if_geT (pc := 1) t280_1 rfl (by omega) ?_
              refine zs_iload_n (pc := 9) t280_9 rfl ?_
              refine zs_iret (pc := 10) t280_10 mr280 rfl ?_
              show zGo X l 1 0 0 279 57 [(0, .int a), (1, .int b), (2, .int c), (3, .int d), (4, .int e), (5, .int f), (6, .int g), (7, .int h)] [.int g, .int w169v] M _
              by_cases w171 : (-c.toInt) = g.toInt
              · refine zs_icmp_eqT (pc := 57) t279_57 w169 rfl (by omega) ?_
                refine zs_iload_n (pc := 78) t279_78 rfl ?_
                refine zs_iload (pc := 79) t279_79 rfl ?_
                by_cases w172 : b.toInt = f.toInt
                · refine zs_icmp_eqT (pc := 81) t279_81 rfl rfl (by omega) ?_
                  refine zs_iload_n (pc := 96) t279_96 rfl ?_
                  refine zs_iload (pc := 97) t279_97 rfl ?_
                  refine zs_icmp_eqF (pc := 99) t279_99 rfl rfl (by omega) ?_
                  refine zs_iload_n (pc := 102) t279_102 rfl ?_
                  refine zs_iload (pc := 103) t279_103 rfl ?_
                  refine zs_icmp_geF (pc := 105) t279_105 rfl rfl (by omega) ?_
                  refine zs_iconst (pc := 108) t279_108 (v := 1) (by decide) ?_
                  refine zs_goto (pc := 109) t279_109 ?_
                  have w173 : (1 : Int32).toInt = 1 := li1
                  exact zs_iret (pc := 127) t279_127 mr279 (by decide) (hQ _ (Or.inl ⟨by decide, by unfold zah; omega⟩) (by decide) (by decide))
                · refine zs_icmp_eqF (pc := 81) t279_81 rfl rfl (by omega) ?_
                  refine zs_iload_n (pc := 84) t279_84 rfl ?_
                  refine zs_iload (pc := 85) t279_85 rfl ?_
                  by_cases w174 : f.toInt ≤ b.toInt
                  · refine zs_icmp_geT (pc := 87) t279_87 rfl rfl (by omega) ?_
                    refine zs_iconst (pc := 94) t279_94 (v := 0) (by decide) ?_
                    have w175 : (0 : Int32).toInt = 0 := li0
                    exact zs_iret (pc := 95) t279_95 mr279 (by decide) (hQ _ (Or.inr ⟨by decide, by unfold zah; omega⟩) (by decide) (by decide))
                  · refine zs_icmp_geF (pc := 87) t279_87 rfl rfl (by omega) ?_
                    refine zs_iconst (pc := 90) t279_90 (v := 1) (by decide) ?_
                    refine zs_goto (pc := 91) t279_91 ?_
                    have w176 : (1 : Int32).toInt = 1 := li1
                    exact zs_iret (pc := 95) t279_95 mr279 (by decide) (hQ _ (Or.inl ⟨by decide, by unfold zah; omega⟩) (by decide) (by decide))
              · refine zs_icmp_eqF (pc := 57) t279_57 w169 rfl (by omega) ?_
                refine zs_iload_n (pc := 60) t279_60 rfl ?_
                refine zs_invS (pc := 61) (as := [.int c]) (st := []) t279_61 (by decide) mf280 rfl rfl ⟨by decide, by decide, Nat.le_of_ble_eq_true rfl, Nat.le_of_ble_eq_true rfl⟩ (zs_in (by decide) mf280 (Nat.le_of_ble_eq_true rfl) ?_) (fun _ _ q => q)
                show zGo X l 0 0 0 280 0 [(0, .int c)] [] M _
                refine zs_iload_n (pc := 0) t280_0 rfl ?_
                refine zs_if_geF (pc := 1) t280_1 rfl (by omega) ?_
                refine zs_iload_n (pc := 4) t280_4 rfl ?_
                obtain ⟨w177v, w177e⟩ : ∃ v, -c = v := ⟨_, rfl⟩
                have w177 : w177v.toInt = -c.toInt := by rw [← w177e]; exact zneg rfl (by omega)
                refine zs_ineg (pc := 5) t280_5 (c := w177v) w177e ?_
                refine zs_goto (pc := 6) t280_6 ?_
                refine zs_iret (pc := 10) t280_10 mr280 rfl ?_
                show zGo X l 1 0 0 279 64 [(0, .int a), (1, .int b), (2, .int c), (3, .int d), (4, .int e), (5, .int f), (6, .int g), (7, .int h)] [.int w177v] M _
                refine zs_iload (pc := 64) t279_64 rfl ?_
                refine zs_invS (pc := 66) (as := [.int g]) (st := [.int w177v]) t279_66 (by decide) mf280 rfl rfl ⟨by decide, by decide, Nat.le_of_ble_eq_true rfl, Nat.le_of_ble_eq_true rfl⟩ (zs_in (by decide) mf280 (Nat.le_of_ble_eq_true rfl) ?_) (fun _ _ q => q)
                show zGo X l 0 0 0 280 0 [(0, .int g)] [] M _
                refine zs_iload_n (pc := 0) t280_0 rfl ?_
                refine zs_if_geT (pc := 1) t280_1 rfl (by omega) ?_
                refine zs_iload_n (pc := 9) t280_9 rfl ?_
                refine zs_iret (pc := 10) t280_10 mr280 rfl ?_
                show zGo X l 1 0 0 279 69 [(0, .int a), (1, .int b), (2, .int c), (3, .int d), (4, .int e), (5, .int f), (6, .int g), (7, .int h)] [.int g, .int w177v] M _
                by_cases w178 : g.toInt ≤ (-c.toInt)
                · refine zs_icmp_geT (pc := 69) t279_69 w177 rfl (by omega) ?_
                  refine zs_iconst (pc := 76) t279_76 (v := 0) (by decide) ?_
                  have w179 : (0 : Int32).toInt = 0 := li0
                  exact zs_iret (pc := 77) t279_77 mr279 (by decide) (hQ _ (Or.inr ⟨by decide, by unfold zah; omega⟩) (by decide) (by decide))
                · refine zs_icmp_geF (pc := 69) t279_69 w177 rfl (by omega) ?_
                  refine zs_iconst (pc := 72) t279_72 (v := 1) (by decide) ?_
                  refine zs_goto (pc := 73) t279_73 ?_
                  have w180 : (1 : Int32).toInt = 1 := li1
                  exact zs_iret (pc := 77) t279_77 mr279 (by decide) (hQ _ (Or.inl ⟨by decide, by unfold zah; omega⟩) (by decide) (by decide))
            · refine zs_if_geF (pc := 1) t280_1 rfl (by omega) ?_
              refine zs_iload_n (pc := 4) t280_4 rfl ?_
              obtain ⟨w181v, w181e⟩ : ∃ v, -g = v := ⟨_, rfl⟩
              have w181 : w181v.toInt = -g.toInt := by rw [← w181e]; exact zneg rfl (by omega)
              refine zs_ineg (pc := 5) t280_5 (c := w181v) w181e ?_
              refine zs_goto (pc := 6) t280_6 ?_
              refine zs_iret (pc := 10) t280_10 mr280 rfl ?_
              show zGo X l 1 0 0 279 57 [(0, .int a), (1, .int b), (2, .int c), (3, .int d), (4, .int e), (5, .int f), (6, .int g), (7, .int h)] [.int w181v, .int w169v] M _
              by_cases w182 : (-c.toInt) = (-g.toInt)
              · refine zs_icmp_eqT (pc := 57) t279_57 w169 w181 (by omega) ?_
                refine zs_iload_n (pc := 78) t279_78 rfl ?_
                refine zs_iload (pc := 79) t279_79 rfl ?_
                by_cases w183 : b.toInt = f.toInt
                · refine zs_icmp_eqT (pc := 81) t279_81 rfl rfl (by omega) ?_
                  refine zs_iload_n (pc := 96) t279_96 rfl ?_
                  refine zs_iload (pc := 97) t279_97 rfl ?_
                  by_cases w184 : c.toInt = g.toInt
                  · refine zs_icmp_eqT (pc := 99) t279_99 rfl rfl (by omega) ?_
                    refine zs_iload_n (pc := 116) t279_116 rfl ?_
                    refine zs_iload (pc := 117) t279_117 rfl ?_
                    by_cases w185 : h.toInt ≤ d.toInt
                    · refine zs_icmp_geT (pc := 119) t279_119 rfl rfl (by omega) ?_
                      refine zs_iconst (pc := 126) t279_126 (v := 0) (by decide) ?_
                      have w186 : (0 : Int32).toInt = 0 := li0
                      exact zs_iret (pc := 127) t279_127 mr279 (by decide) (hQ _ (Or.inr ⟨by decide, by unfold zah; omega⟩) (by decide) (by decide))
                    · refine zs_icmp_geF (pc := 119) t279_119 rfl rfl (by omega) ?_
                      refine zs_iconst (pc := 122) t279_122 (v := 1) (by decide) ?_
                      refine zs_goto (pc := 123) t279_123 ?_
                      have w187 : (1 : Int32).toInt = 1 := li1
                      exact zs_iret (pc := 127) t279_127 mr279 (by decide) (hQ _ (Or.inl ⟨by decide, by unfold zah; omega⟩) (by decide) (by decide))
                  · refine zs_icmp_eqF (pc := 99) t279_99 rfl rfl (by omega) ?_
                    refine zs_iload_n (pc := 102) t279_102 rfl ?_
                    refine zs_iload (pc := 103) t279_103 rfl ?_
                    by_cases w188 : g.toInt ≤ c.toInt
                    · refine zs_icmp_geT (pc := 105) t279_105 rfl rfl (by omega) ?_
                      refine zs_iconst (pc := 112) t279_112 (v := 0) (by decide) ?_
                      refine zs_goto (pc := 113) t279_113 ?_
                      have w189 : (0 : Int32).toInt = 0 := li0
                      exact zs_iret (pc := 127) t279_127 mr279 (by decide) (hQ _ (Or.inr ⟨by decide, by unfold zah; omega⟩) (by decide) (by decide))
                    · refine zs_icmp_geF (pc := 105) t279_105 rfl rfl (by omega) ?_
                      refine zs_iconst (pc := 108) t279_108 (v := 1) (by decide) ?_
                      refine zs_goto (pc := 109) t279_109 ?_
                      have w190 : (1 : Int32).toInt = 1 := li1
                      exact zs_iret (pc := 127) t279_127 mr279 (by decide) (hQ _ (Or.inl ⟨by decide, by unfold zah; omega⟩) (by decide) (by decide))
                · refine zs_icmp_eqF (pc := 81) t279_81 rfl rfl (by omega) ?_
                  refine zs_iload_n (pc := 84) t279_84 rfl ?_
                  refine zs_iload (pc := 85) t279_85 rfl ?_
                  by_cases w191 : f.toInt ≤ b.toInt
                  · refine zs_icmp_geT (pc := 87) t279_87 rfl rfl (by omega) ?_
                    refine zs_iconst (pc := 94) t279_94 (v := 0) (by decide) ?_
                    have w192 : (0 : Int32).toInt = 0 := li0
                    exact zs_iret (pc := 95) t279_95 mr279 (by decide) (hQ _ (Or.inr ⟨by decide, by unfold zah; omega⟩) (by decide) (by decide))
                  · refine zs_icmp_geF (pc := 87) t279_87 rfl rfl (by omega) ?_
                    refine zs_iconst (pc := 90) t279_90 (v := 1) (by decide) ?_
                    refine zs_goto (pc := 91) t279_91 ?_
                    have w193 : (1 : Int32).toInt = 1 := li1
                    exact zs_iret (pc := 95) t279_95 mr279 (by decide) (hQ _ (Or.inl ⟨by decide, by unfold zah; omega⟩) (by decide) (by decide))
              · refine zs_icmp_eqF (pc := 57) t279_57 w169 w181 (by omega) ?_
                refine zs_iload_n (pc := 60) t279_60 rfl ?_
                refine zs_invS (pc := 61) (as := [.int c]) (st := []) t279_61 (by decide) mf280 rfl rfl ⟨by decide, by decide, Nat.le_of_ble_eq_true rfl, Nat.le_of_ble_eq_true rfl⟩ (zs_in (by decide) mf280 (Nat.le_of_ble_eq_true rfl) ?_) (fun _ _ q => q)
                show zGo X l 0 0 0 280 0 [(0, .int c)] [] M _
                refine zs_iload_n (pc := 0) t280_0 rfl ?_
                refine zs_if_geF (pc := 1) t280_1 rfl (by omega) ?_
                refine zs_iload_n (pc := 4) t280_4 rfl ?_
                obtain ⟨w194v, w194e⟩ : ∃ v, -c = v := ⟨_, rfl⟩
                have w194 : w194v.toInt = -c.toInt := by rw [← w194e]; exact zneg rfl (by omega)
                refine zs_ineg (pc := 5) t280_5 (c := w194v) w194e ?_
                refine zs_goto (pc := 6) t280_6 ?_
                refine zs_iret (pc := 10) t280_10 mr280 rfl ?_
                show zGo X l 1 0 0 279 64 [(0, .int a), (1, .int b), (2, .int c), (3, .int d), (4, .int e), (5, .int f), (6, .int g), (7, .int h)] [.int w194v] M _
                refine zs_iload (pc := 64) t279_64 rfl ?_
                refine zs_invS (pc := 66) (as := [.int g]) (st := [.int w194v]) t279_66 (by decide) mf280 rfl rfl ⟨by decide, by decide, Nat.le_of_ble_eq_true rfl, Nat.le_of_ble_eq_true rfl⟩ (zs_in (by decide) mf280 (Nat.le_of_ble_eq_true rfl) ?_) (fun _ _ q => q)
                show zGo X l 0 0 0 280 0 [(0, .int g)] [] M _
                refine zs_iload_n (pc := 0) t280_0 rfl ?_
                refine zs_if_geF (pc := 1) t280_1 rfl (by omega) ?_
                refine zs_iload_n (pc := 4) t280_4 rfl ?_
                obtain ⟨w195v, w195e⟩ : ∃ v, -g = v := ⟨_, rfl⟩
                have w195 : w195v.toInt = -g.toInt := by rw [← w195e]; exact zneg rfl (by omega)
                refine zs_ineg (pc := 5) t280_5 (c := w195v) w195e ?_
                refine zs_goto (pc := 6) t280_6 ?_
                refine zs_iret (pc := 10) t280_10 mr280 rfl ?_
                show zGo X l 1 0 0 279 69 [(0, .int a), (1, .int b), (2, .int c), (3, .int d), (4, .int e), (5, .int f), (6, .int g), (7, .int h)] [.int w195v, .int w194v] M _
                by_cases w196 : (-g.toInt) ≤ (-c.toInt)
                · refine zs_icmp_geT (pc := 69) t279_69 w194 w195 (by omega) ?_
                  refine zs_iconst (pc := 76) t279_76 (v := 0) (by decide) ?_
                  have w197 : (0 : Int32).toInt = 0 := li0
                  exact zs_iret (pc := 77) t279_77 mr279 (by decide) (hQ _ (Or.inr ⟨by decide, by unfold zah; omega⟩) (by decide) (by decide))
                · refine zs_icmp_geF (pc := 69) t279_69 w194 w195 (by omega) ?_
                  refine zs_iconst (pc := 72) t279_72 (v := 1) (by decide) ?_
                  refine zs_goto (pc := 73) t279_73 ?_
                  have w198 : (1 : Int32).toInt = 1 := li1
                  exact zs_iret (pc := 77) t279_77 mr279 (by decide) (hQ _ (Or.inl ⟨by decide, by unfold zah; omega⟩) (by decide) (by decide))
        · refine zs_icmp_eqF (pc := 27) t279_27 w102 w139 (by omega) ?_
          refine zs_iload_n (pc := 30) t279_30 rfl ?_
          refine zs_invS (pc := 31) (as := [.int b]) (st := []) t279_31 (by decide) mf280 rfl rfl ⟨by decide, by decide, Nat.le_of_ble_eq_true rfl, Nat.le_of_ble_eq_true rfl⟩ (zs_in (by decide) mf280 (Nat.le_of_ble_eq_true rfl) ?_) (fun _ _ q => q)
          show zGo X l 0 0 0 280 0 [(0, .int b)] [] M _
          refine zs_iload_n (pc := 0) t280_0 rfl ?_
          refine zs_if_geF (pc := 1) t280_1 rfl (by omega) ?_
          refine zs_iload_n (pc := 4) t280_4 rfl ?_
          obtain ⟨w199v, w199e⟩ : ∃ v, -b = v := ⟨_, rfl⟩
          have w199 : w199v.toInt = -b.toInt := by rw [← w199e]; exact zneg rfl (by omega)
          refine zs_ineg (pc := 5) t280_5 (c := w199v) w199e ?_
          refine zs_goto (pc := 6) t280_6 ?_
          refine zs_iret (pc := 10) t280_10 mr280 rfl ?_
          show zGo X l 1 0 0 279 34 [(0, .int a), (1, .int b), (2, .int c), (3, .int d), (4, .int e), (5, .int f), (6, .int g), (7, .int h)] [.int w199v] M _
          refine zs_iload (pc := 34) t279_34 rfl ?_
          refine zs_invS (pc := 36) (as := [.int f]) (st := [.int w199v]) t279_36 (by decide) mf280 rfl rfl ⟨by decide, by decide, Nat.le_of_ble_eq_true rfl, Nat.le_of_ble_eq_true rfl⟩ (zs_in (by decide) mf280 (Nat.le_of_ble_eq_true rfl) ?_) (fun _ _ q => q)
          show zGo X l 0 0 0 280 0 [(0, .int f)] [] M _
          refine zs_iload_n (pc := 0) t280_0 rfl ?_
          refine zs_if_geF (pc := 1) t280_1 rfl (by omega) ?_
          refine zs_iload_n (pc := 4) t280_4 rfl ?_
          obtain ⟨w200v, w200e⟩ : ∃ v, -f = v := ⟨_, rfl⟩
          have w200 : w200v.toInt = -f.toInt := by rw [← w200e]; exact zneg rfl (by omega)
          refine zs_ineg (pc := 5) t280_5 (c := w200v) w200e ?_
          refine zs_goto (pc := 6) t280_6 ?_
          refine zs_iret (pc := 10) t280_10 mr280 rfl ?_
          show zGo X l 1 0 0 279 39 [(0, .int a), (1, .int b), (2, .int c), (3, .int d), (4, .int e), (5, .int f), (6, .int g), (7, .int h)] [.int w200v, .int w199v] M _
          by_cases w201 : (-f.toInt) ≤ (-b.toInt)
          · refine zs_icmp_geT (pc := 39) t279_39 w199 w200 (by omega) ?_
            refine zs_iconst (pc := 46) t279_46 (v := 0) (by decide) ?_
            have w202 : (0 : Int32).toInt = 0 := li0
            exact zs_iret (pc := 47) t279_47 mr279 (by decide) (hQ _ (Or.inr ⟨by decide, by unfold zah; omega⟩) (by decide) (by decide))
          · refine zs_icmp_geF (pc := 39) t279_39 w199 w200 (by omega) ?_
            refine zs_iconst (pc := 42) t279_42 (v := 1) (by decide) ?_
            refine zs_goto (pc := 43) t279_43 ?_
            have w203 : (1 : Int32).toInt = 1 := li1
            exact zs_iret (pc := 47) t279_47 mr279 (by decide) (hQ _ (Or.inl ⟨by decide, by unfold zah; omega⟩) (by decide) (by decide))
  · refine zs_icmp_eqF (pc := 3) t279_3 rfl rfl (by omega) ?_
    refine zs_iload_n (pc := 6) t279_6 rfl ?_
    refine zs_iload (pc := 7) t279_7 rfl ?_
    by_cases w204 : a.toInt ≤ e.toInt
    · refine zs_icmp_leT (pc := 9) t279_9 rfl rfl (by omega) ?_
      refine zs_iconst (pc := 16) t279_16 (v := 0) (by decide) ?_
      have w205 : (0 : Int32).toInt = 0 := li0
      exact zs_iret (pc := 17) t279_17 mr279 (by decide) (hQ _ (Or.inr ⟨by decide, by unfold zah; omega⟩) (by decide) (by decide))
    · refine zs_icmp_leF (pc := 9) t279_9 rfl rfl (by omega) ?_
      refine zs_iconst (pc := 12) t279_12 (v := 1) (by decide) ?_
      refine zs_goto (pc := 13) t279_13 ?_
      have w206 : (1 : Int32).toInt = 1 := li1
      exact zs_iret (pc := 17) t279_17 mr279 (by decide) (hQ _ (Or.inl ⟨by decide, by unfold zah; omega⟩) (by decide) (by decide))
