theorem O292 {X : zX} {l : Launch} {M : zM} {Q : Option Value → zM → Prop} (hs : zSk zMm M) (hI : zIv mLo mHi M) {F : Nat → Int} (x0 : zRw M 0 F) (x1 : zWF F) (hQ : ∀ v : Int32, (v.toInt = pct (zalv F) (F 0).toNat) → Q (some (.int v)) M) : zCall X l 1 0 0 292 [.ref 336] M Q := by
  refine zs_in (by decide) mf292 (Nat.le_of_ble_eq_true rfl) ?_
  show zGo X l 1 0 0 292 0 [(0, .ref 336)] [] M _
  have f1 := x1.1
  have f3 := x1.2.2.2
  have w1 := ibA0 hI
  have w2 : (zI M 337 0).toInt = (zI M 337 0).toInt := (congrArg Int32.toInt rfl).trans rfl
  have e0 : (zI M 337 0).toInt = F 0 := x0.at (by decide) (by decide) (by decide)
  have w3 := ibA1 hI
  have w4 : (zI M 337 1).toInt = (zI M 337 1).toInt := (congrArg Int32.toInt rfl).trans rfl
  have e1 : (zI M 337 1).toInt = F 1 := x0.at (by decide) (by decide) (by decide)
  have w5 := ibA2 hI
  have w6 : (zI M 337 2).toInt = (zI M 337 2).toInt := (congrArg Int32.toInt rfl).trans rfl
  have e2 : (zI M 337 2).toInt = F 2 := x0.at (by decide) (by decide) (by decide)
  refine zs_iconst (pc := 0) t292_0 (v := 0) (by decide) ?_
  refine zs_istore_n (pc := 1) t292_1 (ls' := [(1, .int (0 : Int32)), (0, .ref 336)]) (zml mf292 (by decide)) rfl ?_
  refine zs_iconst (pc := 2) t292_2 (v := 0) (by decide) ?_
  refine zs_istore_n (pc := 3) t292_3 (ls' := [(2, .int (0 : Int32)), (1, .int (0 : Int32)), (0, .ref 336)]) (zml mf292 (by decide)) rfl ?_
  have w7L : ∀ (m : Nat) (w7x1 : Int32) (w7x2 : Int32), (0 ≤ w7x1.toInt ∧ w7x1.toInt ≤ 8) → (0 ≤ w7x2.toInt ∧ w7x2.toInt ≤ 8) → (w7x1.toInt ≤ w7x2.toInt) → (w7x2.toInt ≤ F 0) → (∀ k : Nat, (k : Int) = w7x2.toInt → w7x1.toInt = pct (zalv F) k) → 8 - w7x2.toInt ≤ (m : Int) → zGo X l 1 0 0 292 4 [(0, .ref 336), (1, .int w7x1), (2, .int w7x2)] [] M Q := by
    intro m
    induction m using Nat.strongRecOn with
    | ind w7m w7ih =>
      intro w7x1 w7x2 w7b1 w7b2 w7r0 w7r1 w7t0 w7q
      refine zs_iload_n (pc := 4) t292_4 rfl ?_
      refine zs_aload_n (pc := 5) t292_5 rfl ?_
      refine zs_get (pc := 6) t292_6 (by decide) (zk1 (hs.k fk_zMm_336)) (hs.p rfl fv_zMm_336_0) ?_
      refine zs_iconst (pc := 9) t292_9 (v := 0) (by decide) ?_
      have w8 : (zI M 337 0).toInt = F 0 := x0.at (by decide) (by decide) (by decide)
      refine zs_iald (pc := 10) t292_10 (j := 0) (by decide) (zk1 (hs.k fk_zMm_337)) li0 (zk2 (hs.k fk_zMm_337) (by decide)) rfl ?_
      by_cases w9 : (zI M 337 0).toInt ≤ w7x2.toInt
      · refine zs_icmp_geT (pc := 11) t292_11 rfl rfl (by omega) ?_
        refine zs_iload_n (pc := 36) t292_36 rfl ?_
        exact zs_iret (pc := 37) t292_37 mr292 rfl (hQ _ (by have q := w7t0 (F 0).toNat (by omega); omega))
      · refine zs_icmp_geF (pc := 11) t292_11 rfl rfl (by omega) ?_
        refine zs_iload_n (pc := 14) t292_14 rfl ?_
        refine zs_aload_n (pc := 15) t292_15 rfl ?_
        refine zs_iload_n (pc := 16) t292_16 rfl ?_
        refine zs_invV (pc := 17) (k := 336) (as' := [.int w7x2]) (st := [.int w7x1]) t292_17 mf273 rfl rfl (Or.inl ⟨by decide, (zk1 (hs.k fk_zMm_336))⟩) ⟨by decide, by decide, Nat.le_of_ble_eq_true rfl, Nat.le_of_ble_eq_true rfl⟩ (zs_in (by decide) mf273 (Nat.le_of_ble_eq_true rfl) ?_) (fun _ _ q => q)
        show zGo X l 0 0 0 273 0 [(0, .ref 336), (1, .int w7x2)] [] M _
        refine zs_aload_n (pc := 0) t273_0 rfl ?_
        refine zs_get (pc := 1) t273_1 (by decide) (zk1 (hs.k fk_zMm_336)) (hs.p rfl fv_zMm_336_0) ?_
        refine zs_bipush (pc := 4) t273_4 (v := 14) (by decide) ?_
        refine zs_iconst (pc := 6) t273_6 (v := 2) (by decide) ?_
        refine zs_iload_n (pc := 7) t273_7 rfl ?_
        obtain ⟨w10v, w10⟩ : ∃ v, (2 : Int32) * w7x2 = v := ⟨_, rfl⟩
        have w10g : w10v.toInt = 2 * w7x2.toInt := by rw [← w10]; exact zmulc li2 rfl (by omega) (by omega)
        refine zs_imul (pc := 8) t273_8 (c := w10v) w10 ?_
        obtain ⟨w11v, w11e, w11⟩ := ziadd (a := (14 : Int32)) (b := w10v) li14 w10g (by omega) (by omega)
        refine zs_iadd (pc := 9) t273_9 (c := w11v) w11e ?_
        refine zs_iconst (pc := 10) t273_10 (v := 1) (by decide) ?_
        obtain ⟨w12v, w12e, w12⟩ := ziadd (a := w11v) (b := (1 : Int32)) w11 li1 (by omega) (by omega)
        refine zs_iadd (pc := 11) t273_11 (c := w12v) w12e ?_
        obtain ⟨w13n, w13⟩ : ∃ n : Nat, w7x2.toInt = (n : Int) := ⟨(w7x2.toInt).toNat, by omega⟩
        have w14 := zrg (zI M 337 (15 + 2 * w13n))
        have w15 : (zI M 337 (15 + 2 * w13n)).toInt = F (15 + 2 * w13n) := x0.at (by omega) (by omega) (by omega)
        have w16 := x1.2.1 w13n (by omega)
        refine zs_iald (pc := 12) t273_12 (j := (15 + 2 * w13n)) (by decide) (zk1 (hs.k fk_zMm_337)) (show w12v.toInt = (((15 + 2 * w13n) : Nat) : Int) by omega) (zk2 (hs.k fk_zMm_337) (by omega)) rfl ?_
        refine zs_iconst (pc := 13) t273_13 (v := 1) (by decide) ?_
        by_cases w17 : (zI M 337 (15 + 2 * w13n)).toInt ≠ 1
        · refine zs_icmp_neT (pc := 14) t273_14 rfl li1 (by omega) ?_
          refine zs_iconst (pc := 21) t273_21 (v := 0) (by decide) ?_
          refine zs_iret (pc := 22) t273_22 mr273 (by decide) ?_
          show zGo X l 1 0 0 292 20 [(0, .ref 336), (1, .int w7x1), (2, .int w7x2)] [.int (0 : Int32), .int w7x1] M _
          refine zs_if_eqT (pc := 20) t292_20 li0 (by decide) ?_
          refine zs_iconst (pc := 27) t292_27 (v := 0) (by decide) ?_
          obtain ⟨w18v, w18e, w18⟩ := ziadd (a := w7x1) (b := (0 : Int32)) rfl li0 (by omega) (by omega)
          refine zs_iadd (pc := 28) t292_28 (c := w18v) w18e ?_
          refine zs_istore_n (pc := 29) t292_29 (ls' := [(1, .int w18v), (0, .ref 336), (2, .int w7x2)]) (zml mf292 (by decide)) rfl ?_
          obtain ⟨w19v, w19e, w19⟩ := ziadd (a := w7x2) (b := Int32.ofInt 1) rfl (show (Int32.ofInt 1).toInt = 1 by decide) (by omega) (by omega)
          refine zs_iinc (pc := 30) t292_30 (ls' := [(2, .int w19v), (1, .int w18v), (0, .ref 336)]) (zml mf292 (by decide)) rfl (c := w19v) w19e rfl ?_
          refine zs_goto (pc := 33) t292_33 ?_
          refine zGo.locals (ls' := [(0, .ref 336), (1, .int w18v), (2, .int w19v)]) (by simp) ?_
          have w20 := w18
          have w21 := w19
          have w22 : w18v.toInt = (w7x1.toInt + 0) := w18
          exact w7ih (w7m - 1) (by omega) w18v w19v ⟨by omega, by omega⟩ ⟨by omega, by omega⟩ (by omega) (by omega) (fun k hk => by obtain rfl : k = w13n + 1 := (by omega); have hw := x1.2.1 w13n (by omega); first | exact pct.up (n := w13n) (fun k hk => w7t0 k (by omega)) (zalv.y (by omega)) (by omega) rfl | exact pct.no (n := w13n) (fun k hk => w7t0 k (by omega)) (zalv.n (by omega)) (by omega) rfl) (by omega)
        · refine zs_icmp_neF (pc := 14) t273_14 rfl li1 (by omega) ?_
          refine zs_iconst (pc := 17) t273_17 (v := 1) (by decide) ?_
          refine zs_goto (pc := 18) t273_18 ?_
          refine zs_iret (pc := 22) t273_22 mr273 (by decide) ?_
          show zGo X l 1 0 0 292 20 [(0, .ref 336), (1, .int w7x1), (2, .int w7x2)] [.int (1 : Int32), .int w7x1] M _
          refine zs_if_eqF (pc := 20) t292_20 li1 (by decide) ?_
          refine zs_iconst (pc := 23) t292_23 (v := 1) (by decide) ?_
          refine zs_goto (pc := 24) t292_24 ?_
          obtain ⟨w23v, w23e, w23⟩ := ziadd (a := w7x1) (b := (1 : Int32)) rfl li1 (by omega) (by omega)
          refine zs_iadd (pc := 28) t292_28 (c := w23v) w23e ?_
          refine zs_istore_n (pc := 29) t292_29 (ls' := [(1, .int w23v), (0, .ref 336), (2, .int w7x2)]) (zml mf292 (by decide)) rfl ?_
          obtain ⟨w24v, w24e, w24⟩ := ziadd (a := w7x2) (b := Int32.ofInt 1) rfl (show (Int32.ofInt 1).toInt = 1 by decide) (by omega) (by omega)
          refine zs_iinc (pc := 30) t292_30 (ls' := [(2, .int w24v), (1, .int w23v), (0, .ref 336)]) (zml mf292 (by decide)) rfl (c := w24v) w24e rfl ?_
          refine zs_goto (pc := 33) t292_33 ?_
          refine zGo.locals (ls' := [(0, .ref 336), (1, .int w23v), (2, .int w24v)]) (by simp) ?_
          have w25 := w23
          have w26 := w24
          have w27 : w23v.toInt = (w7x1.toInt + 1) := w23
          exact w7ih (w7m - 1) (by omega) w23v w24v ⟨by omega, by omega⟩ ⟨by omega, by omega⟩ (by omega) (by omega) (fun k hk => by obtain rfl : k = w13n + 1 := (by omega); have hw := x1.2.1 w13n (by omega); first | exact pct.up (n := w13n) (fun k hk => w7t0 k (by omega)) (zalv.y (by omega)) (by omega) rfl | exact pct.no (n := w13n) (fun k hk => w7t0 k (by omega)) (zalv.n (by omega)) (by omega) rfl) (by omega)
  refine zGo.locals (ls' := [(0, .ref 336), (1, .int (0 : Int32)), (2, .int (0 : Int32))]) (by simp) ?_
  have w28 := li0
  have w29 := li0
  exact w7L ((8 - 0 : Int).toNat) (0 : Int32) (0 : Int32) ⟨by decide, by decide⟩ ⟨by decide, by decide⟩ (by omega) (by omega) (fun k hk => by obtain rfl : k = 0 := (by omega); rfl) (by omega)
