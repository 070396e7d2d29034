theorem O292 {X : zX} {l : Launch} {M : zM} {Q : Option Value → zM → Prop} (hs : zSk zMm M) (hI : zIv mLo mHi M) {F : Nat → Int} (x0 : zRw M 0 F) (x1 : zWF F) (hQ : ∀ v : Int32, (v.toInt = pct (zalv F) (F 0).toNat) → Q (some (.int v)) M) : zCall X l 1 0 0 292 [.ref 336] M Q := by
  refine zs_in (by decide) mf292 (Nat.le_of_ble_eq_true rfl) ?_
  show zGo X l 1 0 0 292 0 [(0, .ref 336)] [] M _
  have f1 := x1.1
  have f3 := x1.2.2.2
  have w1 := ibA0 hI
  have w2 : (zI M 337 0).toInt = (zI M 337 0).toInt := (congrArg Int32.toInt rfl).trans rfl
  have e0 : (zI M 337 0).toInt = F 0 := x0.at (by decide) (by decide) (by decide)
  have w3 := ibA1 hI
  have w4 : (zI M 337 1).toInt = (zI M 337 1).toInt := (congrArg Int32.toInt rfl).trans rfl
  have e1 : (zI M 337 1).toInt = F 1 := x0.at (by decide) (by decide) (by decide)
  have w5 := ibA2 hI
  have w6 : (zI M 337 2).toInt = (zI M 337 2).toInt := (congrArg Int32.toInt rfl).trans rfl
  have e2 : (zI M 337 2).toInt = F 2 := x0.at (by decide) (by decide) (by decide)
  refine zs_iconst (pc := 0) t292_0 (v := 0) (by decide) ?_
  refine zs_istore_n (pc := 1) t292_1 (ls' := [(1, .int (0 : Int32)), (0, .ref 336)]) (zml mf292 (by decide)) rfl ?_
  refine zs_iconst (pc := 2) t292_2 (v := 0) (by decide) ?_
  refine zs_istore_n (pc := 3) t292_3 (ls' := [(2, .int (0 : Int32)), (1, .int (0 : Int32)), (0, .ref 336)]) (zml mf292 (by decide)) rfl ?_
  have w7L : ∀ (m : Nat) (w7x1 : Int32) (w7x2 : Int32), (0 ≤ w7x1.toInt ∧ w7x1.toInt ≤ 8) → (0 ≤ w7x2.toInt ∧ w7x2.toInt ≤ 8) → (w7x1.toInt ≤ w7x2.toInt) → (w7x2.toInt ≤ F 0) → (∀ k : Nat, (k : Int) = w7x2.toInt → w7x1.toInt = pct (zalv F) k) → 8 - w7x2.toInt ≤ (m : Int) → zGo X l 1 0 0 292 4 [(0, .ref 336), (1, .int w7x1), (2, .int w7x2)] [] M Q := by
    intro m
    induction m using Nat.strongRecOn with
    | ind w7m w7ih =>
      intro w7x1 w7x2 w7b1 w7b2 w7r0 w7r1 w7t0 w7q
      refine zs_iload_n (pc := 4) t292_4 rfl ?_
      refine zs_aload_n (pc := 5) t292_5 rfl ?_
      refine zs_get (pc := 6) t292_6 (by decide) (zk1 (hs.k fk_zMm_336)) (hs.p rfl fv_zMm_336_0) ?_
      refine zs_iconst (pc := 9) t292_9 (v := 0) (by decide) ?_
      have w8 : (zI M 337 0).toInt = F 0 := x0.at (by decide) (by decide) (by decide)
      refine zs_iald (pc := 10) t292_10 (j := 0) (by decide) (zk1 (hs.k fk_zMm_337)) li0 (zk2 (hs.k fk_zMm_337) (by decide)) rfl ?_
      by_cases w9 : (zI M 337 0).toInt ≤ w7x2.toInt
      · refine zs_icmp_geT (pc := 11) t292_11 rfl rfl (by omega) ?_
        refine zs_iload_n (pc := 36) t292_36 rfl ?_
        exact zs_iret (pc := 37) t292_37 mr292 rfl (hQ _ (by have q := w7t0 (F 0).toNat (by omega); omega))
      · refine zs_icmp_geF (pc := 11) t292_11 rfl rfl (by omega) ?_
        refine zs_iload_n (pc := 14) t292_14 rfl ?_
        refine zs_aload_n (pc := 15) t292_15 rfl ?_
        refine zs_iload_n (pc := 16) t292_16 rfl ?_
        refine zs_invV (pc := 17) (k := 336) (as' := [.int w7x2]) (st := [.int w7x1]) t292_17 mf273 rfl rfl (Or.inl ⟨by decide, (zk1 (hs.k fk_zMm_336))⟩) ⟨by decide, by decide, Nat.le_of_ble_eq_true rfl, Nat.le_of_ble_eq_true rfl⟩ (zs_in (by decide) mf273 (Nat.le_of_ble_eq_true rfl) ?_) (fun _ _ q => q)
        show zGo X l 0 0 0 273 0 [(0, .ref 336), (1, .int w7x2)] [] M _
        refine zs_aload_n (pc := 0) t273_0 rfl ?_
        refine zs_get (pc := 1) t273_1 (by decide) (zk1 (hs.k fk_zMm_336)) (hs.p rfl fv_zMm_336_0) ?_
        refine zs_bipush (pc := 4) t273_4 (v := 14) (by decide) ?_
        refine zs_iconst (pc := 6) t273_6 (v := 2) (by decide) ?_
        refine zs_iload_n (pc := 7) t273_7 rfl ?_
        obtain ⟨w10v, w10⟩ : ∃ v, (2 : Int32) * w7x2 = v := ⟨_, rfl⟩
        have w10g : w10v.toInt = 2 * w7x2.toInt := by rw [← w10]; exact zmulc li2 rfl (by omega) (by omega)
        refine zs_imul (pc := 8) t273_8 (c := w10v) w10 ?_
        obtain ⟨w11v, w11e, w11⟩ := ziadd (a := (14 : Int32)) (b := w10v) li14 w10g (by omega) (by omega)
        refine zs_iadd (pc := 9) t273_9 (c := w11v) w11e ?_
        refine zs_iconst (pc := 10) t273_10 (v := 1) (by decide) ?_
        obtain ⟨w12v, w12e, w12⟩ := ziadd (a := w11v) (b := (1 : Int32)) w11 li1 (by omega) (by omega)
        refine zs_iadd (pc := 11) t273_11 (c := w12v) w12e ?_
        obtain ⟨w13n, w13⟩ : ∃ n : Nat, w7x2.toInt = (n : Int) := ⟨(w7x2.toInt).toNat, by omega⟩
        have w14 := zrg (zI M 337 (15 + 2 * w13n))
        have w15 : (zI M 337 (15 + 2 * w13n)).toInt = F (15 + 2 * w13n) := x0.at (by omega) (by omega) (by omega)
        have w16 := x1.2.1 w13n (by omega)
        refine zs_iald (pc := 12) t273_12 (j := (15 + 2 * w13n)) (by decide) (zk1 (hs.k fk_zMm_337)) (show w12v.toInt = (((15 + 2 * w13n) : Nat) : Int) by omega) (zk2 (hs.k fk_zMm_337) (by omega)) rfl ?_
        refine zs_iconst (pc := 13) t273_13 (v := 1) (by decide) ?_
        by_cases w17 : (zI M 337 (15 + 2 * w13n)).toInt ≠ 1
        · refine zs_icmp_neT (pc := 14) t273_14 rfl li1 (by omega) ?_
          refine zs_iconst (pc := 21) t273_21 (v := 0) (by decide) ?_
          refine zs_iret (pc := 22) t273_22 mr273 (by decide) ?_
          show zGo X l 1 0 0 292 20 [(0, .ref 336), (1, .int w7x1), (2, .int w7x2)] [.int (0 : Int32), .int w7x1] M _
          refine zs_if_eqT (pc := 20) t292_20 li0 (by decide) ?_
          refine zs_iconst (pc := 27) t292_27 (v := 0) (by decide) ?_
          obtain ⟨w18v, w18e, w18⟩ := ziadd (a := w7x1) (b := (0 : Int32)) rfl li0 (by omega) (by omega)
          refine zs_iadd (pc := 28) t292_28 (c := w18v) w18e ?_
          refine zs_istore_n (pc := 29) t292_29 (ls' := [(1, .int w18v), (0, .ref 336), (2, .int w7x2)]) (zml mf292 (by decide)) rfl ?_
          obtain ⟨w19v, w19e, w19⟩ := ziadd (a := w7x2) (b := Int32.ofInt 1) rfl (show (Int32.ofInt 1).toInt = 1 by decide) (by omega) (by omega)
          refine zs_iinc (pc := 30) t292_30 (ls' := [(2, .int w19v), (1, .int w18v), (0, .ref 336)]) (zml mf292 (by decide)) rfl (c := w19v) w19e rfl ?_
          refine zs_goto (pc := 33) t292_33 ?_
          refine zGo.locals (ls' := [(0, .ref 336), (1, .int w18v), (2, .int w19v)]) (by simp) ?_
          have w20 := w18
          have w21 := w19
          have w22 : w18v.toInt = (w7x1.toInt + 0) := w18
          exact w7ih (w7m - 1) (by omega) w18v w19v ⟨by omega, by omega⟩ ⟨by omega, by omega⟩ (by omega) (by omega) (fun k hk => by obtain rfl : k = w13n + 1 := (by omega); have hw := x1.2.1 w13n (by omega); first | exact pct.up (n := w13n) (fun k hk => w7t0 k (by omega)) (zalv.y (by omega)) (by omega) rfl | exact pct.no (n := w13n) (fun k hk => w7t0 k (by omega)) (zalv.n (by omega)) (by omega) rfl) (by omega)
        · refine zs_icmp_neF (pc := 14) t273_14 rfl li1 (by omega) ?_
          refine zs_iconst (pc := 17) t273_17 (v := 1) (by decide) ?_
          refine zs_goto (pc := 18) t273_18 ?_
          refine zs_iret (pc := 22) t273_22 mr273 (by decide) ?_
          show zGo X l 1 0 0 292 20 [(0, .ref 336), (1, .int w7x1), (2, .int w7x2)] [.int (1 : Int32), .int w7x1] M _
          refine zs_if_eqF (pc := 20) t292_20 li1 (by decide) ?_
          refine zs_iconst (pc := 23) t292_23 (v := 1) (by decide) ?_
          refine zs_goto (pc := 24) t292_24 ?_
          obtain ⟨w23v, w23e, w23⟩ := ziadd (a := w7x1) (b := (1 : Int32)) rfl li1 (by omega) (by omega)
          refine zs_iadd (pc := 28) t292_28 (c := w23v) w23e ?_
          refine zs_istore_n (pc := 29) t292_29 (ls' := [(1, .int w23v), (0, .ref 336), (2, .int w7x2)]) (zml mf292 (by decide)) rfl ?_
          obtain ⟨w24v, w24e, w24⟩ := ziadd (a := w7x2) (b := Int32.ofInt 1) rfl (show (Int32.ofInt 1).toInt = 1 by decide) (by omega) (by omega)
          refine zs_iinc (pc := 30) t292_30 (ls' := [(2, .int w24v), (1, .int w23v), (0, .ref 336)]) (zml mf292 (by decide)) rfl (c := w24v) w24e rfl ?_
          refine zs_goto (pc := 33) t292_33 ?_
          refine zGo.locals (ls' := [(0, .ref 336), (1, .int w23v), (2, .int w24v)]) (by simp) ?_
          have w25 := w23
          have w26 := w24
          have w27 : w23v.toInt = (w7x1.toInt + 1) := w23
          exact w7ih (w7m - 1) (by omega) w23v w24v ⟨by omega, by omega⟩ ⟨by omega, by omega⟩ (by omega) (by omega) (fun k hk => by obtain rfl : k = w13n + 1 := (by omega); have hw := x1.2.1 w13n (by omega); first | exact pct.up (n := w13n) (fun k hk => w7t0 k (by omega)) (zalv.y (by omega)) (by omega) rfl | exact pct.no (n := w13n) (fun k hk => w7t0 k (by omega)) (zalv.n (by omega)) (by omega) rfl) (by omega)
  refine zGo.locals (ls' := [(0, .ref 336), (1, .int (0 : Int32)), (2, .int (0 : Int32))]) (by simp) ?_
  have w28 := li0
  have w29 := li0
  exact w7L ((8 - 0 : Int).toNat) (0 : Int32) (0 : Int32) ⟨by decide, by decide⟩ ⟨by decide, by decide⟩ (by omega) (by omega) (fun k hk => by obtain rfl : k = 0 := (by omega); rfl) (by omega)
theorem O345 {X : zX} {l : Launch} {M : zM} {Q : Option Value → zM → Prop} (hs : zSk zMm M) (hI : zIv mLo mHi M) {F : Nat → Int} (x0 : zRw M 0 F) (x1 : zWF F) (hQ : ∀ v : Int32, (v.toInt = (zI M 336 48).toInt) → Q (some (.int v)) M) : zCall X l 0 0 0 345 [.ref 336] M Q := by
  refine zs_in (by decide) mf345 (Nat.le_of_ble_eq_true rfl) ?_
  show zGo X l 0 0 0 345 0 [(0, .ref 336)] [] M _
  have f1 := x1.1
  have f3 := x1.2.2.2
  have w1 := ibA0 hI
  have w2 : (zI M 337 0).toInt = (zI M 337 0).toInt := (congrArg Int32.toInt rfl).trans rfl
  have e0 : (zI M 337 0).toInt = F 0 := x0.at (by decide) (by decide) (by decide)
  have w3 := ibA1 hI
  have w4 : (zI M 337 1).toInt = (zI M 337 1).toInt := (congrArg Int32.toInt rfl).trans rfl
  have e1 : (zI M 337 1).toInt = F 1 := x0.at (by decide) (by decide) (by decide)
  have w5 := ibA2 hI
  have w6 : (zI M 337 2).toInt = (zI M 337 2).toInt := (congrArg Int32.toInt rfl).trans rfl
  have e2 : (zI M 337 2).toInt = F 2 := x0.at (by decide) (by decide) (by decide)
  refine zs_aload_n (pc := 0) t345_0 rfl ?_
  have w7 := zrg (zI M 336 48)
  refine zs_get (pc := 1) t345_1 (by decide) (zk1 (hs.k fk_zMm_336)) (zfvi rfl rfl) ?_
  exact zs_iret (pc := 4) t345_4 mr345 rfl (hQ _ (by omega))
theorem O304 {X : zX} {l : Launch} {M : zM} {Q : Option Value → zM → Prop} {a : Int32} (hs : zSk zMm M) (hI : zIv mLo mHi M) {F : Nat → Int} {n : Int} (x0 : zRw M 0 F) (x1 : zWF F) (x2 : (zI M 336 1).toInt = n) (hQ : ∀ v : Int32, ((a.toInt = 0 ∧ v.toInt = F 0) ∨ (a.toInt = 1 ∧ v.toInt = pct (zalv F) (F 0).toNat) ∨ (a.toInt = 2 ∧ v.toInt = F 1) ∨ (a.toInt = 3 ∧ v.toInt = pct (zctb F) (F 1).toNat) ∨ (a.toInt = 4 ∧ v.toInt = F 2) ∨ (5 ≤ a.toInt ∧ a.toInt ≤ 13 ∧ v.toInt = F (a.toInt).toNat) ∨ (a.toInt = 14 ∧ v.toInt = n) ∨ (a.toInt = 15 ∧ v.toInt = (zI M 336 5).toInt) ∨ ((a.toInt < 0 ∨ 15 < a.toInt) ∧ v.toInt = -1)) → Q (some (.int v)) M) : zCall X l 3 0 0 304 [.ref 336, .int a] M Q := by
  have ga := zrg a
  refine zs_in (by decide) mf304 (Nat.le_of_ble_eq_true rfl) ?_
  show zGo X l 3 0 0 304 0 [(0, .ref 336), (1, .int a)] [] M _
  have f1 := x1.1
  have f3 := x1.2.2.2
  have w1 := ibA0 hI
  have w2 : (zI M 337 0).toInt = (zI M 337 0).toInt := (congrArg Int32.toInt rfl).trans rfl
  have e0 : (zI M 337 0).toInt = F 0 := x0.at (by decide) (by decide) (by decide)
  have w3 := ibA1 hI
  have w4 : (zI M 337 1).toInt = (zI M 337 1).toInt := (congrArg Int32.toInt rfl).trans rfl
  have e1 : (zI M 337 1).toInt = F 1 := x0.at (by decide) (by decide) (by decide)
  have w5 := ibA2 hI
  have w6 : (zI M 337 2).toInt = (zI M 337 2).toInt := (congrArg Int32.toInt rfl).trans rfl
  have e2 : (zI M 337 2).toInt = F 2 := x0.at (by decide) (by decide) (by decide)
  refine zs_iload_n (pc := 0) t304_0 rfl ?_
  by_cases w7 : a.toInt = 0
  · refine zs_tswI (pc := 1) t304_1 ((rfl : a.toInt = a.toInt).trans w7) (by decide) rfl (pc2 := 80) rfl ?_
    refine zs_aload_n (pc := 80) t304_80 rfl ?_
    refine zs_get (pc := 81) t304_81 (by decide) (zk1 (hs.k fk_zMm_336)) (hs.p rfl fv_zMm_336_0) ?_
    refine zs_iconst (pc := 84) t304_84 (v := 0) (by decide) ?_
    have w8 : (zI M 337 0).toInt = F 0 := x0.at (by decide) (by decide) (by decide)
    refine zs_iald (pc := 85) t304_85 (j := 0) (by decide) (zk1 (hs.k fk_zMm_337)) li0 (zk2 (hs.k fk_zMm_337) (by decide)) rfl ?_
    exact zs_iret (pc := 86) t304_86 mr304 rfl (hQ _ (by first | exact Or.inl ⟨by omega, by omega⟩ | exact Or.inr (Or.inl ⟨by omega, by omega⟩) | exact Or.inr (Or.inr (Or.inl ⟨by omega, by omega⟩)) | exact Or.inr (Or.inr (Or.inr (Or.inl ⟨by omega, by omega⟩))) | exact Or.inr (Or.inr (Or.inr (Or.inr (Or.inl ⟨by omega, by omega⟩)))) | exact Or.inr (Or.inr (Or.inr (Or.inr (Or.inr (Or.inl ⟨by omega, by omega, by omega⟩))))) | exact Or.inr (Or.inr (Or.inr (Or.inr (Or.inr (Or.inr (Or.inl ⟨by omega, by omega⟩)))))) | exact Or.inr (Or.inr (Or.inr (Or.inr (Or.inr (Or.inr (Or.inr (Or.inl ⟨by omega, by omega⟩))))))) | exact Or.inr (Or.inr (Or.inr (Or.inr (Or.inr (Or.inr (Or.inr (Or.inr (⟨by omega, by omega⟩))))))))))
  by_cases w9 : a.toInt = 1
  · refine zs_tswI (pc := 1) t304_1 ((rfl : a.toInt = a.toInt).trans w9) (by decide) rfl (pc2 := 87) rfl ?_
    refine zs_aload_n (pc := 87) t304_87 rfl ?_
    refine zs_invV (pc := 88) (k := 336) (as' := []) (st := []) t304_88 mf292 rfl rfl (Or.inl ⟨by decide, (zk1 (hs.k fk_zMm_336))⟩) ⟨by decide, by decide, Nat.le_of_ble_eq_true rfl, Nat.le_of_ble_eq_true rfl⟩ (O292 hs hI x0 x1 ?_) (fun _ _ q => q)
    intro w10v w10x0
    have w10g := zrg w10v
    show zGo X l 3 0 0 304 91 [(0, .ref 336), (1, .int a)] [.int w10v] M _
    exact zs_iret (pc := 91) t304_91 mr304 rfl (hQ _ (by first | exact Or.inl ⟨by omega, by omega⟩ | exact Or.inr (Or.inl ⟨by omega, by omega⟩) | exact Or.inr (Or.inr (Or.inl ⟨by omega, by omega⟩)) | exact Or.inr (Or.inr (Or.inr (Or.inl ⟨by omega, by omega⟩))) | exact Or.inr (Or.inr (Or.inr (Or.inr (Or.inl ⟨by omega, by omega⟩)))) | exact Or.inr (Or.inr (Or.inr (Or.inr (Or.inr (Or.inl ⟨by omega, by omega, by omega⟩))))) | exact Or.inr (Or.inr (Or.inr (Or.inr (Or.inr (Or.inr (Or.inl ⟨by omega, by omega⟩)))))) | exact Or.inr (Or.inr (Or.inr (Or.inr (Or.inr (Or.inr (Or.inr (Or.inl ⟨by omega, by omega⟩))))))) | exact Or.inr (Or.inr (Or.inr (Or.inr (Or.inr (Or.inr (Or.inr (Or.inr (⟨by omega, by omega⟩))))))))))
  by_cases w11 : a.toInt = 2
  · refine zs_tswI (pc := 1) t304_1 ((rfl : a.toInt = a.toInt).trans w11) (by decide) rfl (pc2 := 92) rfl ?_
    refine zs_aload_n (pc := 92) t304_92 rfl ?_
    refine zs_get (pc := 93) t304_93 (by decide) (zk1 (hs.k fk_zMm_336)) (hs.p rfl fv_zMm_336_0) ?_
    refine zs_iconst (pc := 96) t304_96 (v := 1) (by decide) ?_
    have w12 : (zI M 337 1).toInt = F 1 := x0.at (by decide) (by decide) (by decide)
    refine zs_iald (pc := 97) t304_97 (j := 1) (by decide) (zk1 (hs.k fk_zMm_337)) li1 (zk2 (hs.k fk_zMm_337) (by decide)) rfl ?_
    exact zs_iret (pc := 98) t304_98 mr304 rfl (hQ _ (by first | exact Or.inl ⟨by omega, by omega⟩ | exact Or.inr (Or.inl ⟨by omega, by omega⟩) | exact Or.inr (Or.inr (Or.inl ⟨by omega, by omega⟩)) | exact Or.inr (Or.inr (Or.inr (Or.inl ⟨by omega, by omega⟩))) | exact Or.inr (Or.inr (Or.inr (Or.inr (Or.inl ⟨by omega, by omega⟩)))) | exact Or.inr (Or.inr (Or.inr (Or.inr (Or.inr (Or.inl ⟨by omega, by omega, by omega⟩))))) | exact Or.inr (Or.inr (Or.inr (Or.inr (Or.inr (Or.inr (Or.inl ⟨by omega, by omega⟩)))))) | exact Or.inr (Or.inr (Or.inr (Or.inr (Or.inr (Or.inr (Or.inr (Or.inl ⟨by omega, by omega⟩))))))) | exact Or.inr (Or.inr (Or.inr (Or.inr (Or.inr (Or.inr (Or.inr (Or.inr (⟨by omega, by omega⟩))))))))))
  by_cases w13 : a.toInt = 3
  · refine zs_tswI (pc := 1) t304_1 ((rfl : a.toInt = a.toInt).trans w13) (by decide) rfl (pc2 := 99) rfl ?_
    refine zs_aload_n (pc := 99) t304_99 rfl ?_
    refine zs_iconst (pc := 100) t304_100 (v := -1) (by decide) ?_
    refine zs_invV (pc := 101) (k := 336) (as' := [.int (-1 : Int32)]) (st := []) t304_101 mf290 rfl rfl (Or.inl ⟨by decide, (zk1 (hs.k fk_zMm_336))⟩) ⟨by decide, by decide, Nat.le_of_ble_eq_true rfl, Nat.le_of_ble_eq_true rfl⟩ (R290n hs hI x0 x1 ?_) (fun _ _ q => q)
    intro w14v w14x0
    have w14g := zrg w14v
    show zGo X l 3 0 0 304 104 [(0, .ref 336), (1, .int a)] [.int w14v] M _
    exact zs_iret (pc := 104) t304_104 mr304 rfl (hQ _ (by first | exact Or.inl ⟨by omega, by omega⟩ | exact Or.inr (Or.inl ⟨by omega, by omega⟩) | exact Or.inr (Or.inr (Or.inl ⟨by omega, by omega⟩)) | exact Or.inr (Or.inr (Or.inr (Or.inl ⟨by omega, by omega⟩))) | exact Or.inr (Or.inr (Or.inr (Or.inr (Or.inl ⟨by omega, by omega⟩)))) | exact Or.inr (Or.inr (Or.inr (Or.inr (Or.inr (Or.inl ⟨by omega, by omega, by omega⟩))))) | exact Or.inr (Or.inr (Or.inr (Or.inr (Or.inr (Or.inr (Or.inl ⟨by omega, by omega⟩)))))) | exact Or.inr (Or.inr (Or.inr (Or.inr (Or.inr (Or.inr (Or.inr (Or.inl ⟨by omega, by omega⟩))))))) | exact Or.inr (Or.inr (Or.inr (Or.inr (Or.inr (Or.inr (Or.inr (Or.inr (⟨by omega, by omega⟩))))))))))
  by_cases w15 : a.toInt = 4
  · refine zs_tswI (pc := 1) t304_1 ((rfl : a.toInt = a.toInt).trans w15) (by decide) rfl (pc2 := 105) rfl ?_
    refine zs_aload_n (pc := 105) t304_105 rfl ?_
    refine zs_get (pc := 106) t304_106 (by decide) (zk1 (hs.k fk_zMm_336)) (hs.p rfl fv_zMm_336_0) ?_
    refine zs_iconst (pc := 109) t304_109 (v := 2) (by decide) ?_
    have w16 : (zI M 337 2).toInt = F 2 := x0.at (by decide) (by decide) (by decide)
    refine zs_iald (pc := 110) t304_110 (j := 2) (by decide) (zk1 (hs.k fk_zMm_337)) li2 (zk2 (hs.k fk_zMm_337) (by decide)) rfl ?_
    exact zs_iret (pc := 111) t304_111 mr304 rfl (hQ _ (by first | exact Or.inl ⟨by omega, by omega⟩ | exact Or.inr (Or.inl ⟨by omega, by omega⟩) | exact Or.inr (Or.inr (Or.inl ⟨by omega, by omega⟩)) | exact Or.inr (Or.inr (Or.inr (Or.inl ⟨by omega, by omega⟩))) | exact Or.inr (Or.inr (Or.inr (Or.inr (Or.inl ⟨by omega, by omega⟩)))) | exact Or.inr (Or.inr (Or.inr (Or.inr (Or.inr (Or.inl ⟨by omega, by omega, by omega⟩))))) | exact Or.inr (Or.inr (Or.inr (Or.inr (Or.inr (Or.inr (Or.inl ⟨by omega, by omega⟩)))))) | exact Or.inr (Or.inr (Or.inr (Or.inr (Or.inr (Or.inr (Or.inr (Or.inl ⟨by omega, by omega⟩))))))) | exact Or.inr (Or.inr (Or.inr (Or.inr (Or.inr (Or.inr (Or.inr (Or.inr (⟨by omega, by omega⟩))))))))))
  by_cases w17 : a.toInt = 5
  · refine zs_tswI (pc := 1) t304_1 ((rfl : a.toInt = a.toInt).trans w17) (by decide) rfl (pc2 := 122) rfl ?_
    refine zs_iload_n (pc := 122) t304_122 rfl ?_
    refine zs_i2l (pc := 123) t304_123 rfl ?_
    refine zs_ldc2_w (pc := 124) t304_124 (v := 5) (by decide) ?_
    refine zs_ldc2_w (pc := 127) t304_127 (v := 13) (by decide) ?_
    refine zs_invS (pc := 130) (as := [.long a.toInt64, .long (5 : Int64), .long (13 : Int64)]) (st := []) t304_130 (by decide) mf228 rfl rfl ⟨by decide, by decide, Nat.le_of_ble_eq_true rfl, Nat.le_of_ble_eq_true rfl⟩ (K228T (zi2l rfl) ll5 ll13 (by omega) ?_) (fun _ _ q => q)
    show zGo X l 3 0 0 304 133 [(0, .ref 336), (1, .int a)] [.int (1 : Int32)] M _
    refine zs_if_eqF (pc := 133) t304_133 li1 (by decide) ?_
    refine zs_aload_n (pc := 136) t304_136 rfl ?_
    refine zs_get (pc := 137) t304_137 (by decide) (zk1 (hs.k fk_zMm_336)) (hs.p rfl fv_zMm_336_0) ?_
    refine zs_iconst (pc := 140) t304_140 (v := 5) (by decide) ?_
    refine zs_iload_n (pc := 141) t304_141 rfl ?_
    obtain ⟨w19v, w19e, w19⟩ := ziadd (a := (5 : Int32)) (b := a) li5 rfl (by omega) (by omega)
    refine zs_iadd (pc := 142) t304_142 (c := w19v) w19e ?_
    refine zs_iconst (pc := 143) t304_143 (v := 5) (by decide) ?_
    obtain ⟨w20v, w20e, w20⟩ := zisub (a := w19v) (b := (5 : Int32)) w19 li5 (by omega) (by omega)
    refine zs_isub (pc := 144) t304_144 (c := w20v) w20e ?_
    obtain ⟨w21n, w21⟩ : ∃ n : Nat, a.toInt = (n : Int) := ⟨(a.toInt).toNat, by omega⟩
    have w22 := zrg (zI M 337 w21n)
    have w23 : (zI M 337 w21n).toInt = F a.toInt.toNat := (x0.at (by omega) (by omega) (by omega)).trans (congrArg F (by omega))
    refine zs_iald (pc := 145) t304_145 (j := w21n) (by decide) (zk1 (hs.k fk_zMm_337)) (show w20v.toInt = ((w21n : Nat) : Int) by omega) (zk2 (hs.k fk_zMm_337) (by omega)) rfl ?_
    refine zs_goto (pc := 146) t304_146 ?_
    exact zs_iret (pc := 150) t304_150 mr304 rfl (hQ _ (by first | exact Or.inl ⟨by omega, by omega⟩ | exact Or.inr (Or.inl ⟨by omega, by omega⟩) | exact Or.inr (Or.inr (Or.inl ⟨by omega, by omega⟩)) | exact Or.inr (Or.inr (Or.inr (Or.inl ⟨by omega, by omega⟩))) | exact Or.inr (Or.inr (Or.inr (Or.inr (Or.inl ⟨by omega, by omega⟩)))) | exact Or.inr (Or.inr (Or.inr (Or.inr (Or.inr (Or.inl ⟨by omega, by omega, by omega⟩))))) | exact Or.inr (Or.inr (Or.inr (Or.inr (Or.inr (Or.inr (Or.inl ⟨by omega, by omega⟩)))))) | exact Or.inr (Or.inr (Or.inr (Or.inr (Or.inr (Or.inr (Or.inr (Or.inl ⟨by omega, by omega⟩))))))) | exact Or.inr (Or.inr (Or.inr (Or.inr (Or.inr (Or.inr (Or.inr (Or.inr (⟨by omega, by omega⟩))))))))))
  by_cases w24 : a.toInt = 6
  · refine zs_tswI (pc := 1) t304_1 ((rfl : a.toInt = a.toInt).trans w24) (by decide) rfl (pc2 := 122) rfl ?_
    refine zs_iload_n (pc := 122) t304_122 rfl ?_
    refine zs_i2l (pc := 123) t304_123 rfl ?_
    refine zs_ldc2_w (pc := 124) t304_124 (v := 5) (by decide) ?_
    refine zs_ldc2_w (pc := 127) t304_127 (v := 13) (by decide) ?_
    refine zs_invS (pc := 130) (as := [.long a.toInt64, .long (5 : Int64), .long (13 : Int64)]) (st := []) t304_130 (by decide) mf228 rfl rfl ⟨by decide, by decide, Nat.le_of_ble_eq_true rfl, Nat.le_of_ble_eq_true rfl⟩ (K228T (zi2l rfl) ll5 ll13 (by omega) ?_) (fun _ _ q => q)
    show zGo X l 3 0 0 304 133 [(0, .ref 336), (1, .int a)] [.int (1 : Int32)] M _
    refine zs_if_eqF (pc := 133) t304_133 li1 (by decide) ?_
    refine zs_aload_n (pc := 136) t304_136 rfl ?_
    refine zs_get (pc := 137) t304_137 (by decide) (zk1 (hs.k fk_zMm_336)) (hs.p rfl fv_zMm_336_0) ?_
    refine zs_iconst (pc := 140) t304_140 (v := 5) (by decide) ?_
    refine zs_iload_n (pc := 141) t304_141 rfl ?_
    obtain ⟨w26v, w26e, w26⟩ := ziadd (a := (5 : Int32)) (b := a) li5 rfl (by omega) (by omega)
    refine zs_iadd (pc := 142) t304_142 (c := w26v) w26e ?_
    refine zs_iconst (pc := 143) t304_143 (v := 5) (by decide) ?_
    obtain ⟨w27v, w27e, w27⟩ := zisub (a := w26v) (b := (5 : Int32)) w26 li5 (by omega) (by omega)
    refine zs_isub (pc := 144) t304_144 (c := w27v) w27e ?_
    obtain ⟨w28n, w28⟩ : ∃ n : Nat, a.toInt = (n : Int) := ⟨(a.toInt).toNat, by omega⟩
    have w29 := zrg (zI M 337 w28n)
    have w30 : (zI M 337 w28n).toInt = F a.toInt.toNat := (x0.at (by omega) (by omega) (by omega)).trans (congrArg F (by omega))
    refine zs_iald (pc := 145) t304_145 (j := w28n) (by decide) (zk1 (hs.k fk_zMm_337)) (show w27v.toInt = ((w28n : Nat) : Int) by omega) (zk2 (hs.k fk_zMm_337) (by omega)) rfl ?_
    refine zs_goto (pc := 146) t304_146 ?_
    exact zs_iret (pc := 150) t304_150 mr304 rfl (hQ _ (by first | exact Or.inl ⟨by omega, by omega⟩ | exact Or.inr (Or.inl ⟨by omega, by omega⟩) | exact Or.inr (Or.inr (Or.inl ⟨by omega, by omega⟩)) | exact Or.inr (Or.inr (Or.inr (Or.inl ⟨by omega, by omega⟩))) | exact Or.inr (Or.inr (Or.inr (Or.inr (Or.inl ⟨by omega, by omega⟩)))) | exact Or.inr (Or.inr (Or.inr (Or.inr (Or.inr (Or.inl ⟨by omega, by omega, by omega⟩))))) | exact Or.inr (Or.inr (Or.inr (Or.inr (Or.inr (Or.inr (Or.inl ⟨by omega, by omega⟩)))))) | exact Or.inr (Or.inr (Or.inr (Or.inr (Or.inr (Or.inr (Or.inr (Or.inl ⟨by omega, by omega⟩))))))) | exact Or.inr (Or.inr (Or.inr (Or.inr (Or.inr (Or.inr (Or.inr (Or.inr (⟨by omega, by omega⟩))))))))))
  by_cases w31 : a.toInt = 7
  · refine zs_tswI (pc := 1) t304_1 ((rfl : a.toInt = a.toInt).trans w31) (by decide) rfl (pc2 := 122) rfl ?_
    refine zs_iload_n (pc := 122) t304_122 rfl ?_
    refine zs_i2l (pc := 123) t304_123 rfl ?_
    refine zs_ldc2_w (pc := 124) t304_124 (v := 5) (by decide) ?_
    refine zs_ldc2_w (pc := 127) t304_127 (v := 13) (by decide) ?_
    refine zs_invS (pc := 130) (as := [.long a.toInt64, .long (5 : Int64), .long (13 : Int64)]) (st := []) t304_130 (by decide) mf228 rfl rfl ⟨by decide, by decide, Nat.le_of_ble_eq_true rfl, Nat.le_of_ble_eq_true rfl⟩ (K228T (zi2l rfl) ll5 ll13 (by omega) ?_) (fun _ _ q => q)
    show zGo X l 3 0 0 304 133 [(0, .ref 336), (1, .int a)] [.int (1 : Int32)] M _
    refine zs_if_eqF (pc := 133) t304_133 li1 (by decide) ?_
    refine zs_aload_n (pc := 136) t304_136 rfl ?_
    refine zs_get (pc := 137) t304_137 (by decide) (zk1 (hs.k fk_zMm_336)) (hs.p rfl fv_zMm_336_0) ?_
    refine zs_iconst (pc := 140) t304_140 (v := 5) (by decide) ?_
    refine zs_iload_n (pc := 141) t304_141 rfl ?_
    obtain ⟨w33v, w33e, w33⟩ := ziadd (a := (5 : Int32)) (b := a) li5 rfl (by omega) (by omega)
    refine zs_iadd (pc := 142) t304_142 (c := w33v) w33e ?_
    refine zs_iconst (pc := 143) t304_143 (v := 5) (by decide) ?_
    obtain ⟨w34v, w34e, w34⟩ := zisub (a := w33v) (b := (5 : Int32)) w33 li5 (by omega) (by omega)
    refine zs_isub (pc := 144) t304_144 (c := w34v) w34e ?_
    obtain ⟨w35n, w35⟩ : ∃ n : Nat, a.toInt = (n : Int) := ⟨(a.toInt).toNat, by omega⟩
    have w36 := zrg (zI M 337 w35n)
    have w37 : (zI M 337 w35n).toInt = F a.toInt.toNat := (x0.at (by omega) (by omega) (by omega)).trans (congrArg F (by omega))
    refine zs_iald (pc := 145) t304_145 (j := w35n) (by decide) (zk1 (hs.k fk_zMm_337)) (show w34v.toInt = ((w35n : Nat) : Int) by omega) (zk2 (hs.k fk_zMm_337) (by omega)) rfl ?_
    refine zs_goto (pc := 146) t304_146 ?_
    exact zs_iret (pc := 150) t304_150 mr304 rfl (hQ _ (by first | exact Or.inl ⟨by omega, by omega⟩ | exact Or.inr (Or.inl ⟨by omega, by omega⟩) | exact Or.inr (Or.inr (Or.inl ⟨by omega, by omega⟩)) | exact Or.inr (Or.inr (Or.inr (Or.inl ⟨by omega, by omega⟩))) | exact Or.inr (Or.inr (Or.inr (Or.inr (Or.inl ⟨by omega, by omega⟩)))) | exact Or.inr (Or.inr (Or.inr (Or.inr (Or.inr (Or.inl ⟨by omega, by omega, by omega⟩))))) | exact Or.inr (Or.inr (Or.inr (Or.inr (Or.inr (Or.inr (Or.inl ⟨by omega, by omega⟩)))))) | exact Or.inr (Or.inr (Or.inr (Or.inr (Or.inr (Or.inr (Or.inr (Or.inl ⟨by omega, by omega⟩))))))) | exact Or.inr (Or.inr (Or.inr (Or.inr (Or.inr (Or.inr (Or.inr (Or.inr (⟨by omega, by omega⟩))))))))))
  by_cases w38 : a.toInt = 8
  · refine zs_tswI (pc := 1) t304_1 ((rfl : a.toInt = a.toInt).trans w38) (by decide) rfl (pc2 := 122) rfl ?_
    refine zs_iload_n (pc := 122) t304_122 rfl ?_
    refine zs_i2l (pc := 123) t304_123 rfl ?_
    refine zs_ldc2_w (pc := 124) t304_124 (v := 5) (by decide) ?_
    refine zs_ldc2_w (pc := 127) t304_127 (v := 13) (by decide) ?_
    refine zs_invS (pc := 130) (as := [.long a.toInt64, .long (5 : Int64), .long (13 : Int64)]) (st := []) t304_130 (by decide) mf228 rfl rfl ⟨by decide, by decide, Nat.le_of_ble_eq_true rfl, Nat.le_of_ble_eq_true rfl⟩ (K228T (zi2l rfl) ll5 ll13 (by omega) ?_) (fun _ _ q => q)
    show zGo X l 3 0 0 304 133 [(0, .ref 336), (1, .int a)] [.int (1 : Int32)] M _
    refine zs_if_eqF (pc := 133) t304_133 li1 (by decide) ?_
    refine zs_aload_n (pc := 136) t304_136 rfl ?_
    refine zs_get (pc := 137) t304_137 (by decide) (zk1 (hs.k fk_zMm_336)) (hs.p rfl fv_zMm_336_0) ?_
    refine zs_iconst (pc := 140) t304_140 (v := 5) (by decide) ?_
    refine zs_iload_n (pc := 141) t304_141 rfl ?_
    obtain ⟨w40v, w40e, w40⟩ := ziadd (a := (5 : Int32)) (b := a) li5 rfl (by omega) (by omega)
    refine zs_iadd (pc := 142) t304_142 (c := w40v) w40e ?_
    refine zs_iconst (pc := 143) t304_143 (v := 5) (by decide) ?_
    obtain ⟨w41v, w41e, w41⟩ := zisub (a := w40v) (b := (5 : Int32)) w40 li5 (by omega) (by omega)
    refine zs_isub (pc := 144) t304_144 (c := w41v) w41e ?_
    obtain ⟨w42n, w42⟩ : ∃ n : Nat, a.toInt = (n : Int) := ⟨(a.toInt).toNat, by omega⟩
    have w43 := zrg (zI M 337 w42n)
    have w44 : (zI M 337 w42n).toInt = F a.toInt.toNat := (x0.at (by omega) (by omega) (by omega)).trans (congrArg F (by omega))
    refine zs_iald (pc := 145) t304_145 (j := w42n) (by decide) (zk1 (hs.k fk_zMm_337)) (show w41v.toInt = ((w42n : Nat) : Int) by omega) (zk2 (hs.k fk_zMm_337) (by omega)) rfl ?_
    refine zs_goto (pc := 146) t304_146 ?_
    exact zs_iret (pc := 150) t304_150 mr304 rfl (hQ _ (by first | exact Or.inl ⟨by omega, by omega⟩ | exact Or.inr (Or.inl ⟨by omega, by omega⟩) | exact Or.inr (Or.inr (Or.inl ⟨by omega, by omega⟩)) | exact Or.inr (Or.inr (Or.inr (Or.inl ⟨by omega, by omega⟩))) | exact Or.inr (Or.inr (Or.inr (Or.inr (Or.inl ⟨by omega, by omega⟩)))) | exact Or.inr (Or.inr (Or.inr (Or.inr (Or.inr (Or.inl ⟨by omega, by omega, by omega⟩))))) | exact Or.inr (Or.inr (Or.inr (Or.inr (Or.inr (Or.inr (Or.inl ⟨by omega, by omega⟩)))))) | exact Or.inr (Or.inr (Or.inr (Or.inr (Or.inr (Or.inr (Or.inr (Or.inl ⟨by omega, by omega⟩))))))) | exact Or.inr (Or.inr (Or.inr (Or.inr (Or.inr (Or.inr (Or.inr (Or.inr (⟨by omega, by omega⟩))))))))))
  by_cases w45 : a.toInt = 9
  · refine zs_tswI (pc := 1) t304_1 ((rfl : a.toInt = a.toInt).trans w45) (by decide) rfl (pc2 := 122) rfl ?_
    refine zs_iload_n (pc := 122) t304_122 rfl ?_
    refine zs_i2l (pc := 123) t304_123 rfl ?_
    refine zs_ldc2_w (pc := 124) t304_124 (v := 5) (by decide) ?_
    refine zs_ldc2_w (pc := 127) t304_127 (v := 13) (by decide) ?_
    refine zs_invS (pc := 130) (as := [.long a.toInt64, .long (5 : Int64), .long (13 : Int64)]) (st := []) t304_130 (by decide) mf228 rfl rfl ⟨by decide, by decide, Nat.le_of_ble_eq_true rfl, Nat.le_of_ble_eq_true rfl⟩ (K228T (zi2l rfl) ll5 ll13 (by omega) ?_) (fun _ _ q => q)
    show zGo X l 3 0 0 304 133 [(0, .ref 336), (1, .int a)] [.int (1 : Int32)] M _
    refine zs_if_eqF (pc := 133) t304_133 li1 (by decide) ?_
    refine zs_aload_n (pc := 136) t304_136 rfl ?_
    refine zs_get (pc := 137) t304_137 (by decide) (zk1 (hs.k fk_zMm_336)) (hs.p rfl fv_zMm_336_0) ?_
    refine zs_iconst (pc := 140) t304_140 (v := 5) (by decide) ?_
    refine zs_iload_n (pc := 141) t304_141 rfl ?_
    obtain ⟨w47v, w47e, w47⟩ := ziadd (a := (5 : Int32)) (b := a) li5 rfl (by omega) (by omega)
    refine zs_iadd (pc := 142) t304_142 (c := w47v) w47e ?_
    refine zs_iconst (pc := 143) t304_143 (v := 5) (by decide) ?_
    obtain ⟨w48v, w48e, w48⟩ := zisub (a := w47v) (b := (5 : Int32)) w47 li5 (by omega) (by omega)
    refine zs_isub (pc := 144) t304_144 (c := w48v) w48e ?_
    obtain ⟨w49n, w49⟩ : ∃ n : Nat, a.toInt = (n : Int) := ⟨(a.toInt).toNat, by omega⟩
    have w50 := zrg (zI M 337 w49n)
    have w51 : (zI M 337 w49n).toInt = F a.toInt.toNat := (x0.at (by omega) (by omega) (by omega)).trans (congrArg F (by omega))
    refine zs_iald (pc := 145) t304_145 (j := w49n) (by decide) (zk1 (hs.k fk_zMm_337)) (show w48v.toInt = ((w49n : Nat) : Int) by omega) (zk2 (hs.k fk_zMm_337) (by omega)) rfl ?_
    refine zs_goto (pc := 146) t304_146 ?_
    exact zs_iret (pc := 150) t304_150 mr304 rfl (hQ _ (by first | exact Or.inl ⟨by omega, by omega⟩ | exact Or.inr (Or.inl ⟨by omega, by omega⟩) | exact Or.inr (Or.inr (Or.inl ⟨by omega, by omega⟩)) | exact Or.inr (Or.inr (Or.inr (Or.inl ⟨by omega, by omega⟩))) | exact Or.inr (Or.inr (Or.inr (Or.inr (Or.inl ⟨by omega, by omega⟩)))) | exact Or.inr (Or.inr (Or.inr (Or.inr (Or.inr (Or.inl ⟨by omega, by omega, by omega⟩))))) | exact Or.inr (Or.inr (Or.inr (Or.inr (Or.inr (Or.inr (Or.inl ⟨by omega, by omega⟩)))))) | exact Or.inr (Or.inr (Or.inr (Or.inr (Or.inr (Or.inr (Or.inr (Or.inl ⟨by omega, by omega⟩))))))) | exact Or.inr (Or.inr (Or.inr (Or.inr (Or.inr (Or.inr (Or.inr (Or.inr (⟨by omega, by omega⟩))))))))))
  by_cases w52 : a.toInt = 10
  · refine zs_tswI (pc := 1) t304_1 ((rfl : a.toInt = a.toInt).trans w52) (by decide) rfl (pc2 := 122) rfl ?_
    refine zs_iload_n (pc := 122) t304_122 rfl ?_
    refine zs_i2l (pc := 123) t304_123 rfl ?_
    refine zs_ldc2_w (pc := 124) t304_124 (v := 5) (by decide) ?_
    refine zs_ldc2_w (pc := 127) t304_127 (v := 13) (by decide) ?_
    refine zs_invS (pc := 130) (as := [.long a.toInt64, .long (5 : Int64), .long (13 : Int64)]) (st := []) t304_130 (by decide) mf228 rfl rfl ⟨by decide, by decide, Nat.le_of_ble_eq_true rfl, Nat.le_of_ble_eq_true rfl⟩ (K228T (zi2l rfl) ll5 ll13 (by omega) ?_) (fun _ _ q => q)
    show zGo X l 3 0 0 304 133 [(0, .ref 336), (1, .int a)] [.int (1 : Int32)] M _
    refine zs_if_eqF (pc := 133) t304_133 li1 (by decide) ?_
    refine zs_aload_n (pc := 136) t304_136 rfl ?_
    refine zs_get (pc := 137) t304_137 (by decide) (zk1 (hs.k fk_zMm_336)) (hs.p rfl fv_zMm_336_0) ?_
    refine zs_iconst (pc := 140) t304_140 (v := 5) (by decide) ?_
    refine zs_iload_n (pc := 141) t304_141 rfl ?_
    obtain ⟨w54v, w54e, w54⟩ := ziadd (a := (5 : Int32)) (b := a) li5 rfl (by omega) (by omega)
    refine zs_iadd (pc := 142) t304_142 (c := w54v) w54e ?_
    refine zs_iconst (pc := 143) t304_143 (v := 5) (by decide) ?_
    obtain ⟨w55v, w55e, w55⟩ := zisub (a := w54v) (b := (5 : Int32)) w54 li5 (by omega) (by omega)
    refine zs_isub (pc := 144) t304_144 (c := w55v) w55e ?_
    obtain ⟨w56n, w56⟩ : ∃ n : Nat, a.toInt = (n : Int) := ⟨(a.toInt).toNat, by omega⟩
    have w57 := zrg (zI M 337 w56n)
    have w58 : (zI M 337 w56n).toInt = F a.toInt.toNat := (x0.at (by omega) (by omega) (by omega)).trans (congrArg F (by omega))
    refine zs_iald (pc := 145) t304_145 (j := w56n) (by decide) (zk1 (hs.k fk_zMm_337)) (show w55v.toInt = ((w56n : Nat) : Int) by omega) (zk2 (hs.k fk_zMm_337) (by omega)) rfl ?_
    refine zs_goto (pc := 146) t304_146 ?_
    exact zs_iret (pc := 150) t304_150 mr304 rfl (hQ _ (by first | exact Or.inl ⟨by omega, by omega⟩ | exact Or.inr (Or.inl ⟨by omega, by omega⟩) | exact Or.inr (Or.inr (Or.inl ⟨by omega, by omega⟩)) | exact Or.inr (Or.inr (Or.inr (Or.inl ⟨by omega, by omega⟩))) | exact Or.inr (Or.inr (Or.inr (Or.inr (Or.inl ⟨by omega, by omega⟩)))) | exact Or.inr (Or.inr (Or.inr (Or.inr (Or.inr (Or.inl ⟨by omega, by omega, by omega⟩))))) | exact Or.inr (Or.inr (Or.inr (Or.inr (Or.inr (Or.inr (Or.inl ⟨by omega, by omega⟩)))))) | exact Or.inr (Or.inr (Or.inr (Or.inr (Or.inr (Or.inr (Or.inr (Or.inl ⟨by omega, by omega⟩))))))) | exact Or.inr (Or.inr (Or.inr (Or.inr (Or.inr (Or.inr (Or.inr (Or.inr (⟨by omega, by omega⟩))))))))))
  by_cases w59 : a.toInt = 11
  · refine zs_tswI (pc := 1) t304_1 ((rfl : a.toInt = a.toInt).trans w59) (by decide) rfl (pc2 := 122) rfl ?_
    refine zs_iload_n (pc := 122) t304_122 rfl ?_
    refine zs_i2l (pc := 123) t304_123 rfl ?_
    refine zs_ldc2_w (pc := 124) t304_124 (v := 5) (by decide) ?_
    refine zs_ldc2_w (pc := 127) t304_127 (v := 13) (by decide) ?_
    refine zs_invS (pc := 130) (as := [.long a.toInt64, .long (5 : Int64), .long (13 : Int64)]) (st := []) t304_130 (by decide) mf228 rfl rfl ⟨by decide, by decide, Nat.le_of_ble_eq_true rfl, Nat.le_of_ble_eq_true rfl⟩ (K228T (zi2l rfl) ll5 ll13 (by omega) ?_) (fun _ _ q => q)
    show zGo X l 3 0 0 304 133 [(0, .ref 336), (1, .int a)] [.int (1 : Int32)] M _
    refine zs_if_eqF (pc := 133) t304_133 li1 (by decide) ?_
    refine zs_aload_n (pc := 136) t304_136 rfl ?_
    refine zs_get (pc := 137) t304_137 (by decide) (zk1 (hs.k fk_zMm_336)) (hs.p rfl fv_zMm_336_0) ?_
    refine zs_iconst (pc := 140) t304_140 (v := 5) (by decide) ?_
    refine zs_iload_n (pc := 141) t304_141 rfl ?_
    obtain ⟨w61v, w61e, w61⟩ := ziadd (a := (5 : Int32)) (b := a) li5 rfl (by omega) (by omega)
    refine zs_iadd (pc := 142) t304_142 (c := w61v) w61e ?_
    refine zs_iconst (pc := 143) t304_143 (v := 5) (by decide) ?_
    obtain ⟨w62v, w62e, w62⟩ := zisub (a := w61v) (b := (5 : Int32)) w61 li5 (by omega) (by omega)
    refine zs_isub (pc := 144) t304_144 (c := w62v) w62e ?_
    obtain ⟨w63n, w63⟩ : ∃ n : Nat, a.toInt = (n : Int) := ⟨(a.toInt).toNat, by omega⟩
    have w64 := zrg (zI M 337 w63n)
    have w65 : (zI M 337 w63n).toInt = F a.toInt.toNat := (x0.at (by omega) (by omega) (by omega)).trans (congrArg F (by omega))
    refine zs_iald (pc := 145) t304_145 (j := w63n) (by decide) (zk1 (hs.k fk_zMm_337)) (show w62v.toInt = ((w63n : Nat) : Int) by omega) (zk2 (hs.k fk_zMm_337) (by omega)) rfl ?_
    refine zs_goto (pc := 146) t304_146 ?_
    exact zs_iret (pc := 150) t304_150 mr304 rfl (hQ _ (by first | exact Or.inl ⟨by omega, by omega⟩ | exact Or.inr (Or.inl ⟨by omega, by omega⟩) | exact Or.inr (Or.inr (Or.inl ⟨by omega, by omega⟩)) | exact Or.inr (Or.inr (Or.inr (Or.inl ⟨by omega, by omega⟩))) | exact Or.inr (Or.inr (Or.inr (Or.inr (Or.inl ⟨by omega, by omega⟩)))) | exact Or.inr (Or.inr (Or.inr (Or.inr (Or.inr (Or.inl ⟨by omega, by omega, by omega⟩))))) | exact Or.inr (Or.inr (Or.inr (Or.inr (Or.inr (Or.inr (Or.inl ⟨by omega, by omega⟩)))))) | exact Or.inr (Or.inr (Or.inr (Or.inr (Or.inr (Or.inr (Or.inr (Or.inl ⟨by omega, by omega⟩))))))) | exact Or.inr (Or.inr (Or.inr (Or.inr (Or.inr (Or.inr (Or.inr (Or.inr (⟨by omega, by omega⟩))))))))))
  by_cases w66 : a.toInt = 12
  · refine zs_tswI (pc := 1) t304_1 ((rfl : a.toInt = a.toInt).trans w66) (by decide) rfl (pc2 := 122) rfl ?_
    refine zs_iload_n (pc := 122) t304_122 rfl ?_
    refine zs_i2l (pc := 123) t304_123 rfl ?_
    refine zs_ldc2_w (pc := 124) t304_124 (v := 5) (by decide) ?_
    refine zs_ldc2_w (pc := 127) t304_127 (v := 13) (by decide) ?_
    refine zs_invS (pc := 130) (as := [.long a.toInt64, .long (5 : Int64), .long (13 : Int64)]) (st := []) t304_130 (by decide) mf228 rfl rfl ⟨by decide, by decide, Nat.le_of_ble_eq_true rfl, Nat.le_of_ble_eq_true rfl⟩ (K228T (zi2l rfl) ll5 ll13 (by omega) ?_) (fun _ _ q => q)
    show zGo X l 3 0 0 304 133 [(0, .ref 336), (1, .int a)] [.int (1 : Int32)] M _
    refine zs_if_eqF (pc := 133) t304_133 li1 (by decide) ?_
    refine zs_aload_n (pc := 136) t304_136 rfl ?_
    refine zs_get (pc := 137) t304_137 (by decide) (zk1 (hs.k fk_zMm_336)) (hs.p rfl fv_zMm_336_0) ?_
    refine zs_iconst (pc := 140) t304_140 (v := 5) (by decide) ?_
    refine zs_iload_n (pc := 141) t304_141 rfl ?_
    obtain ⟨w68v, w68e, w68⟩ := ziadd (a := (5 : Int32)) (b := a) li5 rfl (by omega) (by omega)
    refine zs_iadd (pc := 142) t304_142 (c := w68v) w68e ?_
    refine zs_iconst (pc := 143) t304_143 (v := 5) (by decide) ?_
    obtain ⟨w69v, w69e, w69⟩ := zisub (a := w68v) (b := (5 : Int32)) w68 li5 (by omega) (by omega)
    refine zs_isub (pc := 144) t304_144 (c := w69v) w69e ?_
    obtain ⟨w70n, w70⟩ : ∃ n : Nat, a.toInt = (n : Int) := ⟨(a.toInt).toNat, by omega⟩
    have w71 := zrg (zI M 337 w70n)
    have w72 : (zI M 337 w70n).toInt = F a.toInt.toNat := (x0.at (by omega) (by omega) (by omega)).trans (congrArg F (by omega))
    refine zs_iald (pc := 145) t304_145 (j := w70n) (by decide) (zk1 (hs.k fk_zMm_337)) (show w69v.toInt = ((w70n : Nat) : Int) by omega) (zk2 (hs.k fk_zMm_337) (by omega)) rfl ?_
    refine zs_goto (pc := 146) t304_146 ?_
    exact zs_iret (pc := 150) t304_150 mr304 rfl (hQ _ (by first | exact Or.inl ⟨by omega, by omega⟩ | exact Or.inr (Or.inl ⟨by omega, by omega⟩) | exact Or.inr (Or.inr (Or.inl ⟨by omega, by omega⟩)) | exact Or.inr (Or.inr (Or.inr (Or.inl ⟨by omega, by omega⟩))) | exact Or.inr (Or.inr (Or.inr (Or.inr (Or.inl ⟨by omega, by omega⟩)))) | exact Or.inr (Or.inr (Or.inr (Or.inr (Or.inr (Or.inl ⟨by omega, by omega, by omega⟩))))) | exact Or.inr (Or.inr (Or.inr (Or.inr (Or.inr (Or.inr (Or.inl ⟨by omega, by omega⟩)))))) | exact Or.inr (Or.inr (Or.inr (Or.inr (Or.inr (Or.inr (Or.inr (Or.inl ⟨by omega, by omega⟩))))))) | exact Or.inr (Or.inr (Or.inr (Or.inr (Or.inr (Or.inr (Or.inr (Or.inr (⟨by omega, by omega⟩))))))))))
  by_cases w73 : a.toInt = 13
  · refine zs_tswI (pc := 1) t304_1 ((rfl : a.toInt = a.toInt).trans w73) (by decide) rfl (pc2 := 122) rfl ?_
    refine zs_iload_n (pc := 122) t304_122 rfl ?_
    refine zs_i2l (pc := 123) t304_123 rfl ?_
    refine zs_ldc2_w (pc := 124) t304_124 (v := 5) (by decide) ?_
    refine zs_ldc2_w (pc := 127) t304_127 (v := 13) (by decide) ?_
    refine zs_invS (pc := 130) (as := [.long a.toInt64, .long (5 : Int64), .long (13 : Int64)]) (st := []) t304_130 (by decide) mf228 rfl rfl ⟨by decide, by decide, Nat.le_of_ble_eq_true rfl, Nat.le_of_ble_eq_true rfl⟩ (K228T (zi2l rfl) ll5 ll13 (by omega) ?_) (fun _ _ q => q)
    show zGo X l 3 0 0 304 133 [(0, .ref 336), (1, .int a)] [.int (1 : Int32)] M _
    refine zs_if_eqF (pc := 133) t304_133 li1 (by decide) ?_
    refine zs_aload_n (pc := 136) t304_136 rfl ?_
    refine zs_get (pc := 137) t304_137 (by decide) (zk1 (hs.k fk_zMm_336)) (hs.p rfl fv_zMm_336_0) ?_
    refine zs_iconst (pc := 140) t304_140 (v := 5) (by decide) ?_
    refine zs_iload_n (pc := 141) t304_141 rfl ?_
    obtain ⟨w75v, w75e, w75⟩ := ziadd (a := (5 : Int32)) (b := a) li5 rfl (by omega) (by omega)
    refine zs_iadd (pc := 142) t304_142 (c := w75v) w75e ?_
    refine zs_iconst (pc := 143) t304_143 (v := 5) (by decide) ?_
    obtain ⟨w76v, w76e, w76⟩ := zisub (a := w75v) (b := (5 : Int32)) w75 li5 (by omega) (by omega)
    refine zs_isub (pc := 144) t304_144 (c := w76v) w76e ?_
    obtain ⟨w77n, w77⟩ : ∃ n : Nat, a.toInt = (n : Int) := ⟨(a.toInt).toNat, by omega⟩
    have w78 := zrg (zI M 337 w77n)
    have w79 : (zI M 337 w77n).toInt = F a.toInt.toNat := (x0.at (by omega) (by omega) (by omega)).trans (congrArg F (by omega))
    refine zs_iald (pc := 145) t304_145 (j := w77n) (by decide) (zk1 (hs.k fk_zMm_337)) (show w76v.toInt = ((w77n : Nat) : Int) by omega) (zk2 (hs.k fk_zMm_337) (by omega)) rfl ?_
    refine zs_goto (pc := 146) t304_146 ?_
    exact zs_iret (pc := 150) t304_150 mr304 rfl (hQ _ (by first | exact Or.inl ⟨by omega, by omega⟩ | exact Or.inr (Or.inl ⟨by omega, by omega⟩) | exact Or.inr (Or.inr (Or.inl ⟨by omega, by omega⟩)) | exact Or.inr (Or.inr (Or.inr (Or.inl ⟨by omega, by omega⟩))) | exact Or.inr (Or.inr (Or.inr (Or.inr (Or.inl ⟨by omega, by omega⟩)))) | exact Or.inr (Or.inr (Or.inr (Or.inr (Or.inr (Or.inl ⟨by omega, by omega, by omega⟩))))) | exact Or.inr (Or.inr (Or.inr (Or.inr (Or.inr (Or.inr (Or.inl ⟨by omega, by omega⟩)))))) | exact Or.inr (Or.inr (Or.inr (Or.inr (Or.inr (Or.inr (Or.inr (Or.inl ⟨by omega, by omega⟩))))))) | exact Or.inr (Or.inr (Or.inr (Or.inr (Or.inr (Or.inr (Or.inr (Or.inr (⟨by omega, by omega⟩))))))))))
  by_cases w80 : a.toInt = 14
  · refine zs_tswI (pc := 1) t304_1 ((rfl : a.toInt = a.toInt).trans w80) (by decide) rfl (pc2 := 112) rfl ?_
    refine zs_aload_n (pc := 112) t304_112 rfl ?_
    have w81 := ib336_1 hI
    refine zs_get (pc := 113) t304_113 (by decide) (zk1 (hs.k fk_zMm_336)) (zfvi rfl rfl) ?_
    exact zs_iret (pc := 116) t304_116 mr304 rfl (hQ _ (by first | exact Or.inl ⟨by omega, by omega⟩ | exact Or.inr (Or.inl ⟨by omega, by omega⟩) | exact Or.inr (Or.inr (Or.inl ⟨by omega, by omega⟩)) | exact Or.inr (Or.inr (Or.inr (Or.inl ⟨by omega, by omega⟩))) | exact Or.inr (Or.inr (Or.inr (Or.inr (Or.inl ⟨by omega, by omega⟩)))) | exact Or.inr (Or.inr (Or.inr (Or.inr (Or.inr (Or.inl ⟨by omega, by omega, by omega⟩))))) | exact Or.inr (Or.inr (Or.inr (Or.inr (Or.inr (Or.inr (Or.inl ⟨by omega, by omega⟩)))))) | exact Or.inr (Or.inr (Or.inr (Or.inr (Or.inr (Or.inr (Or.inr (Or.inl ⟨by omega, by omega⟩))))))) | exact Or.inr (Or.inr (Or.inr (Or.inr (Or.inr (Or.inr (Or.inr (Or.inr (⟨by omega, by omega⟩))))))))))
  by_cases w82 : a.toInt = 15
  · refine zs_tswI (pc := 1) t304_1 ((rfl : a.toInt = a.toInt).trans w82) (by decide) rfl (pc2 := 117) rfl ?_
    refine zs_aload_n (pc := 117) t304_117 rfl ?_
    have w83 := ib336_5 hI
    refine zs_get (pc := 118) t304_118 (by decide) (zk1 (hs.k fk_zMm_336)) (zfvi rfl rfl) ?_
    exact zs_iret (pc := 121) t304_121 mr304 rfl (hQ _ (by first | exact Or.inl ⟨by omega, by omega⟩ | exact Or.inr (Or.inl ⟨by omega, by omega⟩) | exact Or.inr (Or.inr (Or.inl ⟨by omega, by omega⟩)) | exact Or.inr (Or.inr (Or.inr (Or.inl ⟨by omega, by omega⟩))) | exact Or.inr (Or.inr (Or.inr (Or.inr (Or.inl ⟨by omega, by omega⟩)))) | exact Or.inr (Or.inr (Or.inr (Or.inr (Or.inr (Or.inl ⟨by omega, by omega, by omega⟩))))) | exact Or.inr (Or.inr (Or.inr (Or.inr (Or.inr (Or.inr (Or.inl ⟨by omega, by omega⟩)))))) | exact Or.inr (Or.inr (Or.inr (Or.inr (Or.inr (Or.inr (Or.inr (Or.inl ⟨by omega, by omega⟩))))))) | exact Or.inr (Or.inr (Or.inr (Or.inr (Or.inr (Or.inr (Or.inr (Or.inr (⟨by omega, by omega⟩))))))))))
  refine zs_tswD (pc := 1) t304_1 rfl (by omega) (pc2 := 122) rfl ?_
  refine zs_iload_n (pc := 122) t304_122 rfl ?_
  refine zs_i2l (pc := 123) t304_123 rfl ?_
  refine zs_ldc2_w (pc := 124) t304_124 (v := 5) (by decide) ?_
  refine zs_ldc2_w (pc := 127) t304_127 (v := 13) (by decide) ?_
  by_cases w84 : 5 ≤ a.toInt ∧ a.toInt ≤ 13
  · refine zs_invS (pc := 130) (as := [.long a.toInt64, .long (5 : Int64), .long (13 : Int64)]) (st := []) t304_130 (by decide) mf228 rfl rfl ⟨by decide, by decide, Nat.le_of_ble_eq_true rfl, Nat.le_of_ble_eq_true rfl⟩ (K228T (zi2l rfl) ll5 ll13 (by omega) ?_) (fun _ _ q => q)
    show zGo X l 3 0 0 304 133 [(0, .ref 336), (1, .int a)] [.int (1 : Int32)] M _
    refine zs_if_eqF (pc := 133) t304_133 li1 (by decide) ?_
    refine zs_aload_n (pc := 136) t304_136 rfl ?_
    refine zs_get (pc := 137) t304_137 (by decide) (zk1 (hs.k fk_zMm_336)) (hs.p rfl fv_zMm_336_0) ?_
    refine zs_iconst (pc := 140) t304_140 (v := 5) (by decide) ?_
    refine zs_iload_n (pc := 141) t304_141 rfl ?_
    obtain ⟨w85v, w85e, w85⟩ := ziadd (a := (5 : Int32)) (b := a) li5 rfl (by omega) (by omega)
    refine zs_iadd (pc := 142) t304_142 (c := w85v) w85e ?_
    refine zs_iconst (pc := 143) t304_143 (v := 5) (by decide) ?_
    obtain ⟨w86v, w86e, w86⟩ := zisub (a := w85v) (b := (5 : Int32)) w85 li5 (by omega) (by omega)
    refine zs_isub (pc := 144) t304_144 (c := w86v) w86e ?_
    obtain ⟨w87n, w87⟩ : ∃ n : Nat, a.toInt = (n : Int) := ⟨(a.toInt).toNat, by omega⟩
    have w88 := zrg (zI M 337 w87n)
    have w89 : (zI M 337 w87n).toInt = F a.toInt.toNat := (x0.at (by omega) (by omega) (by omega)).trans (congrArg F (by omega))
    refine zs_iald (pc := 145) t304_145 (j := w87n) (by decide) (zk1 (hs.k fk_zMm_337)) (show w86v.toInt = ((w87n : Nat) : Int) by omega) (zk2 (hs.k fk_zMm_337) (by omega)) rfl ?_
    refine zs_goto (pc := 146) t304_146 ?_
    exact zs_iret (pc := 150) t304_150 mr304 rfl (hQ _ (by first | exact Or.inl ⟨by omega, by omega⟩ | exact Or.inr (Or.inl ⟨by omega, by omega⟩) | exact Or.inr (Or.inr (Or.inl ⟨by omega, by omega⟩)) | exact Or.inr (Or.inr (Or.inr (Or.inl ⟨by omega, by omega⟩))) | exact Or.inr (Or.inr (Or.inr (Or.inr (Or.inl ⟨by omega, by omega⟩)))) | exact Or.inr (Or.inr (Or.inr (Or.inr (Or.inr (Or.inl ⟨by omega, by omega, by omega⟩))))) | exact Or.inr (Or.inr (Or.inr (Or.inr (Or.inr (Or.inr (Or.inl ⟨by omega, by omega⟩)))))) | exact Or.inr (Or.inr (Or.inr (Or.inr (Or.inr (Or.inr (Or.inr (Or.inl ⟨by omega, by omega⟩))))))) | exact Or.inr (Or.inr (Or.inr (Or.inr (Or.inr (Or.inr (Or.inr (Or.inr (⟨by omega, by omega⟩))))))))))
  · refine zs_invS (pc := 130) (as := [.long a.toInt64, .long (5 : Int64), .long (13 : Int64)]) (st := []) t304_130 (by decide) mf228 rfl rfl ⟨by decide, by decide, Nat.le_of_ble_eq_true rfl, Nat.le_of_ble_eq_true rfl⟩ (K228F (zi2l rfl) ll5 ll13 (by omega) ?_) (fun _ _ q => q)
    show zGo X l 3 0 0 304 133 [(0, .ref 336), (1, .int a)] [.int (0 : Int32)] M _
    refine zs_if_eqT (pc := 133) t304_133 li0 (by decide) ?_
    refine zs_iconst (pc := 149) t304_149 (v := -1) (by decide) ?_
    have w90 : (-1 : Int32).toInt = (-1) := lin1
    have w91 : (-1 : Int32).toInt = (-1) := lin1
    exact zs_iret (pc := 150) t304_150 mr304 (by decide) (hQ _ (by first | exact Or.inl ⟨by omega, by omega⟩ | exact Or.inr (Or.inl ⟨by omega, by omega⟩) | exact Or.inr (Or.inr (Or.inl ⟨by omega, by omega⟩)) | exact Or.inr (Or.inr (Or.inr (Or.inl ⟨by omega, by omega⟩))) | exact Or.inr (Or.inr (Or.inr (Or.inr (Or.inl ⟨by omega, by omega⟩)))) | exact Or.inr (Or.inr (Or.inr (Or.inr (Or.inr (Or.inl ⟨by omega, by omega, by omega⟩))))) | exact Or.inr (Or.inr (Or.inr (Or.inr (Or.inr (Or.inr (Or.inl ⟨by omega, by omega⟩)))))) | exact Or.inr (Or.inr (Or.inr (Or.inr (Or.inr (Or.inr (Or.inr (Or.inl ⟨by omega, by omega⟩))))))) | exact Or.inr (Or.inr (Or.inr (Or.inr (Or.inr (Or.inr (Or.inr (Or.inr (⟨by omega, by omega⟩))))))))))
theorem O305 {X : zX} {l : Launch} {M : zM} {Q : Option Value → zM → Prop} {a b : Int32} (hs : zSk zMm M) (hI : zIv mLo mHi M) {F : Nat → Int} (x0 : zRw M 0 F) (x1 : zWF F) (hQ : ∀ v : Int32, (((a.toInt < 0 ∨ F 0 ≤ a.toInt) ∧ v.toInt = -1) ∨ (0 ≤ a.toInt ∧ a.toInt < F 0 ∧ ((b.toInt = 0 ∧ v.toInt = F (14 + 2 * (a.toInt).toNat)) ∨ (b.toInt = 1 ∧ v.toInt = F (15 + 2 * (a.toInt).toNat)) ∨ (b.toInt = 2 ∧ v.toInt = pct (zcqB F 30 a.toInt) (F 1).toNat) ∨ ((b.toInt < 0 ∨ 2 < b.toInt) ∧ v.toInt = -1)))) → Q (some (.int v)) M) : zCall X l 3 0 0 305 [.ref 336, .int a, .int b] M Q := by
  have ga := zrg a
  have gb := zrg b
  refine zs_in (by decide) mf305 (Nat.le_of_ble_eq_true rfl) ?_
  show zGo X l 3 0 0 305 0 [(0, .ref 336), (1, .int a), (2, .int b)] [] M _
  have f1 := x1.1
  have f3 := x1.2.2.2
  have w1 := ibA0 hI
  have w2 : (zI M 337 0).toInt = (zI M 337 0).toInt := (congrArg Int32.toInt rfl).trans rfl
  have e0 : (zI M 337 0).toInt = F 0 := x0.at (by decide) (by decide) (by decide)
  have w3 := ibA1 hI
  have w4 : (zI M 337 1).toInt = (zI M 337 1).toInt := (congrArg Int32.toInt rfl).trans rfl
  have e1 : (zI M 337 1).toInt = F 1 := x0.at (by decide) (by decide) (by decide)
  have w5 := ibA2 hI
  have w6 : (zI M 337 2).toInt = (zI M 337 2).toInt := (congrArg Int32.toInt rfl).trans rfl
  have e2 : (zI M 337 2).toInt = F 2 := x0.at (by decide) (by decide) (by decide)
  refine zs_aload_n (pc := 0) t305_0 rfl ?_
  refine zs_iload_n (pc := 1) t305_1 rfl ?_
  refine zs_invV (pc := 2) (k := 336) (as' := [.int a]) (st := []) t305_2 mf306 rfl rfl (Or.inl ⟨by decide, (zk1 (hs.k fk_zMm_336))⟩) ⟨by decide, by decide, Nat.le_of_ble_eq_true rfl, Nat.le_of_ble_eq_true rfl⟩ (zs_in (by decide) mf306 (Nat.le_of_ble_eq_true rfl) ?_) (fun _ _ q => q)
  show zGo X l 1 0 0 306 0 [(0, .ref 336), (1, .int a)] [] M _
  refine zs_iload_n (pc := 0) t306_0 rfl ?_
  refine zs_i2l (pc := 1) t306_1 rfl ?_
  refine zs_lconst (pc := 2) t306_2 (v := 0) (by decide) ?_
  refine zs_aload_n (pc := 3) t306_3 rfl ?_
  refine zs_get (pc := 4) t306_4 (by decide) (zk1 (hs.k fk_zMm_336)) (hs.p rfl fv_zMm_336_0) ?_
  refine zs_iconst (pc := 7) t306_7 (v := 0) (by decide) ?_
  have w7 : (zI M 337 0).toInt = F 0 := x0.at (by decide) (by decide) (by decide)
  refine zs_iald (pc := 8) t306_8 (j := 0) (by decide) (zk1 (hs.k fk_zMm_337)) li0 (zk2 (hs.k fk_zMm_337) (by decide)) rfl ?_
  refine zs_iconst (pc := 9) t306_9 (v := 1) (by decide) ?_
  obtain ⟨w8v, w8e, w8⟩ := zisub (a := (zI M 337 0)) (b := (1 : Int32)) rfl li1 (by omega) (by omega)
  refine zs_isub (pc := 10) t306_10 (c := w8v) w8e ?_
  refine zs_i2l (pc := 11) t306_11 rfl ?_
  by_cases w9 : 0 ≤ a.toInt ∧ a.toInt ≤ ((zI M 337 0).toInt - 1)
  · refine zs_invS (pc := 12) (as := [.long a.toInt64, .long (0 : Int64), .long w8v.toInt64]) (st := []) t306_12 (by decide) mf228 rfl rfl ⟨by decide, by decide, Nat.le_of_ble_eq_true rfl, Nat.le_of_ble_eq_true rfl⟩ (K228T (zi2l rfl) ll0 (zi2l w8) (by omega) ?_) (fun _ _ q => q)
    show zGo X l 1 0 0 306 15 [(0, .ref 336), (1, .int a)] [.int (1 : Int32)] M _
    refine zs_iret (pc := 15) t306_15 mr306 (by decide) ?_
    show zGo X l 3 0 0 305 5 [(0, .ref 336), (1, .int a), (2, .int b)] [.int (1 : Int32)] M _
    refine zs_if_neT (pc := 5) t305_5 li1 (by decide) ?_
    refine zs_iload_n (pc := 10) t305_10 rfl ?_
    by_cases w10 : b.toInt ≠ 0
    · refine zs_if_neT (pc := 11) t305_11 rfl (by omega) ?_
      refine zs_iload_n (pc := 22) t305_22 rfl ?_
      refine zs_iconst (pc := 23) t305_23 (v := 1) (by decide) ?_
      by_cases w11 : b.toInt ≠ 1
      · refine zs_icmp_neT (pc := 24) t305_24 rfl li1 (by omega) ?_
        refine zs_iload_n (pc := 43) t305_43 rfl ?_
        refine zs_iconst (pc := 44) t305_44 (v := 2) (by decide) ?_
        by_cases w12 : b.toInt ≠ 2
        · refine zs_icmp_neT (pc := 45) t305_45 rfl li2 (by omega) ?_
          refine zs_iconst (pc := 56) t305_56 (v := -1) (by decide) ?_
          have w13 : (-1 : Int32).toInt = (-1) := lin1
          have w14 : (-1 : Int32).toInt = (-1) := lin1
          exact zs_iret (pc := 57) t305_57 mr305 (by decide) (hQ _ (by omega))
        · refine zs_icmp_neF (pc := 45) t305_45 rfl li2 (by omega) ?_
          refine zs_aload_n (pc := 48) t305_48 rfl ?_
          refine zs_iload_n (pc := 49) t305_49 rfl ?_
          refine zs_invV (pc := 50) (k := 336) (as' := [.int a]) (st := []) t305_50 mf290 rfl rfl (Or.inl ⟨by decide, (zk1 (hs.k fk_zMm_336))⟩) ⟨by decide, by decide, Nat.le_of_ble_eq_true rfl, Nat.le_of_ble_eq_true rfl⟩ (R290 hs hI (by omega) x0 x1 ?_) (fun _ _ q => q)
          intro w15v w15x0
          have w15g := zrg w15v
          show zGo X l 3 0 0 305 53 [(0, .ref 336), (1, .int a), (2, .int b)] [.int w15v] M _
          refine zs_goto (pc := 53) t305_53 ?_
          exact zs_iret (pc := 57) t305_57 mr305 rfl (hQ _ (by omega))
      · refine zs_icmp_neF (pc := 24) t305_24 rfl li1 (by omega) ?_
        refine zs_aload_n (pc := 27) t305_27 rfl ?_
        refine zs_get (pc := 28) t305_28 (by decide) (zk1 (hs.k fk_zMm_336)) (hs.p rfl fv_zMm_336_0) ?_
        refine zs_bipush (pc := 31) t305_31 (v := 14) (by decide) ?_
        refine zs_iconst (pc := 33) t305_33 (v := 2) (by decide) ?_
        refine zs_iload_n (pc := 34) t305_34 rfl ?_
        obtain ⟨w16v, w16⟩ : ∃ v, (2 : Int32) * a = v := ⟨_, rfl⟩
        have w16g : w16v.toInt = 2 * a.toInt := by rw [← w16]; exact zmulc li2 rfl (by omega) (by omega)
        refine zs_imul (pc := 35) t305_35 (c := w16v) w16 ?_
        obtain ⟨w17v, w17e, w17⟩ := ziadd (a := (14 : Int32)) (b := w16v) li14 w16g (by omega) (by omega)
        refine zs_iadd (pc := 36) t305_36 (c := w17v) w17e ?_
        refine zs_iconst (pc := 37) t305_37 (v := 1) (by decide) ?_
        obtain ⟨w18v, w18e, w18⟩ := ziadd (a := w17v) (b := (1 : Int32)) w17 li1 (by omega) (by omega)
        refine zs_iadd (pc := 38) t305_38 (c := w18v) w18e ?_
        obtain ⟨w19n, w19⟩ : ∃ n : Nat, a.toInt = (n : Int) := ⟨(a.toInt).toNat, by omega⟩
        have w20 := zrg (zI M 337 (15 + 2 * w19n))
        have w21 : (zI M 337 (15 + 2 * w19n)).toInt = F (15 + 2 * w19n) := x0.at (by omega) (by omega) (by omega)
        have w22 := x1.2.1 w19n (by omega)
        refine zs_iald (pc := 39) t305_39 (j := (15 + 2 * w19n)) (by decide) (zk1 (hs.k fk_zMm_337)) (show w18v.toInt = (((15 + 2 * w19n) : Nat) : Int) by omega) (zk2 (hs.k fk_zMm_337) (by omega)) rfl ?_
        refine zs_goto (pc := 40) t305_40 ?_
        exact zs_iret (pc := 57) t305_57 mr305 rfl (hQ _ (by rw [show a.toInt.toNat = w19n by omega]; omega))
    · refine zs_if_neF (pc := 11) t305_11 rfl (by omega) ?_
      refine zs_aload_n (pc := 14) t305_14 rfl ?_
      refine zs_iload_n (pc := 15) t305_15 rfl ?_
      refine zs_invV (pc := 16) (k := 336) (as' := [.int a]) (st := []) t305_16 mf241 rfl rfl (Or.inl ⟨by decide, (zk1 (hs.k fk_zMm_336))⟩) ⟨by decide, by decide, Nat.le_of_ble_eq_true rfl, Nat.le_of_ble_eq_true rfl⟩ (zs_in (by decide) mf241 (Nat.le_of_ble_eq_true rfl) ?_) (fun _ _ q => q)
      show zGo X l 0 0 0 241 0 [(0, .ref 336), (1, .int a)] [] M _
      refine zs_aload_n (pc := 0) t241_0 rfl ?_
      refine zs_get (pc := 1) t241_1 (by decide) (zk1 (hs.k fk_zMm_336)) (hs.p rfl fv_zMm_336_0) ?_
      refine zs_bipush (pc := 4) t241_4 (v := 14) (by decide) ?_
      refine zs_iconst (pc := 6) t241_6 (v := 2) (by decide) ?_
      refine zs_iload_n (pc := 7) t241_7 rfl ?_
      obtain ⟨w23v, w23⟩ : ∃ v, (2 : Int32) * a = v := ⟨_, rfl⟩
      have w23g : w23v.toInt = 2 * a.toInt := by rw [← w23]; exact zmulc li2 rfl (by omega) (by omega)
      refine zs_imul (pc := 8) t241_8 (c := w23v) w23 ?_
      obtain ⟨w24v, w24e, w24⟩ := ziadd (a := (14 : Int32)) (b := w23v) li14 w23g (by omega) (by omega)
      refine zs_iadd (pc := 9) t241_9 (c := w24v) w24e ?_
      obtain ⟨w25n, w25⟩ : ∃ n : Nat, a.toInt = (n : Int) := ⟨(a.toInt).toNat, by omega⟩
      have w26 := ibX (j := (14 + 2 * w25n)) hI (by omega) (by omega) (by omega)
      have w27 : (zI M 337 (14 + 2 * w25n)).toInt = F (14 + 2 * w25n) := x0.at (by omega) (by omega) (by omega)
      have w28 := x1.2.1 w25n (by omega)
      refine zs_iald (pc := 10) t241_10 (j := (14 + 2 * w25n)) (by decide) (zk1 (hs.k fk_zMm_337)) (show w24v.toInt = (((14 + 2 * w25n) : Nat) : Int) by omega) (zk2 (hs.k fk_zMm_337) (by omega)) rfl ?_
      refine zs_iret (pc := 11) t241_11 mr241 rfl ?_
      show zGo X l 3 0 0 305 19 [(0, .ref 336), (1, .int a), (2, .int b)] [.int (zI M 337 (14 + 2 * w25n))] M _
      refine zs_goto (pc := 19) t305_19 ?_
      exact zs_iret (pc := 57) t305_57 mr305 rfl (hQ _ (by rw [show a.toInt.toNat = w25n by omega]; omega))
  · refine zs_invS (pc := 12) (as := [.long a.toInt64, .long (0 : Int64), .long w8v.toInt64]) (st := []) t306_12 (by decide) mf228 rfl rfl ⟨by decide, by decide, Nat.le_of_ble_eq_true rfl, Nat.le_of_ble_eq_true rfl⟩ (K228F (zi2l rfl) ll0 (zi2l w8) (by omega) ?_) (fun _ _ q => q)
    show zGo X l 1 0 0 306 15 [(0, .ref 336), (1, .int a)] [.int (0 : Int32)] M _
    refine zs_iret (pc := 15) t306_15 mr306 (by decide) ?_
    show zGo X l 3 0 0 305 5 [(0, .ref 336), (1, .int a), (2, .int b)] [.int (0 : Int32)] M _
    refine zs_if_neF (pc := 5) t305_5 li0 (by decide) ?_
    refine zs_iconst (pc := 8) t305_8 (v := -1) (by decide) ?_
    have w29 : (-1 : Int32).toInt = (-1) := lin1
    have w30 : (-1 : Int32).toInt = (-1) := lin1
    exact zs_iret (pc := 9) t305_9 mr305 (by decide) (hQ _ (by omega))
theorem O314 {X : zX} {l : Launch} {M : zM} {Q : Option Value → zM → Prop} {a b c : Int32} (hs : zSk zMm M) (hI : zIv mLo mHi M) {F : Nat → Int} (x0 : zRw M 0 F) (x1 : zWF F) (hQ : ∀ v : Int32, (((a.toInt < 0 ∨ F 0 ≤ a.toInt ∨ b.toInt < -99 ∨ 99 < b.toInt ∨ c.toInt < -99 ∨ 99 < c.toInt) ∧ v.toInt = -100000) ∨ (0 ≤ a.toInt ∧ a.toInt < F 0 ∧ -99 ≤ b.toInt ∧ b.toInt ≤ 99 ∧ -99 ≤ c.toInt ∧ c.toInt ≤ 99 ∧ v.toInt = pLf F (a.toInt).toNat b.toInt c.toInt)) → Q (some (.int v)) M) : zCall X l 3 0 0 314 [.ref 336, .int a, .int b, .int c] M Q := by
  have ga := zrg a
  have gb := zrg b
  have gc := zrg c
  refine zs_in (by decide) mf314 (Nat.le_of_ble_eq_true rfl) ?_
  show zGo X l 3 0 0 314 0 [(0, .ref 336), (1, .int a), (2, .int b), (3, .int c)] [] M _
  have f1 := x1.1
  have f3 := x1.2.2.2
  have w1 := ibA0 hI
  have w2 : (zI M 337 0).toInt = (zI M 337 0).toInt := (congrArg Int32.toInt rfl).trans rfl
  have e0 : (zI M 337 0).toInt = F 0 := x0.at (by decide) (by decide) (by decide)
  have w3 := ibA1 hI
  have w4 : (zI M 337 1).toInt = (zI M 337 1).toInt := (congrArg Int32.toInt rfl).trans rfl
  have e1 : (zI M 337 1).toInt = F 1 := x0.at (by decide) (by decide) (by decide)
  have w5 := ibA2 hI
  have w6 : (zI M 337 2).toInt = (zI M 337 2).toInt := (congrArg Int32.toInt rfl).trans rfl
  have e2 : (zI M 337 2).toInt = F 2 := x0.at (by decide) (by decide) (by decide)
  refine zs_aload_n (pc := 0) t314_0 rfl ?_
  refine zs_iload_n (pc := 1) t314_1 rfl ?_
  refine zs_invV (pc := 2) (k := 336) (as' := [.int a]) (st := []) t314_2 mf306 rfl rfl (Or.inl ⟨by decide, (zk1 (hs.k fk_zMm_336))⟩) ⟨by decide, by decide, Nat.le_of_ble_eq_true rfl, Nat.le_of_ble_eq_true rfl⟩ (zs_in (by decide) mf306 (Nat.le_of_ble_eq_true rfl) ?_) (fun _ _ q => q)
  show zGo X l 1 0 0 306 0 [(0, .ref 336), (1, .int a)] [] M _
  refine zs_iload_n (pc := 0) t306_0 rfl ?_
  refine zs_i2l (pc := 1) t306_1 rfl ?_
  refine zs_lconst (pc := 2) t306_2 (v := 0) (by decide) ?_
  refine zs_aload_n (pc := 3) t306_3 rfl ?_
  refine zs_get (pc := 4) t306_4 (by decide) (zk1 (hs.k fk_zMm_336)) (hs.p rfl fv_zMm_336_0) ?_
  refine zs_iconst (pc := 7) t306_7 (v := 0) (by decide) ?_
  have w7 : (zI M 337 0).toInt = F 0 := x0.at (by decide) (by decide) (by decide)
  refine zs_iald (pc := 8) t306_8 (j := 0) (by decide) (zk1 (hs.k fk_zMm_337)) li0 (zk2 (hs.k fk_zMm_337) (by decide)) rfl ?_
  refine zs_iconst (pc := 9) t306_9 (v := 1) (by decide) ?_
  obtain ⟨w8v, w8e, w8⟩ := zisub (a := (zI M 337 0)) (b := (1 : Int32)) rfl li1 (by omega) (by omega)
  refine zs_isub (pc := 10) t306_10 (c := w8v) w8e ?_
  refine zs_i2l (pc := 11) t306_11 rfl ?_
  by_cases w9 : 0 ≤ a.toInt ∧ a.toInt ≤ ((zI M 337 0).toInt - 1)
  · refine zs_invS (pc := 12) (as := [.long a.toInt64, .long (0 : Int64), .long w8v.toInt64]) (st := []) t306_12 (by decide) mf228 rfl rfl ⟨by decide, by decide, Nat.le_of_ble_eq_true rfl, Nat.le_of_ble_eq_true rfl⟩ (K228T (zi2l rfl) ll0 (zi2l w8) (by omega) ?_) (fun _ _ q => q)
    show zGo X l 1 0 0 306 15 [(0, .ref 336), (1, .int a)] [.int (1 : Int32)] M _
    refine zs_iret (pc := 15) t306_15 mr306 (by decide) ?_
    show zGo X l 3 0 0 314 5 [(0, .ref 336), (1, .int a), (2, .int b), (3, .int c)] [.int (1 : Int32)] M _
    refine zs_if_eqF (pc := 5) t314_5 li1 (by decide) ?_
    refine zs_iload_n (pc := 8) t314_8 rfl ?_
    refine zs_i2l (pc := 9) t314_9 rfl ?_
    refine zs_ldc2_w (pc := 10) t314_10 (v := -99) (by decide) ?_
    refine zs_ldc2_w (pc := 13) t314_13 (v := 99) (by decide) ?_
    by_cases w10 : (-99) ≤ b.toInt ∧ b.toInt ≤ 99
    · refine zs_invS (pc := 16) (as := [.long b.toInt64, .long (-99 : Int64), .long (99 : Int64)]) (st := []) t314_16 (by decide) mf228 rfl rfl ⟨by decide, by decide, Nat.le_of_ble_eq_true rfl, Nat.le_of_ble_eq_true rfl⟩ (K228T (zi2l rfl) lln99 ll99 (by omega) ?_) (fun _ _ q => q)
      show zGo X l 3 0 0 314 19 [(0, .ref 336), (1, .int a), (2, .int b), (3, .int c)] [.int (1 : Int32)] M _
      refine zs_if_eqF (pc := 19) t314_19 li1 (by decide) ?_
      refine zs_iload_n (pc := 22) t314_22 rfl ?_
      refine zs_i2l (pc := 23) t314_23 rfl ?_
      refine zs_ldc2_w (pc := 24) t314_24 (v := -99) (by decide) ?_
      refine zs_ldc2_w (pc := 27) t314_27 (v := 99) (by decide) ?_
      by_cases w11 : (-99) ≤ c.toInt ∧ c.toInt ≤ 99
      · refine zs_invS (pc := 30) (as := [.long c.toInt64, .long (-99 : Int64), .long (99 : Int64)]) (st := []) t314_30 (by decide) mf228 rfl rfl ⟨by decide, by decide, Nat.le_of_ble_eq_true rfl, Nat.le_of_ble_eq_true rfl⟩ (K228T (zi2l rfl) lln99 ll99 (by omega) ?_) (fun _ _ q => q)
        show zGo X l 3 0 0 314 33 [(0, .ref 336), (1, .int a), (2, .int b), (3, .int c)] [.int (1 : Int32)] M _
        refine zs_if_eqF (pc := 33) t314_33 li1 (by decide) ?_
        refine zs_aload_n (pc := 36) t314_36 rfl ?_
        refine zs_iload_n (pc := 37) t314_37 rfl ?_
        refine zs_iload_n (pc := 38) t314_38 rfl ?_
        refine zs_iload_n (pc := 39) t314_39 rfl ?_
        obtain ⟨w12n, w12⟩ : ∃ n : Nat, a.toInt = (n : Int) := ⟨(a.toInt).toNat, by omega⟩
        refine zs_invV (pc := 40) (k := 336) (as' := [.int a, .int b, .int c]) (st := []) t314_40 mf249 rfl rfl (Or.inl ⟨by decide, (zk1 (hs.k fk_zMm_336))⟩) ⟨by decide, by decide, Nat.le_of_ble_eq_true rfl, Nat.le_of_ble_eq_true rfl⟩ (K249 hs hI ⟨by omega, by omega⟩ ?_) (fun _ _ q => q)
        have w13 := zrg (zlift M a b c)
        show zGo X l 3 0 0 314 43 [(0, .ref 336), (1, .int a), (2, .int b), (3, .int c)] [.int (zlift M a b c)] M _
        refine zs_goto (pc := 43) t314_43 ?_
        have w15 := zrg (zI M 337 (14 + 2 * w12n))
        have w14w := x1.2.1 w12n (by omega)
        have w14 : (zlift M a b c).toInt = pLf F w12n b.toInt c.toInt := zliftE (n := w12n) (by omega) rfl rfl (by omega) (by omega) (by omega) (by omega) (x0.at (by omega) (by omega) (by omega)) w14w.1 w14w.2.1
        exact zs_iret (pc := 49) t314_49 mr314 rfl (hQ _ (by rw [show a.toInt.toNat = w12n by omega]; omega))
      · refine zs_invS (pc := 30) (as := [.long c.toInt64, .long (-99 : Int64), .long (99 : Int64)]) (st := []) t314_30 (by decide) mf228 rfl rfl ⟨by decide, by decide, Nat.le_of_ble_eq_true rfl, Nat.le_of_ble_eq_true rfl⟩ (K228F (zi2l rfl) lln99 ll99 (by omega) ?_) (fun _ _ q => q)
        show zGo X l 3 0 0 314 33 [(0, .ref 336), (1, .int a), (2, .int b), (3, .int c)] [.int (0 : Int32)] M _
        refine zs_if_eqT (pc := 33) t314_33 li0 (by decide) ?_
        refine zs_ldc_w (pc := 46) t314_46 (v := -100000) rfl (by decide) ?_
        have w16 : (-100000 : Int32).toInt = (-100000) := lin100000
        have w17 : (-100000 : Int32).toInt = (-100000) := lin100000
        exact zs_iret (pc := 49) t314_49 mr314 (by decide) (hQ _ (by omega))
    · refine zs_invS (pc := 16) (as := [.long b.toInt64, .long (-99 : Int64), .long (99 : Int64)]) (st := []) t314_16 (by decide) mf228 rfl rfl ⟨by decide, by decide, Nat.le_of_ble_eq_true rfl, Nat.le_of_ble_eq_true rfl⟩ (K228F (zi2l rfl) lln99 ll99 (by omega) ?_) (fun _ _ q => q)
      show zGo X l 3 0 0 314 19 [(0, .ref 336), (1, .int a), (2, .int b), (3, .int c)] [.int (0 : Int32)] M _
      refine zs_if_eqT (pc := 19) t314_19 li0 (by decide) ?_
      refine zs_ldc_w (pc := 46) t314_46 (v := -100000) rfl (by decide) ?_
      have w18 : (-100000 : Int32).toInt = (-100000) := lin100000
      have w19 : (-100000 : Int32).toInt = (-100000) := lin100000
      exact zs_iret (pc := 49) t314_49 mr314 (by decide) (hQ _ (by omega))
  · refine zs_invS (pc := 12) (as := [.long a.toInt64, .long (0 : Int64), .long w8v.toInt64]) (st := []) t306_12 (by decide) mf228 rfl rfl ⟨by decide, by decide, Nat.le_of_ble_eq_true rfl, Nat.le_of_ble_eq_true rfl⟩ (K228F (zi2l rfl) ll0 (zi2l w8) (by omega) ?_) (fun _ _ q => q)
    show zGo X l 1 0 0 306 15 [(0, .ref 336), (1, .int a)] [.int (0 : Int32)] M _
    refine zs_iret (pc := 15) t306_15 mr306 (by decide) ?_
    show zGo X l 3 0 0 314 5 [(0, .ref 336), (1, .int a), (2, .int b), (3, .int c)] [.int (0 : Int32)] M _
    refine zs_if_eqT (pc := 5) t314_5 li0 (by decide) ?_
    refine zs_ldc_w (pc := 46) t314_46 (v := -100000) rfl (by decide) ?_
    have w20 : (-100000 : Int32).toInt = (-100000) := lin100000
    have w21 : (-100000 : Int32).toInt = (-100000) := lin100000
    exact zs_iret (pc := 49) t314_49 mr314 (by decide) (hQ _ (by omega))
theorem O341 {X : zX} {l : Launch} {M : zM} {Q : Option Value → zM → Prop} {a b : Int32} (hs : zSk zMm M) (hI : zIv mLo mHi M) {F : Nat → Int} (x0 : zRw M 0 F) (x1 : zWF F) (hQ : ∀ v : Int32, (zWnP F a.toInt b.toInt v.toInt) → Q (some (.int v)) M) : zCall X l 1 0 0 341 [.ref 336, .int a, .int b] M Q := by
  have ga := zrg a
  have gb := zrg b
  refine zs_in (by decide) mf341 (Nat.le_of_ble_eq_true rfl) ?_
  show zGo X l 1 0 0 341 0 [(0, .ref 336), (1, .int a), (2, .int b)] [] M _
  have f1 := x1.1
  have f3 := x1.2.2.2
  have w1 := ibA0 hI
  have w2 : (zI M 337 0).toInt = (zI M 337 0).toInt := (congrArg Int32.toInt rfl).trans rfl
  have e0 : (zI M 337 0).toInt = F 0 := x0.at (by decide) (by decide) (by decide)
  have w3 := ibA1 hI
  have w4 : (zI M 337 1).toInt = (zI M 337 1).toInt := (congrArg Int32.toInt rfl).trans rfl
  have e1 : (zI M 337 1).toInt = F 1 := x0.at (by decide) (by decide) (by decide)
  have w5 := ibA2 hI
  have w6 : (zI M 337 2).toInt = (zI M 337 2).toInt := (congrArg Int32.toInt rfl).trans rfl
  have e2 : (zI M 337 2).toInt = F 2 := x0.at (by decide) (by decide) (by decide)
  refine zs_iload_n (pc := 0) t341_0 rfl ?_
  refine zs_i2l (pc := 1) t341_1 rfl ?_
  refine zs_lconst (pc := 2) t341_2 (v := 1) (by decide) ?_
  refine zs_ldc2_w (pc := 3) t341_3 (v := 1000) (by decide) ?_
  by_cases w7 : 1 ≤ a.toInt ∧ a.toInt ≤ 1000
  · refine zs_invS (pc := 6) (as := [.long a.toInt64, .long (1 : Int64), .long (1000 : Int64)]) (st := []) t341_6 (by decide) mf228 rfl rfl ⟨by decide, by decide, Nat.le_of_ble_eq_true rfl, Nat.le_of_ble_eq_true rfl⟩ (K228T (zi2l rfl) ll1 ll1000 (by omega) ?_) (fun _ _ q => q)
    show zGo X l 1 0 0 341 9 [(0, .ref 336), (1, .int a), (2, .int b)] [.int (1 : Int32)] M _
    refine zs_if_eqF (pc := 9) t341_9 li1 (by decide) ?_
    refine zs_iload_n (pc := 12) t341_12 rfl ?_
    refine zs_i2l (pc := 13) t341_13 rfl ?_
    refine zs_lconst (pc := 14) t341_14 (v := 0) (by decide) ?_
    refine zs_lconst (pc := 15) t341_15 (v := 1) (by decide) ?_
    by_cases w8 : 0 ≤ b.toInt ∧ b.toInt ≤ 1
    · refine zs_invS (pc := 16) (as := [.long b.toInt64, .long (0 : Int64), .long (1 : Int64)]) (st := []) t341_16 (by decide) mf228 rfl rfl ⟨by decide, by decide, Nat.le_of_ble_eq_true rfl, Nat.le_of_ble_eq_true rfl⟩ (K228T (zi2l rfl) ll0 ll1 (by omega) ?_) (fun _ _ q => q)
      show zGo X l 1 0 0 341 19 [(0, .ref 336), (1, .int a), (2, .int b)] [.int (1 : Int32)] M _
      refine zs_if_neT (pc := 19) t341_19 li1 (by decide) ?_
      refine zs_iconst (pc := 24) t341_24 (v := 0) (by decide) ?_
      refine zs_istore_n (pc := 25) t341_25 (ls' := [(3, .int (0 : Int32)), (0, .ref 336), (1, .int a), (2, .int b)]) (zml mf341 (by decide)) rfl ?_
      refine zs_iconst (pc := 26) t341_26 (v := -1) (by decide) ?_
      refine zs_istore (pc := 27) t341_27 (ls' := [(4, .int (-1 : Int32)), (3, .int (0 : Int32)), (0, .ref 336), (1, .int a), (2, .int b)]) (zml mf341 (by decide)) rfl ?_
      refine zs_iconst (pc := 29) t341_29 (v := 0) (by decide) ?_
      refine zs_istore (pc := 30) t341_30 (ls' := [(5, .int (0 : Int32)), (4, .int (-1 : Int32)), (3, .int (0 : Int32)), (0, .ref 336), (1, .int a), (2, .int b)]) (zml mf341 (by decide)) rfl ?_
      have w9L : ∀ (m : Nat) (w9x3 : Int32) (w9x4 : Int32) (w9x5 : Int32), (0 ≤ w9x3.toInt ∧ w9x3.toInt ≤ 1000) → ((-1) ≤ w9x4.toInt ∧ w9x4.toInt ≤ 60) → (0 ≤ w9x5.toInt ∧ w9x5.toInt ≤ 1000) → (w9x5.toInt + a.toInt ≤ 1001) → (zWm F a.toInt w9x3.toInt w9x4.toInt w9x5.toInt) → 1000 - w9x5.toInt ≤ (m : Int) → zGo X l 1 0 0 341 32 [(0, .ref 336), (1, .int a), (2, .int b), (3, .int w9x3), (4, .int w9x4), (5, .int w9x5)] [] M Q := by
        intro m
        induction m using Nat.strongRecOn with
        | ind w9m w9ih =>
          intro w9x3 w9x4 w9x5 w9b3 w9b4 w9b5 w9r0 w9t0 w9q
          refine zs_iload (pc := 32) t341_32 rfl ?_
          refine zs_iload_n (pc := 34) t341_34 rfl ?_
          obtain ⟨w10v, w10e, w10⟩ := ziadd (a := w9x5) (b := a) rfl rfl (by omega) (by omega)
          refine zs_iadd (pc := 35) t341_35 (c := w10v) w10e ?_
          refine zs_sipush (pc := 36) t341_36 (v := 1000) (by decide) ?_
          by_cases w11 : 1000 < (w9x5.toInt + a.toInt)
          · refine zs_icmp_gtT (pc := 39) t341_39 w10 li1000 (by omega) ?_
            refine zs_iload_n (pc := 136) t341_136 rfl ?_
            by_cases w12 : b.toInt ≠ 0
            · refine zs_if_neT (pc := 137) t341_137 rfl (by omega) ?_
              refine zs_iload (pc := 144) t341_144 rfl ?_
              exact zs_iret (pc := 146) t341_146 mr341 rfl (hQ _ (zWnP.m (x := w9x3.toInt) (m := w9x4.toInt) (t := w9x5.toInt) (by omega) (by omega) (by omega) (by omega) (by omega) (by omega) w9t0 (by omega)))
            · refine zs_if_neF (pc := 137) t341_137 rfl (by omega) ?_
              refine zs_iload_n (pc := 140) t341_140 rfl ?_
              refine zs_goto (pc := 141) t341_141 ?_
              exact zs_iret (pc := 146) t341_146 mr341 rfl (hQ _ (zWnP.m (x := w9x3.toInt) (m := w9x4.toInt) (t := w9x5.toInt) (by omega) (by omega) (by omega) (by omega) (by omega) (by omega) w9t0 (by omega)))
          · refine zs_icmp_gtF (pc := 39) t341_39 w10 li1000 (by omega) ?_
            refine zs_iconst (pc := 42) t341_42 (v := 0) (by decide) ?_
            refine zs_istore (pc := 43) t341_43 (ls' := [(6, .int (0 : Int32)), (0, .ref 336), (1, .int a), (2, .int b), (3, .int w9x3), (4, .int w9x4), (5, .int w9x5)]) (zml mf341 (by decide)) rfl ?_
            refine zs_iconst (pc := 45) t341_45 (v := 0) (by decide) ?_
            refine zs_istore (pc := 46) t341_46 (ls' := [(7, .int (0 : Int32)), (6, .int (0 : Int32)), (0, .ref 336), (1, .int a), (2, .int b), (3, .int w9x3), (4, .int w9x4), (5, .int w9x5)]) (zml mf341 (by decide)) rfl ?_
            have w13L : ∀ (m : Nat) (w13x6 : Int32) (w13x7 : Int32), (0 ≤ w13x6.toInt ∧ w13x6.toInt ≤ 60) → (0 ≤ w13x7.toInt ∧ w13x7.toInt ≤ 60) → (w13x6.toInt ≤ w13x7.toInt) → (w13x7.toInt ≤ F 1) → (∀ k : Nat, (k : Int) = w13x7.toInt → w13x6.toInt = pct (zwin F w9x5.toInt (w9x5.toInt + a.toInt - 1)) k) → 60 - w13x7.toInt ≤ (m : Int) → zGo X l 1 0 0 341 48 [(0, .ref 336), (1, .int a), (2, .int b), (3, .int w9x3), (4, .int w9x4), (5, .int w9x5), (6, .int w13x6), (7, .int w13x7)] [] M Q := by
              intro m
              induction m using Nat.strongRecOn with
              | ind w13m w13ih =>
                intro w13x6 w13x7 w13b6 w13b7 w13r0 w13r1 w13t0 w13q
                refine zs_iload (pc := 48) t341_48 rfl ?_
                refine zs_aload_n (pc := 50) t341_50 rfl ?_
                refine zs_get (pc := 51) t341_51 (by decide) (zk1 (hs.k fk_zMm_336)) (hs.p rfl fv_zMm_336_0) ?_
                refine zs_iconst (pc := 54) t341_54 (v := 1) (by decide) ?_
                have w14 : (zI M 337 1).toInt = F 1 := x0.at (by decide) (by decide) (by decide)
                refine zs_iald (pc := 55) t341_55 (j := 1) (by decide) (zk1 (hs.k fk_zMm_337)) li1 (zk2 (hs.k fk_zMm_337) (by decide)) rfl ?_
                by_cases w15 : (zI M 337 1).toInt ≤ w13x7.toInt
                · refine zs_icmp_geT (pc := 56) t341_56 rfl rfl (by omega) ?_
                  refine zs_iload (pc := 113) t341_113 rfl ?_
                  refine zs_iload (pc := 115) t341_115 rfl ?_
                  by_cases w16 : w9x4.toInt < w13x6.toInt
                  · refine zs_icmp_gtT (pc := 117) t341_117 rfl rfl (by omega) ?_
                    refine zs_iload (pc := 123) t341_123 rfl ?_
                    refine zs_istore_n (pc := 125) t341_125 (ls' := [(3, .int w9x5), (0, .ref 336), (1, .int a), (2, .int b), (4, .int w9x4), (5, .int w9x5), (6, .int w13x6), (7, .int w13x7)]) (zml mf341 (by decide)) rfl ?_
                    refine zs_iload (pc := 126) t341_126 rfl ?_
                    refine zs_istore (pc := 128) t341_128 (ls' := [(4, .int w13x6), (3, .int w9x5), (0, .ref 336), (1, .int a), (2, .int b), (5, .int w9x5), (6, .int w13x6), (7, .int w13x7)]) (zml mf341 (by decide)) rfl ?_
                    obtain ⟨w17v, w17e, w17⟩ := ziadd (a := w9x5) (b := Int32.ofInt 1) rfl (show (Int32.ofInt 1).toInt = 1 by decide) (by omega) (by omega)
                    refine zs_iinc (pc := 130) t341_130 (ls' := [(5, .int w17v), (4, .int w13x6), (3, .int w9x5), (0, .ref 336), (1, .int a), (2, .int b), (6, .int w13x6), (7, .int w13x7)]) (zml mf341 (by decide)) rfl (c := w17v) w17e rfl ?_
                    refine zs_goto (pc := 133) t341_133 ?_
                    refine zGo.locals (ls' := [(0, .ref 336), (1, .int a), (2, .int b), (3, .int w9x5), (4, .int w13x6), (5, .int w17v)]) (by simp) ?_
                    have w18 := w17
                    have w20 : w17v.toInt = (w9x5.toInt + 1) := w17
                    have w19 : w13x6.toInt = cW F a.toInt w9x5.toInt := w13t0 (F 1).toNat (by omega)
                    exact w9ih (w9m - 1) (by omega) w9x5 w13x6 w17v ⟨by omega, by omega⟩ ⟨by omega, by omega⟩ ⟨by omega, by omega⟩ (by omega) (zWm.up w9t0 (by omega) (by omega) (by omega)) (by omega)
                  · refine zs_icmp_gtF (pc := 117) t341_117 rfl rfl (by omega) ?_
                    refine zs_goto (pc := 120) t341_120 ?_
                    obtain ⟨w21v, w21e, w21⟩ := ziadd (a := w9x5) (b := Int32.ofInt 1) rfl (show (Int32.ofInt 1).toInt = 1 by decide) (by omega) (by omega)
                    refine zs_iinc (pc := 130) t341_130 (ls' := [(5, .int w21v), (0, .ref 336), (1, .int a), (2, .int b), (3, .int w9x3), (4, .int w9x4), (6, .int w13x6), (7, .int w13x7)]) (zml mf341 (by decide)) rfl (c := w21v) w21e rfl ?_
                    refine zs_goto (pc := 133) t341_133 ?_
                    refine zGo.locals (ls' := [(0, .ref 336), (1, .int a), (2, .int b), (3, .int w9x3), (4, .int w9x4), (5, .int w21v)]) (by simp) ?_
                    have w22 := w21
                    have w24 : w21v.toInt = (w9x5.toInt + 1) := w21
                    have w23 : w13x6.toInt = cW F a.toInt w9x5.toInt := w13t0 (F 1).toNat (by omega)
                    exact w9ih (w9m - 1) (by omega) w9x3 w9x4 w21v ⟨by omega, by omega⟩ ⟨by omega, by omega⟩ ⟨by omega, by omega⟩ (by omega) (zWm.up w9t0 (by omega) (by omega) (by omega)) (by omega)
                · refine zs_icmp_geF (pc := 56) t341_56 rfl rfl (by omega) ?_
                  refine zs_iload (pc := 59) t341_59 rfl ?_
                  refine zs_aload_n (pc := 61) t341_61 rfl ?_
                  refine zs_aload_n (pc := 62) t341_62 rfl ?_
                  refine zs_iload (pc := 63) t341_63 rfl ?_
                  refine zs_iconst (pc := 65) t341_65 (v := 0) (by decide) ?_
                  refine zs_invV (pc := 66) (k := 336) (as' := [.int w13x7, .int (0 : Int32)]) (st := [.ref 336, .int w13x6]) t341_66 mf272 rfl rfl (Or.inl ⟨by decide, (zk1 (hs.k fk_zMm_336))⟩) ⟨by decide, by decide, Nat.le_of_ble_eq_true rfl, Nat.le_of_ble_eq_true rfl⟩ (zs_in (by decide) mf272 (Nat.le_of_ble_eq_true rfl) ?_) (fun _ _ q => q)
                  show zGo X l 0 0 0 272 0 [(0, .ref 336), (1, .int w13x7), (2, .int (0 : Int32))] [] M _
                  refine zs_aload_n (pc := 0) t272_0 rfl ?_
                  refine zs_get (pc := 1) t272_1 (by decide) (zk1 (hs.k fk_zMm_336)) (hs.p rfl fv_zMm_336_0) ?_
                  refine zs_bipush (pc := 4) t272_4 (v := 30) (by decide) ?_
                  refine zs_iconst (pc := 6) t272_6 (v := 4) (by decide) ?_
                  refine zs_iload_n (pc := 7) t272_7 rfl ?_
                  obtain ⟨w25v, w25⟩ : ∃ v, (4 : Int32) * w13x7 = v := ⟨_, rfl⟩
                  have w25g : w25v.toInt = 4 * w13x7.toInt := by rw [← w25]; exact zmulc li4 rfl (by omega) (by omega)
                  refine zs_imul (pc := 8) t272_8 (c := w25v) w25 ?_
                  obtain ⟨w26v, w26e, w26⟩ := ziadd (a := (30 : Int32)) (b := w25v) li30 w25g (by omega) (by omega)
                  refine zs_iadd (pc := 9) t272_9 (c := w26v) w26e ?_
                  refine zs_iload_n (pc := 10) t272_10 rfl ?_
                  obtain ⟨w27v, w27e, w27⟩ := ziadd (a := w26v) (b := (0 : Int32)) w26 li0 (by omega) (by omega)
                  refine zs_iadd (pc := 11) t272_11 (c := w27v) w27e ?_
                  obtain ⟨w28n, w28⟩ : ∃ n : Nat, w13x7.toInt = (n : Int) := ⟨(w13x7.toInt).toNat, by omega⟩
                  have w29 := ibL (j := (30 + 4 * w28n)) hI (by omega) (by omega) (by omega)
                  have w30 : (zI M 337 (30 + 4 * w28n)).toInt = F (30 + 4 * w28n) := x0.at (by omega) (by omega) (by omega)
                  have w31 := x1.2.2.1 w28n (by omega)
                  refine zs_iald (pc := 12) t272_12 (j := (30 + 4 * w28n)) (by decide) (zk1 (hs.k fk_zMm_337)) (show w27v.toInt = (((30 + 4 * w28n) : Nat) : Int) by omega) (zk2 (hs.k fk_zMm_337) (by omega)) rfl ?_
                  refine zs_iret (pc := 13) t272_13 mr272 rfl ?_
                  show zGo X l 1 0 0 341 69 [(0, .ref 336), (1, .int a), (2, .int b), (3, .int w9x3), (4, .int w9x4), (5, .int w9x5), (6, .int w13x6), (7, .int w13x7)] [.int (zI M 337 (30 + 4 * w28n)), .ref 336, .int w13x6] M _
                  refine zs_invV (pc := 69) (k := 336) (as' := [.int (zI M 337 (30 + 4 * w28n))]) (st := [.int w13x6]) t341_69 mf273 rfl rfl (Or.inl ⟨by decide, (zk1 (hs.k fk_zMm_336))⟩) ⟨by decide, by decide, Nat.le_of_ble_eq_true rfl, Nat.le_of_ble_eq_true rfl⟩ (zs_in (by decide) mf273 (Nat.le_of_ble_eq_true rfl) ?_) (fun _ _ q => q)
                  show zGo X l 0 0 0 273 0 [(0, .ref 336), (1, .int (zI M 337 (30 + 4 * w28n)))] [] M _
                  refine zs_aload_n (pc := 0) t273_0 rfl ?_
                  refine zs_get (pc := 1) t273_1 (by decide) (zk1 (hs.k fk_zMm_336)) (hs.p rfl fv_zMm_336_0) ?_
                  refine zs_bipush (pc := 4) t273_4 (v := 14) (by decide) ?_
                  refine zs_iconst (pc := 6) t273_6 (v := 2) (by decide) ?_
                  refine zs_iload_n (pc := 7) t273_7 rfl ?_
                  obtain ⟨w32v, w32⟩ : ∃ v, (2 : Int32) * (zI M 337 (30 + 4 * w28n)) = v := ⟨_, rfl⟩
                  have w32g : w32v.toInt = 2 * (zI M 337 (30 + 4 * w28n)).toInt := by rw [← w32]; exact zmulc li2 rfl (by omega) (by omega)
                  refine zs_imul (pc := 8) t273_8 (c := w32v) w32 ?_
                  obtain ⟨w33v, w33e, w33⟩ := ziadd (a := (14 : Int32)) (b := w32v) li14 w32g (by omega) (by omega)
                  refine zs_iadd (pc := 9) t273_9 (c := w33v) w33e ?_
                  refine zs_iconst (pc := 10) t273_10 (v := 1) (by decide) ?_
                  obtain ⟨w34v, w34e, w34⟩ := ziadd (a := w33v) (b := (1 : Int32)) w33 li1 (by omega) (by omega)
                  refine zs_iadd (pc := 11) t273_11 (c := w34v) w34e ?_
                  obtain ⟨w35n, w35⟩ : ∃ n : Nat, (zI M 337 (30 + 4 * w28n)).toInt = (n : Int) := ⟨((zI M 337 (30 + 4 * w28n)).toInt).toNat, by omega⟩
                  have w36 := zrg (zI M 337 (15 + 2 * w35n))
                  have w37 : (zI M 337 (15 + 2 * w35n)).toInt = F (15 + 2 * w35n) := x0.at (by omega) (by omega) (by omega)
                  have w38 := x1.2.1 w35n (by omega)
                  refine zs_iald (pc := 12) t273_12 (j := (15 + 2 * w35n)) (by decide) (zk1 (hs.k fk_zMm_337)) (show w34v.toInt = (((15 + 2 * w35n) : Nat) : Int) by omega) (zk2 (hs.k fk_zMm_337) (by omega)) rfl ?_
                  refine zs_iconst (pc := 13) t273_13 (v := 1) (by decide) ?_
                  by_cases w39 : (zI M 337 (15 + 2 * w35n)).toInt ≠ 1
                  · refine zs_icmp_neT (pc := 14) t273_14 rfl li1 (by omega) ?_
                    refine zs_iconst (pc := 21) t273_21 (v := 0) (by decide) ?_
                    refine zs_iret (pc := 22) t273_22 mr273 (by decide) ?_
                    show zGo X l 1 0 0 341 72 [(0, .ref 336), (1, .int a), (2, .int b), (3, .int w9x3), (4, .int w9x4), (5, .int w9x5), (6, .int w13x6), (7, .int w13x7)] [.int (0 : Int32), .int w13x6] M _
                    refine zs_if_eqT (pc := 72) t341_72 li0 (by decide) ?_
                    refine zs_iconst (pc := 103) t341_103 (v := 0) (by decide) ?_
                    obtain ⟨w40v, w40e, w40⟩ := ziadd (a := w13x6) (b := (0 : Int32)) rfl li0 (by omega) (by omega)
                    refine zs_iadd (pc := 104) t341_104 (c := w40v) w40e ?_
                    refine zs_istore (pc := 105) t341_105 (ls' := [(6, .int w40v), (0, .ref 336), (1, .int a), (2, .int b), (3, .int w9x3), (4, .int w9x4), (5, .int w9x5), (7, .int w13x7)]) (zml mf341 (by decide)) rfl ?_
                    obtain ⟨w41v, w41e, w41⟩ := ziadd (a := w13x7) (b := Int32.ofInt 1) rfl (show (Int32.ofInt 1).toInt = 1 by decide) (by omega) (by omega)
                    refine zs_iinc (pc := 107) t341_107 (ls' := [(7, .int w41v), (6, .int w40v), (0, .ref 336), (1, .int a), (2, .int b), (3, .int w9x3), (4, .int w9x4), (5, .int w9x5)]) (zml mf341 (by decide)) rfl (c := w41v) w41e rfl ?_
                    refine zs_goto (pc := 110) t341_110 ?_
                    refine zGo.locals (ls' := [(0, .ref 336), (1, .int a), (2, .int b), (3, .int w9x3), (4, .int w9x4), (5, .int w9x5), (6, .int w40v), (7, .int w41v)]) (by simp) ?_
                    have w42 := w40
                    have w43 := w41
                    have w44 : w40v.toInt = (w13x6.toInt + 0) := w40
                    exact w13ih (w13m - 1) (by omega) w40v w41v ⟨by omega, by omega⟩ ⟨by omega, by omega⟩ (by omega) (by omega) (fun k hk => by obtain rfl : k = w28n + 1 := (by omega); have hw := x1.2.2.1 w28n (by omega); first | exact pct.up (n := w28n) (fun k hk => w13t0 k (by omega)) (zwin.y (l := w35n) (by omega) (by omega) (by omega) (by omega)) (by omega) rfl | exact pct.no (n := w28n) (fun k hk => w13t0 k (by omega)) (zwin.n (l := w35n) (by omega) (by omega)) (by omega) rfl) (by omega)
                  · refine zs_icmp_neF (pc := 14) t273_14 rfl li1 (by omega) ?_
                    refine zs_iconst (pc := 17) t273_17 (v := 1) (by decide) ?_
                    refine zs_goto (pc := 18) t273_18 ?_
                    refine zs_iret (pc := 22) t273_22 mr273 (by decide) ?_
                    show zGo X l 1 0 0 341 72 [(0, .ref 336), (1, .int a), (2, .int b), (3, .int w9x3), (4, .int w9x4), (5, .int w9x5), (6, .int w13x6), (7, .int w13x7)] [.int (1 : Int32), .int w13x6] M _
                    refine zs_if_eqF (pc := 72) t341_72 li1 (by decide) ?_
                    refine zs_aload_n (pc := 75) t341_75 rfl ?_
                    refine zs_iload (pc := 76) t341_76 rfl ?_
                    refine zs_iconst (pc := 78) t341_78 (v := 2) (by decide) ?_
                    refine zs_invV (pc := 79) (k := 336) (as' := [.int w13x7, .int (2 : Int32)]) (st := [.int w13x6]) t341_79 mf272 rfl rfl (Or.inl ⟨by decide, (zk1 (hs.k fk_zMm_336))⟩) ⟨by decide, by decide, Nat.le_of_ble_eq_true rfl, Nat.le_of_ble_eq_true rfl⟩ (zs_in (by decide) mf272 (Nat.le_of_ble_eq_true rfl) ?_) (fun _ _ q => q)
                    show zGo X l 0 0 0 272 0 [(0, .ref 336), (1, .int w13x7), (2, .int (2 : Int32))] [] M _
                    refine zs_aload_n (pc := 0) t272_0 rfl ?_
                    refine zs_get (pc := 1) t272_1 (by decide) (zk1 (hs.k fk_zMm_336)) (hs.p rfl fv_zMm_336_0) ?_
                    refine zs_bipush (pc := 4) t272_4 (v := 30) (by decide) ?_
                    refine zs_iconst (pc := 6) t272_6 (v := 4) (by decide) ?_
                    refine zs_iload_n (pc := 7) t272_7 rfl ?_
                    obtain ⟨w45v, w45⟩ : ∃ v, (4 : Int32) * w13x7 = v := ⟨_, rfl⟩
                    have w45g : w45v.toInt = 4 * w13x7.toInt := by rw [← w45]; exact zmulc li4 rfl (by omega) (by omega)
                    refine zs_imul (pc := 8) t272_8 (c := w45v) w45 ?_
                    obtain ⟨w46v, w46e, w46⟩ := ziadd (a := (30 : Int32)) (b := w45v) li30 w45g (by omega) (by omega)
                    refine zs_iadd (pc := 9) t272_9 (c := w46v) w46e ?_
                    refine zs_iload_n (pc := 10) t272_10 rfl ?_
                    obtain ⟨w47v, w47e, w47⟩ := ziadd (a := w46v) (b := (2 : Int32)) w46 li2 (by omega) (by omega)
                    refine zs_iadd (pc := 11) t272_11 (c := w47v) w47e ?_
                    have w48 := zrg (zI M 337 (32 + 4 * w28n))
                    have w49 : (zI M 337 (32 + 4 * w28n)).toInt = F (32 + 4 * w28n) := x0.at (by omega) (by omega) (by omega)
                    have w50 := x1.2.2.1 w28n (by omega)
                    refine zs_iald (pc := 12) t272_12 (j := (32 + 4 * w28n)) (by decide) (zk1 (hs.k fk_zMm_337)) (show w47v.toInt = (((32 + 4 * w28n) : Nat) : Int) by omega) (zk2 (hs.k fk_zMm_337) (by omega)) rfl ?_
                    refine zs_iret (pc := 13) t272_13 mr272 rfl ?_
                    show zGo X l 1 0 0 341 82 [(0, .ref 336), (1, .int a), (2, .int b), (3, .int w9x3), (4, .int w9x4), (5, .int w9x5), (6, .int w13x6), (7, .int w13x7)] [.int (zI M 337 (32 + 4 * w28n)), .int w13x6] M _
                    refine zs_i2l (pc := 82) t341_82 rfl ?_
                    refine zs_iload (pc := 83) t341_83 rfl ?_
                    refine zs_i2l (pc := 85) t341_85 rfl ?_
                    refine zs_iload (pc := 86) t341_86 rfl ?_
                    refine zs_iload_n (pc := 88) t341_88 rfl ?_
                    obtain ⟨w51v, w51e, w51⟩ := ziadd (a := w9x5) (b := a) rfl rfl (by omega) (by omega)
                    refine zs_iadd (pc := 89) t341_89 (c := w51v) w51e ?_
                    refine zs_iconst (pc := 90) t341_90 (v := 1) (by decide) ?_
                    obtain ⟨w52v, w52e, w52⟩ := zisub (a := w51v) (b := (1 : Int32)) w51 li1 (by omega) (by omega)
                    refine zs_isub (pc := 91) t341_91 (c := w52v) w52e ?_
                    refine zs_i2l (pc := 92) t341_92 rfl ?_
                    by_cases w53 : w9x5.toInt ≤ (zI M 337 (32 + 4 * w28n)).toInt ∧ (zI M 337 (32 + 4 * w28n)).toInt ≤ ((w9x5.toInt + a.toInt) - 1)
                    · refine zs_invS (pc := 93) (as := [.long (zI M 337 (32 + 4 * w28n)).toInt64, .long w9x5.toInt64, .long w52v.toInt64]) (st := [.int w13x6]) t341_93 (by decide) mf228 rfl rfl ⟨by decide, by decide, Nat.le_of_ble_eq_true rfl, Nat.le_of_ble_eq_true rfl⟩ (K228T (zi2l rfl) (zi2l rfl) (zi2l w52) (by omega) ?_) (fun _ _ q => q)
                      show zGo X l 1 0 0 341 96 [(0, .ref 336), (1, .int a), (2, .int b), (3, .int w9x3), (4, .int w9x4), (5, .int w9x5), (6, .int w13x6), (7, .int w13x7)] [.int (1 : Int32), .int w13x6] M _
                      refine zs_if_eqF (pc := 96) t341_96 li1 (by decide) ?_
                      refine zs_iconst (pc := 99) t341_99 (v := 1) (by decide) ?_
                      refine zs_goto (pc := 100) t341_100 ?_
                      obtain ⟨w54v, w54e, w54⟩ := ziadd (a := w13x6) (b := (1 : Int32)) rfl li1 (by omega) (by omega)
                      refine zs_iadd (pc := 104) t341_104 (c := w54v) w54e ?_
                      refine zs_istore (pc := 105) t341_105 (ls' := [(6, .int w54v), (0, .ref 336), (1, .int a), (2, .int b), (3, .int w9x3), (4, .int w9x4), (5, .int w9x5), (7, .int w13x7)]) (zml mf341 (by decide)) rfl ?_
                      obtain ⟨w55v, w55e, w55⟩ := ziadd (a := w13x7) (b := Int32.ofInt 1) rfl (show (Int32.ofInt 1).toInt = 1 by decide) (by omega) (by omega)
                      refine zs_iinc (pc := 107) t341_107 (ls' := [(7, .int w55v), (6, .int w54v), (0, .ref 336), (1, .int a), (2, .int b), (3, .int w9x3), (4, .int w9x4), (5, .int w9x5)]) (zml mf341 (by decide)) rfl (c := w55v) w55e rfl ?_
                      refine zs_goto (pc := 110) t341_110 ?_
                      refine zGo.locals (ls' := [(0, .ref 336), (1, .int a), (2, .int b), (3, .int w9x3), (4, .int w9x4), (5, .int w9x5), (6, .int w54v), (7, .int w55v)]) (by simp) ?_
                      have w56 := w54
                      have w57 := w55
                      have w58 : w54v.toInt = (w13x6.toInt + 1) := w54
                      exact w13ih (w13m - 1) (by omega) w54v w55v ⟨by omega, by omega⟩ ⟨by omega, by omega⟩ (by omega) (by omega) (fun k hk => by obtain rfl : k = w28n + 1 := (by omega); have hw := x1.2.2.1 w28n (by omega); first | exact pct.up (n := w28n) (fun k hk => w13t0 k (by omega)) (zwin.y (l := w35n) (by omega) (by omega) (by omega) (by omega)) (by omega) rfl | exact pct.no (n := w28n) (fun k hk => w13t0 k (by omega)) (zwin.n (l := w35n) (by omega) (by omega)) (by omega) rfl) (by omega)
                    · refine zs_invS (pc := 93) (as := [.long (zI M 337 (32 + 4 * w28n)).toInt64, .long w9x5.toInt64, .long w52v.toInt64]) (st := [.int w13x6]) t341_93 (by decide) mf228 rfl rfl ⟨by decide, by decide, Nat.le_of_ble_eq_true rfl, Nat.le_of_ble_eq_true rfl⟩ (K228F (zi2l rfl) (zi2l rfl) (zi2l w52) (by omega) ?_) (fun _ _ q => q)
                      show zGo X l 1 0 0 341 96 [(0, .ref 336), (1, .int a), (2, .int b), (3, .int w9x3), (4, .int w9x4), (5, .int w9x5), (6, .int w13x6), (7, .int w13x7)] [.int (0 : Int32), .int w13x6] M _
                      refine zs_if_eqT (pc := 96) t341_96 li0 (by decide) ?_
                      refine zs_iconst (pc := 103) t341_103 (v := 0) (by decide) ?_
                      obtain ⟨w59v, w59e, w59⟩ := ziadd (a := w13x6) (b := (0 : Int32)) rfl li0 (by omega) (by omega)
                      refine zs_iadd (pc := 104) t341_104 (c := w59v) w59e ?_
                      refine zs_istore (pc := 105) t341_105 (ls' := [(6, .int w59v), (0, .ref 336), (1, .int a), (2, .int b), (3, .int w9x3), (4, .int w9x4), (5, .int w9x5), (7, .int w13x7)]) (zml mf341 (by decide)) rfl ?_
                      obtain ⟨w60v, w60e, w60⟩ := ziadd (a := w13x7) (b := Int32.ofInt 1) rfl (show (Int32.ofInt 1).toInt = 1 by decide) (by omega) (by omega)
                      refine zs_iinc (pc := 107) t341_107 (ls' := [(7, .int w60v), (6, .int w59v), (0, .ref 336), (1, .int a), (2, .int b), (3, .int w9x3), (4, .int w9x4), (5, .int w9x5)]) (zml mf341 (by decide)) rfl (c := w60v) w60e rfl ?_
                      refine zs_goto (pc := 110) t341_110 ?_
                      refine zGo.locals (ls' := [(0, .ref 336), (1, .int a), (2, .int b), (3, .int w9x3), (4, .int w9x4), (5, .int w9x5), (6, .int w59v), (7, .int w60v)]) (by simp) ?_
                      have w61 := w59
                      have w62 := w60
                      have w63 : w59v.toInt = (w13x6.toInt + 0) := w59
                      exact w13ih (w13m - 1) (by omega) w59v w60v ⟨by omega, by omega⟩ ⟨by omega, by omega⟩ (by omega) (by omega) (fun k hk => by obtain rfl : k = w28n + 1 := (by omega); have hw := x1.2.2.1 w28n (by omega); first | exact pct.up (n := w28n) (fun k hk => w13t0 k (by omega)) (zwin.y (l := w35n) (by omega) (by omega) (by omega) (by omega)) (by omega) rfl | exact pct.no (n := w28n) (fun k hk => w13t0 k (by omega)) (zwin.n (l := w35n) (by omega) (by omega)) (by omega) rfl) (by omega)
            refine zGo.locals (ls' := [(0, .ref 336), (1, .int a), (2, .int b), (3, .int w9x3), (4, .int w9x4), (5, .int w9x5), (6, .int (0 : Int32)), (7, .int (0 : Int32))]) (by simp) ?_
            have w64 := li0
            have w65 := li0
            exact w13L ((60 - 0 : Int).toNat) (0 : Int32) (0 : Int32) ⟨by decide, by decide⟩ ⟨by decide, by decide⟩ (by omega) (by omega) (fun k hk => by obtain rfl : k = 0 := (by omega); rfl) (by omega)
      refine zGo.locals (ls' := [(0, .ref 336), (1, .int a), (2, .int b), (3, .int (0 : Int32)), (4, .int (-1 : Int32)), (5, .int (0 : Int32))]) (by simp) ?_
      have w66 := li0
      have w67 := lin1
      have w68 := li0
      exact w9L ((1000 - 0 : Int).toNat) (0 : Int32) (-1 : Int32) (0 : Int32) ⟨by decide, by decide⟩ ⟨by decide, by decide⟩ ⟨by decide, by decide⟩ (by omega) (Or.inl ⟨by decide, by decide, by decide⟩) (by omega)
    · refine zs_invS (pc := 16) (as := [.long b.toInt64, .long (0 : Int64), .long (1 : Int64)]) (st := []) t341_16 (by decide) mf228 rfl rfl ⟨by decide, by decide, Nat.le_of_ble_eq_true rfl, Nat.le_of_ble_eq_true rfl⟩ (K228F (zi2l rfl) ll0 ll1 (by omega) ?_) (fun _ _ q => q)
      show zGo X l 1 0 0 341 19 [(0, .ref 336), (1, .int a), (2, .int b)] [.int (0 : Int32)] M _
      refine zs_if_neF (pc := 19) t341_19 li0 (by decide) ?_
      refine zs_iconst (pc := 22) t341_22 (v := -1) (by decide) ?_
      have w69 : (-1 : Int32).toInt = (-1) := lin1
      have w70 : (-1 : Int32).toInt = (-1) := lin1
      exact zs_iret (pc := 23) t341_23 mr341 (by decide) (hQ _ (Or.inl ⟨by omega, by omega⟩))
  · refine zs_invS (pc := 6) (as := [.long a.toInt64, .long (1 : Int64), .long (1000 : Int64)]) (st := []) t341_6 (by decide) mf228 rfl rfl ⟨by decide, by decide, Nat.le_of_ble_eq_true rfl, Nat.le_of_ble_eq_true rfl⟩ (K228F (zi2l rfl) ll1 ll1000 (by omega) ?_) (fun _ _ q => q)
    show zGo X l 1 0 0 341 9 [(0, .ref 336), (1, .int a), (2, .int b)] [.int (0 : Int32)] M _
    refine zs_if_eqT (pc := 9) t341_9 li0 (by decide) ?_
    refine zs_iconst (pc := 22) t341_22 (v := -1) (by decide) ?_
    have w71 : (-1 : Int32).toInt = (-1) := lin1
    have w72 : (-1 : Int32).toInt = (-1) := lin1
    exact zs_iret (pc := 23) t341_23 mr341 (by decide) (hQ _ (Or.inl ⟨by omega, by omega⟩))
theorem W347 {X : zX} {l : Launch} {M : zM} {Q : Option Value → zM → Prop} {a : Int32} (hs : zSk zMm M) (hI : zIv mLo mHi M) {c : zWt} (ha : 0 ≤ a.toInt ∧ a.toInt ≤ 127) (u0 : (zI M 336 50).toInt ≤ 149) (x0 : zWr M 336 50 363 c) (hQ : ∀ M', zSk zMm M' → zIv mLo mHi M' → zFr [(363, 363, none), (336, 336, some 50)] M M' → zJ M' 351 = zJ M 351 → ((zI M' 336 50).toInt = (zI M 336 50).toInt + 1) → (zWr M' 336 50 363 (wS c a.toInt)) → Q none M') : zCall X l 0 0 0 347 [.ref 336, .int a] M Q := by
  have ga := zrg a
  refine zs_in (by decide) mf347 (Nat.le_of_ble_eq_true rfl) ?_
  show zGo X l 0 0 0 347 0 [(0, .ref 336), (1, .int a)] [] M _
  have g0 := x0.1
  refine zs_aload_n (pc := 0) t347_0 rfl ?_
  refine zs_get (pc := 1) t347_1 (by decide) (zk1 (hs.k fk_zMm_336)) (hs.p rfl fv_zMm_336_49) ?_
  refine zs_aload_n (pc := 4) t347_4 rfl ?_
  have w1 := ib336_50 hI
  refine zs_get (pc := 5) t347_5 (by decide) (zk1 (hs.k fk_zMm_336)) (zfvi rfl rfl) ?_
  refine zs_iload_n (pc := 8) t347_8 rfl ?_
  obtain ⟨w2v, w2e⟩ : ∃ v, a.toInt8.toInt32 = v := ⟨_, rfl⟩
  have w2x := zi2b rfl (by omega) (by omega) w2e
  have w2 : (-128) ≤ w2v.toInt ∧ w2v.toInt ≤ 127 := by rw [← w2e]; exact znb _
  refine zs_i2b (pc := 9) t347_9 (c := w2v) w2e ?_
  obtain ⟨w3n, w3⟩ : ∃ n : Nat, (zI M 336 50).toInt = (n : Int) := ⟨((zI M 336 50).toInt).toNat, by omega⟩
  obtain ⟨w4v, w4e⟩ : ∃ v, vp_nar .byte w2v = v := ⟨_, rfl⟩
  have w4 : -128 ≤ w4v.toInt ∧ w4v.toInt ≤ 127 := by rw [← w4e]; exact znb _
  have w5 : zIv mLo mHi (zsI M 363 w3n w4v) := zIv.put hI (show (-128) ≤ w4v.toInt ∧ w4v.toInt ≤ 127 from ⟨by omega, by omega⟩)
  refine zs_bastB (pc := 10) t347_10 (j := w3n) (by decide) (zk1 (hs.k fk_zMm_363)) (show (zI M 336 50).toInt = ((w3n : Nat) : Int) by omega) (zk2 (hs.k fk_zMm_363) (by omega)) w4e ?_
  refine zs_aload_n (pc := 11) t347_11 rfl ?_
  refine zs_dup (pc := 12) t347_12 rfl ?_
  refine zs_get (pc := 13) t347_13 (by decide) (zk1 (hs.k fk_zMm_336)) (zfvi rfl ((zIo (by decide)).trans rfl)) ?_
  refine zs_iconst (pc := 16) t347_16 (v := 1) (by decide) ?_
  obtain ⟨w6v, w6e, w6⟩ := ziadd (a := (zI M 336 50)) (b := (1 : Int32)) rfl li1 (by omega) (by omega)
  refine zs_iadd (pc := 17) t347_17 (c := w6v) w6e ?_
  have w7 : zIv mLo mHi (zsI (zsI M 363 w3n w4v) 336 50 w6v) := zIv.put w5 (show 0 ≤ w6v.toInt ∧ w6v.toInt ≤ 150 from ⟨by omega, by omega⟩)
  refine zs_putI (pc := 18) t347_18 (zk1 (hs.k fk_zMm_336)) rfl ?_
  have w8 : (zI (zsI (zsI M 363 w3n w4v) 336 50 w6v) 336 50).toInt = ((zI M 336 50).toInt + 1) := (congrArg Int32.toInt zIs).trans w6
  have w10 : w6v.toInt = ((zI M 336 50).toInt + 1) := w6
  have w9 : w4v.toInt = a.toInt := by rw [← w4e, znar (by omega) (by omega)]; omega
  exact zs_vret (pc := 21) t347_21 mr347 (hQ _ hs w7 (((zFr.refl).put rfl).put rfl) rfl (by omega) (zWr.put (n := w3n) x0 (by decide) (by omega) w9 (by omega) (by omega) (by omega)))
