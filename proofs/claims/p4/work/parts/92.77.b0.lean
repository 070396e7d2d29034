theorem X53_7 {X : zX} {l : Launch} {M : zM} {Q : Option Value → zM → Prop} {a b : Int32} (hs : zSk zMc M) (hI : zIv cLo cHi M) {F : Nat → Int} (x0 : zSo M 7 F) (x1 : zWF F) (hQ : ∀ v : Int32, (∀ l : Nat, (l : Int) = a.toInt → (l : Int) < F 0 → -99 ≤ b.toInt → b.toInt ≤ 99 → v.toInt = b.toInt * F (14 + 2 * l) / 100) → Q (some (.int v)) M) : zCall X l 1 0 0 53 [.ref 7, .int a, .int b] M Q := by
  have ga := zrg a
  have gb := zrg b
  refine zs_in (by decide) mf53 (Nat.le_of_ble_eq_true rfl) ?_
  show zGo X l 1 0 0 53 0 [(0, .ref 7), (1, .int a), (2, .int b)] [] M _
  have f0 := x0.1
  have w1 := ib7_0 hI
  have w2 : (zI M 7 0).toInt = (zI M 7 0).toInt := (congrArg Int32.toInt rfl).trans rfl
  have w3 := ib7_3 hI
  have w4 : (zI M 7 3).toInt = (zI M 7 3).toInt := (congrArg Int32.toInt rfl).trans rfl
  have w5 := ib7_8 hI
  have w6 : (zI M 7 8).toInt = (zI M 7 8).toInt := (congrArg Int32.toInt rfl).trans rfl
  have f1 := x1.1
  have f3 := x1.2.2.2
  have f2 := (show (zI M 7 0).toInt = F 0 ∧ (zI M 7 3).toInt = F 1 ∧ (zI M 7 8).toInt = F 2 from ⟨x0.1.1, x0.1.2.1, x0.1.2.2.1⟩)
  refine zs_aload_n (pc := 0) t53_0 rfl ?_
  refine zs_iload_n (pc := 1) t53_1 rfl ?_
  refine zs_invV (pc := 2) (k := 7) (as' := [.int a]) (st := []) t53_2 mf41 rfl rfl (Or.inl ⟨by decide, (zk1 (hs.k fk_zMc_7))⟩) ⟨by decide, by decide, Nat.le_of_ble_eq_true rfl, Nat.le_of_ble_eq_true rfl⟩ (zs_in (by decide) mf41 (Nat.le_of_ble_eq_true rfl) ?_) (fun _ _ q => q)
  show zGo X l 0 0 0 41 0 [(0, .ref 7), (1, .int a)] [] M _
  refine zs_iload_n (pc := 0) t41_0 rfl ?_
  by_cases w7 : a.toInt < 0
  · refine zs_if_ltT (pc := 1) t41_1 rfl (by omega) ?_
    refine zs_iconst (pc := 16) t41_16 (v := 0) (by decide) ?_
    refine zs_iret (pc := 17) t41_17 mr41 (by decide) ?_
    show zGo X l 1 0 0 53 5 [(0, .ref 7), (1, .int a), (2, .int b)] [.int (0 : Int32)] M _
    refine zs_if_eqT (pc := 5) t53_5 li0 (by decide) ?_
    refine zs_iconst (pc := 24) t53_24 (v := 0) (by decide) ?_
    exact zs_iret (pc := 25) t53_25 mr53 (by decide) (hQ _ (fun l h1 h2 h3 h4 => absurd h2 (by omega)))
  · refine zs_if_ltF (pc := 1) t41_1 rfl (by omega) ?_
    refine zs_iload_n (pc := 4) t41_4 rfl ?_
    refine zs_aload_n (pc := 5) t41_5 rfl ?_
    refine zs_get (pc := 6) t41_6 (by decide) (zk1 (hs.k fk_zMc_7)) (zfvi rfl rfl) ?_
    by_cases w8 : (zI M 7 0).toInt ≤ a.toInt
    · refine zs_icmp_geT (pc := 9) t41_9 rfl rfl (by omega) ?_
      refine zs_iconst (pc := 16) t41_16 (v := 0) (by decide) ?_
      refine zs_iret (pc := 17) t41_17 mr41 (by decide) ?_
      show zGo X l 1 0 0 53 5 [(0, .ref 7), (1, .int a), (2, .int b)] [.int (0 : Int32)] M _
      refine zs_if_eqT (pc := 5) t53_5 li0 (by decide) ?_
      refine zs_iconst (pc := 24) t53_24 (v := 0) (by decide) ?_
      exact zs_iret (pc := 25) t53_25 mr53 (by decide) (hQ _ (fun l h1 h2 h3 h4 => absurd h2 (by omega)))
    · refine zs_icmp_geF (pc := 9) t41_9 rfl rfl (by omega) ?_
      refine zs_iconst (pc := 12) t41_12 (v := 1) (by decide) ?_
      refine zs_goto (pc := 13) t41_13 ?_
      refine zs_iret (pc := 17) t41_17 mr41 (by decide) ?_
      show zGo X l 1 0 0 53 5 [(0, .ref 7), (1, .int a), (2, .int b)] [.int (1 : Int32)] M _
      refine zs_if_eqF (pc := 5) t53_5 li1 (by decide) ?_
      refine zs_iload_n (pc := 8) t53_8 rfl ?_
      refine zs_aload_n (pc := 9) t53_9 rfl ?_
      refine zs_get (pc := 10) t53_10 (by decide) (zk1 (hs.k fk_zMc_7)) (hs.p rfl fv_zMc_7_1) ?_
      refine zs_iload_n (pc := 13) t53_13 rfl ?_
      obtain ⟨w9n, w9⟩ : ∃ n : Nat, a.toInt = (n : Int) := ⟨(a.toInt).toNat, by omega⟩
      have w10 := zrg (zI M 8 w9n)
      have w11 : (zI M 8 w9n).toInt = F (14 + 2 * w9n) ∧ (zI M 9 w9n).toInt = F (15 + 2 * w9n) := x0.2.1 w9n (by omega)
      have w12 := x1.2.1 w9n (by omega)
      refine zs_iald (pc := 14) t53_14 (j := w9n) (by decide) (zk1 (hs.k fk_zMc_8)) (show a.toInt = ((w9n : Nat) : Int) by omega) (zk2 (hs.k fk_zMc_8) (by omega)) rfl ?_
      obtain ⟨w13v, w13⟩ : ∃ v, b * (zI M 8 w9n) = v := ⟨_, rfl⟩
      have w13g := zrg w13v
      refine zs_imul (pc := 15) t53_15 (c := w13v) w13 ?_
      refine zs_bipush (pc := 16) t53_16 (v := 100) (by decide) ?_
      have w14 : (100 : Int32).toInt = 100 := li100
      refine zs_invS (pc := 18) (as := [.int w13v, .int (100 : Int32)]) (st := []) t53_18 (by decide) mf54 rfl rfl ⟨by decide, by decide, Nat.le_of_ble_eq_true rfl, Nat.le_of_ble_eq_true rfl⟩ (X54 hs hI ⟨by decide, by decide⟩ ?_) (fun _ _ q => q)
      intro w15v w15x0
      have w15g := zrg w15v
      show zGo X l 1 0 0 53 21 [(0, .ref 7), (1, .int a), (2, .int b)] [.int w15v] M _
      refine zs_goto (pc := 21) t53_21 ?_
      exact zs_iret (pc := 25) t53_25 mr53 rfl (hQ _ (fun l h1 h2 h3 h4 => by
          obtain rfl : w9n = l := (by omega)
          have z := zml3 (A := 99) (B := 999) h3 h4 (show 0 ≤ F (14 + 2 * w9n) by omega) (by omega) (by omega)
          have e : (w13v).toInt = b.toInt * F (14 + 2 * w9n) := (by rw [← w13]; exact zmulc rfl (show (zI M 8 w9n).toInt = F (14 + 2 * w9n) by omega) (by omega) (by omega))
          exact (w15x0).trans (by rw [e, li100])))
theorem X55_7 {X : zX} {l : Launch} {M : zM} {Q : Option Value → zM → Prop} {a b : Int32} (hs : zSk zMc M) (hI : zIv cLo cHi M) {F : Nat → Int} (x0 : zSo M 7 F) (x1 : zWF F) (hQ : ∀ v : Int32, (∀ l : Nat, (l : Int) = a.toInt → (l : Int) < F 0 → -99 ≤ b.toInt → b.toInt ≤ 99 → v.toInt = b.toInt * F (14 + 2 * l) * F (14 + 2 * l) / 10000) → Q (some (.int v)) M) : zCall X l 1 0 0 55 [.ref 7, .int a, .int b] M Q := by
  have ga := zrg a
  have gb := zrg b
  refine zs_in (by decide) mf55 (Nat.le_of_ble_eq_true rfl) ?_
  show zGo X l 1 0 0 55 0 [(0, .ref 7), (1, .int a), (2, .int b)] [] M _
  have f0 := x0.1
  have w1 := ib7_0 hI
  have w2 : (zI M 7 0).toInt = (zI M 7 0).toInt := (congrArg Int32.toInt rfl).trans rfl
  have w3 := ib7_3 hI
  have w4 : (zI M 7 3).toInt = (zI M 7 3).toInt := (congrArg Int32.toInt rfl).trans rfl
  have w5 := ib7_8 hI
  have w6 : (zI M 7 8).toInt = (zI M 7 8).toInt := (congrArg Int32.toInt rfl).trans rfl
  have f1 := x1.1
  have f3 := x1.2.2.2
  have f2 := (show (zI M 7 0).toInt = F 0 ∧ (zI M 7 3).toInt = F 1 ∧ (zI M 7 8).toInt = F 2 from ⟨x0.1.1, x0.1.2.1, x0.1.2.2.1⟩)
  refine zs_aload_n (pc := 0) t55_0 rfl ?_
  refine zs_iload_n (pc := 1) t55_1 rfl ?_
  refine zs_invV (pc := 2) (k := 7) (as' := [.int a]) (st := []) t55_2 mf41 rfl rfl (Or.inl ⟨by decide, (zk1 (hs.k fk_zMc_7))⟩) ⟨by decide, by decide, Nat.le_of_ble_eq_true rfl, Nat.le_of_ble_eq_true rfl⟩ (zs_in (by decide) mf41 (Nat.le_of_ble_eq_true rfl) ?_) (fun _ _ q => q)
  show zGo X l 0 0 0 41 0 [(0, .ref 7), (1, .int a)] [] M _
  refine zs_iload_n (pc := 0) t41_0 rfl ?_
  by_cases w7 : a.toInt < 0
  · refine zs_if_ltT (pc := 1) t41_1 rfl (by omega) ?_
    refine zs_iconst (pc := 16) t41_16 (v := 0) (by decide) ?_
    refine zs_iret (pc := 17) t41_17 mr41 (by decide) ?_
    show zGo X l 1 0 0 55 5 [(0, .ref 7), (1, .int a), (2, .int b)] [.int (0 : Int32)] M _
    refine zs_if_eqT (pc := 5) t55_5 li0 (by decide) ?_
    refine zs_iconst (pc := 32) t55_32 (v := 0) (by decide) ?_
    exact zs_iret (pc := 33) t55_33 mr55 (by decide) (hQ _ (fun l h1 h2 h3 h4 => absurd h2 (by omega)))
  · refine zs_if_ltF (pc := 1) t41_1 rfl (by omega) ?_
    refine zs_iload_n (pc := 4) t41_4 rfl ?_
    refine zs_aload_n (pc := 5) t41_5 rfl ?_
    refine zs_get (pc := 6) t41_6 (by decide) (zk1 (hs.k fk_zMc_7)) (zfvi rfl rfl) ?_
    by_cases w8 : (zI M 7 0).toInt ≤ a.toInt
    · refine zs_icmp_geT (pc := 9) t41_9 rfl rfl (by omega) ?_
      refine zs_iconst (pc := 16) t41_16 (v := 0) (by decide) ?_
      refine zs_iret (pc := 17) t41_17 mr41 (by decide) ?_
      show zGo X l 1 0 0 55 5 [(0, .ref 7), (1, .int a), (2, .int b)] [.int (0 : Int32)] M _
      refine zs_if_eqT (pc := 5) t55_5 li0 (by decide) ?_
      refine zs_iconst (pc := 32) t55_32 (v := 0) (by decide) ?_
      exact zs_iret (pc := 33) t55_33 mr55 (by decide) (hQ _ (fun l h1 h2 h3 h4 => absurd h2 (by omega)))
    · refine zs_icmp_geF (pc := 9) t41_9 rfl rfl (by omega) ?_
      refine zs_iconst (pc := 12) t41_12 (v := 1) (by decide) ?_
      refine zs_goto (pc := 13) t41_13 ?_
      refine zs_iret (pc := 17) t41_17 mr41 (by decide) ?_
      show zGo X l 1 0 0 55 5 [(0, .ref 7), (1, .int a), (2, .int b)] [.int (1 : Int32)] M _
      refine zs_if_eqF (pc := 5) t55_5 li1 (by decide) ?_
      refine zs_iload_n (pc := 8) t55_8 rfl ?_
      refine zs_aload_n (pc := 9) t55_9 rfl ?_
      refine zs_get (pc := 10) t55_10 (by decide) (zk1 (hs.k fk_zMc_7)) (hs.p rfl fv_zMc_7_1) ?_
      refine zs_iload_n (pc := 13) t55_13 rfl ?_
      obtain ⟨w9n, w9⟩ : ∃ n : Nat, a.toInt = (n : Int) := ⟨(a.toInt).toNat, by omega⟩
      have w10 := zrg (zI M 8 w9n)
      have w11 : (zI M 8 w9n).toInt = F (14 + 2 * w9n) ∧ (zI M 9 w9n).toInt = F (15 + 2 * w9n) := x0.2.1 w9n (by omega)
      have w12 := x1.2.1 w9n (by omega)
      refine zs_iald (pc := 14) t55_14 (j := w9n) (by decide) (zk1 (hs.k fk_zMc_8)) (show a.toInt = ((w9n : Nat) : Int) by omega) (zk2 (hs.k fk_zMc_8) (by omega)) rfl ?_
      obtain ⟨w13v, w13⟩ : ∃ v, b * (zI M 8 w9n) = v := ⟨_, rfl⟩
      have w13g := zrg w13v
      refine zs_imul (pc := 15) t55_15 (c := w13v) w13 ?_
      refine zs_aload_n (pc := 16) t55_16 rfl ?_
      refine zs_get (pc := 17) t55_17 (by decide) (zk1 (hs.k fk_zMc_7)) (hs.p rfl fv_zMc_7_1) ?_
      refine zs_iload_n (pc := 20) t55_20 rfl ?_
      have w14 : (zI M 8 w9n).toInt = F (14 + 2 * w9n) ∧ (zI M 9 w9n).toInt = F (15 + 2 * w9n) := x0.2.1 w9n (by omega)
      have w15 := x1.2.1 w9n (by omega)
      refine zs_iald (pc := 21) t55_21 (j := w9n) (by decide) (zk1 (hs.k fk_zMc_8)) (show a.toInt = ((w9n : Nat) : Int) by omega) (zk2 (hs.k fk_zMc_8) (by omega)) rfl ?_
      obtain ⟨w16v, w16⟩ : ∃ v, w13v * (zI M 8 w9n) = v := ⟨_, rfl⟩
      have w16g := zrg w16v
      refine zs_imul (pc := 22) t55_22 (c := w16v) w16 ?_
      refine zs_sipush (pc := 23) t55_23 (v := 10000) (by decide) ?_
      have w17 : (10000 : Int32).toInt = 10000 := li10000
      refine zs_invS (pc := 26) (as := [.int w16v, .int (10000 : Int32)]) (st := []) t55_26 (by decide) mf54 rfl rfl ⟨by decide, by decide, Nat.le_of_ble_eq_true rfl, Nat.le_of_ble_eq_true rfl⟩ (X54 hs hI ⟨by decide, by decide⟩ ?_) (fun _ _ q => q)
      intro w18v w18x0
      have w18g := zrg w18v
      show zGo X l 1 0 0 55 29 [(0, .ref 7), (1, .int a), (2, .int b)] [.int w18v] M _
      refine zs_goto (pc := 29) t55_29 ?_
      exact zs_iret (pc := 33) t55_33 mr55 rfl (hQ _ (fun l h1 h2 h3 h4 => by
          obtain rfl : w9n = l := (by omega)
          have z := zml3 (A := 99) (B := 999) h3 h4 (show 0 ≤ F (14 + 2 * w9n) by omega) (by omega) (by omega)
          have z2 := zml3 (a := b.toInt * F (14 + 2 * w9n)) (A := 98901) (B := 999) (by omega) (by omega) (show 0 ≤ F (14 + 2 * w9n) by omega) (by omega) (by omega)
          have e : (w13v).toInt = b.toInt * F (14 + 2 * w9n) := (by rw [← w13]; exact zmulc rfl (show (zI M 8 w9n).toInt = F (14 + 2 * w9n) by omega) (by omega) (by omega))
          have e2 : (w16v).toInt = b.toInt * F (14 + 2 * w9n) * F (14 + 2 * w9n) := (by rw [← w16]; exact zmulc e (show (zI M 8 w9n).toInt = F (14 + 2 * w9n) by omega) (by omega) (by omega))
          exact (w18x0).trans (by rw [e2, li10000])))
