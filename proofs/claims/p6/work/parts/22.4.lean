theorem C53_7 {X : zX} {l : Launch} {M : zM} {Q : Option Value → zM → Prop} {a b : Int32} (hs : zSk zMc M) (hI : zIv cLo cHi M) (hQ : ∀ v : Int32, (-2147483648) ≤ v.toInt → v.toInt ≤ 2147483647 → Q (some (.int v)) M) : zCall X l 1 0 0 53 [.ref 7, .int a, .int b] M Q := by
  have ga := zrg a
  have gb := zrg b
  refine zs_in (by decide) mf53 (Nat.le_of_ble_eq_true rfl) ?_
  show zGo X l 1 0 0 53 0 [(0, .ref 7), (1, .int a), (2, .int b)] [] M _
  refine zs_aload_n (pc := 0) t53_0 rfl ?_
  refine zs_iload_n (pc := 1) t53_1 rfl ?_
  refine zs_invV (pc := 2) (k := 7) (as' := [.int a]) (st := []) t53_2 mf41 rfl rfl (Or.inl ⟨by decide, (zk1 (hs.k fk_zMc_7))⟩) ⟨by decide, by decide, Nat.le_of_ble_eq_true rfl, Nat.le_of_ble_eq_true rfl⟩ (zs_in (by decide) mf41 (Nat.le_of_ble_eq_true rfl) ?_) (fun _ _ q => q)
  show zGo X l 0 0 0 41 0 [(0, .ref 7), (1, .int a)] [] M _
  refine zs_iload_n (pc := 0) t41_0 rfl ?_
  by_cases w1 : a.toInt < 0
  · refine zs_if_ltT (pc := 1) t41_1 rfl (by omega) ?_
    refine zs_iconst (pc := 16) t41_16 (v := 0) (by decide) ?_
    refine zs_iret (pc := 17) t41_17 mr41 (by decide) ?_
    show zGo X l 1 0 0 53 5 [(0, .ref 7), (1, .int a), (2, .int b)] [.int (0 : Int32)] M _
    refine zs_if_eqT (pc := 5) t53_5 li0 (by decide) ?_
    refine zs_iconst (pc := 24) t53_24 (v := 0) (by decide) ?_
    exact zs_iret (pc := 25) t53_25 mr53 (by decide) (hQ _ (zrg _).1 (zrg _).2)
  · refine zs_if_ltF (pc := 1) t41_1 rfl (by omega) ?_
    refine zs_iload_n (pc := 4) t41_4 rfl ?_
    refine zs_aload_n (pc := 5) t41_5 rfl ?_
    have w2 := ib7_0 hI
    refine zs_get (pc := 6) t41_6 (by decide) (zk1 (hs.k fk_zMc_7)) (zfvi rfl rfl) ?_
    by_cases w3 : (zI M 7 0).toInt ≤ a.toInt
    · refine zs_icmp_geT (pc := 9) t41_9 rfl rfl (by omega) ?_
      refine zs_iconst (pc := 16) t41_16 (v := 0) (by decide) ?_
      refine zs_iret (pc := 17) t41_17 mr41 (by decide) ?_
      show zGo X l 1 0 0 53 5 [(0, .ref 7), (1, .int a), (2, .int b)] [.int (0 : Int32)] M _
      refine zs_if_eqT (pc := 5) t53_5 li0 (by decide) ?_
      refine zs_iconst (pc := 24) t53_24 (v := 0) (by decide) ?_
      exact zs_iret (pc := 25) t53_25 mr53 (by decide) (hQ _ (zrg _).1 (zrg _).2)
    · refine zs_icmp_geF (pc := 9) t41_9 rfl rfl (by omega) ?_
      refine zs_iconst (pc := 12) t41_12 (v := 1) (by decide) ?_
      refine zs_goto (pc := 13) t41_13 ?_
      refine zs_iret (pc := 17) t41_17 mr41 (by decide) ?_
      show zGo X l 1 0 0 53 5 [(0, .ref 7), (1, .int a), (2, .int b)] [.int (1 : Int32)] M _
      refine zs_if_eqF (pc := 5) t53_5 li1 (by decide) ?_
      refine zs_iload_n (pc := 8) t53_8 rfl ?_
      refine zs_aload_n (pc := 9) t53_9 rfl ?_
      refine zs_get (pc := 10) t53_10 (by decide) (zk1 (hs.k fk_zMc_7)) (hs.p rfl fv_zMc_7_1) ?_
      refine zs_iload_n (pc := 13) t53_13 rfl ?_
      obtain ⟨w4n, w4⟩ : ∃ n : Nat, a.toInt = (n : Int) := ⟨a.toInt.toNat, by omega⟩
      have w5 := ib8 hI w4n
      refine zs_iald (pc := 14) t53_14 (j := w4n) (by decide) (zk1 (hs.k fk_zMc_8)) w4 (zk2 (hs.k fk_zMc_8) (by omega)) rfl ?_
      obtain ⟨w6v, w6⟩ : ∃ v, b * (zI M 8 w4n) = v := ⟨_, rfl⟩
      have w6g := zrg w6v
      refine zs_imul (pc := 15) t53_15 (c := w6v) w6 ?_
      refine zs_bipush (pc := 16) t53_16 (v := 100) (by decide) ?_
      refine zs_invS (pc := 18) (as := [.int w6v, .int (100 : Int32)]) (st := []) t53_18 (by decide) mf54 rfl rfl ⟨by decide, by decide, Nat.le_of_ble_eq_true rfl, Nat.le_of_ble_eq_true rfl⟩ (zs_in (by decide) mf54 (Nat.le_of_ble_eq_true rfl) ?_) (fun _ _ q => q)
      show zGo X l 0 0 0 54 0 [(0, .int w6v), (1, .int (100 : Int32))] [] M _
      refine zs_iload_n (pc := 0) t54_0 rfl ?_
      refine zs_iload_n (pc := 1) t54_1 rfl ?_
      obtain ⟨w7v, w7⟩ : ∃ v, w6v / (100 : Int32) = v := ⟨_, rfl⟩
      have w7g := zrg w7v
      refine zs_idiv (pc := 2) t54_2 (by decide) (c := w7v) w7 ?_
      refine zs_istore_n (pc := 3) t54_3 (ls' := [(2, .int w7v), (0, .int w6v), (1, .int (100 : Int32))]) (zml mf54 (by decide)) rfl ?_
      refine zs_iload_n (pc := 4) t54_4 rfl ?_
      refine zs_iload_n (pc := 5) t54_5 rfl ?_
      obtain ⟨w8v, w8⟩ : ∃ v, w6v ^^^ (100 : Int32) = v := ⟨_, rfl⟩
      have w8g := zrg w8v
      refine zs_ixor (pc := 6) t54_6 (c := w8v) w8 ?_
      by_cases w9 : 0 ≤ w8v.toInt
      · refine zs_if_geT (pc := 7) t54_7 rfl (by omega) ?_
        refine zs_iload_n (pc := 21) t54_21 rfl ?_
        refine zs_iret (pc := 22) t54_22 mr54 rfl ?_
        show zGo X l 1 0 0 53 21 [(0, .ref 7), (1, .int a), (2, .int b)] [.int w7v] M _
        refine zs_goto (pc := 21) t53_21 ?_
        exact zs_iret (pc := 25) t53_25 mr53 rfl (hQ _ (zrg _).1 (zrg _).2)
      · refine zs_if_geF (pc := 7) t54_7 rfl (by omega) ?_
        refine zs_iload_n (pc := 10) t54_10 rfl ?_
        refine zs_iload_n (pc := 11) t54_11 rfl ?_
        obtain ⟨w10v, w10⟩ : ∃ v, w7v * (100 : Int32) = v := ⟨_, rfl⟩
        have w10g := zrg w10v
        refine zs_imul (pc := 12) t54_12 (c := w10v) w10 ?_
        refine zs_iload_n (pc := 13) t54_13 rfl ?_
        by_cases w11 : w10v.toInt = w6v.toInt
        · refine zs_icmp_eqT (pc := 14) t54_14 rfl rfl (by omega) ?_
          refine zs_iload_n (pc := 21) t54_21 rfl ?_
          refine zs_iret (pc := 22) t54_22 mr54 rfl ?_
          show zGo X l 1 0 0 53 21 [(0, .ref 7), (1, .int a), (2, .int b)] [.int w7v] M _
          refine zs_goto (pc := 21) t53_21 ?_
          exact zs_iret (pc := 25) t53_25 mr53 rfl (hQ _ (zrg _).1 (zrg _).2)
        · refine zs_icmp_eqF (pc := 14) t54_14 rfl rfl (by omega) ?_
          refine zs_iload_n (pc := 17) t54_17 rfl ?_
          refine zs_iconst (pc := 18) t54_18 (v := 1) (by decide) ?_
          obtain ⟨w12v, w12⟩ : ∃ v, v = w7v - (1 : Int32) := ⟨_, rfl⟩
          have w12g := zrg w12v
          refine zs_isub (pc := 19) t54_19 (c := w12v) w12.symm ?_
          refine zs_iret (pc := 20) t54_20 mr54 rfl ?_
          show zGo X l 1 0 0 53 21 [(0, .ref 7), (1, .int a), (2, .int b)] [.int w12v] M _
          refine zs_goto (pc := 21) t53_21 ?_
          exact zs_iret (pc := 25) t53_25 mr53 rfl (hQ _ (zrg _).1 (zrg _).2)
theorem C55_7 {X : zX} {l : Launch} {M : zM} {Q : Option Value → zM → Prop} {a b : Int32} (hs : zSk zMc M) (hI : zIv cLo cHi M) (hQ : ∀ v : Int32, (-2147483648) ≤ v.toInt → v.toInt ≤ 2147483647 → Q (some (.int v)) M) : zCall X l 1 0 0 55 [.ref 7, .int a, .int b] M Q := by
  have ga := zrg a
  have gb := zrg b
  refine zs_in (by decide) mf55 (Nat.le_of_ble_eq_true rfl) ?_
  show zGo X l 1 0 0 55 0 [(0, .ref 7), (1, .int a), (2, .int b)] [] M _
  refine zs_aload_n (pc := 0) t55_0 rfl ?_
  refine zs_iload_n (pc := 1) t55_1 rfl ?_
  refine zs_invV (pc := 2) (k := 7) (as' := [.int a]) (st := []) t55_2 mf41 rfl rfl (Or.inl ⟨by decide, (zk1 (hs.k fk_zMc_7))⟩) ⟨by decide, by decide, Nat.le_of_ble_eq_true rfl, Nat.le_of_ble_eq_true rfl⟩ (zs_in (by decide) mf41 (Nat.le_of_ble_eq_true rfl) ?_) (fun _ _ q => q)
  show zGo X l 0 0 0 41 0 [(0, .ref 7), (1, .int a)] [] M _
  refine zs_iload_n (pc := 0) t41_0 rfl ?_
  by_cases w1 : a.toInt < 0
  · refine zs_if_ltT (pc := 1) t41_1 rfl (by omega) ?_
    refine zs_iconst (pc := 16) t41_16 (v := 0) (by decide) ?_
    refine zs_iret (pc := 17) t41_17 mr41 (by decide) ?_
    show zGo X l 1 0 0 55 5 [(0, .ref 7), (1, .int a), (2, .int b)] [.int (0 : Int32)] M _
    refine zs_if_eqT (pc := 5) t55_5 li0 (by decide) ?_
    refine zs_iconst (pc := 32) t55_32 (v := 0) (by decide) ?_
    exact zs_iret (pc := 33) t55_33 mr55 (by decide) (hQ _ (zrg _).1 (zrg _).2)
  · refine zs_if_ltF (pc := 1) t41_1 rfl (by omega) ?_
    refine zs_iload_n (pc := 4) t41_4 rfl ?_
    refine zs_aload_n (pc := 5) t41_5 rfl ?_
    have w2 := ib7_0 hI
    refine zs_get (pc := 6) t41_6 (by decide) (zk1 (hs.k fk_zMc_7)) (zfvi rfl rfl) ?_
    by_cases w3 : (zI M 7 0).toInt ≤ a.toInt
    · refine zs_icmp_geT (pc := 9) t41_9 rfl rfl (by omega) ?_
      refine zs_iconst (pc := 16) t41_16 (v := 0) (by decide) ?_
      refine zs_iret (pc := 17) t41_17 mr41 (by decide) ?_
      show zGo X l 1 0 0 55 5 [(0, .ref 7), (1, .int a), (2, .int b)] [.int (0 : Int32)] M _
      refine zs_if_eqT (pc := 5) t55_5 li0 (by decide) ?_
      refine zs_iconst (pc := 32) t55_32 (v := 0) (by decide) ?_
      exact zs_iret (pc := 33) t55_33 mr55 (by decide) (hQ _ (zrg _).1 (zrg _).2)
    · refine zs_icmp_geF (pc := 9) t41_9 rfl rfl (by omega) ?_
      refine zs_iconst (pc := 12) t41_12 (v := 1) (by decide) ?_
      refine zs_goto (pc := 13) t41_13 ?_
      refine zs_iret (pc := 17) t41_17 mr41 (by decide) ?_
      show zGo X l 1 0 0 55 5 [(0, .ref 7), (1, .int a), (2, .int b)] [.int (1 : Int32)] M _
      refine zs_if_eqF (pc := 5) t55_5 li1 (by decide) ?_
      refine zs_iload_n (pc := 8) t55_8 rfl ?_
      refine zs_aload_n (pc := 9) t55_9 rfl ?_
      refine zs_get (pc := 10) t55_10 (by decide) (zk1 (hs.k fk_zMc_7)) (hs.p rfl fv_zMc_7_1) ?_
      refine zs_iload_n (pc := 13) t55_13 rfl ?_
      obtain ⟨w4n, w4⟩ : ∃ n : Nat, a.toInt = (n : Int) := ⟨a.toInt.toNat, by omega⟩
      have w5 := ib8 hI w4n
      refine zs_iald (pc := 14) t55_14 (j := w4n) (by decide) (zk1 (hs.k fk_zMc_8)) w4 (zk2 (hs.k fk_zMc_8) (by omega)) rfl ?_
      obtain ⟨w6v, w6⟩ : ∃ v, b * (zI M 8 w4n) = v := ⟨_, rfl⟩
      have w6g := zrg w6v
      refine zs_imul (pc := 15) t55_15 (c := w6v) w6 ?_
      refine zs_aload_n (pc := 16) t55_16 rfl ?_
      refine zs_get (pc := 17) t55_17 (by decide) (zk1 (hs.k fk_zMc_7)) (hs.p rfl fv_zMc_7_1) ?_
      refine zs_iload_n (pc := 20) t55_20 rfl ?_
      refine zs_iald (pc := 21) t55_21 (j := w4n) (by decide) (zk1 (hs.k fk_zMc_8)) w4 (zk2 (hs.k fk_zMc_8) (by omega)) rfl ?_
      obtain ⟨w7v, w7⟩ : ∃ v, w6v * (zI M 8 w4n) = v := ⟨_, rfl⟩
      have w7g := zrg w7v
      refine zs_imul (pc := 22) t55_22 (c := w7v) w7 ?_
      refine zs_sipush (pc := 23) t55_23 (v := 10000) (by decide) ?_
      refine zs_invS (pc := 26) (as := [.int w7v, .int (10000 : Int32)]) (st := []) t55_26 (by decide) mf54 rfl rfl ⟨by decide, by decide, Nat.le_of_ble_eq_true rfl, Nat.le_of_ble_eq_true rfl⟩ (zs_in (by decide) mf54 (Nat.le_of_ble_eq_true rfl) ?_) (fun _ _ q => q)
      show zGo X l 0 0 0 54 0 [(0, .int w7v), (1, .int (10000 : Int32))] [] M _
      refine zs_iload_n (pc := 0) t54_0 rfl ?_
      refine zs_iload_n (pc := 1) t54_1 rfl ?_
      obtain ⟨w8v, w8⟩ : ∃ v, w7v / (10000 : Int32) = v := ⟨_, rfl⟩
      have w8g := zrg w8v
      refine zs_idiv (pc := 2) t54_2 (by decide) (c := w8v) w8 ?_
      refine zs_istore_n (pc := 3) t54_3 (ls' := [(2, .int w8v), (0, .int w7v), (1, .int (10000 : Int32))]) (zml mf54 (by decide)) rfl ?_
      refine zs_iload_n (pc := 4) t54_4 rfl ?_
      refine zs_iload_n (pc := 5) t54_5 rfl ?_
      obtain ⟨w9v, w9⟩ : ∃ v, w7v ^^^ (10000 : Int32) = v := ⟨_, rfl⟩
      have w9g := zrg w9v
      refine zs_ixor (pc := 6) t54_6 (c := w9v) w9 ?_
      by_cases w10 : 0 ≤ w9v.toInt
      · refine zs_if_geT (pc := 7) t54_7 rfl (by omega) ?_
        refine zs_iload_n (pc := 21) t54_21 rfl ?_
        refine zs_iret (pc := 22) t54_22 mr54 rfl ?_
        show zGo X l 1 0 0 55 29 [(0, .ref 7), (1, .int a), (2, .int b)] [.int w8v] M _
        refine zs_goto (pc := 29) t55_29 ?_
        exact zs_iret (pc := 33) t55_33 mr55 rfl (hQ _ (zrg _).1 (zrg _).2)
      · refine zs_if_geF (pc := 7) t54_7 rfl (by omega) ?_
        refine zs_iload_n (pc := 10) t54_10 rfl ?_
        refine zs_iload_n (pc := 11) t54_11 rfl ?_
        obtain ⟨w11v, w11⟩ : ∃ v, w8v * (10000 : Int32) = v := ⟨_, rfl⟩
        have w11g := zrg w11v
        refine zs_imul (pc := 12) t54_12 (c := w11v) w11 ?_
        refine zs_iload_n (pc := 13) t54_13 rfl ?_
        by_cases w12 : w11v.toInt = w7v.toInt
        · refine zs_icmp_eqT (pc := 14) t54_14 rfl rfl (by omega) ?_
          refine zs_iload_n (pc := 21) t54_21 rfl ?_
          refine zs_iret (pc := 22) t54_22 mr54 rfl ?_
          show zGo X l 1 0 0 55 29 [(0, .ref 7), (1, .int a), (2, .int b)] [.int w8v] M _
          refine zs_goto (pc := 29) t55_29 ?_
          exact zs_iret (pc := 33) t55_33 mr55 rfl (hQ _ (zrg _).1 (zrg _).2)
        · refine zs_icmp_eqF (pc := 14) t54_14 rfl rfl (by omega) ?_
          refine zs_iload_n (pc := 17) t54_17 rfl ?_
          refine zs_iconst (pc := 18) t54_18 (v := 1) (by decide) ?_
          obtain ⟨w13v, w13⟩ : ∃ v, v = w8v - (1 : Int32) := ⟨_, rfl⟩
          have w13g := zrg w13v
          refine zs_isub (pc := 19) t54_19 (c := w13v) w13.symm ?_
          refine zs_iret (pc := 20) t54_20 mr54 rfl ?_
          show zGo X l 1 0 0 55 29 [(0, .ref 7), (1, .int a), (2, .int b)] [.int w13v] M _
          refine zs_goto (pc := 29) t55_29 ?_
          exact zs_iret (pc := 33) t55_33 mr55 rfl (hQ _ (zrg _).1 (zrg _).2)
