theorem C133_T181_7 {X : zX} {l : Launch} {M : zM} {Q : Option Value → zM → Prop} {a : Int32} (hs : zSk zMc M) (hI : zIv cLo cHi M) {i0 : Nat} (hi0 : i0 < 20) (ha : 0 ≤ a.toInt ∧ a.toInt ≤ 7) (hQ : ∀ v : Int64, (-9223372036854775808) ≤ v.toInt → v.toInt ≤ 9223372036854775807 → Q (some (.long v)) M) : zCall X l 2 0 0 133 [.ref (181 + 3 * i0), .ref 7, .int a] M Q := by
  have ga := zrg a
  refine zs_in (by decide) mf133 (Nat.le_of_ble_eq_true rfl) ?_
  show zGo X l 2 0 0 133 0 [(0, .ref (181 + 3 * i0)), (1, .ref 7), (2, .int a)] [] M _
  refine zs_aload_n (pc := 0) t133_0 rfl ?_
  refine zs_aload_n (pc := 1) t133_1 rfl ?_
  refine zs_get (pc := 2) t133_2 (by decide) (zk1 (hs.k (fT181_0 i0 hi0))) (hs.p rfl (fvT181_6 i0 hi0)) ?_
  refine zs_iload_n (pc := 5) t133_5 rfl ?_
  obtain ⟨w1n, w1⟩ : ∃ n : Nat, a.toInt = (n : Int) := ⟨a.toInt.toNat, by omega⟩
  have w2 := ibT181_1 hI hi0 w1n
  refine zs_iald (pc := 6) t133_6 (j := w1n) (by omega) (zk1 (hs.k (fT181_1 i0 hi0))) w1 (zk2 (hs.k (fT181_1 i0 hi0)) (by omega)) rfl ?_
  refine zs_invV (pc := 7) (k := 7) (as' := [.int (zI M (181 + 3 * i0 + 1) w1n)]) (st := []) t133_7 mf91 rfl rfl (Or.inl ⟨by decide, (zk1 (hs.k fk_zMc_7))⟩) ⟨by decide, by decide, Nat.le_of_ble_eq_true rfl, Nat.le_of_ble_eq_true rfl⟩ (zs_in (by decide) mf91 (Nat.le_of_ble_eq_true rfl) ?_) (fun _ _ q => q)
  show zGo X l 0 0 0 91 0 [(0, .ref 7), (1, .int (zI M (181 + 3 * i0 + 1) w1n))] [] M _
  refine zs_iload_n (pc := 0) t91_0 rfl ?_
  by_cases w3 : (zI M (181 + 3 * i0 + 1) w1n).toInt < 0
  · refine zs_if_ltT (pc := 1) t91_1 rfl (by omega) ?_
    refine zs_iconst (pc := 16) t91_16 (v := 0) (by decide) ?_
    refine zs_iret (pc := 17) t91_17 mr91 (by decide) ?_
    show zGo X l 2 0 0 133 10 [(0, .ref (181 + 3 * i0)), (1, .ref 7), (2, .int a)] [.int (0 : Int32)] M _
    refine zs_if_eqT (pc := 10) t133_10 li0 (by decide) ?_
    refine zs_lconst (pc := 38) t133_38 (v := 0) (by decide) ?_
    exact zs_lret (pc := 39) t133_39 mr133 (hQ _ (zrg64 _).1 (zrg64 _).2)
  · refine zs_if_ltF (pc := 1) t91_1 rfl (by omega) ?_
    refine zs_iload_n (pc := 4) t91_4 rfl ?_
    refine zs_aload_n (pc := 5) t91_5 rfl ?_
    have w4 := ib7_3 hI
    refine zs_get (pc := 6) t91_6 (by decide) (zk1 (hs.k fk_zMc_7)) (zfvi rfl rfl) ?_
    by_cases w5 : (zI M 7 3).toInt ≤ (zI M (181 + 3 * i0 + 1) w1n).toInt
    · refine zs_icmp_geT (pc := 9) t91_9 rfl rfl (by omega) ?_
      refine zs_iconst (pc := 16) t91_16 (v := 0) (by decide) ?_
      refine zs_iret (pc := 17) t91_17 mr91 (by decide) ?_
      show zGo X l 2 0 0 133 10 [(0, .ref (181 + 3 * i0)), (1, .ref 7), (2, .int a)] [.int (0 : Int32)] M _
      refine zs_if_eqT (pc := 10) t133_10 li0 (by decide) ?_
      refine zs_lconst (pc := 38) t133_38 (v := 0) (by decide) ?_
      exact zs_lret (pc := 39) t133_39 mr133 (hQ _ (zrg64 _).1 (zrg64 _).2)
    · refine zs_icmp_geF (pc := 9) t91_9 rfl rfl (by omega) ?_
      refine zs_iconst (pc := 12) t91_12 (v := 1) (by decide) ?_
      refine zs_goto (pc := 13) t91_13 ?_
      refine zs_iret (pc := 17) t91_17 mr91 (by decide) ?_
      show zGo X l 2 0 0 133 10 [(0, .ref (181 + 3 * i0)), (1, .ref 7), (2, .int a)] [.int (1 : Int32)] M _
      refine zs_if_eqF (pc := 10) t133_10 li1 (by decide) ?_
      refine zs_aload_n (pc := 13) t133_13 rfl ?_
      refine zs_get (pc := 14) t133_14 (by decide) (zk1 (hs.k fk_zMc_7)) (hs.p rfl fv_zMc_7_5) ?_
      refine zs_aload_n (pc := 17) t133_17 rfl ?_
      refine zs_get (pc := 18) t133_18 (by decide) (zk1 (hs.k (fT181_0 i0 hi0))) (hs.p rfl (fvT181_6 i0 hi0)) ?_
      refine zs_iload_n (pc := 21) t133_21 rfl ?_
      refine zs_iald (pc := 22) t133_22 (j := w1n) (by omega) (zk1 (hs.k (fT181_1 i0 hi0))) w1 (zk2 (hs.k (fT181_1 i0 hi0)) (by omega)) rfl ?_
      obtain ⟨w6n, w6⟩ : ∃ n : Nat, (zI M (181 + 3 * i0 + 1) w1n).toInt = (n : Int) := ⟨(zI M (181 + 3 * i0 + 1) w1n).toInt.toNat, by omega⟩
      have w7 := ib11 hI w6n
      refine zs_iald (pc := 23) t133_23 (j := w6n) (by decide) (zk1 (hs.k fk_zMc_11)) w6 (zk2 (hs.k fk_zMc_11) (by omega)) rfl ?_
      refine zs_aload_n (pc := 24) t133_24 rfl ?_
      refine zs_iload_n (pc := 25) t133_25 rfl ?_
      refine zs_aload_n (pc := 26) t133_26 rfl ?_
      have w8 := ibT181_0_0 hI hi0
      refine zs_get (pc := 27) t133_27 (by decide) (zk1 (hs.k (fT181_0 i0 hi0))) (zfvi rfl rfl) ?_
      refine zs_invV (pc := 30) (k := 7) (as' := [.int a, .int (zI M (181 + 3 * i0) 0)]) (st := [.int (zI M 11 w6n)]) t133_30 mf55 rfl rfl (Or.inl ⟨by decide, (zk1 (hs.k fk_zMc_7))⟩) ⟨by decide, by decide, Nat.le_of_ble_eq_true rfl, Nat.le_of_ble_eq_true rfl⟩ (C55_7 hs hI ?_) (fun _ _ q => q)
      intro w9v w9a w9b
      show zGo X l 2 0 0 133 33 [(0, .ref (181 + 3 * i0)), (1, .ref 7), (2, .int a)] [.int w9v, .int (zI M 11 w6n)] M _
      obtain ⟨w10v, w10⟩ : ∃ v, v = (zI M 11 w6n) - w9v := ⟨_, rfl⟩
      have w10g := zrg w10v
      refine zs_isub (pc := 33) t133_33 (c := w10v) w10.symm ?_
      refine zs_i2l (pc := 34) t133_34 rfl ?_
      refine zs_goto (pc := 35) t133_35 ?_
      exact zs_lret (pc := 39) t133_39 mr133 (hQ _ (zrg64 _).1 (zrg64 _).2)
theorem C202_T181_7 {X : zX} {l : Launch} {M : zM} {Q : Option Value → zM → Prop} {a : Int32} (hs : zSk zMc M) (hI : zIv cLo cHi M) {i0 : Nat} (hi0 : i0 < 20) (hQ : ∀ v : Int32, (-2147483648) ≤ v.toInt → v.toInt ≤ 2147483647 → Q (some (.int v)) M) : zCall X l 2 0 0 202 [.ref (181 + 3 * i0), .ref 7, .int a] M Q := by
  have ga := zrg a
  refine zs_in (by decide) mf202 (Nat.le_of_ble_eq_true rfl) ?_
  show zGo X l 2 0 0 202 0 [(0, .ref (181 + 3 * i0)), (1, .ref 7), (2, .int a)] [] M _
  refine zs_aload_n (pc := 0) t202_0 rfl ?_
  refine zs_iload_n (pc := 1) t202_1 rfl ?_
  refine zs_invV (pc := 2) (k := 7) (as' := [.int a]) (st := []) t202_2 mf41 rfl rfl (Or.inl ⟨by decide, (zk1 (hs.k fk_zMc_7))⟩) ⟨by decide, by decide, Nat.le_of_ble_eq_true rfl, Nat.le_of_ble_eq_true rfl⟩ (zs_in (by decide) mf41 (Nat.le_of_ble_eq_true rfl) ?_) (fun _ _ q => q)
  show zGo X l 0 0 0 41 0 [(0, .ref 7), (1, .int a)] [] M _
  refine zs_iload_n (pc := 0) t41_0 rfl ?_
  by_cases w1 : a.toInt < 0
  · refine zs_if_ltT (pc := 1) t41_1 rfl (by omega) ?_
    refine zs_iconst (pc := 16) t41_16 (v := 0) (by decide) ?_
    refine zs_iret (pc := 17) t41_17 mr41 (by decide) ?_
    show zGo X l 2 0 0 202 5 [(0, .ref (181 + 3 * i0)), (1, .ref 7), (2, .int a)] [.int (0 : Int32)] M _
    refine zs_if_neF (pc := 5) t202_5 li0 (by decide) ?_
    refine zs_iconst (pc := 8) t202_8 (v := 0) (by decide) ?_
    exact zs_iret (pc := 9) t202_9 mr202 (by decide) (hQ _ (zrg _).1 (zrg _).2)
  · refine zs_if_ltF (pc := 1) t41_1 rfl (by omega) ?_
    refine zs_iload_n (pc := 4) t41_4 rfl ?_
    refine zs_aload_n (pc := 5) t41_5 rfl ?_
    have w2 := ib7_0 hI
    refine zs_get (pc := 6) t41_6 (by decide) (zk1 (hs.k fk_zMc_7)) (zfvi rfl rfl) ?_
    by_cases w3 : (zI M 7 0).toInt ≤ a.toInt
    · refine zs_icmp_geT (pc := 9) t41_9 rfl rfl (by omega) ?_
      refine zs_iconst (pc := 16) t41_16 (v := 0) (by decide) ?_
      refine zs_iret (pc := 17) t41_17 mr41 (by decide) ?_
      show zGo X l 2 0 0 202 5 [(0, .ref (181 + 3 * i0)), (1, .ref 7), (2, .int a)] [.int (0 : Int32)] M _
      refine zs_if_neF (pc := 5) t202_5 li0 (by decide) ?_
      refine zs_iconst (pc := 8) t202_8 (v := 0) (by decide) ?_
      exact zs_iret (pc := 9) t202_9 mr202 (by decide) (hQ _ (zrg _).1 (zrg _).2)
    · refine zs_icmp_geF (pc := 9) t41_9 rfl rfl (by omega) ?_
      refine zs_iconst (pc := 12) t41_12 (v := 1) (by decide) ?_
      refine zs_goto (pc := 13) t41_13 ?_
      refine zs_iret (pc := 17) t41_17 mr41 (by decide) ?_
      show zGo X l 2 0 0 202 5 [(0, .ref (181 + 3 * i0)), (1, .ref 7), (2, .int a)] [.int (1 : Int32)] M _
      refine zs_if_neT (pc := 5) t202_5 li1 (by decide) ?_
      refine zs_aload_n (pc := 10) t202_10 rfl ?_
      refine zs_get (pc := 11) t202_11 (by decide) (zk1 (hs.k (fT181_0 i0 hi0))) (zfvj rfl) ?_
      refine zs_aload_n (pc := 14) t202_14 rfl ?_
      refine zs_get (pc := 15) t202_15 (by decide) (zk1 (hs.k (fT181_0 i0 hi0))) (zfvj rfl) ?_
      refine zs_aload_n (pc := 18) t202_18 rfl ?_
      refine zs_get (pc := 19) t202_19 (by decide) (zk1 (hs.k fk_zMc_7)) (hs.p rfl fv_zMc_7_1) ?_
      refine zs_iload_n (pc := 22) t202_22 rfl ?_
      obtain ⟨w4n, w4⟩ : ∃ n : Nat, a.toInt = (n : Int) := ⟨a.toInt.toNat, by omega⟩
      have w5 := ib8 hI w4n
      refine zs_iald (pc := 23) t202_23 (j := w4n) (by decide) (zk1 (hs.k fk_zMc_8)) w4 (zk2 (hs.k fk_zMc_8) (by omega)) rfl ?_
      refine zs_i2l (pc := 24) t202_24 rfl ?_
      obtain ⟨w6v, w6⟩ : ∃ v, (zJ M (181 + 3 * i0) 10) * (zI M 8 w4n).toInt64 = v := ⟨_, rfl⟩
      have w6g := zrg64 w6v
      refine zs_lmul (pc := 25) t202_25 (c := w6v) w6 ?_
      obtain ⟨w7v, w7⟩ : ∃ v, (zJ M (181 + 3 * i0) 9) + w6v = v := ⟨_, rfl⟩
      have w7g := zrg64 w7v
      refine zs_ladd (pc := 26) t202_26 (c := w7v) w7 ?_
      refine zs_lstore_n (pc := 27) t202_27 (ls' := [(3, .long w7v), (0, .ref (181 + 3 * i0)), (1, .ref 7), (2, .int a)]) (zml mf202 (by decide)) rfl ?_
      refine zs_lload_n (pc := 28) t202_28 rfl ?_
      refine zs_lconst (pc := 29) t202_29 (v := 1) (by decide) ?_
      refine zs_aload_n (pc := 30) t202_30 rfl ?_
      refine zs_get (pc := 31) t202_31 (by decide) (zk1 (hs.k (fT181_0 i0 hi0))) (zfvj rfl) ?_
      refine zs_invS (pc := 34) (as := [.long (1 : Int64), .long (zJ M (181 + 3 * i0) 8)]) (st := [.long w7v]) t202_34 (by decide) mf134 rfl rfl ⟨by decide, by decide, Nat.le_of_ble_eq_true rfl, Nat.le_of_ble_eq_true rfl⟩ (zs_in (by decide) mf134 (Nat.le_of_ble_eq_true rfl) ?_) (fun _ _ q => q)
      show zGo X l 0 0 0 134 0 [(0, .long (1 : Int64)), (2, .long (zJ M (181 + 3 * i0) 8))] [] M _
      refine zs_lload_n (pc := 0) t134_0 rfl ?_
      refine zs_lload_n (pc := 1) t134_1 rfl ?_
      by_cases w8 : 1 < (zJ M (181 + 3 * i0) 8).toInt
      · refine zs_lcmp (pc := 2) t134_2 (c := -1) (zlcL ll1 rfl (by omega)) ?_
        refine zs_if_ltT (pc := 3) t134_3 lin1 (by decide) ?_
        refine zs_lload_n (pc := 10) t134_10 rfl ?_
        refine zs_lret (pc := 11) t134_11 mr134 ?_
        show zGo X l 2 0 0 202 37 [(3, .long w7v), (0, .ref (181 + 3 * i0)), (1, .ref 7), (2, .int a)] [.long (zJ M (181 + 3 * i0) 8), .long w7v] M _
        refine zs_invS (pc := 37) (as := [.long w7v, .long (zJ M (181 + 3 * i0) 8)]) (st := []) t202_37 (by decide) mf140 rfl rfl ⟨by decide, by decide, Nat.le_of_ble_eq_true rfl, Nat.le_of_ble_eq_true rfl⟩ (zs_in (by decide) mf140 (Nat.le_of_ble_eq_true rfl) ?_) (fun _ _ q => q)
        show zGo X l 0 0 0 140 0 [(0, .long w7v), (2, .long (zJ M (181 + 3 * i0) 8))] [] M _
        refine zs_lload_n (pc := 0) t140_0 rfl ?_
        refine zs_lload_n (pc := 1) t140_1 rfl ?_
        obtain ⟨w9v, w9⟩ : ∃ v, w7v / (zJ M (181 + 3 * i0) 8) = v := ⟨_, rfl⟩
        have w9g := zrg64 w9v
        refine zs_ldiv (pc := 2) t140_2 (znz64 rfl (by omega)) (c := w9v) w9 ?_
        refine zs_lstore (pc := 3) t140_3 (ls' := [(4, .long w9v), (0, .long w7v), (2, .long (zJ M (181 + 3 * i0) 8))]) (zml mf140 (by decide)) rfl ?_
        refine zs_lload_n (pc := 5) t140_5 rfl ?_
        refine zs_lload_n (pc := 6) t140_6 rfl ?_
        obtain ⟨w10v, w10⟩ : ∃ v, w7v ^^^ (zJ M (181 + 3 * i0) 8) = v := ⟨_, rfl⟩
        have w10g := zrg64 w10v
        refine zs_lxor (pc := 7) t140_7 (c := w10v) w10 ?_
        refine zs_lconst (pc := 8) t140_8 (v := 0) (by decide) ?_
        by_cases w11 : w10v.toInt < 0
        · refine zs_lcmp (pc := 9) t140_9 (c := -1) (zlcL rfl ll0 (by omega)) ?_
          refine zs_if_geF (pc := 10) t140_10 lin1 (by decide) ?_
          refine zs_lload (pc := 13) t140_13 rfl ?_
          refine zs_lload_n (pc := 15) t140_15 rfl ?_
          obtain ⟨w12v, w12⟩ : ∃ v, w9v * (zJ M (181 + 3 * i0) 8) = v := ⟨_, rfl⟩
          have w12g := zrg64 w12v
          refine zs_lmul (pc := 16) t140_16 (c := w12v) w12 ?_
          refine zs_lload_n (pc := 17) t140_17 rfl ?_
          by_cases w13 : w12v.toInt < w7v.toInt
          · refine zs_lcmp (pc := 18) t140_18 (c := -1) (zlcL rfl rfl (by omega)) ?_
            refine zs_if_eqF (pc := 19) t140_19 lin1 (by decide) ?_
            refine zs_lload (pc := 22) t140_22 rfl ?_
            refine zs_lconst (pc := 24) t140_24 (v := 1) (by decide) ?_
            obtain ⟨w14v, w14⟩ : ∃ v, w9v - (1 : Int64) = v := ⟨_, rfl⟩
            have w14g := zrg64 w14v
            refine zs_lsub (pc := 25) t140_25 (c := w14v) w14 ?_
            refine zs_lret (pc := 26) t140_26 mr140 ?_
            show zGo X l 2 0 0 202 40 [(3, .long w7v), (0, .ref (181 + 3 * i0)), (1, .ref 7), (2, .int a)] [.long w14v] M _
            obtain ⟨w15v, w15⟩ : ∃ v, w14v.toInt32 = v := ⟨_, rfl⟩
            have w15g := zrg w15v
            refine zs_l2i (pc := 40) t202_40 (c := w15v) w15 ?_
            refine zs_aload_n (pc := 41) t202_41 rfl ?_
            refine zs_iload_n (pc := 42) t202_42 rfl ?_
            refine zs_aload_n (pc := 43) t202_43 rfl ?_
            have w16 := ibT181_0_0 hI hi0
            refine zs_get (pc := 44) t202_44 (by decide) (zk1 (hs.k (fT181_0 i0 hi0))) (zfvi rfl rfl) ?_
            refine zs_invV (pc := 47) (k := 7) (as' := [.int a, .int (zI M (181 + 3 * i0) 0)]) (st := [.int w15v]) t202_47 mf55 rfl rfl (Or.inl ⟨by decide, (zk1 (hs.k fk_zMc_7))⟩) ⟨by decide, by decide, Nat.le_of_ble_eq_true rfl, Nat.le_of_ble_eq_true rfl⟩ (C55_7 hs hI ?_) (fun _ _ q => q)
            intro w17v w17a w17b
            show zGo X l 2 0 0 202 50 [(3, .long w7v), (0, .ref (181 + 3 * i0)), (1, .ref 7), (2, .int a)] [.int w17v, .int w15v] M _
            obtain ⟨w18v, w18⟩ : ∃ v, v = w15v + w17v := ⟨_, rfl⟩
            have w18g := zrg w18v
            refine zs_iadd (pc := 50) t202_50 (c := w18v) w18.symm ?_
            exact zs_iret (pc := 51) t202_51 mr202 rfl (hQ _ (zrg _).1 (zrg _).2)
          by_cases w19 : w12v.toInt = w7v.toInt
          · refine zs_lcmp (pc := 18) t140_18 (c := 0) (zlcE rfl rfl (by omega)) ?_
            refine zs_if_eqT (pc := 19) t140_19 li0 (by decide) ?_
            refine zs_lload (pc := 27) t140_27 rfl ?_
            refine zs_lret (pc := 29) t140_29 mr140 ?_
            show zGo X l 2 0 0 202 40 [(3, .long w7v), (0, .ref (181 + 3 * i0)), (1, .ref 7), (2, .int a)] [.long w9v] M _
            obtain ⟨w20v, w20⟩ : ∃ v, w9v.toInt32 = v := ⟨_, rfl⟩
            have w20g := zrg w20v
            refine zs_l2i (pc := 40) t202_40 (c := w20v) w20 ?_
            refine zs_aload_n (pc := 41) t202_41 rfl ?_
            refine zs_iload_n (pc := 42) t202_42 rfl ?_
            refine zs_aload_n (pc := 43) t202_43 rfl ?_
            have w21 := ibT181_0_0 hI hi0
            refine zs_get (pc := 44) t202_44 (by decide) (zk1 (hs.k (fT181_0 i0 hi0))) (zfvi rfl rfl) ?_
            refine zs_invV (pc := 47) (k := 7) (as' := [.int a, .int (zI M (181 + 3 * i0) 0)]) (st := [.int w20v]) t202_47 mf55 rfl rfl (Or.inl ⟨by decide, (zk1 (hs.k fk_zMc_7))⟩) ⟨by decide, by decide, Nat.le_of_ble_eq_true rfl, Nat.le_of_ble_eq_true rfl⟩ (C55_7 hs hI ?_) (fun _ _ q => q)
            intro w22v w22a w22b
            show zGo X l 2 0 0 202 50 [(3, .long w7v), (0, .ref (181 + 3 * i0)), (1, .ref 7), (2, .int a)] [.int w22v, .int w20v] M _
            obtain ⟨w23v, w23⟩ : ∃ v, v = w20v + w22v := ⟨_, rfl⟩
            have w23g := zrg w23v
            refine zs_iadd (pc := 50) t202_50 (c := w23v) w23.symm ?_
            exact zs_iret (pc := 51) t202_51 mr202 rfl (hQ _ (zrg _).1 (zrg _).2)
          refine zs_lcmp (pc := 18) t140_18 (c := 1) (zlcG rfl rfl (by omega)) ?_
          refine zs_if_eqF (pc := 19) t140_19 li1 (by decide) ?_
          refine zs_lload (pc := 22) t140_22 rfl ?_
          refine zs_lconst (pc := 24) t140_24 (v := 1) (by decide) ?_
          obtain ⟨w25v, w25⟩ : ∃ v, w9v - (1 : Int64) = v := ⟨_, rfl⟩
          have w25g := zrg64 w25v
          refine zs_lsub (pc := 25) t140_25 (c := w25v) w25 ?_
          refine zs_lret (pc := 26) t140_26 mr140 ?_
          show zGo X l 2 0 0 202 40 [(3, .long w7v), (0, .ref (181 + 3 * i0)), (1, .ref 7), (2, .int a)] [.long w25v] M _
          obtain ⟨w26v, w26⟩ : ∃ v, w25v.toInt32 = v := ⟨_, rfl⟩
          have w26g := zrg w26v
          refine zs_l2i (pc := 40) t202_40 (c := w26v) w26 ?_
          refine zs_aload_n (pc := 41) t202_41 rfl ?_
          refine zs_iload_n (pc := 42) t202_42 rfl ?_
          refine zs_aload_n (pc := 43) t202_43 rfl ?_
          have w27 := ibT181_0_0 hI hi0
          refine zs_get (pc := 44) t202_44 (by decide) (zk1 (hs.k (fT181_0 i0 hi0))) (zfvi rfl rfl) ?_
          refine zs_invV (pc := 47) (k := 7) (as' := [.int a, .int (zI M (181 + 3 * i0) 0)]) (st := [.int w26v]) t202_47 mf55 rfl rfl (Or.inl ⟨by decide, (zk1 (hs.k fk_zMc_7))⟩) ⟨by decide, by decide, Nat.le_of_ble_eq_true rfl, Nat.le_of_ble_eq_true rfl⟩ (C55_7 hs hI ?_) (fun _ _ q => q)
          intro w28v w28a w28b
          show zGo X l 2 0 0 202 50 [(3, .long w7v), (0, .ref (181 + 3 * i0)), (1, .ref 7), (2, .int a)] [.int w28v, .int w26v] M _
          obtain ⟨w29v, w29⟩ : ∃ v, v = w26v + w28v := ⟨_, rfl⟩
          have w29g := zrg w29v
          refine zs_iadd (pc := 50) t202_50 (c := w29v) w29.symm ?_
          exact zs_iret (pc := 51) t202_51 mr202 rfl (hQ _ (zrg _).1 (zrg _).2)
        by_cases w30 : w10v.toInt = 0
        · refine zs_lcmp (pc := 9) t140_9 (c := 0) (zlcE rfl ll0 (by omega)) ?_
          refine zs_if_geT (pc := 10) t140_10 li0 (by decide) ?_
          refine zs_lload (pc := 27) t140_27 rfl ?_
          refine zs_lret (pc := 29) t140_29 mr140 ?_
          show zGo X l 2 0 0 202 40 [(3, .long w7v), (0, .ref (181 + 3 * i0)), (1, .ref 7), (2, .int a)] [.long w9v] M _
          obtain ⟨w31v, w31⟩ : ∃ v, w9v.toInt32 = v := ⟨_, rfl⟩
          have w31g := zrg w31v
          refine zs_l2i (pc := 40) t202_40 (c := w31v) w31 ?_
          refine zs_aload_n (pc := 41) t202_41 rfl ?_
          refine zs_iload_n (pc := 42) t202_42 rfl ?_
          refine zs_aload_n (pc := 43) t202_43 rfl ?_
          have w32 := ibT181_0_0 hI hi0
          refine zs_get (pc := 44) t202_44 (by decide) (zk1 (hs.k (fT181_0 i0 hi0))) (zfvi rfl rfl) ?_
          refine zs_invV (pc := 47) (k := 7) (as' := [.int a, .int (zI M (181 + 3 * i0) 0)]) (st := [.int w31v]) t202_47 mf55 rfl rfl (Or.inl ⟨by decide, (zk1 (hs.k fk_zMc_7))⟩) ⟨by decide, by decide, Nat.le_of_ble_eq_true rfl, Nat.le_of_ble_eq_true rfl⟩ (C55_7 hs hI ?_) (fun _ _ q => q)
          intro w33v w33a w33b
          show zGo X l 2 0 0 202 50 [(3, .long w7v), (0, .ref (181 + 3 * i0)), (1, .ref 7), (2, .int a)] [.int w33v, .int w31v] M _
          obtain ⟨w34v, w34⟩ : ∃ v, v = w31v + w33v := ⟨_, rfl⟩
          have w34g := zrg w34v
          refine zs_iadd (pc := 50) t202_50 (c := w34v) w34.symm ?_
          exact zs_iret (pc := 51) t202_51 mr202 rfl (hQ _ (zrg _).1 (zrg _).2)
        refine zs_lcmp (pc := 9) t140_9 (c := 1) (zlcG rfl ll0 (by omega)) ?_
        refine zs_if_geT (pc := 10) t140_10 li1 (by decide) ?_
        refine zs_lload (pc := 27) t140_27 rfl ?_
        refine zs_lret (pc := 29) t140_29 mr140 ?_
        show zGo X l 2 0 0 202 40 [(3, .long w7v), (0, .ref (181 + 3 * i0)), (1, .ref 7), (2, .int a)] [.long w9v] M _
        obtain ⟨w36v, w36⟩ : ∃ v, w9v.toInt32 = v := ⟨_, rfl⟩
        have w36g := zrg w36v
        refine zs_l2i (pc := 40) t202_40 (c := w36v) w36 ?_
        refine zs_aload_n (pc := 41) t202_41 rfl ?_
        refine zs_iload_n (pc := 42) t202_42 rfl ?_
        refine zs_aload_n (pc := 43) t202_43 rfl ?_
        have w37 := ibT181_0_0 hI hi0
        refine zs_get (pc := 44) t202_44 (by decide) (zk1 (hs.k (fT181_0 i0 hi0))) (zfvi rfl rfl) ?_
        refine zs_invV (pc := 47) (k := 7) (as' := [.int a, .int (zI M (181 + 3 * i0) 0)]) (st := [.int w36v]) t202_47 mf55 rfl rfl (Or.inl ⟨by decide, (zk1 (hs.k fk_zMc_7))⟩) ⟨by decide, by decide, Nat.le_of_ble_eq_true rfl, Nat.le_of_ble_eq_true rfl⟩ (C55_7 hs hI ?_) (fun _ _ q => q)
        intro w38v w38a w38b
        show zGo X l 2 0 0 202 50 [(3, .long w7v), (0, .ref (181 + 3 * i0)), (1, .ref 7), (2, .int a)] [.int w38v, .int w36v] M _
        obtain ⟨w39v, w39⟩ : ∃ v, v = w36v + w38v := ⟨_, rfl⟩
        have w39g := zrg w39v
        refine zs_iadd (pc := 50) t202_50 (c := w39v) w39.symm ?_
        exact zs_iret (pc := 51) t202_51 mr202 rfl (hQ _ (zrg _).1 (zrg _).2)
      by_cases w40 : 1 = (zJ M (181 + 3 * i0) 8).toInt
      · refine zs_lcmp (pc := 2) t134_2 (c := 0) (zlcE ll1 rfl (by omega)) ?_
        refine zs_if_ltF (pc := 3) t134_3 li0 (by decide) ?_
        refine zs_lload_n (pc := 6) t134_6 rfl ?_
        refine zs_goto (pc := 7) t134_7 ?_
        refine zs_lret (pc := 11) t134_11 mr134 ?_
        show zGo X l 2 0 0 202 37 [(3, .long w7v), (0, .ref (181 + 3 * i0)), (1, .ref 7), (2, .int a)] [.long (1 : Int64), .long w7v] M _
        refine zs_invS (pc := 37) (as := [.long w7v, .long (1 : Int64)]) (st := []) t202_37 (by decide) mf140 rfl rfl ⟨by decide, by decide, Nat.le_of_ble_eq_true rfl, Nat.le_of_ble_eq_true rfl⟩ (zs_in (by decide) mf140 (Nat.le_of_ble_eq_true rfl) ?_) (fun _ _ q => q)
        show zGo X l 0 0 0 140 0 [(0, .long w7v), (2, .long (1 : Int64))] [] M _
        refine zs_lload_n (pc := 0) t140_0 rfl ?_
        refine zs_lload_n (pc := 1) t140_1 rfl ?_
        obtain ⟨w41v, w41⟩ : ∃ v, w7v / (1 : Int64) = v := ⟨_, rfl⟩
        have w41g := zrg64 w41v
        refine zs_ldiv (pc := 2) t140_2 (by decide) (c := w41v) w41 ?_
        refine zs_lstore (pc := 3) t140_3 (ls' := [(4, .long w41v), (0, .long w7v), (2, .long (1 : Int64))]) (zml mf140 (by decide)) rfl ?_
        refine zs_lload_n (pc := 5) t140_5 rfl ?_
        refine zs_lload_n (pc := 6) t140_6 rfl ?_
        obtain ⟨w42v, w42⟩ : ∃ v, w7v ^^^ (1 : Int64) = v := ⟨_, rfl⟩
        have w42g := zrg64 w42v
        refine zs_lxor (pc := 7) t140_7 (c := w42v) w42 ?_
        refine zs_lconst (pc := 8) t140_8 (v := 0) (by decide) ?_
        by_cases w43 : w42v.toInt < 0
        · refine zs_lcmp (pc := 9) t140_9 (c := -1) (zlcL rfl ll0 (by omega)) ?_
          refine zs_if_geF (pc := 10) t140_10 lin1 (by decide) ?_
          refine zs_lload (pc := 13) t140_13 rfl ?_
          refine zs_lload_n (pc := 15) t140_15 rfl ?_
          obtain ⟨w44v, w44⟩ : ∃ v, w41v * (1 : Int64) = v := ⟨_, rfl⟩
          have w44g := zrg64 w44v
          refine zs_lmul (pc := 16) t140_16 (c := w44v) w44 ?_
          refine zs_lload_n (pc := 17) t140_17 rfl ?_
          by_cases w45 : w44v.toInt < w7v.toInt
          · refine zs_lcmp (pc := 18) t140_18 (c := -1) (zlcL rfl rfl (by omega)) ?_
            refine zs_if_eqF (pc := 19) t140_19 lin1 (by decide) ?_
            refine zs_lload (pc := 22) t140_22 rfl ?_
            refine zs_lconst (pc := 24) t140_24 (v := 1) (by decide) ?_
            obtain ⟨w46v, w46⟩ : ∃ v, w41v - (1 : Int64) = v := ⟨_, rfl⟩
            have w46g := zrg64 w46v
            refine zs_lsub (pc := 25) t140_25 (c := w46v) w46 ?_
            refine zs_lret (pc := 26) t140_26 mr140 ?_
            show zGo X l 2 0 0 202 40 [(3, .long w7v), (0, .ref (181 + 3 * i0)), (1, .ref 7), (2, .int a)] [.long w46v] M _
            obtain ⟨w47v, w47⟩ : ∃ v, w46v.toInt32 = v := ⟨_, rfl⟩
            have w47g := zrg w47v
            refine zs_l2i (pc := 40) t202_40 (c := w47v) w47 ?_
            refine zs_aload_n (pc := 41) t202_41 rfl ?_
            refine zs_iload_n (pc := 42) t202_42 rfl ?_
            refine zs_aload_n (pc := 43) t202_43 rfl ?_
            have w48 := ibT181_0_0 hI hi0
            refine zs_get (pc := 44) t202_44 (by decide) (zk1 (hs.k (fT181_0 i0 hi0))) (zfvi rfl rfl) ?_
            refine zs_invV (pc := 47) (k := 7) (as' := [.int a, .int (zI M (181 + 3 * i0) 0)]) (st := [.int w47v]) t202_47 mf55 rfl rfl (Or.inl ⟨by decide, (zk1 (hs.k fk_zMc_7))⟩) ⟨by decide, by decide, Nat.le_of_ble_eq_true rfl, Nat.le_of_ble_eq_true rfl⟩ (C55_7 hs hI ?_) (fun _ _ q => q)
            intro w49v w49a w49b
            show zGo X l 2 0 0 202 50 [(3, .long w7v), (0, .ref (181 + 3 * i0)), (1, .ref 7), (2, .int a)] [.int w49v, .int w47v] M _
            obtain ⟨w50v, w50⟩ : ∃ v, v = w47v + w49v := ⟨_, rfl⟩
            have w50g := zrg w50v
            refine zs_iadd (pc := 50) t202_50 (c := w50v) w50.symm ?_
            exact zs_iret (pc := 51) t202_51 mr202 rfl (hQ _ (zrg _).1 (zrg _).2)
          by_cases w51 : w44v.toInt = w7v.toInt
          · refine zs_lcmp (pc := 18) t140_18 (c := 0) (zlcE rfl rfl (by omega)) ?_
            refine zs_if_eqT (pc := 19) t140_19 li0 (by decide) ?_
            refine zs_lload (pc := 27) t140_27 rfl ?_
            refine zs_lret (pc := 29) t140_29 mr140 ?_
            show zGo X l 2 0 0 202 40 [(3, .long w7v), (0, .ref (181 + 3 * i0)), (1, .ref 7), (2, .int a)] [.long w41v] M _
            obtain ⟨w52v, w52⟩ : ∃ v, w41v.toInt32 = v := ⟨_, rfl⟩
            have w52g := zrg w52v
            refine zs_l2i (pc := 40) t202_40 (c := w52v) w52 ?_
            refine zs_aload_n (pc := 41) t202_41 rfl ?_
            refine zs_iload_n (pc := 42) t202_42 rfl ?_
            refine zs_aload_n (pc := 43) t202_43 rfl ?_
            have w53 := ibT181_0_0 hI hi0
            refine zs_get (pc := 44) t202_44 (by decide) (zk1 (hs.k (fT181_0 i0 hi0))) (zfvi rfl rfl) ?_
            refine zs_invV (pc := 47) (k := 7) (as' := [.int a, .int (zI M (181 + 3 * i0) 0)]) (st := [.int w52v]) t202_47 mf55 rfl rfl (Or.inl ⟨by decide, (zk1 (hs.k fk_zMc_7))⟩) ⟨by decide, by decide, Nat.le_of_ble_eq_true rfl, Nat.le_of_ble_eq_true rfl⟩ (C55_7 hs hI ?_) (fun _ _ q => q)
            intro w54v w54a w54b
            show zGo X l 2 0 0 202 50 [(3, .long w7v), (0, .ref (181 + 3 * i0)), (1, .ref 7), (2, .int a)] [.int w54v, .int w52v] M _
            obtain ⟨w55v, w55⟩ : ∃ v, v = w52v + w54v := ⟨_, rfl⟩
            have w55g := zrg w55v
            refine zs_iadd (pc := 50) t202_50 (c := w55v) w55.symm ?_
            exact zs_iret (pc := 51) t202_51 mr202 rfl (hQ _ (zrg _).1 (zrg _).2)
          refine zs_lcmp (pc := 18) t140_18 (c := 1) (zlcG rfl rfl (by omega)) ?_
          refine zs_if_eqF (pc := 19) t140_19 li1 (by decide) ?_
          refine zs_lload (pc := 22) t140_22 rfl ?_
          refine zs_lconst (pc := 24) t140_24 (v := 1) (by decide) ?_
          obtain ⟨w57v, w57⟩ : ∃ v, w41v - (1 : Int64) = v := ⟨_, rfl⟩
          have w57g := zrg64 w57v
          refine zs_lsub (pc := 25) t140_25 (c := w57v) w57 ?_
          refine zs_lret (pc := 26) t140_26 mr140 ?_
          show zGo X l 2 0 0 202 40 [(3, .long w7v), (0, .ref (181 + 3 * i0)), (1, .ref 7), (2, .int a)] [.long w57v] M _
          obtain ⟨w58v, w58⟩ : ∃ v, w57v.toInt32 = v := ⟨_, rfl⟩
          have w58g := zrg w58v
          refine zs_l2i (pc := 40) t202_40 (c := w58v) w58 ?_
          refine zs_aload_n (pc := 41) t202_41 rfl ?_
          refine zs_iload_n (pc := 42) t202_42 rfl ?_
          refine zs_aload_n (pc := 43) t202_43 rfl ?_
          have w59 := ibT181_0_0 hI hi0
          refine zs_get (pc := 44) t202_44 (by decide) (zk1 (hs.k (fT181_0 i0 hi0))) (zfvi rfl rfl) ?_
          refine zs_invV (pc := 47) (k := 7) (as' := [.int a, .int (zI M (181 + 3 * i0) 0)]) (st := [.int w58v]) t202_47 mf55 rfl rfl (Or.inl ⟨by decide, (zk1 (hs.k fk_zMc_7))⟩) ⟨by decide, by decide, Nat.le_of_ble_eq_true rfl, Nat.le_of_ble_eq_true rfl⟩ (C55_7 hs hI ?_) (fun _ _ q => q)
          intro w60v w60a w60b
          show zGo X l 2 0 0 202 50 [(3, .long w7v), (0, .ref (181 + 3 * i0)), (1, .ref 7), (2, .int a)] [.int w60v, .int w58v] M _
          obtain ⟨w61v, w61⟩ : ∃ v, v = w58v + w60v := ⟨_, rfl⟩
          have w61g := zrg w61v
          refine zs_iadd (pc := 50) t202_50 (c := w61v) w61.symm ?_
          exact zs_iret (pc := 51) t202_51 mr202 rfl (hQ _ (zrg _).1 (zrg _).2)
        by_cases w62 : w42v.toInt = 0
        · refine zs_lcmp (pc := 9) t140_9 (c := 0) (zlcE rfl ll0 (by omega)) ?_
          refine zs_if_geT (pc := 10) t140_10 li0 (by decide) ?_
          refine zs_lload (pc := 27) t140_27 rfl ?_
          refine zs_lret (pc := 29) t140_29 mr140 ?_
          show zGo X l 2 0 0 202 40 [(3, .long w7v), (0, .ref (181 + 3 * i0)), (1, .ref 7), (2, .int a)] [.long w41v] M _
          obtain ⟨w63v, w63⟩ : ∃ v, w41v.toInt32 = v := ⟨_, rfl⟩
          have w63g := zrg w63v
          refine zs_l2i (pc := 40) t202_40 (c := w63v) w63 ?_
          refine zs_aload_n (pc := 41) t202_41 rfl ?_
          refine zs_iload_n (pc := 42) t202_42 rfl ?_
          refine zs_aload_n (pc := 43) t202_43 rfl ?_
          have w64 := ibT181_0_0 hI hi0
          refine zs_get (pc := 44) t202_44 (by decide) (zk1 (hs.k (fT181_0 i0 hi0))) (zfvi rfl rfl) ?_
          refine zs_invV (pc := 47) (k := 7) (as' := [.int a, .int (zI M (181 + 3 * i0) 0)]) (st := [.int w63v]) t202_47 mf55 rfl rfl (Or.inl ⟨by decide, (zk1 (hs.k fk_zMc_7))⟩) ⟨by decide, by decide, Nat.le_of_ble_eq_true rfl, Nat.le_of_ble_eq_true rfl⟩ (C55_7 hs hI ?_) (fun _ _ q => q)
          intro w65v w65a w65b
          show zGo X l 2 0 0 202 50 [(3, .long w7v), (0, .ref (181 + 3 * i0)), (1, .ref 7), (2, .int a)] [.int w65v, .int w63v] M _
          obtain ⟨w66v, w66⟩ : ∃ v, v = w63v + w65v := ⟨_, rfl⟩
          have w66g := zrg w66v
          refine zs_iadd (pc := 50) t202_50 (c := w66v) w66.symm ?_
          exact zs_iret (pc := 51) t202_51 mr202 rfl (hQ _ (zrg _).1 (zrg _).2)
        refine zs_lcmp (pc := 9) t140_9 (c := 1) (zlcG rfl ll0 (by omega)) ?_
        refine zs_if_geT (pc := 10) t140_10 li1 (by decide) ?_
        refine zs_lload (pc := 27) t140_27 rfl ?_
        refine zs_lret (pc := 29) t140_29 mr140 ?_
        show zGo X l 2 0 0 202 40 [(3, .long w7v), (0, .ref (181 + 3 * i0)), (1, .ref 7), (2, .int a)] [.long w41v] M _
        obtain ⟨w68v, w68⟩ : ∃ v, w41v.toInt32 = v := ⟨_, rfl⟩
        have w68g := zrg w68v
        refine zs_l2i (pc := 40) t202_40 (c := w68v) w68 ?_
        refine zs_aload_n (pc := 41) t202_41 rfl ?_
        refine zs_iload_n (pc := 42) t202_42 rfl ?_
        refine zs_aload_n (pc := 43) t202_43 rfl ?_
        have w69 := ibT181_0_0 hI hi0
        refine zs_get (pc := 44) t202_44 (by decide) (zk1 (hs.k (fT181_0 i0 hi0))) (zfvi rfl rfl) ?_
        refine zs_invV (pc := 47) (k := 7) (as' := [.int a, .int (zI M (181 + 3 * i0) 0)]) (st := [.int w68v]) t202_47 mf55 rfl rfl (Or.inl ⟨by decide, (zk1 (hs.k fk_zMc_7))⟩) ⟨by decide, by decide, Nat.le_of_ble_eq_true rfl, Nat.le_of_ble_eq_true rfl⟩ (C55_7 hs hI ?_) (fun _ _ q => q)
        intro w70v w70a w70b
        show zGo X l 2 0 0 202 50 [(3, .long w7v), (0, .ref (181 + 3 * i0)), (1, .ref 7), (2, .int a)] [.int w70v, .int w68v] M _
        obtain ⟨w71v, w71⟩ : ∃ v, v = w68v + w70v := ⟨_, rfl⟩
        have w71g := zrg w71v
        refine zs_iadd (pc := 50) t202_50 (c := w71v) w71.symm ?_
        exact zs_iret (pc := 51) t202_51 mr202 rfl (hQ _ (zrg _).1 (zrg _).2)
      refine zs_lcmp (pc := 2) t134_2 (c := 1) (zlcG ll1 rfl (by omega)) ?_
      refine zs_if_ltF (pc := 3) t134_3 li1 (by decide) ?_
      refine zs_lload_n (pc := 6) t134_6 rfl ?_
      refine zs_goto (pc := 7) t134_7 ?_
      refine zs_lret (pc := 11) t134_11 mr134 ?_
      show zGo X l 2 0 0 202 37 [(3, .long w7v), (0, .ref (181 + 3 * i0)), (1, .ref 7), (2, .int a)] [.long (1 : Int64), .long w7v] M _
      refine zs_invS (pc := 37) (as := [.long w7v, .long (1 : Int64)]) (st := []) t202_37 (by decide) mf140 rfl rfl ⟨by decide, by decide, Nat.le_of_ble_eq_true rfl, Nat.le_of_ble_eq_true rfl⟩ (zs_in (by decide) mf140 (Nat.le_of_ble_eq_true rfl) ?_) (fun _ _ q => q)
      show zGo X l 0 0 0 140 0 [(0, .long w7v), (2, .long (1 : Int64))] [] M _
      refine zs_lload_n (pc := 0) t140_0 rfl ?_
      refine zs_lload_n (pc := 1) t140_1 rfl ?_
      obtain ⟨w73v, w73⟩ : ∃ v, w7v / (1 : Int64) = v := ⟨_, rfl⟩
      have w73g := zrg64 w73v
      refine zs_ldiv (pc := 2) t140_2 (by decide) (c := w73v) w73 ?_
      refine zs_lstore (pc := 3) t140_3 (ls' := [(4, .long w73v), (0, .long w7v), (2, .long (1 : Int64))]) (zml mf140 (by decide)) rfl ?_
      refine zs_lload_n (pc := 5) t140_5 rfl ?_
      refine zs_lload_n (pc := 6) t140_6 rfl ?_
      obtain ⟨w74v, w74⟩ : ∃ v, w7v ^^^ (1 : Int64) = v := ⟨_, rfl⟩
      have w74g := zrg64 w74v
      refine zs_lxor (pc := 7) t140_7 (c := w74v) w74 ?_
      refine zs_lconst (pc := 8) t140_8 (v := 0) (by decide) ?_
      by_cases w75 : w74v.toInt < 0
      · refine zs_lcmp (pc := 9) t140_9 (c := -1) (zlcL rfl ll0 (by omega)) ?_
        refine zs_if_geF (pc := 10) t140_10 lin1 (by decide) ?_
        refine zs_lload (pc := 13) t140_13 rfl ?_
        refine zs_lload_n (pc := 15) t140_15 rfl ?_
        obtain ⟨w76v, w76⟩ : ∃ v, w73v * (1 : Int64) = v := ⟨_, rfl⟩
        have w76g := zrg64 w76v
        refine zs_lmul (pc := 16) t140_16 (c := w76v) w76 ?_
        refine zs_lload_n (pc := 17) t140_17 rfl ?_
        by_cases w77 : w76v.toInt < w7v.toInt
        · refine zs_lcmp (pc := 18) t140_18 (c := -1) (zlcL rfl rfl (by omega)) ?_
          refine zs_if_eqF (pc := 19) t140_19 lin1 (by decide) ?_
          refine zs_lload (pc := 22) t140_22 rfl ?_
          refine zs_lconst (pc := 24) t140_24 (v := 1) (by decide) ?_
          obtain ⟨w78v, w78⟩ : ∃ v, w73v - (1 : Int64) = v := ⟨_, rfl⟩
          have w78g := zrg64 w78v
          refine zs_lsub (pc := 25) t140_25 (c := w78v) w78 ?_
          refine zs_lret (pc := 26) t140_26 mr140 ?_
          show zGo X l 2 0 0 202 40 [(3, .long w7v), (0, .ref (181 + 3 * i0)), (1, .ref 7), (2, .int a)] [.long w78v] M _
          obtain ⟨w79v, w79⟩ : ∃ v, w78v.toInt32 = v := ⟨_, rfl⟩
          have w79g := zrg w79v
          refine zs_l2i (pc := 40) t202_40 (c := w79v) w79 ?_
          refine zs_aload_n (pc := 41) t202_41 rfl ?_
          refine zs_iload_n (pc := 42) t202_42 rfl ?_
          refine zs_aload_n (pc := 43) t202_43 rfl ?_
          have w80 := ibT181_0_0 hI hi0
          refine zs_get (pc := 44) t202_44 (by decide) (zk1 (hs.k (fT181_0 i0 hi0))) (zfvi rfl rfl) ?_
          refine zs_invV (pc := 47) (k := 7) (as' := [.int a, .int (zI M (181 + 3 * i0) 0)]) (st := [.int w79v]) t202_47 mf55 rfl rfl (Or.inl ⟨by decide, (zk1 (hs.k fk_zMc_7))⟩) ⟨by decide, by decide, Nat.le_of_ble_eq_true rfl, Nat.le_of_ble_eq_true rfl⟩ (C55_7 hs hI ?_) (fun _ _ q => q)
          intro w81v w81a w81b
          show zGo X l 2 0 0 202 50 [(3, .long w7v), (0, .ref (181 + 3 * i0)), (1, .ref 7), (2, .int a)] [.int w81v, .int w79v] M _
          obtain ⟨w82v, w82⟩ : ∃ v, v = w79v + w81v := ⟨_, rfl⟩
          have w82g := zrg w82v
          refine zs_iadd (pc := 50) t202_50 (c := w82v) w82.symm ?_
          exact zs_iret (pc := 51) t202_51 mr202 rfl (hQ _ (zrg _).1 (zrg _).2)
        by_cases w83 : w76v.toInt = w7v.toInt
        · refine zs_lcmp (pc := 18) t140_18 (c := 0) (zlcE rfl rfl (by omega)) ?_
          refine zs_if_eqT (pc := 19) t140_19 li0 (by decide) ?_
          refine zs_lload (pc := 27) t140_27 rfl ?_
          refine zs_lret (pc := 29) t140_29 mr140 ?_
          show zGo X l 2 0 0 202 40 [(3, .long w7v), (0, .ref (181 + 3 * i0)), (1, .ref 7), (2, .int a)] [.long w73v] M _
          obtain ⟨w84v, w84⟩ : ∃ v, w73v.toInt32 = v := ⟨_, rfl⟩
          have w84g := zrg w84v
          refine zs_l2i (pc := 40) t202_40 (c := w84v) w84 ?_
          refine zs_aload_n (pc := 41) t202_41 rfl ?_
          refine zs_iload_n (pc := 42) t202_42 rfl ?_
          refine zs_aload_n (pc := 43) t202_43 rfl ?_
          have w85 := ibT181_0_0 hI hi0
          refine zs_get (pc := 44) t202_44 (by decide) (zk1 (hs.k (fT181_0 i0 hi0))) (zfvi rfl rfl) ?_
          refine zs_invV (pc := 47) (k := 7) (as' := [.int a, .int (zI M (181 + 3 * i0) 0)]) (st := [.int w84v]) t202_47 mf55 rfl rfl (Or.inl ⟨by decide, (zk1 (hs.k fk_zMc_7))⟩) ⟨by decide, by decide, Nat.le_of_ble_eq_true rfl, Nat.le_of_ble_eq_true rfl⟩ (C55_7 hs hI ?_) (fun _ _ q => q)
          intro w86v w86a w86b
          show zGo X l 2 0 0 202 50 [(3, .long w7v), (0, .ref (181 + 3 * i0)), (1, .ref 7), (2, .int a)] [.int w86v, .int w84v] M _
          obtain ⟨w87v, w87⟩ : ∃ v, v = w84v + w86v := ⟨_, rfl⟩
          have w87g := zrg w87v
          refine zs_iadd (pc := 50) t202_50 (c := w87v) w87.symm ?_
          exact zs_iret (pc := 51) t202_51 mr202 rfl (hQ _ (zrg _).1 (zrg _).2)
        refine zs_lcmp (pc := 18) t140_18 (c := 1) (zlcG rfl rfl (by omega)) ?_
        refine zs_if_eqF (pc := 19) t140_19 li1 (by decide) ?_
        refine zs_lload (pc := 22) t140_22 rfl ?_
        refine zs_lconst (pc := 24) t140_24 (v := 1) (by decide) ?_
        obtain ⟨w89v, w89⟩ : ∃ v, w73v - (1 : Int64) = v := ⟨_, rfl⟩
        have w89g := zrg64 w89v
        refine zs_lsub (pc := 25) t140_25 (c := w89v) w89 ?_
        refine zs_lret (pc := 26) t140_26 mr140 ?_
        show zGo X l 2 0 0 202 40 [(3, .long w7v), (0, .ref (181 + 3 * i0)), (1, .ref 7), (2, .int a)] [.long w89v] M _
        obtain ⟨w90v, w90⟩ : ∃ v, w89v.toInt32 = v := ⟨_, rfl⟩
        have w90g := zrg w90v
        refine zs_l2i (pc := 40) t202_40 (c := w90v) w90 ?_
        refine zs_aload_n (pc := 41) t202_41 rfl ?_
        refine zs_iload_n (pc := 42) t202_42 rfl ?_
        refine zs_aload_n (pc := 43) t202_43 rfl ?_
        have w91 := ibT181_0_0 hI hi0
        refine zs_get (pc := 44) t202_44 (by decide) (zk1 (hs.k (fT181_0 i0 hi0))) (zfvi rfl rfl) ?_
        refine zs_invV (pc := 47) (k := 7) (as' := [.int a, .int (zI M (181 + 3 * i0) 0)]) (st := [.int w90v]) t202_47 mf55 rfl rfl (Or.inl ⟨by decide, (zk1 (hs.k fk_zMc_7))⟩) ⟨by decide, by decide, Nat.le_of_ble_eq_true rfl, Nat.le_of_ble_eq_true rfl⟩ (C55_7 hs hI ?_) (fun _ _ q => q)
        intro w92v w92a w92b
        show zGo X l 2 0 0 202 50 [(3, .long w7v), (0, .ref (181 + 3 * i0)), (1, .ref 7), (2, .int a)] [.int w92v, .int w90v] M _
        obtain ⟨w93v, w93⟩ : ∃ v, v = w90v + w92v := ⟨_, rfl⟩
        have w93g := zrg w93v
        refine zs_iadd (pc := 50) t202_50 (c := w93v) w93.symm ?_
        exact zs_iret (pc := 51) t202_51 mr202 rfl (hQ _ (zrg _).1 (zrg _).2)
      by_cases w94 : w74v.toInt = 0
      · refine zs_lcmp (pc := 9) t140_9 (c := 0) (zlcE rfl ll0 (by omega)) ?_
        refine zs_if_geT (pc := 10) t140_10 li0 (by decide) ?_
        refine zs_lload (pc := 27) t140_27 rfl ?_
        refine zs_lret (pc := 29) t140_29 mr140 ?_
        show zGo X l 2 0 0 202 40 [(3, .long w7v), (0, .ref (181 + 3 * i0)), (1, .ref 7), (2, .int a)] [.long w73v] M _
        obtain ⟨w95v, w95⟩ : ∃ v, w73v.toInt32 = v := ⟨_, rfl⟩
        have w95g := zrg w95v
        refine zs_l2i (pc := 40) t202_40 (c := w95v) w95 ?_
        refine zs_aload_n (pc := 41) t202_41 rfl ?_
        refine zs_iload_n (pc := 42) t202_42 rfl ?_
        refine zs_aload_n (pc := 43) t202_43 rfl ?_
        have w96 := ibT181_0_0 hI hi0
        refine zs_get (pc := 44) t202_44 (by decide) (zk1 (hs.k (fT181_0 i0 hi0))) (zfvi rfl rfl) ?_
        refine zs_invV (pc := 47) (k := 7) (as' := [.int a, .int (zI M (181 + 3 * i0) 0)]) (st := [.int w95v]) t202_47 mf55 rfl rfl (Or.inl ⟨by decide, (zk1 (hs.k fk_zMc_7))⟩) ⟨by decide, by decide, Nat.le_of_ble_eq_true rfl, Nat.le_of_ble_eq_true rfl⟩ (C55_7 hs hI ?_) (fun _ _ q => q)
        intro w97v w97a w97b
        show zGo X l 2 0 0 202 50 [(3, .long w7v), (0, .ref (181 + 3 * i0)), (1, .ref 7), (2, .int a)] [.int w97v, .int w95v] M _
        obtain ⟨w98v, w98⟩ : ∃ v, v = w95v + w97v := ⟨_, rfl⟩
        have w98g := zrg w98v
        refine zs_iadd (pc := 50) t202_50 (c := w98v) w98.symm ?_
        exact zs_iret (pc := 51) t202_51 mr202 rfl (hQ _ (zrg _).1 (zrg _).2)
      refine zs_lcmp (pc := 9) t140_9 (c := 1) (zlcG rfl ll0 (by omega)) ?_
      refine zs_if_geT (pc := 10) t140_10 li1 (by decide) ?_
      refine zs_lload (pc := 27) t140_27 rfl ?_
      refine zs_lret (pc := 29) t140_29 mr140 ?_
      show zGo X l 2 0 0 202 40 [(3, .long w7v), (0, .ref (181 + 3 * i0)), (1, .ref 7), (2, .int a)] [.long w73v] M _
      obtain ⟨w100v, w100⟩ : ∃ v, w73v.toInt32 = v := ⟨_, rfl⟩
      have w100g := zrg w100v
      refine zs_l2i (pc := 40) t202_40 (c := w100v) w100 ?_
      refine zs_aload_n (pc := 41) t202_41 rfl ?_
      refine zs_iload_n (pc := 42) t202_42 rfl ?_
      refine zs_aload_n (pc := 43) t202_43 rfl ?_
      have w101 := ibT181_0_0 hI hi0
      refine zs_get (pc := 44) t202_44 (by decide) (zk1 (hs.k (fT181_0 i0 hi0))) (zfvi rfl rfl) ?_
      refine zs_invV (pc := 47) (k := 7) (as' := [.int a, .int (zI M (181 + 3 * i0) 0)]) (st := [.int w100v]) t202_47 mf55 rfl rfl (Or.inl ⟨by decide, (zk1 (hs.k fk_zMc_7))⟩) ⟨by decide, by decide, Nat.le_of_ble_eq_true rfl, Nat.le_of_ble_eq_true rfl⟩ (C55_7 hs hI ?_) (fun _ _ q => q)
      intro w102v w102a w102b
      show zGo X l 2 0 0 202 50 [(3, .long w7v), (0, .ref (181 + 3 * i0)), (1, .ref 7), (2, .int a)] [.int w102v, .int w100v] M _
      obtain ⟨w103v, w103⟩ : ∃ v, v = w100v + w102v := ⟨_, rfl⟩
      have w103g := zrg w103v
      refine zs_iadd (pc := 50) t202_50 (c := w103v) w103.symm ?_
      exact zs_iret (pc := 51) t202_51 mr202 rfl (hQ _ (zrg _).1 (zrg _).2)
theorem C132_T181_7 {X : zX} {l : Launch} {M : zM} {Q : Option Value → zM → Prop} (hs : zSk zMc M) (hI : zIv cLo cHi M) {i0 : Nat} (hi0 : i0 < 20) (hQ : ∀ M', zSk zMc M' → zIv cLo cHi M' → zFr [(181, 240, none)] M M' → Q none M') : zCall X l 3 0 0 132 [.ref (181 + 3 * i0), .ref 7] M Q := by
  refine zs_in (by decide) mf132 (Nat.le_of_ble_eq_true rfl) ?_
  show zGo X l 3 0 0 132 0 [(0, .ref (181 + 3 * i0)), (1, .ref 7)] [] M _
  refine zs_lconst (pc := 0) t132_0 (v := 0) (by decide) ?_
  refine zs_lstore_n (pc := 1) t132_1 (ls' := [(2, .long (0 : Int64)), (0, .ref (181 + 3 * i0)), (1, .ref 7)]) (zml mf132 (by decide)) rfl ?_
  refine zs_lconst (pc := 2) t132_2 (v := 0) (by decide) ?_
  refine zs_lstore (pc := 3) t132_3 (ls' := [(4, .long (0 : Int64)), (2, .long (0 : Int64)), (0, .ref (181 + 3 * i0)), (1, .ref 7)]) (zml mf132 (by decide)) rfl ?_
  refine zs_lconst (pc := 5) t132_5 (v := 0) (by decide) ?_
  refine zs_lstore (pc := 6) t132_6 (ls' := [(6, .long (0 : Int64)), (4, .long (0 : Int64)), (2, .long (0 : Int64)), (0, .ref (181 + 3 * i0)), (1, .ref 7)]) (zml mf132 (by decide)) rfl ?_
  refine zs_lconst (pc := 8) t132_8 (v := 0) (by decide) ?_
  refine zs_lstore (pc := 9) t132_9 (ls' := [(8, .long (0 : Int64)), (6, .long (0 : Int64)), (4, .long (0 : Int64)), (2, .long (0 : Int64)), (0, .ref (181 + 3 * i0)), (1, .ref 7)]) (zml mf132 (by decide)) rfl ?_
  refine zs_lconst (pc := 11) t132_11 (v := 0) (by decide) ?_
  refine zs_lstore (pc := 12) t132_12 (ls' := [(10, .long (0 : Int64)), (8, .long (0 : Int64)), (6, .long (0 : Int64)), (4, .long (0 : Int64)), (2, .long (0 : Int64)), (0, .ref (181 + 3 * i0)), (1, .ref 7)]) (zml mf132 (by decide)) rfl ?_
  refine zs_lconst (pc := 14) t132_14 (v := 0) (by decide) ?_
  refine zs_lstore (pc := 15) t132_15 (ls' := [(12, .long (0 : Int64)), (10, .long (0 : Int64)), (8, .long (0 : Int64)), (6, .long (0 : Int64)), (4, .long (0 : Int64)), (2, .long (0 : Int64)), (0, .ref (181 + 3 * i0)), (1, .ref 7)]) (zml mf132 (by decide)) rfl ?_
  refine zs_iconst (pc := 17) t132_17 (v := 0) (by decide) ?_
  refine zs_istore (pc := 18) t132_18 (ls' := [(14, .int (0 : Int32)), (12, .long (0 : Int64)), (10, .long (0 : Int64)), (8, .long (0 : Int64)), (6, .long (0 : Int64)), (4, .long (0 : Int64)), (2, .long (0 : Int64)), (0, .ref (181 + 3 * i0)), (1, .ref 7)]) (zml mf132 (by decide)) rfl ?_
  have w1L : ∀ (m : Nat) (w1x2 : Int64) (w1x4 : Int64) (w1x6 : Int64) (w1x8 : Int64) (w1x10 : Int64) (w1x12 : Int64) (w1x14 : Int32), (0 ≤ w1x14.toInt ∧ w1x14.toInt ≤ 8) → 8 - w1x14.toInt ≤ (m : Int) → zGo X l 3 0 0 132 20 [(0, .ref (181 + 3 * i0)), (1, .ref 7), (2, .long w1x2), (4, .long w1x4), (6, .long w1x6), (8, .long w1x8), (10, .long w1x10), (12, .long w1x12), (14, .int w1x14)] [] M Q := by
    intro m
    induction m using Nat.strongRecOn with
    | ind w1m w1ih =>
      intro w1x2 w1x4 w1x6 w1x8 w1x10 w1x12 w1x14 w1b14 w1q
      have w1g2 := zrg64 w1x2
      have w1g4 := zrg64 w1x4
      have w1g6 := zrg64 w1x6
      have w1g8 := zrg64 w1x8
      have w1g10 := zrg64 w1x10
      have w1g12 := zrg64 w1x12
      refine zs_iload (pc := 20) t132_20 rfl ?_
      refine zs_aload_n (pc := 22) t132_22 rfl ?_
      have w2 := ib7_0 hI
      refine zs_get (pc := 23) t132_23 (by decide) (zk1 (hs.k fk_zMc_7)) (zfvi rfl rfl) ?_
      by_cases w3 : (zI M 7 0).toInt ≤ w1x14.toInt
      · refine zs_icmp_geT (pc := 26) t132_26 rfl rfl (by omega) ?_
        refine zs_aload_n (pc := 115) t132_115 rfl ?_
        refine zs_lconst (pc := 116) t132_116 (v := 1) (by decide) ?_
        refine zs_lload_n (pc := 117) t132_117 rfl ?_
        refine zs_lload (pc := 118) t132_118 rfl ?_
        obtain ⟨w4v, w4⟩ : ∃ v, w1x2 * w1x8 = v := ⟨_, rfl⟩
        have w4g := zrg64 w4v
        refine zs_lmul (pc := 120) t132_120 (c := w4v) w4 ?_
        refine zs_lload (pc := 121) t132_121 rfl ?_
        refine zs_lload (pc := 123) t132_123 rfl ?_
        obtain ⟨w5v, w5⟩ : ∃ v, w1x4 * w1x4 = v := ⟨_, rfl⟩
        have w5g := zrg64 w5v
        refine zs_lmul (pc := 125) t132_125 (c := w5v) w5 ?_
        obtain ⟨w6v, w6⟩ : ∃ v, w4v - w5v = v := ⟨_, rfl⟩
        have w6g := zrg64 w6v
        refine zs_lsub (pc := 126) t132_126 (c := w6v) w6 ?_
        refine zs_invS (pc := 127) (as := [.long (1 : Int64), .long w6v]) (st := [.ref (181 + 3 * i0)]) t132_127 (by decide) mf134 rfl rfl ⟨by decide, by decide, Nat.le_of_ble_eq_true rfl, Nat.le_of_ble_eq_true rfl⟩ (zs_in (by decide) mf134 (Nat.le_of_ble_eq_true rfl) ?_) (fun _ _ q => q)
        show zGo X l 0 0 0 134 0 [(0, .long (1 : Int64)), (2, .long w6v)] [] M _
        refine zs_lload_n (pc := 0) t134_0 rfl ?_
        refine zs_lload_n (pc := 1) t134_1 rfl ?_
        by_cases w7 : 1 < w6v.toInt
        · refine zs_lcmp (pc := 2) t134_2 (c := -1) (zlcL ll1 rfl (by omega)) ?_
          refine zs_if_ltT (pc := 3) t134_3 lin1 (by decide) ?_
          refine zs_lload_n (pc := 10) t134_10 rfl ?_
          refine zs_lret (pc := 11) t134_11 mr134 ?_
          show zGo X l 3 0 0 132 130 [(0, .ref (181 + 3 * i0)), (1, .ref 7), (2, .long w1x2), (4, .long w1x4), (6, .long w1x6), (8, .long w1x8), (10, .long w1x10), (12, .long w1x12), (14, .int w1x14)] [.long w6v, .ref (181 + 3 * i0)] M _
          have w8 : zIv cLo cHi (zsJ M (181 + 3 * i0) 8 w6v) := hI
          refine zs_putJ (pc := 130) t132_130 (zk1 (hs.k (fT181_0 i0 hi0))) rfl ?_
          refine zs_aload_n (pc := 133) t132_133 rfl ?_
          refine zs_lload_n (pc := 134) t132_134 rfl ?_
          refine zs_lload (pc := 135) t132_135 rfl ?_
          obtain ⟨w9v, w9⟩ : ∃ v, w1x2 * w1x10 = v := ⟨_, rfl⟩
          have w9g := zrg64 w9v
          refine zs_lmul (pc := 137) t132_137 (c := w9v) w9 ?_
          refine zs_lload (pc := 138) t132_138 rfl ?_
          refine zs_lload (pc := 140) t132_140 rfl ?_
          obtain ⟨w10v, w10⟩ : ∃ v, w1x4 * w1x6 = v := ⟨_, rfl⟩
          have w10g := zrg64 w10v
          refine zs_lmul (pc := 142) t132_142 (c := w10v) w10 ?_
          obtain ⟨w11v, w11⟩ : ∃ v, w9v - w10v = v := ⟨_, rfl⟩
          have w11g := zrg64 w11v
          refine zs_lsub (pc := 143) t132_143 (c := w11v) w11 ?_
          have w12 : zIv cLo cHi (zsJ (zsJ M (181 + 3 * i0) 8 w6v) (181 + 3 * i0) 10 w11v) := w8
          refine zs_putJ (pc := 144) t132_144 (zk1 (hs.k (fT181_0 i0 hi0))) rfl ?_
          refine zs_aload_n (pc := 147) t132_147 rfl ?_
          refine zs_lload (pc := 148) t132_148 rfl ?_
          refine zs_lload (pc := 150) t132_150 rfl ?_
          obtain ⟨w13v, w13⟩ : ∃ v, w1x6 * w1x8 = v := ⟨_, rfl⟩
          have w13g := zrg64 w13v
          refine zs_lmul (pc := 152) t132_152 (c := w13v) w13 ?_
          refine zs_lload (pc := 153) t132_153 rfl ?_
          refine zs_lload (pc := 155) t132_155 rfl ?_
          obtain ⟨w14v, w14⟩ : ∃ v, w1x4 * w1x10 = v := ⟨_, rfl⟩
          have w14g := zrg64 w14v
          refine zs_lmul (pc := 157) t132_157 (c := w14v) w14 ?_
          obtain ⟨w15v, w15⟩ : ∃ v, w13v - w14v = v := ⟨_, rfl⟩
          have w15g := zrg64 w15v
          refine zs_lsub (pc := 158) t132_158 (c := w15v) w15 ?_
          have w16 : zIv cLo cHi (zsJ (zsJ (zsJ M (181 + 3 * i0) 8 w6v) (181 + 3 * i0) 10 w11v) (181 + 3 * i0) 9 w15v) := w12
          refine zs_putJ (pc := 159) t132_159 (zk1 (hs.k (fT181_0 i0 hi0))) rfl ?_
          refine zs_aload_n (pc := 162) t132_162 rfl ?_
          refine zs_aload_n (pc := 163) t132_163 rfl ?_
          refine zs_get (pc := 164) t132_164 (by decide) (zk1 (hs.k (fT181_0 i0 hi0))) (zfvj rfl) ?_
          refine zs_lload (pc := 167) t132_167 rfl ?_
          obtain ⟨w17v, w17⟩ : ∃ v, (zJ (zsJ (zsJ (zsJ M (181 + 3 * i0) 8 w6v) (181 + 3 * i0) 10 w11v) (181 + 3 * i0) 9 w15v) (181 + 3 * i0) 8) * w1x12 = v := ⟨_, rfl⟩
          have w17g := zrg64 w17v
          refine zs_lmul (pc := 169) t132_169 (c := w17v) w17 ?_
          refine zs_aload_n (pc := 170) t132_170 rfl ?_
          refine zs_get (pc := 171) t132_171 (by decide) (zk1 (hs.k (fT181_0 i0 hi0))) (zfvj rfl) ?_
          refine zs_lload (pc := 174) t132_174 rfl ?_
          obtain ⟨w18v, w18⟩ : ∃ v, (zJ (zsJ (zsJ (zsJ M (181 + 3 * i0) 8 w6v) (181 + 3 * i0) 10 w11v) (181 + 3 * i0) 9 w15v) (181 + 3 * i0) 9) * w1x6 = v := ⟨_, rfl⟩
          have w18g := zrg64 w18v
          refine zs_lmul (pc := 176) t132_176 (c := w18v) w18 ?_
          obtain ⟨w19v, w19⟩ : ∃ v, w17v - w18v = v := ⟨_, rfl⟩
          have w19g := zrg64 w19v
          refine zs_lsub (pc := 177) t132_177 (c := w19v) w19 ?_
          refine zs_aload_n (pc := 178) t132_178 rfl ?_
          refine zs_get (pc := 179) t132_179 (by decide) (zk1 (hs.k (fT181_0 i0 hi0))) (zfvj rfl) ?_
          refine zs_lload (pc := 182) t132_182 rfl ?_
          obtain ⟨w20v, w20⟩ : ∃ v, (zJ (zsJ (zsJ (zsJ M (181 + 3 * i0) 8 w6v) (181 + 3 * i0) 10 w11v) (181 + 3 * i0) 9 w15v) (181 + 3 * i0) 10) * w1x10 = v := ⟨_, rfl⟩
          have w20g := zrg64 w20v
          refine zs_lmul (pc := 184) t132_184 (c := w20v) w20 ?_
          obtain ⟨w21v, w21⟩ : ∃ v, w19v - w20v = v := ⟨_, rfl⟩
          have w21g := zrg64 w21v
          refine zs_lsub (pc := 185) t132_185 (c := w21v) w21 ?_
          have w22 : zIv cLo cHi (zsJ (zsJ (zsJ (zsJ M (181 + 3 * i0) 8 w6v) (181 + 3 * i0) 10 w11v) (181 + 3 * i0) 9 w15v) (181 + 3 * i0) 11 w21v) := w16
          refine zs_putJ (pc := 186) t132_186 (zk1 (hs.k (fT181_0 i0 hi0))) rfl ?_
          exact zs_vret (pc := 189) t132_189 mr132 (hQ _ hs w22 (zFr.refl))
        by_cases w23 : 1 = w6v.toInt
        · refine zs_lcmp (pc := 2) t134_2 (c := 0) (zlcE ll1 rfl (by omega)) ?_
          refine zs_if_ltF (pc := 3) t134_3 li0 (by decide) ?_
          refine zs_lload_n (pc := 6) t134_6 rfl ?_
          refine zs_goto (pc := 7) t134_7 ?_
          refine zs_lret (pc := 11) t134_11 mr134 ?_
          show zGo X l 3 0 0 132 130 [(0, .ref (181 + 3 * i0)), (1, .ref 7), (2, .long w1x2), (4, .long w1x4), (6, .long w1x6), (8, .long w1x8), (10, .long w1x10), (12, .long w1x12), (14, .int w1x14)] [.long (1 : Int64), .ref (181 + 3 * i0)] M _
          have w24 : zIv cLo cHi (zsJ M (181 + 3 * i0) 8 (1 : Int64)) := hI
          refine zs_putJ (pc := 130) t132_130 (zk1 (hs.k (fT181_0 i0 hi0))) rfl ?_
          refine zs_aload_n (pc := 133) t132_133 rfl ?_
          refine zs_lload_n (pc := 134) t132_134 rfl ?_
          refine zs_lload (pc := 135) t132_135 rfl ?_
          obtain ⟨w25v, w25⟩ : ∃ v, w1x2 * w1x10 = v := ⟨_, rfl⟩
          have w25g := zrg64 w25v
          refine zs_lmul (pc := 137) t132_137 (c := w25v) w25 ?_
          refine zs_lload (pc := 138) t132_138 rfl ?_
          refine zs_lload (pc := 140) t132_140 rfl ?_
          obtain ⟨w26v, w26⟩ : ∃ v, w1x4 * w1x6 = v := ⟨_, rfl⟩
          have w26g := zrg64 w26v
          refine zs_lmul (pc := 142) t132_142 (c := w26v) w26 ?_
          obtain ⟨w27v, w27⟩ : ∃ v, w25v - w26v = v := ⟨_, rfl⟩
          have w27g := zrg64 w27v
          refine zs_lsub (pc := 143) t132_143 (c := w27v) w27 ?_
          have w28 : zIv cLo cHi (zsJ (zsJ M (181 + 3 * i0) 8 (1 : Int64)) (181 + 3 * i0) 10 w27v) := w24
          refine zs_putJ (pc := 144) t132_144 (zk1 (hs.k (fT181_0 i0 hi0))) rfl ?_
          refine zs_aload_n (pc := 147) t132_147 rfl ?_
          refine zs_lload (pc := 148) t132_148 rfl ?_
          refine zs_lload (pc := 150) t132_150 rfl ?_
          obtain ⟨w29v, w29⟩ : ∃ v, w1x6 * w1x8 = v := ⟨_, rfl⟩
          have w29g := zrg64 w29v
          refine zs_lmul (pc := 152) t132_152 (c := w29v) w29 ?_
          refine zs_lload (pc := 153) t132_153 rfl ?_
          refine zs_lload (pc := 155) t132_155 rfl ?_
          obtain ⟨w30v, w30⟩ : ∃ v, w1x4 * w1x10 = v := ⟨_, rfl⟩
          have w30g := zrg64 w30v
          refine zs_lmul (pc := 157) t132_157 (c := w30v) w30 ?_
          obtain ⟨w31v, w31⟩ : ∃ v, w29v - w30v = v := ⟨_, rfl⟩
          have w31g := zrg64 w31v
          refine zs_lsub (pc := 158) t132_158 (c := w31v) w31 ?_
          have w32 : zIv cLo cHi (zsJ (zsJ (zsJ M (181 + 3 * i0) 8 (1 : Int64)) (181 + 3 * i0) 10 w27v) (181 + 3 * i0) 9 w31v) := w28
          refine zs_putJ (pc := 159) t132_159 (zk1 (hs.k (fT181_0 i0 hi0))) rfl ?_
          refine zs_aload_n (pc := 162) t132_162 rfl ?_
          refine zs_aload_n (pc := 163) t132_163 rfl ?_
          refine zs_get (pc := 164) t132_164 (by decide) (zk1 (hs.k (fT181_0 i0 hi0))) (zfvj rfl) ?_
          refine zs_lload (pc := 167) t132_167 rfl ?_
          obtain ⟨w33v, w33⟩ : ∃ v, (zJ (zsJ (zsJ (zsJ M (181 + 3 * i0) 8 (1 : Int64)) (181 + 3 * i0) 10 w27v) (181 + 3 * i0) 9 w31v) (181 + 3 * i0) 8) * w1x12 = v := ⟨_, rfl⟩
          have w33g := zrg64 w33v
          refine zs_lmul (pc := 169) t132_169 (c := w33v) w33 ?_
          refine zs_aload_n (pc := 170) t132_170 rfl ?_
          refine zs_get (pc := 171) t132_171 (by decide) (zk1 (hs.k (fT181_0 i0 hi0))) (zfvj rfl) ?_
          refine zs_lload (pc := 174) t132_174 rfl ?_
          obtain ⟨w34v, w34⟩ : ∃ v, (zJ (zsJ (zsJ (zsJ M (181 + 3 * i0) 8 (1 : Int64)) (181 + 3 * i0) 10 w27v) (181 + 3 * i0) 9 w31v) (181 + 3 * i0) 9) * w1x6 = v := ⟨_, rfl⟩
          have w34g := zrg64 w34v
          refine zs_lmul (pc := 176) t132_176 (c := w34v) w34 ?_
          obtain ⟨w35v, w35⟩ : ∃ v, w33v - w34v = v := ⟨_, rfl⟩
          have w35g := zrg64 w35v
          refine zs_lsub (pc := 177) t132_177 (c := w35v) w35 ?_
          refine zs_aload_n (pc := 178) t132_178 rfl ?_
          refine zs_get (pc := 179) t132_179 (by decide) (zk1 (hs.k (fT181_0 i0 hi0))) (zfvj rfl) ?_
          refine zs_lload (pc := 182) t132_182 rfl ?_
          obtain ⟨w36v, w36⟩ : ∃ v, (zJ (zsJ (zsJ (zsJ M (181 + 3 * i0) 8 (1 : Int64)) (181 + 3 * i0) 10 w27v) (181 + 3 * i0) 9 w31v) (181 + 3 * i0) 10) * w1x10 = v := ⟨_, rfl⟩
          have w36g := zrg64 w36v
          refine zs_lmul (pc := 184) t132_184 (c := w36v) w36 ?_
          obtain ⟨w37v, w37⟩ : ∃ v, w35v - w36v = v := ⟨_, rfl⟩
          have w37g := zrg64 w37v
          refine zs_lsub (pc := 185) t132_185 (c := w37v) w37 ?_
          have w38 : zIv cLo cHi (zsJ (zsJ (zsJ (zsJ M (181 + 3 * i0) 8 (1 : Int64)) (181 + 3 * i0) 10 w27v) (181 + 3 * i0) 9 w31v) (181 + 3 * i0) 11 w37v) := w32
          refine zs_putJ (pc := 186) t132_186 (zk1 (hs.k (fT181_0 i0 hi0))) rfl ?_
          exact zs_vret (pc := 189) t132_189 mr132 (hQ _ hs w38 (zFr.refl))
        refine zs_lcmp (pc := 2) t134_2 (c := 1) (zlcG ll1 rfl (by omega)) ?_
        refine zs_if_ltF (pc := 3) t134_3 li1 (by decide) ?_
        refine zs_lload_n (pc := 6) t134_6 rfl ?_
        refine zs_goto (pc := 7) t134_7 ?_
        refine zs_lret (pc := 11) t134_11 mr134 ?_
        show zGo X l 3 0 0 132 130 [(0, .ref (181 + 3 * i0)), (1, .ref 7), (2, .long w1x2), (4, .long w1x4), (6, .long w1x6), (8, .long w1x8), (10, .long w1x10), (12, .long w1x12), (14, .int w1x14)] [.long (1 : Int64), .ref (181 + 3 * i0)] M _
        have w40 : zIv cLo cHi (zsJ M (181 + 3 * i0) 8 (1 : Int64)) := hI
        refine zs_putJ (pc := 130) t132_130 (zk1 (hs.k (fT181_0 i0 hi0))) rfl ?_
        refine zs_aload_n (pc := 133) t132_133 rfl ?_
        refine zs_lload_n (pc := 134) t132_134 rfl ?_
        refine zs_lload (pc := 135) t132_135 rfl ?_
        obtain ⟨w41v, w41⟩ : ∃ v, w1x2 * w1x10 = v := ⟨_, rfl⟩
        have w41g := zrg64 w41v
        refine zs_lmul (pc := 137) t132_137 (c := w41v) w41 ?_
        refine zs_lload (pc := 138) t132_138 rfl ?_
        refine zs_lload (pc := 140) t132_140 rfl ?_
        obtain ⟨w42v, w42⟩ : ∃ v, w1x4 * w1x6 = v := ⟨_, rfl⟩
        have w42g := zrg64 w42v
        refine zs_lmul (pc := 142) t132_142 (c := w42v) w42 ?_
        obtain ⟨w43v, w43⟩ : ∃ v, w41v - w42v = v := ⟨_, rfl⟩
        have w43g := zrg64 w43v
        refine zs_lsub (pc := 143) t132_143 (c := w43v) w43 ?_
        have w44 : zIv cLo cHi (zsJ (zsJ M (181 + 3 * i0) 8 (1 : Int64)) (181 + 3 * i0) 10 w43v) := w40
        refine zs_putJ (pc := 144) t132_144 (zk1 (hs.k (fT181_0 i0 hi0))) rfl ?_
        refine zs_aload_n (pc := 147) t132_147 rfl ?_
        refine zs_lload (pc := 148) t132_148 rfl ?_
        refine zs_lload (pc := 150) t132_150 rfl ?_
        obtain ⟨w45v, w45⟩ : ∃ v, w1x6 * w1x8 = v := ⟨_, rfl⟩
        have w45g := zrg64 w45v
        refine zs_lmul (pc := 152) t132_152 (c := w45v) w45 ?_
        refine zs_lload (pc := 153) t132_153 rfl ?_
        refine zs_lload (pc := 155) t132_155 rfl ?_
        obtain ⟨w46v, w46⟩ : ∃ v, w1x4 * w1x10 = v := ⟨_, rfl⟩
        have w46g := zrg64 w46v
        refine zs_lmul (pc := 157) t132_157 (c := w46v) w46 ?_
        obtain ⟨w47v, w47⟩ : ∃ v, w45v - w46v = v := ⟨_, rfl⟩
        have w47g := zrg64 w47v
        refine zs_lsub (pc := 158) t132_158 (c := w47v) w47 ?_
        have w48 : zIv cLo cHi (zsJ (zsJ (zsJ M (181 + 3 * i0) 8 (1 : Int64)) (181 + 3 * i0) 10 w43v) (181 + 3 * i0) 9 w47v) := w44
        refine zs_putJ (pc := 159) t132_159 (zk1 (hs.k (fT181_0 i0 hi0))) rfl ?_
        refine zs_aload_n (pc := 162) t132_162 rfl ?_
        refine zs_aload_n (pc := 163) t132_163 rfl ?_
        refine zs_get (pc := 164) t132_164 (by decide) (zk1 (hs.k (fT181_0 i0 hi0))) (zfvj rfl) ?_
        refine zs_lload (pc := 167) t132_167 rfl ?_
        obtain ⟨w49v, w49⟩ : ∃ v, (zJ (zsJ (zsJ (zsJ M (181 + 3 * i0) 8 (1 : Int64)) (181 + 3 * i0) 10 w43v) (181 + 3 * i0) 9 w47v) (181 + 3 * i0) 8) * w1x12 = v := ⟨_, rfl⟩
        have w49g := zrg64 w49v
        refine zs_lmul (pc := 169) t132_169 (c := w49v) w49 ?_
        refine zs_aload_n (pc := 170) t132_170 rfl ?_
        refine zs_get (pc := 171) t132_171 (by decide) (zk1 (hs.k (fT181_0 i0 hi0))) (zfvj rfl) ?_
        refine zs_lload (pc := 174) t132_174 rfl ?_
        obtain ⟨w50v, w50⟩ : ∃ v, (zJ (zsJ (zsJ (zsJ M (181 + 3 * i0) 8 (1 : Int64)) (181 + 3 * i0) 10 w43v) (181 + 3 * i0) 9 w47v) (181 + 3 * i0) 9) * w1x6 = v := ⟨_, rfl⟩
        have w50g := zrg64 w50v
        refine zs_lmul (pc := 176) t132_176 (c := w50v) w50 ?_
        obtain ⟨w51v, w51⟩ : ∃ v, w49v - w50v = v := ⟨_, rfl⟩
        have w51g := zrg64 w51v
        refine zs_lsub (pc := 177) t132_177 (c := w51v) w51 ?_
        refine zs_aload_n (pc := 178) t132_178 rfl ?_
        refine zs_get (pc := 179) t132_179 (by decide) (zk1 (hs.k (fT181_0 i0 hi0))) (zfvj rfl) ?_
        refine zs_lload (pc := 182) t132_182 rfl ?_
        obtain ⟨w52v, w52⟩ : ∃ v, (zJ (zsJ (zsJ (zsJ M (181 + 3 * i0) 8 (1 : Int64)) (181 + 3 * i0) 10 w43v) (181 + 3 * i0) 9 w47v) (181 + 3 * i0) 10) * w1x10 = v := ⟨_, rfl⟩
        have w52g := zrg64 w52v
        refine zs_lmul (pc := 184) t132_184 (c := w52v) w52 ?_
        obtain ⟨w53v, w53⟩ : ∃ v, w51v - w52v = v := ⟨_, rfl⟩
        have w53g := zrg64 w53v
        refine zs_lsub (pc := 185) t132_185 (c := w53v) w53 ?_
        have w54 : zIv cLo cHi (zsJ (zsJ (zsJ (zsJ M (181 + 3 * i0) 8 (1 : Int64)) (181 + 3 * i0) 10 w43v) (181 + 3 * i0) 9 w47v) (181 + 3 * i0) 11 w53v) := w48
        refine zs_putJ (pc := 186) t132_186 (zk1 (hs.k (fT181_0 i0 hi0))) rfl ?_
        exact zs_vret (pc := 189) t132_189 mr132 (hQ _ hs w54 (zFr.refl))
      · refine zs_icmp_geF (pc := 26) t132_26 rfl rfl (by omega) ?_
        refine zs_aload_n (pc := 29) t132_29 rfl ?_
        refine zs_get (pc := 30) t132_30 (by decide) (zk1 (hs.k (fT181_0 i0 hi0))) (hs.p rfl (fvT181_6 i0 hi0)) ?_
        refine zs_iload (pc := 33) t132_33 rfl ?_
        obtain ⟨w55n, w55⟩ : ∃ n : Nat, w1x14.toInt = (n : Int) := ⟨w1x14.toInt.toNat, by omega⟩
        have w56 := ibT181_1 hI hi0 w55n
        refine zs_iald (pc := 35) t132_35 (j := w55n) (by omega) (zk1 (hs.k (fT181_1 i0 hi0))) w55 (zk2 (hs.k (fT181_1 i0 hi0)) (by omega)) rfl ?_
        by_cases w57 : 0 ≤ (zI M (181 + 3 * i0 + 1) w55n).toInt
        · refine zs_if_geT (pc := 36) t132_36 rfl (by omega) ?_
          refine zs_aload_n (pc := 42) t132_42 rfl ?_
          refine zs_get (pc := 43) t132_43 (by decide) (zk1 (hs.k fk_zMc_7)) (hs.p rfl fv_zMc_7_1) ?_
          refine zs_iload (pc := 46) t132_46 rfl ?_
          have w58 := ib8 hI w55n
          refine zs_iald (pc := 48) t132_48 (j := w55n) (by decide) (zk1 (hs.k fk_zMc_8)) w55 (zk2 (hs.k fk_zMc_8) (by omega)) rfl ?_
          refine zs_i2l (pc := 49) t132_49 rfl ?_
          refine zs_lstore (pc := 50) t132_50 (ls' := [(15, .long (zI M 8 w55n).toInt64), (0, .ref (181 + 3 * i0)), (1, .ref 7), (2, .long w1x2), (4, .long w1x4), (6, .long w1x6), (8, .long w1x8), (10, .long w1x10), (12, .long w1x12), (14, .int w1x14)]) (zml mf132 (by decide)) rfl ?_
          refine zs_aload_n (pc := 52) t132_52 rfl ?_
          refine zs_aload_n (pc := 53) t132_53 rfl ?_
          refine zs_iload (pc := 54) t132_54 rfl ?_
          refine zs_invV (pc := 56) (k := (181 + 3 * i0)) (as' := [.ref 7, .int w1x14]) (st := []) t132_56 mf133 rfl rfl (Or.inl ⟨by decide, (zk1 (hs.k (fT181_0 i0 hi0)))⟩) ⟨by decide, by decide, Nat.le_of_ble_eq_true rfl, Nat.le_of_ble_eq_true rfl⟩ (C133_T181_7 hs hI hi0 ⟨by omega, by omega⟩ ?_) (fun _ _ q => q)
          intro w59v w59a w59b
          show zGo X l 3 0 0 132 59 [(15, .long (zI M 8 w55n).toInt64), (0, .ref (181 + 3 * i0)), (1, .ref 7), (2, .long w1x2), (4, .long w1x4), (6, .long w1x6), (8, .long w1x8), (10, .long w1x10), (12, .long w1x12), (14, .int w1x14)] [.long w59v] M _
          refine zs_lstore (pc := 59) t132_59 (ls' := [(17, .long w59v), (15, .long (zI M 8 w55n).toInt64), (0, .ref (181 + 3 * i0)), (1, .ref 7), (2, .long w1x2), (4, .long w1x4), (6, .long w1x6), (8, .long w1x8), (10, .long w1x10), (12, .long w1x12), (14, .int w1x14)]) (zml mf132 (by decide)) rfl ?_
          refine zs_lload_n (pc := 61) t132_61 rfl ?_
          refine zs_lconst (pc := 62) t132_62 (v := 1) (by decide) ?_
          obtain ⟨w60v, w60⟩ : ∃ v, w1x2 + (1 : Int64) = v := ⟨_, rfl⟩
          have w60g := zrg64 w60v
          refine zs_ladd (pc := 63) t132_63 (c := w60v) w60 ?_
          refine zs_lstore_n (pc := 64) t132_64 (ls' := [(2, .long w60v), (17, .long w59v), (15, .long (zI M 8 w55n).toInt64), (0, .ref (181 + 3 * i0)), (1, .ref 7), (4, .long w1x4), (6, .long w1x6), (8, .long w1x8), (10, .long w1x10), (12, .long w1x12), (14, .int w1x14)]) (zml mf132 (by decide)) rfl ?_
          refine zs_lload (pc := 65) t132_65 rfl ?_
          refine zs_lload (pc := 67) t132_67 rfl ?_
          obtain ⟨w61v, w61⟩ : ∃ v, w1x4 + (zI M 8 w55n).toInt64 = v := ⟨_, rfl⟩
          have w61g := zrg64 w61v
          refine zs_ladd (pc := 69) t132_69 (c := w61v) w61 ?_
          refine zs_lstore (pc := 70) t132_70 (ls' := [(4, .long w61v), (2, .long w60v), (17, .long w59v), (15, .long (zI M 8 w55n).toInt64), (0, .ref (181 + 3 * i0)), (1, .ref 7), (6, .long w1x6), (8, .long w1x8), (10, .long w1x10), (12, .long w1x12), (14, .int w1x14)]) (zml mf132 (by decide)) rfl ?_
          refine zs_lload (pc := 72) t132_72 rfl ?_
          refine zs_lload (pc := 74) t132_74 rfl ?_
          obtain ⟨w62v, w62⟩ : ∃ v, w1x6 + w59v = v := ⟨_, rfl⟩
          have w62g := zrg64 w62v
          refine zs_ladd (pc := 76) t132_76 (c := w62v) w62 ?_
          refine zs_lstore (pc := 77) t132_77 (ls' := [(6, .long w62v), (4, .long w61v), (2, .long w60v), (17, .long w59v), (15, .long (zI M 8 w55n).toInt64), (0, .ref (181 + 3 * i0)), (1, .ref 7), (8, .long w1x8), (10, .long w1x10), (12, .long w1x12), (14, .int w1x14)]) (zml mf132 (by decide)) rfl ?_
          refine zs_lload (pc := 79) t132_79 rfl ?_
          refine zs_lload (pc := 81) t132_81 rfl ?_
          refine zs_lload (pc := 83) t132_83 rfl ?_
          obtain ⟨w63v, w63⟩ : ∃ v, (zI M 8 w55n).toInt64 * (zI M 8 w55n).toInt64 = v := ⟨_, rfl⟩
          have w63g := zrg64 w63v
          refine zs_lmul (pc := 85) t132_85 (c := w63v) w63 ?_
          obtain ⟨w64v, w64⟩ : ∃ v, w1x8 + w63v = v := ⟨_, rfl⟩
          have w64g := zrg64 w64v
          refine zs_ladd (pc := 86) t132_86 (c := w64v) w64 ?_
          refine zs_lstore (pc := 87) t132_87 (ls' := [(8, .long w64v), (6, .long w62v), (4, .long w61v), (2, .long w60v), (17, .long w59v), (15, .long (zI M 8 w55n).toInt64), (0, .ref (181 + 3 * i0)), (1, .ref 7), (10, .long w1x10), (12, .long w1x12), (14, .int w1x14)]) (zml mf132 (by decide)) rfl ?_
          refine zs_lload (pc := 89) t132_89 rfl ?_
          refine zs_lload (pc := 91) t132_91 rfl ?_
          refine zs_lload (pc := 93) t132_93 rfl ?_
          obtain ⟨w65v, w65⟩ : ∃ v, (zI M 8 w55n).toInt64 * w59v = v := ⟨_, rfl⟩
          have w65g := zrg64 w65v
          refine zs_lmul (pc := 95) t132_95 (c := w65v) w65 ?_
          obtain ⟨w66v, w66⟩ : ∃ v, w1x10 + w65v = v := ⟨_, rfl⟩
          have w66g := zrg64 w66v
          refine zs_ladd (pc := 96) t132_96 (c := w66v) w66 ?_
          refine zs_lstore (pc := 97) t132_97 (ls' := [(10, .long w66v), (8, .long w64v), (6, .long w62v), (4, .long w61v), (2, .long w60v), (17, .long w59v), (15, .long (zI M 8 w55n).toInt64), (0, .ref (181 + 3 * i0)), (1, .ref 7), (12, .long w1x12), (14, .int w1x14)]) (zml mf132 (by decide)) rfl ?_
          refine zs_lload (pc := 99) t132_99 rfl ?_
          refine zs_lload (pc := 101) t132_101 rfl ?_
          refine zs_lload (pc := 103) t132_103 rfl ?_
          obtain ⟨w67v, w67⟩ : ∃ v, w59v * w59v = v := ⟨_, rfl⟩
          have w67g := zrg64 w67v
          refine zs_lmul (pc := 105) t132_105 (c := w67v) w67 ?_
          obtain ⟨w68v, w68⟩ : ∃ v, w1x12 + w67v = v := ⟨_, rfl⟩
          have w68g := zrg64 w68v
          refine zs_ladd (pc := 106) t132_106 (c := w68v) w68 ?_
          refine zs_lstore (pc := 107) t132_107 (ls' := [(12, .long w68v), (10, .long w66v), (8, .long w64v), (6, .long w62v), (4, .long w61v), (2, .long w60v), (17, .long w59v), (15, .long (zI M 8 w55n).toInt64), (0, .ref (181 + 3 * i0)), (1, .ref 7), (14, .int w1x14)]) (zml mf132 (by decide)) rfl ?_
          obtain ⟨w69v, w69e, w69⟩ := ziadd (a := w1x14) (b := Int32.ofInt 1) rfl (show (Int32.ofInt 1).toInt = 1 by decide) (by omega) (by omega)
          refine zs_iinc (pc := 109) t132_109 (ls' := [(14, .int w69v), (12, .long w68v), (10, .long w66v), (8, .long w64v), (6, .long w62v), (4, .long w61v), (2, .long w60v), (17, .long w59v), (15, .long (zI M 8 w55n).toInt64), (0, .ref (181 + 3 * i0)), (1, .ref 7)]) (zml mf132 (by decide)) rfl (c := w69v) w69e rfl ?_
          refine zs_goto (pc := 112) t132_112 ?_
          refine zGo.locals (ls' := [(0, .ref (181 + 3 * i0)), (1, .ref 7), (2, .long w60v), (4, .long w61v), (6, .long w62v), (8, .long w64v), (10, .long w66v), (12, .long w68v), (14, .int w69v)]) (by simp) ?_
          exact w1ih (w1m - 1) (by omega) w60v w61v w62v w64v w66v w68v w69v ⟨by omega, by omega⟩ (by omega)
        · refine zs_if_geF (pc := 36) t132_36 rfl (by omega) ?_
          refine zs_goto (pc := 39) t132_39 ?_
          obtain ⟨w70v, w70e, w70⟩ := ziadd (a := w1x14) (b := Int32.ofInt 1) rfl (show (Int32.ofInt 1).toInt = 1 by decide) (by omega) (by omega)
          refine zs_iinc (pc := 109) t132_109 (ls' := [(14, .int w70v), (0, .ref (181 + 3 * i0)), (1, .ref 7), (2, .long w1x2), (4, .long w1x4), (6, .long w1x6), (8, .long w1x8), (10, .long w1x10), (12, .long w1x12)]) (zml mf132 (by decide)) rfl (c := w70v) w70e rfl ?_
          refine zs_goto (pc := 112) t132_112 ?_
          refine zGo.locals (ls' := [(0, .ref (181 + 3 * i0)), (1, .ref 7), (2, .long w1x2), (4, .long w1x4), (6, .long w1x6), (8, .long w1x8), (10, .long w1x10), (12, .long w1x12), (14, .int w70v)]) (by simp) ?_
          exact w1ih (w1m - 1) (by omega) w1x2 w1x4 w1x6 w1x8 w1x10 w1x12 w70v ⟨by omega, by omega⟩ (by omega)
  refine zGo.locals (ls' := [(0, .ref (181 + 3 * i0)), (1, .ref 7), (2, .long (0 : Int64)), (4, .long (0 : Int64)), (6, .long (0 : Int64)), (8, .long (0 : Int64)), (10, .long (0 : Int64)), (12, .long (0 : Int64)), (14, .int (0 : Int32))]) (by simp) ?_
  have w71 := ll0
  have w72 := ll0
  have w73 := ll0
  have w74 := ll0
  have w75 := ll0
  have w76 := ll0
  have w77 := li0
  exact w1L ((8 - 0 : Int).toNat) (0 : Int64) (0 : Int64) (0 : Int64) (0 : Int64) (0 : Int64) (0 : Int64) (0 : Int32) ⟨by decide, by decide⟩ (by omega)
theorem C135_T181_7 {X : zX} {l : Launch} {M : zM} {Q : Option Value → zM → Prop} (hs : zSk zMc M) (hI : zIv cLo cHi M) {i0 : Nat} (hi0 : i0 < 20) (hQ : ∀ M', zSk zMc M' → zIv cLo cHi M' → zFr [(181, 240, none)] M M' → Q none M') : zCall X l 3 0 0 135 [.ref (181 + 3 * i0), .ref 7] M Q := by
  refine zs_in (by decide) mf135 (Nat.le_of_ble_eq_true rfl) ?_
  show zGo X l 3 0 0 135 0 [(0, .ref (181 + 3 * i0)), (1, .ref 7)] [] M _
  refine zs_lconst (pc := 0) t135_0 (v := 0) (by decide) ?_
  refine zs_lstore_n (pc := 1) t135_1 (ls' := [(2, .long (0 : Int64)), (0, .ref (181 + 3 * i0)), (1, .ref 7)]) (zml mf135 (by decide)) rfl ?_
  refine zs_iconst (pc := 2) t135_2 (v := 0) (by decide) ?_
  refine zs_istore (pc := 3) t135_3 (ls' := [(4, .int (0 : Int32)), (2, .long (0 : Int64)), (0, .ref (181 + 3 * i0)), (1, .ref 7)]) (zml mf135 (by decide)) rfl ?_
  have w1L : ∀ (m : Nat) (w1x2 : Int64) (w1x4 : Int32), (0 ≤ w1x4.toInt ∧ w1x4.toInt ≤ 8) → 8 - w1x4.toInt ≤ (m : Int) → zGo X l 3 0 0 135 5 [(0, .ref (181 + 3 * i0)), (1, .ref 7), (2, .long w1x2), (4, .int w1x4)] [] M Q := by
    intro m
    induction m using Nat.strongRecOn with
    | ind w1m w1ih =>
      intro w1x2 w1x4 w1b4 w1q
      have w1g2 := zrg64 w1x2
      refine zs_iload (pc := 5) t135_5 rfl ?_
      refine zs_aload_n (pc := 7) t135_7 rfl ?_
      have w2 := ib7_0 hI
      refine zs_get (pc := 8) t135_8 (by decide) (zk1 (hs.k fk_zMc_7)) (zfvi rfl rfl) ?_
      by_cases w3 : (zI M 7 0).toInt ≤ w1x4.toInt
      · refine zs_icmp_geT (pc := 11) t135_11 rfl rfl (by omega) ?_
        refine zs_aload_n (pc := 73) t135_73 rfl ?_
        refine zs_lload_n (pc := 74) t135_74 rfl ?_
        refine zs_lconst (pc := 75) t135_75 (v := 1) (by decide) ?_
        refine zs_aload_n (pc := 76) t135_76 rfl ?_
        refine zs_get (pc := 77) t135_77 (by decide) (zk1 (hs.k (fT181_0 i0 hi0))) (zfvj rfl) ?_
        refine zs_invS (pc := 80) (as := [.long (1 : Int64), .long (zJ M (181 + 3 * i0) 8)]) (st := [.long w1x2, .ref (181 + 3 * i0)]) t135_80 (by decide) mf134 rfl rfl ⟨by decide, by decide, Nat.le_of_ble_eq_true rfl, Nat.le_of_ble_eq_true rfl⟩ (zs_in (by decide) mf134 (Nat.le_of_ble_eq_true rfl) ?_) (fun _ _ q => q)
        show zGo X l 0 0 0 134 0 [(0, .long (1 : Int64)), (2, .long (zJ M (181 + 3 * i0) 8))] [] M _
        refine zs_lload_n (pc := 0) t134_0 rfl ?_
        refine zs_lload_n (pc := 1) t134_1 rfl ?_
        by_cases w4 : 1 < (zJ M (181 + 3 * i0) 8).toInt
        · refine zs_lcmp (pc := 2) t134_2 (c := -1) (zlcL ll1 rfl (by omega)) ?_
          refine zs_if_ltT (pc := 3) t134_3 lin1 (by decide) ?_
          refine zs_lload_n (pc := 10) t134_10 rfl ?_
          refine zs_lret (pc := 11) t134_11 mr134 ?_
          show zGo X l 3 0 0 135 83 [(0, .ref (181 + 3 * i0)), (1, .ref 7), (2, .long w1x2), (4, .int w1x4)] [.long (zJ M (181 + 3 * i0) 8), .long w1x2, .ref (181 + 3 * i0)] M _
          obtain ⟨w5v, w5⟩ : ∃ v, w1x2 / (zJ M (181 + 3 * i0) 8) = v := ⟨_, rfl⟩
          have w5g := zrg64 w5v
          refine zs_ldiv (pc := 83) t135_83 (znz64 rfl (by omega)) (c := w5v) w5 ?_
          obtain ⟨w6v, w6⟩ : ∃ v, w5v.toInt32 = v := ⟨_, rfl⟩
          have w6g := zrg w6v
          refine zs_l2i (pc := 84) t135_84 (c := w6v) w6 ?_
          have w7 : zIv cLo cHi (zsI M (181 + 3 * i0) 5 w6v) := zIv.put hI (by rw [(cT181_0_5 i0 hi0).1, (cT181_0_5 i0 hi0).2]; exact (zrg w6v))
          refine zs_putI (pc := 85) t135_85 (zk1 (hs.k (fT181_0 i0 hi0))) rfl ?_
          exact zs_vret (pc := 88) t135_88 mr135 (hQ _ hs w7 ((zFr.refl).put (zinW_r (lo := 181) (hi := 240) (by decide) (by omega) (by omega))))
        by_cases w8 : 1 = (zJ M (181 + 3 * i0) 8).toInt
        · refine zs_lcmp (pc := 2) t134_2 (c := 0) (zlcE ll1 rfl (by omega)) ?_
          refine zs_if_ltF (pc := 3) t134_3 li0 (by decide) ?_
          refine zs_lload_n (pc := 6) t134_6 rfl ?_
          refine zs_goto (pc := 7) t134_7 ?_
          refine zs_lret (pc := 11) t134_11 mr134 ?_
          show zGo X l 3 0 0 135 83 [(0, .ref (181 + 3 * i0)), (1, .ref 7), (2, .long w1x2), (4, .int w1x4)] [.long (1 : Int64), .long w1x2, .ref (181 + 3 * i0)] M _
          obtain ⟨w9v, w9⟩ : ∃ v, w1x2 / (1 : Int64) = v := ⟨_, rfl⟩
          have w9g := zrg64 w9v
          refine zs_ldiv (pc := 83) t135_83 (by decide) (c := w9v) w9 ?_
          obtain ⟨w10v, w10⟩ : ∃ v, w9v.toInt32 = v := ⟨_, rfl⟩
          have w10g := zrg w10v
          refine zs_l2i (pc := 84) t135_84 (c := w10v) w10 ?_
          have w11 : zIv cLo cHi (zsI M (181 + 3 * i0) 5 w10v) := zIv.put hI (by rw [(cT181_0_5 i0 hi0).1, (cT181_0_5 i0 hi0).2]; exact (zrg w10v))
          refine zs_putI (pc := 85) t135_85 (zk1 (hs.k (fT181_0 i0 hi0))) rfl ?_
          exact zs_vret (pc := 88) t135_88 mr135 (hQ _ hs w11 ((zFr.refl).put (zinW_r (lo := 181) (hi := 240) (by decide) (by omega) (by omega))))
        refine zs_lcmp (pc := 2) t134_2 (c := 1) (zlcG ll1 rfl (by omega)) ?_
        refine zs_if_ltF (pc := 3) t134_3 li1 (by decide) ?_
        refine zs_lload_n (pc := 6) t134_6 rfl ?_
        refine zs_goto (pc := 7) t134_7 ?_
        refine zs_lret (pc := 11) t134_11 mr134 ?_
        show zGo X l 3 0 0 135 83 [(0, .ref (181 + 3 * i0)), (1, .ref 7), (2, .long w1x2), (4, .int w1x4)] [.long (1 : Int64), .long w1x2, .ref (181 + 3 * i0)] M _
        obtain ⟨w13v, w13⟩ : ∃ v, w1x2 / (1 : Int64) = v := ⟨_, rfl⟩
        have w13g := zrg64 w13v
        refine zs_ldiv (pc := 83) t135_83 (by decide) (c := w13v) w13 ?_
        obtain ⟨w14v, w14⟩ : ∃ v, w13v.toInt32 = v := ⟨_, rfl⟩
        have w14g := zrg w14v
        refine zs_l2i (pc := 84) t135_84 (c := w14v) w14 ?_
        have w15 : zIv cLo cHi (zsI M (181 + 3 * i0) 5 w14v) := zIv.put hI (by rw [(cT181_0_5 i0 hi0).1, (cT181_0_5 i0 hi0).2]; exact (zrg w14v))
        refine zs_putI (pc := 85) t135_85 (zk1 (hs.k (fT181_0 i0 hi0))) rfl ?_
        exact zs_vret (pc := 88) t135_88 mr135 (hQ _ hs w15 ((zFr.refl).put (zinW_r (lo := 181) (hi := 240) (by decide) (by omega) (by omega))))
      · refine zs_icmp_geF (pc := 11) t135_11 rfl rfl (by omega) ?_
        refine zs_aload_n (pc := 14) t135_14 rfl ?_
        refine zs_get (pc := 15) t135_15 (by decide) (zk1 (hs.k (fT181_0 i0 hi0))) (hs.p rfl (fvT181_6 i0 hi0)) ?_
        refine zs_iload (pc := 18) t135_18 rfl ?_
        obtain ⟨w16n, w16⟩ : ∃ n : Nat, w1x4.toInt = (n : Int) := ⟨w1x4.toInt.toNat, by omega⟩
        have w17 := ibT181_1 hI hi0 w16n
        refine zs_iald (pc := 20) t135_20 (j := w16n) (by omega) (zk1 (hs.k (fT181_1 i0 hi0))) w16 (zk2 (hs.k (fT181_1 i0 hi0)) (by omega)) rfl ?_
        by_cases w18 : (zI M (181 + 3 * i0 + 1) w16n).toInt < 0
        · refine zs_if_ltT (pc := 21) t135_21 rfl (by omega) ?_
          obtain ⟨w19v, w19e, w19⟩ := ziadd (a := w1x4) (b := Int32.ofInt 1) rfl (show (Int32.ofInt 1).toInt = 1 by decide) (by omega) (by omega)
          refine zs_iinc (pc := 67) t135_67 (ls' := [(4, .int w19v), (0, .ref (181 + 3 * i0)), (1, .ref 7), (2, .long w1x2)]) (zml mf135 (by decide)) rfl (c := w19v) w19e rfl ?_
          refine zs_goto (pc := 70) t135_70 ?_
          refine zGo.locals (ls' := [(0, .ref (181 + 3 * i0)), (1, .ref 7), (2, .long w1x2), (4, .int w19v)]) (by simp) ?_
          exact w1ih (w1m - 1) (by omega) w1x2 w19v ⟨by omega, by omega⟩ (by omega)
        · refine zs_if_ltF (pc := 21) t135_21 rfl (by omega) ?_
          refine zs_aload_n (pc := 24) t135_24 rfl ?_
          refine zs_get (pc := 25) t135_25 (by decide) (zk1 (hs.k (fT181_0 i0 hi0))) (zfvj rfl) ?_
          refine zs_aload_n (pc := 28) t135_28 rfl ?_
          refine zs_get (pc := 29) t135_29 (by decide) (zk1 (hs.k (fT181_0 i0 hi0))) (zfvj rfl) ?_
          refine zs_aload_n (pc := 32) t135_32 rfl ?_
          refine zs_get (pc := 33) t135_33 (by decide) (zk1 (hs.k fk_zMc_7)) (hs.p rfl fv_zMc_7_1) ?_
          refine zs_iload (pc := 36) t135_36 rfl ?_
          have w20 := ib8 hI w16n
          refine zs_iald (pc := 38) t135_38 (j := w16n) (by decide) (zk1 (hs.k fk_zMc_8)) w16 (zk2 (hs.k fk_zMc_8) (by omega)) rfl ?_
          refine zs_i2l (pc := 39) t135_39 rfl ?_
          obtain ⟨w21v, w21⟩ : ∃ v, (zJ M (181 + 3 * i0) 10) * (zI M 8 w16n).toInt64 = v := ⟨_, rfl⟩
          have w21g := zrg64 w21v
          refine zs_lmul (pc := 40) t135_40 (c := w21v) w21 ?_
          obtain ⟨w22v, w22⟩ : ∃ v, (zJ M (181 + 3 * i0) 9) + w21v = v := ⟨_, rfl⟩
          have w22g := zrg64 w22v
          refine zs_ladd (pc := 41) t135_41 (c := w22v) w22 ?_
          refine zs_lstore (pc := 42) t135_42 (ls' := [(5, .long w22v), (0, .ref (181 + 3 * i0)), (1, .ref 7), (2, .long w1x2), (4, .int w1x4)]) (zml mf135 (by decide)) rfl ?_
          refine zs_lload_n (pc := 44) t135_44 rfl ?_
          refine zs_aload_n (pc := 45) t135_45 rfl ?_
          refine zs_aload_n (pc := 46) t135_46 rfl ?_
          refine zs_iload (pc := 47) t135_47 rfl ?_
          refine zs_invV (pc := 49) (k := (181 + 3 * i0)) (as' := [.ref 7, .int w1x4]) (st := [.long w1x2]) t135_49 mf133 rfl rfl (Or.inl ⟨by decide, (zk1 (hs.k (fT181_0 i0 hi0)))⟩) ⟨by decide, by decide, Nat.le_of_ble_eq_true rfl, Nat.le_of_ble_eq_true rfl⟩ (C133_T181_7 hs hI hi0 ⟨by omega, by omega⟩ ?_) (fun _ _ q => q)
          intro w23v w23a w23b
          show zGo X l 3 0 0 135 52 [(5, .long w22v), (0, .ref (181 + 3 * i0)), (1, .ref 7), (2, .long w1x2), (4, .int w1x4)] [.long w23v, .long w1x2] M _
          refine zs_aload_n (pc := 52) t135_52 rfl ?_
          refine zs_get (pc := 53) t135_53 (by decide) (zk1 (hs.k (fT181_0 i0 hi0))) (zfvj rfl) ?_
          obtain ⟨w24v, w24⟩ : ∃ v, w23v * (zJ M (181 + 3 * i0) 8) = v := ⟨_, rfl⟩
          have w24g := zrg64 w24v
          refine zs_lmul (pc := 56) t135_56 (c := w24v) w24 ?_
          refine zs_lload (pc := 57) t135_57 rfl ?_
          obtain ⟨w25v, w25⟩ : ∃ v, w24v - w22v = v := ⟨_, rfl⟩
          have w25g := zrg64 w25v
          refine zs_lsub (pc := 59) t135_59 (c := w25v) w25 ?_
          refine zs_invS (pc := 60) (as := [.long w25v]) (st := [.long w1x2]) t135_60 (by decide) mf136 rfl rfl ⟨by decide, by decide, Nat.le_of_ble_eq_true rfl, Nat.le_of_ble_eq_true rfl⟩ (zs_in (by decide) mf136 (Nat.le_of_ble_eq_true rfl) ?_) (fun _ _ q => q)
          show zGo X l 0 0 0 136 0 [(0, .long w25v)] [] M _
          refine zs_lload_n (pc := 0) t136_0 rfl ?_
          refine zs_lconst (pc := 1) t136_1 (v := 0) (by decide) ?_
          by_cases w26 : w25v.toInt < 0
          · refine zs_lcmp (pc := 2) t136_2 (c := -1) (zlcL rfl ll0 (by omega)) ?_
            refine zs_if_geF (pc := 3) t136_3 lin1 (by decide) ?_
            refine zs_lload_n (pc := 6) t136_6 rfl ?_
            obtain ⟨w27v, w27⟩ : ∃ v, -w25v = v := ⟨_, rfl⟩
            have w27g := zrg64 w27v
            refine zs_lneg (pc := 7) t136_7 (c := w27v) w27 ?_
            refine zs_goto (pc := 8) t136_8 ?_
            refine zs_lret (pc := 12) t136_12 mr136 ?_
            show zGo X l 3 0 0 135 63 [(5, .long w22v), (0, .ref (181 + 3 * i0)), (1, .ref 7), (2, .long w1x2), (4, .int w1x4)] [.long w27v, .long w1x2] M _
            refine zs_invS (pc := 63) (as := [.long w1x2, .long w27v]) (st := []) t135_63 (by decide) mf134 rfl rfl ⟨by decide, by decide, Nat.le_of_ble_eq_true rfl, Nat.le_of_ble_eq_true rfl⟩ (zs_in (by decide) mf134 (Nat.le_of_ble_eq_true rfl) ?_) (fun _ _ q => q)
            show zGo X l 0 0 0 134 0 [(0, .long w1x2), (2, .long w27v)] [] M _
            refine zs_lload_n (pc := 0) t134_0 rfl ?_
            refine zs_lload_n (pc := 1) t134_1 rfl ?_
            by_cases w28 : w1x2.toInt < w27v.toInt
            · refine zs_lcmp (pc := 2) t134_2 (c := -1) (zlcL rfl rfl (by omega)) ?_
              refine zs_if_ltT (pc := 3) t134_3 lin1 (by decide) ?_
              refine zs_lload_n (pc := 10) t134_10 rfl ?_
              refine zs_lret (pc := 11) t134_11 mr134 ?_
              show zGo X l 3 0 0 135 66 [(5, .long w22v), (0, .ref (181 + 3 * i0)), (1, .ref 7), (2, .long w1x2), (4, .int w1x4)] [.long w27v] M _
              refine zs_lstore_n (pc := 66) t135_66 (ls' := [(2, .long w27v), (5, .long w22v), (0, .ref (181 + 3 * i0)), (1, .ref 7), (4, .int w1x4)]) (zml mf135 (by decide)) rfl ?_
              obtain ⟨w29v, w29e, w29⟩ := ziadd (a := w1x4) (b := Int32.ofInt 1) rfl (show (Int32.ofInt 1).toInt = 1 by decide) (by omega) (by omega)
              refine zs_iinc (pc := 67) t135_67 (ls' := [(4, .int w29v), (2, .long w27v), (5, .long w22v), (0, .ref (181 + 3 * i0)), (1, .ref 7)]) (zml mf135 (by decide)) rfl (c := w29v) w29e rfl ?_
              refine zs_goto (pc := 70) t135_70 ?_
              refine zGo.locals (ls' := [(0, .ref (181 + 3 * i0)), (1, .ref 7), (2, .long w27v), (4, .int w29v)]) (by simp) ?_
              exact w1ih (w1m - 1) (by omega) w27v w29v ⟨by omega, by omega⟩ (by omega)
            by_cases w30 : w1x2.toInt = w27v.toInt
            · refine zs_lcmp (pc := 2) t134_2 (c := 0) (zlcE rfl rfl (by omega)) ?_
              refine zs_if_ltF (pc := 3) t134_3 li0 (by decide) ?_
              refine zs_lload_n (pc := 6) t134_6 rfl ?_
              refine zs_goto (pc := 7) t134_7 ?_
              refine zs_lret (pc := 11) t134_11 mr134 ?_
              show zGo X l 3 0 0 135 66 [(5, .long w22v), (0, .ref (181 + 3 * i0)), (1, .ref 7), (2, .long w1x2), (4, .int w1x4)] [.long w1x2] M _
              refine zs_lstore_n (pc := 66) t135_66 (ls' := [(2, .long w1x2), (5, .long w22v), (0, .ref (181 + 3 * i0)), (1, .ref 7), (4, .int w1x4)]) (zml mf135 (by decide)) rfl ?_
              obtain ⟨w31v, w31e, w31⟩ := ziadd (a := w1x4) (b := Int32.ofInt 1) rfl (show (Int32.ofInt 1).toInt = 1 by decide) (by omega) (by omega)
              refine zs_iinc (pc := 67) t135_67 (ls' := [(4, .int w31v), (2, .long w1x2), (5, .long w22v), (0, .ref (181 + 3 * i0)), (1, .ref 7)]) (zml mf135 (by decide)) rfl (c := w31v) w31e rfl ?_
              refine zs_goto (pc := 70) t135_70 ?_
              refine zGo.locals (ls' := [(0, .ref (181 + 3 * i0)), (1, .ref 7), (2, .long w1x2), (4, .int w31v)]) (by simp) ?_
              exact w1ih (w1m - 1) (by omega) w1x2 w31v ⟨by omega, by omega⟩ (by omega)
            refine zs_lcmp (pc := 2) t134_2 (c := 1) (zlcG rfl rfl (by omega)) ?_
            refine zs_if_ltF (pc := 3) t134_3 li1 (by decide) ?_
            refine zs_lload_n (pc := 6) t134_6 rfl ?_
            refine zs_goto (pc := 7) t134_7 ?_
            refine zs_lret (pc := 11) t134_11 mr134 ?_
            show zGo X l 3 0 0 135 66 [(5, .long w22v), (0, .ref (181 + 3 * i0)), (1, .ref 7), (2, .long w1x2), (4, .int w1x4)] [.long w1x2] M _
            refine zs_lstore_n (pc := 66) t135_66 (ls' := [(2, .long w1x2), (5, .long w22v), (0, .ref (181 + 3 * i0)), (1, .ref 7), (4, .int w1x4)]) (zml mf135 (by decide)) rfl ?_
            obtain ⟨w33v, w33e, w33⟩ := ziadd (a := w1x4) (b := Int32.ofInt 1) rfl (show (Int32.ofInt 1).toInt = 1 by decide) (by omega) (by omega)
            refine zs_iinc (pc := 67) t135_67 (ls' := [(4, .int w33v), (2, .long w1x2), (5, .long w22v), (0, .ref (181 + 3 * i0)), (1, .ref 7)]) (zml mf135 (by decide)) rfl (c := w33v) w33e rfl ?_
            refine zs_goto (pc := 70) t135_70 ?_
            refine zGo.locals (ls' := [(0, .ref (181 + 3 * i0)), (1, .ref 7), (2, .long w1x2), (4, .int w33v)]) (by simp) ?_
            exact w1ih (w1m - 1) (by omega) w1x2 w33v ⟨by omega, by omega⟩ (by omega)
          by_cases w34 : w25v.toInt = 0
          · refine zs_lcmp (pc := 2) t136_2 (c := 0) (zlcE rfl ll0 (by omega)) ?_
            refine zs_if_geT (pc := 3) t136_3 li0 (by decide) ?_
            refine zs_lload_n (pc := 11) t136_11 rfl ?_
            refine zs_lret (pc := 12) t136_12 mr136 ?_
            show zGo X l 3 0 0 135 63 [(5, .long w22v), (0, .ref (181 + 3 * i0)), (1, .ref 7), (2, .long w1x2), (4, .int w1x4)] [.long w25v, .long w1x2] M _
            refine zs_invS (pc := 63) (as := [.long w1x2, .long w25v]) (st := []) t135_63 (by decide) mf134 rfl rfl ⟨by decide, by decide, Nat.le_of_ble_eq_true rfl, Nat.le_of_ble_eq_true rfl⟩ (zs_in (by decide) mf134 (Nat.le_of_ble_eq_true rfl) ?_) (fun _ _ q => q)
            show zGo X l 0 0 0 134 0 [(0, .long w1x2), (2, .long w25v)] [] M _
            refine zs_lload_n (pc := 0) t134_0 rfl ?_
            refine zs_lload_n (pc := 1) t134_1 rfl ?_
            by_cases w35 : w1x2.toInt < w25v.toInt
            · refine zs_lcmp (pc := 2) t134_2 (c := -1) (zlcL rfl rfl (by omega)) ?_
              refine zs_if_ltT (pc := 3) t134_3 lin1 (by decide) ?_
              refine zs_lload_n (pc := 10) t134_10 rfl ?_
              refine zs_lret (pc := 11) t134_11 mr134 ?_
              show zGo X l 3 0 0 135 66 [(5, .long w22v), (0, .ref (181 + 3 * i0)), (1, .ref 7), (2, .long w1x2), (4, .int w1x4)] [.long w25v] M _
              refine zs_lstore_n (pc := 66) t135_66 (ls' := [(2, .long w25v), (5, .long w22v), (0, .ref (181 + 3 * i0)), (1, .ref 7), (4, .int w1x4)]) (zml mf135 (by decide)) rfl ?_
              obtain ⟨w36v, w36e, w36⟩ := ziadd (a := w1x4) (b := Int32.ofInt 1) rfl (show (Int32.ofInt 1).toInt = 1 by decide) (by omega) (by omega)
              refine zs_iinc (pc := 67) t135_67 (ls' := [(4, .int w36v), (2, .long w25v), (5, .long w22v), (0, .ref (181 + 3 * i0)), (1, .ref 7)]) (zml mf135 (by decide)) rfl (c := w36v) w36e rfl ?_
              refine zs_goto (pc := 70) t135_70 ?_
              refine zGo.locals (ls' := [(0, .ref (181 + 3 * i0)), (1, .ref 7), (2, .long w25v), (4, .int w36v)]) (by simp) ?_
              exact w1ih (w1m - 1) (by omega) w25v w36v ⟨by omega, by omega⟩ (by omega)
            by_cases w37 : w1x2.toInt = w25v.toInt
            · refine zs_lcmp (pc := 2) t134_2 (c := 0) (zlcE rfl rfl (by omega)) ?_
              refine zs_if_ltF (pc := 3) t134_3 li0 (by decide) ?_
              refine zs_lload_n (pc := 6) t134_6 rfl ?_
              refine zs_goto (pc := 7) t134_7 ?_
              refine zs_lret (pc := 11) t134_11 mr134 ?_
              show zGo X l 3 0 0 135 66 [(5, .long w22v), (0, .ref (181 + 3 * i0)), (1, .ref 7), (2, .long w1x2), (4, .int w1x4)] [.long w1x2] M _
              refine zs_lstore_n (pc := 66) t135_66 (ls' := [(2, .long w1x2), (5, .long w22v), (0, .ref (181 + 3 * i0)), (1, .ref 7), (4, .int w1x4)]) (zml mf135 (by decide)) rfl ?_
              obtain ⟨w38v, w38e, w38⟩ := ziadd (a := w1x4) (b := Int32.ofInt 1) rfl (show (Int32.ofInt 1).toInt = 1 by decide) (by omega) (by omega)
              refine zs_iinc (pc := 67) t135_67 (ls' := [(4, .int w38v), (2, .long w1x2), (5, .long w22v), (0, .ref (181 + 3 * i0)), (1, .ref 7)]) (zml mf135 (by decide)) rfl (c := w38v) w38e rfl ?_
              refine zs_goto (pc := 70) t135_70 ?_
              refine zGo.locals (ls' := [(0, .ref (181 + 3 * i0)), (1, .ref 7), (2, .long w1x2), (4, .int w38v)]) (by simp) ?_
              exact w1ih (w1m - 1) (by omega) w1x2 w38v ⟨by omega, by omega⟩ (by omega)
            refine zs_lcmp (pc := 2) t134_2 (c := 1) (zlcG rfl rfl (by omega)) ?_
            refine zs_if_ltF (pc := 3) t134_3 li1 (by decide) ?_
            refine zs_lload_n (pc := 6) t134_6 rfl ?_
            refine zs_goto (pc := 7) t134_7 ?_
            refine zs_lret (pc := 11) t134_11 mr134 ?_
            show zGo X l 3 0 0 135 66 [(5, .long w22v), (0, .ref (181 + 3 * i0)), (1, .ref 7), (2, .long w1x2), (4, .int w1x4)] [.long w1x2] M _
            refine zs_lstore_n (pc := 66) t135_66 (ls' := [(2, .long w1x2), (5, .long w22v), (0, .ref (181 + 3 * i0)), (1, .ref 7), (4, .int w1x4)]) (zml mf135 (by decide)) rfl ?_
            obtain ⟨w40v, w40e, w40⟩ := ziadd (a := w1x4) (b := Int32.ofInt 1) rfl (show (Int32.ofInt 1).toInt = 1 by decide) (by omega) (by omega)
            refine zs_iinc (pc := 67) t135_67 (ls' := [(4, .int w40v), (2, .long w1x2), (5, .long w22v), (0, .ref (181 + 3 * i0)), (1, .ref 7)]) (zml mf135 (by decide)) rfl (c := w40v) w40e rfl ?_
            refine zs_goto (pc := 70) t135_70 ?_
            refine zGo.locals (ls' := [(0, .ref (181 + 3 * i0)), (1, .ref 7), (2, .long w1x2), (4, .int w40v)]) (by simp) ?_
            exact w1ih (w1m - 1) (by omega) w1x2 w40v ⟨by omega, by omega⟩ (by omega)
          refine zs_lcmp (pc := 2) t136_2 (c := 1) (zlcG rfl ll0 (by omega)) ?_
          refine zs_if_geT (pc := 3) t136_3 li1 (by decide) ?_
          refine zs_lload_n (pc := 11) t136_11 rfl ?_
          refine zs_lret (pc := 12) t136_12 mr136 ?_
          show zGo X l 3 0 0 135 63 [(5, .long w22v), (0, .ref (181 + 3 * i0)), (1, .ref 7), (2, .long w1x2), (4, .int w1x4)] [.long w25v, .long w1x2] M _
          refine zs_invS (pc := 63) (as := [.long w1x2, .long w25v]) (st := []) t135_63 (by decide) mf134 rfl rfl ⟨by decide, by decide, Nat.le_of_ble_eq_true rfl, Nat.le_of_ble_eq_true rfl⟩ (zs_in (by decide) mf134 (Nat.le_of_ble_eq_true rfl) ?_) (fun _ _ q => q)
          show zGo X l 0 0 0 134 0 [(0, .long w1x2), (2, .long w25v)] [] M _
          refine zs_lload_n (pc := 0) t134_0 rfl ?_
          refine zs_lload_n (pc := 1) t134_1 rfl ?_
          by_cases w42 : w1x2.toInt < w25v.toInt
          · refine zs_lcmp (pc := 2) t134_2 (c := -1) (zlcL rfl rfl (by omega)) ?_
            refine zs_if_ltT (pc := 3) t134_3 lin1 (by decide) ?_
            refine zs_lload_n (pc := 10) t134_10 rfl ?_
            refine zs_lret (pc := 11) t134_11 mr134 ?_
            show zGo X l 3 0 0 135 66 [(5, .long w22v), (0, .ref (181 + 3 * i0)), (1, .ref 7), (2, .long w1x2), (4, .int w1x4)] [.long w25v] M _
            refine zs_lstore_n (pc := 66) t135_66 (ls' := [(2, .long w25v), (5, .long w22v), (0, .ref (181 + 3 * i0)), (1, .ref 7), (4, .int w1x4)]) (zml mf135 (by decide)) rfl ?_
            obtain ⟨w43v, w43e, w43⟩ := ziadd (a := w1x4) (b := Int32.ofInt 1) rfl (show (Int32.ofInt 1).toInt = 1 by decide) (by omega) (by omega)
            refine zs_iinc (pc := 67) t135_67 (ls' := [(4, .int w43v), (2, .long w25v), (5, .long w22v), (0, .ref (181 + 3 * i0)), (1, .ref 7)]) (zml mf135 (by decide)) rfl (c := w43v) w43e rfl ?_
            refine zs_goto (pc := 70) t135_70 ?_
            refine zGo.locals (ls' := [(0, .ref (181 + 3 * i0)), (1, .ref 7), (2, .long w25v), (4, .int w43v)]) (by simp) ?_
            exact w1ih (w1m - 1) (by omega) w25v w43v ⟨by omega, by omega⟩ (by omega)
          by_cases w44 : w1x2.toInt = w25v.toInt
          · refine zs_lcmp (pc := 2) t134_2 (c := 0) (zlcE rfl rfl (by omega)) ?_
            refine zs_if_ltF (pc := 3) t134_3 li0 (by decide) ?_
            refine zs_lload_n (pc := 6) t134_6 rfl ?_
            refine zs_goto (pc := 7) t134_7 ?_
            refine zs_lret (pc := 11) t134_11 mr134 ?_
            show zGo X l 3 0 0 135 66 [(5, .long w22v), (0, .ref (181 + 3 * i0)), (1, .ref 7), (2, .long w1x2), (4, .int w1x4)] [.long w1x2] M _
            refine zs_lstore_n (pc := 66) t135_66 (ls' := [(2, .long w1x2), (5, .long w22v), (0, .ref (181 + 3 * i0)), (1, .ref 7), (4, .int w1x4)]) (zml mf135 (by decide)) rfl ?_
            obtain ⟨w45v, w45e, w45⟩ := ziadd (a := w1x4) (b := Int32.ofInt 1) rfl (show (Int32.ofInt 1).toInt = 1 by decide) (by omega) (by omega)
            refine zs_iinc (pc := 67) t135_67 (ls' := [(4, .int w45v), (2, .long w1x2), (5, .long w22v), (0, .ref (181 + 3 * i0)), (1, .ref 7)]) (zml mf135 (by decide)) rfl (c := w45v) w45e rfl ?_
            refine zs_goto (pc := 70) t135_70 ?_
            refine zGo.locals (ls' := [(0, .ref (181 + 3 * i0)), (1, .ref 7), (2, .long w1x2), (4, .int w45v)]) (by simp) ?_
            exact w1ih (w1m - 1) (by omega) w1x2 w45v ⟨by omega, by omega⟩ (by omega)
          refine zs_lcmp (pc := 2) t134_2 (c := 1) (zlcG rfl rfl (by omega)) ?_
          refine zs_if_ltF (pc := 3) t134_3 li1 (by decide) ?_
          refine zs_lload_n (pc := 6) t134_6 rfl ?_
          refine zs_goto (pc := 7) t134_7 ?_
          refine zs_lret (pc := 11) t134_11 mr134 ?_
          show zGo X l 3 0 0 135 66 [(5, .long w22v), (0, .ref (181 + 3 * i0)), (1, .ref 7), (2, .long w1x2), (4, .int w1x4)] [.long w1x2] M _
          refine zs_lstore_n (pc := 66) t135_66 (ls' := [(2, .long w1x2), (5, .long w22v), (0, .ref (181 + 3 * i0)), (1, .ref 7), (4, .int w1x4)]) (zml mf135 (by decide)) rfl ?_
          obtain ⟨w47v, w47e, w47⟩ := ziadd (a := w1x4) (b := Int32.ofInt 1) rfl (show (Int32.ofInt 1).toInt = 1 by decide) (by omega) (by omega)
          refine zs_iinc (pc := 67) t135_67 (ls' := [(4, .int w47v), (2, .long w1x2), (5, .long w22v), (0, .ref (181 + 3 * i0)), (1, .ref 7)]) (zml mf135 (by decide)) rfl (c := w47v) w47e rfl ?_
          refine zs_goto (pc := 70) t135_70 ?_
          refine zGo.locals (ls' := [(0, .ref (181 + 3 * i0)), (1, .ref 7), (2, .long w1x2), (4, .int w47v)]) (by simp) ?_
          exact w1ih (w1m - 1) (by omega) w1x2 w47v ⟨by omega, by omega⟩ (by omega)
  refine zGo.locals (ls' := [(0, .ref (181 + 3 * i0)), (1, .ref 7), (2, .long (0 : Int64)), (4, .int (0 : Int32))]) (by simp) ?_
  have w48 := ll0
  have w49 := li0
  exact w1L ((8 - 0 : Int).toNat) (0 : Int64) (0 : Int32) ⟨by decide, by decide⟩ (by omega)
theorem C146_164 {X : zX} {l : Launch} {M : zM} {Q : Option Value → zM → Prop} {a b : Int32} (hs : zSk zMc M) (hI : zIv cLo cHi M) (hQ : ∀ v : Int32, (-2147483648) ≤ v.toInt → v.toInt ≤ 2147483647 → Q (some (.int v)) M) : zCall X l 1 0 0 146 [.ref 164, .int a, .int b] M Q := by
  have ga := zrg a
  have gb := zrg b
  refine zs_in (by decide) mf146 (Nat.le_of_ble_eq_true rfl) ?_
  show zGo X l 1 0 0 146 0 [(0, .ref 164), (1, .int a), (2, .int b)] [] M _
  refine zs_iload_n (pc := 0) t146_0 rfl ?_
  refine zs_iconst (pc := 1) t146_1 (v := 0) (by decide) ?_
  refine zs_bipush (pc := 2) t146_2 (v := 11) (by decide) ?_
  refine zs_invS (pc := 4) (as := [.int a, .int (0 : Int32), .int (11 : Int32)]) (st := []) t146_4 (by decide) mf39 rfl rfl ⟨by decide, by decide, Nat.le_of_ble_eq_true rfl, Nat.le_of_ble_eq_true rfl⟩ (zs_in (by decide) mf39 (Nat.le_of_ble_eq_true rfl) ?_) (fun _ _ q => q)
  show zGo X l 0 0 0 39 0 [(0, .int a), (1, .int (0 : Int32)), (2, .int (11 : Int32))] [] M _
  refine zs_iload_n (pc := 0) t39_0 rfl ?_
  refine zs_iload_n (pc := 1) t39_1 rfl ?_
  by_cases w1 : a.toInt < 0
  · refine zs_icmp_ltT (pc := 2) t39_2 rfl li0 (by omega) ?_
    refine zs_iconst (pc := 14) t39_14 (v := 0) (by decide) ?_
    refine zs_iret (pc := 15) t39_15 mr39 (by decide) ?_
    show zGo X l 1 0 0 146 7 [(0, .ref 164), (1, .int a), (2, .int b)] [.int (0 : Int32)] M _
    refine zs_if_eqT (pc := 7) t146_7 li0 (by decide) ?_
    refine zs_iconst (pc := 34) t146_34 (v := 0) (by decide) ?_
    exact zs_iret (pc := 35) t146_35 mr146 (by decide) (hQ _ (zrg _).1 (zrg _).2)
  · refine zs_icmp_ltF (pc := 2) t39_2 rfl li0 (by omega) ?_
    refine zs_iload_n (pc := 5) t39_5 rfl ?_
    refine zs_iload_n (pc := 6) t39_6 rfl ?_
    by_cases w2 : 11 < a.toInt
    · refine zs_icmp_gtT (pc := 7) t39_7 rfl li11 (by omega) ?_
      refine zs_iconst (pc := 14) t39_14 (v := 0) (by decide) ?_
      refine zs_iret (pc := 15) t39_15 mr39 (by decide) ?_
      show zGo X l 1 0 0 146 7 [(0, .ref 164), (1, .int a), (2, .int b)] [.int (0 : Int32)] M _
      refine zs_if_eqT (pc := 7) t146_7 li0 (by decide) ?_
      refine zs_iconst (pc := 34) t146_34 (v := 0) (by decide) ?_
      exact zs_iret (pc := 35) t146_35 mr146 (by decide) (hQ _ (zrg _).1 (zrg _).2)
    · refine zs_icmp_gtF (pc := 7) t39_7 rfl li11 (by omega) ?_
      refine zs_iconst (pc := 10) t39_10 (v := 1) (by decide) ?_
      refine zs_goto (pc := 11) t39_11 ?_
      refine zs_iret (pc := 15) t39_15 mr39 (by decide) ?_
      show zGo X l 1 0 0 146 7 [(0, .ref 164), (1, .int a), (2, .int b)] [.int (1 : Int32)] M _
      refine zs_if_eqF (pc := 7) t146_7 li1 (by decide) ?_
      refine zs_iload_n (pc := 10) t146_10 rfl ?_
      refine zs_iconst (pc := 11) t146_11 (v := 0) (by decide) ?_
      refine zs_bipush (pc := 12) t146_12 (v := 19) (by decide) ?_
      refine zs_invS (pc := 14) (as := [.int b, .int (0 : Int32), .int (19 : Int32)]) (st := []) t146_14 (by decide) mf39 rfl rfl ⟨by decide, by decide, Nat.le_of_ble_eq_true rfl, Nat.le_of_ble_eq_true rfl⟩ (zs_in (by decide) mf39 (Nat.le_of_ble_eq_true rfl) ?_) (fun _ _ q => q)
      show zGo X l 0 0 0 39 0 [(0, .int b), (1, .int (0 : Int32)), (2, .int (19 : Int32))] [] M _
      refine zs_iload_n (pc := 0) t39_0 rfl ?_
      refine zs_iload_n (pc := 1) t39_1 rfl ?_
      by_cases w3 : b.toInt < 0
      · refine zs_icmp_ltT (pc := 2) t39_2 rfl li0 (by omega) ?_
        refine zs_iconst (pc := 14) t39_14 (v := 0) (by decide) ?_
        refine zs_iret (pc := 15) t39_15 mr39 (by decide) ?_
        show zGo X l 1 0 0 146 17 [(0, .ref 164), (1, .int a), (2, .int b)] [.int (0 : Int32)] M _
        refine zs_if_eqT (pc := 17) t146_17 li0 (by decide) ?_
        refine zs_iconst (pc := 34) t146_34 (v := 0) (by decide) ?_
        exact zs_iret (pc := 35) t146_35 mr146 (by decide) (hQ _ (zrg _).1 (zrg _).2)
      · refine zs_icmp_ltF (pc := 2) t39_2 rfl li0 (by omega) ?_
        refine zs_iload_n (pc := 5) t39_5 rfl ?_
        refine zs_iload_n (pc := 6) t39_6 rfl ?_
        by_cases w4 : 19 < b.toInt
        · refine zs_icmp_gtT (pc := 7) t39_7 rfl li19 (by omega) ?_
          refine zs_iconst (pc := 14) t39_14 (v := 0) (by decide) ?_
          refine zs_iret (pc := 15) t39_15 mr39 (by decide) ?_
          show zGo X l 1 0 0 146 17 [(0, .ref 164), (1, .int a), (2, .int b)] [.int (0 : Int32)] M _
          refine zs_if_eqT (pc := 17) t146_17 li0 (by decide) ?_
          refine zs_iconst (pc := 34) t146_34 (v := 0) (by decide) ?_
          exact zs_iret (pc := 35) t146_35 mr146 (by decide) (hQ _ (zrg _).1 (zrg _).2)
        · refine zs_icmp_gtF (pc := 7) t39_7 rfl li19 (by omega) ?_
          refine zs_iconst (pc := 10) t39_10 (v := 1) (by decide) ?_
          refine zs_goto (pc := 11) t39_11 ?_
          refine zs_iret (pc := 15) t39_15 mr39 (by decide) ?_
          show zGo X l 1 0 0 146 17 [(0, .ref 164), (1, .int a), (2, .int b)] [.int (1 : Int32)] M _
          refine zs_if_eqF (pc := 17) t146_17 li1 (by decide) ?_
          refine zs_aload_n (pc := 20) t146_20 rfl ?_
          refine zs_get (pc := 21) t146_21 (by decide) (zk1 (hs.k fk_zMc_164)) (hs.p rfl fv_zMc_164_8) ?_
          refine zs_iload_n (pc := 24) t146_24 rfl ?_
          refine zs_bipush (pc := 25) t146_25 (v := 20) (by decide) ?_
          obtain ⟨w5v, w5⟩ : ∃ v, a * (20 : Int32) = v := ⟨_, rfl⟩
          have w5g : w5v.toInt = a.toInt * 20 := by rw [← w5]; exact zmulc rfl li20 (by omega) (by omega)
          refine zs_imul (pc := 27) t146_27 (c := w5v) w5 ?_
          refine zs_iload_n (pc := 28) t146_28 rfl ?_
          obtain ⟨w6v, w6e, w6⟩ := ziadd (a := w5v) (b := b) rfl rfl (by omega) (by omega)
          refine zs_iadd (pc := 29) t146_29 (c := w6v) w6e ?_
          obtain ⟨w7n, w7⟩ : ∃ n : Nat, w6v.toInt = (n : Int) := ⟨w6v.toInt.toNat, by omega⟩
          have w8 := ib319 hI w7n
          refine zs_iald (pc := 30) t146_30 (j := w7n) (by decide) (zk1 (hs.k fk_zMc_319)) w7 (zk2 (hs.k fk_zMc_319) (by omega)) rfl ?_
          refine zs_goto (pc := 31) t146_31 ?_
          exact zs_iret (pc := 35) t146_35 mr146 rfl (hQ _ (zrg _).1 (zrg _).2)
theorem C124_164 {X : zX} {l : Launch} {M : zM} {Q : Option Value → zM → Prop} {a : Int32} (hs : zSk zMc M) (hI : zIv cLo cHi M) (hQ : ∀ v : Int32, 0 ≤ v.toInt → v.toInt ≤ 20 → Q (some (.int v)) M) : zCall X l 1 0 0 124 [.ref 164, .int a] M Q := by
  have ga := zrg a
  refine zs_in (by decide) mf124 (Nat.le_of_ble_eq_true rfl) ?_
  show zGo X l 1 0 0 124 0 [(0, .ref 164), (1, .int a)] [] M _
  refine zs_iconst (pc := 0) t124_0 (v := 0) (by decide) ?_
  refine zs_istore_n (pc := 1) t124_1 (ls' := [(2, .int (0 : Int32)), (0, .ref 164), (1, .int a)]) (zml mf124 (by decide)) rfl ?_
  refine zs_iconst (pc := 2) t124_2 (v := 0) (by decide) ?_
  refine zs_istore_n (pc := 3) t124_3 (ls' := [(3, .int (0 : Int32)), (2, .int (0 : Int32)), (0, .ref 164), (1, .int a)]) (zml mf124 (by decide)) rfl ?_
  have w1L : ∀ (m : Nat) (w1x2 : Int32) (w1x3 : Int32), (0 ≤ w1x2.toInt ∧ w1x2.toInt ≤ 20) → (0 ≤ w1x3.toInt ∧ w1x3.toInt ≤ 20) → (w1x2.toInt ≤ w1x3.toInt) → 20 - w1x3.toInt ≤ (m : Int) → zGo X l 1 0 0 124 4 [(0, .ref 164), (1, .int a), (2, .int w1x2), (3, .int w1x3)] [] M Q := by
    intro m
    induction m using Nat.strongRecOn with
    | ind w1m w1ih =>
      intro w1x2 w1x3 w1b2 w1b3 w1r0 w1q
      refine zs_iload_n (pc := 4) t124_4 rfl ?_
      refine zs_aload_n (pc := 5) t124_5 rfl ?_
      refine zs_get (pc := 6) t124_6 (by decide) (zk1 (hs.k fk_zMc_164)) (hs.p rfl fv_zMc_164_1) ?_
      refine zs_invV (pc := 9) (k := 165) (as' := []) (st := [.int w1x3]) t124_9 mf125 rfl rfl (Or.inl ⟨by decide, (zk1 (hs.k fk_zMc_165))⟩) ⟨by decide, by decide, Nat.le_of_ble_eq_true rfl, Nat.le_of_ble_eq_true rfl⟩ (zs_in (by decide) mf125 (Nat.le_of_ble_eq_true rfl) ?_) (fun _ _ q => q)
      show zGo X l 0 0 0 125 0 [(0, .ref 165)] [] M _
      refine zs_aload_n (pc := 0) t125_0 rfl ?_
      have w2 := ib165_2 hI
      refine zs_get (pc := 1) t125_1 (by decide) (zk1 (hs.k fk_zMc_165)) (zfvi rfl rfl) ?_
      refine zs_iret (pc := 4) t125_4 mr125 rfl ?_
      show zGo X l 1 0 0 124 12 [(0, .ref 164), (1, .int a), (2, .int w1x2), (3, .int w1x3)] [.int (zI M 165 2), .int w1x3] M _
      by_cases w3 : (zI M 165 2).toInt ≤ w1x3.toInt
      · refine zs_icmp_geT (pc := 12) t124_12 rfl rfl (by omega) ?_
        refine zs_iload_n (pc := 48) t124_48 rfl ?_
        exact zs_iret (pc := 49) t124_49 mr124 rfl (hQ _ (by omega) (by omega))
      · refine zs_icmp_geF (pc := 12) t124_12 rfl rfl (by omega) ?_
        refine zs_aload_n (pc := 15) t124_15 rfl ?_
        refine zs_get (pc := 16) t124_16 (by decide) (zk1 (hs.k fk_zMc_164)) (hs.p rfl fv_zMc_164_1) ?_
        refine zs_iload_n (pc := 19) t124_19 rfl ?_
        refine zs_invV (pc := 20) (k := 165) (as' := [.int w1x3]) (st := []) t124_20 mf126 rfl rfl (Or.inl ⟨by decide, (zk1 (hs.k fk_zMc_165))⟩) ⟨by decide, by decide, Nat.le_of_ble_eq_true rfl, Nat.le_of_ble_eq_true rfl⟩ (zs_in (by decide) mf126 (Nat.le_of_ble_eq_true rfl) ?_) (fun _ _ q => q)
        show zGo X l 0 0 0 126 0 [(0, .ref 165), (1, .int w1x3)] [] M _
        refine zs_iload_n (pc := 0) t126_0 rfl ?_
        refine zs_if_ltF (pc := 1) t126_1 rfl (by omega) ?_
        refine zs_iload_n (pc := 4) t126_4 rfl ?_
        refine zs_aload_n (pc := 5) t126_5 rfl ?_
        refine zs_get (pc := 6) t126_6 (by decide) (zk1 (hs.k fk_zMc_165)) (zfvi rfl rfl) ?_
        by_cases w4 : (zI M 165 2).toInt ≤ w1x3.toInt
        · refine zs_icmp_geT (pc := 9) t126_9 rfl rfl (by omega) ?_
          refine zs_aconst_null (pc := 21) t126_21 ?_
          refine zs_aret0 (pc := 22) t126_22 (by rw [mr126]; rfl) ?_
          show zGo X l 1 0 0 124 23 [(0, .ref 164), (1, .int a), (2, .int w1x2), (3, .int w1x3)] [.null] M _
          refine zs_astore0 (pc := 23) t124_23 (ls' := [(4, .null), (0, .ref 164), (1, .int a), (2, .int w1x2), (3, .int w1x3)]) (zml mf124 (by decide)) rfl ?_
          refine zs_aload0 (pc := 25) t124_25 rfl ?_
          refine zs_ifnullT (pc := 27) t124_27 ?_
          obtain ⟨w5v, w5e, w5⟩ := ziadd (a := w1x3) (b := Int32.ofInt 1) rfl (show (Int32.ofInt 1).toInt = 1 by decide) (by omega) (by omega)
          refine zs_iinc (pc := 42) t124_42 (ls' := [(3, .int w5v), (4, .null), (0, .ref 164), (1, .int a), (2, .int w1x2)]) (zml mf124 (by decide)) rfl (c := w5v) w5e rfl ?_
          refine zs_goto (pc := 45) t124_45 ?_
          refine zGo.locals (ls' := [(0, .ref 164), (1, .int a), (2, .int w1x2), (3, .int w5v)]) (by simp) ?_
          exact w1ih (w1m - 1) (by omega) w1x2 w5v ⟨by omega, by omega⟩ ⟨by omega, by omega⟩ (by omega) (by omega)
        · refine zs_icmp_geF (pc := 9) t126_9 rfl rfl (by omega) ?_
          refine zs_aload_n (pc := 12) t126_12 rfl ?_
          refine zs_get (pc := 13) t126_13 (by decide) (zk1 (hs.k fk_zMc_165)) (hs.p rfl fv_zMc_165_1) ?_
          refine zs_iload_n (pc := 16) t126_16 rfl ?_
          obtain ⟨w6n, w6⟩ : ∃ n : Nat, w1x3.toInt = (n : Int) := ⟨w1x3.toInt.toNat, by omega⟩
          have w7 : w6n < 20 := by omega
          refine zs_aald (pc := 17) t126_17 (j := w6n) (Or.inr (zk1 (hs.k fk_zMc_179))) w6 (zk2 (hs.k fk_zMc_179) (by omega)) (hs.a (fpT181 w6n w7)) ?_
          refine zs_goto (pc := 18) t126_18 ?_
          refine zs_aret (pc := 22) t126_22 (by rw [mr126]; rfl) ?_
          show zGo X l 1 0 0 124 23 [(0, .ref 164), (1, .int a), (2, .int w1x2), (3, .int w1x3)] [.ref (181 + 3 * w6n)] M _
          refine zs_astore (pc := 23) t124_23 (ls' := [(4, .ref (181 + 3 * w6n)), (0, .ref 164), (1, .int a), (2, .int w1x2), (3, .int w1x3)]) (zml mf124 (by decide)) rfl ?_
          refine zs_aload (pc := 25) t124_25 rfl ?_
          refine zs_ifnullF (pc := 27) t124_27 ?_
          refine zs_aload (pc := 30) t124_30 rfl ?_
          have w8 := ibT181_0_3 hI w7
          refine zs_get (pc := 32) t124_32 (by decide) (zk1 (hs.k (fT181_0 w6n w7))) (zfvi rfl rfl) ?_
          refine zs_iload_n (pc := 35) t124_35 rfl ?_
          by_cases w9 : (zI M (181 + 3 * w6n) 3).toInt < a.toInt
          · refine zs_icmp_ltT (pc := 36) t124_36 rfl rfl (by omega) ?_
            obtain ⟨w10v, w10e, w10⟩ := ziadd (a := w1x3) (b := Int32.ofInt 1) rfl (show (Int32.ofInt 1).toInt = 1 by decide) (by omega) (by omega)
            refine zs_iinc (pc := 42) t124_42 (ls' := [(3, .int w10v), (4, .ref (181 + 3 * w6n)), (0, .ref 164), (1, .int a), (2, .int w1x2)]) (zml mf124 (by decide)) rfl (c := w10v) w10e rfl ?_
            refine zs_goto (pc := 45) t124_45 ?_
            refine zGo.locals (ls' := [(0, .ref 164), (1, .int a), (2, .int w1x2), (3, .int w10v)]) (by simp) ?_
            exact w1ih (w1m - 1) (by omega) w1x2 w10v ⟨by omega, by omega⟩ ⟨by omega, by omega⟩ (by omega) (by omega)
          · refine zs_icmp_ltF (pc := 36) t124_36 rfl rfl (by omega) ?_
            obtain ⟨w11v, w11e, w11⟩ := ziadd (a := w1x2) (b := Int32.ofInt 1) rfl (show (Int32.ofInt 1).toInt = 1 by decide) (by omega) (by omega)
            refine zs_iinc (pc := 39) t124_39 (ls' := [(2, .int w11v), (4, .ref (181 + 3 * w6n)), (0, .ref 164), (1, .int a), (3, .int w1x3)]) (zml mf124 (by decide)) rfl (c := w11v) w11e rfl ?_
            obtain ⟨w12v, w12e, w12⟩ := ziadd (a := w1x3) (b := Int32.ofInt 1) rfl (show (Int32.ofInt 1).toInt = 1 by decide) (by omega) (by omega)
            refine zs_iinc (pc := 42) t124_42 (ls' := [(3, .int w12v), (2, .int w11v), (4, .ref (181 + 3 * w6n)), (0, .ref 164), (1, .int a)]) (zml mf124 (by decide)) rfl (c := w12v) w12e rfl ?_
            refine zs_goto (pc := 45) t124_45 ?_
            refine zGo.locals (ls' := [(0, .ref 164), (1, .int a), (2, .int w11v), (3, .int w12v)]) (by simp) ?_
            exact w1ih (w1m - 1) (by omega) w11v w12v ⟨by omega, by omega⟩ ⟨by omega, by omega⟩ (by omega) (by omega)
  refine zGo.locals (ls' := [(0, .ref 164), (1, .int a), (2, .int (0 : Int32)), (3, .int (0 : Int32))]) (by simp) ?_
  have w13 := li0
  have w14 := li0
  exact w1L ((20 - 0 : Int).toNat) (0 : Int32) (0 : Int32) ⟨by decide, by decide⟩ ⟨by decide, by decide⟩ (by omega) (by omega)
theorem C129_164_7 {X : zX} {l : Launch} {M : zM} {Q : Option Value → zM → Prop} {a b : Int32} (hs : zSk zMc M) (hI : zIv cLo cHi M) (hb : 0 ≤ b.toInt ∧ b.toInt ≤ 19) (hQ : ∀ M', zSk zMc M' → zIv cLo cHi M' → zFr [(317, 317, none), (319, 319, none)] M M' → Q none M') : zCall X l 1 0 0 129 [.ref 164, .ref 7, .int a, .int b] M Q := by
  have ga := zrg a
  have gb := zrg b
  refine zs_in (by decide) mf129 (Nat.le_of_ble_eq_true rfl) ?_
  show zGo X l 1 0 0 129 0 [(0, .ref 164), (1, .ref 7), (2, .int a), (3, .int b)] [] M _
  refine zs_aload_n (pc := 0) t129_0 rfl ?_
  refine zs_iload_n (pc := 1) t129_1 rfl ?_
  refine zs_invV (pc := 2) (k := 7) (as' := [.int a]) (st := []) t129_2 mf91 rfl rfl (Or.inl ⟨by decide, (zk1 (hs.k fk_zMc_7))⟩) ⟨by decide, by decide, Nat.le_of_ble_eq_true rfl, Nat.le_of_ble_eq_true rfl⟩ (zs_in (by decide) mf91 (Nat.le_of_ble_eq_true rfl) ?_) (fun _ _ q => q)
  show zGo X l 0 0 0 91 0 [(0, .ref 7), (1, .int a)] [] M _
  refine zs_iload_n (pc := 0) t91_0 rfl ?_
  by_cases w1 : a.toInt < 0
  · refine zs_if_ltT (pc := 1) t91_1 rfl (by omega) ?_
    refine zs_iconst (pc := 16) t91_16 (v := 0) (by decide) ?_
    refine zs_iret (pc := 17) t91_17 mr91 (by decide) ?_
    show zGo X l 1 0 0 129 5 [(0, .ref 164), (1, .ref 7), (2, .int a), (3, .int b)] [.int (0 : Int32)] M _
    refine zs_if_neF (pc := 5) t129_5 li0 (by decide) ?_
    exact zs_vret (pc := 8) t129_8 mr129 (hQ _ hs hI (zFr.refl))
  · refine zs_if_ltF (pc := 1) t91_1 rfl (by omega) ?_
    refine zs_iload_n (pc := 4) t91_4 rfl ?_
    refine zs_aload_n (pc := 5) t91_5 rfl ?_
    have w2 := ib7_3 hI
    refine zs_get (pc := 6) t91_6 (by decide) (zk1 (hs.k fk_zMc_7)) (zfvi rfl rfl) ?_
    by_cases w3 : (zI M 7 3).toInt ≤ a.toInt
    · refine zs_icmp_geT (pc := 9) t91_9 rfl rfl (by omega) ?_
      refine zs_iconst (pc := 16) t91_16 (v := 0) (by decide) ?_
      refine zs_iret (pc := 17) t91_17 mr91 (by decide) ?_
      show zGo X l 1 0 0 129 5 [(0, .ref 164), (1, .ref 7), (2, .int a), (3, .int b)] [.int (0 : Int32)] M _
      refine zs_if_neF (pc := 5) t129_5 li0 (by decide) ?_
      exact zs_vret (pc := 8) t129_8 mr129 (hQ _ hs hI (zFr.refl))
    · refine zs_icmp_geF (pc := 9) t91_9 rfl rfl (by omega) ?_
      refine zs_iconst (pc := 12) t91_12 (v := 1) (by decide) ?_
      refine zs_goto (pc := 13) t91_13 ?_
      refine zs_iret (pc := 17) t91_17 mr91 (by decide) ?_
      show zGo X l 1 0 0 129 5 [(0, .ref 164), (1, .ref 7), (2, .int a), (3, .int b)] [.int (1 : Int32)] M _
      refine zs_if_neT (pc := 5) t129_5 li1 (by decide) ?_
      refine zs_iload_n (pc := 9) t129_9 rfl ?_
      refine zs_aload_n (pc := 10) t129_10 rfl ?_
      have w4 := ib164_4 hI
      refine zs_get (pc := 11) t129_11 (by decide) (zk1 (hs.k fk_zMc_164)) (zfvi rfl rfl) ?_
      by_cases w5 : (zI M 164 4).toInt ≤ b.toInt
      · refine zs_icmp_geT (pc := 14) t129_14 rfl rfl (by omega) ?_
        refine zs_aload_n (pc := 24) t129_24 rfl ?_
        refine zs_get (pc := 25) t129_25 (by decide) (zk1 (hs.k fk_zMc_7)) (hs.p rfl fv_zMc_7_7) ?_
        refine zs_iload_n (pc := 28) t129_28 rfl ?_
        obtain ⟨w6n, w6⟩ : ∃ n : Nat, a.toInt = (n : Int) := ⟨a.toInt.toNat, by omega⟩
        have w7 := ib13 hI w6n
        refine zs_iald (pc := 29) t129_29 (j := w6n) (by decide) (zk1 (hs.k fk_zMc_13)) w6 (zk2 (hs.k fk_zMc_13) (by omega)) rfl ?_
        refine zs_istore (pc := 30) t129_30 (ls' := [(4, .int (zI M 13 w6n)), (0, .ref 164), (1, .ref 7), (2, .int a), (3, .int b)]) (zml mf129 (by decide)) rfl ?_
        refine zs_aload_n (pc := 32) t129_32 rfl ?_
        refine zs_iload (pc := 33) t129_33 rfl ?_
        refine zs_invV (pc := 35) (k := 7) (as' := [.int (zI M 13 w6n)]) (st := []) t129_35 mf130 rfl rfl (Or.inl ⟨by decide, (zk1 (hs.k fk_zMc_7))⟩) ⟨by decide, by decide, Nat.le_of_ble_eq_true rfl, Nat.le_of_ble_eq_true rfl⟩ (zs_in (by decide) mf130 (Nat.le_of_ble_eq_true rfl) ?_) (fun _ _ q => q)
        show zGo X l 0 0 0 130 0 [(0, .ref 7), (1, .int (zI M 13 w6n))] [] M _
        refine zs_iload_n (pc := 0) t130_0 rfl ?_
        by_cases w8 : (zI M 13 w6n).toInt < 0
        · refine zs_if_ltT (pc := 1) t130_1 rfl (by omega) ?_
          refine zs_iconst (pc := 16) t130_16 (v := 0) (by decide) ?_
          refine zs_iret (pc := 17) t130_17 mr130 (by decide) ?_
          show zGo X l 1 0 0 129 38 [(4, .int (zI M 13 w6n)), (0, .ref 164), (1, .ref 7), (2, .int a), (3, .int b)] [.int (0 : Int32)] M _
          refine zs_if_eqT (pc := 38) t129_38 li0 (by decide) ?_
          exact zs_vret (pc := 57) t129_57 mr129 (hQ _ hs hI (zFr.refl))
        · refine zs_if_ltF (pc := 1) t130_1 rfl (by omega) ?_
          refine zs_iload_n (pc := 4) t130_4 rfl ?_
          refine zs_aload_n (pc := 5) t130_5 rfl ?_
          have w9 := ib7_8 hI
          refine zs_get (pc := 6) t130_6 (by decide) (zk1 (hs.k fk_zMc_7)) (zfvi rfl rfl) ?_
          by_cases w10 : (zI M 7 8).toInt ≤ (zI M 13 w6n).toInt
          · refine zs_icmp_geT (pc := 9) t130_9 rfl rfl (by omega) ?_
            refine zs_iconst (pc := 16) t130_16 (v := 0) (by decide) ?_
            refine zs_iret (pc := 17) t130_17 mr130 (by decide) ?_
            show zGo X l 1 0 0 129 38 [(4, .int (zI M 13 w6n)), (0, .ref 164), (1, .ref 7), (2, .int a), (3, .int b)] [.int (0 : Int32)] M _
            refine zs_if_eqT (pc := 38) t129_38 li0 (by decide) ?_
            exact zs_vret (pc := 57) t129_57 mr129 (hQ _ hs hI (zFr.refl))
          · refine zs_icmp_geF (pc := 9) t130_9 rfl rfl (by omega) ?_
            refine zs_iconst (pc := 12) t130_12 (v := 1) (by decide) ?_
            refine zs_goto (pc := 13) t130_13 ?_
            refine zs_iret (pc := 17) t130_17 mr130 (by decide) ?_
            show zGo X l 1 0 0 129 38 [(4, .int (zI M 13 w6n)), (0, .ref 164), (1, .ref 7), (2, .int a), (3, .int b)] [.int (1 : Int32)] M _
            refine zs_if_eqF (pc := 38) t129_38 li1 (by decide) ?_
            refine zs_aload_n (pc := 41) t129_41 rfl ?_
            refine zs_get (pc := 42) t129_42 (by decide) (zk1 (hs.k fk_zMc_164)) (hs.p rfl fv_zMc_164_8) ?_
            refine zs_iload (pc := 45) t129_45 rfl ?_
            refine zs_bipush (pc := 47) t129_47 (v := 20) (by decide) ?_
            obtain ⟨w11v, w11⟩ : ∃ v, (zI M 13 w6n) * (20 : Int32) = v := ⟨_, rfl⟩
            have w11g : w11v.toInt = (zI M 13 w6n).toInt * 20 := by rw [← w11]; exact zmulc rfl li20 (by omega) (by omega)
            refine zs_imul (pc := 49) t129_49 (c := w11v) w11 ?_
            refine zs_iload_n (pc := 50) t129_50 rfl ?_
            obtain ⟨w12v, w12e, w12⟩ := ziadd (a := w11v) (b := b) rfl rfl (by omega) (by omega)
            refine zs_iadd (pc := 51) t129_51 (c := w12v) w12e ?_
            refine zs_dup2 (pc := 52) t129_52 ⟨rfl, rfl⟩ ?_
            obtain ⟨w13n, w13⟩ : ∃ n : Nat, w12v.toInt = (n : Int) := ⟨w12v.toInt.toNat, by omega⟩
            have w14 := ib319 hI w13n
            refine zs_iald (pc := 53) t129_53 (j := w13n) (by decide) (zk1 (hs.k fk_zMc_319)) w13 (zk2 (hs.k fk_zMc_319) (by omega)) rfl ?_
            refine zs_iconst (pc := 54) t129_54 (v := 1) (by decide) ?_
            obtain ⟨w15v, w15⟩ : ∃ v, v = (zI M 319 w13n) + (1 : Int32) := ⟨_, rfl⟩
            have w15g := zrg w15v
            refine zs_iadd (pc := 55) t129_55 (c := w15v) w15.symm ?_
            have w16 : zIv cLo cHi (zsI M 319 w13n w15v) := zIv.put hI (show (-2147483648) ≤ w15v.toInt ∧ w15v.toInt ≤ 2147483647 from (zrg w15v))
            refine zs_iast (pc := 56) t129_56 (j := w13n) (by decide) (zk1 (hs.k fk_zMc_319)) w13 (zk2 (hs.k fk_zMc_319) (by omega)) ?_
            exact zs_vret (pc := 57) t129_57 mr129 (hQ _ hs w16 ((zFr.refl).put rfl))
      · refine zs_icmp_geF (pc := 14) t129_14 rfl rfl (by omega) ?_
        refine zs_aload_n (pc := 17) t129_17 rfl ?_
        refine zs_get (pc := 18) t129_18 (by decide) (zk1 (hs.k fk_zMc_164)) (hs.p rfl fv_zMc_164_6) ?_
        refine zs_iload_n (pc := 21) t129_21 rfl ?_
        refine zs_iload_n (pc := 22) t129_22 rfl ?_
        obtain ⟨w17n, w17⟩ : ∃ n : Nat, a.toInt = (n : Int) := ⟨a.toInt.toNat, by omega⟩
        have w18 : zIv cLo cHi (zsI M 317 w17n b) := zIv.put hI (show (-2147483648) ≤ b.toInt ∧ b.toInt ≤ 2147483647 from (zrg b))
        refine zs_iast (pc := 23) t129_23 (j := w17n) (by decide) (zk1 (hs.k fk_zMc_317)) w17 (zk2 (hs.k fk_zMc_317) (by omega)) ?_
        refine zs_aload_n (pc := 24) t129_24 rfl ?_
        refine zs_get (pc := 25) t129_25 (by decide) (zk1 (hs.k fk_zMc_7)) (hs.p rfl fv_zMc_7_7) ?_
        refine zs_iload_n (pc := 28) t129_28 rfl ?_
        have w19 := ib13 hI w17n
        refine zs_iald (pc := 29) t129_29 (j := w17n) (by decide) (zk1 (hs.k fk_zMc_13)) w17 (zk2 (hs.k fk_zMc_13) (by omega)) ((zIo (by decide)).trans rfl) ?_
        refine zs_istore (pc := 30) t129_30 (ls' := [(4, .int (zI M 13 w17n)), (0, .ref 164), (1, .ref 7), (2, .int a), (3, .int b)]) (zml mf129 (by decide)) rfl ?_
        refine zs_aload_n (pc := 32) t129_32 rfl ?_
        refine zs_iload (pc := 33) t129_33 rfl ?_
        refine zs_invV (pc := 35) (k := 7) (as' := [.int (zI M 13 w17n)]) (st := []) t129_35 mf130 rfl rfl (Or.inl ⟨by decide, (zk1 (hs.k fk_zMc_7))⟩) ⟨by decide, by decide, Nat.le_of_ble_eq_true rfl, Nat.le_of_ble_eq_true rfl⟩ (zs_in (by decide) mf130 (Nat.le_of_ble_eq_true rfl) ?_) (fun _ _ q => q)
        show zGo X l 0 0 0 130 0 [(0, .ref 7), (1, .int (zI M 13 w17n))] [] (zsI M 317 w17n b) _
        refine zs_iload_n (pc := 0) t130_0 rfl ?_
        by_cases w20 : (zI M 13 w17n).toInt < 0
        · refine zs_if_ltT (pc := 1) t130_1 rfl (by omega) ?_
          refine zs_iconst (pc := 16) t130_16 (v := 0) (by decide) ?_
          refine zs_iret (pc := 17) t130_17 mr130 (by decide) ?_
          show zGo X l 1 0 0 129 38 [(4, .int (zI M 13 w17n)), (0, .ref 164), (1, .ref 7), (2, .int a), (3, .int b)] [.int (0 : Int32)] (zsI M 317 w17n b) _
          refine zs_if_eqT (pc := 38) t129_38 li0 (by decide) ?_
          exact zs_vret (pc := 57) t129_57 mr129 (hQ _ hs w18 ((zFr.refl).put rfl))
        · refine zs_if_ltF (pc := 1) t130_1 rfl (by omega) ?_
          refine zs_iload_n (pc := 4) t130_4 rfl ?_
          refine zs_aload_n (pc := 5) t130_5 rfl ?_
          have w21 := ib7_8 hI
          refine zs_get (pc := 6) t130_6 (by decide) (zk1 (hs.k fk_zMc_7)) (zfvi rfl ((zIo (by decide)).trans rfl)) ?_
          by_cases w22 : (zI M 7 8).toInt ≤ (zI M 13 w17n).toInt
          · refine zs_icmp_geT (pc := 9) t130_9 rfl rfl (by omega) ?_
            refine zs_iconst (pc := 16) t130_16 (v := 0) (by decide) ?_
            refine zs_iret (pc := 17) t130_17 mr130 (by decide) ?_
            show zGo X l 1 0 0 129 38 [(4, .int (zI M 13 w17n)), (0, .ref 164), (1, .ref 7), (2, .int a), (3, .int b)] [.int (0 : Int32)] (zsI M 317 w17n b) _
            refine zs_if_eqT (pc := 38) t129_38 li0 (by decide) ?_
            exact zs_vret (pc := 57) t129_57 mr129 (hQ _ hs w18 ((zFr.refl).put rfl))
          · refine zs_icmp_geF (pc := 9) t130_9 rfl rfl (by omega) ?_
            refine zs_iconst (pc := 12) t130_12 (v := 1) (by decide) ?_
            refine zs_goto (pc := 13) t130_13 ?_
            refine zs_iret (pc := 17) t130_17 mr130 (by decide) ?_
            show zGo X l 1 0 0 129 38 [(4, .int (zI M 13 w17n)), (0, .ref 164), (1, .ref 7), (2, .int a), (3, .int b)] [.int (1 : Int32)] (zsI M 317 w17n b) _
            refine zs_if_eqF (pc := 38) t129_38 li1 (by decide) ?_
            refine zs_aload_n (pc := 41) t129_41 rfl ?_
            refine zs_get (pc := 42) t129_42 (by decide) (zk1 (hs.k fk_zMc_164)) (hs.p rfl fv_zMc_164_8) ?_
            refine zs_iload (pc := 45) t129_45 rfl ?_
            refine zs_bipush (pc := 47) t129_47 (v := 20) (by decide) ?_
            obtain ⟨w23v, w23⟩ : ∃ v, (zI M 13 w17n) * (20 : Int32) = v := ⟨_, rfl⟩
            have w23g : w23v.toInt = (zI M 13 w17n).toInt * 20 := by rw [← w23]; exact zmulc rfl li20 (by omega) (by omega)
            refine zs_imul (pc := 49) t129_49 (c := w23v) w23 ?_
            refine zs_iload_n (pc := 50) t129_50 rfl ?_
            obtain ⟨w24v, w24e, w24⟩ := ziadd (a := w23v) (b := b) rfl rfl (by omega) (by omega)
            refine zs_iadd (pc := 51) t129_51 (c := w24v) w24e ?_
            refine zs_dup2 (pc := 52) t129_52 ⟨rfl, rfl⟩ ?_
            obtain ⟨w25n, w25⟩ : ∃ n : Nat, w24v.toInt = (n : Int) := ⟨w24v.toInt.toNat, by omega⟩
            have w26 := ib319 hI w25n
            refine zs_iald (pc := 53) t129_53 (j := w25n) (by decide) (zk1 (hs.k fk_zMc_319)) w25 (zk2 (hs.k fk_zMc_319) (by omega)) ((zIo (by decide)).trans rfl) ?_
            refine zs_iconst (pc := 54) t129_54 (v := 1) (by decide) ?_
            obtain ⟨w27v, w27⟩ : ∃ v, v = (zI M 319 w25n) + (1 : Int32) := ⟨_, rfl⟩
            have w27g := zrg w27v
            refine zs_iadd (pc := 55) t129_55 (c := w27v) w27.symm ?_
            have w28 : zIv cLo cHi (zsI (zsI M 317 w17n b) 319 w25n w27v) := zIv.put w18 (show (-2147483648) ≤ w27v.toInt ∧ w27v.toInt ≤ 2147483647 from (zrg w27v))
            refine zs_iast (pc := 56) t129_56 (j := w25n) (by decide) (zk1 (hs.k fk_zMc_319)) w25 (zk2 (hs.k fk_zMc_319) (by omega)) ?_
            exact zs_vret (pc := 57) t129_57 mr129 (hQ _ hs w28 (((zFr.refl).put rfl).put rfl))
