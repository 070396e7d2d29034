theorem C92_7 {X : zX} {l : Launch} {M : zM} {Q : Option Value → zM → Prop} (hs : zSk zMc M) (hI : zIv cLo cHi M) (hQ : ∀ v : Int32, (-2147483648) ≤ v.toInt → v.toInt ≤ 2147483647 → Q (some (.int v)) M) : zCall X l 2 0 0 92 [.ref 7] M Q := by
  refine zs_in (by decide) mf92 (Nat.le_of_ble_eq_true rfl) ?_
  show zGo X l 2 0 0 92 0 [(0, .ref 7)] [] M _
  refine zs_iconst (pc := 0) t92_0 (v := 0) (by decide) ?_
  refine zs_istore_n (pc := 1) t92_1 (ls' := [(1, .int (0 : Int32)), (0, .ref 7)]) (zml mf92 (by decide)) rfl ?_
  refine zs_iconst (pc := 2) t92_2 (v := 0) (by decide) ?_
  refine zs_istore_n (pc := 3) t92_3 (ls' := [(2, .int (0 : Int32)), (1, .int (0 : Int32)), (0, .ref 7)]) (zml mf92 (by decide)) rfl ?_
  have w1L : ∀ (m : Nat) (w1x1 : Int32) (w1x2 : Int32), (0 ≤ w1x2.toInt ∧ w1x2.toInt ≤ 60) → 60 - w1x2.toInt ≤ (m : Int) → zGo X l 2 0 0 92 4 [(0, .ref 7), (1, .int w1x1), (2, .int w1x2)] [] M Q := by
    intro m
    induction m using Nat.strongRecOn with
    | ind w1m w1ih =>
      intro w1x1 w1x2 w1b2 w1q
      have w1g1 := zrg w1x1
      refine zs_iload_n (pc := 4) t92_4 rfl ?_
      refine zs_aload_n (pc := 5) t92_5 rfl ?_
      have w2 := ib7_3 hI
      refine zs_get (pc := 6) t92_6 (by decide) (zk1 (hs.k fk_zMc_7)) (zfvi rfl rfl) ?_
      by_cases w3 : (zI M 7 3).toInt ≤ w1x2.toInt
      · refine zs_icmp_geT (pc := 9) t92_9 rfl rfl (by omega) ?_
        refine zs_iload_n (pc := 29) t92_29 rfl ?_
        exact zs_iret (pc := 30) t92_30 mr92 rfl (hQ _ (by omega) (by omega))
      · refine zs_icmp_geF (pc := 9) t92_9 rfl rfl (by omega) ?_
        refine zs_aload_n (pc := 12) t92_12 rfl ?_
        refine zs_iload_n (pc := 13) t92_13 rfl ?_
        refine zs_invV (pc := 14) (k := 7) (as' := [.int w1x2]) (st := []) t92_14 mf93 rfl rfl (Or.inl ⟨by decide, (zk1 (hs.k fk_zMc_7))⟩) ⟨by decide, by decide, Nat.le_of_ble_eq_true rfl, Nat.le_of_ble_eq_true rfl⟩ (zs_in (by decide) mf93 (Nat.le_of_ble_eq_true rfl) ?_) (fun _ _ q => q)
        show zGo X l 1 0 0 93 0 [(0, .ref 7), (1, .int w1x2)] [] M _
        refine zs_aload_n (pc := 0) t93_0 rfl ?_
        refine zs_iload_n (pc := 1) t93_1 rfl ?_
        refine zs_invV (pc := 2) (k := 7) (as' := [.int w1x2]) (st := []) t93_2 mf91 rfl rfl (Or.inl ⟨by decide, (zk1 (hs.k fk_zMc_7))⟩) ⟨by decide, by decide, Nat.le_of_ble_eq_true rfl, Nat.le_of_ble_eq_true rfl⟩ (zs_in (by decide) mf91 (Nat.le_of_ble_eq_true rfl) ?_) (fun _ _ q => q)
        show zGo X l 0 0 0 91 0 [(0, .ref 7), (1, .int w1x2)] [] M _
        refine zs_iload_n (pc := 0) t91_0 rfl ?_
        refine zs_if_ltF (pc := 1) t91_1 rfl (by omega) ?_
        refine zs_iload_n (pc := 4) t91_4 rfl ?_
        refine zs_aload_n (pc := 5) t91_5 rfl ?_
        refine zs_get (pc := 6) t91_6 (by decide) (zk1 (hs.k fk_zMc_7)) (zfvi rfl rfl) ?_
        by_cases w4 : (zI M 7 3).toInt ≤ w1x2.toInt
        · refine zs_icmp_geT (pc := 9) t91_9 rfl rfl (by omega) ?_
          refine zs_iconst (pc := 16) t91_16 (v := 0) (by decide) ?_
          refine zs_iret (pc := 17) t91_17 mr91 (by decide) ?_
          show zGo X l 1 0 0 93 5 [(0, .ref 7), (1, .int w1x2)] [.int (0 : Int32)] M _
          refine zs_if_eqT (pc := 5) t93_5 li0 (by decide) ?_
          refine zs_iconst (pc := 51) t93_51 (v := 0) (by decide) ?_
          refine zs_iret (pc := 52) t93_52 mr93 (by decide) ?_
          show zGo X l 2 0 0 92 17 [(0, .ref 7), (1, .int w1x1), (2, .int w1x2)] [.int (0 : Int32)] M _
          refine zs_if_eqT (pc := 17) t92_17 li0 (by decide) ?_
          obtain ⟨w5v, w5e, w5⟩ := ziadd (a := w1x2) (b := Int32.ofInt 1) rfl (show (Int32.ofInt 1).toInt = 1 by decide) (by omega) (by omega)
          refine zs_iinc (pc := 23) t92_23 (ls' := [(2, .int w5v), (0, .ref 7), (1, .int w1x1)]) (zml mf92 (by decide)) rfl (c := w5v) w5e rfl ?_
          refine zs_goto (pc := 26) t92_26 ?_
          refine zGo.locals (ls' := [(0, .ref 7), (1, .int w1x1), (2, .int w5v)]) (by simp) ?_
          exact w1ih (w1m - 1) (by omega) w1x1 w5v ⟨by omega, by omega⟩ (by omega)
        · refine zs_icmp_geF (pc := 9) t91_9 rfl rfl (by omega) ?_
          refine zs_iconst (pc := 12) t91_12 (v := 1) (by decide) ?_
          refine zs_goto (pc := 13) t91_13 ?_
          refine zs_iret (pc := 17) t91_17 mr91 (by decide) ?_
          show zGo X l 1 0 0 93 5 [(0, .ref 7), (1, .int w1x2)] [.int (1 : Int32)] M _
          refine zs_if_eqF (pc := 5) t93_5 li1 (by decide) ?_
          refine zs_aload_n (pc := 8) t93_8 rfl ?_
          refine zs_get (pc := 9) t93_9 (by decide) (zk1 (hs.k fk_zMc_7)) (hs.p rfl fv_zMc_7_2) ?_
          refine zs_aload_n (pc := 12) t93_12 rfl ?_
          refine zs_get (pc := 13) t93_13 (by decide) (zk1 (hs.k fk_zMc_7)) (hs.p rfl fv_zMc_7_4) ?_
          refine zs_iload_n (pc := 16) t93_16 rfl ?_
          obtain ⟨w6n, w6⟩ : ∃ n : Nat, w1x2.toInt = (n : Int) := ⟨w1x2.toInt.toNat, by omega⟩
          have w7 := ib10 hI w6n
          refine zs_iald (pc := 17) t93_17 (j := w6n) (by decide) (zk1 (hs.k fk_zMc_10)) w6 (zk2 (hs.k fk_zMc_10) (by omega)) rfl ?_
          obtain ⟨w8n, w8⟩ : ∃ n : Nat, (zI M 10 w6n).toInt = (n : Int) := ⟨(zI M 10 w6n).toInt.toNat, by omega⟩
          have w9 := ib9 hI w8n
          refine zs_bald (pc := 18) t93_18 (j := w8n) (Or.inr (zk1 (hs.k fk_zMc_9))) w8 (zk2 (hs.k fk_zMc_9) (by omega)) rfl ?_
          by_cases w10 : (zI M 9 w8n).toInt = 0
          · refine zs_if_eqT (pc := 19) t93_19 rfl (by omega) ?_
            refine zs_iconst (pc := 51) t93_51 (v := 0) (by decide) ?_
            refine zs_iret (pc := 52) t93_52 mr93 (by decide) ?_
            show zGo X l 2 0 0 92 17 [(0, .ref 7), (1, .int w1x1), (2, .int w1x2)] [.int (0 : Int32)] M _
            refine zs_if_eqT (pc := 17) t92_17 li0 (by decide) ?_
            obtain ⟨w11v, w11e, w11⟩ := ziadd (a := w1x2) (b := Int32.ofInt 1) rfl (show (Int32.ofInt 1).toInt = 1 by decide) (by omega) (by omega)
            refine zs_iinc (pc := 23) t92_23 (ls' := [(2, .int w11v), (0, .ref 7), (1, .int w1x1)]) (zml mf92 (by decide)) rfl (c := w11v) w11e rfl ?_
            refine zs_goto (pc := 26) t92_26 ?_
            refine zGo.locals (ls' := [(0, .ref 7), (1, .int w1x1), (2, .int w11v)]) (by simp) ?_
            exact w1ih (w1m - 1) (by omega) w1x1 w11v ⟨by omega, by omega⟩ (by omega)
          · refine zs_if_eqF (pc := 19) t93_19 rfl (by omega) ?_
            refine zs_aload_n (pc := 22) t93_22 rfl ?_
            refine zs_get (pc := 23) t93_23 (by decide) (zk1 (hs.k fk_zMc_7)) (hs.p rfl fv_zMc_7_6) ?_
            refine zs_iload_n (pc := 26) t93_26 rfl ?_
            obtain ⟨w12n, w12⟩ : ∃ n : Nat, w1x2.toInt = (n : Int) := ⟨w1x2.toInt.toNat, by omega⟩
            have w13 := ib12 hI w12n
            refine zs_iald (pc := 27) t93_27 (j := w12n) (by decide) (zk1 (hs.k fk_zMc_12)) w12 (zk2 (hs.k fk_zMc_12) (by omega)) rfl ?_
            refine zs_aload_n (pc := 28) t93_28 rfl ?_
            refine zs_get (pc := 29) t93_29 (by decide) (zk1 (hs.k fk_zMc_7)) (hs.p rfl fv_zMc_7_12) ?_
            refine zs_iconst (pc := 32) t93_32 (v := 5) (by decide) ?_
            have w14 := ib17 hI 5
            refine zs_iald (pc := 33) t93_33 (j := 5) (by decide) (zk1 (hs.k fk_zMc_17)) li5 (zk2 (hs.k fk_zMc_17) (by decide)) rfl ?_
            refine zs_aload_n (pc := 34) t93_34 rfl ?_
            refine zs_get (pc := 35) t93_35 (by decide) (zk1 (hs.k fk_zMc_7)) (hs.p rfl fv_zMc_7_12) ?_
            refine zs_bipush (pc := 38) t93_38 (v := 6) (by decide) ?_
            have w15 := ib17 hI 6
            refine zs_iald (pc := 40) t93_40 (j := 6) (by decide) (zk1 (hs.k fk_zMc_17)) li6 (zk2 (hs.k fk_zMc_17) (by decide)) rfl ?_
            refine zs_invS (pc := 41) (as := [.int (zI M 12 w12n), .int (zI M 17 5), .int (zI M 17 6)]) (st := []) t93_41 (by decide) mf39 rfl rfl ⟨by decide, by decide, Nat.le_of_ble_eq_true rfl, Nat.le_of_ble_eq_true rfl⟩ (zs_in (by decide) mf39 (Nat.le_of_ble_eq_true rfl) ?_) (fun _ _ q => q)
            show zGo X l 0 0 0 39 0 [(0, .int (zI M 12 w12n)), (1, .int (zI M 17 5)), (2, .int (zI M 17 6))] [] M _
            refine zs_iload_n (pc := 0) t39_0 rfl ?_
            refine zs_iload_n (pc := 1) t39_1 rfl ?_
            by_cases w16 : (zI M 12 w12n).toInt < (zI M 17 5).toInt
            · refine zs_icmp_ltT (pc := 2) t39_2 rfl rfl (by omega) ?_
              refine zs_iconst (pc := 14) t39_14 (v := 0) (by decide) ?_
              refine zs_iret (pc := 15) t39_15 mr39 (by decide) ?_
              show zGo X l 1 0 0 93 44 [(0, .ref 7), (1, .int w1x2)] [.int (0 : Int32)] M _
              refine zs_if_eqT (pc := 44) t93_44 li0 (by decide) ?_
              refine zs_iconst (pc := 51) t93_51 (v := 0) (by decide) ?_
              refine zs_iret (pc := 52) t93_52 mr93 (by decide) ?_
              show zGo X l 2 0 0 92 17 [(0, .ref 7), (1, .int w1x1), (2, .int w1x2)] [.int (0 : Int32)] M _
              refine zs_if_eqT (pc := 17) t92_17 li0 (by decide) ?_
              obtain ⟨w17v, w17e, w17⟩ := ziadd (a := w1x2) (b := Int32.ofInt 1) rfl (show (Int32.ofInt 1).toInt = 1 by decide) (by omega) (by omega)
              refine zs_iinc (pc := 23) t92_23 (ls' := [(2, .int w17v), (0, .ref 7), (1, .int w1x1)]) (zml mf92 (by decide)) rfl (c := w17v) w17e rfl ?_
              refine zs_goto (pc := 26) t92_26 ?_
              refine zGo.locals (ls' := [(0, .ref 7), (1, .int w1x1), (2, .int w17v)]) (by simp) ?_
              exact w1ih (w1m - 1) (by omega) w1x1 w17v ⟨by omega, by omega⟩ (by omega)
            · refine zs_icmp_ltF (pc := 2) t39_2 rfl rfl (by omega) ?_
              refine zs_iload_n (pc := 5) t39_5 rfl ?_
              refine zs_iload_n (pc := 6) t39_6 rfl ?_
              by_cases w18 : (zI M 17 6).toInt < (zI M 12 w12n).toInt
              · refine zs_icmp_gtT (pc := 7) t39_7 rfl rfl (by omega) ?_
                refine zs_iconst (pc := 14) t39_14 (v := 0) (by decide) ?_
                refine zs_iret (pc := 15) t39_15 mr39 (by decide) ?_
                show zGo X l 1 0 0 93 44 [(0, .ref 7), (1, .int w1x2)] [.int (0 : Int32)] M _
                refine zs_if_eqT (pc := 44) t93_44 li0 (by decide) ?_
                refine zs_iconst (pc := 51) t93_51 (v := 0) (by decide) ?_
                refine zs_iret (pc := 52) t93_52 mr93 (by decide) ?_
                show zGo X l 2 0 0 92 17 [(0, .ref 7), (1, .int w1x1), (2, .int w1x2)] [.int (0 : Int32)] M _
                refine zs_if_eqT (pc := 17) t92_17 li0 (by decide) ?_
                obtain ⟨w19v, w19e, w19⟩ := ziadd (a := w1x2) (b := Int32.ofInt 1) rfl (show (Int32.ofInt 1).toInt = 1 by decide) (by omega) (by omega)
                refine zs_iinc (pc := 23) t92_23 (ls' := [(2, .int w19v), (0, .ref 7), (1, .int w1x1)]) (zml mf92 (by decide)) rfl (c := w19v) w19e rfl ?_
                refine zs_goto (pc := 26) t92_26 ?_
                refine zGo.locals (ls' := [(0, .ref 7), (1, .int w1x1), (2, .int w19v)]) (by simp) ?_
                exact w1ih (w1m - 1) (by omega) w1x1 w19v ⟨by omega, by omega⟩ (by omega)
              · refine zs_icmp_gtF (pc := 7) t39_7 rfl rfl (by omega) ?_
                refine zs_iconst (pc := 10) t39_10 (v := 1) (by decide) ?_
                refine zs_goto (pc := 11) t39_11 ?_
                refine zs_iret (pc := 15) t39_15 mr39 (by decide) ?_
                show zGo X l 1 0 0 93 44 [(0, .ref 7), (1, .int w1x2)] [.int (1 : Int32)] M _
                refine zs_if_eqF (pc := 44) t93_44 li1 (by decide) ?_
                refine zs_iconst (pc := 47) t93_47 (v := 1) (by decide) ?_
                refine zs_goto (pc := 48) t93_48 ?_
                refine zs_iret (pc := 52) t93_52 mr93 (by decide) ?_
                show zGo X l 2 0 0 92 17 [(0, .ref 7), (1, .int w1x1), (2, .int w1x2)] [.int (1 : Int32)] M _
                refine zs_if_eqF (pc := 17) t92_17 li1 (by decide) ?_
                obtain ⟨w20v, w20e⟩ : ∃ v, w1x1 + Int32.ofInt 1 = v := ⟨_, rfl⟩
                have w20 := zrg w20v
                refine zs_iinc (pc := 20) t92_20 (ls' := [(1, .int w20v), (0, .ref 7), (2, .int w1x2)]) (zml mf92 (by decide)) rfl (c := w20v) w20e rfl ?_
                obtain ⟨w21v, w21e, w21⟩ := ziadd (a := w1x2) (b := Int32.ofInt 1) rfl (show (Int32.ofInt 1).toInt = 1 by decide) (by omega) (by omega)
                refine zs_iinc (pc := 23) t92_23 (ls' := [(2, .int w21v), (1, .int w20v), (0, .ref 7)]) (zml mf92 (by decide)) rfl (c := w21v) w21e rfl ?_
                refine zs_goto (pc := 26) t92_26 ?_
                refine zGo.locals (ls' := [(0, .ref 7), (1, .int w20v), (2, .int w21v)]) (by simp) ?_
                exact w1ih (w1m - 1) (by omega) w20v w21v ⟨by omega, by omega⟩ (by omega)
  refine zGo.locals (ls' := [(0, .ref 7), (1, .int (0 : Int32)), (2, .int (0 : Int32))]) (by simp) ?_
  have w22 := li0
  have w23 := li0
  exact w1L ((60 - 0 : Int).toNat) (0 : Int32) (0 : Int32) ⟨by decide, by decide⟩ (by omega)
theorem C100_7 {X : zX} {l : Launch} {M : zM} {Q : Option Value → zM → Prop} (hs : zSk zMc M) (hI : zIv cLo cHi M) (hQ : ∀ v : Int32, (-2147483648) ≤ v.toInt → v.toInt ≤ 2147483647 → Q (some (.int v)) M) : zCall X l 0 0 0 100 [.ref 7] M Q := by
  refine zs_in (by decide) mf100 (Nat.le_of_ble_eq_true rfl) ?_
  show zGo X l 0 0 0 100 0 [(0, .ref 7)] [] M _
  refine zs_iconst (pc := 0) t100_0 (v := 0) (by decide) ?_
  refine zs_istore_n (pc := 1) t100_1 (ls' := [(1, .int (0 : Int32)), (0, .ref 7)]) (zml mf100 (by decide)) rfl ?_
  refine zs_iconst (pc := 2) t100_2 (v := 0) (by decide) ?_
  refine zs_istore_n (pc := 3) t100_3 (ls' := [(2, .int (0 : Int32)), (1, .int (0 : Int32)), (0, .ref 7)]) (zml mf100 (by decide)) rfl ?_
  have w1L : ∀ (m : Nat) (w1x1 : Int32) (w1x2 : Int32), (0 ≤ w1x2.toInt ∧ w1x2.toInt ≤ 8) → 8 - w1x2.toInt ≤ (m : Int) → zGo X l 0 0 0 100 4 [(0, .ref 7), (1, .int w1x1), (2, .int w1x2)] [] M Q := by
    intro m
    induction m using Nat.strongRecOn with
    | ind w1m w1ih =>
      intro w1x1 w1x2 w1b2 w1q
      have w1g1 := zrg w1x1
      refine zs_iload_n (pc := 4) t100_4 rfl ?_
      refine zs_aload_n (pc := 5) t100_5 rfl ?_
      have w2 := ib7_0 hI
      refine zs_get (pc := 6) t100_6 (by decide) (zk1 (hs.k fk_zMc_7)) (zfvi rfl rfl) ?_
      by_cases w3 : (zI M 7 0).toInt ≤ w1x2.toInt
      · refine zs_icmp_geT (pc := 9) t100_9 rfl rfl (by omega) ?_
        refine zs_iload_n (pc := 30) t100_30 rfl ?_
        exact zs_iret (pc := 31) t100_31 mr100 rfl (hQ _ (by omega) (by omega))
      · refine zs_icmp_geF (pc := 9) t100_9 rfl rfl (by omega) ?_
        refine zs_aload_n (pc := 12) t100_12 rfl ?_
        refine zs_get (pc := 13) t100_13 (by decide) (zk1 (hs.k fk_zMc_7)) (hs.p rfl fv_zMc_7_2) ?_
        refine zs_iload_n (pc := 16) t100_16 rfl ?_
        obtain ⟨w4n, w4⟩ : ∃ n : Nat, w1x2.toInt = (n : Int) := ⟨w1x2.toInt.toNat, by omega⟩
        have w5 := ib9 hI w4n
        refine zs_bald (pc := 17) t100_17 (j := w4n) (Or.inr (zk1 (hs.k fk_zMc_9))) w4 (zk2 (hs.k fk_zMc_9) (by omega)) rfl ?_
        by_cases w6 : (zI M 9 w4n).toInt = 0
        · refine zs_if_eqT (pc := 18) t100_18 rfl (by omega) ?_
          obtain ⟨w7v, w7e, w7⟩ := ziadd (a := w1x2) (b := Int32.ofInt 1) rfl (show (Int32.ofInt 1).toInt = 1 by decide) (by omega) (by omega)
          refine zs_iinc (pc := 24) t100_24 (ls' := [(2, .int w7v), (0, .ref 7), (1, .int w1x1)]) (zml mf100 (by decide)) rfl (c := w7v) w7e rfl ?_
          refine zs_goto (pc := 27) t100_27 ?_
          refine zGo.locals (ls' := [(0, .ref 7), (1, .int w1x1), (2, .int w7v)]) (by simp) ?_
          exact w1ih (w1m - 1) (by omega) w1x1 w7v ⟨by omega, by omega⟩ (by omega)
        · refine zs_if_eqF (pc := 18) t100_18 rfl (by omega) ?_
          obtain ⟨w8v, w8e⟩ : ∃ v, w1x1 + Int32.ofInt 1 = v := ⟨_, rfl⟩
          have w8 := zrg w8v
          refine zs_iinc (pc := 21) t100_21 (ls' := [(1, .int w8v), (0, .ref 7), (2, .int w1x2)]) (zml mf100 (by decide)) rfl (c := w8v) w8e rfl ?_
          obtain ⟨w9v, w9e, w9⟩ := ziadd (a := w1x2) (b := Int32.ofInt 1) rfl (show (Int32.ofInt 1).toInt = 1 by decide) (by omega) (by omega)
          refine zs_iinc (pc := 24) t100_24 (ls' := [(2, .int w9v), (1, .int w8v), (0, .ref 7)]) (zml mf100 (by decide)) rfl (c := w9v) w9e rfl ?_
          refine zs_goto (pc := 27) t100_27 ?_
          refine zGo.locals (ls' := [(0, .ref 7), (1, .int w8v), (2, .int w9v)]) (by simp) ?_
          exact w1ih (w1m - 1) (by omega) w8v w9v ⟨by omega, by omega⟩ (by omega)
  refine zGo.locals (ls' := [(0, .ref 7), (1, .int (0 : Int32)), (2, .int (0 : Int32))]) (by simp) ?_
  have w10 := li0
  have w11 := li0
  exact w1L ((8 - 0 : Int).toNat) (0 : Int32) (0 : Int32) ⟨by decide, by decide⟩ (by omega)
theorem C103_7 {X : zX} {l : Launch} {M : zM} {Q : Option Value → zM → Prop} {a : Int32} (hs : zSk zMc M) (hI : zIv cLo cHi M) (hQ : ∀ v : Int32, (-2147483648) ≤ v.toInt → v.toInt ≤ 2147483647 → Q (some (.int v)) M) : zCall X l 2 0 0 103 [.ref 7, .int a] M Q := by
  have ga := zrg a
  refine zs_in (by decide) mf103 (Nat.le_of_ble_eq_true rfl) ?_
  show zGo X l 2 0 0 103 0 [(0, .ref 7), (1, .int a)] [] M _
  refine zs_iconst (pc := 0) t103_0 (v := 0) (by decide) ?_
  refine zs_istore_n (pc := 1) t103_1 (ls' := [(2, .int (0 : Int32)), (0, .ref 7), (1, .int a)]) (zml mf103 (by decide)) rfl ?_
  refine zs_iconst (pc := 2) t103_2 (v := 0) (by decide) ?_
  refine zs_istore_n (pc := 3) t103_3 (ls' := [(3, .int (0 : Int32)), (2, .int (0 : Int32)), (0, .ref 7), (1, .int a)]) (zml mf103 (by decide)) rfl ?_
  have w1L : ∀ (m : Nat) (w1x2 : Int32) (w1x3 : Int32), (0 ≤ w1x3.toInt ∧ w1x3.toInt ≤ 60) → 60 - w1x3.toInt ≤ (m : Int) → zGo X l 2 0 0 103 4 [(0, .ref 7), (1, .int a), (2, .int w1x2), (3, .int w1x3)] [] M Q := by
    intro m
    induction m using Nat.strongRecOn with
    | ind w1m w1ih =>
      intro w1x2 w1x3 w1b3 w1q
      have w1g2 := zrg w1x2
      refine zs_iload_n (pc := 4) t103_4 rfl ?_
      refine zs_aload_n (pc := 5) t103_5 rfl ?_
      have w2 := ib7_3 hI
      refine zs_get (pc := 6) t103_6 (by decide) (zk1 (hs.k fk_zMc_7)) (zfvi rfl rfl) ?_
      by_cases w3 : (zI M 7 3).toInt ≤ w1x3.toInt
      · refine zs_icmp_geT (pc := 9) t103_9 rfl rfl (by omega) ?_
        refine zs_iload_n (pc := 39) t103_39 rfl ?_
        exact zs_iret (pc := 40) t103_40 mr103 rfl (hQ _ (by omega) (by omega))
      · refine zs_icmp_geF (pc := 9) t103_9 rfl rfl (by omega) ?_
        refine zs_aload_n (pc := 12) t103_12 rfl ?_
        refine zs_get (pc := 13) t103_13 (by decide) (zk1 (hs.k fk_zMc_7)) (hs.p rfl fv_zMc_7_4) ?_
        refine zs_iload_n (pc := 16) t103_16 rfl ?_
        obtain ⟨w4n, w4⟩ : ∃ n : Nat, w1x3.toInt = (n : Int) := ⟨w1x3.toInt.toNat, by omega⟩
        have w5 := ib10 hI w4n
        refine zs_iald (pc := 17) t103_17 (j := w4n) (by decide) (zk1 (hs.k fk_zMc_10)) w4 (zk2 (hs.k fk_zMc_10) (by omega)) rfl ?_
        refine zs_iload_n (pc := 18) t103_18 rfl ?_
        by_cases w6 : (zI M 10 w4n).toInt ≠ a.toInt
        · refine zs_icmp_neT (pc := 19) t103_19 rfl rfl (by omega) ?_
          obtain ⟨w7v, w7e, w7⟩ := ziadd (a := w1x3) (b := Int32.ofInt 1) rfl (show (Int32.ofInt 1).toInt = 1 by decide) (by omega) (by omega)
          refine zs_iinc (pc := 33) t103_33 (ls' := [(3, .int w7v), (0, .ref 7), (1, .int a), (2, .int w1x2)]) (zml mf103 (by decide)) rfl (c := w7v) w7e rfl ?_
          refine zs_goto (pc := 36) t103_36 ?_
          refine zGo.locals (ls' := [(0, .ref 7), (1, .int a), (2, .int w1x2), (3, .int w7v)]) (by simp) ?_
          exact w1ih (w1m - 1) (by omega) w1x2 w7v ⟨by omega, by omega⟩ (by omega)
        · refine zs_icmp_neF (pc := 19) t103_19 rfl rfl (by omega) ?_
          refine zs_aload_n (pc := 22) t103_22 rfl ?_
          refine zs_iload_n (pc := 23) t103_23 rfl ?_
          refine zs_invV (pc := 24) (k := 7) (as' := [.int w1x3]) (st := []) t103_24 mf93 rfl rfl (Or.inl ⟨by decide, (zk1 (hs.k fk_zMc_7))⟩) ⟨by decide, by decide, Nat.le_of_ble_eq_true rfl, Nat.le_of_ble_eq_true rfl⟩ (zs_in (by decide) mf93 (Nat.le_of_ble_eq_true rfl) ?_) (fun _ _ q => q)
          show zGo X l 1 0 0 93 0 [(0, .ref 7), (1, .int w1x3)] [] M _
          refine zs_aload_n (pc := 0) t93_0 rfl ?_
          refine zs_iload_n (pc := 1) t93_1 rfl ?_
          refine zs_invV (pc := 2) (k := 7) (as' := [.int w1x3]) (st := []) t93_2 mf91 rfl rfl (Or.inl ⟨by decide, (zk1 (hs.k fk_zMc_7))⟩) ⟨by decide, by decide, Nat.le_of_ble_eq_true rfl, Nat.le_of_ble_eq_true rfl⟩ (zs_in (by decide) mf91 (Nat.le_of_ble_eq_true rfl) ?_) (fun _ _ q => q)
          show zGo X l 0 0 0 91 0 [(0, .ref 7), (1, .int w1x3)] [] M _
          refine zs_iload_n (pc := 0) t91_0 rfl ?_
          refine zs_if_ltF (pc := 1) t91_1 rfl (by omega) ?_
          refine zs_iload_n (pc := 4) t91_4 rfl ?_
          refine zs_aload_n (pc := 5) t91_5 rfl ?_
          refine zs_get (pc := 6) t91_6 (by decide) (zk1 (hs.k fk_zMc_7)) (zfvi rfl rfl) ?_
          by_cases w8 : (zI M 7 3).toInt ≤ w1x3.toInt
          · refine zs_icmp_geT (pc := 9) t91_9 rfl rfl (by omega) ?_
            refine zs_iconst (pc := 16) t91_16 (v := 0) (by decide) ?_
            refine zs_iret (pc := 17) t91_17 mr91 (by decide) ?_
            show zGo X l 1 0 0 93 5 [(0, .ref 7), (1, .int w1x3)] [.int (0 : Int32)] M _
            refine zs_if_eqT (pc := 5) t93_5 li0 (by decide) ?_
            refine zs_iconst (pc := 51) t93_51 (v := 0) (by decide) ?_
            refine zs_iret (pc := 52) t93_52 mr93 (by decide) ?_
            show zGo X l 2 0 0 103 27 [(0, .ref 7), (1, .int a), (2, .int w1x2), (3, .int w1x3)] [.int (0 : Int32)] M _
            refine zs_if_eqT (pc := 27) t103_27 li0 (by decide) ?_
            obtain ⟨w9v, w9e, w9⟩ := ziadd (a := w1x3) (b := Int32.ofInt 1) rfl (show (Int32.ofInt 1).toInt = 1 by decide) (by omega) (by omega)
            refine zs_iinc (pc := 33) t103_33 (ls' := [(3, .int w9v), (0, .ref 7), (1, .int a), (2, .int w1x2)]) (zml mf103 (by decide)) rfl (c := w9v) w9e rfl ?_
            refine zs_goto (pc := 36) t103_36 ?_
            refine zGo.locals (ls' := [(0, .ref 7), (1, .int a), (2, .int w1x2), (3, .int w9v)]) (by simp) ?_
            exact w1ih (w1m - 1) (by omega) w1x2 w9v ⟨by omega, by omega⟩ (by omega)
          · refine zs_icmp_geF (pc := 9) t91_9 rfl rfl (by omega) ?_
            refine zs_iconst (pc := 12) t91_12 (v := 1) (by decide) ?_
            refine zs_goto (pc := 13) t91_13 ?_
            refine zs_iret (pc := 17) t91_17 mr91 (by decide) ?_
            show zGo X l 1 0 0 93 5 [(0, .ref 7), (1, .int w1x3)] [.int (1 : Int32)] M _
            refine zs_if_eqF (pc := 5) t93_5 li1 (by decide) ?_
            refine zs_aload_n (pc := 8) t93_8 rfl ?_
            refine zs_get (pc := 9) t93_9 (by decide) (zk1 (hs.k fk_zMc_7)) (hs.p rfl fv_zMc_7_2) ?_
            refine zs_aload_n (pc := 12) t93_12 rfl ?_
            refine zs_get (pc := 13) t93_13 (by decide) (zk1 (hs.k fk_zMc_7)) (hs.p rfl fv_zMc_7_4) ?_
            refine zs_iload_n (pc := 16) t93_16 rfl ?_
            obtain ⟨w10n, w10⟩ : ∃ n : Nat, w1x3.toInt = (n : Int) := ⟨w1x3.toInt.toNat, by omega⟩
            have w11 := ib10 hI w10n
            refine zs_iald (pc := 17) t93_17 (j := w10n) (by decide) (zk1 (hs.k fk_zMc_10)) w10 (zk2 (hs.k fk_zMc_10) (by omega)) rfl ?_
            obtain ⟨w12n, w12⟩ : ∃ n : Nat, (zI M 10 w10n).toInt = (n : Int) := ⟨(zI M 10 w10n).toInt.toNat, by omega⟩
            have w13 := ib9 hI w12n
            refine zs_bald (pc := 18) t93_18 (j := w12n) (Or.inr (zk1 (hs.k fk_zMc_9))) w12 (zk2 (hs.k fk_zMc_9) (by omega)) rfl ?_
            by_cases w14 : (zI M 9 w12n).toInt = 0
            · refine zs_if_eqT (pc := 19) t93_19 rfl (by omega) ?_
              refine zs_iconst (pc := 51) t93_51 (v := 0) (by decide) ?_
              refine zs_iret (pc := 52) t93_52 mr93 (by decide) ?_
              show zGo X l 2 0 0 103 27 [(0, .ref 7), (1, .int a), (2, .int w1x2), (3, .int w1x3)] [.int (0 : Int32)] M _
              refine zs_if_eqT (pc := 27) t103_27 li0 (by decide) ?_
              obtain ⟨w15v, w15e, w15⟩ := ziadd (a := w1x3) (b := Int32.ofInt 1) rfl (show (Int32.ofInt 1).toInt = 1 by decide) (by omega) (by omega)
              refine zs_iinc (pc := 33) t103_33 (ls' := [(3, .int w15v), (0, .ref 7), (1, .int a), (2, .int w1x2)]) (zml mf103 (by decide)) rfl (c := w15v) w15e rfl ?_
              refine zs_goto (pc := 36) t103_36 ?_
              refine zGo.locals (ls' := [(0, .ref 7), (1, .int a), (2, .int w1x2), (3, .int w15v)]) (by simp) ?_
              exact w1ih (w1m - 1) (by omega) w1x2 w15v ⟨by omega, by omega⟩ (by omega)
            · refine zs_if_eqF (pc := 19) t93_19 rfl (by omega) ?_
              refine zs_aload_n (pc := 22) t93_22 rfl ?_
              refine zs_get (pc := 23) t93_23 (by decide) (zk1 (hs.k fk_zMc_7)) (hs.p rfl fv_zMc_7_6) ?_
              refine zs_iload_n (pc := 26) t93_26 rfl ?_
              obtain ⟨w16n, w16⟩ : ∃ n : Nat, w1x3.toInt = (n : Int) := ⟨w1x3.toInt.toNat, by omega⟩
              have w17 := ib12 hI w16n
              refine zs_iald (pc := 27) t93_27 (j := w16n) (by decide) (zk1 (hs.k fk_zMc_12)) w16 (zk2 (hs.k fk_zMc_12) (by omega)) rfl ?_
              refine zs_aload_n (pc := 28) t93_28 rfl ?_
              refine zs_get (pc := 29) t93_29 (by decide) (zk1 (hs.k fk_zMc_7)) (hs.p rfl fv_zMc_7_12) ?_
              refine zs_iconst (pc := 32) t93_32 (v := 5) (by decide) ?_
              have w18 := ib17 hI 5
              refine zs_iald (pc := 33) t93_33 (j := 5) (by decide) (zk1 (hs.k fk_zMc_17)) li5 (zk2 (hs.k fk_zMc_17) (by decide)) rfl ?_
              refine zs_aload_n (pc := 34) t93_34 rfl ?_
              refine zs_get (pc := 35) t93_35 (by decide) (zk1 (hs.k fk_zMc_7)) (hs.p rfl fv_zMc_7_12) ?_
              refine zs_bipush (pc := 38) t93_38 (v := 6) (by decide) ?_
              have w19 := ib17 hI 6
              refine zs_iald (pc := 40) t93_40 (j := 6) (by decide) (zk1 (hs.k fk_zMc_17)) li6 (zk2 (hs.k fk_zMc_17) (by decide)) rfl ?_
              refine zs_invS (pc := 41) (as := [.int (zI M 12 w16n), .int (zI M 17 5), .int (zI M 17 6)]) (st := []) t93_41 (by decide) mf39 rfl rfl ⟨by decide, by decide, Nat.le_of_ble_eq_true rfl, Nat.le_of_ble_eq_true rfl⟩ (zs_in (by decide) mf39 (Nat.le_of_ble_eq_true rfl) ?_) (fun _ _ q => q)
              show zGo X l 0 0 0 39 0 [(0, .int (zI M 12 w16n)), (1, .int (zI M 17 5)), (2, .int (zI M 17 6))] [] M _
              refine zs_iload_n (pc := 0) t39_0 rfl ?_
              refine zs_iload_n (pc := 1) t39_1 rfl ?_
              by_cases w20 : (zI M 12 w16n).toInt < (zI M 17 5).toInt
              · refine zs_icmp_ltT (pc := 2) t39_2 rfl rfl (by omega) ?_
                refine zs_iconst (pc := 14) t39_14 (v := 0) (by decide) ?_
                refine zs_iret (pc := 15) t39_15 mr39 (by decide) ?_
                show zGo X l 1 0 0 93 44 [(0, .ref 7), (1, .int w1x3)] [.int (0 : Int32)] M _
                refine zs_if_eqT (pc := 44) t93_44 li0 (by decide) ?_
                refine zs_iconst (pc := 51) t93_51 (v := 0) (by decide) ?_
                refine zs_iret (pc := 52) t93_52 mr93 (by decide) ?_
                show zGo X l 2 0 0 103 27 [(0, .ref 7), (1, .int a), (2, .int w1x2), (3, .int w1x3)] [.int (0 : Int32)] M _
                refine zs_if_eqT (pc := 27) t103_27 li0 (by decide) ?_
                obtain ⟨w21v, w21e, w21⟩ := ziadd (a := w1x3) (b := Int32.ofInt 1) rfl (show (Int32.ofInt 1).toInt = 1 by decide) (by omega) (by omega)
                refine zs_iinc (pc := 33) t103_33 (ls' := [(3, .int w21v), (0, .ref 7), (1, .int a), (2, .int w1x2)]) (zml mf103 (by decide)) rfl (c := w21v) w21e rfl ?_
                refine zs_goto (pc := 36) t103_36 ?_
                refine zGo.locals (ls' := [(0, .ref 7), (1, .int a), (2, .int w1x2), (3, .int w21v)]) (by simp) ?_
                exact w1ih (w1m - 1) (by omega) w1x2 w21v ⟨by omega, by omega⟩ (by omega)
              · refine zs_icmp_ltF (pc := 2) t39_2 rfl rfl (by omega) ?_
                refine zs_iload_n (pc := 5) t39_5 rfl ?_
                refine zs_iload_n (pc := 6) t39_6 rfl ?_
                by_cases w22 : (zI M 17 6).toInt < (zI M 12 w16n).toInt
                · refine zs_icmp_gtT (pc := 7) t39_7 rfl rfl (by omega) ?_
                  refine zs_iconst (pc := 14) t39_14 (v := 0) (by decide) ?_
                  refine zs_iret (pc := 15) t39_15 mr39 (by decide) ?_
                  show zGo X l 1 0 0 93 44 [(0, .ref 7), (1, .int w1x3)] [.int (0 : Int32)] M _
                  refine zs_if_eqT (pc := 44) t93_44 li0 (by decide) ?_
                  refine zs_iconst (pc := 51) t93_51 (v := 0) (by decide) ?_
                  refine zs_iret (pc := 52) t93_52 mr93 (by decide) ?_
                  show zGo X l 2 0 0 103 27 [(0, .ref 7), (1, .int a), (2, .int w1x2), (3, .int w1x3)] [.int (0 : Int32)] M _
                  refine zs_if_eqT (pc := 27) t103_27 li0 (by decide) ?_
                  obtain ⟨w23v, w23e, w23⟩ := ziadd (a := w1x3) (b := Int32.ofInt 1) rfl (show (Int32.ofInt 1).toInt = 1 by decide) (by omega) (by omega)
                  refine zs_iinc (pc := 33) t103_33 (ls' := [(3, .int w23v), (0, .ref 7), (1, .int a), (2, .int w1x2)]) (zml mf103 (by decide)) rfl (c := w23v) w23e rfl ?_
                  refine zs_goto (pc := 36) t103_36 ?_
                  refine zGo.locals (ls' := [(0, .ref 7), (1, .int a), (2, .int w1x2), (3, .int w23v)]) (by simp) ?_
                  exact w1ih (w1m - 1) (by omega) w1x2 w23v ⟨by omega, by omega⟩ (by omega)
                · refine zs_icmp_gtF (pc := 7) t39_7 rfl rfl (by omega) ?_
                  refine zs_iconst (pc := 10) t39_10 (v := 1) (by decide) ?_
                  refine zs_goto (pc := 11) t39_11 ?_
                  refine zs_iret (pc := 15) t39_15 mr39 (by decide) ?_
                  show zGo X l 1 0 0 93 44 [(0, .ref 7), (1, .int w1x3)] [.int (1 : Int32)] M _
                  refine zs_if_eqF (pc := 44) t93_44 li1 (by decide) ?_
                  refine zs_iconst (pc := 47) t93_47 (v := 1) (by decide) ?_
                  refine zs_goto (pc := 48) t93_48 ?_
                  refine zs_iret (pc := 52) t93_52 mr93 (by decide) ?_
                  show zGo X l 2 0 0 103 27 [(0, .ref 7), (1, .int a), (2, .int w1x2), (3, .int w1x3)] [.int (1 : Int32)] M _
                  refine zs_if_eqF (pc := 27) t103_27 li1 (by decide) ?_
                  obtain ⟨w24v, w24e⟩ : ∃ v, w1x2 + Int32.ofInt 1 = v := ⟨_, rfl⟩
                  have w24 := zrg w24v
                  refine zs_iinc (pc := 30) t103_30 (ls' := [(2, .int w24v), (0, .ref 7), (1, .int a), (3, .int w1x3)]) (zml mf103 (by decide)) rfl (c := w24v) w24e rfl ?_
                  obtain ⟨w25v, w25e, w25⟩ := ziadd (a := w1x3) (b := Int32.ofInt 1) rfl (show (Int32.ofInt 1).toInt = 1 by decide) (by omega) (by omega)
                  refine zs_iinc (pc := 33) t103_33 (ls' := [(3, .int w25v), (2, .int w24v), (0, .ref 7), (1, .int a)]) (zml mf103 (by decide)) rfl (c := w25v) w25e rfl ?_
                  refine zs_goto (pc := 36) t103_36 ?_
                  refine zGo.locals (ls' := [(0, .ref 7), (1, .int a), (2, .int w24v), (3, .int w25v)]) (by simp) ?_
                  exact w1ih (w1m - 1) (by omega) w24v w25v ⟨by omega, by omega⟩ (by omega)
  refine zGo.locals (ls' := [(0, .ref 7), (1, .int a), (2, .int (0 : Int32)), (3, .int (0 : Int32))]) (by simp) ?_
  have w26 := li0
  have w27 := li0
  exact w1L ((60 - 0 : Int).toNat) (0 : Int32) (0 : Int32) ⟨by decide, by decide⟩ (by omega)
theorem C128_7 {X : zX} {l : Launch} {M : zM} {Q : Option Value → zM → Prop} {a : Int32} (hs : zSk zMc M) (hI : zIv cLo cHi M) (hQ : ∀ v : Int32, (-2147483648) ≤ v.toInt → v.toInt ≤ 2147483647 → Q (some (.int v)) M) : zCall X l 2 0 0 128 [.ref 7, .int a] M Q := by
  have ga := zrg a
  refine zs_in (by decide) mf128 (Nat.le_of_ble_eq_true rfl) ?_
  show zGo X l 2 0 0 128 0 [(0, .ref 7), (1, .int a)] [] M _
  refine zs_iconst (pc := 0) t128_0 (v := 0) (by decide) ?_
  refine zs_istore_n (pc := 1) t128_1 (ls' := [(2, .int (0 : Int32)), (0, .ref 7), (1, .int a)]) (zml mf128 (by decide)) rfl ?_
  refine zs_iconst (pc := 2) t128_2 (v := 0) (by decide) ?_
  refine zs_istore_n (pc := 3) t128_3 (ls' := [(3, .int (0 : Int32)), (2, .int (0 : Int32)), (0, .ref 7), (1, .int a)]) (zml mf128 (by decide)) rfl ?_
  have w1L : ∀ (m : Nat) (w1x2 : Int32) (w1x3 : Int32), (0 ≤ w1x3.toInt ∧ w1x3.toInt ≤ 60) → 60 - w1x3.toInt ≤ (m : Int) → zGo X l 2 0 0 128 4 [(0, .ref 7), (1, .int a), (2, .int w1x2), (3, .int w1x3)] [] M Q := by
    intro m
    induction m using Nat.strongRecOn with
    | ind w1m w1ih =>
      intro w1x2 w1x3 w1b3 w1q
      have w1g2 := zrg w1x2
      refine zs_iload_n (pc := 4) t128_4 rfl ?_
      refine zs_aload_n (pc := 5) t128_5 rfl ?_
      have w2 := ib7_3 hI
      refine zs_get (pc := 6) t128_6 (by decide) (zk1 (hs.k fk_zMc_7)) (zfvi rfl rfl) ?_
      by_cases w3 : (zI M 7 3).toInt ≤ w1x3.toInt
      · refine zs_icmp_geT (pc := 9) t128_9 rfl rfl (by omega) ?_
        refine zs_iload_n (pc := 39) t128_39 rfl ?_
        exact zs_iret (pc := 40) t128_40 mr128 rfl (hQ _ (by omega) (by omega))
      · refine zs_icmp_geF (pc := 9) t128_9 rfl rfl (by omega) ?_
        refine zs_aload_n (pc := 12) t128_12 rfl ?_
        refine zs_get (pc := 13) t128_13 (by decide) (zk1 (hs.k fk_zMc_7)) (hs.p rfl fv_zMc_7_7) ?_
        refine zs_iload_n (pc := 16) t128_16 rfl ?_
        obtain ⟨w4n, w4⟩ : ∃ n : Nat, w1x3.toInt = (n : Int) := ⟨w1x3.toInt.toNat, by omega⟩
        have w5 := ib13 hI w4n
        refine zs_iald (pc := 17) t128_17 (j := w4n) (by decide) (zk1 (hs.k fk_zMc_13)) w4 (zk2 (hs.k fk_zMc_13) (by omega)) rfl ?_
        refine zs_iload_n (pc := 18) t128_18 rfl ?_
        by_cases w6 : (zI M 13 w4n).toInt ≠ a.toInt
        · refine zs_icmp_neT (pc := 19) t128_19 rfl rfl (by omega) ?_
          obtain ⟨w7v, w7e, w7⟩ := ziadd (a := w1x3) (b := Int32.ofInt 1) rfl (show (Int32.ofInt 1).toInt = 1 by decide) (by omega) (by omega)
          refine zs_iinc (pc := 33) t128_33 (ls' := [(3, .int w7v), (0, .ref 7), (1, .int a), (2, .int w1x2)]) (zml mf128 (by decide)) rfl (c := w7v) w7e rfl ?_
          refine zs_goto (pc := 36) t128_36 ?_
          refine zGo.locals (ls' := [(0, .ref 7), (1, .int a), (2, .int w1x2), (3, .int w7v)]) (by simp) ?_
          exact w1ih (w1m - 1) (by omega) w1x2 w7v ⟨by omega, by omega⟩ (by omega)
        · refine zs_icmp_neF (pc := 19) t128_19 rfl rfl (by omega) ?_
          refine zs_aload_n (pc := 22) t128_22 rfl ?_
          refine zs_iload_n (pc := 23) t128_23 rfl ?_
          refine zs_invV (pc := 24) (k := 7) (as' := [.int w1x3]) (st := []) t128_24 mf93 rfl rfl (Or.inl ⟨by decide, (zk1 (hs.k fk_zMc_7))⟩) ⟨by decide, by decide, Nat.le_of_ble_eq_true rfl, Nat.le_of_ble_eq_true rfl⟩ (zs_in (by decide) mf93 (Nat.le_of_ble_eq_true rfl) ?_) (fun _ _ q => q)
          show zGo X l 1 0 0 93 0 [(0, .ref 7), (1, .int w1x3)] [] M _
          refine zs_aload_n (pc := 0) t93_0 rfl ?_
          refine zs_iload_n (pc := 1) t93_1 rfl ?_
          refine zs_invV (pc := 2) (k := 7) (as' := [.int w1x3]) (st := []) t93_2 mf91 rfl rfl (Or.inl ⟨by decide, (zk1 (hs.k fk_zMc_7))⟩) ⟨by decide, by decide, Nat.le_of_ble_eq_true rfl, Nat.le_of_ble_eq_true rfl⟩ (zs_in (by decide) mf91 (Nat.le_of_ble_eq_true rfl) ?_) (fun _ _ q => q)
          show zGo X l 0 0 0 91 0 [(0, .ref 7), (1, .int w1x3)] [] M _
          refine zs_iload_n (pc := 0) t91_0 rfl ?_
          refine zs_if_ltF (pc := 1) t91_1 rfl (by omega) ?_
          refine zs_iload_n (pc := 4) t91_4 rfl ?_
          refine zs_aload_n (pc := 5) t91_5 rfl ?_
          refine zs_get (pc := 6) t91_6 (by decide) (zk1 (hs.k fk_zMc_7)) (zfvi rfl rfl) ?_
          by_cases w8 : (zI M 7 3).toInt ≤ w1x3.toInt
          · refine zs_icmp_geT (pc := 9) t91_9 rfl rfl (by omega) ?_
            refine zs_iconst (pc := 16) t91_16 (v := 0) (by decide) ?_
            refine zs_iret (pc := 17) t91_17 mr91 (by decide) ?_
            show zGo X l 1 0 0 93 5 [(0, .ref 7), (1, .int w1x3)] [.int (0 : Int32)] M _
            refine zs_if_eqT (pc := 5) t93_5 li0 (by decide) ?_
            refine zs_iconst (pc := 51) t93_51 (v := 0) (by decide) ?_
            refine zs_iret (pc := 52) t93_52 mr93 (by decide) ?_
            show zGo X l 2 0 0 128 27 [(0, .ref 7), (1, .int a), (2, .int w1x2), (3, .int w1x3)] [.int (0 : Int32)] M _
            refine zs_if_eqT (pc := 27) t128_27 li0 (by decide) ?_
            obtain ⟨w9v, w9e, w9⟩ := ziadd (a := w1x3) (b := Int32.ofInt 1) rfl (show (Int32.ofInt 1).toInt = 1 by decide) (by omega) (by omega)
            refine zs_iinc (pc := 33) t128_33 (ls' := [(3, .int w9v), (0, .ref 7), (1, .int a), (2, .int w1x2)]) (zml mf128 (by decide)) rfl (c := w9v) w9e rfl ?_
            refine zs_goto (pc := 36) t128_36 ?_
            refine zGo.locals (ls' := [(0, .ref 7), (1, .int a), (2, .int w1x2), (3, .int w9v)]) (by simp) ?_
            exact w1ih (w1m - 1) (by omega) w1x2 w9v ⟨by omega, by omega⟩ (by omega)
          · refine zs_icmp_geF (pc := 9) t91_9 rfl rfl (by omega) ?_
            refine zs_iconst (pc := 12) t91_12 (v := 1) (by decide) ?_
            refine zs_goto (pc := 13) t91_13 ?_
            refine zs_iret (pc := 17) t91_17 mr91 (by decide) ?_
            show zGo X l 1 0 0 93 5 [(0, .ref 7), (1, .int w1x3)] [.int (1 : Int32)] M _
            refine zs_if_eqF (pc := 5) t93_5 li1 (by decide) ?_
            refine zs_aload_n (pc := 8) t93_8 rfl ?_
            refine zs_get (pc := 9) t93_9 (by decide) (zk1 (hs.k fk_zMc_7)) (hs.p rfl fv_zMc_7_2) ?_
            refine zs_aload_n (pc := 12) t93_12 rfl ?_
            refine zs_get (pc := 13) t93_13 (by decide) (zk1 (hs.k fk_zMc_7)) (hs.p rfl fv_zMc_7_4) ?_
            refine zs_iload_n (pc := 16) t93_16 rfl ?_
            obtain ⟨w10n, w10⟩ : ∃ n : Nat, w1x3.toInt = (n : Int) := ⟨w1x3.toInt.toNat, by omega⟩
            have w11 := ib10 hI w10n
            refine zs_iald (pc := 17) t93_17 (j := w10n) (by decide) (zk1 (hs.k fk_zMc_10)) w10 (zk2 (hs.k fk_zMc_10) (by omega)) rfl ?_
            obtain ⟨w12n, w12⟩ : ∃ n : Nat, (zI M 10 w10n).toInt = (n : Int) := ⟨(zI M 10 w10n).toInt.toNat, by omega⟩
            have w13 := ib9 hI w12n
            refine zs_bald (pc := 18) t93_18 (j := w12n) (Or.inr (zk1 (hs.k fk_zMc_9))) w12 (zk2 (hs.k fk_zMc_9) (by omega)) rfl ?_
            by_cases w14 : (zI M 9 w12n).toInt = 0
            · refine zs_if_eqT (pc := 19) t93_19 rfl (by omega) ?_
              refine zs_iconst (pc := 51) t93_51 (v := 0) (by decide) ?_
              refine zs_iret (pc := 52) t93_52 mr93 (by decide) ?_
              show zGo X l 2 0 0 128 27 [(0, .ref 7), (1, .int a), (2, .int w1x2), (3, .int w1x3)] [.int (0 : Int32)] M _
              refine zs_if_eqT (pc := 27) t128_27 li0 (by decide) ?_
              obtain ⟨w15v, w15e, w15⟩ := ziadd (a := w1x3) (b := Int32.ofInt 1) rfl (show (Int32.ofInt 1).toInt = 1 by decide) (by omega) (by omega)
              refine zs_iinc (pc := 33) t128_33 (ls' := [(3, .int w15v), (0, .ref 7), (1, .int a), (2, .int w1x2)]) (zml mf128 (by decide)) rfl (c := w15v) w15e rfl ?_
              refine zs_goto (pc := 36) t128_36 ?_
              refine zGo.locals (ls' := [(0, .ref 7), (1, .int a), (2, .int w1x2), (3, .int w15v)]) (by simp) ?_
              exact w1ih (w1m - 1) (by omega) w1x2 w15v ⟨by omega, by omega⟩ (by omega)
            · refine zs_if_eqF (pc := 19) t93_19 rfl (by omega) ?_
              refine zs_aload_n (pc := 22) t93_22 rfl ?_
              refine zs_get (pc := 23) t93_23 (by decide) (zk1 (hs.k fk_zMc_7)) (hs.p rfl fv_zMc_7_6) ?_
              refine zs_iload_n (pc := 26) t93_26 rfl ?_
              obtain ⟨w16n, w16⟩ : ∃ n : Nat, w1x3.toInt = (n : Int) := ⟨w1x3.toInt.toNat, by omega⟩
              have w17 := ib12 hI w16n
              refine zs_iald (pc := 27) t93_27 (j := w16n) (by decide) (zk1 (hs.k fk_zMc_12)) w16 (zk2 (hs.k fk_zMc_12) (by omega)) rfl ?_
              refine zs_aload_n (pc := 28) t93_28 rfl ?_
              refine zs_get (pc := 29) t93_29 (by decide) (zk1 (hs.k fk_zMc_7)) (hs.p rfl fv_zMc_7_12) ?_
              refine zs_iconst (pc := 32) t93_32 (v := 5) (by decide) ?_
              have w18 := ib17 hI 5
              refine zs_iald (pc := 33) t93_33 (j := 5) (by decide) (zk1 (hs.k fk_zMc_17)) li5 (zk2 (hs.k fk_zMc_17) (by decide)) rfl ?_
              refine zs_aload_n (pc := 34) t93_34 rfl ?_
              refine zs_get (pc := 35) t93_35 (by decide) (zk1 (hs.k fk_zMc_7)) (hs.p rfl fv_zMc_7_12) ?_
              refine zs_bipush (pc := 38) t93_38 (v := 6) (by decide) ?_
              have w19 := ib17 hI 6
              refine zs_iald (pc := 40) t93_40 (j := 6) (by decide) (zk1 (hs.k fk_zMc_17)) li6 (zk2 (hs.k fk_zMc_17) (by decide)) rfl ?_
              refine zs_invS (pc := 41) (as := [.int (zI M 12 w16n), .int (zI M 17 5), .int (zI M 17 6)]) (st := []) t93_41 (by decide) mf39 rfl rfl ⟨by decide, by decide, Nat.le_of_ble_eq_true rfl, Nat.le_of_ble_eq_true rfl⟩ (zs_in (by decide) mf39 (Nat.le_of_ble_eq_true rfl) ?_) (fun _ _ q => q)
              show zGo X l 0 0 0 39 0 [(0, .int (zI M 12 w16n)), (1, .int (zI M 17 5)), (2, .int (zI M 17 6))] [] M _
              refine zs_iload_n (pc := 0) t39_0 rfl ?_
              refine zs_iload_n (pc := 1) t39_1 rfl ?_
              by_cases w20 : (zI M 12 w16n).toInt < (zI M 17 5).toInt
              · refine zs_icmp_ltT (pc := 2) t39_2 rfl rfl (by omega) ?_
                refine zs_iconst (pc := 14) t39_14 (v := 0) (by decide) ?_
                refine zs_iret (pc := 15) t39_15 mr39 (by decide) ?_
                show zGo X l 1 0 0 93 44 [(0, .ref 7), (1, .int w1x3)] [.int (0 : Int32)] M _
                refine zs_if_eqT (pc := 44) t93_44 li0 (by decide) ?_
                refine zs_iconst (pc := 51) t93_51 (v := 0) (by decide) ?_
                refine zs_iret (pc := 52) t93_52 mr93 (by decide) ?_
                show zGo X l 2 0 0 128 27 [(0, .ref 7), (1, .int a), (2, .int w1x2), (3, .int w1x3)] [.int (0 : Int32)] M _
                refine zs_if_eqT (pc := 27) t128_27 li0 (by decide) ?_
                obtain ⟨w21v, w21e, w21⟩ := ziadd (a := w1x3) (b := Int32.ofInt 1) rfl (show (Int32.ofInt 1).toInt = 1 by decide) (by omega) (by omega)
                refine zs_iinc (pc := 33) t128_33 (ls' := [(3, .int w21v), (0, .ref 7), (1, .int a), (2, .int w1x2)]) (zml mf128 (by decide)) rfl (c := w21v) w21e rfl ?_
                refine zs_goto (pc := 36) t128_36 ?_
                refine zGo.locals (ls' := [(0, .ref 7), (1, .int a), (2, .int w1x2), (3, .int w21v)]) (by simp) ?_
                exact w1ih (w1m - 1) (by omega) w1x2 w21v ⟨by omega, by omega⟩ (by omega)
              · refine zs_icmp_ltF (pc := 2) t39_2 rfl rfl (by omega) ?_
                refine zs_iload_n (pc := 5) t39_5 rfl ?_
                refine zs_iload_n (pc := 6) t39_6 rfl ?_
                by_cases w22 : (zI M 17 6).toInt < (zI M 12 w16n).toInt
                · refine zs_icmp_gtT (pc := 7) t39_7 rfl rfl (by omega) ?_
                  refine zs_iconst (pc := 14) t39_14 (v := 0) (by decide) ?_
                  refine zs_iret (pc := 15) t39_15 mr39 (by decide) ?_
                  show zGo X l 1 0 0 93 44 [(0, .ref 7), (1, .int w1x3)] [.int (0 : Int32)] M _
                  refine zs_if_eqT (pc := 44) t93_44 li0 (by decide) ?_
                  refine zs_iconst (pc := 51) t93_51 (v := 0) (by decide) ?_
                  refine zs_iret (pc := 52) t93_52 mr93 (by decide) ?_
                  show zGo X l 2 0 0 128 27 [(0, .ref 7), (1, .int a), (2, .int w1x2), (3, .int w1x3)] [.int (0 : Int32)] M _
                  refine zs_if_eqT (pc := 27) t128_27 li0 (by decide) ?_
                  obtain ⟨w23v, w23e, w23⟩ := ziadd (a := w1x3) (b := Int32.ofInt 1) rfl (show (Int32.ofInt 1).toInt = 1 by decide) (by omega) (by omega)
                  refine zs_iinc (pc := 33) t128_33 (ls' := [(3, .int w23v), (0, .ref 7), (1, .int a), (2, .int w1x2)]) (zml mf128 (by decide)) rfl (c := w23v) w23e rfl ?_
                  refine zs_goto (pc := 36) t128_36 ?_
                  refine zGo.locals (ls' := [(0, .ref 7), (1, .int a), (2, .int w1x2), (3, .int w23v)]) (by simp) ?_
                  exact w1ih (w1m - 1) (by omega) w1x2 w23v ⟨by omega, by omega⟩ (by omega)
                · refine zs_icmp_gtF (pc := 7) t39_7 rfl rfl (by omega) ?_
                  refine zs_iconst (pc := 10) t39_10 (v := 1) (by decide) ?_
                  refine zs_goto (pc := 11) t39_11 ?_
                  refine zs_iret (pc := 15) t39_15 mr39 (by decide) ?_
                  show zGo X l 1 0 0 93 44 [(0, .ref 7), (1, .int w1x3)] [.int (1 : Int32)] M _
                  refine zs_if_eqF (pc := 44) t93_44 li1 (by decide) ?_
                  refine zs_iconst (pc := 47) t93_47 (v := 1) (by decide) ?_
                  refine zs_goto (pc := 48) t93_48 ?_
                  refine zs_iret (pc := 52) t93_52 mr93 (by decide) ?_
                  show zGo X l 2 0 0 128 27 [(0, .ref 7), (1, .int a), (2, .int w1x2), (3, .int w1x3)] [.int (1 : Int32)] M _
                  refine zs_if_eqF (pc := 27) t128_27 li1 (by decide) ?_
                  obtain ⟨w24v, w24e⟩ : ∃ v, w1x2 + Int32.ofInt 1 = v := ⟨_, rfl⟩
                  have w24 := zrg w24v
                  refine zs_iinc (pc := 30) t128_30 (ls' := [(2, .int w24v), (0, .ref 7), (1, .int a), (3, .int w1x3)]) (zml mf128 (by decide)) rfl (c := w24v) w24e rfl ?_
                  obtain ⟨w25v, w25e, w25⟩ := ziadd (a := w1x3) (b := Int32.ofInt 1) rfl (show (Int32.ofInt 1).toInt = 1 by decide) (by omega) (by omega)
                  refine zs_iinc (pc := 33) t128_33 (ls' := [(3, .int w25v), (2, .int w24v), (0, .ref 7), (1, .int a)]) (zml mf128 (by decide)) rfl (c := w25v) w25e rfl ?_
                  refine zs_goto (pc := 36) t128_36 ?_
                  refine zGo.locals (ls' := [(0, .ref 7), (1, .int a), (2, .int w24v), (3, .int w25v)]) (by simp) ?_
                  exact w1ih (w1m - 1) (by omega) w24v w25v ⟨by omega, by omega⟩ (by omega)
  refine zGo.locals (ls' := [(0, .ref 7), (1, .int a), (2, .int (0 : Int32)), (3, .int (0 : Int32))]) (by simp) ?_
  have w26 := li0
  have w27 := li0
  exact w1L ((60 - 0 : Int).toNat) (0 : Int32) (0 : Int32) ⟨by decide, by decide⟩ (by omega)
theorem C211_7 {X : zX} {l : Launch} {M : zM} {Q : Option Value → zM → Prop} {a b : Int32} (hs : zSk zMc M) (hI : zIv cLo cHi M) (hQ : ∀ v : Int32, (-2147483648) ≤ v.toInt → v.toInt ≤ 2147483647 → Q (some (.int v)) M) : zCall X l 1 0 0 211 [.ref 7, .int a, .int b] M Q := by
  have ga := zrg a
  have gb := zrg b
  refine zs_in (by decide) mf211 (Nat.le_of_ble_eq_true rfl) ?_
  show zGo X l 1 0 0 211 0 [(0, .ref 7), (1, .int a), (2, .int b)] [] M _
  refine zs_iconst (pc := 0) t211_0 (v := 0) (by decide) ?_
  refine zs_istore_n (pc := 1) t211_1 (ls' := [(3, .int (0 : Int32)), (0, .ref 7), (1, .int a), (2, .int b)]) (zml mf211 (by decide)) rfl ?_
  refine zs_iconst (pc := 2) t211_2 (v := 0) (by decide) ?_
  refine zs_istore (pc := 3) t211_3 (ls' := [(4, .int (0 : Int32)), (3, .int (0 : Int32)), (0, .ref 7), (1, .int a), (2, .int b)]) (zml mf211 (by decide)) rfl ?_
  have w1L : ∀ (m : Nat) (w1x3 : Int32) (w1x4 : Int32), (0 ≤ w1x4.toInt ∧ w1x4.toInt ≤ 60) → 60 - w1x4.toInt ≤ (m : Int) → zGo X l 1 0 0 211 5 [(0, .ref 7), (1, .int a), (2, .int b), (3, .int w1x3), (4, .int w1x4)] [] M Q := by
    intro m
    induction m using Nat.strongRecOn with
    | ind w1m w1ih =>
      intro w1x3 w1x4 w1b4 w1q
      have w1g3 := zrg w1x3
      refine zs_iload (pc := 5) t211_5 rfl ?_
      refine zs_aload_n (pc := 7) t211_7 rfl ?_
      have w2 := ib7_3 hI
      refine zs_get (pc := 8) t211_8 (by decide) (zk1 (hs.k fk_zMc_7)) (zfvi rfl rfl) ?_
      by_cases w3 : (zI M 7 3).toInt ≤ w1x4.toInt
      · refine zs_icmp_geT (pc := 11) t211_11 rfl rfl (by omega) ?_
        refine zs_iload_n (pc := 53) t211_53 rfl ?_
        exact zs_iret (pc := 54) t211_54 mr211 rfl (hQ _ (by omega) (by omega))
      · refine zs_icmp_geF (pc := 11) t211_11 rfl rfl (by omega) ?_
        refine zs_aload_n (pc := 14) t211_14 rfl ?_
        refine zs_get (pc := 15) t211_15 (by decide) (zk1 (hs.k fk_zMc_7)) (hs.p rfl fv_zMc_7_2) ?_
        refine zs_aload_n (pc := 18) t211_18 rfl ?_
        refine zs_get (pc := 19) t211_19 (by decide) (zk1 (hs.k fk_zMc_7)) (hs.p rfl fv_zMc_7_4) ?_
        refine zs_iload (pc := 22) t211_22 rfl ?_
        obtain ⟨w4n, w4⟩ : ∃ n : Nat, w1x4.toInt = (n : Int) := ⟨w1x4.toInt.toNat, by omega⟩
        have w5 := ib10 hI w4n
        refine zs_iald (pc := 24) t211_24 (j := w4n) (by decide) (zk1 (hs.k fk_zMc_10)) w4 (zk2 (hs.k fk_zMc_10) (by omega)) rfl ?_
        obtain ⟨w6n, w6⟩ : ∃ n : Nat, (zI M 10 w4n).toInt = (n : Int) := ⟨(zI M 10 w4n).toInt.toNat, by omega⟩
        have w7 := ib9 hI w6n
        refine zs_bald (pc := 25) t211_25 (j := w6n) (Or.inr (zk1 (hs.k fk_zMc_9))) w6 (zk2 (hs.k fk_zMc_9) (by omega)) rfl ?_
        by_cases w8 : (zI M 9 w6n).toInt = 0
        · refine zs_if_eqT (pc := 26) t211_26 rfl (by omega) ?_
          obtain ⟨w9v, w9e, w9⟩ := ziadd (a := w1x4) (b := Int32.ofInt 1) rfl (show (Int32.ofInt 1).toInt = 1 by decide) (by omega) (by omega)
          refine zs_iinc (pc := 47) t211_47 (ls' := [(4, .int w9v), (0, .ref 7), (1, .int a), (2, .int b), (3, .int w1x3)]) (zml mf211 (by decide)) rfl (c := w9v) w9e rfl ?_
          refine zs_goto (pc := 50) t211_50 ?_
          refine zGo.locals (ls' := [(0, .ref 7), (1, .int a), (2, .int b), (3, .int w1x3), (4, .int w9v)]) (by simp) ?_
          exact w1ih (w1m - 1) (by omega) w1x3 w9v ⟨by omega, by omega⟩ (by omega)
        · refine zs_if_eqF (pc := 26) t211_26 rfl (by omega) ?_
          refine zs_aload_n (pc := 29) t211_29 rfl ?_
          refine zs_get (pc := 30) t211_30 (by decide) (zk1 (hs.k fk_zMc_7)) (hs.p rfl fv_zMc_7_6) ?_
          refine zs_iload (pc := 33) t211_33 rfl ?_
          obtain ⟨w10n, w10⟩ : ∃ n : Nat, w1x4.toInt = (n : Int) := ⟨w1x4.toInt.toNat, by omega⟩
          have w11 := ib12 hI w10n
          refine zs_iald (pc := 35) t211_35 (j := w10n) (by decide) (zk1 (hs.k fk_zMc_12)) w10 (zk2 (hs.k fk_zMc_12) (by omega)) rfl ?_
          refine zs_iload_n (pc := 36) t211_36 rfl ?_
          refine zs_iload_n (pc := 37) t211_37 rfl ?_
          refine zs_invS (pc := 38) (as := [.int (zI M 12 w10n), .int a, .int b]) (st := []) t211_38 (by decide) mf39 rfl rfl ⟨by decide, by decide, Nat.le_of_ble_eq_true rfl, Nat.le_of_ble_eq_true rfl⟩ (zs_in (by decide) mf39 (Nat.le_of_ble_eq_true rfl) ?_) (fun _ _ q => q)
          show zGo X l 0 0 0 39 0 [(0, .int (zI M 12 w10n)), (1, .int a), (2, .int b)] [] M _
          refine zs_iload_n (pc := 0) t39_0 rfl ?_
          refine zs_iload_n (pc := 1) t39_1 rfl ?_
          by_cases w12 : (zI M 12 w10n).toInt < a.toInt
          · refine zs_icmp_ltT (pc := 2) t39_2 rfl rfl (by omega) ?_
            refine zs_iconst (pc := 14) t39_14 (v := 0) (by decide) ?_
            refine zs_iret (pc := 15) t39_15 mr39 (by decide) ?_
            show zGo X l 1 0 0 211 41 [(0, .ref 7), (1, .int a), (2, .int b), (3, .int w1x3), (4, .int w1x4)] [.int (0 : Int32)] M _
            refine zs_if_eqT (pc := 41) t211_41 li0 (by decide) ?_
            obtain ⟨w13v, w13e, w13⟩ := ziadd (a := w1x4) (b := Int32.ofInt 1) rfl (show (Int32.ofInt 1).toInt = 1 by decide) (by omega) (by omega)
            refine zs_iinc (pc := 47) t211_47 (ls' := [(4, .int w13v), (0, .ref 7), (1, .int a), (2, .int b), (3, .int w1x3)]) (zml mf211 (by decide)) rfl (c := w13v) w13e rfl ?_
            refine zs_goto (pc := 50) t211_50 ?_
            refine zGo.locals (ls' := [(0, .ref 7), (1, .int a), (2, .int b), (3, .int w1x3), (4, .int w13v)]) (by simp) ?_
            exact w1ih (w1m - 1) (by omega) w1x3 w13v ⟨by omega, by omega⟩ (by omega)
          · refine zs_icmp_ltF (pc := 2) t39_2 rfl rfl (by omega) ?_
            refine zs_iload_n (pc := 5) t39_5 rfl ?_
            refine zs_iload_n (pc := 6) t39_6 rfl ?_
            by_cases w14 : b.toInt < (zI M 12 w10n).toInt
            · refine zs_icmp_gtT (pc := 7) t39_7 rfl rfl (by omega) ?_
              refine zs_iconst (pc := 14) t39_14 (v := 0) (by decide) ?_
              refine zs_iret (pc := 15) t39_15 mr39 (by decide) ?_
              show zGo X l 1 0 0 211 41 [(0, .ref 7), (1, .int a), (2, .int b), (3, .int w1x3), (4, .int w1x4)] [.int (0 : Int32)] M _
              refine zs_if_eqT (pc := 41) t211_41 li0 (by decide) ?_
              obtain ⟨w15v, w15e, w15⟩ := ziadd (a := w1x4) (b := Int32.ofInt 1) rfl (show (Int32.ofInt 1).toInt = 1 by decide) (by omega) (by omega)
              refine zs_iinc (pc := 47) t211_47 (ls' := [(4, .int w15v), (0, .ref 7), (1, .int a), (2, .int b), (3, .int w1x3)]) (zml mf211 (by decide)) rfl (c := w15v) w15e rfl ?_
              refine zs_goto (pc := 50) t211_50 ?_
              refine zGo.locals (ls' := [(0, .ref 7), (1, .int a), (2, .int b), (3, .int w1x3), (4, .int w15v)]) (by simp) ?_
              exact w1ih (w1m - 1) (by omega) w1x3 w15v ⟨by omega, by omega⟩ (by omega)
            · refine zs_icmp_gtF (pc := 7) t39_7 rfl rfl (by omega) ?_
              refine zs_iconst (pc := 10) t39_10 (v := 1) (by decide) ?_
              refine zs_goto (pc := 11) t39_11 ?_
              refine zs_iret (pc := 15) t39_15 mr39 (by decide) ?_
              show zGo X l 1 0 0 211 41 [(0, .ref 7), (1, .int a), (2, .int b), (3, .int w1x3), (4, .int w1x4)] [.int (1 : Int32)] M _
              refine zs_if_eqF (pc := 41) t211_41 li1 (by decide) ?_
              obtain ⟨w16v, w16e⟩ : ∃ v, w1x3 + Int32.ofInt 1 = v := ⟨_, rfl⟩
              have w16 := zrg w16v
              refine zs_iinc (pc := 44) t211_44 (ls' := [(3, .int w16v), (0, .ref 7), (1, .int a), (2, .int b), (4, .int w1x4)]) (zml mf211 (by decide)) rfl (c := w16v) w16e rfl ?_
              obtain ⟨w17v, w17e, w17⟩ := ziadd (a := w1x4) (b := Int32.ofInt 1) rfl (show (Int32.ofInt 1).toInt = 1 by decide) (by omega) (by omega)
              refine zs_iinc (pc := 47) t211_47 (ls' := [(4, .int w17v), (3, .int w16v), (0, .ref 7), (1, .int a), (2, .int b)]) (zml mf211 (by decide)) rfl (c := w17v) w17e rfl ?_
              refine zs_goto (pc := 50) t211_50 ?_
              refine zGo.locals (ls' := [(0, .ref 7), (1, .int a), (2, .int b), (3, .int w16v), (4, .int w17v)]) (by simp) ?_
              exact w1ih (w1m - 1) (by omega) w16v w17v ⟨by omega, by omega⟩ (by omega)
  refine zGo.locals (ls' := [(0, .ref 7), (1, .int a), (2, .int b), (3, .int (0 : Int32)), (4, .int (0 : Int32))]) (by simp) ?_
  have w18 := li0
  have w19 := li0
  exact w1L ((60 - 0 : Int).toNat) (0 : Int32) (0 : Int32) ⟨by decide, by decide⟩ (by omega)
theorem C185_7 {X : zX} {l : Launch} {M : zM} {Q : Option Value → zM → Prop} {a : Int32} (hs : zSk zMc M) (hI : zIv cLo cHi M) (ha : 0 ≤ a.toInt ∧ a.toInt ≤ 65535) (hQ : ∀ v : Int32, 0 ≤ v.toInt → v.toInt ≤ 1 → Q (some (.int v)) M) : zCall X l 0 0 0 185 [.ref 7, .int a] M Q := by
  have ga := zrg a
  refine zs_in (by decide) mf185 (Nat.le_of_ble_eq_true rfl) ?_
  show zGo X l 0 0 0 185 0 [(0, .ref 7), (1, .int a)] [] M _
  refine zs_iconst (pc := 0) t185_0 (v := 0) (by decide) ?_
  refine zs_istore_n (pc := 1) t185_1 (ls' := [(2, .int (0 : Int32)), (0, .ref 7), (1, .int a)]) (zml mf185 (by decide)) rfl ?_
  have w1L : ∀ (m : Nat) (w1x2 : Int32), (0 ≤ w1x2.toInt ∧ w1x2.toInt ≤ 500) → 500 - w1x2.toInt ≤ (m : Int) → zGo X l 0 0 0 185 2 [(0, .ref 7), (1, .int a), (2, .int w1x2)] [] M Q := by
    intro m
    induction m using Nat.strongRecOn with
    | ind w1m w1ih =>
      intro w1x2 w1b2 w1q
      refine zs_iload_n (pc := 2) t185_2 rfl ?_
      refine zs_aload_n (pc := 3) t185_3 rfl ?_
      have w2 := ib7_13 hI
      refine zs_get (pc := 4) t185_4 (by decide) (zk1 (hs.k fk_zMc_7)) (zfvi rfl rfl) ?_
      by_cases w3 : (zI M 7 13).toInt ≤ w1x2.toInt
      · refine zs_icmp_geT (pc := 7) t185_7 rfl rfl (by omega) ?_
        refine zs_iconst (pc := 28) t185_28 (v := 0) (by decide) ?_
        exact zs_iret (pc := 29) t185_29 mr185 (by decide) (hQ _ (by decide) (by decide))
      · refine zs_icmp_geF (pc := 7) t185_7 rfl rfl (by omega) ?_
        refine zs_aload_n (pc := 10) t185_10 rfl ?_
        refine zs_get (pc := 11) t185_11 (by decide) (zk1 (hs.k fk_zMc_7)) (hs.p rfl fv_zMc_7_14) ?_
        refine zs_iload_n (pc := 14) t185_14 rfl ?_
        obtain ⟨w4n, w4⟩ : ∃ n : Nat, w1x2.toInt = (n : Int) := ⟨w1x2.toInt.toNat, by omega⟩
        have w5 := ib18 hI w4n
        refine zs_bald (pc := 15) t185_15 (j := w4n) (Or.inl (zk1 (hs.k fk_zMc_18))) w4 (zk2 (hs.k fk_zMc_18) (by omega)) rfl ?_
        refine zs_iload_n (pc := 16) t185_16 rfl ?_
        by_cases w6 : (zI M 18 w4n).toInt ≠ a.toInt
        · refine zs_icmp_neT (pc := 17) t185_17 rfl rfl (by omega) ?_
          obtain ⟨w7v, w7e, w7⟩ := ziadd (a := w1x2) (b := Int32.ofInt 1) rfl (show (Int32.ofInt 1).toInt = 1 by decide) (by omega) (by omega)
          refine zs_iinc (pc := 22) t185_22 (ls' := [(2, .int w7v), (0, .ref 7), (1, .int a)]) (zml mf185 (by decide)) rfl (c := w7v) w7e rfl ?_
          refine zs_goto (pc := 25) t185_25 ?_
          refine zGo.locals (ls' := [(0, .ref 7), (1, .int a), (2, .int w7v)]) (by simp) ?_
          exact w1ih (w1m - 1) (by omega) w7v ⟨by omega, by omega⟩ (by omega)
        · refine zs_icmp_neF (pc := 17) t185_17 rfl rfl (by omega) ?_
          refine zs_iconst (pc := 20) t185_20 (v := 1) (by decide) ?_
          exact zs_iret (pc := 21) t185_21 mr185 (by decide) (hQ _ (by decide) (by decide))
  refine zGo.locals (ls' := [(0, .ref 7), (1, .int a), (2, .int (0 : Int32))]) (by simp) ?_
  have w8 := li0
  exact w1L ((500 - 0 : Int).toNat) (0 : Int32) ⟨by decide, by decide⟩ (by omega)
theorem C16_155 {X : zX} {l : Launch} {M : zM} {Q : Option Value → zM → Prop} {a : Int32} (hs : zSk zMc M) (hI : zIv cLo cHi M) (hQ : ∀ M', zSk zMc M' → zIv cLo cHi M' → zFr [(155, 155, some 1), (156, 156, none)] M M' → Q none M') : zCall X l 0 0 0 16 [.ref 155, .int a] M Q := by
  have ga := zrg a
  refine zs_in (by decide) mf16 (Nat.le_of_ble_eq_true rfl) ?_
  show zGo X l 0 0 0 16 0 [(0, .ref 155), (1, .int a)] [] M _
  refine zs_bipush (pc := 0) t16_0 (v := 24) (by decide) ?_
  refine zs_istore_n (pc := 2) t16_2 (ls' := [(2, .int (24 : Int32)), (0, .ref 155), (1, .int a)]) (zml mf16 (by decide)) rfl ?_
  have w1L : ∀ (m : Nat) (w1x2 : Int32) (w1M : zM), ((-8) ≤ w1x2.toInt ∧ w1x2.toInt ≤ 24) → zSk zMc w1M → zIv cLo cHi w1M → zFr [(155, 155, some 1), (156, 156, none)] M w1M → w1x2.toInt + 8 ≤ (m : Int) → zGo X l 0 0 0 16 3 [(0, .ref 155), (1, .int a), (2, .int w1x2)] [] w1M Q := by
    intro m
    induction m using Nat.strongRecOn with
    | ind w1m w1ih =>
      intro w1x2 w1M w1b2 w1s w1I w1F w1q
      refine zs_iload_n (pc := 3) t16_3 rfl ?_
      by_cases w2 : w1x2.toInt < 0
      · refine zs_if_ltT (pc := 4) t16_4 rfl (by omega) ?_
        exact zs_vret (pc := 46) t16_46 mr16 (hQ _ w1s w1I ((zFr.refl).trans (w1F.mono rfl)))
      · refine zs_if_ltF (pc := 4) t16_4 rfl (by omega) ?_
        refine zs_aload_n (pc := 7) t16_7 rfl ?_
        have w3 := ib155_1 w1I
        refine zs_get (pc := 8) t16_8 (by decide) (zk1 (w1s.k fk_zMc_155)) (zfvi rfl rfl) ?_
        refine zs_sipush (pc := 11) t16_11 (v := 500) (by decide) ?_
        by_cases w4 : 500 ≤ (zI w1M 155 1).toInt
        · refine zs_icmp_geT (pc := 14) t16_14 rfl li500 (by omega) ?_
          exact zs_vret (pc := 46) t16_46 mr16 (hQ _ w1s w1I ((zFr.refl).trans (w1F.mono rfl)))
        · refine zs_icmp_geF (pc := 14) t16_14 rfl li500 (by omega) ?_
          refine zs_aload_n (pc := 17) t16_17 rfl ?_
          refine zs_get (pc := 18) t16_18 (by decide) (zk1 (w1s.k fk_zMc_155)) (w1s.p rfl fv_zMc_155_0) ?_
          refine zs_aload_n (pc := 21) t16_21 rfl ?_
          refine zs_get (pc := 22) t16_22 (by decide) (zk1 (w1s.k fk_zMc_155)) (zfvi rfl rfl) ?_
          refine zs_iload_n (pc := 25) t16_25 rfl ?_
          refine zs_iload_n (pc := 26) t16_26 rfl ?_
          obtain ⟨w5v, w5⟩ : ∃ v, (a.toUInt32 >>> (w1x2.toUInt32 &&& Int32.toUInt32 31)).toInt32 = v := ⟨_, rfl⟩
          have w5g := zrg w5v
          refine zs_iushr (pc := 27) t16_27 (c := w5v) w5 ?_
          obtain ⟨w6v, w6e⟩ : ∃ v, w5v.toInt8.toInt32 = v := ⟨_, rfl⟩
          have w6 : (-128) ≤ w6v.toInt ∧ w6v.toInt ≤ 127 := by rw [← w6e]; exact znb _
          refine zs_i2b (pc := 28) t16_28 (c := w6v) w6e ?_
          obtain ⟨w7n, w7⟩ : ∃ n : Nat, (zI w1M 155 1).toInt = (n : Int) := ⟨(zI w1M 155 1).toInt.toNat, by omega⟩
          obtain ⟨w8v, w8e⟩ : ∃ v, vp_nar .byte w6v = v := ⟨_, rfl⟩
          have w8 : -128 ≤ w8v.toInt ∧ w8v.toInt ≤ 127 := by rw [← w8e]; exact znb _
          have w9 : zIv cLo cHi (zsI w1M 156 w7n w8v) := zIv.put w1I (show (-128) ≤ w8v.toInt ∧ w8v.toInt ≤ 127 from ⟨by omega, by omega⟩)
          refine zs_bastB (pc := 29) t16_29 (j := w7n) (by decide) (zk1 (w1s.k fk_zMc_156)) w7 (zk2 (w1s.k fk_zMc_156) (by omega)) w8e ?_
          refine zs_aload_n (pc := 30) t16_30 rfl ?_
          refine zs_dup (pc := 31) t16_31 rfl ?_
          refine zs_get (pc := 32) t16_32 (by decide) (zk1 (w1s.k fk_zMc_155)) (zfvi rfl ((zIo (by decide)).trans rfl)) ?_
          refine zs_iconst (pc := 35) t16_35 (v := 1) (by decide) ?_
          obtain ⟨w10v, w10e, w10⟩ := ziadd (a := (zI w1M 155 1)) (b := (1 : Int32)) rfl li1 (by omega) (by omega)
          refine zs_iadd (pc := 36) t16_36 (c := w10v) w10e ?_
          have w11 : zIv cLo cHi (zsI (zsI w1M 156 w7n w8v) 155 1 w10v) := zIv.put w9 (show 0 ≤ w10v.toInt ∧ w10v.toInt ≤ 500 from ⟨by omega, by omega⟩)
          refine zs_putI (pc := 37) t16_37 (zk1 (w1s.k fk_zMc_155)) rfl ?_
          obtain ⟨w12v, w12e, w12⟩ := ziadd (a := w1x2) (b := Int32.ofInt (-8)) rfl (show (Int32.ofInt (-8)).toInt = (-8) by decide) (by omega) (by omega)
          refine zs_iinc (pc := 40) t16_40 (ls' := [(2, .int w12v), (0, .ref 155), (1, .int a)]) (zml mf16 (by decide)) rfl (c := w12v) w12e rfl ?_
          refine zs_goto (pc := 43) t16_43 ?_
          refine zGo.locals (ls' := [(0, .ref 155), (1, .int a), (2, .int w12v)]) (by simp) ?_
          exact w1ih (w1m - 1) (by omega) w12v (zsI (zsI w1M 156 w7n w8v) 155 1 w10v) ⟨by omega, by omega⟩ w1s w11 ((((zFr.refl).trans (w1F.mono rfl)).put rfl).put rfl) (by omega)
  refine zGo.locals (ls' := [(0, .ref 155), (1, .int a), (2, .int (24 : Int32))]) (by simp) ?_
  have w13 := li24
  exact w1L ((24 + 8 : Int).toNat) (24 : Int32) M ⟨by decide, by decide⟩ hs hI zFr.refl (by omega)
theorem C31_155 {X : zX} {l : Launch} {M : zM} {Q : Option Value → zM → Prop} (hs : zSk zMc M) (hI : zIv cLo cHi M) (hQ : ∀ v : Int32, (-1) ≤ v.toInt → v.toInt ≤ 255 → Q (some (.int v)) M) : zCall X l 0 0 0 31 [.ref 155] M Q := by
  refine zs_in (by decide) mf31 (Nat.le_of_ble_eq_true rfl) ?_
  show zGo X l 0 0 0 31 0 [(0, .ref 155)] [] M _
  refine zs_aload_n (pc := 0) t31_0 rfl ?_
  have w1 := ib155_2 hI
  refine zs_get (pc := 1) t31_1 (by decide) (zk1 (hs.k fk_zMc_155)) (zfvi rfl rfl) ?_
  by_cases w2 : (zI M 155 2).toInt < 0
  · refine zs_if_ltT (pc := 4) t31_4 rfl (by omega) ?_
    refine zs_iconst (pc := 34) t31_34 (v := -1) (by decide) ?_
    exact zs_iret (pc := 35) t31_35 mr31 (by decide) (hQ _ (by decide) (by decide))
  · refine zs_if_ltF (pc := 4) t31_4 rfl (by omega) ?_
    refine zs_aload_n (pc := 7) t31_7 rfl ?_
    refine zs_get (pc := 8) t31_8 (by decide) (zk1 (hs.k fk_zMc_155)) (zfvi rfl rfl) ?_
    refine zs_aload_n (pc := 11) t31_11 rfl ?_
    have w3 := ib155_1 hI
    refine zs_get (pc := 12) t31_12 (by decide) (zk1 (hs.k fk_zMc_155)) (zfvi rfl rfl) ?_
    by_cases w4 : (zI M 155 1).toInt ≤ (zI M 155 2).toInt
    · refine zs_icmp_geT (pc := 15) t31_15 rfl rfl (by omega) ?_
      refine zs_iconst (pc := 34) t31_34 (v := -1) (by decide) ?_
      exact zs_iret (pc := 35) t31_35 mr31 (by decide) (hQ _ (by decide) (by decide))
    · refine zs_icmp_geF (pc := 15) t31_15 rfl rfl (by omega) ?_
      refine zs_aload_n (pc := 18) t31_18 rfl ?_
      refine zs_get (pc := 19) t31_19 (by decide) (zk1 (hs.k fk_zMc_155)) (hs.p rfl fv_zMc_155_0) ?_
      refine zs_aload_n (pc := 22) t31_22 rfl ?_
      refine zs_get (pc := 23) t31_23 (by decide) (zk1 (hs.k fk_zMc_155)) (zfvi rfl rfl) ?_
      obtain ⟨w5n, w5⟩ : ∃ n : Nat, (zI M 155 2).toInt = (n : Int) := ⟨(zI M 155 2).toInt.toNat, by omega⟩
      have w6 := ib156 hI w5n
      refine zs_bald (pc := 26) t31_26 (j := w5n) (Or.inl (zk1 (hs.k fk_zMc_156))) w5 (zk2 (hs.k fk_zMc_156) (by omega)) rfl ?_
      refine zs_sipush (pc := 27) t31_27 (v := 255) (by decide) ?_
      obtain ⟨w7v, w7⟩ : ∃ v, (zI M 156 w5n) &&& (255 : Int32) = v := ⟨_, rfl⟩
      have w7g : 0 ≤ w7v.toInt ∧ w7v.toInt ≤ 255 := by rw [← w7]; exact zand li255 (by decide)
      refine zs_iand (pc := 30) t31_30 (c := w7v) w7 ?_
      refine zs_goto (pc := 31) t31_31 ?_
      exact zs_iret (pc := 35) t31_35 mr31 rfl (hQ _ (by omega) (by omega))
theorem C30_155 {X : zX} {l : Launch} {M : zM} {Q : Option Value → zM → Prop} (hs : zSk zMc M) (hI : zIv cLo cHi M) (hQ : ∀ (M' : zM) (v : Int32), zSk zMc M' → zIv cLo cHi M' → zFr [(155, 155, none)] M M' → (-1) ≤ v.toInt → v.toInt ≤ 255 → Q (some (.int v)) M') : zCall X l 1 0 0 30 [.ref 155] M Q := by
  refine zs_in (by decide) mf30 (Nat.le_of_ble_eq_true rfl) ?_
  show zGo X l 1 0 0 30 0 [(0, .ref 155)] [] M _
  refine zs_aload_n (pc := 0) t30_0 rfl ?_
  refine zs_invV (pc := 1) (k := 155) (as' := []) (st := []) t30_1 mf31 rfl rfl (Or.inl ⟨by decide, (zk1 (hs.k fk_zMc_155))⟩) ⟨by decide, by decide, Nat.le_of_ble_eq_true rfl, Nat.le_of_ble_eq_true rfl⟩ (C31_155 hs hI ?_) (fun _ _ q => q)
  intro w1v w1a w1b
  show zGo X l 1 0 0 30 4 [(0, .ref 155)] [.int w1v] M _
  refine zs_istore_n (pc := 4) t30_4 (ls' := [(1, .int w1v), (0, .ref 155)]) (zml mf30 (by decide)) rfl ?_
  refine zs_iload_n (pc := 5) t30_5 rfl ?_
  refine zs_iconst (pc := 6) t30_6 (v := -1) (by decide) ?_
  by_cases w2 : w1v.toInt = (-1)
  · refine zs_icmp_eqT (pc := 7) t30_7 rfl lin1 (by omega) ?_
    refine zs_iload_n (pc := 20) t30_20 rfl ?_
    exact zs_iret (pc := 21) t30_21 mr30 rfl (hQ _ _ hs hI (zFr.refl) (by omega) (by omega))
  · refine zs_icmp_eqF (pc := 7) t30_7 rfl lin1 (by omega) ?_
    refine zs_aload_n (pc := 10) t30_10 rfl ?_
    refine zs_dup (pc := 11) t30_11 rfl ?_
    have w3 := ib155_2 hI
    refine zs_get (pc := 12) t30_12 (by decide) (zk1 (hs.k fk_zMc_155)) (zfvi rfl rfl) ?_
    refine zs_iconst (pc := 15) t30_15 (v := 1) (by decide) ?_
    obtain ⟨w4v, w4⟩ : ∃ v, v = (zI M 155 2) + (1 : Int32) := ⟨_, rfl⟩
    have w4g := zrg w4v
    refine zs_iadd (pc := 16) t30_16 (c := w4v) w4.symm ?_
    have w5 : zIv cLo cHi (zsI M 155 2 w4v) := zIv.put hI (show (-2147483648) ≤ w4v.toInt ∧ w4v.toInt ≤ 2147483647 from (zrg w4v))
    refine zs_putI (pc := 17) t30_17 (zk1 (hs.k fk_zMc_155)) rfl ?_
    refine zs_iload_n (pc := 20) t30_20 rfl ?_
    exact zs_iret (pc := 21) t30_21 mr30 rfl (hQ _ _ hs w5 ((zFr.refl).put rfl) (by omega) (by omega))
theorem C35_155 {X : zX} {l : Launch} {M : zM} {Q : Option Value → zM → Prop} (hs : zSk zMc M) (hI : zIv cLo cHi M) (hQ : ∀ (M' : zM) (v : Int32), zSk zMc M' → zIv cLo cHi M' → zFr [(155, 155, none)] M M' → 0 ≤ v.toInt → v.toInt ≤ 1 → Q (some (.int v)) M') : zCall X l 2 0 0 35 [.ref 155] M Q := by
  refine zs_in (by decide) mf35 (Nat.le_of_ble_eq_true rfl) ?_
  show zGo X l 2 0 0 35 0 [(0, .ref 155)] [] M _
  refine zs_aload_n (pc := 0) t35_0 rfl ?_
  refine zs_aload_n (pc := 1) t35_1 rfl ?_
  have w1 := ib155_2 hI
  refine zs_get (pc := 2) t35_2 (by decide) (zk1 (hs.k fk_zMc_155)) (zfvi rfl rfl) ?_
  have w2 : zIv cLo cHi (zsI M 155 5 (zI M 155 2)) := zIv.put hI (show (-2147483648) ≤ (zI M 155 2).toInt ∧ (zI M 155 2).toInt ≤ 2147483647 from (zrg (zI M 155 2)))
  refine zs_putI (pc := 5) t35_5 (zk1 (hs.k fk_zMc_155)) rfl ?_
  refine zs_aload_n (pc := 8) t35_8 rfl ?_
  refine zs_invV (pc := 9) (k := 155) (as' := []) (st := []) t35_9 mf31 rfl rfl (Or.inl ⟨by decide, (zk1 (hs.k fk_zMc_155))⟩) ⟨by decide, by decide, Nat.le_of_ble_eq_true rfl, Nat.le_of_ble_eq_true rfl⟩ (C31_155 hs w2 ?_) (fun _ _ q => q)
  intro w3v w3a w3b
  show zGo X l 2 0 0 35 12 [(0, .ref 155)] [.int w3v] (zsI M 155 5 (zI M 155 2)) _
  refine zs_bipush (pc := 12) t35_12 (v := 45) (by decide) ?_
  by_cases w4 : w3v.toInt ≠ 45
  · refine zs_icmp_neT (pc := 14) t35_14 rfl li45 (by omega) ?_
    refine zs_iconst (pc := 21) t35_21 (v := 0) (by decide) ?_
    refine zs_istore_n (pc := 22) t35_22 (ls' := [(1, .int (0 : Int32)), (0, .ref 155)]) (zml mf35 (by decide)) rfl ?_
    refine zs_iload_n (pc := 23) t35_23 rfl ?_
    refine zs_if_eqT (pc := 24) t35_24 li0 (by decide) ?_
    refine zs_iconst (pc := 37) t35_37 (v := 0) (by decide) ?_
    refine zs_istore_n (pc := 38) t35_38 (ls' := [(2, .int (0 : Int32)), (1, .int (0 : Int32)), (0, .ref 155)]) (zml mf35 (by decide)) rfl ?_
    refine zs_iconst (pc := 39) t35_39 (v := 0) (by decide) ?_
    refine zs_istore_n (pc := 40) t35_40 (ls' := [(3, .int (0 : Int32)), (2, .int (0 : Int32)), (1, .int (0 : Int32)), (0, .ref 155)]) (zml mf35 (by decide)) rfl ?_
    have w5L : ∀ (m : Nat) (w5x2 : Int32) (w5x3 : Int32) (w5M : zM), (0 ≤ w5x3.toInt ∧ w5x3.toInt ≤ 4) → zSk zMc w5M → zIv cLo cHi w5M → zFr [(155, 155, none)] (zsI M 155 5 (zI M 155 2)) w5M → 4 - w5x3.toInt ≤ (m : Int) → zGo X l 2 0 0 35 41 [(0, .ref 155), (1, .int (0 : Int32)), (2, .int w5x2), (3, .int w5x3)] [] w5M Q := by
      intro m
      induction m using Nat.strongRecOn with
      | ind w5m w5ih =>
        intro w5x2 w5x3 w5M w5b3 w5s w5I w5F w5q
        have w5g2 := zrg w5x2
        refine zs_iload_n (pc := 41) t35_41 rfl ?_
        refine zs_iconst (pc := 42) t35_42 (v := 4) (by decide) ?_
        by_cases w6 : 4 ≤ w5x3.toInt
        · refine zs_icmp_geT (pc := 43) t35_43 rfl li4 (by omega) ?_
          refine zs_iload_n (pc := 75) t35_75 rfl ?_
          refine zs_if_eqF (pc := 76) t35_76 rfl (by omega) ?_
          refine zs_aload_n (pc := 79) t35_79 rfl ?_
          refine zs_invV (pc := 80) (k := 155) (as' := []) (st := []) t35_80 mf31 rfl rfl (Or.inl ⟨by decide, (zk1 (w5s.k fk_zMc_155))⟩) ⟨by decide, by decide, Nat.le_of_ble_eq_true rfl, Nat.le_of_ble_eq_true rfl⟩ (C31_155 w5s w5I ?_) (fun _ _ q => q)
          intro w7v w7a w7b
          show zGo X l 2 0 0 35 83 [(0, .ref 155), (1, .int (0 : Int32)), (2, .int w5x2), (3, .int w5x3)] [.int w7v] w5M _
          refine zs_invS (pc := 83) (as := [.int w7v]) (st := []) t35_83 (by decide) mf36 rfl rfl ⟨by decide, by decide, Nat.le_of_ble_eq_true rfl, Nat.le_of_ble_eq_true rfl⟩ (zs_in (by decide) mf36 (Nat.le_of_ble_eq_true rfl) ?_) (fun _ _ q => q)
          show zGo X l 0 0 0 36 0 [(0, .int w7v)] [] w5M _
          refine zs_iload_n (pc := 0) t36_0 rfl ?_
          refine zs_bipush (pc := 1) t36_1 (v := 48) (by decide) ?_
          by_cases w8 : w7v.toInt < 48
          · refine zs_icmp_ltT (pc := 3) t36_3 rfl li48 (by omega) ?_
            refine zs_iconst (pc := 16) t36_16 (v := 0) (by decide) ?_
            refine zs_iret (pc := 17) t36_17 mr36 (by decide) ?_
            show zGo X l 2 0 0 35 86 [(0, .ref 155), (1, .int (0 : Int32)), (2, .int w5x2), (3, .int w5x3)] [.int (0 : Int32)] w5M _
            refine zs_if_eqT (pc := 86) t35_86 li0 (by decide) ?_
            refine zs_aload_n (pc := 98) t35_98 rfl ?_
            refine zs_iload_n (pc := 99) t35_99 rfl ?_
            refine zs_if_eqT (pc := 100) t35_100 li0 (by decide) ?_
            refine zs_iload_n (pc := 108) t35_108 rfl ?_
            have w9 : zIv cLo cHi (zsI w5M 155 4 w5x2) := zIv.put w5I (show (-2147483648) ≤ w5x2.toInt ∧ w5x2.toInt ≤ 2147483647 from (zrg w5x2))
            refine zs_putI (pc := 109) t35_109 (zk1 (w5s.k fk_zMc_155)) rfl ?_
            refine zs_iconst (pc := 112) t35_112 (v := 1) (by decide) ?_
            exact zs_iret (pc := 113) t35_113 mr35 (by decide) (hQ _ _ w5s w9 ((((zFr.refl).put rfl).trans (w5F.mono rfl)).put rfl) (by decide) (by decide))
          · refine zs_icmp_ltF (pc := 3) t36_3 rfl li48 (by omega) ?_
            refine zs_iload_n (pc := 6) t36_6 rfl ?_
            refine zs_bipush (pc := 7) t36_7 (v := 57) (by decide) ?_
            by_cases w10 : 57 < w7v.toInt
            · refine zs_icmp_gtT (pc := 9) t36_9 rfl li57 (by omega) ?_
              refine zs_iconst (pc := 16) t36_16 (v := 0) (by decide) ?_
              refine zs_iret (pc := 17) t36_17 mr36 (by decide) ?_
              show zGo X l 2 0 0 35 86 [(0, .ref 155), (1, .int (0 : Int32)), (2, .int w5x2), (3, .int w5x3)] [.int (0 : Int32)] w5M _
              refine zs_if_eqT (pc := 86) t35_86 li0 (by decide) ?_
              refine zs_aload_n (pc := 98) t35_98 rfl ?_
              refine zs_iload_n (pc := 99) t35_99 rfl ?_
              refine zs_if_eqT (pc := 100) t35_100 li0 (by decide) ?_
              refine zs_iload_n (pc := 108) t35_108 rfl ?_
              have w11 : zIv cLo cHi (zsI w5M 155 4 w5x2) := zIv.put w5I (show (-2147483648) ≤ w5x2.toInt ∧ w5x2.toInt ≤ 2147483647 from (zrg w5x2))
              refine zs_putI (pc := 109) t35_109 (zk1 (w5s.k fk_zMc_155)) rfl ?_
              refine zs_iconst (pc := 112) t35_112 (v := 1) (by decide) ?_
              exact zs_iret (pc := 113) t35_113 mr35 (by decide) (hQ _ _ w5s w11 ((((zFr.refl).put rfl).trans (w5F.mono rfl)).put rfl) (by decide) (by decide))
            · refine zs_icmp_gtF (pc := 9) t36_9 rfl li57 (by omega) ?_
              refine zs_iconst (pc := 12) t36_12 (v := 1) (by decide) ?_
              refine zs_goto (pc := 13) t36_13 ?_
              refine zs_iret (pc := 17) t36_17 mr36 (by decide) ?_
              show zGo X l 2 0 0 35 86 [(0, .ref 155), (1, .int (0 : Int32)), (2, .int w5x2), (3, .int w5x3)] [.int (1 : Int32)] w5M _
              refine zs_if_eqF (pc := 86) t35_86 li1 (by decide) ?_
              refine zs_aload_n (pc := 89) t35_89 rfl ?_
              refine zs_aload_n (pc := 90) t35_90 rfl ?_
              have w12 := ib155_2 w5I
              refine zs_get (pc := 91) t35_91 (by decide) (zk1 (w5s.k fk_zMc_155)) (zfvi rfl rfl) ?_
              refine zs_invV (pc := 94) (k := 155) (as' := [.int (zI w5M 155 2)]) (st := []) t35_94 mf34 rfl rfl (Or.inl ⟨by decide, (zk1 (w5s.k fk_zMc_155))⟩) ⟨by decide, by decide, Nat.le_of_ble_eq_true rfl, Nat.le_of_ble_eq_true rfl⟩ (zs_in (by decide) mf34 (Nat.le_of_ble_eq_true rfl) ?_) (fun _ _ q => q)
              show zGo X l 0 0 0 34 0 [(0, .ref 155), (1, .int (zI w5M 155 2))] [] w5M _
              refine zs_aload_n (pc := 0) t34_0 rfl ?_
              refine zs_iload_n (pc := 1) t34_1 rfl ?_
              have w13 : zIv cLo cHi (zsI w5M 155 3 (zI w5M 155 2)) := zIv.put w5I (show (-2147483648) ≤ (zI w5M 155 2).toInt ∧ (zI w5M 155 2).toInt ≤ 2147483647 from (zrg (zI w5M 155 2)))
              refine zs_putI (pc := 2) t34_2 (zk1 (w5s.k fk_zMc_155)) rfl ?_
              refine zs_iconst (pc := 5) t34_5 (v := 0) (by decide) ?_
              refine zs_iret (pc := 6) t34_6 mr34 (by decide) ?_
              show zGo X l 2 0 0 35 97 [(0, .ref 155), (1, .int (0 : Int32)), (2, .int w5x2), (3, .int w5x3)] [.int (0 : Int32)] (zsI w5M 155 3 (zI w5M 155 2)) _
              exact zs_iret (pc := 97) t35_97 mr35 (by decide) (hQ _ _ w5s w13 ((((zFr.refl).put rfl).trans (w5F.mono rfl)).put rfl) (by decide) (by decide))
        · refine zs_icmp_geF (pc := 43) t35_43 rfl li4 (by omega) ?_
          refine zs_aload_n (pc := 46) t35_46 rfl ?_
          refine zs_invV (pc := 47) (k := 155) (as' := []) (st := []) t35_47 mf31 rfl rfl (Or.inl ⟨by decide, (zk1 (w5s.k fk_zMc_155))⟩) ⟨by decide, by decide, Nat.le_of_ble_eq_true rfl, Nat.le_of_ble_eq_true rfl⟩ (C31_155 w5s w5I ?_) (fun _ _ q => q)
          intro w14v w14a w14b
          show zGo X l 2 0 0 35 50 [(0, .ref 155), (1, .int (0 : Int32)), (2, .int w5x2), (3, .int w5x3)] [.int w14v] w5M _
          refine zs_invS (pc := 50) (as := [.int w14v]) (st := []) t35_50 (by decide) mf36 rfl rfl ⟨by decide, by decide, Nat.le_of_ble_eq_true rfl, Nat.le_of_ble_eq_true rfl⟩ (zs_in (by decide) mf36 (Nat.le_of_ble_eq_true rfl) ?_) (fun _ _ q => q)
          show zGo X l 0 0 0 36 0 [(0, .int w14v)] [] w5M _
          refine zs_iload_n (pc := 0) t36_0 rfl ?_
          refine zs_bipush (pc := 1) t36_1 (v := 48) (by decide) ?_
          by_cases w15 : w14v.toInt < 48
          · refine zs_icmp_ltT (pc := 3) t36_3 rfl li48 (by omega) ?_
            refine zs_iconst (pc := 16) t36_16 (v := 0) (by decide) ?_
            refine zs_iret (pc := 17) t36_17 mr36 (by decide) ?_
            show zGo X l 2 0 0 35 53 [(0, .ref 155), (1, .int (0 : Int32)), (2, .int w5x2), (3, .int w5x3)] [.int (0 : Int32)] w5M _
            refine zs_if_eqT (pc := 53) t35_53 li0 (by decide) ?_
            refine zs_iload_n (pc := 75) t35_75 rfl ?_
            by_cases w16 : w5x3.toInt = 0
            · refine zs_if_eqT (pc := 76) t35_76 rfl (by omega) ?_
              refine zs_aload_n (pc := 89) t35_89 rfl ?_
              refine zs_aload_n (pc := 90) t35_90 rfl ?_
              have w17 := ib155_2 w5I
              refine zs_get (pc := 91) t35_91 (by decide) (zk1 (w5s.k fk_zMc_155)) (zfvi rfl rfl) ?_
              refine zs_invV (pc := 94) (k := 155) (as' := [.int (zI w5M 155 2)]) (st := []) t35_94 mf34 rfl rfl (Or.inl ⟨by decide, (zk1 (w5s.k fk_zMc_155))⟩) ⟨by decide, by decide, Nat.le_of_ble_eq_true rfl, Nat.le_of_ble_eq_true rfl⟩ (zs_in (by decide) mf34 (Nat.le_of_ble_eq_true rfl) ?_) (fun _ _ q => q)
              show zGo X l 0 0 0 34 0 [(0, .ref 155), (1, .int (zI w5M 155 2))] [] w5M _
              refine zs_aload_n (pc := 0) t34_0 rfl ?_
              refine zs_iload_n (pc := 1) t34_1 rfl ?_
              have w18 : zIv cLo cHi (zsI w5M 155 3 (zI w5M 155 2)) := zIv.put w5I (show (-2147483648) ≤ (zI w5M 155 2).toInt ∧ (zI w5M 155 2).toInt ≤ 2147483647 from (zrg (zI w5M 155 2)))
              refine zs_putI (pc := 2) t34_2 (zk1 (w5s.k fk_zMc_155)) rfl ?_
              refine zs_iconst (pc := 5) t34_5 (v := 0) (by decide) ?_
              refine zs_iret (pc := 6) t34_6 mr34 (by decide) ?_
              show zGo X l 2 0 0 35 97 [(0, .ref 155), (1, .int (0 : Int32)), (2, .int w5x2), (3, .int w5x3)] [.int (0 : Int32)] (zsI w5M 155 3 (zI w5M 155 2)) _
              exact zs_iret (pc := 97) t35_97 mr35 (by decide) (hQ _ _ w5s w18 ((((zFr.refl).put rfl).trans (w5F.mono rfl)).put rfl) (by decide) (by decide))
            · refine zs_if_eqF (pc := 76) t35_76 rfl (by omega) ?_
              refine zs_aload_n (pc := 79) t35_79 rfl ?_
              refine zs_invV (pc := 80) (k := 155) (as' := []) (st := []) t35_80 mf31 rfl rfl (Or.inl ⟨by decide, (zk1 (w5s.k fk_zMc_155))⟩) ⟨by decide, by decide, Nat.le_of_ble_eq_true rfl, Nat.le_of_ble_eq_true rfl⟩ (C31_155 w5s w5I ?_) (fun _ _ q => q)
              intro w19v w19a w19b
              show zGo X l 2 0 0 35 83 [(0, .ref 155), (1, .int (0 : Int32)), (2, .int w5x2), (3, .int w5x3)] [.int w19v] w5M _
              refine zs_invS (pc := 83) (as := [.int w19v]) (st := []) t35_83 (by decide) mf36 rfl rfl ⟨by decide, by decide, Nat.le_of_ble_eq_true rfl, Nat.le_of_ble_eq_true rfl⟩ (zs_in (by decide) mf36 (Nat.le_of_ble_eq_true rfl) ?_) (fun _ _ q => q)
              show zGo X l 0 0 0 36 0 [(0, .int w19v)] [] w5M _
              refine zs_iload_n (pc := 0) t36_0 rfl ?_
              refine zs_bipush (pc := 1) t36_1 (v := 48) (by decide) ?_
              by_cases w20 : w19v.toInt < 48
              · refine zs_icmp_ltT (pc := 3) t36_3 rfl li48 (by omega) ?_
                refine zs_iconst (pc := 16) t36_16 (v := 0) (by decide) ?_
                refine zs_iret (pc := 17) t36_17 mr36 (by decide) ?_
                show zGo X l 2 0 0 35 86 [(0, .ref 155), (1, .int (0 : Int32)), (2, .int w5x2), (3, .int w5x3)] [.int (0 : Int32)] w5M _
                refine zs_if_eqT (pc := 86) t35_86 li0 (by decide) ?_
                refine zs_aload_n (pc := 98) t35_98 rfl ?_
                refine zs_iload_n (pc := 99) t35_99 rfl ?_
                refine zs_if_eqT (pc := 100) t35_100 li0 (by decide) ?_
                refine zs_iload_n (pc := 108) t35_108 rfl ?_
                have w21 : zIv cLo cHi (zsI w5M 155 4 w5x2) := zIv.put w5I (show (-2147483648) ≤ w5x2.toInt ∧ w5x2.toInt ≤ 2147483647 from (zrg w5x2))
                refine zs_putI (pc := 109) t35_109 (zk1 (w5s.k fk_zMc_155)) rfl ?_
                refine zs_iconst (pc := 112) t35_112 (v := 1) (by decide) ?_
                exact zs_iret (pc := 113) t35_113 mr35 (by decide) (hQ _ _ w5s w21 ((((zFr.refl).put rfl).trans (w5F.mono rfl)).put rfl) (by decide) (by decide))
              · refine zs_icmp_ltF (pc := 3) t36_3 rfl li48 (by omega) ?_
                refine zs_iload_n (pc := 6) t36_6 rfl ?_
                refine zs_bipush (pc := 7) t36_7 (v := 57) (by decide) ?_
                by_cases w22 : 57 < w19v.toInt
                · refine zs_icmp_gtT (pc := 9) t36_9 rfl li57 (by omega) ?_
                  refine zs_iconst (pc := 16) t36_16 (v := 0) (by decide) ?_
                  refine zs_iret (pc := 17) t36_17 mr36 (by decide) ?_
                  show zGo X l 2 0 0 35 86 [(0, .ref 155), (1, .int (0 : Int32)), (2, .int w5x2), (3, .int w5x3)] [.int (0 : Int32)] w5M _
                  refine zs_if_eqT (pc := 86) t35_86 li0 (by decide) ?_
                  refine zs_aload_n (pc := 98) t35_98 rfl ?_
                  refine zs_iload_n (pc := 99) t35_99 rfl ?_
                  refine zs_if_eqT (pc := 100) t35_100 li0 (by decide) ?_
                  refine zs_iload_n (pc := 108) t35_108 rfl ?_
                  have w23 : zIv cLo cHi (zsI w5M 155 4 w5x2) := zIv.put w5I (show (-2147483648) ≤ w5x2.toInt ∧ w5x2.toInt ≤ 2147483647 from (zrg w5x2))
                  refine zs_putI (pc := 109) t35_109 (zk1 (w5s.k fk_zMc_155)) rfl ?_
                  refine zs_iconst (pc := 112) t35_112 (v := 1) (by decide) ?_
                  exact zs_iret (pc := 113) t35_113 mr35 (by decide) (hQ _ _ w5s w23 ((((zFr.refl).put rfl).trans (w5F.mono rfl)).put rfl) (by decide) (by decide))
                · refine zs_icmp_gtF (pc := 9) t36_9 rfl li57 (by omega) ?_
                  refine zs_iconst (pc := 12) t36_12 (v := 1) (by decide) ?_
                  refine zs_goto (pc := 13) t36_13 ?_
                  refine zs_iret (pc := 17) t36_17 mr36 (by decide) ?_
                  show zGo X l 2 0 0 35 86 [(0, .ref 155), (1, .int (0 : Int32)), (2, .int w5x2), (3, .int w5x3)] [.int (1 : Int32)] w5M _
                  refine zs_if_eqF (pc := 86) t35_86 li1 (by decide) ?_
                  refine zs_aload_n (pc := 89) t35_89 rfl ?_
                  refine zs_aload_n (pc := 90) t35_90 rfl ?_
                  have w24 := ib155_2 w5I
                  refine zs_get (pc := 91) t35_91 (by decide) (zk1 (w5s.k fk_zMc_155)) (zfvi rfl rfl) ?_
                  refine zs_invV (pc := 94) (k := 155) (as' := [.int (zI w5M 155 2)]) (st := []) t35_94 mf34 rfl rfl (Or.inl ⟨by decide, (zk1 (w5s.k fk_zMc_155))⟩) ⟨by decide, by decide, Nat.le_of_ble_eq_true rfl, Nat.le_of_ble_eq_true rfl⟩ (zs_in (by decide) mf34 (Nat.le_of_ble_eq_true rfl) ?_) (fun _ _ q => q)
                  show zGo X l 0 0 0 34 0 [(0, .ref 155), (1, .int (zI w5M 155 2))] [] w5M _
                  refine zs_aload_n (pc := 0) t34_0 rfl ?_
                  refine zs_iload_n (pc := 1) t34_1 rfl ?_
                  have w25 : zIv cLo cHi (zsI w5M 155 3 (zI w5M 155 2)) := zIv.put w5I (show (-2147483648) ≤ (zI w5M 155 2).toInt ∧ (zI w5M 155 2).toInt ≤ 2147483647 from (zrg (zI w5M 155 2)))
                  refine zs_putI (pc := 2) t34_2 (zk1 (w5s.k fk_zMc_155)) rfl ?_
                  refine zs_iconst (pc := 5) t34_5 (v := 0) (by decide) ?_
                  refine zs_iret (pc := 6) t34_6 mr34 (by decide) ?_
                  show zGo X l 2 0 0 35 97 [(0, .ref 155), (1, .int (0 : Int32)), (2, .int w5x2), (3, .int w5x3)] [.int (0 : Int32)] (zsI w5M 155 3 (zI w5M 155 2)) _
                  exact zs_iret (pc := 97) t35_97 mr35 (by decide) (hQ _ _ w5s w25 ((((zFr.refl).put rfl).trans (w5F.mono rfl)).put rfl) (by decide) (by decide))
          · refine zs_icmp_ltF (pc := 3) t36_3 rfl li48 (by omega) ?_
            refine zs_iload_n (pc := 6) t36_6 rfl ?_
            refine zs_bipush (pc := 7) t36_7 (v := 57) (by decide) ?_
            by_cases w26 : 57 < w14v.toInt
            · refine zs_icmp_gtT (pc := 9) t36_9 rfl li57 (by omega) ?_
              refine zs_iconst (pc := 16) t36_16 (v := 0) (by decide) ?_
              refine zs_iret (pc := 17) t36_17 mr36 (by decide) ?_
              show zGo X l 2 0 0 35 53 [(0, .ref 155), (1, .int (0 : Int32)), (2, .int w5x2), (3, .int w5x3)] [.int (0 : Int32)] w5M _
              refine zs_if_eqT (pc := 53) t35_53 li0 (by decide) ?_
              refine zs_iload_n (pc := 75) t35_75 rfl ?_
              by_cases w27 : w5x3.toInt = 0
              · refine zs_if_eqT (pc := 76) t35_76 rfl (by omega) ?_
                refine zs_aload_n (pc := 89) t35_89 rfl ?_
                refine zs_aload_n (pc := 90) t35_90 rfl ?_
                have w28 := ib155_2 w5I
                refine zs_get (pc := 91) t35_91 (by decide) (zk1 (w5s.k fk_zMc_155)) (zfvi rfl rfl) ?_
                refine zs_invV (pc := 94) (k := 155) (as' := [.int (zI w5M 155 2)]) (st := []) t35_94 mf34 rfl rfl (Or.inl ⟨by decide, (zk1 (w5s.k fk_zMc_155))⟩) ⟨by decide, by decide, Nat.le_of_ble_eq_true rfl, Nat.le_of_ble_eq_true rfl⟩ (zs_in (by decide) mf34 (Nat.le_of_ble_eq_true rfl) ?_) (fun _ _ q => q)
                show zGo X l 0 0 0 34 0 [(0, .ref 155), (1, .int (zI w5M 155 2))] [] w5M _
                refine zs_aload_n (pc := 0) t34_0 rfl ?_
                refine zs_iload_n (pc := 1) t34_1 rfl ?_
                have w29 : zIv cLo cHi (zsI w5M 155 3 (zI w5M 155 2)) := zIv.put w5I (show (-2147483648) ≤ (zI w5M 155 2).toInt ∧ (zI w5M 155 2).toInt ≤ 2147483647 from (zrg (zI w5M 155 2)))
                refine zs_putI (pc := 2) t34_2 (zk1 (w5s.k fk_zMc_155)) rfl ?_
                refine zs_iconst (pc := 5) t34_5 (v := 0) (by decide) ?_
                refine zs_iret (pc := 6) t34_6 mr34 (by decide) ?_
                show zGo X l 2 0 0 35 97 [(0, .ref 155), (1, .int (0 : Int32)), (2, .int w5x2), (3, .int w5x3)] [.int (0 : Int32)] (zsI w5M 155 3 (zI w5M 155 2)) _
                exact zs_iret (pc := 97) t35_97 mr35 (by decide) (hQ _ _ w5s w29 ((((zFr.refl).put rfl).trans (w5F.mono rfl)).put rfl) (by decide) (by decide))
              · refine zs_if_eqF (pc := 76) t35_76 rfl (by omega) ?_
                refine zs_aload_n (pc := 79) t35_79 rfl ?_
                refine zs_invV (pc := 80) (k := 155) (as' := []) (st := []) t35_80 mf31 rfl rfl (Or.inl ⟨by decide, (zk1 (w5s.k fk_zMc_155))⟩) ⟨by decide, by decide, Nat.le_of_ble_eq_true rfl, Nat.le_of_ble_eq_true rfl⟩ (C31_155 w5s w5I ?_) (fun _ _ q => q)
                intro w30v w30a w30b
                show zGo X l 2 0 0 35 83 [(0, .ref 155), (1, .int (0 : Int32)), (2, .int w5x2), (3, .int w5x3)] [.int w30v] w5M _
                refine zs_invS (pc := 83) (as := [.int w30v]) (st := []) t35_83 (by decide) mf36 rfl rfl ⟨by decide, by decide, Nat.le_of_ble_eq_true rfl, Nat.le_of_ble_eq_true rfl⟩ (zs_in (by decide) mf36 (Nat.le_of_ble_eq_true rfl) ?_) (fun _ _ q => q)
                show zGo X l 0 0 0 36 0 [(0, .int w30v)] [] w5M _
                refine zs_iload_n (pc := 0) t36_0 rfl ?_
                refine zs_bipush (pc := 1) t36_1 (v := 48) (by decide) ?_
                by_cases w31 : w30v.toInt < 48
                · refine zs_icmp_ltT (pc := 3) t36_3 rfl li48 (by omega) ?_
                  refine zs_iconst (pc := 16) t36_16 (v := 0) (by decide) ?_
                  refine zs_iret (pc := 17) t36_17 mr36 (by decide) ?_
                  show zGo X l 2 0 0 35 86 [(0, .ref 155), (1, .int (0 : Int32)), (2, .int w5x2), (3, .int w5x3)] [.int (0 : Int32)] w5M _
                  refine zs_if_eqT (pc := 86) t35_86 li0 (by decide) ?_
                  refine zs_aload_n (pc := 98) t35_98 rfl ?_
                  refine zs_iload_n (pc := 99) t35_99 rfl ?_
                  refine zs_if_eqT (pc := 100) t35_100 li0 (by decide) ?_
                  refine zs_iload_n (pc := 108) t35_108 rfl ?_
                  have w32 : zIv cLo cHi (zsI w5M 155 4 w5x2) := zIv.put w5I (show (-2147483648) ≤ w5x2.toInt ∧ w5x2.toInt ≤ 2147483647 from (zrg w5x2))
                  refine zs_putI (pc := 109) t35_109 (zk1 (w5s.k fk_zMc_155)) rfl ?_
                  refine zs_iconst (pc := 112) t35_112 (v := 1) (by decide) ?_
                  exact zs_iret (pc := 113) t35_113 mr35 (by decide) (hQ _ _ w5s w32 ((((zFr.refl).put rfl).trans (w5F.mono rfl)).put rfl) (by decide) (by decide))
                · refine zs_icmp_ltF (pc := 3) t36_3 rfl li48 (by omega) ?_
                  refine zs_iload_n (pc := 6) t36_6 rfl ?_
                  refine zs_bipush (pc := 7) t36_7 (v := 57) (by decide) ?_
                  by_cases w33 : 57 < w30v.toInt
                  · refine zs_icmp_gtT (pc := 9) t36_9 rfl li57 (by omega) ?_
                    refine zs_iconst (pc := 16) t36_16 (v := 0) (by decide) ?_
                    refine zs_iret (pc := 17) t36_17 mr36 (by decide) ?_
                    show zGo X l 2 0 0 35 86 [(0, .ref 155), (1, .int (0 : Int32)), (2, .int w5x2), (3, .int w5x3)] [.int (0 : Int32)] w5M _
                    refine zs_if_eqT (pc := 86) t35_86 li0 (by decide) ?_
                    refine zs_aload_n (pc := 98) t35_98 rfl ?_
                    refine zs_iload_n (pc := 99) t35_99 rfl ?_
                    refine zs_if_eqT (pc := 100) t35_100 li0 (by decide) ?_
                    refine zs_iload_n (pc := 108) t35_108 rfl ?_
                    have w34 : zIv cLo cHi (zsI w5M 155 4 w5x2) := zIv.put w5I (show (-2147483648) ≤ w5x2.toInt ∧ w5x2.toInt ≤ 2147483647 from (zrg w5x2))
                    refine zs_putI (pc := 109) t35_109 (zk1 (w5s.k fk_zMc_155)) rfl ?_
                    refine zs_iconst (pc := 112) t35_112 (v := 1) (by decide) ?_
                    exact zs_iret (pc := 113) t35_113 mr35 (by decide) (hQ _ _ w5s w34 ((((zFr.refl).put rfl).trans (w5F.mono rfl)).put rfl) (by decide) (by decide))
                  · refine zs_icmp_gtF (pc := 9) t36_9 rfl li57 (by omega) ?_
                    refine zs_iconst (pc := 12) t36_12 (v := 1) (by decide) ?_
                    refine zs_goto (pc := 13) t36_13 ?_
                    refine zs_iret (pc := 17) t36_17 mr36 (by decide) ?_
                    show zGo X l 2 0 0 35 86 [(0, .ref 155), (1, .int (0 : Int32)), (2, .int w5x2), (3, .int w5x3)] [.int (1 : Int32)] w5M _
                    refine zs_if_eqF (pc := 86) t35_86 li1 (by decide) ?_
                    refine zs_aload_n (pc := 89) t35_89 rfl ?_
                    refine zs_aload_n (pc := 90) t35_90 rfl ?_
                    have w35 := ib155_2 w5I
                    refine zs_get (pc := 91) t35_91 (by decide) (zk1 (w5s.k fk_zMc_155)) (zfvi rfl rfl) ?_
                    refine zs_invV (pc := 94) (k := 155) (as' := [.int (zI w5M 155 2)]) (st := []) t35_94 mf34 rfl rfl (Or.inl ⟨by decide, (zk1 (w5s.k fk_zMc_155))⟩) ⟨by decide, by decide, Nat.le_of_ble_eq_true rfl, Nat.le_of_ble_eq_true rfl⟩ (zs_in (by decide) mf34 (Nat.le_of_ble_eq_true rfl) ?_) (fun _ _ q => q)
                    show zGo X l 0 0 0 34 0 [(0, .ref 155), (1, .int (zI w5M 155 2))] [] w5M _
                    refine zs_aload_n (pc := 0) t34_0 rfl ?_
                    refine zs_iload_n (pc := 1) t34_1 rfl ?_
                    have w36 : zIv cLo cHi (zsI w5M 155 3 (zI w5M 155 2)) := zIv.put w5I (show (-2147483648) ≤ (zI w5M 155 2).toInt ∧ (zI w5M 155 2).toInt ≤ 2147483647 from (zrg (zI w5M 155 2)))
                    refine zs_putI (pc := 2) t34_2 (zk1 (w5s.k fk_zMc_155)) rfl ?_
                    refine zs_iconst (pc := 5) t34_5 (v := 0) (by decide) ?_
                    refine zs_iret (pc := 6) t34_6 mr34 (by decide) ?_
                    show zGo X l 2 0 0 35 97 [(0, .ref 155), (1, .int (0 : Int32)), (2, .int w5x2), (3, .int w5x3)] [.int (0 : Int32)] (zsI w5M 155 3 (zI w5M 155 2)) _
                    exact zs_iret (pc := 97) t35_97 mr35 (by decide) (hQ _ _ w5s w36 ((((zFr.refl).put rfl).trans (w5F.mono rfl)).put rfl) (by decide) (by decide))
            · refine zs_icmp_gtF (pc := 9) t36_9 rfl li57 (by omega) ?_
              refine zs_iconst (pc := 12) t36_12 (v := 1) (by decide) ?_
              refine zs_goto (pc := 13) t36_13 ?_
              refine zs_iret (pc := 17) t36_17 mr36 (by decide) ?_
              show zGo X l 2 0 0 35 53 [(0, .ref 155), (1, .int (0 : Int32)), (2, .int w5x2), (3, .int w5x3)] [.int (1 : Int32)] w5M _
              refine zs_if_eqF (pc := 53) t35_53 li1 (by decide) ?_
              refine zs_iload_n (pc := 56) t35_56 rfl ?_
              refine zs_bipush (pc := 57) t35_57 (v := 10) (by decide) ?_
              obtain ⟨w37v, w37⟩ : ∃ v, w5x2 * (10 : Int32) = v := ⟨_, rfl⟩
              have w37g := zrg w37v
              refine zs_imul (pc := 59) t35_59 (c := w37v) w37 ?_
              refine zs_aload_n (pc := 60) t35_60 rfl ?_
              refine zs_invV (pc := 61) (k := 155) (as' := []) (st := [.int w37v]) t35_61 mf30 rfl rfl (Or.inl ⟨by decide, (zk1 (w5s.k fk_zMc_155))⟩) ⟨by decide, by decide, Nat.le_of_ble_eq_true rfl, Nat.le_of_ble_eq_true rfl⟩ (C30_155 w5s w5I ?_) (fun _ _ q => q)
              intro w38M w38v w38s w38I w38F w38a w38b
              show zGo X l 2 0 0 35 64 [(0, .ref 155), (1, .int (0 : Int32)), (2, .int w5x2), (3, .int w5x3)] [.int w38v, .int w37v] w38M _
              obtain ⟨w39v, w39⟩ : ∃ v, v = w37v + w38v := ⟨_, rfl⟩
              have w39g := zrg w39v
              refine zs_iadd (pc := 64) t35_64 (c := w39v) w39.symm ?_
              refine zs_bipush (pc := 65) t35_65 (v := 48) (by decide) ?_
              obtain ⟨w40v, w40⟩ : ∃ v, v = w39v - (48 : Int32) := ⟨_, rfl⟩
              have w40g := zrg w40v
              refine zs_isub (pc := 67) t35_67 (c := w40v) w40.symm ?_
              refine zs_istore_n (pc := 68) t35_68 (ls' := [(2, .int w40v), (0, .ref 155), (1, .int (0 : Int32)), (3, .int w5x3)]) (zml mf35 (by decide)) rfl ?_
              obtain ⟨w41v, w41e, w41⟩ := ziadd (a := w5x3) (b := Int32.ofInt 1) rfl (show (Int32.ofInt 1).toInt = 1 by decide) (by omega) (by omega)
              refine zs_iinc (pc := 69) t35_69 (ls' := [(3, .int w41v), (2, .int w40v), (0, .ref 155), (1, .int (0 : Int32))]) (zml mf35 (by decide)) rfl (c := w41v) w41e rfl ?_
              refine zs_goto (pc := 72) t35_72 ?_
              refine zGo.locals (ls' := [(0, .ref 155), (1, .int (0 : Int32)), (2, .int w40v), (3, .int w41v)]) (by simp) ?_
              exact w5ih (w5m - 1) (by omega) w40v w41v w38M ⟨by omega, by omega⟩ w38s w38I (((zFr.refl).trans (w5F.mono rfl)).trans (w38F.mono rfl)) (by omega)
    refine zGo.locals (ls' := [(0, .ref 155), (1, .int (0 : Int32)), (2, .int (0 : Int32)), (3, .int (0 : Int32))]) (by simp) ?_
    have w42 := li0
    have w43 := li0
    exact w5L ((4 - 0 : Int).toNat) (0 : Int32) (0 : Int32) (zsI M 155 5 (zI M 155 2)) ⟨by decide, by decide⟩ hs w2 zFr.refl (by omega)
  · refine zs_icmp_neF (pc := 14) t35_14 rfl li45 (by omega) ?_
    refine zs_iconst (pc := 17) t35_17 (v := 1) (by decide) ?_
    refine zs_goto (pc := 18) t35_18 ?_
    refine zs_istore_n (pc := 22) t35_22 (ls' := [(1, .int (1 : Int32)), (0, .ref 155)]) (zml mf35 (by decide)) rfl ?_
    refine zs_iload_n (pc := 23) t35_23 rfl ?_
    refine zs_if_eqF (pc := 24) t35_24 li1 (by decide) ?_
    refine zs_aload_n (pc := 27) t35_27 rfl ?_
    refine zs_dup (pc := 28) t35_28 rfl ?_
    refine zs_get (pc := 29) t35_29 (by decide) (zk1 (hs.k fk_zMc_155)) (zfvi rfl ((zIoj (by decide)).trans rfl)) ?_
    refine zs_iconst (pc := 32) t35_32 (v := 1) (by decide) ?_
    obtain ⟨w44v, w44⟩ : ∃ v, v = (zI M 155 2) + (1 : Int32) := ⟨_, rfl⟩
    have w44g := zrg w44v
    refine zs_iadd (pc := 33) t35_33 (c := w44v) w44.symm ?_
    have w45 : zIv cLo cHi (zsI (zsI M 155 5 (zI M 155 2)) 155 2 w44v) := zIv.put w2 (show (-2147483648) ≤ w44v.toInt ∧ w44v.toInt ≤ 2147483647 from (zrg w44v))
    refine zs_putI (pc := 34) t35_34 (zk1 (hs.k fk_zMc_155)) rfl ?_
    refine zs_iconst (pc := 37) t35_37 (v := 0) (by decide) ?_
    refine zs_istore_n (pc := 38) t35_38 (ls' := [(2, .int (0 : Int32)), (1, .int (1 : Int32)), (0, .ref 155)]) (zml mf35 (by decide)) rfl ?_
    refine zs_iconst (pc := 39) t35_39 (v := 0) (by decide) ?_
    refine zs_istore_n (pc := 40) t35_40 (ls' := [(3, .int (0 : Int32)), (2, .int (0 : Int32)), (1, .int (1 : Int32)), (0, .ref 155)]) (zml mf35 (by decide)) rfl ?_
    have w46L : ∀ (m : Nat) (w46x2 : Int32) (w46x3 : Int32) (w46M : zM), (0 ≤ w46x3.toInt ∧ w46x3.toInt ≤ 4) → zSk zMc w46M → zIv cLo cHi w46M → zFr [(155, 155, none)] (zsI (zsI M 155 5 (zI M 155 2)) 155 2 w44v) w46M → 4 - w46x3.toInt ≤ (m : Int) → zGo X l 2 0 0 35 41 [(0, .ref 155), (1, .int (1 : Int32)), (2, .int w46x2), (3, .int w46x3)] [] w46M Q := by
      intro m
      induction m using Nat.strongRecOn with
      | ind w46m w46ih =>
        intro w46x2 w46x3 w46M w46b3 w46s w46I w46F w46q
        have w46g2 := zrg w46x2
        refine zs_iload_n (pc := 41) t35_41 rfl ?_
        refine zs_iconst (pc := 42) t35_42 (v := 4) (by decide) ?_
        by_cases w47 : 4 ≤ w46x3.toInt
        · refine zs_icmp_geT (pc := 43) t35_43 rfl li4 (by omega) ?_
          refine zs_iload_n (pc := 75) t35_75 rfl ?_
          refine zs_if_eqF (pc := 76) t35_76 rfl (by omega) ?_
          refine zs_aload_n (pc := 79) t35_79 rfl ?_
          refine zs_invV (pc := 80) (k := 155) (as' := []) (st := []) t35_80 mf31 rfl rfl (Or.inl ⟨by decide, (zk1 (w46s.k fk_zMc_155))⟩) ⟨by decide, by decide, Nat.le_of_ble_eq_true rfl, Nat.le_of_ble_eq_true rfl⟩ (C31_155 w46s w46I ?_) (fun _ _ q => q)
          intro w48v w48a w48b
          show zGo X l 2 0 0 35 83 [(0, .ref 155), (1, .int (1 : Int32)), (2, .int w46x2), (3, .int w46x3)] [.int w48v] w46M _
          refine zs_invS (pc := 83) (as := [.int w48v]) (st := []) t35_83 (by decide) mf36 rfl rfl ⟨by decide, by decide, Nat.le_of_ble_eq_true rfl, Nat.le_of_ble_eq_true rfl⟩ (zs_in (by decide) mf36 (Nat.le_of_ble_eq_true rfl) ?_) (fun _ _ q => q)
          show zGo X l 0 0 0 36 0 [(0, .int w48v)] [] w46M _
          refine zs_iload_n (pc := 0) t36_0 rfl ?_
          refine zs_bipush (pc := 1) t36_1 (v := 48) (by decide) ?_
          by_cases w49 : w48v.toInt < 48
          · refine zs_icmp_ltT (pc := 3) t36_3 rfl li48 (by omega) ?_
            refine zs_iconst (pc := 16) t36_16 (v := 0) (by decide) ?_
            refine zs_iret (pc := 17) t36_17 mr36 (by decide) ?_
            show zGo X l 2 0 0 35 86 [(0, .ref 155), (1, .int (1 : Int32)), (2, .int w46x2), (3, .int w46x3)] [.int (0 : Int32)] w46M _
            refine zs_if_eqT (pc := 86) t35_86 li0 (by decide) ?_
            refine zs_aload_n (pc := 98) t35_98 rfl ?_
            refine zs_iload_n (pc := 99) t35_99 rfl ?_
            refine zs_if_eqF (pc := 100) t35_100 li1 (by decide) ?_
            refine zs_iload_n (pc := 103) t35_103 rfl ?_
            obtain ⟨w50v, w50e⟩ : ∃ v, -w46x2 = v := ⟨_, rfl⟩
            have w50 := zrg w50v
            refine zs_ineg (pc := 104) t35_104 (c := w50v) w50e ?_
            refine zs_goto (pc := 105) t35_105 ?_
            have w51 : zIv cLo cHi (zsI w46M 155 4 w50v) := zIv.put w46I (show (-2147483648) ≤ w50v.toInt ∧ w50v.toInt ≤ 2147483647 from (zrg w50v))
            refine zs_putI (pc := 109) t35_109 (zk1 (w46s.k fk_zMc_155)) rfl ?_
            refine zs_iconst (pc := 112) t35_112 (v := 1) (by decide) ?_
            exact zs_iret (pc := 113) t35_113 mr35 (by decide) (hQ _ _ w46s w51 (((((zFr.refl).put rfl).put rfl).trans (w46F.mono rfl)).put rfl) (by decide) (by decide))
          · refine zs_icmp_ltF (pc := 3) t36_3 rfl li48 (by omega) ?_
            refine zs_iload_n (pc := 6) t36_6 rfl ?_
            refine zs_bipush (pc := 7) t36_7 (v := 57) (by decide) ?_
            by_cases w52 : 57 < w48v.toInt
            · refine zs_icmp_gtT (pc := 9) t36_9 rfl li57 (by omega) ?_
              refine zs_iconst (pc := 16) t36_16 (v := 0) (by decide) ?_
              refine zs_iret (pc := 17) t36_17 mr36 (by decide) ?_
              show zGo X l 2 0 0 35 86 [(0, .ref 155), (1, .int (1 : Int32)), (2, .int w46x2), (3, .int w46x3)] [.int (0 : Int32)] w46M _
              refine zs_if_eqT (pc := 86) t35_86 li0 (by decide) ?_
              refine zs_aload_n (pc := 98) t35_98 rfl ?_
              refine zs_iload_n (pc := 99) t35_99 rfl ?_
              refine zs_if_eqF (pc := 100) t35_100 li1 (by decide) ?_
              refine zs_iload_n (pc := 103) t35_103 rfl ?_
              obtain ⟨w53v, w53e⟩ : ∃ v, -w46x2 = v := ⟨_, rfl⟩
              have w53 := zrg w53v
              refine zs_ineg (pc := 104) t35_104 (c := w53v) w53e ?_
              refine zs_goto (pc := 105) t35_105 ?_
              have w54 : zIv cLo cHi (zsI w46M 155 4 w53v) := zIv.put w46I (show (-2147483648) ≤ w53v.toInt ∧ w53v.toInt ≤ 2147483647 from (zrg w53v))
              refine zs_putI (pc := 109) t35_109 (zk1 (w46s.k fk_zMc_155)) rfl ?_
              refine zs_iconst (pc := 112) t35_112 (v := 1) (by decide) ?_
              exact zs_iret (pc := 113) t35_113 mr35 (by decide) (hQ _ _ w46s w54 (((((zFr.refl).put rfl).put rfl).trans (w46F.mono rfl)).put rfl) (by decide) (by decide))
            · refine zs_icmp_gtF (pc := 9) t36_9 rfl li57 (by omega) ?_
              refine zs_iconst (pc := 12) t36_12 (v := 1) (by decide) ?_
              refine zs_goto (pc := 13) t36_13 ?_
              refine zs_iret (pc := 17) t36_17 mr36 (by decide) ?_
              show zGo X l 2 0 0 35 86 [(0, .ref 155), (1, .int (1 : Int32)), (2, .int w46x2), (3, .int w46x3)] [.int (1 : Int32)] w46M _
              refine zs_if_eqF (pc := 86) t35_86 li1 (by decide) ?_
              refine zs_aload_n (pc := 89) t35_89 rfl ?_
              refine zs_aload_n (pc := 90) t35_90 rfl ?_
              have w55 := ib155_2 w46I
              refine zs_get (pc := 91) t35_91 (by decide) (zk1 (w46s.k fk_zMc_155)) (zfvi rfl rfl) ?_
              refine zs_invV (pc := 94) (k := 155) (as' := [.int (zI w46M 155 2)]) (st := []) t35_94 mf34 rfl rfl (Or.inl ⟨by decide, (zk1 (w46s.k fk_zMc_155))⟩) ⟨by decide, by decide, Nat.le_of_ble_eq_true rfl, Nat.le_of_ble_eq_true rfl⟩ (zs_in (by decide) mf34 (Nat.le_of_ble_eq_true rfl) ?_) (fun _ _ q => q)
              show zGo X l 0 0 0 34 0 [(0, .ref 155), (1, .int (zI w46M 155 2))] [] w46M _
              refine zs_aload_n (pc := 0) t34_0 rfl ?_
              refine zs_iload_n (pc := 1) t34_1 rfl ?_
              have w56 : zIv cLo cHi (zsI w46M 155 3 (zI w46M 155 2)) := zIv.put w46I (show (-2147483648) ≤ (zI w46M 155 2).toInt ∧ (zI w46M 155 2).toInt ≤ 2147483647 from (zrg (zI w46M 155 2)))
              refine zs_putI (pc := 2) t34_2 (zk1 (w46s.k fk_zMc_155)) rfl ?_
              refine zs_iconst (pc := 5) t34_5 (v := 0) (by decide) ?_
              refine zs_iret (pc := 6) t34_6 mr34 (by decide) ?_
              show zGo X l 2 0 0 35 97 [(0, .ref 155), (1, .int (1 : Int32)), (2, .int w46x2), (3, .int w46x3)] [.int (0 : Int32)] (zsI w46M 155 3 (zI w46M 155 2)) _
              exact zs_iret (pc := 97) t35_97 mr35 (by decide) (hQ _ _ w46s w56 (((((zFr.refl).put rfl).put rfl).trans (w46F.mono rfl)).put rfl) (by decide) (by decide))
        · refine zs_icmp_geF (pc := 43) t35_43 rfl li4 (by omega) ?_
          refine zs_aload_n (pc := 46) t35_46 rfl ?_
          refine zs_invV (pc := 47) (k := 155) (as' := []) (st := []) t35_47 mf31 rfl rfl (Or.inl ⟨by decide, (zk1 (w46s.k fk_zMc_155))⟩) ⟨by decide, by decide, Nat.le_of_ble_eq_true rfl, Nat.le_of_ble_eq_true rfl⟩ (C31_155 w46s w46I ?_) (fun _ _ q => q)
          intro w57v w57a w57b
          show zGo X l 2 0 0 35 50 [(0, .ref 155), (1, .int (1 : Int32)), (2, .int w46x2), (3, .int w46x3)] [.int w57v] w46M _
          refine zs_invS (pc := 50) (as := [.int w57v]) (st := []) t35_50 (by decide) mf36 rfl rfl ⟨by decide, by decide, Nat.le_of_ble_eq_true rfl, Nat.le_of_ble_eq_true rfl⟩ (zs_in (by decide) mf36 (Nat.le_of_ble_eq_true rfl) ?_) (fun _ _ q => q)
          show zGo X l 0 0 0 36 0 [(0, .int w57v)] [] w46M _
          refine zs_iload_n (pc := 0) t36_0 rfl ?_
          refine zs_bipush (pc := 1) t36_1 (v := 48) (by decide) ?_
          by_cases w58 : w57v.toInt < 48
          · refine zs_icmp_ltT (pc := 3) t36_3 rfl li48 (by omega) ?_
            refine zs_iconst (pc := 16) t36_16 (v := 0) (by decide) ?_
            refine zs_iret (pc := 17) t36_17 mr36 (by decide) ?_
            show zGo X l 2 0 0 35 53 [(0, .ref 155), (1, .int (1 : Int32)), (2, .int w46x2), (3, .int w46x3)] [.int (0 : Int32)] w46M _
            refine zs_if_eqT (pc := 53) t35_53 li0 (by decide) ?_
            refine zs_iload_n (pc := 75) t35_75 rfl ?_
            by_cases w59 : w46x3.toInt = 0
            · refine zs_if_eqT (pc := 76) t35_76 rfl (by omega) ?_
              refine zs_aload_n (pc := 89) t35_89 rfl ?_
              refine zs_aload_n (pc := 90) t35_90 rfl ?_
              have w60 := ib155_2 w46I
              refine zs_get (pc := 91) t35_91 (by decide) (zk1 (w46s.k fk_zMc_155)) (zfvi rfl rfl) ?_
              refine zs_invV (pc := 94) (k := 155) (as' := [.int (zI w46M 155 2)]) (st := []) t35_94 mf34 rfl rfl (Or.inl ⟨by decide, (zk1 (w46s.k fk_zMc_155))⟩) ⟨by decide, by decide, Nat.le_of_ble_eq_true rfl, Nat.le_of_ble_eq_true rfl⟩ (zs_in (by decide) mf34 (Nat.le_of_ble_eq_true rfl) ?_) (fun _ _ q => q)
              show zGo X l 0 0 0 34 0 [(0, .ref 155), (1, .int (zI w46M 155 2))] [] w46M _
              refine zs_aload_n (pc := 0) t34_0 rfl ?_
              refine zs_iload_n (pc := 1) t34_1 rfl ?_
              have w61 : zIv cLo cHi (zsI w46M 155 3 (zI w46M 155 2)) := zIv.put w46I (show (-2147483648) ≤ (zI w46M 155 2).toInt ∧ (zI w46M 155 2).toInt ≤ 2147483647 from (zrg (zI w46M 155 2)))
              refine zs_putI (pc := 2) t34_2 (zk1 (w46s.k fk_zMc_155)) rfl ?_
              refine zs_iconst (pc := 5) t34_5 (v := 0) (by decide) ?_
              refine zs_iret (pc := 6) t34_6 mr34 (by decide) ?_
              show zGo X l 2 0 0 35 97 [(0, .ref 155), (1, .int (1 : Int32)), (2, .int w46x2), (3, .int w46x3)] [.int (0 : Int32)] (zsI w46M 155 3 (zI w46M 155 2)) _
              exact zs_iret (pc := 97) t35_97 mr35 (by decide) (hQ _ _ w46s w61 (((((zFr.refl).put rfl).put rfl).trans (w46F.mono rfl)).put rfl) (by decide) (by decide))
            · refine zs_if_eqF (pc := 76) t35_76 rfl (by omega) ?_
              refine zs_aload_n (pc := 79) t35_79 rfl ?_
              refine zs_invV (pc := 80) (k := 155) (as' := []) (st := []) t35_80 mf31 rfl rfl (Or.inl ⟨by decide, (zk1 (w46s.k fk_zMc_155))⟩) ⟨by decide, by decide, Nat.le_of_ble_eq_true rfl, Nat.le_of_ble_eq_true rfl⟩ (C31_155 w46s w46I ?_) (fun _ _ q => q)
              intro w62v w62a w62b
              show zGo X l 2 0 0 35 83 [(0, .ref 155), (1, .int (1 : Int32)), (2, .int w46x2), (3, .int w46x3)] [.int w62v] w46M _
              refine zs_invS (pc := 83) (as := [.int w62v]) (st := []) t35_83 (by decide) mf36 rfl rfl ⟨by decide, by decide, Nat.le_of_ble_eq_true rfl, Nat.le_of_ble_eq_true rfl⟩ (zs_in (by decide) mf36 (Nat.le_of_ble_eq_true rfl) ?_) (fun _ _ q => q)
              show zGo X l 0 0 0 36 0 [(0, .int w62v)] [] w46M _
              refine zs_iload_n (pc := 0) t36_0 rfl ?_
              refine zs_bipush (pc := 1) t36_1 (v := 48) (by decide) ?_
              by_cases w63 : w62v.toInt < 48
              · refine zs_icmp_ltT (pc := 3) t36_3 rfl li48 (by omega) ?_
                refine zs_iconst (pc := 16) t36_16 (v := 0) (by decide) ?_
                refine zs_iret (pc := 17) t36_17 mr36 (by decide) ?_
                show zGo X l 2 0 0 35 86 [(0, .ref 155), (1, .int (1 : Int32)), (2, .int w46x2), (3, .int w46x3)] [.int (0 : Int32)] w46M _
                refine zs_if_eqT (pc := 86) t35_86 li0 (by decide) ?_
                refine zs_aload_n (pc := 98) t35_98 rfl ?_
                refine zs_iload_n (pc := 99) t35_99 rfl ?_
                refine zs_if_eqF (pc := 100) t35_100 li1 (by decide) ?_
                refine zs_iload_n (pc := 103) t35_103 rfl ?_
                obtain ⟨w64v, w64e⟩ : ∃ v, -w46x2 = v := ⟨_, rfl⟩
                have w64 := zrg w64v
                refine zs_ineg (pc := 104) t35_104 (c := w64v) w64e ?_
                refine zs_goto (pc := 105) t35_105 ?_
                have w65 : zIv cLo cHi (zsI w46M 155 4 w64v) := zIv.put w46I (show (-2147483648) ≤ w64v.toInt ∧ w64v.toInt ≤ 2147483647 from (zrg w64v))
                refine zs_putI (pc := 109) t35_109 (zk1 (w46s.k fk_zMc_155)) rfl ?_
                refine zs_iconst (pc := 112) t35_112 (v := 1) (by decide) ?_
                exact zs_iret (pc := 113) t35_113 mr35 (by decide) (hQ _ _ w46s w65 (((((zFr.refl).put rfl).put rfl).trans (w46F.mono rfl)).put rfl) (by decide) (by decide))
              · refine zs_icmp_ltF (pc := 3) t36_3 rfl li48 (by omega) ?_
                refine zs_iload_n (pc := 6) t36_6 rfl ?_
                refine zs_bipush (pc := 7) t36_7 (v := 57) (by decide) ?_
                by_cases w66 : 57 < w62v.toInt
                · refine zs_icmp_gtT (pc := 9) t36_9 rfl li57 (by omega) ?_
                  refine zs_iconst (pc := 16) t36_16 (v := 0) (by decide) ?_
                  refine zs_iret (pc := 17) t36_17 mr36 (by decide) ?_
                  show zGo X l 2 0 0 35 86 [(0, .ref 155), (1, .int (1 : Int32)), (2, .int w46x2), (3, .int w46x3)] [.int (0 : Int32)] w46M _
                  refine zs_if_eqT (pc := 86) t35_86 li0 (by decide) ?_
                  refine zs_aload_n (pc := 98) t35_98 rfl ?_
                  refine zs_iload_n (pc := 99) t35_99 rfl ?_
                  refine zs_if_eqF (pc := 100) t35_100 li1 (by decide) ?_
                  refine zs_iload_n (pc := 103) t35_103 rfl ?_
                  obtain ⟨w67v, w67e⟩ : ∃ v, -w46x2 = v := ⟨_, rfl⟩
                  have w67 := zrg w67v
                  refine zs_ineg (pc := 104) t35_104 (c := w67v) w67e ?_
                  refine zs_goto (pc := 105) t35_105 ?_
                  have w68 : zIv cLo cHi (zsI w46M 155 4 w67v) := zIv.put w46I (show (-2147483648) ≤ w67v.toInt ∧ w67v.toInt ≤ 2147483647 from (zrg w67v))
                  refine zs_putI (pc := 109) t35_109 (zk1 (w46s.k fk_zMc_155)) rfl ?_
                  refine zs_iconst (pc := 112) t35_112 (v := 1) (by decide) ?_
                  exact zs_iret (pc := 113) t35_113 mr35 (by decide) (hQ _ _ w46s w68 (((((zFr.refl).put rfl).put rfl).trans (w46F.mono rfl)).put rfl) (by decide) (by decide))
                · refine zs_icmp_gtF (pc := 9) t36_9 rfl li57 (by omega) ?_
                  refine zs_iconst (pc := 12) t36_12 (v := 1) (by decide) ?_
                  refine zs_goto (pc := 13) t36_13 ?_
                  refine zs_iret (pc := 17) t36_17 mr36 (by decide) ?_
                  show zGo X l 2 0 0 35 86 [(0, .ref 155), (1, .int (1 : Int32)), (2, .int w46x2), (3, .int w46x3)] [.int (1 : Int32)] w46M _
                  refine zs_if_eqF (pc := 86) t35_86 li1 (by decide) ?_
                  refine zs_aload_n (pc := 89) t35_89 rfl ?_
                  refine zs_aload_n (pc := 90) t35_90 rfl ?_
                  have w69 := ib155_2 w46I
                  refine zs_get (pc := 91) t35_91 (by decide) (zk1 (w46s.k fk_zMc_155)) (zfvi rfl rfl) ?_
                  refine zs_invV (pc := 94) (k := 155) (as' := [.int (zI w46M 155 2)]) (st := []) t35_94 mf34 rfl rfl (Or.inl ⟨by decide, (zk1 (w46s.k fk_zMc_155))⟩) ⟨by decide, by decide, Nat.le_of_ble_eq_true rfl, Nat.le_of_ble_eq_true rfl⟩ (zs_in (by decide) mf34 (Nat.le_of_ble_eq_true rfl) ?_) (fun _ _ q => q)
                  show zGo X l 0 0 0 34 0 [(0, .ref 155), (1, .int (zI w46M 155 2))] [] w46M _
                  refine zs_aload_n (pc := 0) t34_0 rfl ?_
                  refine zs_iload_n (pc := 1) t34_1 rfl ?_
                  have w70 : zIv cLo cHi (zsI w46M 155 3 (zI w46M 155 2)) := zIv.put w46I (show (-2147483648) ≤ (zI w46M 155 2).toInt ∧ (zI w46M 155 2).toInt ≤ 2147483647 from (zrg (zI w46M 155 2)))
                  refine zs_putI (pc := 2) t34_2 (zk1 (w46s.k fk_zMc_155)) rfl ?_
                  refine zs_iconst (pc := 5) t34_5 (v := 0) (by decide) ?_
                  refine zs_iret (pc := 6) t34_6 mr34 (by decide) ?_
                  show zGo X l 2 0 0 35 97 [(0, .ref 155), (1, .int (1 : Int32)), (2, .int w46x2), (3, .int w46x3)] [.int (0 : Int32)] (zsI w46M 155 3 (zI w46M 155 2)) _
                  exact zs_iret (pc := 97) t35_97 mr35 (by decide) (hQ _ _ w46s w70 (((((zFr.refl).put rfl).put rfl).trans (w46F.mono rfl)).put rfl) (by decide) (by decide))
          · refine zs_icmp_ltF (pc := 3) t36_3 rfl li48 (by omega) ?_
            refine zs_iload_n (pc := 6) t36_6 rfl ?_
            refine zs_bipush (pc := 7) t36_7 (v := 57) (by decide) ?_
            by_cases w71 : 57 < w57v.toInt
            · refine zs_icmp_gtT (pc := 9) t36_9 rfl li57 (by omega) ?_
              refine zs_iconst (pc := 16) t36_16 (v := 0) (by decide) ?_
              refine zs_iret (pc := 17) t36_17 mr36 (by decide) ?_
              show zGo X l 2 0 0 35 53 [(0, .ref 155), (1, .int (1 : Int32)), (2, .int w46x2), (3, .int w46x3)] [.int (0 : Int32)] w46M _
              refine zs_if_eqT (pc := 53) t35_53 li0 (by decide) ?_
              refine zs_iload_n (pc := 75) t35_75 rfl ?_
              by_cases w72 : w46x3.toInt = 0
              · refine zs_if_eqT (pc := 76) t35_76 rfl (by omega) ?_
                refine zs_aload_n (pc := 89) t35_89 rfl ?_
                refine zs_aload_n (pc := 90) t35_90 rfl ?_
                have w73 := ib155_2 w46I
                refine zs_get (pc := 91) t35_91 (by decide) (zk1 (w46s.k fk_zMc_155)) (zfvi rfl rfl) ?_
                refine zs_invV (pc := 94) (k := 155) (as' := [.int (zI w46M 155 2)]) (st := []) t35_94 mf34 rfl rfl (Or.inl ⟨by decide, (zk1 (w46s.k fk_zMc_155))⟩) ⟨by decide, by decide, Nat.le_of_ble_eq_true rfl, Nat.le_of_ble_eq_true rfl⟩ (zs_in (by decide) mf34 (Nat.le_of_ble_eq_true rfl) ?_) (fun _ _ q => q)
                show zGo X l 0 0 0 34 0 [(0, .ref 155), (1, .int (zI w46M 155 2))] [] w46M _
                refine zs_aload_n (pc := 0) t34_0 rfl ?_
                refine zs_iload_n (pc := 1) t34_1 rfl ?_
                have w74 : zIv cLo cHi (zsI w46M 155 3 (zI w46M 155 2)) := zIv.put w46I (show (-2147483648) ≤ (zI w46M 155 2).toInt ∧ (zI w46M 155 2).toInt ≤ 2147483647 from (zrg (zI w46M 155 2)))
                refine zs_putI (pc := 2) t34_2 (zk1 (w46s.k fk_zMc_155)) rfl ?_
                refine zs_iconst (pc := 5) t34_5 (v := 0) (by decide) ?_
                refine zs_iret (pc := 6) t34_6 mr34 (by decide) ?_
                show zGo X l 2 0 0 35 97 [(0, .ref 155), (1, .int (1 : Int32)), (2, .int w46x2), (3, .int w46x3)] [.int (0 : Int32)] (zsI w46M 155 3 (zI w46M 155 2)) _
                exact zs_iret (pc := 97) t35_97 mr35 (by decide) (hQ _ _ w46s w74 (((((zFr.refl).put rfl).put rfl).trans (w46F.mono rfl)).put rfl) (by decide) (by decide))
              · refine zs_if_eqF (pc := 76) t35_76 rfl (by omega) ?_
                refine zs_aload_n (pc := 79) t35_79 rfl ?_
                refine zs_invV (pc := 80) (k := 155) (as' := []) (st := []) t35_80 mf31 rfl rfl (Or.inl ⟨by decide, (zk1 (w46s.k fk_zMc_155))⟩) ⟨by decide, by decide, Nat.le_of_ble_eq_true rfl, Nat.le_of_ble_eq_true rfl⟩ (C31_155 w46s w46I ?_) (fun _ _ q => q)
                intro w75v w75a w75b
                show zGo X l 2 0 0 35 83 [(0, .ref 155), (1, .int (1 : Int32)), (2, .int w46x2), (3, .int w46x3)] [.int w75v] w46M _
                refine zs_invS (pc := 83) (as := [.int w75v]) (st := []) t35_83 (by decide) mf36 rfl rfl ⟨by decide, by decide, Nat.le_of_ble_eq_true rfl, Nat.le_of_ble_eq_true rfl⟩ (zs_in (by decide) mf36 (Nat.le_of_ble_eq_true rfl) ?_) (fun _ _ q => q)
                show zGo X l 0 0 0 36 0 [(0, .int w75v)] [] w46M _
                refine zs_iload_n (pc := 0) t36_0 rfl ?_
                refine zs_bipush (pc := 1) t36_1 (v := 48) (by decide) ?_
                by_cases w76 : w75v.toInt < 48
                · refine zs_icmp_ltT (pc := 3) t36_3 rfl li48 (by omega) ?_
                  refine zs_iconst (pc := 16) t36_16 (v := 0) (by decide) ?_
                  refine zs_iret (pc := 17) t36_17 mr36 (by decide) ?_
                  show zGo X l 2 0 0 35 86 [(0, .ref 155), (1, .int (1 : Int32)), (2, .int w46x2), (3, .int w46x3)] [.int (0 : Int32)] w46M _
                  refine zs_if_eqT (pc := 86) t35_86 li0 (by decide) ?_
                  refine zs_aload_n (pc := 98) t35_98 rfl ?_
                  refine zs_iload_n (pc := 99) t35_99 rfl ?_
                  refine zs_if_eqF (pc := 100) t35_100 li1 (by decide) ?_
                  refine zs_iload_n (pc := 103) t35_103 rfl ?_
                  obtain ⟨w77v, w77e⟩ : ∃ v, -w46x2 = v := ⟨_, rfl⟩
                  have w77 := zrg w77v
                  refine zs_ineg (pc := 104) t35_104 (c := w77v) w77e ?_
                  refine zs_goto (pc := 105) t35_105 ?_
                  have w78 : zIv cLo cHi (zsI w46M 155 4 w77v) := zIv.put w46I (show (-2147483648) ≤ w77v.toInt ∧ w77v.toInt ≤ 2147483647 from (zrg w77v))
                  refine zs_putI (pc := 109) t35_109 (zk1 (w46s.k fk_zMc_155)) rfl ?_
                  refine zs_iconst (pc := 112) t35_112 (v := 1) (by decide) ?_
                  exact zs_iret (pc := 113) t35_113 mr35 (by decide) (hQ _ _ w46s w78 (((((zFr.refl).put rfl).put rfl).trans (w46F.mono rfl)).put rfl) (by decide) (by decide))
                · refine zs_icmp_ltF (pc := 3) t36_3 rfl li48 (by omega) ?_
                  refine zs_iload_n (pc := 6) t36_6 rfl ?_
                  refine zs_bipush (pc := 7) t36_7 (v := 57) (by decide) ?_
                  by_cases w79 : 57 < w75v.toInt
                  · refine zs_icmp_gtT (pc := 9) t36_9 rfl li57 (by omega) ?_
                    refine zs_iconst (pc := 16) t36_16 (v := 0) (by decide) ?_
                    refine zs_iret (pc := 17) t36_17 mr36 (by decide) ?_
                    show zGo X l 2 0 0 35 86 [(0, .ref 155), (1, .int (1 : Int32)), (2, .int w46x2), (3, .int w46x3)] [.int (0 : Int32)] w46M _
                    refine zs_if_eqT (pc := 86) t35_86 li0 (by decide) ?_
                    refine zs_aload_n (pc := 98) t35_98 rfl ?_
                    refine zs_iload_n (pc := 99) t35_99 rfl ?_
                    refine zs_if_eqF (pc := 100) t35_100 li1 (by decide) ?_
                    refine zs_iload_n (pc := 103) t35_103 rfl ?_
                    obtain ⟨w80v, w80e⟩ : ∃ v, -w46x2 = v := ⟨_, rfl⟩
                    have w80 := zrg w80v
                    refine zs_ineg (pc := 104) t35_104 (c := w80v) w80e ?_
                    refine zs_goto (pc := 105) t35_105 ?_
                    have w81 : zIv cLo cHi (zsI w46M 155 4 w80v) := zIv.put w46I (show (-2147483648) ≤ w80v.toInt ∧ w80v.toInt ≤ 2147483647 from (zrg w80v))
                    refine zs_putI (pc := 109) t35_109 (zk1 (w46s.k fk_zMc_155)) rfl ?_
                    refine zs_iconst (pc := 112) t35_112 (v := 1) (by decide) ?_
                    exact zs_iret (pc := 113) t35_113 mr35 (by decide) (hQ _ _ w46s w81 (((((zFr.refl).put rfl).put rfl).trans (w46F.mono rfl)).put rfl) (by decide) (by decide))
                  · refine zs_icmp_gtF (pc := 9) t36_9 rfl li57 (by omega) ?_
                    refine zs_iconst (pc := 12) t36_12 (v := 1) (by decide) ?_
                    refine zs_goto (pc := 13) t36_13 ?_
                    refine zs_iret (pc := 17) t36_17 mr36 (by decide) ?_
                    show zGo X l 2 0 0 35 86 [(0, .ref 155), (1, .int (1 : Int32)), (2, .int w46x2), (3, .int w46x3)] [.int (1 : Int32)] w46M _
                    refine zs_if_eqF (pc := 86) t35_86 li1 (by decide) ?_
                    refine zs_aload_n (pc := 89) t35_89 rfl ?_
                    refine zs_aload_n (pc := 90) t35_90 rfl ?_
                    have w82 := ib155_2 w46I
                    refine zs_get (pc := 91) t35_91 (by decide) (zk1 (w46s.k fk_zMc_155)) (zfvi rfl rfl) ?_
                    refine zs_invV (pc := 94) (k := 155) (as' := [.int (zI w46M 155 2)]) (st := []) t35_94 mf34 rfl rfl (Or.inl ⟨by decide, (zk1 (w46s.k fk_zMc_155))⟩) ⟨by decide, by decide, Nat.le_of_ble_eq_true rfl, Nat.le_of_ble_eq_true rfl⟩ (zs_in (by decide) mf34 (Nat.le_of_ble_eq_true rfl) ?_) (fun _ _ q => q)
                    show zGo X l 0 0 0 34 0 [(0, .ref 155), (1, .int (zI w46M 155 2))] [] w46M _
                    refine zs_aload_n (pc := 0) t34_0 rfl ?_
                    refine zs_iload_n (pc := 1) t34_1 rfl ?_
                    have w83 : zIv cLo cHi (zsI w46M 155 3 (zI w46M 155 2)) := zIv.put w46I (show (-2147483648) ≤ (zI w46M 155 2).toInt ∧ (zI w46M 155 2).toInt ≤ 2147483647 from (zrg (zI w46M 155 2)))
                    refine zs_putI (pc := 2) t34_2 (zk1 (w46s.k fk_zMc_155)) rfl ?_
                    refine zs_iconst (pc := 5) t34_5 (v := 0) (by decide) ?_
                    refine zs_iret (pc := 6) t34_6 mr34 (by decide) ?_
                    show zGo X l 2 0 0 35 97 [(0, .ref 155), (1, .int (1 : Int32)), (2, .int w46x2), (3, .int w46x3)] [.int (0 : Int32)] (zsI w46M 155 3 (zI w46M 155 2)) _
                    exact zs_iret (pc := 97) t35_97 mr35 (by decide) (hQ _ _ w46s w83 (((((zFr.refl).put rfl).put rfl).trans (w46F.mono rfl)).put rfl) (by decide) (by decide))
            · refine zs_icmp_gtF (pc := 9) t36_9 rfl li57 (by omega) ?_
              refine zs_iconst (pc := 12) t36_12 (v := 1) (by decide) ?_
              refine zs_goto (pc := 13) t36_13 ?_
              refine zs_iret (pc := 17) t36_17 mr36 (by decide) ?_
              show zGo X l 2 0 0 35 53 [(0, .ref 155), (1, .int (1 : Int32)), (2, .int w46x2), (3, .int w46x3)] [.int (1 : Int32)] w46M _
              refine zs_if_eqF (pc := 53) t35_53 li1 (by decide) ?_
              refine zs_iload_n (pc := 56) t35_56 rfl ?_
              refine zs_bipush (pc := 57) t35_57 (v := 10) (by decide) ?_
              obtain ⟨w84v, w84⟩ : ∃ v, w46x2 * (10 : Int32) = v := ⟨_, rfl⟩
              have w84g := zrg w84v
              refine zs_imul (pc := 59) t35_59 (c := w84v) w84 ?_
              refine zs_aload_n (pc := 60) t35_60 rfl ?_
              refine zs_invV (pc := 61) (k := 155) (as' := []) (st := [.int w84v]) t35_61 mf30 rfl rfl (Or.inl ⟨by decide, (zk1 (w46s.k fk_zMc_155))⟩) ⟨by decide, by decide, Nat.le_of_ble_eq_true rfl, Nat.le_of_ble_eq_true rfl⟩ (C30_155 w46s w46I ?_) (fun _ _ q => q)
              intro w85M w85v w85s w85I w85F w85a w85b
              show zGo X l 2 0 0 35 64 [(0, .ref 155), (1, .int (1 : Int32)), (2, .int w46x2), (3, .int w46x3)] [.int w85v, .int w84v] w85M _
              obtain ⟨w86v, w86⟩ : ∃ v, v = w84v + w85v := ⟨_, rfl⟩
              have w86g := zrg w86v
              refine zs_iadd (pc := 64) t35_64 (c := w86v) w86.symm ?_
              refine zs_bipush (pc := 65) t35_65 (v := 48) (by decide) ?_
              obtain ⟨w87v, w87⟩ : ∃ v, v = w86v - (48 : Int32) := ⟨_, rfl⟩
              have w87g := zrg w87v
              refine zs_isub (pc := 67) t35_67 (c := w87v) w87.symm ?_
              refine zs_istore_n (pc := 68) t35_68 (ls' := [(2, .int w87v), (0, .ref 155), (1, .int (1 : Int32)), (3, .int w46x3)]) (zml mf35 (by decide)) rfl ?_
              obtain ⟨w88v, w88e, w88⟩ := ziadd (a := w46x3) (b := Int32.ofInt 1) rfl (show (Int32.ofInt 1).toInt = 1 by decide) (by omega) (by omega)
              refine zs_iinc (pc := 69) t35_69 (ls' := [(3, .int w88v), (2, .int w87v), (0, .ref 155), (1, .int (1 : Int32))]) (zml mf35 (by decide)) rfl (c := w88v) w88e rfl ?_
              refine zs_goto (pc := 72) t35_72 ?_
              refine zGo.locals (ls' := [(0, .ref 155), (1, .int (1 : Int32)), (2, .int w87v), (3, .int w88v)]) (by simp) ?_
              exact w46ih (w46m - 1) (by omega) w87v w88v w85M ⟨by omega, by omega⟩ w85s w85I (((zFr.refl).trans (w46F.mono rfl)).trans (w85F.mono rfl)) (by omega)
    refine zGo.locals (ls' := [(0, .ref 155), (1, .int (1 : Int32)), (2, .int (0 : Int32)), (3, .int (0 : Int32))]) (by simp) ?_
    have w89 := li0
    have w90 := li0
    exact w46L ((4 - 0 : Int).toNat) (0 : Int32) (0 : Int32) (zsI (zsI M 155 5 (zI M 155 2)) 155 2 w44v) ⟨by decide, by decide⟩ hs w45 zFr.refl (by omega)
