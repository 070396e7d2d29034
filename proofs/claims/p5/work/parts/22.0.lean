theorem C92_7 {X : zX} {l : Launch} {M : zM} {Q : Option Value → zM → Prop} (hs : zSk zMc M) (hI : zIv cLo cHi M) (hQ : ∀ v : Int32, (-2147483648) ≤ v.toInt → v.toInt ≤ 2147483647 → Q (some (.int v)) M) : zCall X l 2 0 0 92 [.ref 7] M Q := by
  refine zs_in (by decide) mf92 (Nat.le_of_ble_eq_true rfl) ?_
  show zGo X l 2 0 0 92 0 [(0, .ref 7)] [] M _
  refine zs_iconst (pc := 0) t92_0 (v := 0) (by decide) ?_
  refine zs_istore_n (pc := 1) t92_1 (ls' := [(1, .int (0 : Int32)), (0, .ref 7)]) (zml mf92 (by decide)) rfl ?_
  refine zs_iconst (pc := 2) t92_2 (v := 0) (by decide) ?_
  refine zs_istore_n (pc := 3) t92_3 (ls' := [(2, .int (0 : Int32)), (1, .int (0 : Int32)), (0, .ref 7)]) (zml mf92 (by decide)) rfl ?_
  have w1L : ∀ (m : Nat) (w1x1 : Int32) (w1x2 : Int32), (0 ≤ w1x2.toInt ∧ w1x2.toInt ≤ 60) → 60 - w1x2.toInt ≤ (m : Int) → zGo X l 2 0 0 92 4 [(0, .ref 7), (1, .int w1x1), (2, .int w1x2)] [] M Q := by
    intro m
    induction m using Nat.strongRecOn with
    | ind w1m w1ih =>
      intro w1x1 w1x2 w1b2 w1q
      have w1g1 := zrg w1x1
      refine zs_iload_n (pc := 4) t92_4 rfl ?_
      refine zs_aload_n (pc := 5) t92_5 rfl ?_
      have w2 := ib7_3 hI
      refine zs_get (pc := 6) t92_6 (by decide) (zk1 (hs.k fk_zMc_7)) (zfvi rfl rfl) ?_
      by_cases w3 : (zI M 7 3).toInt ≤ w1x2.toInt
      · refine zs_icmp_geT (pc := 9) t92_9 rfl rfl (by omega) ?_
        refine zs_iload_n (pc := 29) t92_29 rfl ?_
        exact zs_iret (pc := 30) t92_30 mr92 rfl (hQ _ (zrg _).1 (zrg _).2)
      · refine zs_icmp_geF (pc := 9) t92_9 rfl rfl (by omega) ?_
        refine zs_aload_n (pc := 12) t92_12 rfl ?_
        refine zs_iload_n (pc := 13) t92_13 rfl ?_
        refine zs_invV (pc := 14) (k := 7) (as' := [.int w1x2]) (st := []) t92_14 mf93 rfl rfl (Or.inl ⟨by decide, (zk1 (hs.k fk_zMc_7))⟩) ⟨by decide, by decide, Nat.le_of_ble_eq_true rfl, Nat.le_of_ble_eq_true rfl⟩ (zs_in (by decide) mf93 (Nat.le_of_ble_eq_true rfl) ?_) (fun _ _ q => q)
        show zGo X l 1 0 0 93 0 [(0, .ref 7), (1, .int w1x2)] [] M _
        refine zs_aload_n (pc := 0) t93_0 rfl ?_
        refine zs_iload_n (pc := 1) t93_1 rfl ?_
        refine zs_invV (pc := 2) (k := 7) (as' := [.int w1x2]) (st := []) t93_2 mf91 rfl rfl (Or.inl ⟨by decide, (zk1 (hs.k fk_zMc_7))⟩) ⟨by decide, by decide, Nat.le_of_ble_eq_true rfl, Nat.le_of_ble_eq_true rfl⟩ (zs_in (by decide) mf91 (Nat.le_of_ble_eq_true rfl) ?_) (fun _ _ q => q)
        show zGo X l 0 0 0 91 0 [(0, .ref 7), (1, .int w1x2)] [] M _
        refine zs_iload_n (pc := 0) t91_0 rfl ?_
        refine zs_if_ltF (pc := 1) t91_1 rfl (by omega) ?_
        refine zs_iload_n (pc := 4) t91_4 rfl ?_
        refine zs_aload_n (pc := 5) t91_5 rfl ?_
        refine zs_get (pc := 6) t91_6 (by decide) (zk1 (hs.k fk_zMc_7)) (zfvi rfl rfl) ?_
        by_cases w4 : (zI M 7 3).toInt ≤ w1x2.toInt
        · refine zs_icmp_geT (pc := 9) t91_9 rfl rfl (by omega) ?_
          refine zs_iconst (pc := 16) t91_16 (v := 0) (by decide) ?_
          refine zs_iret (pc := 17) t91_17 mr91 (by decide) ?_
          show zGo X l 1 0 0 93 5 [(0, .ref 7), (1, .int w1x2)] [.int (0 : Int32)] M _
          refine zs_if_eqT (pc := 5) t93_5 li0 (by decide) ?_
          refine zs_iconst (pc := 51) t93_51 (v := 0) (by decide) ?_
          refine zs_iret (pc := 52) t93_52 mr93 (by decide) ?_
          show zGo X l 2 0 0 92 17 [(0, .ref 7), (1, .int w1x1), (2, .int w1x2)] [.int (0 : Int32)] M _
          refine zs_if_eqT (pc := 17) t92_17 li0 (by decide) ?_
          obtain ⟨w5v, w5e, w5⟩ := ziadd (a := w1x2) (b := Int32.ofInt 1) rfl (show (Int32.ofInt 1).toInt = 1 by decide) (by omega) (by omega)
          refine zs_iinc (pc := 23) t92_23 (ls' := [(2, .int w5v), (0, .ref 7), (1, .int w1x1)]) (zml mf92 (by decide)) rfl (c := w5v) w5e rfl ?_
          refine zs_goto (pc := 26) t92_26 ?_
          refine zGo.locals (ls' := [(0, .ref 7), (1, .int w1x1), (2, .int w5v)]) (by simp) ?_
          exact w1ih (w1m - 1) (by omega) w1x1 w5v ⟨by omega, by omega⟩ (by omega)
        · refine zs_icmp_geF (pc := 9) t91_9 rfl rfl (by omega) ?_
          refine zs_iconst (pc := 12) t91_12 (v := 1) (by decide) ?_
          refine zs_goto (pc := 13) t91_13 ?_
          refine zs_iret (pc := 17) t91_17 mr91 (by decide) ?_
          show zGo X l 1 0 0 93 5 [(0, .ref 7), (1, .int w1x2)] [.int (1 : Int32)] M _
          refine zs_if_eqF (pc := 5) t93_5 li1 (by decide) ?_
          refine zs_aload_n (pc := 8) t93_8 rfl ?_
          refine zs_get (pc := 9) t93_9 (by decide) (zk1 (hs.k fk_zMc_7)) (hs.p rfl fv_zMc_7_2) ?_
          refine zs_aload_n (pc := 12) t93_12 rfl ?_
          refine zs_get (pc := 13) t93_13 (by decide) (zk1 (hs.k fk_zMc_7)) (hs.p rfl fv_zMc_7_4) ?_
          refine zs_iload_n (pc := 16) t93_16 rfl ?_
          obtain ⟨w6n, w6⟩ : ∃ n : Nat, w1x2.toInt = (n : Int) := ⟨w1x2.toInt.toNat, by omega⟩
          have w7 := ib10 hI w6n
          refine zs_iald (pc := 17) t93_17 (j := w6n) (by decide) (zk1 (hs.k fk_zMc_10)) w6 (zk2 (hs.k fk_zMc_10) (by omega)) rfl ?_
          obtain ⟨w8n, w8⟩ : ∃ n : Nat, (zI M 10 w6n).toInt = (n : Int) := ⟨(zI M 10 w6n).toInt.toNat, by omega⟩
          have w9 := ib9 hI w8n
          refine zs_bald (pc := 18) t93_18 (j := w8n) (Or.inr (zk1 (hs.k fk_zMc_9))) w8 (zk2 (hs.k fk_zMc_9) (by omega)) rfl ?_
          by_cases w10 : (zI M 9 w8n).toInt = 0
          · refine zs_if_eqT (pc := 19) t93_19 rfl (by omega) ?_
            refine zs_iconst (pc := 51) t93_51 (v := 0) (by decide) ?_
            refine zs_iret (pc := 52) t93_52 mr93 (by decide) ?_
            show zGo X l 2 0 0 92 17 [(0, .ref 7), (1, .int w1x1), (2, .int w1x2)] [.int (0 : Int32)] M _
            refine zs_if_eqT (pc := 17) t92_17 li0 (by decide) ?_
            obtain ⟨w11v, w11e, w11⟩ := ziadd (a := w1x2) (b := Int32.ofInt 1) rfl (show (Int32.ofInt 1).toInt = 1 by decide) (by omega) (by omega)
            refine zs_iinc (pc := 23) t92_23 (ls' := [(2, .int w11v), (0, .ref 7), (1, .int w1x1)]) (zml mf92 (by decide)) rfl (c := w11v) w11e rfl ?_
            refine zs_goto (pc := 26) t92_26 ?_
            refine zGo.locals (ls' := [(0, .ref 7), (1, .int w1x1), (2, .int w11v)]) (by simp) ?_
            exact w1ih (w1m - 1) (by omega) w1x1 w11v ⟨by omega, by omega⟩ (by omega)
          · refine zs_if_eqF (pc := 19) t93_19 rfl (by omega) ?_
            refine zs_aload_n (pc := 22) t93_22 rfl ?_
            refine zs_get (pc := 23) t93_23 (by decide) (zk1 (hs.k fk_zMc_7)) (hs.p rfl fv_zMc_7_6) ?_
            refine zs_iload_n (pc := 26) t93_26 rfl ?_
            have w12 := ib12 hI w6n
            refine zs_iald (pc := 27) t93_27 (j := w6n) (by decide) (zk1 (hs.k fk_zMc_12)) w6 (zk2 (hs.k fk_zMc_12) (by omega)) rfl ?_
            refine zs_aload_n (pc := 28) t93_28 rfl ?_
            refine zs_get (pc := 29) t93_29 (by decide) (zk1 (hs.k fk_zMc_7)) (hs.p rfl fv_zMc_7_12) ?_
            refine zs_iconst (pc := 32) t93_32 (v := 5) (by decide) ?_
            have w13 := ib17 hI 5
            refine zs_iald (pc := 33) t93_33 (j := 5) (by decide) (zk1 (hs.k fk_zMc_17)) li5 (zk2 (hs.k fk_zMc_17) (by decide)) rfl ?_
            refine zs_aload_n (pc := 34) t93_34 rfl ?_
            refine zs_get (pc := 35) t93_35 (by decide) (zk1 (hs.k fk_zMc_7)) (hs.p rfl fv_zMc_7_12) ?_
            refine zs_bipush (pc := 38) t93_38 (v := 6) (by decide) ?_
            have w14 := ib17 hI 6
            refine zs_iald (pc := 40) t93_40 (j := 6) (by decide) (zk1 (hs.k fk_zMc_17)) li6 (zk2 (hs.k fk_zMc_17) (by decide)) rfl ?_
            refine zs_invS (pc := 41) (as := [.int (zI M 12 w6n), .int (zI M 17 5), .int (zI M 17 6)]) (st := []) t93_41 (by decide) mf39 rfl rfl ⟨by decide, by decide, Nat.le_of_ble_eq_true rfl, Nat.le_of_ble_eq_true rfl⟩ (zs_in (by decide) mf39 (Nat.le_of_ble_eq_true rfl) ?_) (fun _ _ q => q)
            show zGo X l 0 0 0 39 0 [(0, .int (zI M 12 w6n)), (1, .int (zI M 17 5)), (2, .int (zI M 17 6))] [] M _
            refine zs_iload_n (pc := 0) t39_0 rfl ?_
            refine zs_iload_n (pc := 1) t39_1 rfl ?_
            by_cases w15 : (zI M 12 w6n).toInt < (zI M 17 5).toInt
            · refine zs_icmp_ltT (pc := 2) t39_2 rfl rfl (by omega) ?_
              refine zs_iconst (pc := 14) t39_14 (v := 0) (by decide) ?_
              refine zs_iret (pc := 15) t39_15 mr39 (by decide) ?_
              show zGo X l 1 0 0 93 44 [(0, .ref 7), (1, .int w1x2)] [.int (0 : Int32)] M _
              refine zs_if_eqT (pc := 44) t93_44 li0 (by decide) ?_
              refine zs_iconst (pc := 51) t93_51 (v := 0) (by decide) ?_
              refine zs_iret (pc := 52) t93_52 mr93 (by decide) ?_
              show zGo X l 2 0 0 92 17 [(0, .ref 7), (1, .int w1x1), (2, .int w1x2)] [.int (0 : Int32)] M _
              refine zs_if_eqT (pc := 17) t92_17 li0 (by decide) ?_
              obtain ⟨w16v, w16e, w16⟩ := ziadd (a := w1x2) (b := Int32.ofInt 1) rfl (show (Int32.ofInt 1).toInt = 1 by decide) (by omega) (by omega)
              refine zs_iinc (pc := 23) t92_23 (ls' := [(2, .int w16v), (0, .ref 7), (1, .int w1x1)]) (zml mf92 (by decide)) rfl (c := w16v) w16e rfl ?_
              refine zs_goto (pc := 26) t92_26 ?_
              refine zGo.locals (ls' := [(0, .ref 7), (1, .int w1x1), (2, .int w16v)]) (by simp) ?_
              exact w1ih (w1m - 1) (by omega) w1x1 w16v ⟨by omega, by omega⟩ (by omega)
            · refine zs_icmp_ltF (pc := 2) t39_2 rfl rfl (by omega) ?_
              refine zs_iload_n (pc := 5) t39_5 rfl ?_
              refine zs_iload_n (pc := 6) t39_6 rfl ?_
              by_cases w17 : (zI M 17 6).toInt < (zI M 12 w6n).toInt
              · refine zs_icmp_gtT (pc := 7) t39_7 rfl rfl (by omega) ?_
                refine zs_iconst (pc := 14) t39_14 (v := 0) (by decide) ?_
                refine zs_iret (pc := 15) t39_15 mr39 (by decide) ?_
                show zGo X l 1 0 0 93 44 [(0, .ref 7), (1, .int w1x2)] [.int (0 : Int32)] M _
                refine zs_if_eqT (pc := 44) t93_44 li0 (by decide) ?_
                refine zs_iconst (pc := 51) t93_51 (v := 0) (by decide) ?_
                refine zs_iret (pc := 52) t93_52 mr93 (by decide) ?_
                show zGo X l 2 0 0 92 17 [(0, .ref 7), (1, .int w1x1), (2, .int w1x2)] [.int (0 : Int32)] M _
                refine zs_if_eqT (pc := 17) t92_17 li0 (by decide) ?_
                obtain ⟨w18v, w18e, w18⟩ := ziadd (a := w1x2) (b := Int32.ofInt 1) rfl (show (Int32.ofInt 1).toInt = 1 by decide) (by omega) (by omega)
                refine zs_iinc (pc := 23) t92_23 (ls' := [(2, .int w18v), (0, .ref 7), (1, .int w1x1)]) (zml mf92 (by decide)) rfl (c := w18v) w18e rfl ?_
                refine zs_goto (pc := 26) t92_26 ?_
                refine zGo.locals (ls' := [(0, .ref 7), (1, .int w1x1), (2, .int w18v)]) (by simp) ?_
                exact w1ih (w1m - 1) (by omega) w1x1 w18v ⟨by omega, by omega⟩ (by omega)
              · refine zs_icmp_gtF (pc := 7) t39_7 rfl rfl (by omega) ?_
                refine zs_iconst (pc := 10) t39_10 (v := 1) (by decide) ?_
                refine zs_goto (pc := 11) t39_11 ?_
                refine zs_iret (pc := 15) t39_15 mr39 (by decide) ?_
                show zGo X l 1 0 0 93 44 [(0, .ref 7), (1, .int w1x2)] [.int (1 : Int32)] M _
                refine zs_if_eqF (pc := 44) t93_44 li1 (by decide) ?_
                refine zs_iconst (pc := 47) t93_47 (v := 1) (by decide) ?_
                refine zs_goto (pc := 48) t93_48 ?_
                refine zs_iret (pc := 52) t93_52 mr93 (by decide) ?_
                show zGo X l 2 0 0 92 17 [(0, .ref 7), (1, .int w1x1), (2, .int w1x2)] [.int (1 : Int32)] M _
                refine zs_if_eqF (pc := 17) t92_17 li1 (by decide) ?_
                obtain ⟨w19v, w19e⟩ : ∃ v, w1x1 + Int32.ofInt 1 = v := ⟨_, rfl⟩
                have w19 := zrg w19v
                refine zs_iinc (pc := 20) t92_20 (ls' := [(1, .int w19v), (0, .ref 7), (2, .int w1x2)]) (zml mf92 (by decide)) rfl (c := w19v) w19e rfl ?_
                obtain ⟨w20v, w20e, w20⟩ := ziadd (a := w1x2) (b := Int32.ofInt 1) rfl (show (Int32.ofInt 1).toInt = 1 by decide) (by omega) (by omega)
                refine zs_iinc (pc := 23) t92_23 (ls' := [(2, .int w20v), (1, .int w19v), (0, .ref 7)]) (zml mf92 (by decide)) rfl (c := w20v) w20e rfl ?_
                refine zs_goto (pc := 26) t92_26 ?_
                refine zGo.locals (ls' := [(0, .ref 7), (1, .int w19v), (2, .int w20v)]) (by simp) ?_
                exact w1ih (w1m - 1) (by omega) w19v w20v ⟨by omega, by omega⟩ (by omega)
  refine zGo.locals (ls' := [(0, .ref 7), (1, .int (0 : Int32)), (2, .int (0 : Int32))]) (by simp) ?_
  have w21 := li0
  have w22 := li0
  exact w1L ((60 - 0 : Int).toNat) (0 : Int32) (0 : Int32) ⟨by decide, by decide⟩ (by omega)
theorem C100_7 {X : zX} {l : Launch} {M : zM} {Q : Option Value → zM → Prop} (hs : zSk zMc M) (hI : zIv cLo cHi M) (hQ : ∀ v : Int32, (-2147483648) ≤ v.toInt → v.toInt ≤ 2147483647 → Q (some (.int v)) M) : zCall X l 0 0 0 100 [.ref 7] M Q := by
  refine zs_in (by decide) mf100 (Nat.le_of_ble_eq_true rfl) ?_
  show zGo X l 0 0 0 100 0 [(0, .ref 7)] [] M _
  refine zs_iconst (pc := 0) t100_0 (v := 0) (by decide) ?_
  refine zs_istore_n (pc := 1) t100_1 (ls' := [(1, .int (0 : Int32)), (0, .ref 7)]) (zml mf100 (by decide)) rfl ?_
  refine zs_iconst (pc := 2) t100_2 (v := 0) (by decide) ?_
  refine zs_istore_n (pc := 3) t100_3 (ls' := [(2, .int (0 : Int32)), (1, .int (0 : Int32)), (0, .ref 7)]) (zml mf100 (by decide)) rfl ?_
  have w1L : ∀ (m : Nat) (w1x1 : Int32) (w1x2 : Int32), (0 ≤ w1x2.toInt ∧ w1x2.toInt ≤ 8) → 8 - w1x2.toInt ≤ (m : Int) → zGo X l 0 0 0 100 4 [(0, .ref 7), (1, .int w1x1), (2, .int w1x2)] [] M Q := by
    intro m
    induction m using Nat.strongRecOn with
    | ind w1m w1ih =>
      intro w1x1 w1x2 w1b2 w1q
      have w1g1 := zrg w1x1
      refine zs_iload_n (pc := 4) t100_4 rfl ?_
      refine zs_aload_n (pc := 5) t100_5 rfl ?_
      have w2 := ib7_0 hI
      refine zs_get (pc := 6) t100_6 (by decide) (zk1 (hs.k fk_zMc_7)) (zfvi rfl rfl) ?_
      by_cases w3 : (zI M 7 0).toInt ≤ w1x2.toInt
      · refine zs_icmp_geT (pc := 9) t100_9 rfl rfl (by omega) ?_
        refine zs_iload_n (pc := 30) t100_30 rfl ?_
        exact zs_iret (pc := 31) t100_31 mr100 rfl (hQ _ (zrg _).1 (zrg _).2)
      · refine zs_icmp_geF (pc := 9) t100_9 rfl rfl (by omega) ?_
        refine zs_aload_n (pc := 12) t100_12 rfl ?_
        refine zs_get (pc := 13) t100_13 (by decide) (zk1 (hs.k fk_zMc_7)) (hs.p rfl fv_zMc_7_2) ?_
        refine zs_iload_n (pc := 16) t100_16 rfl ?_
        obtain ⟨w4n, w4⟩ : ∃ n : Nat, w1x2.toInt = (n : Int) := ⟨w1x2.toInt.toNat, by omega⟩
        have w5 := ib9 hI w4n
        refine zs_bald (pc := 17) t100_17 (j := w4n) (Or.inr (zk1 (hs.k fk_zMc_9))) w4 (zk2 (hs.k fk_zMc_9) (by omega)) rfl ?_
        by_cases w6 : (zI M 9 w4n).toInt = 0
        · refine zs_if_eqT (pc := 18) t100_18 rfl (by omega) ?_
          obtain ⟨w7v, w7e, w7⟩ := ziadd (a := w1x2) (b := Int32.ofInt 1) rfl (show (Int32.ofInt 1).toInt = 1 by decide) (by omega) (by omega)
          refine zs_iinc (pc := 24) t100_24 (ls' := [(2, .int w7v), (0, .ref 7), (1, .int w1x1)]) (zml mf100 (by decide)) rfl (c := w7v) w7e rfl ?_
          refine zs_goto (pc := 27) t100_27 ?_
          refine zGo.locals (ls' := [(0, .ref 7), (1, .int w1x1), (2, .int w7v)]) (by simp) ?_
          exact w1ih (w1m - 1) (by omega) w1x1 w7v ⟨by omega, by omega⟩ (by omega)
        · refine zs_if_eqF (pc := 18) t100_18 rfl (by omega) ?_
          obtain ⟨w8v, w8e⟩ : ∃ v, w1x1 + Int32.ofInt 1 = v := ⟨_, rfl⟩
          have w8 := zrg w8v
          refine zs_iinc (pc := 21) t100_21 (ls' := [(1, .int w8v), (0, .ref 7), (2, .int w1x2)]) (zml mf100 (by decide)) rfl (c := w8v) w8e rfl ?_
          obtain ⟨w9v, w9e, w9⟩ := ziadd (a := w1x2) (b := Int32.ofInt 1) rfl (show (Int32.ofInt 1).toInt = 1 by decide) (by omega) (by omega)
          refine zs_iinc (pc := 24) t100_24 (ls' := [(2, .int w9v), (1, .int w8v), (0, .ref 7)]) (zml mf100 (by decide)) rfl (c := w9v) w9e rfl ?_
          refine zs_goto (pc := 27) t100_27 ?_
          refine zGo.locals (ls' := [(0, .ref 7), (1, .int w8v), (2, .int w9v)]) (by simp) ?_
          exact w1ih (w1m - 1) (by omega) w8v w9v ⟨by omega, by omega⟩ (by omega)
  refine zGo.locals (ls' := [(0, .ref 7), (1, .int (0 : Int32)), (2, .int (0 : Int32))]) (by simp) ?_
  have w10 := li0
  have w11 := li0
  exact w1L ((8 - 0 : Int).toNat) (0 : Int32) (0 : Int32) ⟨by decide, by decide⟩ (by omega)
theorem C103_7 {X : zX} {l : Launch} {M : zM} {Q : Option Value → zM → Prop} {a : Int32} (hs : zSk zMc M) (hI : zIv cLo cHi M) (hQ : ∀ v : Int32, (-2147483648) ≤ v.toInt → v.toInt ≤ 2147483647 → Q (some (.int v)) M) : zCall X l 2 0 0 103 [.ref 7, .int a] M Q := by
  have ga := zrg a
  refine zs_in (by decide) mf103 (Nat.le_of_ble_eq_true rfl) ?_
  show zGo X l 2 0 0 103 0 [(0, .ref 7), (1, .int a)] [] M _
  refine zs_iconst (pc := 0) t103_0 (v := 0) (by decide) ?_
  refine zs_istore_n (pc := 1) t103_1 (ls' := [(2, .int (0 : Int32)), (0, .ref 7), (1, .int a)]) (zml mf103 (by decide)) rfl ?_
  refine zs_iconst (pc := 2) t103_2 (v := 0) (by decide) ?_
  refine zs_istore_n (pc := 3) t103_3 (ls' := [(3, .int (0 : Int32)), (2, .int (0 : Int32)), (0, .ref 7), (1, .int a)]) (zml mf103 (by decide)) rfl ?_
  have w1L : ∀ (m : Nat) (w1x2 : Int32) (w1x3 : Int32), (0 ≤ w1x3.toInt ∧ w1x3.toInt ≤ 60) → 60 - w1x3.toInt ≤ (m : Int) → zGo X l 2 0 0 103 4 [(0, .ref 7), (1, .int a), (2, .int w1x2), (3, .int w1x3)] [] M Q := by
    intro m
    induction m using Nat.strongRecOn with
    | ind w1m w1ih =>
      intro w1x2 w1x3 w1b3 w1q
      have w1g2 := zrg w1x2
      refine zs_iload_n (pc := 4) t103_4 rfl ?_
      refine zs_aload_n (pc := 5) t103_5 rfl ?_
      have w2 := ib7_3 hI
      refine zs_get (pc := 6) t103_6 (by decide) (zk1 (hs.k fk_zMc_7)) (zfvi rfl rfl) ?_
      by_cases w3 : (zI M 7 3).toInt ≤ w1x3.toInt
      · refine zs_icmp_geT (pc := 9) t103_9 rfl rfl (by omega) ?_
        refine zs_iload_n (pc := 39) t103_39 rfl ?_
        exact zs_iret (pc := 40) t103_40 mr103 rfl (hQ _ (zrg _).1 (zrg _).2)
      · refine zs_icmp_geF (pc := 9) t103_9 rfl rfl (by omega) ?_
        refine zs_aload_n (pc := 12) t103_12 rfl ?_
        refine zs_get (pc := 13) t103_13 (by decide) (zk1 (hs.k fk_zMc_7)) (hs.p rfl fv_zMc_7_4) ?_
        refine zs_iload_n (pc := 16) t103_16 rfl ?_
        obtain ⟨w4n, w4⟩ : ∃ n : Nat, w1x3.toInt = (n : Int) := ⟨w1x3.toInt.toNat, by omega⟩
        have w5 := ib10 hI w4n
        refine zs_iald (pc := 17) t103_17 (j := w4n) (by decide) (zk1 (hs.k fk_zMc_10)) w4 (zk2 (hs.k fk_zMc_10) (by omega)) rfl ?_
        refine zs_iload_n (pc := 18) t103_18 rfl ?_
        by_cases w6 : (zI M 10 w4n).toInt ≠ a.toInt
        · refine zs_icmp_neT (pc := 19) t103_19 rfl rfl (by omega) ?_
          obtain ⟨w7v, w7e, w7⟩ := ziadd (a := w1x3) (b := Int32.ofInt 1) rfl (show (Int32.ofInt 1).toInt = 1 by decide) (by omega) (by omega)
          refine zs_iinc (pc := 33) t103_33 (ls' := [(3, .int w7v), (0, .ref 7), (1, .int a), (2, .int w1x2)]) (zml mf103 (by decide)) rfl (c := w7v) w7e rfl ?_
          refine zs_goto (pc := 36) t103_36 ?_
          refine zGo.locals (ls' := [(0, .ref 7), (1, .int a), (2, .int w1x2), (3, .int w7v)]) (by simp) ?_
          exact w1ih (w1m - 1) (by omega) w1x2 w7v ⟨by omega, by omega⟩ (by omega)
        · refine zs_icmp_neF (pc := 19) t103_19 rfl rfl (by omega) ?_
          refine zs_aload_n (pc := 22) t103_22 rfl ?_
          refine zs_iload_n (pc := 23) t103_23 rfl ?_
          refine zs_invV (pc := 24) (k := 7) (as' := [.int w1x3]) (st := []) t103_24 mf93 rfl rfl (Or.inl ⟨by decide, (zk1 (hs.k fk_zMc_7))⟩) ⟨by decide, by decide, Nat.le_of_ble_eq_true rfl, Nat.le_of_ble_eq_true rfl⟩ (zs_in (by decide) mf93 (Nat.le_of_ble_eq_true rfl) ?_) (fun _ _ q => q)
          show zGo X l 1 0 0 93 0 [(0, .ref 7), (1, .int w1x3)] [] M _
          refine zs_aload_n (pc := 0) t93_0 rfl ?_
          refine zs_iload_n (pc := 1) t93_1 rfl ?_
          refine zs_invV (pc := 2) (k := 7) (as' := [.int w1x3]) (st := []) t93_2 mf91 rfl rfl (Or.inl ⟨by decide, (zk1 (hs.k fk_zMc_7))⟩) ⟨by decide, by decide, Nat.le_of_ble_eq_true rfl, Nat.le_of_ble_eq_true rfl⟩ (zs_in (by decide) mf91 (Nat.le_of_ble_eq_true rfl) ?_) (fun _ _ q => q)
          show zGo X l 0 0 0 91 0 [(0, .ref 7), (1, .int w1x3)] [] M _
          refine zs_iload_n (pc := 0) t91_0 rfl ?_
          refine zs_if_ltF (pc := 1) t91_1 rfl (by omega) ?_
          refine zs_iload_n (pc := 4) t91_4 rfl ?_
          refine zs_aload_n (pc := 5) t91_5 rfl ?_
          refine zs_get (pc := 6) t91_6 (by decide) (zk1 (hs.k fk_zMc_7)) (zfvi rfl rfl) ?_
          by_cases w8 : (zI M 7 3).toInt ≤ w1x3.toInt
          · refine zs_icmp_geT (pc := 9) t91_9 rfl rfl (by omega) ?_
            refine zs_iconst (pc := 16) t91_16 (v := 0) (by decide) ?_
            refine zs_iret (pc := 17) t91_17 mr91 (by decide) ?_
            show zGo X l 1 0 0 93 5 [(0, .ref 7), (1, .int w1x3)] [.int (0 : Int32)] M _
            refine zs_if_eqT (pc := 5) t93_5 li0 (by decide) ?_
            refine zs_iconst (pc := 51) t93_51 (v := 0) (by decide) ?_
            refine zs_iret (pc := 52) t93_52 mr93 (by decide) ?_
            show zGo X l 2 0 0 103 27 [(0, .ref 7), (1, .int a), (2, .int w1x2), (3, .int w1x3)] [.int (0 : Int32)] M _
            refine zs_if_eqT (pc := 27) t103_27 li0 (by decide) ?_
            obtain ⟨w9v, w9e, w9⟩ := ziadd (a := w1x3) (b := Int32.ofInt 1) rfl (show (Int32.ofInt 1).toInt = 1 by decide) (by omega) (by omega)
            refine zs_iinc (pc := 33) t103_33 (ls' := [(3, .int w9v), (0, .ref 7), (1, .int a), (2, .int w1x2)]) (zml mf103 (by decide)) rfl (c := w9v) w9e rfl ?_
            refine zs_goto (pc := 36) t103_36 ?_
            refine zGo.locals (ls' := [(0, .ref 7), (1, .int a), (2, .int w1x2), (3, .int w9v)]) (by simp) ?_
            exact w1ih (w1m - 1) (by omega) w1x2 w9v ⟨by omega, by omega⟩ (by omega)
          · refine zs_icmp_geF (pc := 9) t91_9 rfl rfl (by omega) ?_
            refine zs_iconst (pc := 12) t91_12 (v := 1) (by decide) ?_
            refine zs_goto (pc := 13) t91_13 ?_
            refine zs_iret (pc := 17) t91_17 mr91 (by decide) ?_
            show zGo X l 1 0 0 93 5 [(0, .ref 7), (1, .int w1x3)] [.int (1 : Int32)] M _
            refine zs_if_eqF (pc := 5) t93_5 li1 (by decide) ?_
            refine zs_aload_n (pc := 8) t93_8 rfl ?_
            refine zs_get (pc := 9) t93_9 (by decide) (zk1 (hs.k fk_zMc_7)) (hs.p rfl fv_zMc_7_2) ?_
            refine zs_aload_n (pc := 12) t93_12 rfl ?_
            refine zs_get (pc := 13) t93_13 (by decide) (zk1 (hs.k fk_zMc_7)) (hs.p rfl fv_zMc_7_4) ?_
            refine zs_iload_n (pc := 16) t93_16 rfl ?_
            refine zs_iald (pc := 17) t93_17 (j := w4n) (by decide) (zk1 (hs.k fk_zMc_10)) w4 (zk2 (hs.k fk_zMc_10) (by omega)) rfl ?_
            obtain ⟨w10n, w10⟩ : ∃ n : Nat, (zI M 10 w4n).toInt = (n : Int) := ⟨(zI M 10 w4n).toInt.toNat, by omega⟩
            have w11 := ib9 hI w10n
            refine zs_bald (pc := 18) t93_18 (j := w10n) (Or.inr (zk1 (hs.k fk_zMc_9))) w10 (zk2 (hs.k fk_zMc_9) (by omega)) rfl ?_
            by_cases w12 : (zI M 9 w10n).toInt = 0
            · refine zs_if_eqT (pc := 19) t93_19 rfl (by omega) ?_
              refine zs_iconst (pc := 51) t93_51 (v := 0) (by decide) ?_
              refine zs_iret (pc := 52) t93_52 mr93 (by decide) ?_
              show zGo X l 2 0 0 103 27 [(0, .ref 7), (1, .int a), (2, .int w1x2), (3, .int w1x3)] [.int (0 : Int32)] M _
              refine zs_if_eqT (pc := 27) t103_27 li0 (by decide) ?_
              obtain ⟨w13v, w13e, w13⟩ := ziadd (a := w1x3) (b := Int32.ofInt 1) rfl (show (Int32.ofInt 1).toInt = 1 by decide) (by omega) (by omega)
              refine zs_iinc (pc := 33) t103_33 (ls' := [(3, .int w13v), (0, .ref 7), (1, .int a), (2, .int w1x2)]) (zml mf103 (by decide)) rfl (c := w13v) w13e rfl ?_
              refine zs_goto (pc := 36) t103_36 ?_
              refine zGo.locals (ls' := [(0, .ref 7), (1, .int a), (2, .int w1x2), (3, .int w13v)]) (by simp) ?_
              exact w1ih (w1m - 1) (by omega) w1x2 w13v ⟨by omega, by omega⟩ (by omega)
            · refine zs_if_eqF (pc := 19) t93_19 rfl (by omega) ?_
              refine zs_aload_n (pc := 22) t93_22 rfl ?_
              refine zs_get (pc := 23) t93_23 (by decide) (zk1 (hs.k fk_zMc_7)) (hs.p rfl fv_zMc_7_6) ?_
              refine zs_iload_n (pc := 26) t93_26 rfl ?_
              have w14 := ib12 hI w4n
              refine zs_iald (pc := 27) t93_27 (j := w4n) (by decide) (zk1 (hs.k fk_zMc_12)) w4 (zk2 (hs.k fk_zMc_12) (by omega)) rfl ?_
              refine zs_aload_n (pc := 28) t93_28 rfl ?_
              refine zs_get (pc := 29) t93_29 (by decide) (zk1 (hs.k fk_zMc_7)) (hs.p rfl fv_zMc_7_12) ?_
              refine zs_iconst (pc := 32) t93_32 (v := 5) (by decide) ?_
              have w15 := ib17 hI 5
              refine zs_iald (pc := 33) t93_33 (j := 5) (by decide) (zk1 (hs.k fk_zMc_17)) li5 (zk2 (hs.k fk_zMc_17) (by decide)) rfl ?_
              refine zs_aload_n (pc := 34) t93_34 rfl ?_
              refine zs_get (pc := 35) t93_35 (by decide) (zk1 (hs.k fk_zMc_7)) (hs.p rfl fv_zMc_7_12) ?_
              refine zs_bipush (pc := 38) t93_38 (v := 6) (by decide) ?_
              have w16 := ib17 hI 6
              refine zs_iald (pc := 40) t93_40 (j := 6) (by decide) (zk1 (hs.k fk_zMc_17)) li6 (zk2 (hs.k fk_zMc_17) (by decide)) rfl ?_
              refine zs_invS (pc := 41) (as := [.int (zI M 12 w4n), .int (zI M 17 5), .int (zI M 17 6)]) (st := []) t93_41 (by decide) mf39 rfl rfl ⟨by decide, by decide, Nat.le_of_ble_eq_true rfl, Nat.le_of_ble_eq_true rfl⟩ (zs_in (by decide) mf39 (Nat.le_of_ble_eq_true rfl) ?_) (fun _ _ q => q)
              show zGo X l 0 0 0 39 0 [(0, .int (zI M 12 w4n)), (1, .int (zI M 17 5)), (2, .int (zI M 17 6))] [] M _
              refine zs_iload_n (pc := 0) t39_0 rfl ?_
              refine zs_iload_n (pc := 1) t39_1 rfl ?_
              by_cases w17 : (zI M 12 w4n).toInt < (zI M 17 5).toInt
              · refine zs_icmp_ltT (pc := 2) t39_2 rfl rfl (by omega) ?_
                refine zs_iconst (pc := 14) t39_14 (v := 0) (by decide) ?_
                refine zs_iret (pc := 15) t39_15 mr39 (by decide) ?_
                show zGo X l 1 0 0 93 44 [(0, .ref 7), (1, .int w1x3)] [.int (0 : Int32)] M _
                refine zs_if_eqT (pc := 44) t93_44 li0 (by decide) ?_
                refine zs_iconst (pc := 51) t93_51 (v := 0) (by decide) ?_
                refine zs_iret (pc := 52) t93_52 mr93 (by decide) ?_
                show zGo X l 2 0 0 103 27 [(0, .ref 7), (1, .int a), (2, .int w1x2), (3, .int w1x3)] [.int (0 : Int32)] M _
                refine zs_if_eqT (pc := 27) t103_27 li0 (by decide) ?_
                obtain ⟨w18v, w18e, w18⟩ := ziadd (a := w1x3) (b := Int32.ofInt 1) rfl (show (Int32.ofInt 1).toInt = 1 by decide) (by omega) (by omega)
                refine zs_iinc (pc := 33) t103_33 (ls' := [(3, .int w18v), (0, .ref 7), (1, .int a), (2, .int w1x2)]) (zml mf103 (by decide)) rfl (c := w18v) w18e rfl ?_
                refine zs_goto (pc := 36) t103_36 ?_
                refine zGo.locals (ls' := [(0, .ref 7), (1, .int a), (2, .int w1x2), (3, .int w18v)]) (by simp) ?_
                exact w1ih (w1m - 1) (by omega) w1x2 w18v ⟨by omega, by omega⟩ (by omega)
              · refine zs_icmp_ltF (pc := 2) t39_2 rfl rfl (by omega) ?_
                refine zs_iload_n (pc := 5) t39_5 rfl ?_
                refine zs_iload_n (pc := 6) t39_6 rfl ?_
                by_cases w19 : (zI M 17 6).toInt < (zI M 12 w4n).toInt
                · refine zs_icmp_gtT (pc := 7) t39_7 rfl rfl (by omega) ?_
                  refine zs_iconst (pc := 14) t39_14 (v := 0) (by decide) ?_
                  refine zs_iret (pc := 15) t39_15 mr39 (by decide) ?_
                  show zGo X l 1 0 0 93 44 [(0, .ref 7), (1, .int w1x3)] [.int (0 : Int32)] M _
                  refine zs_if_eqT (pc := 44) t93_44 li0 (by decide) ?_
                  refine zs_iconst (pc := 51) t93_51 (v := 0) (by decide) ?_
                  refine zs_iret (pc := 52) t93_52 mr93 (by decide) ?_
                  show zGo X l 2 0 0 103 27 [(0, .ref 7), (1, .int a), (2, .int w1x2), (3, .int w1x3)] [.int (0 : Int32)] M _
                  refine zs_if_eqT (pc := 27) t103_27 li0 (by decide) ?_
                  obtain ⟨w20v, w20e, w20⟩ := ziadd (a := w1x3) (b := Int32.ofInt 1) rfl (show (Int32.ofInt 1).toInt = 1 by decide) (by omega) (by omega)
                  refine zs_iinc (pc := 33) t103_33 (ls' := [(3, .int w20v), (0, .ref 7), (1, .int a), (2, .int w1x2)]) (zml mf103 (by decide)) rfl (c := w20v) w20e rfl ?_
                  refine zs_goto (pc := 36) t103_36 ?_
                  refine zGo.locals (ls' := [(0, .ref 7), (1, .int a), (2, .int w1x2), (3, .int w20v)]) (by simp) ?_
                  exact w1ih (w1m - 1) (by omega) w1x2 w20v ⟨by omega, by omega⟩ (by omega)
                · refine zs_icmp_gtF (pc := 7) t39_7 rfl rfl (by omega) ?_
                  refine zs_iconst (pc := 10) t39_10 (v := 1) (by decide) ?_
                  refine zs_goto (pc := 11) t39_11 ?_
                  refine zs_iret (pc := 15) t39_15 mr39 (by decide) ?_
                  show zGo X l 1 0 0 93 44 [(0, .ref 7), (1, .int w1x3)] [.int (1 : Int32)] M _
                  refine zs_if_eqF (pc := 44) t93_44 li1 (by decide) ?_
                  refine zs_iconst (pc := 47) t93_47 (v := 1) (by decide) ?_
                  refine zs_goto (pc := 48) t93_48 ?_
                  refine zs_iret (pc := 52) t93_52 mr93 (by decide) ?_
                  show zGo X l 2 0 0 103 27 [(0, .ref 7), (1, .int a), (2, .int w1x2), (3, .int w1x3)] [.int (1 : Int32)] M _
                  refine zs_if_eqF (pc := 27) t103_27 li1 (by decide) ?_
                  obtain ⟨w21v, w21e⟩ : ∃ v, w1x2 + Int32.ofInt 1 = v := ⟨_, rfl⟩
                  have w21 := zrg w21v
                  refine zs_iinc (pc := 30) t103_30 (ls' := [(2, .int w21v), (0, .ref 7), (1, .int a), (3, .int w1x3)]) (zml mf103 (by decide)) rfl (c := w21v) w21e rfl ?_
                  obtain ⟨w22v, w22e, w22⟩ := ziadd (a := w1x3) (b := Int32.ofInt 1) rfl (show (Int32.ofInt 1).toInt = 1 by decide) (by omega) (by omega)
                  refine zs_iinc (pc := 33) t103_33 (ls' := [(3, .int w22v), (2, .int w21v), (0, .ref 7), (1, .int a)]) (zml mf103 (by decide)) rfl (c := w22v) w22e rfl ?_
                  refine zs_goto (pc := 36) t103_36 ?_
                  refine zGo.locals (ls' := [(0, .ref 7), (1, .int a), (2, .int w21v), (3, .int w22v)]) (by simp) ?_
                  exact w1ih (w1m - 1) (by omega) w21v w22v ⟨by omega, by omega⟩ (by omega)
  refine zGo.locals (ls' := [(0, .ref 7), (1, .int a), (2, .int (0 : Int32)), (3, .int (0 : Int32))]) (by simp) ?_
  have w23 := li0
  have w24 := li0
  exact w1L ((60 - 0 : Int).toNat) (0 : Int32) (0 : Int32) ⟨by decide, by decide⟩ (by omega)
theorem C128_7 {X : zX} {l : Launch} {M : zM} {Q : Option Value → zM → Prop} {a : Int32} (hs : zSk zMc M) (hI : zIv cLo cHi M) (hQ : ∀ v : Int32, (-2147483648) ≤ v.toInt → v.toInt ≤ 2147483647 → Q (some (.int v)) M) : zCall X l 2 0 0 128 [.ref 7, .int a] M Q := by
  have ga := zrg a
  refine zs_in (by decide) mf128 (Nat.le_of_ble_eq_true rfl) ?_
  show zGo X l 2 0 0 128 0 [(0, .ref 7), (1, .int a)] [] M _
  refine zs_iconst (pc := 0) t128_0 (v := 0) (by decide) ?_
  refine zs_istore_n (pc := 1) t128_1 (ls' := [(2, .int (0 : Int32)), (0, .ref 7), (1, .int a)]) (zml mf128 (by decide)) rfl ?_
  refine zs_iconst (pc := 2) t128_2 (v := 0) (by decide) ?_
  refine zs_istore_n (pc := 3) t128_3 (ls' := [(3, .int (0 : Int32)), (2, .int (0 : Int32)), (0, .ref 7), (1, .int a)]) (zml mf128 (by decide)) rfl ?_
  have w1L : ∀ (m : Nat) (w1x2 : Int32) (w1x3 : Int32), (0 ≤ w1x3.toInt ∧ w1x3.toInt ≤ 60) → 60 - w1x3.toInt ≤ (m : Int) → zGo X l 2 0 0 128 4 [(0, .ref 7), (1, .int a), (2, .int w1x2), (3, .int w1x3)] [] M Q := by
    intro m
    induction m using Nat.strongRecOn with
    | ind w1m w1ih =>
      intro w1x2 w1x3 w1b3 w1q
      have w1g2 := zrg w1x2
      refine zs_iload_n (pc := 4) t128_4 rfl ?_
      refine zs_aload_n (pc := 5) t128_5 rfl ?_
      have w2 := ib7_3 hI
      refine zs_get (pc := 6) t128_6 (by decide) (zk1 (hs.k fk_zMc_7)) (zfvi rfl rfl) ?_
      by_cases w3 : (zI M 7 3).toInt ≤ w1x3.toInt
      · refine zs_icmp_geT (pc := 9) t128_9 rfl rfl (by omega) ?_
        refine zs_iload_n (pc := 39) t128_39 rfl ?_
        exact zs_iret (pc := 40) t128_40 mr128 rfl (hQ _ (zrg _).1 (zrg _).2)
      · refine zs_icmp_geF (pc := 9) t128_9 rfl rfl (by omega) ?_
        refine zs_aload_n (pc := 12) t128_12 rfl ?_
        refine zs_get (pc := 13) t128_13 (by decide) (zk1 (hs.k fk_zMc_7)) (hs.p rfl fv_zMc_7_7) ?_
        refine zs_iload_n (pc := 16) t128_16 rfl ?_
        obtain ⟨w4n, w4⟩ : ∃ n : Nat, w1x3.toInt = (n : Int) := ⟨w1x3.toInt.toNat, by omega⟩
        have w5 := ib13 hI w4n
        refine zs_iald (pc := 17) t128_17 (j := w4n) (by decide) (zk1 (hs.k fk_zMc_13)) w4 (zk2 (hs.k fk_zMc_13) (by omega)) rfl ?_
        refine zs_iload_n (pc := 18) t128_18 rfl ?_
        by_cases w6 : (zI M 13 w4n).toInt ≠ a.toInt
        · refine zs_icmp_neT (pc := 19) t128_19 rfl rfl (by omega) ?_
          obtain ⟨w7v, w7e, w7⟩ := ziadd (a := w1x3) (b := Int32.ofInt 1) rfl (show (Int32.ofInt 1).toInt = 1 by decide) (by omega) (by omega)
          refine zs_iinc (pc := 33) t128_33 (ls' := [(3, .int w7v), (0, .ref 7), (1, .int a), (2, .int w1x2)]) (zml mf128 (by decide)) rfl (c := w7v) w7e rfl ?_
          refine zs_goto (pc := 36) t128_36 ?_
          refine zGo.locals (ls' := [(0, .ref 7), (1, .int a), (2, .int w1x2), (3, .int w7v)]) (by simp) ?_
          exact w1ih (w1m - 1) (by omega) w1x2 w7v ⟨by omega, by omega⟩ (by omega)
        · refine zs_icmp_neF (pc := 19) t128_19 rfl rfl (by omega) ?_
          refine zs_aload_n (pc := 22) t128_22 rfl ?_
          refine zs_iload_n (pc := 23) t128_23 rfl ?_
          refine zs_invV (pc := 24) (k := 7) (as' := [.int w1x3]) (st := []) t128_24 mf93 rfl rfl (Or.inl ⟨by decide, (zk1 (hs.k fk_zMc_7))⟩) ⟨by decide, by decide, Nat.le_of_ble_eq_true rfl, Nat.le_of_ble_eq_true rfl⟩ (zs_in (by decide) mf93 (Nat.le_of_ble_eq_true rfl) ?_) (fun _ _ q => q)
          show zGo X l 1 0 0 93 0 [(0, .ref 7), (1, .int w1x3)] [] M _
          refine zs_aload_n (pc := 0) t93_0 rfl ?_
          refine zs_iload_n (pc := 1) t93_1 rfl ?_
          refine zs_invV (pc := 2) (k := 7) (as' := [.int w1x3]) (st := []) t93_2 mf91 rfl rfl (Or.inl ⟨by decide, (zk1 (hs.k fk_zMc_7))⟩) ⟨by decide, by decide, Nat.le_of_ble_eq_true rfl, Nat.le_of_ble_eq_true rfl⟩ (zs_in (by decide) mf91 (Nat.le_of_ble_eq_true rfl) ?_) (fun _ _ q => q)
          show zGo X l 0 0 0 91 0 [(0, .ref 7), (1, .int w1x3)] [] M _
          refine zs_iload_n (pc := 0) t91_0 rfl ?_
          refine zs_if_ltF (pc := 1) t91_1 rfl (by omega) ?_
          refine zs_iload_n (pc := 4) t91_4 rfl ?_
          refine zs_aload_n (pc := 5) t91_5 rfl ?_
          refine zs_get (pc := 6) t91_6 (by decide) (zk1 (hs.k fk_zMc_7)) (zfvi rfl rfl) ?_
          by_cases w8 : (zI M 7 3).toInt ≤ w1x3.toInt
          · refine zs_icmp_geT (pc := 9) t91_9 rfl rfl (by omega) ?_
            refine zs_iconst (pc := 16) t91_16 (v := 0) (by decide) ?_
            refine zs_iret (pc := 17) t91_17 mr91 (by decide) ?_
            show zGo X l 1 0 0 93 5 [(0, .ref 7), (1, .int w1x3)] [.int (0 : Int32)] M _
            refine zs_if_eqT (pc := 5) t93_5 li0 (by decide) ?_
            refine zs_iconst (pc := 51) t93_51 (v := 0) (by decide) ?_
            refine zs_iret (pc := 52) t93_52 mr93 (by decide) ?_
            show zGo X l 2 0 0 128 27 [(0, .ref 7), (1, .int a), (2, .int w1x2), (3, .int w1x3)] [.int (0 : Int32)] M _
            refine zs_if_eqT (pc := 27) t128_27 li0 (by decide) ?_
            obtain ⟨w9v, w9e, w9⟩ := ziadd (a := w1x3) (b := Int32.ofInt 1) rfl (show (Int32.ofInt 1).toInt = 1 by decide) (by omega) (by omega)
            refine zs_iinc (pc := 33) t128_33 (ls' := [(3, .int w9v), (0, .ref 7), (1, .int a), (2, .int w1x2)]) (zml mf128 (by decide)) rfl (c := w9v) w9e rfl ?_
            refine zs_goto (pc := 36) t128_36 ?_
            refine zGo.locals (ls' := [(0, .ref 7), (1, .int a), (2, .int w1x2), (3, .int w9v)]) (by simp) ?_
            exact w1ih (w1m - 1) (by omega) w1x2 w9v ⟨by omega, by omega⟩ (by omega)
          · refine zs_icmp_geF (pc := 9) t91_9 rfl rfl (by omega) ?_
            refine zs_iconst (pc := 12) t91_12 (v := 1) (by decide) ?_
            refine zs_goto (pc := 13) t91_13 ?_
            refine zs_iret (pc := 17) t91_17 mr91 (by decide) ?_
            show zGo X l 1 0 0 93 5 [(0, .ref 7), (1, .int w1x3)] [.int (1 : Int32)] M _
            refine zs_if_eqF (pc := 5) t93_5 li1 (by decide) ?_
            refine zs_aload_n (pc := 8) t93_8 rfl ?_
            refine zs_get (pc := 9) t93_9 (by decide) (zk1 (hs.k fk_zMc_7)) (hs.p rfl fv_zMc_7_2) ?_
            refine zs_aload_n (pc := 12) t93_12 rfl ?_
            refine zs_get (pc := 13) t93_13 (by decide) (zk1 (hs.k fk_zMc_7)) (hs.p rfl fv_zMc_7_4) ?_
            refine zs_iload_n (pc := 16) t93_16 rfl ?_
            have w10 := ib10 hI w4n
            refine zs_iald (pc := 17) t93_17 (j := w4n) (by decide) (zk1 (hs.k fk_zMc_10)) w4 (zk2 (hs.k fk_zMc_10) (by omega)) rfl ?_
            obtain ⟨w11n, w11⟩ : ∃ n : Nat, (zI M 10 w4n).toInt = (n : Int) := ⟨(zI M 10 w4n).toInt.toNat, by omega⟩
            have w12 := ib9 hI w11n
            refine zs_bald (pc := 18) t93_18 (j := w11n) (Or.inr (zk1 (hs.k fk_zMc_9))) w11 (zk2 (hs.k fk_zMc_9) (by omega)) rfl ?_
            by_cases w13 : (zI M 9 w11n).toInt = 0
            · refine zs_if_eqT (pc := 19) t93_19 rfl (by omega) ?_
              refine zs_iconst (pc := 51) t93_51 (v := 0) (by decide) ?_
              refine zs_iret (pc := 52) t93_52 mr93 (by decide) ?_
              show zGo X l 2 0 0 128 27 [(0, .ref 7), (1, .int a), (2, .int w1x2), (3, .int w1x3)] [.int (0 : Int32)] M _
              refine zs_if_eqT (pc := 27) t128_27 li0 (by decide) ?_
              obtain ⟨w14v, w14e, w14⟩ := ziadd (a := w1x3) (b := Int32.ofInt 1) rfl (show (Int32.ofInt 1).toInt = 1 by decide) (by omega) (by omega)
              refine zs_iinc (pc := 33) t128_33 (ls' := [(3, .int w14v), (0, .ref 7), (1, .int a), (2, .int w1x2)]) (zml mf128 (by decide)) rfl (c := w14v) w14e rfl ?_
              refine zs_goto (pc := 36) t128_36 ?_
              refine zGo.locals (ls' := [(0, .ref 7), (1, .int a), (2, .int w1x2), (3, .int w14v)]) (by simp) ?_
              exact w1ih (w1m - 1) (by omega) w1x2 w14v ⟨by omega, by omega⟩ (by omega)
            · refine zs_if_eqF (pc := 19) t93_19 rfl (by omega) ?_
              refine zs_aload_n (pc := 22) t93_22 rfl ?_
              refine zs_get (pc := 23) t93_23 (by decide) (zk1 (hs.k fk_zMc_7)) (hs.p rfl fv_zMc_7_6) ?_
              refine zs_iload_n (pc := 26) t93_26 rfl ?_
              have w15 := ib12 hI w4n
              refine zs_iald (pc := 27) t93_27 (j := w4n) (by decide) (zk1 (hs.k fk_zMc_12)) w4 (zk2 (hs.k fk_zMc_12) (by omega)) rfl ?_
              refine zs_aload_n (pc := 28) t93_28 rfl ?_
              refine zs_get (pc := 29) t93_29 (by decide) (zk1 (hs.k fk_zMc_7)) (hs.p rfl fv_zMc_7_12) ?_
              refine zs_iconst (pc := 32) t93_32 (v := 5) (by decide) ?_
              have w16 := ib17 hI 5
              refine zs_iald (pc := 33) t93_33 (j := 5) (by decide) (zk1 (hs.k fk_zMc_17)) li5 (zk2 (hs.k fk_zMc_17) (by decide)) rfl ?_
              refine zs_aload_n (pc := 34) t93_34 rfl ?_
              refine zs_get (pc := 35) t93_35 (by decide) (zk1 (hs.k fk_zMc_7)) (hs.p rfl fv_zMc_7_12) ?_
              refine zs_bipush (pc := 38) t93_38 (v := 6) (by decide) ?_
              have w17 := ib17 hI 6
              refine zs_iald (pc := 40) t93_40 (j := 6) (by decide) (zk1 (hs.k fk_zMc_17)) li6 (zk2 (hs.k fk_zMc_17) (by decide)) rfl ?_
              refine zs_invS (pc := 41) (as := [.int (zI M 12 w4n), .int (zI M 17 5), .int (zI M 17 6)]) (st := []) t93_41 (by decide) mf39 rfl rfl ⟨by decide, by decide, Nat.le_of_ble_eq_true rfl, Nat.le_of_ble_eq_true rfl⟩ (zs_in (by decide) mf39 (Nat.le_of_ble_eq_true rfl) ?_) (fun _ _ q => q)
              show zGo X l 0 0 0 39 0 [(0, .int (zI M 12 w4n)), (1, .int (zI M 17 5)), (2, .int (zI M 17 6))] [] M _
              refine zs_iload_n (pc := 0) t39_0 rfl ?_
              refine zs_iload_n (pc := 1) t39_1 rfl ?_
              by_cases w18 : (zI M 12 w4n).toInt < (zI M 17 5).toInt
              · refine zs_icmp_ltT (pc := 2) t39_2 rfl rfl (by omega) ?_
                refine zs_iconst (pc := 14) t39_14 (v := 0) (by decide) ?_
                refine zs_iret (pc := 15) t39_15 mr39 (by decide) ?_
                show zGo X l 1 0 0 93 44 [(0, .ref 7), (1, .int w1x3)] [.int (0 : Int32)] M _
                refine zs_if_eqT (pc := 44) t93_44 li0 (by decide) ?_
                refine zs_iconst (pc := 51) t93_51 (v := 0) (by decide) ?_
                refine zs_iret (pc := 52) t93_52 mr93 (by decide) ?_
                show zGo X l 2 0 0 128 27 [(0, .ref 7), (1, .int a), (2, .int w1x2), (3, .int w1x3)] [.int (0 : Int32)] M _
                refine zs_if_eqT (pc := 27) t128_27 li0 (by decide) ?_
                obtain ⟨w19v, w19e, w19⟩ := ziadd (a := w1x3) (b := Int32.ofInt 1) rfl (show (Int32.ofInt 1).toInt = 1 by decide) (by omega) (by omega)
                refine zs_iinc (pc := 33) t128_33 (ls' := [(3, .int w19v), (0, .ref 7), (1, .int a), (2, .int w1x2)]) (zml mf128 (by decide)) rfl (c := w19v) w19e rfl ?_
                refine zs_goto (pc := 36) t128_36 ?_
                refine zGo.locals (ls' := [(0, .ref 7), (1, .int a), (2, .int w1x2), (3, .int w19v)]) (by simp) ?_
                exact w1ih (w1m - 1) (by omega) w1x2 w19v ⟨by omega, by omega⟩ (by omega)
              · refine zs_icmp_ltF (pc := 2) t39_2 rfl rfl (by omega) ?_
                refine zs_iload_n (pc := 5) t39_5 rfl ?_
                refine zs_iload_n (pc := 6) t39_6 rfl ?_
                by_cases w20 : (zI M 17 6).toInt < (zI M 12 w4n).toInt
                · refine zs_icmp_gtT (pc := 7) t39_7 rfl rfl (by omega) ?_
                  refine zs_iconst (pc := 14) t39_14 (v := 0) (by decide) ?_
                  refine zs_iret (pc := 15) t39_15 mr39 (by decide) ?_
                  show zGo X l 1 0 0 93 44 [(0, .ref 7), (1, .int w1x3)] [.int (0 : Int32)] M _
                  refine zs_if_eqT (pc := 44) t93_44 li0 (by decide) ?_
                  refine zs_iconst (pc := 51) t93_51 (v := 0) (by decide) ?_
                  refine zs_iret (pc := 52) t93_52 mr93 (by decide) ?_
                  show zGo X l 2 0 0 128 27 [(0, .ref 7), (1, .int a), (2, .int w1x2), (3, .int w1x3)] [.int (0 : Int32)] M _
                  refine zs_if_eqT (pc := 27) t128_27 li0 (by decide) ?_
                  obtain ⟨w21v, w21e, w21⟩ := ziadd (a := w1x3) (b := Int32.ofInt 1) rfl (show (Int32.ofInt 1).toInt = 1 by decide) (by omega) (by omega)
                  refine zs_iinc (pc := 33) t128_33 (ls' := [(3, .int w21v), (0, .ref 7), (1, .int a), (2, .int w1x2)]) (zml mf128 (by decide)) rfl (c := w21v) w21e rfl ?_
                  refine zs_goto (pc := 36) t128_36 ?_
                  refine zGo.locals (ls' := [(0, .ref 7), (1, .int a), (2, .int w1x2), (3, .int w21v)]) (by simp) ?_
                  exact w1ih (w1m - 1) (by omega) w1x2 w21v ⟨by omega, by omega⟩ (by omega)
                · refine zs_icmp_gtF (pc := 7) t39_7 rfl rfl (by omega) ?_
                  refine zs_iconst (pc := 10) t39_10 (v := 1) (by decide) ?_
                  refine zs_goto (pc := 11) t39_11 ?_
                  refine zs_iret (pc := 15) t39_15 mr39 (by decide) ?_
                  show zGo X l 1 0 0 93 44 [(0, .ref 7), (1, .int w1x3)] [.int (1 : Int32)] M _
                  refine zs_if_eqF (pc := 44) t93_44 li1 (by decide) ?_
                  refine zs_iconst (pc := 47) t93_47 (v := 1) (by decide) ?_
                  refine zs_goto (pc := 48) t93_48 ?_
                  refine zs_iret (pc := 52) t93_52 mr93 (by decide) ?_
                  show zGo X l 2 0 0 128 27 [(0, .ref 7), (1, .int a), (2, .int w1x2), (3, .int w1x3)] [.int (1 : Int32)] M _
                  refine zs_if_eqF (pc := 27) t128_27 li1 (by decide) ?_
                  obtain ⟨w22v, w22e⟩ : ∃ v, w1x2 + Int32.ofInt 1 = v := ⟨_, rfl⟩
                  have w22 := zrg w22v
                  refine zs_iinc (pc := 30) t128_30 (ls' := [(2, .int w22v), (0, .ref 7), (1, .int a), (3, .int w1x3)]) (zml mf128 (by decide)) rfl (c := w22v) w22e rfl ?_
                  obtain ⟨w23v, w23e, w23⟩ := ziadd (a := w1x3) (b := Int32.ofInt 1) rfl (show (Int32.ofInt 1).toInt = 1 by decide) (by omega) (by omega)
                  refine zs_iinc (pc := 33) t128_33 (ls' := [(3, .int w23v), (2, .int w22v), (0, .ref 7), (1, .int a)]) (zml mf128 (by decide)) rfl (c := w23v) w23e rfl ?_
                  refine zs_goto (pc := 36) t128_36 ?_
                  refine zGo.locals (ls' := [(0, .ref 7), (1, .int a), (2, .int w22v), (3, .int w23v)]) (by simp) ?_
                  exact w1ih (w1m - 1) (by omega) w22v w23v ⟨by omega, by omega⟩ (by omega)
  refine zGo.locals (ls' := [(0, .ref 7), (1, .int a), (2, .int (0 : Int32)), (3, .int (0 : Int32))]) (by simp) ?_
  have w24 := li0
  have w25 := li0
  exact w1L ((60 - 0 : Int).toNat) (0 : Int32) (0 : Int32) ⟨by decide, by decide⟩ (by omega)
theorem C211_7 {X : zX} {l : Launch} {M : zM} {Q : Option Value → zM → Prop} {a b : Int32} (hs : zSk zMc M) (hI : zIv cLo cHi M) (hQ : ∀ v : Int32, (-2147483648) ≤ v.toInt → v.toInt ≤ 2147483647 → Q (some (.int v)) M) : zCall X l 1 0 0 211 [.ref 7, .int a, .int b] M Q := by
  have ga := zrg a
  have gb := zrg b
  refine zs_in (by decide) mf211 (Nat.le_of_ble_eq_true rfl) ?_
  show zGo X l 1 0 0 211 0 [(0, .ref 7), (1, .int a), (2, .int b)] [] M _
  refine zs_iconst (pc := 0) t211_0 (v := 0) (by decide) ?_
  refine zs_istore_n (pc := 1) t211_1 (ls' := [(3, .int (0 : Int32)), (0, .ref 7), (1, .int a), (2, .int b)]) (zml mf211 (by decide)) rfl ?_
  refine zs_iconst (pc := 2) t211_2 (v := 0) (by decide) ?_
  refine zs_istore (pc := 3) t211_3 (ls' := [(4, .int (0 : Int32)), (3, .int (0 : Int32)), (0, .ref 7), (1, .int a), (2, .int b)]) (zml mf211 (by decide)) rfl ?_
  have w1L : ∀ (m : Nat) (w1x3 : Int32) (w1x4 : Int32), (0 ≤ w1x4.toInt ∧ w1x4.toInt ≤ 60) → 60 - w1x4.toInt ≤ (m : Int) → zGo X l 1 0 0 211 5 [(0, .ref 7), (1, .int a), (2, .int b), (3, .int w1x3), (4, .int w1x4)] [] M Q := by
    intro m
    induction m using Nat.strongRecOn with
    | ind w1m w1ih =>
      intro w1x3 w1x4 w1b4 w1q
      have w1g3 := zrg w1x3
      refine zs_iload (pc := 5) t211_5 rfl ?_
      refine zs_aload_n (pc := 7) t211_7 rfl ?_
      have w2 := ib7_3 hI
      refine zs_get (pc := 8) t211_8 (by decide) (zk1 (hs.k fk_zMc_7)) (zfvi rfl rfl) ?_
      by_cases w3 : (zI M 7 3).toInt ≤ w1x4.toInt
      · refine zs_icmp_geT (pc := 11) t211_11 rfl rfl (by omega) ?_
        refine zs_iload_n (pc := 53) t211_53 rfl ?_
        exact zs_iret (pc := 54) t211_54 mr211 rfl (hQ _ (zrg _).1 (zrg _).2)
      · refine zs_icmp_geF (pc := 11) t211_11 rfl rfl (by omega) ?_
        refine zs_aload_n (pc := 14) t211_14 rfl ?_
        refine zs_get (pc := 15) t211_15 (by decide) (zk1 (hs.k fk_zMc_7)) (hs.p rfl fv_zMc_7_2) ?_
        refine zs_aload_n (pc := 18) t211_18 rfl ?_
        refine zs_get (pc := 19) t211_19 (by decide) (zk1 (hs.k fk_zMc_7)) (hs.p rfl fv_zMc_7_4) ?_
        refine zs_iload (pc := 22) t211_22 rfl ?_
        obtain ⟨w4n, w4⟩ : ∃ n : Nat, w1x4.toInt = (n : Int) := ⟨w1x4.toInt.toNat, by omega⟩
        have w5 := ib10 hI w4n
        refine zs_iald (pc := 24) t211_24 (j := w4n) (by decide) (zk1 (hs.k fk_zMc_10)) w4 (zk2 (hs.k fk_zMc_10) (by omega)) rfl ?_
        obtain ⟨w6n, w6⟩ : ∃ n : Nat, (zI M 10 w4n).toInt = (n : Int) := ⟨(zI M 10 w4n).toInt.toNat, by omega⟩
        have w7 := ib9 hI w6n
        refine zs_bald (pc := 25) t211_25 (j := w6n) (Or.inr (zk1 (hs.k fk_zMc_9))) w6 (zk2 (hs.k fk_zMc_9) (by omega)) rfl ?_
        by_cases w8 : (zI M 9 w6n).toInt = 0
        · refine zs_if_eqT (pc := 26) t211_26 rfl (by omega) ?_
          obtain ⟨w9v, w9e, w9⟩ := ziadd (a := w1x4) (b := Int32.ofInt 1) rfl (show (Int32.ofInt 1).toInt = 1 by decide) (by omega) (by omega)
          refine zs_iinc (pc := 47) t211_47 (ls' := [(4, .int w9v), (0, .ref 7), (1, .int a), (2, .int b), (3, .int w1x3)]) (zml mf211 (by decide)) rfl (c := w9v) w9e rfl ?_
          refine zs_goto (pc := 50) t211_50 ?_
          refine zGo.locals (ls' := [(0, .ref 7), (1, .int a), (2, .int b), (3, .int w1x3), (4, .int w9v)]) (by simp) ?_
          exact w1ih (w1m - 1) (by omega) w1x3 w9v ⟨by omega, by omega⟩ (by omega)
        · refine zs_if_eqF (pc := 26) t211_26 rfl (by omega) ?_
          refine zs_aload_n (pc := 29) t211_29 rfl ?_
          refine zs_get (pc := 30) t211_30 (by decide) (zk1 (hs.k fk_zMc_7)) (hs.p rfl fv_zMc_7_6) ?_
          refine zs_iload (pc := 33) t211_33 rfl ?_
          have w10 := ib12 hI w4n
          refine zs_iald (pc := 35) t211_35 (j := w4n) (by decide) (zk1 (hs.k fk_zMc_12)) w4 (zk2 (hs.k fk_zMc_12) (by omega)) rfl ?_
          refine zs_iload_n (pc := 36) t211_36 rfl ?_
          refine zs_iload_n (pc := 37) t211_37 rfl ?_
          refine zs_invS (pc := 38) (as := [.int (zI M 12 w4n), .int a, .int b]) (st := []) t211_38 (by decide) mf39 rfl rfl ⟨by decide, by decide, Nat.le_of_ble_eq_true rfl, Nat.le_of_ble_eq_true rfl⟩ (zs_in (by decide) mf39 (Nat.le_of_ble_eq_true rfl) ?_) (fun _ _ q => q)
          show zGo X l 0 0 0 39 0 [(0, .int (zI M 12 w4n)), (1, .int a), (2, .int b)] [] M _
          refine zs_iload_n (pc := 0) t39_0 rfl ?_
          refine zs_iload_n (pc := 1) t39_1 rfl ?_
          by_cases w11 : (zI M 12 w4n).toInt < a.toInt
          · refine zs_icmp_ltT (pc := 2) t39_2 rfl rfl (by omega) ?_
            refine zs_iconst (pc := 14) t39_14 (v := 0) (by decide) ?_
            refine zs_iret (pc := 15) t39_15 mr39 (by decide) ?_
            show zGo X l 1 0 0 211 41 [(0, .ref 7), (1, .int a), (2, .int b), (3, .int w1x3), (4, .int w1x4)] [.int (0 : Int32)] M _
            refine zs_if_eqT (pc := 41) t211_41 li0 (by decide) ?_
            obtain ⟨w12v, w12e, w12⟩ := ziadd (a := w1x4) (b := Int32.ofInt 1) rfl (show (Int32.ofInt 1).toInt = 1 by decide) (by omega) (by omega)
            refine zs_iinc (pc := 47) t211_47 (ls' := [(4, .int w12v), (0, .ref 7), (1, .int a), (2, .int b), (3, .int w1x3)]) (zml mf211 (by decide)) rfl (c := w12v) w12e rfl ?_
            refine zs_goto (pc := 50) t211_50 ?_
            refine zGo.locals (ls' := [(0, .ref 7), (1, .int a), (2, .int b), (3, .int w1x3), (4, .int w12v)]) (by simp) ?_
            exact w1ih (w1m - 1) (by omega) w1x3 w12v ⟨by omega, by omega⟩ (by omega)
          · refine zs_icmp_ltF (pc := 2) t39_2 rfl rfl (by omega) ?_
            refine zs_iload_n (pc := 5) t39_5 rfl ?_
            refine zs_iload_n (pc := 6) t39_6 rfl ?_
            by_cases w13 : b.toInt < (zI M 12 w4n).toInt
            · refine zs_icmp_gtT (pc := 7) t39_7 rfl rfl (by omega) ?_
              refine zs_iconst (pc := 14) t39_14 (v := 0) (by decide) ?_
              refine zs_iret (pc := 15) t39_15 mr39 (by decide) ?_
              show zGo X l 1 0 0 211 41 [(0, .ref 7), (1, .int a), (2, .int b), (3, .int w1x3), (4, .int w1x4)] [.int (0 : Int32)] M _
              refine zs_if_eqT (pc := 41) t211_41 li0 (by decide) ?_
              obtain ⟨w14v, w14e, w14⟩ := ziadd (a := w1x4) (b := Int32.ofInt 1) rfl (show (Int32.ofInt 1).toInt = 1 by decide) (by omega) (by omega)
              refine zs_iinc (pc := 47) t211_47 (ls' := [(4, .int w14v), (0, .ref 7), (1, .int a), (2, .int b), (3, .int w1x3)]) (zml mf211 (by decide)) rfl (c := w14v) w14e rfl ?_
              refine zs_goto (pc := 50) t211_50 ?_
              refine zGo.locals (ls' := [(0, .ref 7), (1, .int a), (2, .int b), (3, .int w1x3), (4, .int w14v)]) (by simp) ?_
              exact w1ih (w1m - 1) (by omega) w1x3 w14v ⟨by omega, by omega⟩ (by omega)
            · refine zs_icmp_gtF (pc := 7) t39_7 rfl rfl (by omega) ?_
              refine zs_iconst (pc := 10) t39_10 (v := 1) (by decide) ?_
              refine zs_goto (pc := 11) t39_11 ?_
              refine zs_iret (pc := 15) t39_15 mr39 (by decide) ?_
              show zGo X l 1 0 0 211 41 [(0, .ref 7), (1, .int a), (2, .int b), (3, .int w1x3), (4, .int w1x4)] [.int (1 : Int32)] M _
              refine zs_if_eqF (pc := 41) t211_41 li1 (by decide) ?_
              obtain ⟨w15v, w15e⟩ : ∃ v, w1x3 + Int32.ofInt 1 = v := ⟨_, rfl⟩
              have w15 := zrg w15v
              refine zs_iinc (pc := 44) t211_44 (ls' := [(3, .int w15v), (0, .ref 7), (1, .int a), (2, .int b), (4, .int w1x4)]) (zml mf211 (by decide)) rfl (c := w15v) w15e rfl ?_
              obtain ⟨w16v, w16e, w16⟩ := ziadd (a := w1x4) (b := Int32.ofInt 1) rfl (show (Int32.ofInt 1).toInt = 1 by decide) (by omega) (by omega)
              refine zs_iinc (pc := 47) t211_47 (ls' := [(4, .int w16v), (3, .int w15v), (0, .ref 7), (1, .int a), (2, .int b)]) (zml mf211 (by decide)) rfl (c := w16v) w16e rfl ?_
              refine zs_goto (pc := 50) t211_50 ?_
              refine zGo.locals (ls' := [(0, .ref 7), (1, .int a), (2, .int b), (3, .int w15v), (4, .int w16v)]) (by simp) ?_
              exact w1ih (w1m - 1) (by omega) w15v w16v ⟨by omega, by omega⟩ (by omega)
  refine zGo.locals (ls' := [(0, .ref 7), (1, .int a), (2, .int b), (3, .int (0 : Int32)), (4, .int (0 : Int32))]) (by simp) ?_
  have w17 := li0
  have w18 := li0
  exact w1L ((60 - 0 : Int).toNat) (0 : Int32) (0 : Int32) ⟨by decide, by decide⟩ (by omega)
theorem C185_7 {X : zX} {l : Launch} {M : zM} {Q : Option Value → zM → Prop} {a : Int32} (hs : zSk zMc M) (hI : zIv cLo cHi M) (ha : 0 ≤ a.toInt ∧ a.toInt ≤ 65535) (hQ : ∀ v : Int32, 0 ≤ v.toInt → v.toInt ≤ 1 → Q (some (.int v)) M) : zCall X l 0 0 0 185 [.ref 7, .int a] M Q := by
  have ga := zrg a
  refine zs_in (by decide) mf185 (Nat.le_of_ble_eq_true rfl) ?_
  show zGo X l 0 0 0 185 0 [(0, .ref 7), (1, .int a)] [] M _
  refine zs_iconst (pc := 0) t185_0 (v := 0) (by decide) ?_
  refine zs_istore_n (pc := 1) t185_1 (ls' := [(2, .int (0 : Int32)), (0, .ref 7), (1, .int a)]) (zml mf185 (by decide)) rfl ?_
  have w1L : ∀ (m : Nat) (w1x2 : Int32), (0 ≤ w1x2.toInt ∧ w1x2.toInt ≤ 500) → 500 - w1x2.toInt ≤ (m : Int) → zGo X l 0 0 0 185 2 [(0, .ref 7), (1, .int a), (2, .int w1x2)] [] M Q := by
    intro m
    induction m using Nat.strongRecOn with
    | ind w1m w1ih =>
      intro w1x2 w1b2 w1q
      refine zs_iload_n (pc := 2) t185_2 rfl ?_
      refine zs_aload_n (pc := 3) t185_3 rfl ?_
      have w2 := ib7_13 hI
      refine zs_get (pc := 4) t185_4 (by decide) (zk1 (hs.k fk_zMc_7)) (zfvi rfl rfl) ?_
      by_cases w3 : (zI M 7 13).toInt ≤ w1x2.toInt
      · refine zs_icmp_geT (pc := 7) t185_7 rfl rfl (by omega) ?_
        refine zs_iconst (pc := 28) t185_28 (v := 0) (by decide) ?_
        exact zs_iret (pc := 29) t185_29 mr185 (by decide) (hQ _ (by decide) (by decide))
      · refine zs_icmp_geF (pc := 7) t185_7 rfl rfl (by omega) ?_
        refine zs_aload_n (pc := 10) t185_10 rfl ?_
        refine zs_get (pc := 11) t185_11 (by decide) (zk1 (hs.k fk_zMc_7)) (hs.p rfl fv_zMc_7_14) ?_
        refine zs_iload_n (pc := 14) t185_14 rfl ?_
        obtain ⟨w4n, w4⟩ : ∃ n : Nat, w1x2.toInt = (n : Int) := ⟨w1x2.toInt.toNat, by omega⟩
        have w5 := ib18 hI w4n
        refine zs_bald (pc := 15) t185_15 (j := w4n) (Or.inl (zk1 (hs.k fk_zMc_18))) w4 (zk2 (hs.k fk_zMc_18) (by omega)) rfl ?_
        refine zs_iload_n (pc := 16) t185_16 rfl ?_
        by_cases w6 : (zI M 18 w4n).toInt ≠ a.toInt
        · refine zs_icmp_neT (pc := 17) t185_17 rfl rfl (by omega) ?_
          obtain ⟨w7v, w7e, w7⟩ := ziadd (a := w1x2) (b := Int32.ofInt 1) rfl (show (Int32.ofInt 1).toInt = 1 by decide) (by omega) (by omega)
          refine zs_iinc (pc := 22) t185_22 (ls' := [(2, .int w7v), (0, .ref 7), (1, .int a)]) (zml mf185 (by decide)) rfl (c := w7v) w7e rfl ?_
          refine zs_goto (pc := 25) t185_25 ?_
          refine zGo.locals (ls' := [(0, .ref 7), (1, .int a), (2, .int w7v)]) (by simp) ?_
          exact w1ih (w1m - 1) (by omega) w7v ⟨by omega, by omega⟩ (by omega)
        · refine zs_icmp_neF (pc := 17) t185_17 rfl rfl (by omega) ?_
          refine zs_iconst (pc := 20) t185_20 (v := 1) (by decide) ?_
          exact zs_iret (pc := 21) t185_21 mr185 (by decide) (hQ _ (by decide) (by decide))
  refine zGo.locals (ls' := [(0, .ref 7), (1, .int a), (2, .int (0 : Int32))]) (by simp) ?_
  have w8 := li0
  exact w1L ((500 - 0 : Int).toNat) (0 : Int32) ⟨by decide, by decide⟩ (by omega)
theorem C16_155 {X : zX} {l : Launch} {M : zM} {Q : Option Value → zM → Prop} {a : Int32} (hs : zSk zMc M) (hI : zIv cLo cHi M) (hQ : ∀ M', zSk zMc M' → zIv cLo cHi M' → zFr [(155, 155, some 1), (156, 156, none)] M M' → Q none M') : zCall X l 0 0 0 16 [.ref 155, .int a] M Q := by
  have ga := zrg a
  refine zs_in (by decide) mf16 (Nat.le_of_ble_eq_true rfl) ?_
  show zGo X l 0 0 0 16 0 [(0, .ref 155), (1, .int a)] [] M _
  refine zs_bipush (pc := 0) t16_0 (v := 24) (by decide) ?_
  refine zs_istore_n (pc := 2) t16_2 (ls' := [(2, .int (24 : Int32)), (0, .ref 155), (1, .int a)]) (zml mf16 (by decide)) rfl ?_
  have w1L : ∀ (m : Nat) (w1x2 : Int32) (w1M : zM), ((-8) ≤ w1x2.toInt ∧ w1x2.toInt ≤ 24) → zSk zMc w1M → zIv cLo cHi w1M → zFr [(155, 155, some 1), (156, 156, none)] M w1M → w1x2.toInt + 8 ≤ (m : Int) → zGo X l 0 0 0 16 3 [(0, .ref 155), (1, .int a), (2, .int w1x2)] [] w1M Q := by
    intro m
    induction m using Nat.strongRecOn with
    | ind w1m w1ih =>
      intro w1x2 w1M w1b2 w1s w1I w1F w1q
      refine zs_iload_n (pc := 3) t16_3 rfl ?_
      by_cases w2 : w1x2.toInt < 0
      · refine zs_if_ltT (pc := 4) t16_4 rfl (by omega) ?_
        exact zs_vret (pc := 46) t16_46 mr16 (hQ _ w1s w1I ((zFr.refl).trans (w1F.mono rfl)))
      · refine zs_if_ltF (pc := 4) t16_4 rfl (by omega) ?_
        refine zs_aload_n (pc := 7) t16_7 rfl ?_
        have w3 := ib155_1 w1I
        refine zs_get (pc := 8) t16_8 (by decide) (zk1 (w1s.k fk_zMc_155)) (zfvi rfl rfl) ?_
        refine zs_sipush (pc := 11) t16_11 (v := 500) (by decide) ?_
        by_cases w4 : 500 ≤ (zI w1M 155 1).toInt
        · refine zs_icmp_geT (pc := 14) t16_14 rfl li500 (by omega) ?_
          exact zs_vret (pc := 46) t16_46 mr16 (hQ _ w1s w1I ((zFr.refl).trans (w1F.mono rfl)))
        · refine zs_icmp_geF (pc := 14) t16_14 rfl li500 (by omega) ?_
          refine zs_aload_n (pc := 17) t16_17 rfl ?_
          refine zs_get (pc := 18) t16_18 (by decide) (zk1 (w1s.k fk_zMc_155)) (w1s.p rfl fv_zMc_155_0) ?_
          refine zs_aload_n (pc := 21) t16_21 rfl ?_
          refine zs_get (pc := 22) t16_22 (by decide) (zk1 (w1s.k fk_zMc_155)) (zfvi rfl rfl) ?_
          refine zs_iload_n (pc := 25) t16_25 rfl ?_
          refine zs_iload_n (pc := 26) t16_26 rfl ?_
          obtain ⟨w5v, w5⟩ : ∃ v, (a.toUInt32 >>> (w1x2.toUInt32 &&& Int32.toUInt32 31)).toInt32 = v := ⟨_, rfl⟩
          have w5g := zrg w5v
          refine zs_iushr (pc := 27) t16_27 (c := w5v) w5 ?_
          obtain ⟨w6v, w6e⟩ : ∃ v, w5v.toInt8.toInt32 = v := ⟨_, rfl⟩
          have w6 : (-128) ≤ w6v.toInt ∧ w6v.toInt ≤ 127 := by rw [← w6e]; exact znb _
          refine zs_i2b (pc := 28) t16_28 (c := w6v) w6e ?_
          obtain ⟨w7n, w7⟩ : ∃ n : Nat, (zI w1M 155 1).toInt = (n : Int) := ⟨(zI w1M 155 1).toInt.toNat, by omega⟩
          obtain ⟨w8v, w8e⟩ : ∃ v, vp_nar .byte w6v = v := ⟨_, rfl⟩
          have w8 : -128 ≤ w8v.toInt ∧ w8v.toInt ≤ 127 := by rw [← w8e]; exact znb _
          have w9 : zIv cLo cHi (zsI w1M 156 w7n w8v) := zIv.put w1I (show (-128) ≤ w8v.toInt ∧ w8v.toInt ≤ 127 from ⟨by omega, by omega⟩)
          refine zs_bastB (pc := 29) t16_29 (j := w7n) (by decide) (zk1 (w1s.k fk_zMc_156)) w7 (zk2 (w1s.k fk_zMc_156) (by omega)) w8e ?_
          refine zs_aload_n (pc := 30) t16_30 rfl ?_
          refine zs_dup (pc := 31) t16_31 rfl ?_
          refine zs_get (pc := 32) t16_32 (by decide) (zk1 (w1s.k fk_zMc_155)) (zfvi rfl ((zIo (by decide)).trans rfl)) ?_
          refine zs_iconst (pc := 35) t16_35 (v := 1) (by decide) ?_
          obtain ⟨w10v, w10e, w10⟩ := ziadd (a := (zI w1M 155 1)) (b := (1 : Int32)) rfl li1 (by omega) (by omega)
          refine zs_iadd (pc := 36) t16_36 (c := w10v) w10e ?_
          have w11 : zIv cLo cHi (zsI (zsI w1M 156 w7n w8v) 155 1 w10v) := zIv.put w9 (show 0 ≤ w10v.toInt ∧ w10v.toInt ≤ 500 from ⟨by omega, by omega⟩)
          refine zs_putI (pc := 37) t16_37 (zk1 (w1s.k fk_zMc_155)) rfl ?_
          obtain ⟨w12v, w12e, w12⟩ := ziadd (a := w1x2) (b := Int32.ofInt (-8)) rfl (show (Int32.ofInt (-8)).toInt = (-8) by decide) (by omega) (by omega)
          refine zs_iinc (pc := 40) t16_40 (ls' := [(2, .int w12v), (0, .ref 155), (1, .int a)]) (zml mf16 (by decide)) rfl (c := w12v) w12e rfl ?_
          refine zs_goto (pc := 43) t16_43 ?_
          refine zGo.locals (ls' := [(0, .ref 155), (1, .int a), (2, .int w12v)]) (by simp) ?_
          exact w1ih (w1m - 1) (by omega) w12v (zsI (zsI w1M 156 w7n w8v) 155 1 w10v) ⟨by omega, by omega⟩ w1s w11 ((((zFr.refl).trans (w1F.mono rfl)).put rfl).put rfl) (by omega)
  refine zGo.locals (ls' := [(0, .ref 155), (1, .int a), (2, .int (24 : Int32))]) (by simp) ?_
  have w13 := li24
  exact w1L ((24 + 8 : Int).toNat) (24 : Int32) M ⟨by decide, by decide⟩ hs hI zFr.refl (by omega)
theorem C31_155 {X : zX} {l : Launch} {M : zM} {Q : Option Value → zM → Prop} (hs : zSk zMc M) (hI : zIv cLo cHi M) (hQ : ∀ v : Int32, (-1) ≤ v.toInt → v.toInt ≤ 255 → Q (some (.int v)) M) : zCall X l 0 0 0 31 [.ref 155] M Q := by
  refine zs_in (by decide) mf31 (Nat.le_of_ble_eq_true rfl) ?_
  show zGo X l 0 0 0 31 0 [(0, .ref 155)] [] M _
  refine zs_aload_n (pc := 0) t31_0 rfl ?_
  have w1 := ib155_2 hI
  refine zs_get (pc := 1) t31_1 (by decide) (zk1 (hs.k fk_zMc_155)) (zfvi rfl rfl) ?_
  by_cases w2 : (zI M 155 2).toInt < 0
  · refine zs_if_ltT (pc := 4) t31_4 rfl (by omega) ?_
    refine zs_iconst (pc := 34) t31_34 (v := -1) (by decide) ?_
    exact zs_iret (pc := 35) t31_35 mr31 (by decide) (hQ _ (by decide) (by decide))
  · refine zs_if_ltF (pc := 4) t31_4 rfl (by omega) ?_
    refine zs_aload_n (pc := 7) t31_7 rfl ?_
    refine zs_get (pc := 8) t31_8 (by decide) (zk1 (hs.k fk_zMc_155)) (zfvi rfl rfl) ?_
    refine zs_aload_n (pc := 11) t31_11 rfl ?_
    have w3 := ib155_1 hI
    refine zs_get (pc := 12) t31_12 (by decide) (zk1 (hs.k fk_zMc_155)) (zfvi rfl rfl) ?_
    by_cases w4 : (zI M 155 1).toInt ≤ (zI M 155 2).toInt
    · refine zs_icmp_geT (pc := 15) t31_15 rfl rfl (by omega) ?_
      refine zs_iconst (pc := 34) t31_34 (v := -1) (by decide) ?_
      exact zs_iret (pc := 35) t31_35 mr31 (by decide) (hQ _ (by decide) (by decide))
    · refine zs_icmp_geF (pc := 15) t31_15 rfl rfl (by omega) ?_
      refine zs_aload_n (pc := 18) t31_18 rfl ?_
      refine zs_get (pc := 19) t31_19 (by decide) (zk1 (hs.k fk_zMc_155)) (hs.p rfl fv_zMc_155_0) ?_
      refine zs_aload_n (pc := 22) t31_22 rfl ?_
      refine zs_get (pc := 23) t31_23 (by decide) (zk1 (hs.k fk_zMc_155)) (zfvi rfl rfl) ?_
      obtain ⟨w5n, w5⟩ : ∃ n : Nat, (zI M 155 2).toInt = (n : Int) := ⟨(zI M 155 2).toInt.toNat, by omega⟩
      have w6 := ib156 hI w5n
      refine zs_bald (pc := 26) t31_26 (j := w5n) (Or.inl (zk1 (hs.k fk_zMc_156))) w5 (zk2 (hs.k fk_zMc_156) (by omega)) rfl ?_
      refine zs_sipush (pc := 27) t31_27 (v := 255) (by decide) ?_
      obtain ⟨w7v, w7⟩ : ∃ v, (zI M 156 w5n) &&& (255 : Int32) = v := ⟨_, rfl⟩
      have w7g : 0 ≤ w7v.toInt ∧ w7v.toInt ≤ 255 := by rw [← w7]; exact zand li255 (by decide)
      refine zs_iand (pc := 30) t31_30 (c := w7v) w7 ?_
      refine zs_goto (pc := 31) t31_31 ?_
      exact zs_iret (pc := 35) t31_35 mr31 rfl (hQ _ (by omega) (by omega))
theorem C30_155 {X : zX} {l : Launch} {M : zM} {Q : Option Value → zM → Prop} (hs : zSk zMc M) (hI : zIv cLo cHi M) (hQ : ∀ (M' : zM) (v : Int32), zSk zMc M' → zIv cLo cHi M' → zFr [(155, 155, none)] M M' → (-1) ≤ v.toInt → v.toInt ≤ 255 → Q (some (.int v)) M') : zCall X l 1 0 0 30 [.ref 155] M Q := by
  refine zs_in (by decide) mf30 (Nat.le_of_ble_eq_true rfl) ?_
  show zGo X l 1 0 0 30 0 [(0, .ref 155)] [] M _
  refine zs_aload_n (pc := 0) t30_0 rfl ?_
  refine zs_invV (pc := 1) (k := 155) (as' := []) (st := []) t30_1 mf31 rfl rfl (Or.inl ⟨by decide, (zk1 (hs.k fk_zMc_155))⟩) ⟨by decide, by decide, Nat.le_of_ble_eq_true rfl, Nat.le_of_ble_eq_true rfl⟩ (C31_155 hs hI ?_) (fun _ _ q => q)
  intro w1v w1a w1b
  show zGo X l 1 0 0 30 4 [(0, .ref 155)] [.int w1v] M _
  refine zs_istore_n (pc := 4) t30_4 (ls' := [(1, .int w1v), (0, .ref 155)]) (zml mf30 (by decide)) rfl ?_
  refine zs_iload_n (pc := 5) t30_5 rfl ?_
  refine zs_iconst (pc := 6) t30_6 (v := -1) (by decide) ?_
  by_cases w2 : w1v.toInt = (-1)
  · refine zs_icmp_eqT (pc := 7) t30_7 rfl lin1 (by omega) ?_
    refine zs_iload_n (pc := 20) t30_20 rfl ?_
    exact zs_iret (pc := 21) t30_21 mr30 rfl (hQ _ _ hs hI (zFr.refl) (by omega) (by omega))
  · refine zs_icmp_eqF (pc := 7) t30_7 rfl lin1 (by omega) ?_
    refine zs_aload_n (pc := 10) t30_10 rfl ?_
    refine zs_dup (pc := 11) t30_11 rfl ?_
    have w3 := ib155_2 hI
    refine zs_get (pc := 12) t30_12 (by decide) (zk1 (hs.k fk_zMc_155)) (zfvi rfl rfl) ?_
    refine zs_iconst (pc := 15) t30_15 (v := 1) (by decide) ?_
    obtain ⟨w4v, w4⟩ : ∃ v, v = (zI M 155 2) + (1 : Int32) := ⟨_, rfl⟩
    have w4g := zrg w4v
    refine zs_iadd (pc := 16) t30_16 (c := w4v) w4.symm ?_
    have w5 : zIv cLo cHi (zsI M 155 2 w4v) := zIv.put hI (show (-2147483648) ≤ w4v.toInt ∧ w4v.toInt ≤ 2147483647 from (zrg w4v))
    refine zs_putI (pc := 17) t30_17 (zk1 (hs.k fk_zMc_155)) rfl ?_
    refine zs_iload_n (pc := 20) t30_20 rfl ?_
    exact zs_iret (pc := 21) t30_21 mr30 rfl (hQ _ _ hs w5 ((zFr.refl).put rfl) (by omega) (by omega))
theorem C35_155 {X : zX} {l : Launch} {M : zM} {Q : Option Value → zM → Prop} (hs : zSk zMc M) (hI : zIv cLo cHi M) (hQ : ∀ (M' : zM) (v : Int32), zSk zMc M' → zIv cLo cHi M' → zFr [(155, 155, none)] M M' → 0 ≤ v.toInt → v.toInt ≤ 1 → Q (some (.int v)) M') : zCall X l 2 0 0 35 [.ref 155] M Q := by
  refine zs_in (by decide) mf35 (Nat.le_of_ble_eq_true rfl) ?_
  show zGo X l 2 0 0 35 0 [(0, .ref 155)] [] M _
  refine zs_aload_n (pc := 0) t35_0 rfl ?_
  refine zs_aload_n (pc := 1) t35_1 rfl ?_
  have w1 := ib155_2 hI
  refine zs_get (pc := 2) t35_2 (by decide) (zk1 (hs.k fk_zMc_155)) (zfvi rfl rfl) ?_
  have w2 : zIv cLo cHi (zsI M 155 5 (zI M 155 2)) := zIv.put hI (show (-2147483648) ≤ (zI M 155 2).toInt ∧ (zI M 155 2).toInt ≤ 2147483647 from (zrg (zI M 155 2)))
  refine zs_putI (pc := 5) t35_5 (zk1 (hs.k fk_zMc_155)) rfl ?_
  refine zs_aload_n (pc := 8) t35_8 rfl ?_
  refine zs_invV (pc := 9) (k := 155) (as' := []) (st := []) t35_9 mf31 rfl rfl (Or.inl ⟨by decide, (zk1 (hs.k fk_zMc_155))⟩) ⟨by decide, by decide, Nat.le_of_ble_eq_true rfl, Nat.le_of_ble_eq_true rfl⟩ (C31_155 hs w2 ?_) (fun _ _ q => q)
  intro w3v w3a w3b
  show zGo X l 2 0 0 35 12 [(0, .ref 155)] [.int w3v] (zsI M 155 5 (zI M 155 2)) _
  refine zs_bipush (pc := 12) t35_12 (v := 45) (by decide) ?_
  by_cases w4 : w3v.toInt ≠ 45
  · refine zs_icmp_neT (pc := 14) t35_14 rfl li45 (by omega) ?_
    refine zs_iconst (pc := 21) t35_21 (v := 0) (by decide) ?_
    refine zs_istore_n (pc := 22) t35_22 (ls' := [(1, .int (0 : Int32)), (0, .ref 155)]) (zml mf35 (by decide)) rfl ?_
    refine zs_iload_n (pc := 23) t35_23 rfl ?_
    refine zs_if_eqT (pc := 24) t35_24 li0 (by decide) ?_
    refine zs_iconst (pc := 37) t35_37 (v := 0) (by decide) ?_
    refine zs_istore_n (pc := 38) t35_38 (ls' := [(2, .int (0 : Int32)), (1, .int (0 : Int32)), (0, .ref 155)]) (zml mf35 (by decide)) rfl ?_
    refine zs_iconst (pc := 39) t35_39 (v := 0) (by decide) ?_
    refine zs_istore_n (pc := 40) t35_40 (ls' := [(3, .int (0 : Int32)), (2, .int (0 : Int32)), (1, .int (0 : Int32)), (0, .ref 155)]) (zml mf35 (by decide)) rfl ?_
    refine zs_iload_n (pc := 41) t35_41 rfl ?_
    refine zs_iconst (pc := 42) t35_42 (v := 4) (by decide) ?_
    refine zs_icmp_geF (pc := 43) t35_43 li0 li4 (by decide) ?_
    refine zs_aload_n (pc := 46) t35_46 rfl ?_
    refine zs_invV (pc := 47) (k := 155) (as' := []) (st := []) t35_47 mf31 rfl rfl (Or.inl ⟨by decide, (zk1 (hs.k fk_zMc_155))⟩) ⟨by decide, by decide, Nat.le_of_ble_eq_true rfl, Nat.le_of_ble_eq_true rfl⟩ (C31_155 hs w2 ?_) (fun _ _ q => q)
    intro w5v w5a w5b
    show zGo X l 2 0 0 35 50 [(3, .int (0 : Int32)), (2, .int (0 : Int32)), (1, .int (0 : Int32)), (0, .ref 155)] [.int w5v] (zsI M 155 5 (zI M 155 2)) _
    refine zs_invS (pc := 50) (as := [.int w5v]) (st := []) t35_50 (by decide) mf36 rfl rfl ⟨by decide, by decide, Nat.le_of_ble_eq_true rfl, Nat.le_of_ble_eq_true rfl⟩ (zs_in (by decide) mf36 (Nat.le_of_ble_eq_true rfl) ?_) (fun _ _ q => q)
    show zGo X l 0 0 0 36 0 [(0, .int w5v)] [] (zsI M 155 5 (zI M 155 2)) _
    refine zs_iload_n (pc := 0) t36_0 rfl ?_
    refine zs_bipush (pc := 1) t36_1 (v := 48) (by decide) ?_
    by_cases w6 : w5v.toInt < 48
    · refine zs_icmp_ltT (pc := 3) t36_3 rfl li48 (by omega) ?_
      refine zs_iconst (pc := 16) t36_16 (v := 0) (by decide) ?_
      refine zs_iret (pc := 17) t36_17 mr36 (by decide) ?_
      show zGo X l 2 0 0 35 53 [(3, .int (0 : Int32)), (2, .int (0 : Int32)), (1, .int (0 : Int32)), (0, .ref 155)] [.int (0 : Int32)] (zsI M 155 5 (zI M 155 2)) _
      refine zs_if_eqT (pc := 53) t35_53 li0 (by decide) ?_
      refine zs_iload_n (pc := 75) t35_75 rfl ?_
      refine zs_if_eqT (pc := 76) t35_76 li0 (by decide) ?_
      refine zs_aload_n (pc := 89) t35_89 rfl ?_
      refine zs_aload_n (pc := 90) t35_90 rfl ?_
      refine zs_get (pc := 91) t35_91 (by decide) (zk1 (hs.k fk_zMc_155)) (zfvi rfl ((zIoj (by decide)).trans rfl)) ?_
      refine zs_invV (pc := 94) (k := 155) (as' := [.int (zI M 155 2)]) (st := []) t35_94 mf34 rfl rfl (Or.inl ⟨by decide, (zk1 (hs.k fk_zMc_155))⟩) ⟨by decide, by decide, Nat.le_of_ble_eq_true rfl, Nat.le_of_ble_eq_true rfl⟩ (zs_in (by decide) mf34 (Nat.le_of_ble_eq_true rfl) ?_) (fun _ _ q => q)
      show zGo X l 0 0 0 34 0 [(0, .ref 155), (1, .int (zI M 155 2))] [] (zsI M 155 5 (zI M 155 2)) _
      refine zs_aload_n (pc := 0) t34_0 rfl ?_
      refine zs_iload_n (pc := 1) t34_1 rfl ?_
      have w7 : zIv cLo cHi (zsI (zsI M 155 5 (zI M 155 2)) 155 3 (zI M 155 2)) := zIv.put w2 (show (-2147483648) ≤ (zI M 155 2).toInt ∧ (zI M 155 2).toInt ≤ 2147483647 from (zrg (zI M 155 2)))
      refine zs_putI (pc := 2) t34_2 (zk1 (hs.k fk_zMc_155)) rfl ?_
      refine zs_iconst (pc := 5) t34_5 (v := 0) (by decide) ?_
      refine zs_iret (pc := 6) t34_6 mr34 (by decide) ?_
      show zGo X l 2 0 0 35 97 [(3, .int (0 : Int32)), (2, .int (0 : Int32)), (1, .int (0 : Int32)), (0, .ref 155)] [.int (0 : Int32)] (zsI (zsI M 155 5 (zI M 155 2)) 155 3 (zI M 155 2)) _
      exact zs_iret (pc := 97) t35_97 mr35 (by decide) (hQ _ _ hs w7 (((zFr.refl).put rfl).put rfl) (by decide) (by decide))
    · refine zs_icmp_ltF (pc := 3) t36_3 rfl li48 (by omega) ?_
      refine zs_iload_n (pc := 6) t36_6 rfl ?_
      refine zs_bipush (pc := 7) t36_7 (v := 57) (by decide) ?_
      by_cases w8 : 57 < w5v.toInt
      · refine zs_icmp_gtT (pc := 9) t36_9 rfl li57 (by omega) ?_
        refine zs_iconst (pc := 16) t36_16 (v := 0) (by decide) ?_
        refine zs_iret (pc := 17) t36_17 mr36 (by decide) ?_
        show zGo X l 2 0 0 35 53 [(3, .int (0 : Int32)), (2, .int (0 : Int32)), (1, .int (0 : Int32)), (0, .ref 155)] [.int (0 : Int32)] (zsI M 155 5 (zI M 155 2)) _
        refine zs_if_eqT (pc := 53) t35_53 li0 (by decide) ?_
        refine zs_iload_n (pc := 75) t35_75 rfl ?_
        refine zs_if_eqT (pc := 76) t35_76 li0 (by decide) ?_
        refine zs_aload_n (pc := 89) t35_89 rfl ?_
        refine zs_aload_n (pc := 90) t35_90 rfl ?_
        refine zs_get (pc := 91) t35_91 (by decide) (zk1 (hs.k fk_zMc_155)) (zfvi rfl ((zIoj (by decide)).trans rfl)) ?_
        refine zs_invV (pc := 94) (k := 155) (as' := [.int (zI M 155 2)]) (st := []) t35_94 mf34 rfl rfl (Or.inl ⟨by decide, (zk1 (hs.k fk_zMc_155))⟩) ⟨by decide, by decide, Nat.le_of_ble_eq_true rfl, Nat.le_of_ble_eq_true rfl⟩ (zs_in (by decide) mf34 (Nat.le_of_ble_eq_true rfl) ?_) (fun _ _ q => q)
        show zGo X l 0 0 0 34 0 [(0, .ref 155), (1, .int (zI M 155 2))] [] (zsI M 155 5 (zI M 155 2)) _
        refine zs_aload_n (pc := 0) t34_0 rfl ?_
        refine zs_iload_n (pc := 1) t34_1 rfl ?_
        have w9 : zIv cLo cHi (zsI (zsI M 155 5 (zI M 155 2)) 155 3 (zI M 155 2)) := zIv.put w2 (show (-2147483648) ≤ (zI M 155 2).toInt ∧ (zI M 155 2).toInt ≤ 2147483647 from (zrg (zI M 155 2)))
        refine zs_putI (pc := 2) t34_2 (zk1 (hs.k fk_zMc_155)) rfl ?_
        refine zs_iconst (pc := 5) t34_5 (v := 0) (by decide) ?_
        refine zs_iret (pc := 6) t34_6 mr34 (by decide) ?_
        show zGo X l 2 0 0 35 97 [(3, .int (0 : Int32)), (2, .int (0 : Int32)), (1, .int (0 : Int32)), (0, .ref 155)] [.int (0 : Int32)] (zsI (zsI M 155 5 (zI M 155 2)) 155 3 (zI M 155 2)) _
        exact zs_iret (pc := 97) t35_97 mr35 (by decide) (hQ _ _ hs w9 (((zFr.refl).put rfl).put rfl) (by decide) (by decide))
      · refine zs_icmp_gtF (pc := 9) t36_9 rfl li57 (by omega) ?_
        refine zs_iconst (pc := 12) t36_12 (v := 1) (by decide) ?_
        refine zs_goto (pc := 13) t36_13 ?_
        refine zs_iret (pc := 17) t36_17 mr36 (by decide) ?_
        show zGo X l 2 0 0 35 53 [(3, .int (0 : Int32)), (2, .int (0 : Int32)), (1, .int (0 : Int32)), (0, .ref 155)] [.int (1 : Int32)] (zsI M 155 5 (zI M 155 2)) _
        refine zs_if_eqF (pc := 53) t35_53 li1 (by decide) ?_
        refine zs_iload_n (pc := 56) t35_56 rfl ?_
        refine zs_bipush (pc := 57) t35_57 (v := 10) (by decide) ?_
        refine zs_imul (pc := 59) t35_59 (c := 0) (by decide) ?_
        refine zs_aload_n (pc := 60) t35_60 rfl ?_
        refine zs_invV (pc := 61) (k := 155) (as' := []) (st := [.int (0 : Int32)]) t35_61 mf30 rfl rfl (Or.inl ⟨by decide, (zk1 (hs.k fk_zMc_155))⟩) ⟨by decide, by decide, Nat.le_of_ble_eq_true rfl, Nat.le_of_ble_eq_true rfl⟩ (C30_155 hs w2 ?_) (fun _ _ q => q)
        intro w10M w10v w10s w10I w10F w10a w10b
        show zGo X l 2 0 0 35 64 [(3, .int (0 : Int32)), (2, .int (0 : Int32)), (1, .int (0 : Int32)), (0, .ref 155)] [.int w10v, .int (0 : Int32)] w10M _
        obtain ⟨w11v, w11e, w11⟩ := ziadd (a := (0 : Int32)) (b := w10v) li0 rfl (by omega) (by omega)
        refine zs_iadd (pc := 64) t35_64 (c := w11v) w11e ?_
        refine zs_bipush (pc := 65) t35_65 (v := 48) (by decide) ?_
        obtain ⟨w12v, w12e, w12⟩ := zisub (a := w11v) (b := (48 : Int32)) w11 li48 (by omega) (by omega)
        refine zs_isub (pc := 67) t35_67 (c := w12v) w12e ?_
        refine zs_istore_n (pc := 68) t35_68 (ls' := [(2, .int w12v), (3, .int (0 : Int32)), (1, .int (0 : Int32)), (0, .ref 155)]) (zml mf35 (by decide)) rfl ?_
        refine zs_iinc (pc := 69) t35_69 (ls' := [(3, .int (1 : Int32)), (2, .int w12v), (1, .int (0 : Int32)), (0, .ref 155)]) (zml mf35 (by decide)) rfl (c := 1) (by decide) rfl ?_
        refine zs_goto (pc := 72) t35_72 ?_
        refine zs_iload_n (pc := 41) t35_41 rfl ?_
        refine zs_iconst (pc := 42) t35_42 (v := 4) (by decide) ?_
        refine zs_icmp_geF (pc := 43) t35_43 li1 li4 (by decide) ?_
        refine zs_aload_n (pc := 46) t35_46 rfl ?_
        refine zs_invV (pc := 47) (k := 155) (as' := []) (st := []) t35_47 mf31 rfl rfl (Or.inl ⟨by decide, (zk1 (w10s.k fk_zMc_155))⟩) ⟨by decide, by decide, Nat.le_of_ble_eq_true rfl, Nat.le_of_ble_eq_true rfl⟩ (C31_155 w10s w10I ?_) (fun _ _ q => q)
        intro w13v w13a w13b
        show zGo X l 2 0 0 35 50 [(3, .int (1 : Int32)), (2, .int w12v), (1, .int (0 : Int32)), (0, .ref 155)] [.int w13v] w10M _
        refine zs_invS (pc := 50) (as := [.int w13v]) (st := []) t35_50 (by decide) mf36 rfl rfl ⟨by decide, by decide, Nat.le_of_ble_eq_true rfl, Nat.le_of_ble_eq_true rfl⟩ (zs_in (by decide) mf36 (Nat.le_of_ble_eq_true rfl) ?_) (fun _ _ q => q)
        show zGo X l 0 0 0 36 0 [(0, .int w13v)] [] w10M _
        refine zs_iload_n (pc := 0) t36_0 rfl ?_
        refine zs_bipush (pc := 1) t36_1 (v := 48) (by decide) ?_
        by_cases w14 : w13v.toInt < 48
        · refine zs_icmp_ltT (pc := 3) t36_3 rfl li48 (by omega) ?_
          refine zs_iconst (pc := 16) t36_16 (v := 0) (by decide) ?_
          refine zs_iret (pc := 17) t36_17 mr36 (by decide) ?_
          show zGo X l 2 0 0 35 53 [(3, .int (1 : Int32)), (2, .int w12v), (1, .int (0 : Int32)), (0, .ref 155)] [.int (0 : Int32)] w10M _
          refine zs_if_eqT (pc := 53) t35_53 li0 (by decide) ?_
          refine zs_iload_n (pc := 75) t35_75 rfl ?_
          refine zs_if_eqF (pc := 76) t35_76 li1 (by decide) ?_
          refine zs_aload_n (pc := 79) t35_79 rfl ?_
          refine zs_invV (pc := 80) (k := 155) (as' := []) (st := []) t35_80 mf31 rfl rfl (Or.inl ⟨by decide, (zk1 (w10s.k fk_zMc_155))⟩) ⟨by decide, by decide, Nat.le_of_ble_eq_true rfl, Nat.le_of_ble_eq_true rfl⟩ (C31_155 w10s w10I ?_) (fun _ _ q => q)
          intro w15v w15a w15b
          show zGo X l 2 0 0 35 83 [(3, .int (1 : Int32)), (2, .int w12v), (1, .int (0 : Int32)), (0, .ref 155)] [.int w15v] w10M _
          refine zs_invS (pc := 83) (as := [.int w15v]) (st := []) t35_83 (by decide) mf36 rfl rfl ⟨by decide, by decide, Nat.le_of_ble_eq_true rfl, Nat.le_of_ble_eq_true rfl⟩ (zs_in (by decide) mf36 (Nat.le_of_ble_eq_true rfl) ?_) (fun _ _ q => q)
          show zGo X l 0 0 0 36 0 [(0, .int w15v)] [] w10M _
          refine zs_iload_n (pc := 0) t36_0 rfl ?_
          refine zs_bipush (pc := 1) t36_1 (v := 48) (by decide) ?_
          by_cases w16 : w15v.toInt < 48
          · refine zs_icmp_ltT (pc := 3) t36_3 rfl li48 (by omega) ?_
            refine zs_iconst (pc := 16) t36_16 (v := 0) (by decide) ?_
            refine zs_iret (pc := 17) t36_17 mr36 (by decide) ?_
            show zGo X l 2 0 0 35 86 [(3, .int (1 : Int32)), (2, .int w12v), (1, .int (0 : Int32)), (0, .ref 155)] [.int (0 : Int32)] w10M _
            refine zs_if_eqT (pc := 86) t35_86 li0 (by decide) ?_
            refine zs_aload_n (pc := 98) t35_98 rfl ?_
            refine zs_iload_n (pc := 99) t35_99 rfl ?_
            refine zs_if_eqT (pc := 100) t35_100 li0 (by decide) ?_
            refine zs_iload_n (pc := 108) t35_108 rfl ?_
            have w17 : zIv cLo cHi (zsI w10M 155 4 w12v) := zIv.put w10I (show (-300000) ≤ w12v.toInt ∧ w12v.toInt ≤ 300000 from ⟨by omega, by omega⟩)
            refine zs_putI (pc := 109) t35_109 (zk1 (w10s.k fk_zMc_155)) rfl ?_
            refine zs_iconst (pc := 112) t35_112 (v := 1) (by decide) ?_
            exact zs_iret (pc := 113) t35_113 mr35 (by decide) (hQ _ _ w10s w17 ((((zFr.refl).put rfl).trans (w10F.mono rfl)).put rfl) (by decide) (by decide))
          · refine zs_icmp_ltF (pc := 3) t36_3 rfl li48 (by omega) ?_
            refine zs_iload_n (pc := 6) t36_6 rfl ?_
            refine zs_bipush (pc := 7) t36_7 (v := 57) (by decide) ?_
            by_cases w18 : 57 < w15v.toInt
            · refine zs_icmp_gtT (pc := 9) t36_9 rfl li57 (by omega) ?_
              refine zs_iconst (pc := 16) t36_16 (v := 0) (by decide) ?_
              refine zs_iret (pc := 17) t36_17 mr36 (by decide) ?_
              show zGo X l 2 0 0 35 86 [(3, .int (1 : Int32)), (2, .int w12v), (1, .int (0 : Int32)), (0, .ref 155)] [.int (0 : Int32)] w10M _
              refine zs_if_eqT (pc := 86) t35_86 li0 (by decide) ?_
              refine zs_aload_n (pc := 98) t35_98 rfl ?_
              refine zs_iload_n (pc := 99) t35_99 rfl ?_
              refine zs_if_eqT (pc := 100) t35_100 li0 (by decide) ?_
              refine zs_iload_n (pc := 108) t35_108 rfl ?_
              have w19 : zIv cLo cHi (zsI w10M 155 4 w12v) := zIv.put w10I (show (-300000) ≤ w12v.toInt ∧ w12v.toInt ≤ 300000 from ⟨by omega, by omega⟩)
              refine zs_putI (pc := 109) t35_109 (zk1 (w10s.k fk_zMc_155)) rfl ?_
              refine zs_iconst (pc := 112) t35_112 (v := 1) (by decide) ?_
              exact zs_iret (pc := 113) t35_113 mr35 (by decide) (hQ _ _ w10s w19 ((((zFr.refl).put rfl).trans (w10F.mono rfl)).put rfl) (by decide) (by decide))
            · refine zs_icmp_gtF (pc := 9) t36_9 rfl li57 (by omega) ?_
              refine zs_iconst (pc := 12) t36_12 (v := 1) (by decide) ?_
              refine zs_goto (pc := 13) t36_13 ?_
              refine zs_iret (pc := 17) t36_17 mr36 (by decide) ?_
              show zGo X l 2 0 0 35 86 [(3, .int (1 : Int32)), (2, .int w12v), (1, .int (0 : Int32)), (0, .ref 155)] [.int (1 : Int32)] w10M _
              refine zs_if_eqF (pc := 86) t35_86 li1 (by decide) ?_
              refine zs_aload_n (pc := 89) t35_89 rfl ?_
              refine zs_aload_n (pc := 90) t35_90 rfl ?_
              have w20 := ib155_2 w10I
              refine zs_get (pc := 91) t35_91 (by decide) (zk1 (w10s.k fk_zMc_155)) (zfvi rfl rfl) ?_
              refine zs_invV (pc := 94) (k := 155) (as' := [.int (zI w10M 155 2)]) (st := []) t35_94 mf34 rfl rfl (Or.inl ⟨by decide, (zk1 (w10s.k fk_zMc_155))⟩) ⟨by decide, by decide, Nat.le_of_ble_eq_true rfl, Nat.le_of_ble_eq_true rfl⟩ (zs_in (by decide) mf34 (Nat.le_of_ble_eq_true rfl) ?_) (fun _ _ q => q)
              show zGo X l 0 0 0 34 0 [(0, .ref 155), (1, .int (zI w10M 155 2))] [] w10M _
              refine zs_aload_n (pc := 0) t34_0 rfl ?_
              refine zs_iload_n (pc := 1) t34_1 rfl ?_
              have w21 : zIv cLo cHi (zsI w10M 155 3 (zI w10M 155 2)) := zIv.put w10I (show (-2147483648) ≤ (zI w10M 155 2).toInt ∧ (zI w10M 155 2).toInt ≤ 2147483647 from (zrg (zI w10M 155 2)))
              refine zs_putI (pc := 2) t34_2 (zk1 (w10s.k fk_zMc_155)) rfl ?_
              refine zs_iconst (pc := 5) t34_5 (v := 0) (by decide) ?_
              refine zs_iret (pc := 6) t34_6 mr34 (by decide) ?_
              show zGo X l 2 0 0 35 97 [(3, .int (1 : Int32)), (2, .int w12v), (1, .int (0 : Int32)), (0, .ref 155)] [.int (0 : Int32)] (zsI w10M 155 3 (zI w10M 155 2)) _
              exact zs_iret (pc := 97) t35_97 mr35 (by decide) (hQ _ _ w10s w21 ((((zFr.refl).put rfl).trans (w10F.mono rfl)).put rfl) (by decide) (by decide))
        · refine zs_icmp_ltF (pc := 3) t36_3 rfl li48 (by omega) ?_
          refine zs_iload_n (pc := 6) t36_6 rfl ?_
          refine zs_bipush (pc := 7) t36_7 (v := 57) (by decide) ?_
          by_cases w22 : 57 < w13v.toInt
          · refine zs_icmp_gtT (pc := 9) t36_9 rfl li57 (by omega) ?_
            refine zs_iconst (pc := 16) t36_16 (v := 0) (by decide) ?_
            refine zs_iret (pc := 17) t36_17 mr36 (by decide) ?_
            show zGo X l 2 0 0 35 53 [(3, .int (1 : Int32)), (2, .int w12v), (1, .int (0 : Int32)), (0, .ref 155)] [.int (0 : Int32)] w10M _
            refine zs_if_eqT (pc := 53) t35_53 li0 (by decide) ?_
            refine zs_iload_n (pc := 75) t35_75 rfl ?_
            refine zs_if_eqF (pc := 76) t35_76 li1 (by decide) ?_
            refine zs_aload_n (pc := 79) t35_79 rfl ?_
            refine zs_invV (pc := 80) (k := 155) (as' := []) (st := []) t35_80 mf31 rfl rfl (Or.inl ⟨by decide, (zk1 (w10s.k fk_zMc_155))⟩) ⟨by decide, by decide, Nat.le_of_ble_eq_true rfl, Nat.le_of_ble_eq_true rfl⟩ (C31_155 w10s w10I ?_) (fun _ _ q => q)
            intro w23v w23a w23b
            show zGo X l 2 0 0 35 83 [(3, .int (1 : Int32)), (2, .int w12v), (1, .int (0 : Int32)), (0, .ref 155)] [.int w23v] w10M _
            refine zs_invS (pc := 83) (as := [.int w23v]) (st := []) t35_83 (by decide) mf36 rfl rfl ⟨by decide, by decide, Nat.le_of_ble_eq_true rfl, Nat.le_of_ble_eq_true rfl⟩ (zs_in (by decide) mf36 (Nat.le_of_ble_eq_true rfl) ?_) (fun _ _ q => q)
            show zGo X l 0 0 0 36 0 [(0, .int w23v)] [] w10M _
            refine zs_iload_n (pc := 0) t36_0 rfl ?_
            refine zs_bipush (pc := 1) t36_1 (v := 48) (by decide) ?_
            by_cases w24 : w23v.toInt < 48
            · refine zs_icmp_ltT (pc := 3) t36_3 rfl li48 (by omega) ?_
              refine zs_iconst (pc := 16) t36_16 (v := 0) (by decide) ?_
              refine zs_iret (pc := 17) t36_17 mr36 (by decide) ?_
              show zGo X l 2 0 0 35 86 [(3, .int (1 : Int32)), (2, .int w12v), (1, .int (0 : Int32)), (0, .ref 155)] [.int (0 : Int32)] w10M _
              refine zs_if_eqT (pc := 86) t35_86 li0 (by decide) ?_
              refine zs_aload_n (pc := 98) t35_98 rfl ?_
              refine zs_iload_n (pc := 99) t35_99 rfl ?_
              refine zs_if_eqT (pc := 100) t35_100 li0 (by decide) ?_
              refine zs_iload_n (pc := 108) t35_108 rfl ?_
              have w25 : zIv cLo cHi (zsI w10M 155 4 w12v) := zIv.put w10I (show (-300000) ≤ w12v.toInt ∧ w12v.toInt ≤ 300000 from ⟨by omega, by omega⟩)
              refine zs_putI (pc := 109) t35_109 (zk1 (w10s.k fk_zMc_155)) rfl ?_
              refine zs_iconst (pc := 112) t35_112 (v := 1) (by decide) ?_
              exact zs_iret (pc := 113) t35_113 mr35 (by decide) (hQ _ _ w10s w25 ((((zFr.refl).put rfl).trans (w10F.mono rfl)).put rfl) (by decide) (by decide))
            · refine zs_icmp_ltF (pc := 3) t36_3 rfl li48 (by omega) ?_
              refine zs_iload_n (pc := 6) t36_6 rfl ?_
              refine zs_bipush (pc := 7) t36_7 (v := 57) (by decide) ?_
              by_cases w26 : 57 < w23v.toInt
              · refine zs_icmp_gtT (pc := 9) t36_9 rfl li57 (by omega) ?_
                refine zs_iconst (pc := 16) t36_16 (v := 0) (by decide) ?_
                refine zs_iret (pc := 17) t36_17 mr36 (by decide) ?_
                show zGo X l 2 0 0 35 86 [(3, .int (1 : Int32)), (2, .int w12v), (1, .int (0 : Int32)), (0, .ref 155)] [.int (0 : Int32)] w10M _
                refine zs_if_eqT (pc := 86) t35_86 li0 (by decide) ?_
                refine zs_aload_n (pc := 98) t35_98 rfl ?_
                refine zs_iload_n (pc := 99) t35_99 rfl ?_
                refine zs_if_eqT (pc := 100) t35_100 li0 (by decide) ?_
                refine zs_iload_n (pc := 108) t35_108 rfl ?_
                have w27 : zIv cLo cHi (zsI w10M 155 4 w12v) := zIv.put w10I (show (-300000) ≤ w12v.toInt ∧ w12v.toInt ≤ 300000 from ⟨by omega, by omega⟩)
                refine zs_putI (pc := 109) t35_109 (zk1 (w10s.k fk_zMc_155)) rfl ?_
                refine zs_iconst (pc := 112) t35_112 (v := 1) (by decide) ?_
                exact zs_iret (pc := 113) t35_113 mr35 (by decide) (hQ _ _ w10s w27 ((((zFr.refl).put rfl).trans (w10F.mono rfl)).put rfl) (by decide) (by decide))
              · refine zs_icmp_gtF (pc := 9) t36_9 rfl li57 (by omega) ?_
                refine zs_iconst (pc := 12) t36_12 (v := 1) (by decide) ?_
                refine zs_goto (pc := 13) t36_13 ?_
                refine zs_iret (pc := 17) t36_17 mr36 (by decide) ?_
                show zGo X l 2 0 0 35 86 [(3, .int (1 : Int32)), (2, .int w12v), (1, .int (0 : Int32)), (0, .ref 155)] [.int (1 : Int32)] w10M _
                refine zs_if_eqF (pc := 86) t35_86 li1 (by decide) ?_
                refine zs_aload_n (pc := 89) t35_89 rfl ?_
                refine zs_aload_n (pc := 90) t35_90 rfl ?_
                have w28 := ib155_2 w10I
                refine zs_get (pc := 91) t35_91 (by decide) (zk1 (w10s.k fk_zMc_155)) (zfvi rfl rfl) ?_
                refine zs_invV (pc := 94) (k := 155) (as' := [.int (zI w10M 155 2)]) (st := []) t35_94 mf34 rfl rfl (Or.inl ⟨by decide, (zk1 (w10s.k fk_zMc_155))⟩) ⟨by decide, by decide, Nat.le_of_ble_eq_true rfl, Nat.le_of_ble_eq_true rfl⟩ (zs_in (by decide) mf34 (Nat.le_of_ble_eq_true rfl) ?_) (fun _ _ q => q)
                show zGo X l 0 0 0 34 0 [(0, .ref 155), (1, .int (zI w10M 155 2))] [] w10M _
                refine zs_aload_n (pc := 0) t34_0 rfl ?_
                refine zs_iload_n (pc := 1) t34_1 rfl ?_
                have w29 : zIv cLo cHi (zsI w10M 155 3 (zI w10M 155 2)) := zIv.put w10I (show (-2147483648) ≤ (zI w10M 155 2).toInt ∧ (zI w10M 155 2).toInt ≤ 2147483647 from (zrg (zI w10M 155 2)))
                refine zs_putI (pc := 2) t34_2 (zk1 (w10s.k fk_zMc_155)) rfl ?_
                refine zs_iconst (pc := 5) t34_5 (v := 0) (by decide) ?_
                refine zs_iret (pc := 6) t34_6 mr34 (by decide) ?_
                show zGo X l 2 0 0 35 97 [(3, .int (1 : Int32)), (2, .int w12v), (1, .int (0 : Int32)), (0, .ref 155)] [.int (0 : Int32)] (zsI w10M 155 3 (zI w10M 155 2)) _
                exact zs_iret (pc := 97) t35_97 mr35 (by decide) (hQ _ _ w10s w29 ((((zFr.refl).put rfl).trans (w10F.mono rfl)).put rfl) (by decide) (by decide))
          · refine zs_icmp_gtF (pc := 9) t36_9 rfl li57 (by omega) ?_
            refine zs_iconst (pc := 12) t36_12 (v := 1) (by decide) ?_
            refine zs_goto (pc := 13) t36_13 ?_
            refine zs_iret (pc := 17) t36_17 mr36 (by decide) ?_
            show zGo X l 2 0 0 35 53 [(3, .int (1 : Int32)), (2, .int w12v), (1, .int (0 : Int32)), (0, .ref 155)] [.int (1 : Int32)] w10M _
            refine zs_if_eqF (pc := 53) t35_53 li1 (by decide) ?_
            refine zs_iload_n (pc := 56) t35_56 rfl ?_
            refine zs_bipush (pc := 57) t35_57 (v := 10) (by decide) ?_
            obtain ⟨w30v, w30⟩ : ∃ v, w12v * (10 : Int32) = v := ⟨_, rfl⟩
            have w30g : w30v.toInt = ((0 + w10v.toInt) - 48) * 10 := by rw [← w30]; exact zmulc w12 li10 (by omega) (by omega)
            refine zs_imul (pc := 59) t35_59 (c := w30v) w30 ?_
            refine zs_aload_n (pc := 60) t35_60 rfl ?_
            refine zs_invV (pc := 61) (k := 155) (as' := []) (st := [.int w30v]) t35_61 mf30 rfl rfl (Or.inl ⟨by decide, (zk1 (w10s.k fk_zMc_155))⟩) ⟨by decide, by decide, Nat.le_of_ble_eq_true rfl, Nat.le_of_ble_eq_true rfl⟩ (C30_155 w10s w10I ?_) (fun _ _ q => q)
            intro w31M w31v w31s w31I w31F w31a w31b
            show zGo X l 2 0 0 35 64 [(3, .int (1 : Int32)), (2, .int w12v), (1, .int (0 : Int32)), (0, .ref 155)] [.int w31v, .int w30v] w31M _
            obtain ⟨w32v, w32e, w32⟩ := ziadd (a := w30v) (b := w31v) rfl rfl (by omega) (by omega)
            refine zs_iadd (pc := 64) t35_64 (c := w32v) w32e ?_
            refine zs_bipush (pc := 65) t35_65 (v := 48) (by decide) ?_
            obtain ⟨w33v, w33e, w33⟩ := zisub (a := w32v) (b := (48 : Int32)) w32 li48 (by omega) (by omega)
            refine zs_isub (pc := 67) t35_67 (c := w33v) w33e ?_
            refine zs_istore_n (pc := 68) t35_68 (ls' := [(2, .int w33v), (3, .int (1 : Int32)), (1, .int (0 : Int32)), (0, .ref 155)]) (zml mf35 (by decide)) rfl ?_
            refine zs_iinc (pc := 69) t35_69 (ls' := [(3, .int (2 : Int32)), (2, .int w33v), (1, .int (0 : Int32)), (0, .ref 155)]) (zml mf35 (by decide)) rfl (c := 2) (by decide) rfl ?_
            refine zs_goto (pc := 72) t35_72 ?_
            refine zs_iload_n (pc := 41) t35_41 rfl ?_
            refine zs_iconst (pc := 42) t35_42 (v := 4) (by decide) ?_
            refine zs_icmp_geF (pc := 43) t35_43 li2 li4 (by decide) ?_
            refine zs_aload_n (pc := 46) t35_46 rfl ?_
            refine zs_invV (pc := 47) (k := 155) (as' := []) (st := []) t35_47 mf31 rfl rfl (Or.inl ⟨by decide, (zk1 (w31s.k fk_zMc_155))⟩) ⟨by decide, by decide, Nat.le_of_ble_eq_true rfl, Nat.le_of_ble_eq_true rfl⟩ (C31_155 w31s w31I ?_) (fun _ _ q => q)
            intro w34v w34a w34b
            show zGo X l 2 0 0 35 50 [(3, .int (2 : Int32)), (2, .int w33v), (1, .int (0 : Int32)), (0, .ref 155)] [.int w34v] w31M _
            refine zs_invS (pc := 50) (as := [.int w34v]) (st := []) t35_50 (by decide) mf36 rfl rfl ⟨by decide, by decide, Nat.le_of_ble_eq_true rfl, Nat.le_of_ble_eq_true rfl⟩ (zs_in (by decide) mf36 (Nat.le_of_ble_eq_true rfl) ?_) (fun _ _ q => q)
            show zGo X l 0 0 0 36 0 [(0, .int w34v)] [] w31M _
            refine zs_iload_n (pc := 0) t36_0 rfl ?_
            refine zs_bipush (pc := 1) t36_1 (v := 48) (by decide) ?_
            by_cases w35 : w34v.toInt < 48
            · refine zs_icmp_ltT (pc := 3) t36_3 rfl li48 (by omega) ?_
              refine zs_iconst (pc := 16) t36_16 (v := 0) (by decide) ?_
              refine zs_iret (pc := 17) t36_17 mr36 (by decide) ?_
              show zGo X l 2 0 0 35 53 [(3, .int (2 : Int32)), (2, .int w33v), (1, .int (0 : Int32)), (0, .ref 155)] [.int (0 : Int32)] w31M _
              refine zs_if_eqT (pc := 53) t35_53 li0 (by decide) ?_
              refine zs_iload_n (pc := 75) t35_75 rfl ?_
              refine zs_if_eqF (pc := 76) t35_76 li2 (by decide) ?_
              refine zs_aload_n (pc := 79) t35_79 rfl ?_
              refine zs_invV (pc := 80) (k := 155) (as' := []) (st := []) t35_80 mf31 rfl rfl (Or.inl ⟨by decide, (zk1 (w31s.k fk_zMc_155))⟩) ⟨by decide, by decide, Nat.le_of_ble_eq_true rfl, Nat.le_of_ble_eq_true rfl⟩ (C31_155 w31s w31I ?_) (fun _ _ q => q)
              intro w36v w36a w36b
              show zGo X l 2 0 0 35 83 [(3, .int (2 : Int32)), (2, .int w33v), (1, .int (0 : Int32)), (0, .ref 155)] [.int w36v] w31M _
              refine zs_invS (pc := 83) (as := [.int w36v]) (st := []) t35_83 (by decide) mf36 rfl rfl ⟨by decide, by decide, Nat.le_of_ble_eq_true rfl, Nat.le_of_ble_eq_true rfl⟩ (zs_in (by decide) mf36 (Nat.le_of_ble_eq_true rfl) ?_) (fun _ _ q => q)
              show zGo X l 0 0 0 36 0 [(0, .int w36v)] [] w31M _
              refine zs_iload_n (pc := 0) t36_0 rfl ?_
              refine zs_bipush (pc := 1) t36_1 (v := 48) (by decide) ?_
              by_cases w37 : w36v.toInt < 48
              · refine zs_icmp_ltT (pc := 3) t36_3 rfl li48 (by omega) ?_
                refine zs_iconst (pc := 16) t36_16 (v := 0) (by decide) ?_
                refine zs_iret (pc := 17) t36_17 mr36 (by decide) ?_
                show zGo X l 2 0 0 35 86 [(3, .int (2 : Int32)), (2, .int w33v), (1, .int (0 : Int32)), (0, .ref 155)] [.int (0 : Int32)] w31M _
                refine zs_if_eqT (pc := 86) t35_86 li0 (by decide) ?_
                refine zs_aload_n (pc := 98) t35_98 rfl ?_
                refine zs_iload_n (pc := 99) t35_99 rfl ?_
                refine zs_if_eqT (pc := 100) t35_100 li0 (by decide) ?_
                refine zs_iload_n (pc := 108) t35_108 rfl ?_
                have w38 : zIv cLo cHi (zsI w31M 155 4 w33v) := zIv.put w31I (show (-300000) ≤ w33v.toInt ∧ w33v.toInt ≤ 300000 from ⟨by omega, by omega⟩)
                refine zs_putI (pc := 109) t35_109 (zk1 (w31s.k fk_zMc_155)) rfl ?_
                refine zs_iconst (pc := 112) t35_112 (v := 1) (by decide) ?_
                exact zs_iret (pc := 113) t35_113 mr35 (by decide) (hQ _ _ w31s w38 (((((zFr.refl).put rfl).trans (w10F.mono rfl)).trans (w31F.mono rfl)).put rfl) (by decide) (by decide))
              · refine zs_icmp_ltF (pc := 3) t36_3 rfl li48 (by omega) ?_
                refine zs_iload_n (pc := 6) t36_6 rfl ?_
                refine zs_bipush (pc := 7) t36_7 (v := 57) (by decide) ?_
                by_cases w39 : 57 < w36v.toInt
                · refine zs_icmp_gtT (pc := 9) t36_9 rfl li57 (by omega) ?_
                  refine zs_iconst (pc := 16) t36_16 (v := 0) (by decide) ?_
                  refine zs_iret (pc := 17) t36_17 mr36 (by decide) ?_
                  show zGo X l 2 0 0 35 86 [(3, .int (2 : Int32)), (2, .int w33v), (1, .int (0 : Int32)), (0, .ref 155)] [.int (0 : Int32)] w31M _
                  refine zs_if_eqT (pc := 86) t35_86 li0 (by decide) ?_
                  refine zs_aload_n (pc := 98) t35_98 rfl ?_
                  refine zs_iload_n (pc := 99) t35_99 rfl ?_
                  refine zs_if_eqT (pc := 100) t35_100 li0 (by decide) ?_
                  refine zs_iload_n (pc := 108) t35_108 rfl ?_
                  have w40 : zIv cLo cHi (zsI w31M 155 4 w33v) := zIv.put w31I (show (-300000) ≤ w33v.toInt ∧ w33v.toInt ≤ 300000 from ⟨by omega, by omega⟩)
                  refine zs_putI (pc := 109) t35_109 (zk1 (w31s.k fk_zMc_155)) rfl ?_
                  refine zs_iconst (pc := 112) t35_112 (v := 1) (by decide) ?_
                  exact zs_iret (pc := 113) t35_113 mr35 (by decide) (hQ _ _ w31s w40 (((((zFr.refl).put rfl).trans (w10F.mono rfl)).trans (w31F.mono rfl)).put rfl) (by decide) (by decide))
                · refine zs_icmp_gtF (pc := 9) t36_9 rfl li57 (by omega) ?_
                  refine zs_iconst (pc := 12) t36_12 (v := 1) (by decide) ?_
                  refine zs_goto (pc := 13) t36_13 ?_
                  refine zs_iret (pc := 17) t36_17 mr36 (by decide) ?_
                  show zGo X l 2 0 0 35 86 [(3, .int (2 : Int32)), (2, .int w33v), (1, .int (0 : Int32)), (0, .ref 155)] [.int (1 : Int32)] w31M _
                  refine zs_if_eqF (pc := 86) t35_86 li1 (by decide) ?_
                  refine zs_aload_n (pc := 89) t35_89 rfl ?_
                  refine zs_aload_n (pc := 90) t35_90 rfl ?_
                  have w41 := ib155_2 w31I
                  refine zs_get (pc := 91) t35_91 (by decide) (zk1 (w31s.k fk_zMc_155)) (zfvi rfl rfl) ?_
                  refine zs_invV (pc := 94) (k := 155) (as' := [.int (zI w31M 155 2)]) (st := []) t35_94 mf34 rfl rfl (Or.inl ⟨by decide, (zk1 (w31s.k fk_zMc_155))⟩) ⟨by decide, by decide, Nat.le_of_ble_eq_true rfl, Nat.le_of_ble_eq_true rfl⟩ (zs_in (by decide) mf34 (Nat.le_of_ble_eq_true rfl) ?_) (fun _ _ q => q)
                  show zGo X l 0 0 0 34 0 [(0, .ref 155), (1, .int (zI w31M 155 2))] [] w31M _
                  refine zs_aload_n (pc := 0) t34_0 rfl ?_
                  refine zs_iload_n (pc := 1) t34_1 rfl ?_
                  have w42 : zIv cLo cHi (zsI w31M 155 3 (zI w31M 155 2)) := zIv.put w31I (show (-2147483648) ≤ (zI w31M 155 2).toInt ∧ (zI w31M 155 2).toInt ≤ 2147483647 from (zrg (zI w31M 155 2)))
                  refine zs_putI (pc := 2) t34_2 (zk1 (w31s.k fk_zMc_155)) rfl ?_
                  refine zs_iconst (pc := 5) t34_5 (v := 0) (by decide) ?_
                  refine zs_iret (pc := 6) t34_6 mr34 (by decide) ?_
                  show zGo X l 2 0 0 35 97 [(3, .int (2 : Int32)), (2, .int w33v), (1, .int (0 : Int32)), (0, .ref 155)] [.int (0 : Int32)] (zsI w31M 155 3 (zI w31M 155 2)) _
                  exact zs_iret (pc := 97) t35_97 mr35 (by decide) (hQ _ _ w31s w42 (((((zFr.refl).put rfl).trans (w10F.mono rfl)).trans (w31F.mono rfl)).put rfl) (by decide) (by decide))
            · refine zs_icmp_ltF (pc := 3) t36_3 rfl li48 (by omega) ?_
              refine zs_iload_n (pc := 6) t36_6 rfl ?_
              refine zs_bipush (pc := 7) t36_7 (v := 57) (by decide) ?_
              by_cases w43 : 57 < w34v.toInt
              · refine zs_icmp_gtT (pc := 9) t36_9 rfl li57 (by omega) ?_
                refine zs_iconst (pc := 16) t36_16 (v := 0) (by decide) ?_
                refine zs_iret (pc := 17) t36_17 mr36 (by decide) ?_
                show zGo X l 2 0 0 35 53 [(3, .int (2 : Int32)), (2, .int w33v), (1, .int (0 : Int32)), (0, .ref 155)] [.int (0 : Int32)] w31M _
                refine zs_if_eqT (pc := 53) t35_53 li0 (by decide) ?_
                refine zs_iload_n (pc := 75) t35_75 rfl ?_
                refine zs_if_eqF (pc := 76) t35_76 li2 (by decide) ?_
                refine zs_aload_n (pc := 79) t35_79 rfl ?_
                refine zs_invV (pc := 80) (k := 155) (as' := []) (st := []) t35_80 mf31 rfl rfl (Or.inl ⟨by decide, (zk1 (w31s.k fk_zMc_155))⟩) ⟨by decide, by decide, Nat.le_of_ble_eq_true rfl, Nat.le_of_ble_eq_true rfl⟩ (C31_155 w31s w31I ?_) (fun _ _ q => q)
                intro w44v w44a w44b
                show zGo X l 2 0 0 35 83 [(3, .int (2 : Int32)), (2, .int w33v), (1, .int (0 : Int32)), (0, .ref 155)] [.int w44v] w31M _
                refine zs_invS (pc := 83) (as := [.int w44v]) (st := []) t35_83 (by decide) mf36 rfl rfl ⟨by decide, by decide, Nat.le_of_ble_eq_true rfl, Nat.le_of_ble_eq_true rfl⟩ (zs_in (by decide) mf36 (Nat.le_of_ble_eq_true rfl) ?_) (fun _ _ q => q)
                show zGo X l 0 0 0 36 0 [(0, .int w44v)] [] w31M _
                refine zs_iload_n (pc := 0) t36_0 rfl ?_
                refine zs_bipush (pc := 1) t36_1 (v := 48) (by decide) ?_
                by_cases w45 : w44v.toInt < 48
                · refine zs_icmp_ltT (pc := 3) t36_3 rfl li48 (by omega) ?_
                  refine zs_iconst (pc := 16) t36_16 (v := 0) (by decide) ?_
                  refine zs_iret (pc := 17) t36_17 mr36 (by decide) ?_
                  show zGo X l 2 0 0 35 86 [(3, .int (2 : Int32)), (2, .int w33v), (1, .int (0 : Int32)), (0, .ref 155)] [.int (0 : Int32)] w31M _
                  refine zs_if_eqT (pc := 86) t35_86 li0 (by decide) ?_
                  refine zs_aload_n (pc := 98) t35_98 rfl ?_
                  refine zs_iload_n (pc := 99) t35_99 rfl ?_
                  refine zs_if_eqT (pc := 100) t35_100 li0 (by decide) ?_
                  refine zs_iload_n (pc := 108) t35_108 rfl ?_
                  have w46 : zIv cLo cHi (zsI w31M 155 4 w33v) := zIv.put w31I (show (-300000) ≤ w33v.toInt ∧ w33v.toInt ≤ 300000 from ⟨by omega, by omega⟩)
                  refine zs_putI (pc := 109) t35_109 (zk1 (w31s.k fk_zMc_155)) rfl ?_
                  refine zs_iconst (pc := 112) t35_112 (v := 1) (by decide) ?_
                  exact zs_iret (pc := 113) t35_113 mr35 (by decide) (hQ _ _ w31s w46 (((((zFr.refl).put rfl).trans (w10F.mono rfl)).trans (w31F.mono rfl)).put rfl) (by decide) (by decide))
                · refine zs_icmp_ltF (pc := 3) t36_3 rfl li48 (by omega) ?_
                  refine zs_iload_n (pc := 6) t36_6 rfl ?_
                  refine zs_bipush (pc := 7) t36_7 (v := 57) (by decide) ?_
                  by_cases w47 : 57 < w44v.toInt
                  · refine zs_icmp_gtT (pc := 9) t36_9 rfl li57 (by omega) ?_
                    refine zs_iconst (pc := 16) t36_16 (v := 0) (by decide) ?_
                    refine zs_iret (pc := 17) t36_17 mr36 (by decide) ?_
                    show zGo X l 2 0 0 35 86 [(3, .int (2 : Int32)), (2, .int w33v), (1, .int (0 : Int32)), (0, .ref 155)] [.int (0 : Int32)] w31M _
                    refine zs_if_eqT (pc := 86) t35_86 li0 (by decide) ?_
                    refine zs_aload_n (pc := 98) t35_98 rfl ?_
                    refine zs_iload_n (pc := 99) t35_99 rfl ?_
                    refine zs_if_eqT (pc := 100) t35_100 li0 (by decide) ?_
                    refine zs_iload_n (pc := 108) t35_108 rfl ?_
                    have w48 : zIv cLo cHi (zsI w31M 155 4 w33v) := zIv.put w31I (show (-300000) ≤ w33v.toInt ∧ w33v.toInt ≤ 300000 from ⟨by omega, by omega⟩)
                    refine zs_putI (pc := 109) t35_109 (zk1 (w31s.k fk_zMc_155)) rfl ?_
                    refine zs_iconst (pc := 112) t35_112 (v := 1) (by decide) ?_
                    exact zs_iret (pc := 113) t35_113 mr35 (by decide) (hQ _ _ w31s w48 (((((zFr.refl).put rfl).trans (w10F.mono rfl)).trans (w31F.mono rfl)).put rfl) (by decide) (by decide))
                  · refine zs_icmp_gtF (pc := 9) t36_9 rfl li57 (by omega) ?_
                    refine zs_iconst (pc := 12) t36_12 (v := 1) (by decide) ?_
                    refine zs_goto (pc := 13) t36_13 ?_
                    refine zs_iret (pc := 17) t36_17 mr36 (by decide) ?_
                    show zGo X l 2 0 0 35 86 [(3, .int (2 : Int32)), (2, .int w33v), (1, .int (0 : Int32)), (0, .ref 155)] [.int (1 : Int32)] w31M _
                    refine zs_if_eqF (pc := 86) t35_86 li1 (by decide) ?_
                    refine zs_aload_n (pc := 89) t35_89 rfl ?_
                    refine zs_aload_n (pc := 90) t35_90 rfl ?_
                    have w49 := ib155_2 w31I
                    refine zs_get (pc := 91) t35_91 (by decide) (zk1 (w31s.k fk_zMc_155)) (zfvi rfl rfl) ?_
                    refine zs_invV (pc := 94) (k := 155) (as' := [.int (zI w31M 155 2)]) (st := []) t35_94 mf34 rfl rfl (Or.inl ⟨by decide, (zk1 (w31s.k fk_zMc_155))⟩) ⟨by decide, by decide, Nat.le_of_ble_eq_true rfl, Nat.le_of_ble_eq_true rfl⟩ (zs_in (by decide) mf34 (Nat.le_of_ble_eq_true rfl) ?_) (fun _ _ q => q)
                    show zGo X l 0 0 0 34 0 [(0, .ref 155), (1, .int (zI w31M 155 2))] [] w31M _
                    refine zs_aload_n (pc := 0) t34_0 rfl ?_
                    refine zs_iload_n (pc := 1) t34_1 rfl ?_
                    have w50 : zIv cLo cHi (zsI w31M 155 3 (zI w31M 155 2)) := zIv.put w31I (show (-2147483648) ≤ (zI w31M 155 2).toInt ∧ (zI w31M 155 2).toInt ≤ 2147483647 from (zrg (zI w31M 155 2)))
                    refine zs_putI (pc := 2) t34_2 (zk1 (w31s.k fk_zMc_155)) rfl ?_
                    refine zs_iconst (pc := 5) t34_5 (v := 0) (by decide) ?_
                    refine zs_iret (pc := 6) t34_6 mr34 (by decide) ?_
                    show zGo X l 2 0 0 35 97 [(3, .int (2 : Int32)), (2, .int w33v), (1, .int (0 : Int32)), (0, .ref 155)] [.int (0 : Int32)] (zsI w31M 155 3 (zI w31M 155 2)) _
                    exact zs_iret (pc := 97) t35_97 mr35 (by decide) (hQ _ _ w31s w50 (((((zFr.refl).put rfl).trans (w10F.mono rfl)).trans (w31F.mono rfl)).put rfl) (by decide) (by decide))
              · refine zs_icmp_gtF (pc := 9) t36_9 rfl li57 (by omega) ?_
                refine zs_iconst (pc := 12) t36_12 (v := 1) (by decide) ?_
                refine zs_goto (pc := 13) t36_13 ?_
                refine zs_iret (pc := 17) t36_17 mr36 (by decide) ?_
                show zGo X l 2 0 0 35 53 [(3, .int (2 : Int32)), (2, .int w33v), (1, .int (0 : Int32)), (0, .ref 155)] [.int (1 : Int32)] w31M _
                refine zs_if_eqF (pc := 53) t35_53 li1 (by decide) ?_
                refine zs_iload_n (pc := 56) t35_56 rfl ?_
                refine zs_bipush (pc := 57) t35_57 (v := 10) (by decide) ?_
                obtain ⟨w51v, w51⟩ : ∃ v, w33v * (10 : Int32) = v := ⟨_, rfl⟩
                have w51g : w51v.toInt = ((w30v.toInt + w31v.toInt) - 48) * 10 := by rw [← w51]; exact zmulc w33 li10 (by omega) (by omega)
                refine zs_imul (pc := 59) t35_59 (c := w51v) w51 ?_
                refine zs_aload_n (pc := 60) t35_60 rfl ?_
                refine zs_invV (pc := 61) (k := 155) (as' := []) (st := [.int w51v]) t35_61 mf30 rfl rfl (Or.inl ⟨by decide, (zk1 (w31s.k fk_zMc_155))⟩) ⟨by decide, by decide, Nat.le_of_ble_eq_true rfl, Nat.le_of_ble_eq_true rfl⟩ (C30_155 w31s w31I ?_) (fun _ _ q => q)
                intro w52M w52v w52s w52I w52F w52a w52b
                show zGo X l 2 0 0 35 64 [(3, .int (2 : Int32)), (2, .int w33v), (1, .int (0 : Int32)), (0, .ref 155)] [.int w52v, .int w51v] w52M _
                obtain ⟨w53v, w53e, w53⟩ := ziadd (a := w51v) (b := w52v) rfl rfl (by omega) (by omega)
                refine zs_iadd (pc := 64) t35_64 (c := w53v) w53e ?_
                refine zs_bipush (pc := 65) t35_65 (v := 48) (by decide) ?_
                obtain ⟨w54v, w54e, w54⟩ := zisub (a := w53v) (b := (48 : Int32)) w53 li48 (by omega) (by omega)
                refine zs_isub (pc := 67) t35_67 (c := w54v) w54e ?_
                refine zs_istore_n (pc := 68) t35_68 (ls' := [(2, .int w54v), (3, .int (2 : Int32)), (1, .int (0 : Int32)), (0, .ref 155)]) (zml mf35 (by decide)) rfl ?_
                refine zs_iinc (pc := 69) t35_69 (ls' := [(3, .int (3 : Int32)), (2, .int w54v), (1, .int (0 : Int32)), (0, .ref 155)]) (zml mf35 (by decide)) rfl (c := 3) (by decide) rfl ?_
                refine zs_goto (pc := 72) t35_72 ?_
                refine zs_iload_n (pc := 41) t35_41 rfl ?_
                refine zs_iconst (pc := 42) t35_42 (v := 4) (by decide) ?_
                refine zs_icmp_geF (pc := 43) t35_43 li3 li4 (by decide) ?_
                refine zs_aload_n (pc := 46) t35_46 rfl ?_
                refine zs_invV (pc := 47) (k := 155) (as' := []) (st := []) t35_47 mf31 rfl rfl (Or.inl ⟨by decide, (zk1 (w52s.k fk_zMc_155))⟩) ⟨by decide, by decide, Nat.le_of_ble_eq_true rfl, Nat.le_of_ble_eq_true rfl⟩ (C31_155 w52s w52I ?_) (fun _ _ q => q)
                intro w55v w55a w55b
                show zGo X l 2 0 0 35 50 [(3, .int (3 : Int32)), (2, .int w54v), (1, .int (0 : Int32)), (0, .ref 155)] [.int w55v] w52M _
                refine zs_invS (pc := 50) (as := [.int w55v]) (st := []) t35_50 (by decide) mf36 rfl rfl ⟨by decide, by decide, Nat.le_of_ble_eq_true rfl, Nat.le_of_ble_eq_true rfl⟩ (zs_in (by decide) mf36 (Nat.le_of_ble_eq_true rfl) ?_) (fun _ _ q => q)
                show zGo X l 0 0 0 36 0 [(0, .int w55v)] [] w52M _
                refine zs_iload_n (pc := 0) t36_0 rfl ?_
                refine zs_bipush (pc := 1) t36_1 (v := 48) (by decide) ?_
                by_cases w56 : w55v.toInt < 48
                · refine zs_icmp_ltT (pc := 3) t36_3 rfl li48 (by omega) ?_
                  refine zs_iconst (pc := 16) t36_16 (v := 0) (by decide) ?_
                  refine zs_iret (pc := 17) t36_17 mr36 (by decide) ?_
                  show zGo X l 2 0 0 35 53 [(3, .int (3 : Int32)), (2, .int w54v), (1, .int (0 : Int32)), (0, .ref 155)] [.int (0 : Int32)] w52M _
                  refine zs_if_eqT (pc := 53) t35_53 li0 (by decide) ?_
                  refine zs_iload_n (pc := 75) t35_75 rfl ?_
                  refine zs_if_eqF (pc := 76) t35_76 li3 (by decide) ?_
                  refine zs_aload_n (pc := 79) t35_79 rfl ?_
                  refine zs_invV (pc := 80) (k := 155) (as' := []) (st := []) t35_80 mf31 rfl rfl (Or.inl ⟨by decide, (zk1 (w52s.k fk_zMc_155))⟩) ⟨by decide, by decide, Nat.le_of_ble_eq_true rfl, Nat.le_of_ble_eq_true rfl⟩ (C31_155 w52s w52I ?_) (fun _ _ q => q)
                  intro w57v w57a w57b
                  show zGo X l 2 0 0 35 83 [(3, .int (3 : Int32)), (2, .int w54v), (1, .int (0 : Int32)), (0, .ref 155)] [.int w57v] w52M _
                  refine zs_invS (pc := 83) (as := [.int w57v]) (st := []) t35_83 (by decide) mf36 rfl rfl ⟨by decide, by decide, Nat.le_of_ble_eq_true rfl, Nat.le_of_ble_eq_true rfl⟩ (zs_in (by decide) mf36 (Nat.le_of_ble_eq_true rfl) ?_) (fun _ _ q => q)
                  show zGo X l 0 0 0 36 0 [(0, .int w57v)] [] w52M _
                  refine zs_iload_n (pc := 0) t36_0 rfl ?_
                  refine zs_bipush (pc := 1) t36_1 (v := 48) (by decide) ?_
                  by_cases w58 : w57v.toInt < 48
                  · refine zs_icmp_ltT (pc := 3) t36_3 rfl li48 (by omega) ?_
                    refine zs_iconst (pc := 16) t36_16 (v := 0) (by decide) ?_
                    refine zs_iret (pc := 17) t36_17 mr36 (by decide) ?_
                    show zGo X l 2 0 0 35 86 [(3, .int (3 : Int32)), (2, .int w54v), (1, .int (0 : Int32)), (0, .ref 155)] [.int (0 : Int32)] w52M _
                    refine zs_if_eqT (pc := 86) t35_86 li0 (by decide) ?_
                    refine zs_aload_n (pc := 98) t35_98 rfl ?_
                    refine zs_iload_n (pc := 99) t35_99 rfl ?_
                    refine zs_if_eqT (pc := 100) t35_100 li0 (by decide) ?_
                    refine zs_iload_n (pc := 108) t35_108 rfl ?_
                    have w59 : zIv cLo cHi (zsI w52M 155 4 w54v) := zIv.put w52I (show (-300000) ≤ w54v.toInt ∧ w54v.toInt ≤ 300000 from ⟨by omega, by omega⟩)
                    refine zs_putI (pc := 109) t35_109 (zk1 (w52s.k fk_zMc_155)) rfl ?_
                    refine zs_iconst (pc := 112) t35_112 (v := 1) (by decide) ?_
                    exact zs_iret (pc := 113) t35_113 mr35 (by decide) (hQ _ _ w52s w59 ((((((zFr.refl).put rfl).trans (w10F.mono rfl)).trans (w31F.mono rfl)).trans (w52F.mono rfl)).put rfl) (by decide) (by decide))
                  · refine zs_icmp_ltF (pc := 3) t36_3 rfl li48 (by omega) ?_
                    refine zs_iload_n (pc := 6) t36_6 rfl ?_
                    refine zs_bipush (pc := 7) t36_7 (v := 57) (by decide) ?_
                    by_cases w60 : 57 < w57v.toInt
                    · refine zs_icmp_gtT (pc := 9) t36_9 rfl li57 (by omega) ?_
                      refine zs_iconst (pc := 16) t36_16 (v := 0) (by decide) ?_
                      refine zs_iret (pc := 17) t36_17 mr36 (by decide) ?_
                      show zGo X l 2 0 0 35 86 [(3, .int (3 : Int32)), (2, .int w54v), (1, .int (0 : Int32)), (0, .ref 155)] [.int (0 : Int32)] w52M _
                      refine zs_if_eqT (pc := 86) t35_86 li0 (by decide) ?_
                      refine zs_aload_n (pc := 98) t35_98 rfl ?_
                      refine zs_iload_n (pc := 99) t35_99 rfl ?_
                      refine zs_if_eqT (pc := 100) t35_100 li0 (by decide) ?_
                      refine zs_iload_n (pc := 108) t35_108 rfl ?_
                      have w61 : zIv cLo cHi (zsI w52M 155 4 w54v) := zIv.put w52I (show (-300000) ≤ w54v.toInt ∧ w54v.toInt ≤ 300000 from ⟨by omega, by omega⟩)
                      refine zs_putI (pc := 109) t35_109 (zk1 (w52s.k fk_zMc_155)) rfl ?_
                      refine zs_iconst (pc := 112) t35_112 (v := 1) (by decide) ?_
                      exact zs_iret (pc := 113) t35_113 mr35 (by decide) (hQ _ _ w52s w61 ((((((zFr.refl).put rfl).trans (w10F.mono rfl)).trans (w31F.mono rfl)).trans (w52F.mono rfl)).put rfl) (by decide) (by decide))
                    · refine zs_icmp_gtF (pc := 9) t36_9 rfl li57 (by omega) ?_
                      refine zs_iconst (pc := 12) t36_12 (v := 1) (by decide) ?_
                      refine zs_goto (pc := 13) t36_13 ?_
                      refine zs_iret (pc := 17) t36_17 mr36 (by decide) ?_
                      show zGo X l 2 0 0 35 86 [(3, .int (3 : Int32)), (2, .int w54v), (1, .int (0 : Int32)), (0, .ref 155)] [.int (1 : Int32)] w52M _
                      refine zs_if_eqF (pc := 86) t35_86 li1 (by decide) ?_
                      refine zs_aload_n (pc := 89) t35_89 rfl ?_
                      refine zs_aload_n (pc := 90) t35_90 rfl ?_
                      have w62 := ib155_2 w52I
                      refine zs_get (pc := 91) t35_91 (by decide) (zk1 (w52s.k fk_zMc_155)) (zfvi rfl rfl) ?_
                      refine zs_invV (pc := 94) (k := 155) (as' := [.int (zI w52M 155 2)]) (st := []) t35_94 mf34 rfl rfl (Or.inl ⟨by decide, (zk1 (w52s.k fk_zMc_155))⟩) ⟨by decide, by decide, Nat.le_of_ble_eq_true rfl, Nat.le_of_ble_eq_true rfl⟩ (zs_in (by decide) mf34 (Nat.le_of_ble_eq_true rfl) ?_) (fun _ _ q => q)
                      show zGo X l 0 0 0 34 0 [(0, .ref 155), (1, .int (zI w52M 155 2))] [] w52M _
                      refine zs_aload_n (pc := 0) t34_0 rfl ?_
                      refine zs_iload_n (pc := 1) t34_1 rfl ?_
                      have w63 : zIv cLo cHi (zsI w52M 155 3 (zI w52M 155 2)) := zIv.put w52I (show (-2147483648) ≤ (zI w52M 155 2).toInt ∧ (zI w52M 155 2).toInt ≤ 2147483647 from (zrg (zI w52M 155 2)))
                      refine zs_putI (pc := 2) t34_2 (zk1 (w52s.k fk_zMc_155)) rfl ?_
                      refine zs_iconst (pc := 5) t34_5 (v := 0) (by decide) ?_
                      refine zs_iret (pc := 6) t34_6 mr34 (by decide) ?_
                      show zGo X l 2 0 0 35 97 [(3, .int (3 : Int32)), (2, .int w54v), (1, .int (0 : Int32)), (0, .ref 155)] [.int (0 : Int32)] (zsI w52M 155 3 (zI w52M 155 2)) _
                      exact zs_iret (pc := 97) t35_97 mr35 (by decide) (hQ _ _ w52s w63 ((((((zFr.refl).put rfl).trans (w10F.mono rfl)).trans (w31F.mono rfl)).trans (w52F.mono rfl)).put rfl) (by decide) (by decide))
                · refine zs_icmp_ltF (pc := 3) t36_3 rfl li48 (by omega) ?_
                  refine zs_iload_n (pc := 6) t36_6 rfl ?_
                  refine zs_bipush (pc := 7) t36_7 (v := 57) (by decide) ?_
                  by_cases w64 : 57 < w55v.toInt
                  · refine zs_icmp_gtT (pc := 9) t36_9 rfl li57 (by omega) ?_
                    refine zs_iconst (pc := 16) t36_16 (v := 0) (by decide) ?_
                    refine zs_iret (pc := 17) t36_17 mr36 (by decide) ?_
                    show zGo X l 2 0 0 35 53 [(3, .int (3 : Int32)), (2, .int w54v), (1, .int (0 : Int32)), (0, .ref 155)] [.int (0 : Int32)] w52M _
                    refine zs_if_eqT (pc := 53) t35_53 li0 (by decide) ?_
                    refine zs_iload_n (pc := 75) t35_75 rfl ?_
                    refine zs_if_eqF (pc := 76) t35_76 li3 (by decide) ?_
                    refine zs_aload_n (pc := 79) t35_79 rfl ?_
                    refine zs_invV (pc := 80) (k := 155) (as' := []) (st := []) t35_80 mf31 rfl rfl (Or.inl ⟨by decide, (zk1 (w52s.k fk_zMc_155))⟩) ⟨by decide, by decide, Nat.le_of_ble_eq_true rfl, Nat.le_of_ble_eq_true rfl⟩ (C31_155 w52s w52I ?_) (fun _ _ q => q)
                    intro w65v w65a w65b
                    show zGo X l 2 0 0 35 83 [(3, .int (3 : Int32)), (2, .int w54v), (1, .int (0 : Int32)), (0, .ref 155)] [.int w65v] w52M _
                    refine zs_invS (pc := 83) (as := [.int w65v]) (st := []) t35_83 (by decide) mf36 rfl rfl ⟨by decide, by decide, Nat.le_of_ble_eq_true rfl, Nat.le_of_ble_eq_true rfl⟩ (zs_in (by decide) mf36 (Nat.le_of_ble_eq_true rfl) ?_) (fun _ _ q => q)
                    show zGo X l 0 0 0 36 0 [(0, .int w65v)] [] w52M _
                    refine zs_iload_n (pc := 0) t36_0 rfl ?_
                    refine zs_bipush (pc := 1) t36_1 (v := 48) (by decide) ?_
                    by_cases w66 : w65v.toInt < 48
                    · refine zs_icmp_ltT (pc := 3) t36_3 rfl li48 (by omega) ?_
                      refine zs_iconst (pc := 16) t36_16 (v := 0) (by decide) ?_
                      refine zs_iret (pc := 17) t36_17 mr36 (by decide) ?_
                      show zGo X l 2 0 0 35 86 [(3, .int (3 : Int32)), (2, .int w54v), (1, .int (0 : Int32)), (0, .ref 155)] [.int (0 : Int32)] w52M _
                      refine zs_if_eqT (pc := 86) t35_86 li0 (by decide) ?_
                      refine zs_aload_n (pc := 98) t35_98 rfl ?_
                      refine zs_iload_n (pc := 99) t35_99 rfl ?_
                      refine zs_if_eqT (pc := 100) t35_100 li0 (by decide) ?_
                      refine zs_iload_n (pc := 108) t35_108 rfl ?_
                      have w67 : zIv cLo cHi (zsI w52M 155 4 w54v) := zIv.put w52I (show (-300000) ≤ w54v.toInt ∧ w54v.toInt ≤ 300000 from ⟨by omega, by omega⟩)
                      refine zs_putI (pc := 109) t35_109 (zk1 (w52s.k fk_zMc_155)) rfl ?_
                      refine zs_iconst (pc := 112) t35_112 (v := 1) (by decide) ?_
                      exact zs_iret (pc := 113) t35_113 mr35 (by decide) (hQ _ _ w52s w67 ((((((zFr.refl).put rfl).trans (w10F.mono rfl)).trans (w31F.mono rfl)).trans (w52F.mono rfl)).put rfl) (by decide) (by decide))
                    · refine zs_icmp_ltF (pc := 3) t36_3 rfl li48 (by omega) ?_
                      refine zs_iload_n (pc := 6) t36_6 rfl ?_
                      refine zs_bipush (pc := 7) t36_7 (v := 57) (by decide) ?_
                      by_cases w68 : 57 < w65v.toInt
                      · refine zs_icmp_gtT (pc := 9) t36_9 rfl li57 (by omega) ?_
                        refine zs_iconst (pc := 16) t36_16 (v := 0) (by decide) ?_
                        refine zs_iret (pc := 17) t36_17 mr36 (by decide) ?_
                        show zGo X l 2 0 0 35 86 [(3, .int (3 : Int32)), (2, .int w54v), (1, .int (0 : Int32)), (0, .ref 155)] [.int (0 : Int32)] w52M _
                        refine zs_if_eqT (pc := 86) t35_86 li0 (by decide) ?_
                        refine zs_aload_n (pc := 98) t35_98 rfl ?_
                        refine zs_iload_n (pc := 99) t35_99 rfl ?_
                        refine zs_if_eqT (pc := 100) t35_100 li0 (by decide) ?_
                        refine zs_iload_n (pc := 108) t35_108 rfl ?_
                        have w69 : zIv cLo cHi (zsI w52M 155 4 w54v) := zIv.put w52I (show (-300000) ≤ w54v.toInt ∧ w54v.toInt ≤ 300000 from ⟨by omega, by omega⟩)
                        refine zs_putI (pc := 109) t35_109 (zk1 (w52s.k fk_zMc_155)) rfl ?_
                        refine zs_iconst (pc := 112) t35_112 (v := 1) (by decide) ?_
                        exact zs_iret (pc := 113) t35_113 mr35 (by decide) (hQ _ _ w52s w69 ((((((zFr.refl).put rfl).trans (w10F.mono rfl)).trans (w31F.mono rfl)).trans (w52F.mono rfl)).put rfl) (by decide) (by decide))
                      · refine zs_icmp_gtF (pc := 9) t36_9 rfl li57 (by omega) ?_
                        refine zs_iconst (pc := 12) t36_12 (v := 1) (by decide) ?_
                        refine zs_goto (pc := 13) t36_13 ?_
                        refine zs_iret (pc := 17) t36_17 mr36 (by decide) ?_
                        show zGo X l 2 0 0 35 86 [(3, .int (3 : Int32)), (2, .int w54v), (1, .int (0 : Int32)), (0, .ref 155)] [.int (1 : Int32)] w52M _
                        refine zs_if_eqF (pc := 86) t35_86 li1 (by decide) ?_
                        refine zs_aload_n (pc := 89) t35_89 rfl ?_
                        refine zs_aload_n (pc := 90) t35_90 rfl ?_
                        have w70 := ib155_2 w52I
                        refine zs_get (pc := 91) t35_91 (by decide) (zk1 (w52s.k fk_zMc_155)) (zfvi rfl rfl) ?_
                        refine zs_invV (pc := 94) (k := 155) (as' := [.int (zI w52M 155 2)]) (st := []) t35_94 mf34 rfl rfl (Or.inl ⟨by decide, (zk1 (w52s.k fk_zMc_155))⟩) ⟨by decide, by decide, Nat.le_of_ble_eq_true rfl, Nat.le_of_ble_eq_true rfl⟩ (zs_in (by decide) mf34 (Nat.le_of_ble_eq_true rfl) ?_) (fun _ _ q => q)
                        show zGo X l 0 0 0 34 0 [(0, .ref 155), (1, .int (zI w52M 155 2))] [] w52M _
                        refine zs_aload_n (pc := 0) t34_0 rfl ?_
                        refine zs_iload_n (pc := 1) t34_1 rfl ?_
                        have w71 : zIv cLo cHi (zsI w52M 155 3 (zI w52M 155 2)) := zIv.put w52I (show (-2147483648) ≤ (zI w52M 155 2).toInt ∧ (zI w52M 155 2).toInt ≤ 2147483647 from (zrg (zI w52M 155 2)))
                        refine zs_putI (pc := 2) t34_2 (zk1 (w52s.k fk_zMc_155)) rfl ?_
                        refine zs_iconst (pc := 5) t34_5 (v := 0) (by decide) ?_
                        refine zs_iret (pc := 6) t34_6 mr34 (by decide) ?_
                        show zGo X l 2 0 0 35 97 [(3, .int (3 : Int32)), (2, .int w54v), (1, .int (0 : Int32)), (0, .ref 155)] [.int (0 : Int32)] (zsI w52M 155 3 (zI w52M 155 2)) _
                        exact zs_iret (pc := 97) t35_97 mr35 (by decide) (hQ _ _ w52s w71 ((((((zFr.refl).put rfl).trans (w10F.mono rfl)).trans (w31F.mono rfl)).trans (w52F.mono rfl)).put rfl) (by decide) (by decide))
                  · refine zs_icmp_gtF (pc := 9) t36_9 rfl li57 (by omega) ?_
                    refine zs_iconst (pc := 12) t36_12 (v := 1) (by decide) ?_
                    refine zs_goto (pc := 13) t36_13 ?_
                    refine zs_iret (pc := 17) t36_17 mr36 (by decide) ?_
                    show zGo X l 2 0 0 35 53 [(3, .int (3 : Int32)), (2, .int w54v), (1, .int (0 : Int32)), (0, .ref 155)] [.int (1 : Int32)] w52M _
                    refine zs_if_eqF (pc := 53) t35_53 li1 (by decide) ?_
                    refine zs_iload_n (pc := 56) t35_56 rfl ?_
                    refine zs_bipush (pc := 57) t35_57 (v := 10) (by decide) ?_
                    obtain ⟨w72v, w72⟩ : ∃ v, w54v * (10 : Int32) = v := ⟨_, rfl⟩
                    have w72g : w72v.toInt = ((w51v.toInt + w52v.toInt) - 48) * 10 := by rw [← w72]; exact zmulc w54 li10 (by omega) (by omega)
                    refine zs_imul (pc := 59) t35_59 (c := w72v) w72 ?_
                    refine zs_aload_n (pc := 60) t35_60 rfl ?_
                    refine zs_invV (pc := 61) (k := 155) (as' := []) (st := [.int w72v]) t35_61 mf30 rfl rfl (Or.inl ⟨by decide, (zk1 (w52s.k fk_zMc_155))⟩) ⟨by decide, by decide, Nat.le_of_ble_eq_true rfl, Nat.le_of_ble_eq_true rfl⟩ (C30_155 w52s w52I ?_) (fun _ _ q => q)
                    intro w73M w73v w73s w73I w73F w73a w73b
                    show zGo X l 2 0 0 35 64 [(3, .int (3 : Int32)), (2, .int w54v), (1, .int (0 : Int32)), (0, .ref 155)] [.int w73v, .int w72v] w73M _
                    obtain ⟨w74v, w74e, w74⟩ := ziadd (a := w72v) (b := w73v) rfl rfl (by omega) (by omega)
                    refine zs_iadd (pc := 64) t35_64 (c := w74v) w74e ?_
                    refine zs_bipush (pc := 65) t35_65 (v := 48) (by decide) ?_
                    obtain ⟨w75v, w75e, w75⟩ := zisub (a := w74v) (b := (48 : Int32)) w74 li48 (by omega) (by omega)
                    refine zs_isub (pc := 67) t35_67 (c := w75v) w75e ?_
                    refine zs_istore_n (pc := 68) t35_68 (ls' := [(2, .int w75v), (3, .int (3 : Int32)), (1, .int (0 : Int32)), (0, .ref 155)]) (zml mf35 (by decide)) rfl ?_
                    refine zs_iinc (pc := 69) t35_69 (ls' := [(3, .int (4 : Int32)), (2, .int w75v), (1, .int (0 : Int32)), (0, .ref 155)]) (zml mf35 (by decide)) rfl (c := 4) (by decide) rfl ?_
                    refine zs_goto (pc := 72) t35_72 ?_
                    refine zs_iload_n (pc := 41) t35_41 rfl ?_
                    refine zs_iconst (pc := 42) t35_42 (v := 4) (by decide) ?_
                    refine zs_icmp_geT (pc := 43) t35_43 li4 li4 (by decide) ?_
                    refine zs_iload_n (pc := 75) t35_75 rfl ?_
                    refine zs_if_eqF (pc := 76) t35_76 li4 (by decide) ?_
                    refine zs_aload_n (pc := 79) t35_79 rfl ?_
                    refine zs_invV (pc := 80) (k := 155) (as' := []) (st := []) t35_80 mf31 rfl rfl (Or.inl ⟨by decide, (zk1 (w73s.k fk_zMc_155))⟩) ⟨by decide, by decide, Nat.le_of_ble_eq_true rfl, Nat.le_of_ble_eq_true rfl⟩ (C31_155 w73s w73I ?_) (fun _ _ q => q)
                    intro w76v w76a w76b
                    show zGo X l 2 0 0 35 83 [(3, .int (4 : Int32)), (2, .int w75v), (1, .int (0 : Int32)), (0, .ref 155)] [.int w76v] w73M _
                    refine zs_invS (pc := 83) (as := [.int w76v]) (st := []) t35_83 (by decide) mf36 rfl rfl ⟨by decide, by decide, Nat.le_of_ble_eq_true rfl, Nat.le_of_ble_eq_true rfl⟩ (zs_in (by decide) mf36 (Nat.le_of_ble_eq_true rfl) ?_) (fun _ _ q => q)
                    show zGo X l 0 0 0 36 0 [(0, .int w76v)] [] w73M _
                    refine zs_iload_n (pc := 0) t36_0 rfl ?_
                    refine zs_bipush (pc := 1) t36_1 (v := 48) (by decide) ?_
                    by_cases w77 : w76v.toInt < 48
                    · refine zs_icmp_ltT (pc := 3) t36_3 rfl li48 (by omega) ?_
                      refine zs_iconst (pc := 16) t36_16 (v := 0) (by decide) ?_
                      refine zs_iret (pc := 17) t36_17 mr36 (by decide) ?_
                      show zGo X l 2 0 0 35 86 [(3, .int (4 : Int32)), (2, .int w75v), (1, .int (0 : Int32)), (0, .ref 155)] [.int (0 : Int32)] w73M _
                      refine zs_if_eqT (pc := 86) t35_86 li0 (by decide) ?_
                      refine zs_aload_n (pc := 98) t35_98 rfl ?_
                      refine zs_iload_n (pc := 99) t35_99 rfl ?_
                      refine zs_if_eqT (pc := 100) t35_100 li0 (by decide) ?_
                      refine zs_iload_n (pc := 108) t35_108 rfl ?_
                      have w78 : zIv cLo cHi (zsI w73M 155 4 w75v) := zIv.put w73I (show (-300000) ≤ w75v.toInt ∧ w75v.toInt ≤ 300000 from ⟨by omega, by omega⟩)
                      refine zs_putI (pc := 109) t35_109 (zk1 (w73s.k fk_zMc_155)) rfl ?_
                      refine zs_iconst (pc := 112) t35_112 (v := 1) (by decide) ?_
                      exact zs_iret (pc := 113) t35_113 mr35 (by decide) (hQ _ _ w73s w78 (((((((zFr.refl).put rfl).trans (w10F.mono rfl)).trans (w31F.mono rfl)).trans (w52F.mono rfl)).trans (w73F.mono rfl)).put rfl) (by decide) (by decide))
                    · refine zs_icmp_ltF (pc := 3) t36_3 rfl li48 (by omega) ?_
                      refine zs_iload_n (pc := 6) t36_6 rfl ?_
                      refine zs_bipush (pc := 7) t36_7 (v := 57) (by decide) ?_
                      by_cases w79 : 57 < w76v.toInt
                      · refine zs_icmp_gtT (pc := 9) t36_9 rfl li57 (by omega) ?_
                        refine zs_iconst (pc := 16) t36_16 (v := 0) (by decide) ?_
                        refine zs_iret (pc := 17) t36_17 mr36 (by decide) ?_
                        show zGo X l 2 0 0 35 86 [(3, .int (4 : Int32)), (2, .int w75v), (1, .int (0 : Int32)), (0, .ref 155)] [.int (0 : Int32)] w73M _
                        refine zs_if_eqT (pc := 86) t35_86 li0 (by decide) ?_
                        refine zs_aload_n (pc := 98) t35_98 rfl ?_
                        refine zs_iload_n (pc := 99) t35_99 rfl ?_
                        refine zs_if_eqT (pc := 100) t35_100 li0 (by decide) ?_
                        refine zs_iload_n (pc := 108) t35_108 rfl ?_
                        have w80 : zIv cLo cHi (zsI w73M 155 4 w75v) := zIv.put w73I (show (-300000) ≤ w75v.toInt ∧ w75v.toInt ≤ 300000 from ⟨by omega, by omega⟩)
                        refine zs_putI (pc := 109) t35_109 (zk1 (w73s.k fk_zMc_155)) rfl ?_
                        refine zs_iconst (pc := 112) t35_112 (v := 1) (by decide) ?_
                        exact zs_iret (pc := 113) t35_113 mr35 (by decide) (hQ _ _ w73s w80 (((((((zFr.refl).put rfl).trans (w10F.mono rfl)).trans (w31F.mono rfl)).trans (w52F.mono rfl)).trans (w73F.mono rfl)).put rfl) (by decide) (by decide))
                      · refine zs_icmp_gtF (pc := 9) t36_9 rfl li57 (by omega) ?_
                        refine zs_iconst (pc := 12) t36_12 (v := 1) (by decide) ?_
                        refine zs_goto (pc := 13) t36_13 ?_
                        refine zs_iret (pc := 17) t36_17 mr36 (by decide) ?_
                        show zGo X l 2 0 0 35 86 [(3, .int (4 : Int32)), (2, .int w75v), (1, .int (0 : Int32)), (0, .ref 155)] [.int (1 : Int32)] w73M _
                        refine zs_if_eqF (pc := 86) t35_86 li1 (by decide) ?_
                        refine zs_aload_n (pc := 89) t35_89 rfl ?_
                        refine zs_aload_n (pc := 90) t35_90 rfl ?_
                        have w81 := ib155_2 w73I
                        refine zs_get (pc := 91) t35_91 (by decide) (zk1 (w73s.k fk_zMc_155)) (zfvi rfl rfl) ?_
                        refine zs_invV (pc := 94) (k := 155) (as' := [.int (zI w73M 155 2)]) (st := []) t35_94 mf34 rfl rfl (Or.inl ⟨by decide, (zk1 (w73s.k fk_zMc_155))⟩) ⟨by decide, by decide, Nat.le_of_ble_eq_true rfl, Nat.le_of_ble_eq_true rfl⟩ (zs_in (by decide) mf34 (Nat.le_of_ble_eq_true rfl) ?_) (fun _ _ q => q)
                        show zGo X l 0 0 0 34 0 [(0, .ref 155), (1, .int (zI w73M 155 2))] [] w73M _
                        refine zs_aload_n (pc := 0) t34_0 rfl ?_
                        refine zs_iload_n (pc := 1) t34_1 rfl ?_
                        have w82 : zIv cLo cHi (zsI w73M 155 3 (zI w73M 155 2)) := zIv.put w73I (show (-2147483648) ≤ (zI w73M 155 2).toInt ∧ (zI w73M 155 2).toInt ≤ 2147483647 from (zrg (zI w73M 155 2)))
                        refine zs_putI (pc := 2) t34_2 (zk1 (w73s.k fk_zMc_155)) rfl ?_
                        refine zs_iconst (pc := 5) t34_5 (v := 0) (by decide) ?_
                        refine zs_iret (pc := 6) t34_6 mr34 (by decide) ?_
                        show zGo X l 2 0 0 35 97 [(3, .int (4 : Int32)), (2, .int w75v), (1, .int (0 : Int32)), (0, .ref 155)] [.int (0 : Int32)] (zsI w73M 155 3 (zI w73M 155 2)) _
                        exact zs_iret (pc := 97) t35_97 mr35 (by decide) (hQ _ _ w73s w82 (((((((zFr.refl).put rfl).trans (w10F.mono rfl)).trans (w31F.mono rfl)).trans (w52F.mono rfl)).trans (w73F.mono rfl)).put rfl) (by decide) (by decide))
  · refine zs_icmp_neF (pc := 14) t35_14 rfl li45 (by omega) ?_
    refine zs_iconst (pc := 17) t35_17 (v := 1) (by decide) ?_
    refine zs_goto (pc := 18) t35_18 ?_
    refine zs_istore_n (pc := 22) t35_22 (ls' := [(1, .int (1 : Int32)), (0, .ref 155)]) (zml mf35 (by decide)) rfl ?_
    refine zs_iload_n (pc := 23) t35_23 rfl ?_
    refine zs_if_eqF (pc := 24) t35_24 li1 (by decide) ?_
    refine zs_aload_n (pc := 27) t35_27 rfl ?_
    refine zs_dup (pc := 28) t35_28 rfl ?_
    refine zs_get (pc := 29) t35_29 (by decide) (zk1 (hs.k fk_zMc_155)) (zfvi rfl ((zIoj (by decide)).trans rfl)) ?_
    refine zs_iconst (pc := 32) t35_32 (v := 1) (by decide) ?_
    obtain ⟨w83v, w83⟩ : ∃ v, v = (zI M 155 2) + (1 : Int32) := ⟨_, rfl⟩
    have w83g := zrg w83v
    refine zs_iadd (pc := 33) t35_33 (c := w83v) w83.symm ?_
    have w84 : zIv cLo cHi (zsI (zsI M 155 5 (zI M 155 2)) 155 2 w83v) := zIv.put w2 (show (-2147483648) ≤ w83v.toInt ∧ w83v.toInt ≤ 2147483647 from (zrg w83v))
    refine zs_putI (pc := 34) t35_34 (zk1 (hs.k fk_zMc_155)) rfl ?_
    refine zs_iconst (pc := 37) t35_37 (v := 0) (by decide) ?_
    refine zs_istore_n (pc := 38) t35_38 (ls' := [(2, .int (0 : Int32)), (1, .int (1 : Int32)), (0, .ref 155)]) (zml mf35 (by decide)) rfl ?_
    refine zs_iconst (pc := 39) t35_39 (v := 0) (by decide) ?_
    refine zs_istore_n (pc := 40) t35_40 (ls' := [(3, .int (0 : Int32)), (2, .int (0 : Int32)), (1, .int (1 : Int32)), (0, .ref 155)]) (zml mf35 (by decide)) rfl ?_
    refine zs_iload_n (pc := 41) t35_41 rfl ?_
    refine zs_iconst (pc := 42) t35_42 (v := 4) (by decide) ?_
    refine zs_icmp_geF (pc := 43) t35_43 li0 li4 (by decide) ?_
    refine zs_aload_n (pc := 46) t35_46 rfl ?_
    refine zs_invV (pc := 47) (k := 155) (as' := []) (st := []) t35_47 mf31 rfl rfl (Or.inl ⟨by decide, (zk1 (hs.k fk_zMc_155))⟩) ⟨by decide, by decide, Nat.le_of_ble_eq_true rfl, Nat.le_of_ble_eq_true rfl⟩ (C31_155 hs w84 ?_) (fun _ _ q => q)
    intro w85v w85a w85b
    show zGo X l 2 0 0 35 50 [(3, .int (0 : Int32)), (2, .int (0 : Int32)), (1, .int (1 : Int32)), (0, .ref 155)] [.int w85v] (zsI (zsI M 155 5 (zI M 155 2)) 155 2 w83v) _
    refine zs_invS (pc := 50) (as := [.int w85v]) (st := []) t35_50 (by decide) mf36 rfl rfl ⟨by decide, by decide, Nat.le_of_ble_eq_true rfl, Nat.le_of_ble_eq_true rfl⟩ (zs_in (by decide) mf36 (Nat.le_of_ble_eq_true rfl) ?_) (fun _ _ q => q)
    show zGo X l 0 0 0 36 0 [(0, .int w85v)] [] (zsI (zsI M 155 5 (zI M 155 2)) 155 2 w83v) _
    refine zs_iload_n (pc := 0) t36_0 rfl ?_
    refine zs_bipush (pc := 1) t36_1 (v := 48) (by decide) ?_
    by_cases w86 : w85v.toInt < 48
    · refine zs_icmp_ltT (pc := 3) t36_3 rfl li48 (by omega) ?_
      refine zs_iconst (pc := 16) t36_16 (v := 0) (by decide) ?_
      refine zs_iret (pc := 17) t36_17 mr36 (by decide) ?_
      show zGo X l 2 0 0 35 53 [(3, .int (0 : Int32)), (2, .int (0 : Int32)), (1, .int (1 : Int32)), (0, .ref 155)] [.int (0 : Int32)] (zsI (zsI M 155 5 (zI M 155 2)) 155 2 w83v) _
      refine zs_if_eqT (pc := 53) t35_53 li0 (by decide) ?_
      refine zs_iload_n (pc := 75) t35_75 rfl ?_
      refine zs_if_eqT (pc := 76) t35_76 li0 (by decide) ?_
      refine zs_aload_n (pc := 89) t35_89 rfl ?_
      refine zs_aload_n (pc := 90) t35_90 rfl ?_
      refine zs_get (pc := 91) t35_91 (by decide) (zk1 (hs.k fk_zMc_155)) (zfvi rfl zIs) ?_
      refine zs_invV (pc := 94) (k := 155) (as' := [.int w83v]) (st := []) t35_94 mf34 rfl rfl (Or.inl ⟨by decide, (zk1 (hs.k fk_zMc_155))⟩) ⟨by decide, by decide, Nat.le_of_ble_eq_true rfl, Nat.le_of_ble_eq_true rfl⟩ (zs_in (by decide) mf34 (Nat.le_of_ble_eq_true rfl) ?_) (fun _ _ q => q)
      show zGo X l 0 0 0 34 0 [(0, .ref 155), (1, .int w83v)] [] (zsI (zsI M 155 5 (zI M 155 2)) 155 2 w83v) _
      refine zs_aload_n (pc := 0) t34_0 rfl ?_
      refine zs_iload_n (pc := 1) t34_1 rfl ?_
      have w87 : zIv cLo cHi (zsI (zsI (zsI M 155 5 (zI M 155 2)) 155 2 w83v) 155 3 w83v) := zIv.put w84 (show (-2147483648) ≤ w83v.toInt ∧ w83v.toInt ≤ 2147483647 from (zrg w83v))
      refine zs_putI (pc := 2) t34_2 (zk1 (hs.k fk_zMc_155)) rfl ?_
      refine zs_iconst (pc := 5) t34_5 (v := 0) (by decide) ?_
      refine zs_iret (pc := 6) t34_6 mr34 (by decide) ?_
      show zGo X l 2 0 0 35 97 [(3, .int (0 : Int32)), (2, .int (0 : Int32)), (1, .int (1 : Int32)), (0, .ref 155)] [.int (0 : Int32)] (zsI (zsI (zsI M 155 5 (zI M 155 2)) 155 2 w83v) 155 3 w83v) _
      exact zs_iret (pc := 97) t35_97 mr35 (by decide) (hQ _ _ hs w87 ((((zFr.refl).put rfl).put rfl).put rfl) (by decide) (by decide))
    · refine zs_icmp_ltF (pc := 3) t36_3 rfl li48 (by omega) ?_
      refine zs_iload_n (pc := 6) t36_6 rfl ?_
      refine zs_bipush (pc := 7) t36_7 (v := 57) (by decide) ?_
      by_cases w88 : 57 < w85v.toInt
      · refine zs_icmp_gtT (pc := 9) t36_9 rfl li57 (by omega) ?_
        refine zs_iconst (pc := 16) t36_16 (v := 0) (by decide) ?_
        refine zs_iret (pc := 17) t36_17 mr36 (by decide) ?_
        show zGo X l 2 0 0 35 53 [(3, .int (0 : Int32)), (2, .int (0 : Int32)), (1, .int (1 : Int32)), (0, .ref 155)] [.int (0 : Int32)] (zsI (zsI M 155 5 (zI M 155 2)) 155 2 w83v) _
        refine zs_if_eqT (pc := 53) t35_53 li0 (by decide) ?_
        refine zs_iload_n (pc := 75) t35_75 rfl ?_
        refine zs_if_eqT (pc := 76) t35_76 li0 (by decide) ?_
        refine zs_aload_n (pc := 89) t35_89 rfl ?_
        refine zs_aload_n (pc := 90) t35_90 rfl ?_
        refine zs_get (pc := 91) t35_91 (by decide) (zk1 (hs.k fk_zMc_155)) (zfvi rfl zIs) ?_
        refine zs_invV (pc := 94) (k := 155) (as' := [.int w83v]) (st := []) t35_94 mf34 rfl rfl (Or.inl ⟨by decide, (zk1 (hs.k fk_zMc_155))⟩) ⟨by decide, by decide, Nat.le_of_ble_eq_true rfl, Nat.le_of_ble_eq_true rfl⟩ (zs_in (by decide) mf34 (Nat.le_of_ble_eq_true rfl) ?_) (fun _ _ q => q)
        show zGo X l 0 0 0 34 0 [(0, .ref 155), (1, .int w83v)] [] (zsI (zsI M 155 5 (zI M 155 2)) 155 2 w83v) _
        refine zs_aload_n (pc := 0) t34_0 rfl ?_
        refine zs_iload_n (pc := 1) t34_1 rfl ?_
        have w89 : zIv cLo cHi (zsI (zsI (zsI M 155 5 (zI M 155 2)) 155 2 w83v) 155 3 w83v) := zIv.put w84 (show (-2147483648) ≤ w83v.toInt ∧ w83v.toInt ≤ 2147483647 from (zrg w83v))
        refine zs_putI (pc := 2) t34_2 (zk1 (hs.k fk_zMc_155)) rfl ?_
        refine zs_iconst (pc := 5) t34_5 (v := 0) (by decide) ?_
        refine zs_iret (pc := 6) t34_6 mr34 (by decide) ?_
        show zGo X l 2 0 0 35 97 [(3, .int (0 : Int32)), (2, .int (0 : Int32)), (1, .int (1 : Int32)), (0, .ref 155)] [.int (0 : Int32)] (zsI (zsI (zsI M 155 5 (zI M 155 2)) 155 2 w83v) 155 3 w83v) _
        exact zs_iret (pc := 97) t35_97 mr35 (by decide) (hQ _ _ hs w89 ((((zFr.refl).put rfl).put rfl).put rfl) (by decide) (by decide))
      · refine zs_icmp_gtF (pc := 9) t36_9 rfl li57 (by omega) ?_
        refine zs_iconst (pc := 12) t36_12 (v := 1) (by decide) ?_
        refine zs_goto (pc := 13) t36_13 ?_
        refine zs_iret (pc := 17) t36_17 mr36 (by decide) ?_
        show zGo X l 2 0 0 35 53 [(3, .int (0 : Int32)), (2, .int (0 : Int32)), (1, .int (1 : Int32)), (0, .ref 155)] [.int (1 : Int32)] (zsI (zsI M 155 5 (zI M 155 2)) 155 2 w83v) _
        refine zs_if_eqF (pc := 53) t35_53 li1 (by decide) ?_
        refine zs_iload_n (pc := 56) t35_56 rfl ?_
        refine zs_bipush (pc := 57) t35_57 (v := 10) (by decide) ?_
        refine zs_imul (pc := 59) t35_59 (c := 0) (by decide) ?_
        refine zs_aload_n (pc := 60) t35_60 rfl ?_
        refine zs_invV (pc := 61) (k := 155) (as' := []) (st := [.int (0 : Int32)]) t35_61 mf30 rfl rfl (Or.inl ⟨by decide, (zk1 (hs.k fk_zMc_155))⟩) ⟨by decide, by decide, Nat.le_of_ble_eq_true rfl, Nat.le_of_ble_eq_true rfl⟩ (C30_155 hs w84 ?_) (fun _ _ q => q)
        intro w90M w90v w90s w90I w90F w90a w90b
        show zGo X l 2 0 0 35 64 [(3, .int (0 : Int32)), (2, .int (0 : Int32)), (1, .int (1 : Int32)), (0, .ref 155)] [.int w90v, .int (0 : Int32)] w90M _
        obtain ⟨w91v, w91e, w91⟩ := ziadd (a := (0 : Int32)) (b := w90v) li0 rfl (by omega) (by omega)
        refine zs_iadd (pc := 64) t35_64 (c := w91v) w91e ?_
        refine zs_bipush (pc := 65) t35_65 (v := 48) (by decide) ?_
        obtain ⟨w92v, w92e, w92⟩ := zisub (a := w91v) (b := (48 : Int32)) w91 li48 (by omega) (by omega)
        refine zs_isub (pc := 67) t35_67 (c := w92v) w92e ?_
        refine zs_istore_n (pc := 68) t35_68 (ls' := [(2, .int w92v), (3, .int (0 : Int32)), (1, .int (1 : Int32)), (0, .ref 155)]) (zml mf35 (by decide)) rfl ?_
        refine zs_iinc (pc := 69) t35_69 (ls' := [(3, .int (1 : Int32)), (2, .int w92v), (1, .int (1 : Int32)), (0, .ref 155)]) (zml mf35 (by decide)) rfl (c := 1) (by decide) rfl ?_
        refine zs_goto (pc := 72) t35_72 ?_
        refine zs_iload_n (pc := 41) t35_41 rfl ?_
        refine zs_iconst (pc := 42) t35_42 (v := 4) (by decide) ?_
        refine zs_icmp_geF (pc := 43) t35_43 li1 li4 (by decide) ?_
        refine zs_aload_n (pc := 46) t35_46 rfl ?_
        refine zs_invV (pc := 47) (k := 155) (as' := []) (st := []) t35_47 mf31 rfl rfl (Or.inl ⟨by decide, (zk1 (w90s.k fk_zMc_155))⟩) ⟨by decide, by decide, Nat.le_of_ble_eq_true rfl, Nat.le_of_ble_eq_true rfl⟩ (C31_155 w90s w90I ?_) (fun _ _ q => q)
        intro w93v w93a w93b
        show zGo X l 2 0 0 35 50 [(3, .int (1 : Int32)), (2, .int w92v), (1, .int (1 : Int32)), (0, .ref 155)] [.int w93v] w90M _
        refine zs_invS (pc := 50) (as := [.int w93v]) (st := []) t35_50 (by decide) mf36 rfl rfl ⟨by decide, by decide, Nat.le_of_ble_eq_true rfl, Nat.le_of_ble_eq_true rfl⟩ (zs_in (by decide) mf36 (Nat.le_of_ble_eq_true rfl) ?_) (fun _ _ q => q)
        show zGo X l 0 0 0 36 0 [(0, .int w93v)] [] w90M _
        refine zs_iload_n (pc := 0) t36_0 rfl ?_
        refine zs_bipush (pc := 1) t36_1 (v := 48) (by decide) ?_
        by_cases w94 : w93v.toInt < 48
        · refine zs_icmp_ltT (pc := 3) t36_3 rfl li48 (by omega) ?_
          refine zs_iconst (pc := 16) t36_16 (v := 0) (by decide) ?_
          refine zs_iret (pc := 17) t36_17 mr36 (by decide) ?_
          show zGo X l 2 0 0 35 53 [(3, .int (1 : Int32)), (2, .int w92v), (1, .int (1 : Int32)), (0, .ref 155)] [.int (0 : Int32)] w90M _
          refine zs_if_eqT (pc := 53) t35_53 li0 (by decide) ?_
          refine zs_iload_n (pc := 75) t35_75 rfl ?_
          refine zs_if_eqF (pc := 76) t35_76 li1 (by decide) ?_
          refine zs_aload_n (pc := 79) t35_79 rfl ?_
          refine zs_invV (pc := 80) (k := 155) (as' := []) (st := []) t35_80 mf31 rfl rfl (Or.inl ⟨by decide, (zk1 (w90s.k fk_zMc_155))⟩) ⟨by decide, by decide, Nat.le_of_ble_eq_true rfl, Nat.le_of_ble_eq_true rfl⟩ (C31_155 w90s w90I ?_) (fun _ _ q => q)
          intro w95v w95a w95b
          show zGo X l 2 0 0 35 83 [(3, .int (1 : Int32)), (2, .int w92v), (1, .int (1 : Int32)), (0, .ref 155)] [.int w95v] w90M _
          refine zs_invS (pc := 83) (as := [.int w95v]) (st := []) t35_83 (by decide) mf36 rfl rfl ⟨by decide, by decide, Nat.le_of_ble_eq_true rfl, Nat.le_of_ble_eq_true rfl⟩ (zs_in (by decide) mf36 (Nat.le_of_ble_eq_true rfl) ?_) (fun _ _ q => q)
          show zGo X l 0 0 0 36 0 [(0, .int w95v)] [] w90M _
          refine zs_iload_n (pc := 0) t36_0 rfl ?_
          refine zs_bipush (pc := 1) t36_1 (v := 48) (by decide) ?_
          by_cases w96 : w95v.toInt < 48
          · refine zs_icmp_ltT (pc := 3) t36_3 rfl li48 (by omega) ?_
            refine zs_iconst (pc := 16) t36_16 (v := 0) (by decide) ?_
            refine zs_iret (pc := 17) t36_17 mr36 (by decide) ?_
            show zGo X l 2 0 0 35 86 [(3, .int (1 : Int32)), (2, .int w92v), (1, .int (1 : Int32)), (0, .ref 155)] [.int (0 : Int32)] w90M _
            refine zs_if_eqT (pc := 86) t35_86 li0 (by decide) ?_
            refine zs_aload_n (pc := 98) t35_98 rfl ?_
            refine zs_iload_n (pc := 99) t35_99 rfl ?_
            refine zs_if_eqF (pc := 100) t35_100 li1 (by decide) ?_
            refine zs_iload_n (pc := 103) t35_103 rfl ?_
            obtain ⟨w97v, w97e⟩ : ∃ v, -w92v = v := ⟨_, rfl⟩
            have w97 : w97v.toInt = -((0 + w90v.toInt) - 48) := by rw [← w97e]; exact zneg w92 (by omega)
            refine zs_ineg (pc := 104) t35_104 (c := w97v) w97e ?_
            refine zs_goto (pc := 105) t35_105 ?_
            have w98 : zIv cLo cHi (zsI w90M 155 4 w97v) := zIv.put w90I (show (-300000) ≤ w97v.toInt ∧ w97v.toInt ≤ 300000 from ⟨by omega, by omega⟩)
            refine zs_putI (pc := 109) t35_109 (zk1 (w90s.k fk_zMc_155)) rfl ?_
            refine zs_iconst (pc := 112) t35_112 (v := 1) (by decide) ?_
            exact zs_iret (pc := 113) t35_113 mr35 (by decide) (hQ _ _ w90s w98 (((((zFr.refl).put rfl).put rfl).trans (w90F.mono rfl)).put rfl) (by decide) (by decide))
          · refine zs_icmp_ltF (pc := 3) t36_3 rfl li48 (by omega) ?_
            refine zs_iload_n (pc := 6) t36_6 rfl ?_
            refine zs_bipush (pc := 7) t36_7 (v := 57) (by decide) ?_
            by_cases w99 : 57 < w95v.toInt
            · refine zs_icmp_gtT (pc := 9) t36_9 rfl li57 (by omega) ?_
              refine zs_iconst (pc := 16) t36_16 (v := 0) (by decide) ?_
              refine zs_iret (pc := 17) t36_17 mr36 (by decide) ?_
              show zGo X l 2 0 0 35 86 [(3, .int (1 : Int32)), (2, .int w92v), (1, .int (1 : Int32)), (0, .ref 155)] [.int (0 : Int32)] w90M _
              refine zs_if_eqT (pc := 86) t35_86 li0 (by decide) ?_
              refine zs_aload_n (pc := 98) t35_98 rfl ?_
              refine zs_iload_n (pc := 99) t35_99 rfl ?_
              refine zs_if_eqF (pc := 100) t35_100 li1 (by decide) ?_
              refine zs_iload_n (pc := 103) t35_103 rfl ?_
              obtain ⟨w100v, w100e⟩ : ∃ v, -w92v = v := ⟨_, rfl⟩
              have w100 : w100v.toInt = -((0 + w90v.toInt) - 48) := by rw [← w100e]; exact zneg w92 (by omega)
              refine zs_ineg (pc := 104) t35_104 (c := w100v) w100e ?_
              refine zs_goto (pc := 105) t35_105 ?_
              have w101 : zIv cLo cHi (zsI w90M 155 4 w100v) := zIv.put w90I (show (-300000) ≤ w100v.toInt ∧ w100v.toInt ≤ 300000 from ⟨by omega, by omega⟩)
              refine zs_putI (pc := 109) t35_109 (zk1 (w90s.k fk_zMc_155)) rfl ?_
              refine zs_iconst (pc := 112) t35_112 (v := 1) (by decide) ?_
              exact zs_iret (pc := 113) t35_113 mr35 (by decide) (hQ _ _ w90s w101 (((((zFr.refl).put rfl).put rfl).trans (w90F.mono rfl)).put rfl) (by decide) (by decide))
            · refine zs_icmp_gtF (pc := 9) t36_9 rfl li57 (by omega) ?_
              refine zs_iconst (pc := 12) t36_12 (v := 1) (by decide) ?_
              refine zs_goto (pc := 13) t36_13 ?_
              refine zs_iret (pc := 17) t36_17 mr36 (by decide) ?_
              show zGo X l 2 0 0 35 86 [(3, .int (1 : Int32)), (2, .int w92v), (1, .int (1 : Int32)), (0, .ref 155)] [.int (1 : Int32)] w90M _
              refine zs_if_eqF (pc := 86) t35_86 li1 (by decide) ?_
              refine zs_aload_n (pc := 89) t35_89 rfl ?_
              refine zs_aload_n (pc := 90) t35_90 rfl ?_
              have w102 := ib155_2 w90I
              refine zs_get (pc := 91) t35_91 (by decide) (zk1 (w90s.k fk_zMc_155)) (zfvi rfl rfl) ?_
              refine zs_invV (pc := 94) (k := 155) (as' := [.int (zI w90M 155 2)]) (st := []) t35_94 mf34 rfl rfl (Or.inl ⟨by decide, (zk1 (w90s.k fk_zMc_155))⟩) ⟨by decide, by decide, Nat.le_of_ble_eq_true rfl, Nat.le_of_ble_eq_true rfl⟩ (zs_in (by decide) mf34 (Nat.le_of_ble_eq_true rfl) ?_) (fun _ _ q => q)
              show zGo X l 0 0 0 34 0 [(0, .ref 155), (1, .int (zI w90M 155 2))] [] w90M _
              refine zs_aload_n (pc := 0) t34_0 rfl ?_
              refine zs_iload_n (pc := 1) t34_1 rfl ?_
              have w103 : zIv cLo cHi (zsI w90M 155 3 (zI w90M 155 2)) := zIv.put w90I (show (-2147483648) ≤ (zI w90M 155 2).toInt ∧ (zI w90M 155 2).toInt ≤ 2147483647 from (zrg (zI w90M 155 2)))
              refine zs_putI (pc := 2) t34_2 (zk1 (w90s.k fk_zMc_155)) rfl ?_
              refine zs_iconst (pc := 5) t34_5 (v := 0) (by decide) ?_
              refine zs_iret (pc := 6) t34_6 mr34 (by decide) ?_
              show zGo X l 2 0 0 35 97 [(3, .int (1 : Int32)), (2, .int w92v), (1, .int (1 : Int32)), (0, .ref 155)] [.int (0 : Int32)] (zsI w90M 155 3 (zI w90M 155 2)) _
              exact zs_iret (pc := 97) t35_97 mr35 (by decide) (hQ _ _ w90s w103 (((((zFr.refl).put rfl).put rfl).trans (w90F.mono rfl)).put rfl) (by decide) (by decide))
        · refine zs_icmp_ltF (pc := 3) t36_3 rfl li48 (by omega) ?_
          refine zs_iload_n (pc := 6) t36_6 rfl ?_
          refine zs_bipush (pc := 7) t36_7 (v := 57) (by decide) ?_
          by_cases w104 : 57 < w93v.toInt
          · refine zs_icmp_gtT (pc := 9) t36_9 rfl li57 (by omega) ?_
            refine zs_iconst (pc := 16) t36_16 (v := 0) (by decide) ?_
            refine zs_iret (pc := 17) t36_17 mr36 (by decide) ?_
            show zGo X l 2 0 0 35 53 [(3, .int (1 : Int32)), (2, .int w92v), (1, .int (1 : Int32)), (0, .ref 155)] [.int (0 : Int32)] w90M _
            refine zs_if_eqT (pc := 53) t35_53 li0 (by decide) ?_
            refine zs_iload_n (pc := 75) t35_75 rfl ?_
            refine zs_if_eqF (pc := 76) t35_76 li1 (by decide) ?_
            refine zs_aload_n (pc := 79) t35_79 rfl ?_
            refine zs_invV (pc := 80) (k := 155) (as' := []) (st := []) t35_80 mf31 rfl rfl (Or.inl ⟨by decide, (zk1 (w90s.k fk_zMc_155))⟩) ⟨by decide, by decide, Nat.le_of_ble_eq_true rfl, Nat.le_of_ble_eq_true rfl⟩ (C31_155 w90s w90I ?_) (fun _ _ q => q)
            intro w105v w105a w105b
            show zGo X l 2 0 0 35 83 [(3, .int (1 : Int32)), (2, .int w92v), (1, .int (1 : Int32)), (0, .ref 155)] [.int w105v] w90M _
            refine zs_invS (pc := 83) (as := [.int w105v]) (st := []) t35_83 (by decide) mf36 rfl rfl ⟨by decide, by decide, Nat.le_of_ble_eq_true rfl, Nat.le_of_ble_eq_true rfl⟩ (zs_in (by decide) mf36 (Nat.le_of_ble_eq_true rfl) ?_) (fun _ _ q => q)
            show zGo X l 0 0 0 36 0 [(0, .int w105v)] [] w90M _
            refine zs_iload_n (pc := 0) t36_0 rfl ?_
            refine zs_bipush (pc := 1) t36_1 (v := 48) (by decide) ?_
            by_cases w106 : w105v.toInt < 48
            · refine zs_icmp_ltT (pc := 3) t36_3 rfl li48 (by omega) ?_
              refine zs_iconst (pc := 16) t36_16 (v := 0) (by decide) ?_
              refine zs_iret (pc := 17) t36_17 mr36 (by decide) ?_
              show zGo X l 2 0 0 35 86 [(3, .int (1 : Int32)), (2, .int w92v), (1, .int (1 : Int32)), (0, .ref 155)] [.int (0 : Int32)] w90M _
              refine zs_if_eqT (pc := 86) t35_86 li0 (by decide) ?_
              refine zs_aload_n (pc := 98) t35_98 rfl ?_
              refine zs_iload_n (pc := 99) t35_99 rfl ?_
              refine zs_if_eqF (pc := 100) t35_100 li1 (by decide) ?_
              refine zs_iload_n (pc := 103) t35_103 rfl ?_
              obtain ⟨w107v, w107e⟩ : ∃ v, -w92v = v := ⟨_, rfl⟩
              have w107 : w107v.toInt = -((0 + w90v.toInt) - 48) := by rw [← w107e]; exact zneg w92 (by omega)
              refine zs_ineg (pc := 104) t35_104 (c := w107v) w107e ?_
              refine zs_goto (pc := 105) t35_105 ?_
              have w108 : zIv cLo cHi (zsI w90M 155 4 w107v) := zIv.put w90I (show (-300000) ≤ w107v.toInt ∧ w107v.toInt ≤ 300000 from ⟨by omega, by omega⟩)
              refine zs_putI (pc := 109) t35_109 (zk1 (w90s.k fk_zMc_155)) rfl ?_
              refine zs_iconst (pc := 112) t35_112 (v := 1) (by decide) ?_
              exact zs_iret (pc := 113) t35_113 mr35 (by decide) (hQ _ _ w90s w108 (((((zFr.refl).put rfl).put rfl).trans (w90F.mono rfl)).put rfl) (by decide) (by decide))
            · refine zs_icmp_ltF (pc := 3) t36_3 rfl li48 (by omega) ?_
              refine zs_iload_n (pc := 6) t36_6 rfl ?_
              refine zs_bipush (pc := 7) t36_7 (v := 57) (by decide) ?_
              by_cases w109 : 57 < w105v.toInt
              · refine zs_icmp_gtT (pc := 9) t36_9 rfl li57 (by omega) ?_
                refine zs_iconst (pc := 16) t36_16 (v := 0) (by decide) ?_
                refine zs_iret (pc := 17) t36_17 mr36 (by decide) ?_
                show zGo X l 2 0 0 35 86 [(3, .int (1 : Int32)), (2, .int w92v), (1, .int (1 : Int32)), (0, .ref 155)] [.int (0 : Int32)] w90M _
                refine zs_if_eqT (pc := 86) t35_86 li0 (by decide) ?_
                refine zs_aload_n (pc := 98) t35_98 rfl ?_
                refine zs_iload_n (pc := 99) t35_99 rfl ?_
                refine zs_if_eqF (pc := 100) t35_100 li1 (by decide) ?_
                refine zs_iload_n (pc := 103) t35_103 rfl ?_
                obtain ⟨w110v, w110e⟩ : ∃ v, -w92v = v := ⟨_, rfl⟩
                have w110 : w110v.toInt = -((0 + w90v.toInt) - 48) := by rw [← w110e]; exact zneg w92 (by omega)
                refine zs_ineg (pc := 104) t35_104 (c := w110v) w110e ?_
                refine zs_goto (pc := 105) t35_105 ?_
                have w111 : zIv cLo cHi (zsI w90M 155 4 w110v) := zIv.put w90I (show (-300000) ≤ w110v.toInt ∧ w110v.toInt ≤ 300000 from ⟨by omega, by omega⟩)
                refine zs_putI (pc := 109) t35_109 (zk1 (w90s.k fk_zMc_155)) rfl ?_
                refine zs_iconst (pc := 112) t35_112 (v := 1) (by decide) ?_
                exact zs_iret (pc := 113) t35_113 mr35 (by decide) (hQ _ _ w90s w111 (((((zFr.refl).put rfl).put rfl).trans (w90F.mono rfl)).put rfl) (by decide) (by decide))
              · refine zs_icmp_gtF (pc := 9) t36_9 rfl li57 (by omega) ?_
                refine zs_iconst (pc := 12) t36_12 (v := 1) (by decide) ?_
                refine zs_goto (pc := 13) t36_13 ?_
                refine zs_iret (pc := 17) t36_17 mr36 (by decide) ?_
                show zGo X l 2 0 0 35 86 [(3, .int (1 : Int32)), (2, .int w92v), (1, .int (1 : Int32)), (0, .ref 155)] [.int (1 : Int32)] w90M _
                refine zs_if_eqF (pc := 86) t35_86 li1 (by decide) ?_
                refine zs_aload_n (pc := 89) t35_89 rfl ?_
                refine zs_aload_n (pc := 90) t35_90 rfl ?_
                have w112 := ib155_2 w90I
                refine zs_get (pc := 91) t35_91 (by decide) (zk1 (w90s.k fk_zMc_155)) (zfvi rfl rfl) ?_
                refine zs_invV (pc := 94) (k := 155) (as' := [.int (zI w90M 155 2)]) (st := []) t35_94 mf34 rfl rfl (Or.inl ⟨by decide, (zk1 (w90s.k fk_zMc_155))⟩) ⟨by decide, by decide, Nat.le_of_ble_eq_true rfl, Nat.le_of_ble_eq_true rfl⟩ (zs_in (by decide) mf34 (Nat.le_of_ble_eq_true rfl) ?_) (fun _ _ q => q)
                show zGo X l 0 0 0 34 0 [(0, .ref 155), (1, .int (zI w90M 155 2))] [] w90M _
                refine zs_aload_n (pc := 0) t34_0 rfl ?_
                refine zs_iload_n (pc := 1) t34_1 rfl ?_
                have w113 : zIv cLo cHi (zsI w90M 155 3 (zI w90M 155 2)) := zIv.put w90I (show (-2147483648) ≤ (zI w90M 155 2).toInt ∧ (zI w90M 155 2).toInt ≤ 2147483647 from (zrg (zI w90M 155 2)))
                refine zs_putI (pc := 2) t34_2 (zk1 (w90s.k fk_zMc_155)) rfl ?_
                refine zs_iconst (pc := 5) t34_5 (v := 0) (by decide) ?_
                refine zs_iret (pc := 6) t34_6 mr34 (by decide) ?_
                show zGo X l 2 0 0 35 97 [(3, .int (1 : Int32)), (2, .int w92v), (1, .int (1 : Int32)), (0, .ref 155)] [.int (0 : Int32)] (zsI w90M 155 3 (zI w90M 155 2)) _
                exact zs_iret (pc := 97) t35_97 mr35 (by decide) (hQ _ _ w90s w113 (((((zFr.refl).put rfl).put rfl).trans (w90F.mono rfl)).put rfl) (by decide) (by decide))
          · refine zs_icmp_gtF (pc := 9) t36_9 rfl li57 (by omega) ?_
            refine zs_iconst (pc := 12) t36_12 (v := 1) (by decide) ?_
            refine zs_goto (pc := 13) t36_13 ?_
            refine zs_iret (pc := 17) t36_17 mr36 (by decide) ?_
            show zGo X l 2 0 0 35 53 [(3, .int (1 : Int32)), (2, .int w92v), (1, .int (1 : Int32)), (0, .ref 155)] [.int (1 : Int32)] w90M _
            refine zs_if_eqF (pc := 53) t35_53 li1 (by decide) ?_
            refine zs_iload_n (pc := 56) t35_56 rfl ?_
            refine zs_bipush (pc := 57) t35_57 (v := 10) (by decide) ?_
            obtain ⟨w114v, w114⟩ : ∃ v, w92v * (10 : Int32) = v := ⟨_, rfl⟩
            have w114g : w114v.toInt = ((0 + w90v.toInt) - 48) * 10 := by rw [← w114]; exact zmulc w92 li10 (by omega) (by omega)
            refine zs_imul (pc := 59) t35_59 (c := w114v) w114 ?_
            refine zs_aload_n (pc := 60) t35_60 rfl ?_
            refine zs_invV (pc := 61) (k := 155) (as' := []) (st := [.int w114v]) t35_61 mf30 rfl rfl (Or.inl ⟨by decide, (zk1 (w90s.k fk_zMc_155))⟩) ⟨by decide, by decide, Nat.le_of_ble_eq_true rfl, Nat.le_of_ble_eq_true rfl⟩ (C30_155 w90s w90I ?_) (fun _ _ q => q)
            intro w115M w115v w115s w115I w115F w115a w115b
            show zGo X l 2 0 0 35 64 [(3, .int (1 : Int32)), (2, .int w92v), (1, .int (1 : Int32)), (0, .ref 155)] [.int w115v, .int w114v] w115M _
            obtain ⟨w116v, w116e, w116⟩ := ziadd (a := w114v) (b := w115v) rfl rfl (by omega) (by omega)
            refine zs_iadd (pc := 64) t35_64 (c := w116v) w116e ?_
            refine zs_bipush (pc := 65) t35_65 (v := 48) (by decide) ?_
            obtain ⟨w117v, w117e, w117⟩ := zisub (a := w116v) (b := (48 : Int32)) w116 li48 (by omega) (by omega)
            refine zs_isub (pc := 67) t35_67 (c := w117v) w117e ?_
            refine zs_istore_n (pc := 68) t35_68 (ls' := [(2, .int w117v), (3, .int (1 : Int32)), (1, .int (1 : Int32)), (0, .ref 155)]) (zml mf35 (by decide)) rfl ?_
            refine zs_iinc (pc := 69) t35_69 (ls' := [(3, .int (2 : Int32)), (2, .int w117v), (1, .int (1 : Int32)), (0, .ref 155)]) (zml mf35 (by decide)) rfl (c := 2) (by decide) rfl ?_
            refine zs_goto (pc := 72) t35_72 ?_
            refine zs_iload_n (pc := 41) t35_41 rfl ?_
            refine zs_iconst (pc := 42) t35_42 (v := 4) (by decide) ?_
            refine zs_icmp_geF (pc := 43) t35_43 li2 li4 (by decide) ?_
            refine zs_aload_n (pc := 46) t35_46 rfl ?_
            refine zs_invV (pc := 47) (k := 155) (as' := []) (st := []) t35_47 mf31 rfl rfl (Or.inl ⟨by decide, (zk1 (w115s.k fk_zMc_155))⟩) ⟨by decide, by decide, Nat.le_of_ble_eq_true rfl, Nat.le_of_ble_eq_true rfl⟩ (C31_155 w115s w115I ?_) (fun _ _ q => q)
            intro w118v w118a w118b
            show zGo X l 2 0 0 35 50 [(3, .int (2 : Int32)), (2, .int w117v), (1, .int (1 : Int32)), (0, .ref 155)] [.int w118v] w115M _
            refine zs_invS (pc := 50) (as := [.int w118v]) (st := []) t35_50 (by decide) mf36 rfl rfl ⟨by decide, by decide, Nat.le_of_ble_eq_true rfl, Nat.le_of_ble_eq_true rfl⟩ (zs_in (by decide) mf36 (Nat.le_of_ble_eq_true rfl) ?_) (fun _ _ q => q)
            show zGo X l 0 0 0 36 0 [(0, .int w118v)] [] w115M _
            refine zs_iload_n (pc := 0) t36_0 rfl ?_
            refine zs_bipush (pc := 1) t36_1 (v := 48) (by decide) ?_
            by_cases w119 : w118v.toInt < 48
            · refine zs_icmp_ltT (pc := 3) t36_3 rfl li48 (by omega) ?_
              refine zs_iconst (pc := 16) t36_16 (v := 0) (by decide) ?_
              refine zs_iret (pc := 17) t36_17 mr36 (by decide) ?_
              show zGo X l 2 0 0 35 53 [(3, .int (2 : Int32)), (2, .int w117v), (1, .int (1 : Int32)), (0, .ref 155)] [.int (0 : Int32)] w115M _
              refine zs_if_eqT (pc := 53) t35_53 li0 (by decide) ?_
              refine zs_iload_n (pc := 75) t35_75 rfl ?_
              refine zs_if_eqF (pc := 76) t35_76 li2 (by decide) ?_
              refine zs_aload_n (pc := 79) t35_79 rfl ?_
              refine zs_invV (pc := 80) (k := 155) (as' := []) (st := []) t35_80 mf31 rfl rfl (Or.inl ⟨by decide, (zk1 (w115s.k fk_zMc_155))⟩) ⟨by decide, by decide, Nat.le_of_ble_eq_true rfl, Nat.le_of_ble_eq_true rfl⟩ (C31_155 w115s w115I ?_) (fun _ _ q => q)
              intro w120v w120a w120b
              show zGo X l 2 0 0 35 83 [(3, .int (2 : Int32)), (2, .int w117v), (1, .int (1 : Int32)), (0, .ref 155)] [.int w120v] w115M _
              refine zs_invS (pc := 83) (as := [.int w120v]) (st := []) t35_83 (by decide) mf36 rfl rfl ⟨by decide, by decide, Nat.le_of_ble_eq_true rfl, Nat.le_of_ble_eq_true rfl⟩ (zs_in (by decide) mf36 (Nat.le_of_ble_eq_true rfl) ?_) (fun _ _ q => q)
              show zGo X l 0 0 0 36 0 [(0, .int w120v)] [] w115M _
              refine zs_iload_n (pc := 0) t36_0 rfl ?_
              refine zs_bipush (pc := 1) t36_1 (v := 48) (by decide) ?_
              by_cases w121 : w120v.toInt < 48
              · refine zs_icmp_ltT (pc := 3) t36_3 rfl li48 (by omega) ?_
                refine zs_iconst (pc := 16) t36_16 (v := 0) (by decide) ?_
                refine zs_iret (pc := 17) t36_17 mr36 (by decide) ?_
                show zGo X l 2 0 0 35 86 [(3, .int (2 : Int32)), (2, .int w117v), (1, .int (1 : Int32)), (0, .ref 155)] [.int (0 : Int32)] w115M _
                refine zs_if_eqT (pc := 86) t35_86 li0 (by decide) ?_
                refine zs_aload_n (pc := 98) t35_98 rfl ?_
                refine zs_iload_n (pc := 99) t35_99 rfl ?_
                refine zs_if_eqF (pc := 100) t35_100 li1 (by decide) ?_
                refine zs_iload_n (pc := 103) t35_103 rfl ?_
                obtain ⟨w122v, w122e⟩ : ∃ v, -w117v = v := ⟨_, rfl⟩
                have w122 : w122v.toInt = -((w114v.toInt + w115v.toInt) - 48) := by rw [← w122e]; exact zneg w117 (by omega)
                refine zs_ineg (pc := 104) t35_104 (c := w122v) w122e ?_
                refine zs_goto (pc := 105) t35_105 ?_
                have w123 : zIv cLo cHi (zsI w115M 155 4 w122v) := zIv.put w115I (show (-300000) ≤ w122v.toInt ∧ w122v.toInt ≤ 300000 from ⟨by omega, by omega⟩)
                refine zs_putI (pc := 109) t35_109 (zk1 (w115s.k fk_zMc_155)) rfl ?_
                refine zs_iconst (pc := 112) t35_112 (v := 1) (by decide) ?_
                exact zs_iret (pc := 113) t35_113 mr35 (by decide) (hQ _ _ w115s w123 ((((((zFr.refl).put rfl).put rfl).trans (w90F.mono rfl)).trans (w115F.mono rfl)).put rfl) (by decide) (by decide))
              · refine zs_icmp_ltF (pc := 3) t36_3 rfl li48 (by omega) ?_
                refine zs_iload_n (pc := 6) t36_6 rfl ?_
                refine zs_bipush (pc := 7) t36_7 (v := 57) (by decide) ?_
                by_cases w124 : 57 < w120v.toInt
                · refine zs_icmp_gtT (pc := 9) t36_9 rfl li57 (by omega) ?_
                  refine zs_iconst (pc := 16) t36_16 (v := 0) (by decide) ?_
                  refine zs_iret (pc := 17) t36_17 mr36 (by decide) ?_
                  show zGo X l 2 0 0 35 86 [(3, .int (2 : Int32)), (2, .int w117v), (1, .int (1 : Int32)), (0, .ref 155)] [.int (0 : Int32)] w115M _
                  refine zs_if_eqT (pc := 86) t35_86 li0 (by decide) ?_
                  refine zs_aload_n (pc := 98) t35_98 rfl ?_
                  refine zs_iload_n (pc := 99) t35_99 rfl ?_
                  refine zs_if_eqF (pc := 100) t35_100 li1 (by decide) ?_
                  refine zs_iload_n (pc := 103) t35_103 rfl ?_
                  obtain ⟨w125v, w125e⟩ : ∃ v, -w117v = v := ⟨_, rfl⟩
                  have w125 : w125v.toInt = -((w114v.toInt + w115v.toInt) - 48) := by rw [← w125e]; exact zneg w117 (by omega)
                  refine zs_ineg (pc := 104) t35_104 (c := w125v) w125e ?_
                  refine zs_goto (pc := 105) t35_105 ?_
                  have w126 : zIv cLo cHi (zsI w115M 155 4 w125v) := zIv.put w115I (show (-300000) ≤ w125v.toInt ∧ w125v.toInt ≤ 300000 from ⟨by omega, by omega⟩)
                  refine zs_putI (pc := 109) t35_109 (zk1 (w115s.k fk_zMc_155)) rfl ?_
                  refine zs_iconst (pc := 112) t35_112 (v := 1) (by decide) ?_
                  exact zs_iret (pc := 113) t35_113 mr35 (by decide) (hQ _ _ w115s w126 ((((((zFr.refl).put rfl).put rfl).trans (w90F.mono rfl)).trans (w115F.mono rfl)).put rfl) (by decide) (by decide))
                · refine zs_icmp_gtF (pc := 9) t36_9 rfl li57 (by omega) ?_
                  refine zs_iconst (pc := 12) t36_12 (v := 1) (by decide) ?_
                  refine zs_goto (pc := 13) t36_13 ?_
                  refine zs_iret (pc := 17) t36_17 mr36 (by decide) ?_
                  show zGo X l 2 0 0 35 86 [(3, .int (2 : Int32)), (2, .int w117v), (1, .int (1 : Int32)), (0, .ref 155)] [.int (1 : Int32)] w115M _
                  refine zs_if_eqF (pc := 86) t35_86 li1 (by decide) ?_
                  refine zs_aload_n (pc := 89) t35_89 rfl ?_
                  refine zs_aload_n (pc := 90) t35_90 rfl ?_
                  have w127 := ib155_2 w115I
                  refine zs_get (pc := 91) t35_91 (by decide) (zk1 (w115s.k fk_zMc_155)) (zfvi rfl rfl) ?_
                  refine zs_invV (pc := 94) (k := 155) (as' := [.int (zI w115M 155 2)]) (st := []) t35_94 mf34 rfl rfl (Or.inl ⟨by decide, (zk1 (w115s.k fk_zMc_155))⟩) ⟨by decide, by decide, Nat.le_of_ble_eq_true rfl, Nat.le_of_ble_eq_true rfl⟩ (zs_in (by decide) mf34 (Nat.le_of_ble_eq_true rfl) ?_) (fun _ _ q => q)
                  show zGo X l 0 0 0 34 0 [(0, .ref 155), (1, .int (zI w115M 155 2))] [] w115M _
                  refine zs_aload_n (pc := 0) t34_0 rfl ?_
                  refine zs_iload_n (pc := 1) t34_1 rfl ?_
                  have w128 : zIv cLo cHi (zsI w115M 155 3 (zI w115M 155 2)) := zIv.put w115I (show (-2147483648) ≤ (zI w115M 155 2).toInt ∧ (zI w115M 155 2).toInt ≤ 2147483647 from (zrg (zI w115M 155 2)))
                  refine zs_putI (pc := 2) t34_2 (zk1 (w115s.k fk_zMc_155)) rfl ?_
                  refine zs_iconst (pc := 5) t34_5 (v := 0) (by decide) ?_
                  refine zs_iret (pc := 6) t34_6 mr34 (by decide) ?_
                  show zGo X l 2 0 0 35 97 [(3, .int (2 : Int32)), (2, .int w117v), (1, .int (1 : Int32)), (0, .ref 155)] [.int (0 : Int32)] (zsI w115M 155 3 (zI w115M 155 2)) _
                  exact zs_iret (pc := 97) t35_97 mr35 (by decide) (hQ _ _ w115s w128 ((((((zFr.refl).put rfl).put rfl).trans (w90F.mono rfl)).trans (w115F.mono rfl)).put rfl) (by decide) (by decide))
            · refine zs_icmp_ltF (pc := 3) t36_3 rfl li48 (by omega) ?_
              refine zs_iload_n (pc := 6) t36_6 rfl ?_
              refine zs_bipush (pc := 7) t36_7 (v := 57) (by decide) ?_
              by_cases w129 : 57 < w118v.toInt
              · refine zs_icmp_gtT (pc := 9) t36_9 rfl li57 (by omega) ?_
                refine zs_iconst (pc := 16) t36_16 (v := 0) (by decide) ?_
                refine zs_iret (pc := 17) t36_17 mr36 (by decide) ?_
                show zGo X l 2 0 0 35 53 [(3, .int (2 : Int32)), (2, .int w117v), (1, .int (1 : Int32)), (0, .ref 155)] [.int (0 : Int32)] w115M _
                refine zs_if_eqT (pc := 53) t35_53 li0 (by decide) ?_
                refine zs_iload_n (pc := 75) t35_75 rfl ?_
                refine zs_if_eqF (pc := 76) t35_76 li2 (by decide) ?_
                refine zs_aload_n (pc := 79) t35_79 rfl ?_
                refine zs_invV (pc := 80) (k := 155) (as' := []) (st := []) t35_80 mf31 rfl rfl (Or.inl ⟨by decide, (zk1 (w115s.k fk_zMc_155))⟩) ⟨by decide, by decide, Nat.le_of_ble_eq_true rfl, Nat.le_of_ble_eq_true rfl⟩ (C31_155 w115s w115I ?_) (fun _ _ q => q)
                intro w130v w130a w130b
                show zGo X l 2 0 0 35 83 [(3, .int (2 : Int32)), (2, .int w117v), (1, .int (1 : Int32)), (0, .ref 155)] [.int w130v] w115M _
                refine zs_invS (pc := 83) (as := [.int w130v]) (st := []) t35_83 (by decide) mf36 rfl rfl ⟨by decide, by decide, Nat.le_of_ble_eq_true rfl, Nat.le_of_ble_eq_true rfl⟩ (zs_in (by decide) mf36 (Nat.le_of_ble_eq_true rfl) ?_) (fun _ _ q => q)
                show zGo X l 0 0 0 36 0 [(0, .int w130v)] [] w115M _
                refine zs_iload_n (pc := 0) t36_0 rfl ?_
                refine zs_bipush (pc := 1) t36_1 (v := 48) (by decide) ?_
                by_cases w131 : w130v.toInt < 48
                · refine zs_icmp_ltT (pc := 3) t36_3 rfl li48 (by omega) ?_
                  refine zs_iconst (pc := 16) t36_16 (v := 0) (by decide) ?_
                  refine zs_iret (pc := 17) t36_17 mr36 (by decide) ?_
                  show zGo X l 2 0 0 35 86 [(3, .int (2 : Int32)), (2, .int w117v), (1, .int (1 : Int32)), (0, .ref 155)] [.int (0 : Int32)] w115M _
                  refine zs_if_eqT (pc := 86) t35_86 li0 (by decide) ?_
                  refine zs_aload_n (pc := 98) t35_98 rfl ?_
                  refine zs_iload_n (pc := 99) t35_99 rfl ?_
                  refine zs_if_eqF (pc := 100) t35_100 li1 (by decide) ?_
                  refine zs_iload_n (pc := 103) t35_103 rfl ?_
                  obtain ⟨w132v, w132e⟩ : ∃ v, -w117v = v := ⟨_, rfl⟩
                  have w132 : w132v.toInt = -((w114v.toInt + w115v.toInt) - 48) := by rw [← w132e]; exact zneg w117 (by omega)
                  refine zs_ineg (pc := 104) t35_104 (c := w132v) w132e ?_
                  refine zs_goto (pc := 105) t35_105 ?_
                  have w133 : zIv cLo cHi (zsI w115M 155 4 w132v) := zIv.put w115I (show (-300000) ≤ w132v.toInt ∧ w132v.toInt ≤ 300000 from ⟨by omega, by omega⟩)
                  refine zs_putI (pc := 109) t35_109 (zk1 (w115s.k fk_zMc_155)) rfl ?_
                  refine zs_iconst (pc := 112) t35_112 (v := 1) (by decide) ?_
                  exact zs_iret (pc := 113) t35_113 mr35 (by decide) (hQ _ _ w115s w133 ((((((zFr.refl).put rfl).put rfl).trans (w90F.mono rfl)).trans (w115F.mono rfl)).put rfl) (by decide) (by decide))
                · refine zs_icmp_ltF (pc := 3) t36_3 rfl li48 (by omega) ?_
                  refine zs_iload_n (pc := 6) t36_6 rfl ?_
                  refine zs_bipush (pc := 7) t36_7 (v := 57) (by decide) ?_
                  by_cases w134 : 57 < w130v.toInt
                  · refine zs_icmp_gtT (pc := 9) t36_9 rfl li57 (by omega) ?_
                    refine zs_iconst (pc := 16) t36_16 (v := 0) (by decide) ?_
                    refine zs_iret (pc := 17) t36_17 mr36 (by decide) ?_
                    show zGo X l 2 0 0 35 86 [(3, .int (2 : Int32)), (2, .int w117v), (1, .int (1 : Int32)), (0, .ref 155)] [.int (0 : Int32)] w115M _
                    refine zs_if_eqT (pc := 86) t35_86 li0 (by decide) ?_
                    refine zs_aload_n (pc := 98) t35_98 rfl ?_
                    refine zs_iload_n (pc := 99) t35_99 rfl ?_
                    refine zs_if_eqF (pc := 100) t35_100 li1 (by decide) ?_
                    refine zs_iload_n (pc := 103) t35_103 rfl ?_
                    obtain ⟨w135v, w135e⟩ : ∃ v, -w117v = v := ⟨_, rfl⟩
                    have w135 : w135v.toInt = -((w114v.toInt + w115v.toInt) - 48) := by rw [← w135e]; exact zneg w117 (by omega)
                    refine zs_ineg (pc := 104) t35_104 (c := w135v) w135e ?_
                    refine zs_goto (pc := 105) t35_105 ?_
                    have w136 : zIv cLo cHi (zsI w115M 155 4 w135v) := zIv.put w115I (show (-300000) ≤ w135v.toInt ∧ w135v.toInt ≤ 300000 from ⟨by omega, by omega⟩)
                    refine zs_putI (pc := 109) t35_109 (zk1 (w115s.k fk_zMc_155)) rfl ?_
                    refine zs_iconst (pc := 112) t35_112 (v := 1) (by decide) ?_
                    exact zs_iret (pc := 113) t35_113 mr35 (by decide) (hQ _ _ w115s w136 ((((((zFr.refl).put rfl).put rfl).trans (w90F.mono rfl)).trans (w115F.mono rfl)).put rfl) (by decide) (by decide))
                  · refine zs_icmp_gtF (pc := 9) t36_9 rfl li57 (by omega) ?_
                    refine zs_iconst (pc := 12) t36_12 (v := 1) (by decide) ?_
                    refine zs_goto (pc := 13) t36_13 ?_
                    refine zs_iret (pc := 17) t36_17 mr36 (by decide) ?_
                    show zGo X l 2 0 0 35 86 [(3, .int (2 : Int32)), (2, .int w117v), (1, .int (1 : Int32)), (0, .ref 155)] [.int (1 : Int32)] w115M _
                    refine zs_if_eqF (pc := 86) t35_86 li1 (by decide) ?_
                    refine zs_aload_n (pc := 89) t35_89 rfl ?_
                    refine zs_aload_n (pc := 90) t35_90 rfl ?_
                    have w137 := ib155_2 w115I
                    refine zs_get (pc := 91) t35_91 (by decide) (zk1 (w115s.k fk_zMc_155)) (zfvi rfl rfl) ?_
                    refine zs_invV (pc := 94) (k := 155) (as' := [.int (zI w115M 155 2)]) (st := []) t35_94 mf34 rfl rfl (Or.inl ⟨by decide, (zk1 (w115s.k fk_zMc_155))⟩) ⟨by decide, by decide, Nat.le_of_ble_eq_true rfl, Nat.le_of_ble_eq_true rfl⟩ (zs_in (by decide) mf34 (Nat.le_of_ble_eq_true rfl) ?_) (fun _ _ q => q)
                    show zGo X l 0 0 0 34 0 [(0, .ref 155), (1, .int (zI w115M 155 2))] [] w115M _
                    refine zs_aload_n (pc := 0) t34_0 rfl ?_
                    refine zs_iload_n (pc := 1) t34_1 rfl ?_
                    have w138 : zIv cLo cHi (zsI w115M 155 3 (zI w115M 155 2)) := zIv.put w115I (show (-2147483648) ≤ (zI w115M 155 2).toInt ∧ (zI w115M 155 2).toInt ≤ 2147483647 from (zrg (zI w115M 155 2)))
                    refine zs_putI (pc := 2) t34_2 (zk1 (w115s.k fk_zMc_155)) rfl ?_
                    refine zs_iconst (pc := 5) t34_5 (v := 0) (by decide) ?_
                    refine zs_iret (pc := 6) t34_6 mr34 (by decide) ?_
                    show zGo X l 2 0 0 35 97 [(3, .int (2 : Int32)), (2, .int w117v), (1, .int (1 : Int32)), (0, .ref 155)] [.int (0 : Int32)] (zsI w115M 155 3 (zI w115M 155 2)) _
                    exact zs_iret (pc := 97) t35_97 mr35 (by decide) (hQ _ _ w115s w138 ((((((zFr.refl).put rfl).put rfl).trans (w90F.mono rfl)).trans (w115F.mono rfl)).put rfl) (by decide) (by decide))
              · refine zs_icmp_gtF (pc := 9) t36_9 rfl li57 (by omega) ?_
                refine zs_iconst (pc := 12) t36_12 (v := 1) (by decide) ?_
                refine zs_goto (pc := 13) t36_13 ?_
                refine zs_iret (pc := 17) t36_17 mr36 (by decide) ?_
                show zGo X l 2 0 0 35 53 [(3, .int (2 : Int32)), (2, .int w117v), (1, .int (1 : Int32)), (0, .ref 155)] [.int (1 : Int32)] w115M _
                refine zs_if_eqF (pc := 53) t35_53 li1 (by decide) ?_
                refine zs_iload_n (pc := 56) t35_56 rfl ?_
                refine zs_bipush (pc := 57) t35_57 (v := 10) (by decide) ?_
                obtain ⟨w139v, w139⟩ : ∃ v, w117v * (10 : Int32) = v := ⟨_, rfl⟩
                have w139g : w139v.toInt = ((w114v.toInt + w115v.toInt) - 48) * 10 := by rw [← w139]; exact zmulc w117 li10 (by omega) (by omega)
                refine zs_imul (pc := 59) t35_59 (c := w139v) w139 ?_
                refine zs_aload_n (pc := 60) t35_60 rfl ?_
                refine zs_invV (pc := 61) (k := 155) (as' := []) (st := [.int w139v]) t35_61 mf30 rfl rfl (Or.inl ⟨by decide, (zk1 (w115s.k fk_zMc_155))⟩) ⟨by decide, by decide, Nat.le_of_ble_eq_true rfl, Nat.le_of_ble_eq_true rfl⟩ (C30_155 w115s w115I ?_) (fun _ _ q => q)
                intro w140M w140v w140s w140I w140F w140a w140b
                show zGo X l 2 0 0 35 64 [(3, .int (2 : Int32)), (2, .int w117v), (1, .int (1 : Int32)), (0, .ref 155)] [.int w140v, .int w139v] w140M _
                obtain ⟨w141v, w141e, w141⟩ := ziadd (a := w139v) (b := w140v) rfl rfl (by omega) (by omega)
                refine zs_iadd (pc := 64) t35_64 (c := w141v) w141e ?_
                refine zs_bipush (pc := 65) t35_65 (v := 48) (by decide) ?_
                obtain ⟨w142v, w142e, w142⟩ := zisub (a := w141v) (b := (48 : Int32)) w141 li48 (by omega) (by omega)
                refine zs_isub (pc := 67) t35_67 (c := w142v) w142e ?_
                refine zs_istore_n (pc := 68) t35_68 (ls' := [(2, .int w142v), (3, .int (2 : Int32)), (1, .int (1 : Int32)), (0, .ref 155)]) (zml mf35 (by decide)) rfl ?_
                refine zs_iinc (pc := 69) t35_69 (ls' := [(3, .int (3 : Int32)), (2, .int w142v), (1, .int (1 : Int32)), (0, .ref 155)]) (zml mf35 (by decide)) rfl (c := 3) (by decide) rfl ?_
                refine zs_goto (pc := 72) t35_72 ?_
                refine zs_iload_n (pc := 41) t35_41 rfl ?_
                refine zs_iconst (pc := 42) t35_42 (v := 4) (by decide) ?_
                refine zs_icmp_geF (pc := 43) t35_43 li3 li4 (by decide) ?_
                refine zs_aload_n (pc := 46) t35_46 rfl ?_
                refine zs_invV (pc := 47) (k := 155) (as' := []) (st := []) t35_47 mf31 rfl rfl (Or.inl ⟨by decide, (zk1 (w140s.k fk_zMc_155))⟩) ⟨by decide, by decide, Nat.le_of_ble_eq_true rfl, Nat.le_of_ble_eq_true rfl⟩ (C31_155 w140s w140I ?_) (fun _ _ q => q)
                intro w143v w143a w143b
                show zGo X l 2 0 0 35 50 [(3, .int (3 : Int32)), (2, .int w142v), (1, .int (1 : Int32)), (0, .ref 155)] [.int w143v] w140M _
                refine zs_invS (pc := 50) (as := [.int w143v]) (st := []) t35_50 (by decide) mf36 rfl rfl ⟨by decide, by decide, Nat.le_of_ble_eq_true rfl, Nat.le_of_ble_eq_true rfl⟩ (zs_in (by decide) mf36 (Nat.le_of_ble_eq_true rfl) ?_) (fun _ _ q => q)
                show zGo X l 0 0 0 36 0 [(0, .int w143v)] [] w140M _
                refine zs_iload_n (pc := 0) t36_0 rfl ?_
                refine zs_bipush (pc := 1) t36_1 (v := 48) (by decide) ?_
                by_cases w144 : w143v.toInt < 48
                · refine zs_icmp_ltT (pc := 3) t36_3 rfl li48 (by omega) ?_
                  refine zs_iconst (pc := 16) t36_16 (v := 0) (by decide) ?_
                  refine zs_iret (pc := 17) t36_17 mr36 (by decide) ?_
                  show zGo X l 2 0 0 35 53 [(3, .int (3 : Int32)), (2, .int w142v), (1, .int (1 : Int32)), (0, .ref 155)] [.int (0 : Int32)] w140M _
                  refine zs_if_eqT (pc := 53) t35_53 li0 (by decide) ?_
                  refine zs_iload_n (pc := 75) t35_75 rfl ?_
                  refine zs_if_eqF (pc := 76) t35_76 li3 (by decide) ?_
                  refine zs_aload_n (pc := 79) t35_79 rfl ?_
                  refine zs_invV (pc := 80) (k := 155) (as' := []) (st := []) t35_80 mf31 rfl rfl (Or.inl ⟨by decide, (zk1 (w140s.k fk_zMc_155))⟩) ⟨by decide, by decide, Nat.le_of_ble_eq_true rfl, Nat.le_of_ble_eq_true rfl⟩ (C31_155 w140s w140I ?_) (fun _ _ q => q)
                  intro w145v w145a w145b
                  show zGo X l 2 0 0 35 83 [(3, .int (3 : Int32)), (2, .int w142v), (1, .int (1 : Int32)), (0, .ref 155)] [.int w145v] w140M _
                  refine zs_invS (pc := 83) (as := [.int w145v]) (st := []) t35_83 (by decide) mf36 rfl rfl ⟨by decide, by decide, Nat.le_of_ble_eq_true rfl, Nat.le_of_ble_eq_true rfl⟩ (zs_in (by decide) mf36 (Nat.le_of_ble_eq_true rfl) ?_) (fun _ _ q => q)
                  show zGo X l 0 0 0 36 0 [(0, .int w145v)] [] w140M _
                  refine zs_iload_n (pc := 0) t36_0 rfl ?_
                  refine zs_bipush (pc := 1) t36_1 (v := 48) (by decide) ?_
                  by_cases w146 : w145v.toInt < 48
                  · refine zs_icmp_ltT (pc := 3) t36_3 rfl li48 (by omega) ?_
                    refine zs_iconst (pc := 16) t36_16 (v := 0) (by decide) ?_
                    refine zs_iret (pc := 17) t36_17 mr36 (by decide) ?_
                    show zGo X l 2 0 0 35 86 [(3, .int (3 : Int32)), (2, .int w142v), (1, .int (1 : Int32)), (0, .ref 155)] [.int (0 : Int32)] w140M _
                    refine zs_if_eqT (pc := 86) t35_86 li0 (by decide) ?_
                    refine zs_aload_n (pc := 98) t35_98 rfl ?_
                    refine zs_iload_n (pc := 99) t35_99 rfl ?_
                    refine zs_if_eqF (pc := 100) t35_100 li1 (by decide) ?_
                    refine zs_iload_n (pc := 103) t35_103 rfl ?_
                    obtain ⟨w147v, w147e⟩ : ∃ v, -w142v = v := ⟨_, rfl⟩
                    have w147 : w147v.toInt = -((w139v.toInt + w140v.toInt) - 48) := by rw [← w147e]; exact zneg w142 (by omega)
                    refine zs_ineg (pc := 104) t35_104 (c := w147v) w147e ?_
                    refine zs_goto (pc := 105) t35_105 ?_
                    have w148 : zIv cLo cHi (zsI w140M 155 4 w147v) := zIv.put w140I (show (-300000) ≤ w147v.toInt ∧ w147v.toInt ≤ 300000 from ⟨by omega, by omega⟩)
                    refine zs_putI (pc := 109) t35_109 (zk1 (w140s.k fk_zMc_155)) rfl ?_
                    refine zs_iconst (pc := 112) t35_112 (v := 1) (by decide) ?_
                    exact zs_iret (pc := 113) t35_113 mr35 (by decide) (hQ _ _ w140s w148 (((((((zFr.refl).put rfl).put rfl).trans (w90F.mono rfl)).trans (w115F.mono rfl)).trans (w140F.mono rfl)).put rfl) (by decide) (by decide))
                  · refine zs_icmp_ltF (pc := 3) t36_3 rfl li48 (by omega) ?_
                    refine zs_iload_n (pc := 6) t36_6 rfl ?_
                    refine zs_bipush (pc := 7) t36_7 (v := 57) (by decide) ?_
                    by_cases w149 : 57 < w145v.toInt
                    · refine zs_icmp_gtT (pc := 9) t36_9 rfl li57 (by omega) ?_
                      refine zs_iconst (pc := 16) t36_16 (v := 0) (by decide) ?_
                      refine zs_iret (pc := 17) t36_17 mr36 (by decide) ?_
                      show zGo X l 2 0 0 35 86 [(3, .int (3 : Int32)), (2, .int w142v), (1, .int (1 : Int32)), (0, .ref 155)] [.int (0 : Int32)] w140M _
                      refine zs_if_eqT (pc := 86) t35_86 li0 (by decide) ?_
                      refine zs_aload_n (pc := 98) t35_98 rfl ?_
                      refine zs_iload_n (pc := 99) t35_99 rfl ?_
                      refine zs_if_eqF (pc := 100) t35_100 li1 (by decide) ?_
                      refine zs_iload_n (pc := 103) t35_103 rfl ?_
                      obtain ⟨w150v, w150e⟩ : ∃ v, -w142v = v := ⟨_, rfl⟩
                      have w150 : w150v.toInt = -((w139v.toInt + w140v.toInt) - 48) := by rw [← w150e]; exact zneg w142 (by omega)
                      refine zs_ineg (pc := 104) t35_104 (c := w150v) w150e ?_
                      refine zs_goto (pc := 105) t35_105 ?_
                      have w151 : zIv cLo cHi (zsI w140M 155 4 w150v) := zIv.put w140I (show (-300000) ≤ w150v.toInt ∧ w150v.toInt ≤ 300000 from ⟨by omega, by omega⟩)
                      refine zs_putI (pc := 109) t35_109 (zk1 (w140s.k fk_zMc_155)) rfl ?_
                      refine zs_iconst (pc := 112) t35_112 (v := 1) (by decide) ?_
                      exact zs_iret (pc := 113) t35_113 mr35 (by decide) (hQ _ _ w140s w151 (((((((zFr.refl).put rfl).put rfl).trans (w90F.mono rfl)).trans (w115F.mono rfl)).trans (w140F.mono rfl)).put rfl) (by decide) (by decide))
                    · refine zs_icmp_gtF (pc := 9) t36_9 rfl li57 (by omega) ?_
                      refine zs_iconst (pc := 12) t36_12 (v := 1) (by decide) ?_
                      refine zs_goto (pc := 13) t36_13 ?_
                      refine zs_iret (pc := 17) t36_17 mr36 (by decide) ?_
                      show zGo X l 2 0 0 35 86 [(3, .int (3 : Int32)), (2, .int w142v), (1, .int (1 : Int32)), (0, .ref 155)] [.int (1 : Int32)] w140M _
                      refine zs_if_eqF (pc := 86) t35_86 li1 (by decide) ?_
                      refine zs_aload_n (pc := 89) t35_89 rfl ?_
                      refine zs_aload_n (pc := 90) t35_90 rfl ?_
                      have w152 := ib155_2 w140I
                      refine zs_get (pc := 91) t35_91 (by decide) (zk1 (w140s.k fk_zMc_155)) (zfvi rfl rfl) ?_
                      refine zs_invV (pc := 94) (k := 155) (as' := [.int (zI w140M 155 2)]) (st := []) t35_94 mf34 rfl rfl (Or.inl ⟨by decide, (zk1 (w140s.k fk_zMc_155))⟩) ⟨by decide, by decide, Nat.le_of_ble_eq_true rfl, Nat.le_of_ble_eq_true rfl⟩ (zs_in (by decide) mf34 (Nat.le_of_ble_eq_true rfl) ?_) (fun _ _ q => q)
                      show zGo X l 0 0 0 34 0 [(0, .ref 155), (1, .int (zI w140M 155 2))] [] w140M _
                      refine zs_aload_n (pc := 0) t34_0 rfl ?_
                      refine zs_iload_n (pc := 1) t34_1 rfl ?_
                      have w153 : zIv cLo cHi (zsI w140M 155 3 (zI w140M 155 2)) := zIv.put w140I (show (-2147483648) ≤ (zI w140M 155 2).toInt ∧ (zI w140M 155 2).toInt ≤ 2147483647 from (zrg (zI w140M 155 2)))
                      refine zs_putI (pc := 2) t34_2 (zk1 (w140s.k fk_zMc_155)) rfl ?_
                      refine zs_iconst (pc := 5) t34_5 (v := 0) (by decide) ?_
                      refine zs_iret (pc := 6) t34_6 mr34 (by decide) ?_
                      show zGo X l 2 0 0 35 97 [(3, .int (3 : Int32)), (2, .int w142v), (1, .int (1 : Int32)), (0, .ref 155)] [.int (0 : Int32)] (zsI w140M 155 3 (zI w140M 155 2)) _
                      exact zs_iret (pc := 97) t35_97 mr35 (by decide) (hQ _ _ w140s w153 (((((((zFr.refl).put rfl).put rfl).trans (w90F.mono rfl)).trans (w115F.mono rfl)).trans (w140F.mono rfl)).put rfl) (by decide) (by decide))
                · refine zs_icmp_ltF (pc := 3) t36_3 rfl li48 (by omega) ?_
                  refine zs_iload_n (pc := 6) t36_6 rfl ?_
                  refine zs_bipush (pc := 7) t36_7 (v := 57) (by decide) ?_
                  by_cases w154 : 57 < w143v.toInt
                  · refine zs_icmp_gtT (pc := 9) t36_9 rfl li57 (by omega) ?_
                    refine zs_iconst (pc := 16) t36_16 (v := 0) (by decide) ?_
                    refine zs_iret (pc := 17) t36_17 mr36 (by decide) ?_
                    show zGo X l 2 0 0 35 53 [(3, .int (3 : Int32)), (2, .int w142v), (1, .int (1 : Int32)), (0, .ref 155)] [.int (0 : Int32)] w140M _
                    refine zs_if_eqT (pc := 53) t35_53 li0 (by decide) ?_
                    refine zs_iload_n (pc := 75) t35_75 rfl ?_
                    refine zs_if_eqF (pc := 76) t35_76 li3 (by decide) ?_
                    refine zs_aload_n (pc := 79) t35_79 rfl ?_
                    refine zs_invV (pc := 80) (k := 155) (as' := []) (st := []) t35_80 mf31 rfl rfl (Or.inl ⟨by decide, (zk1 (w140s.k fk_zMc_155))⟩) ⟨by decide, by decide, Nat.le_of_ble_eq_true rfl, Nat.le_of_ble_eq_true rfl⟩ (C31_155 w140s w140I ?_) (fun _ _ q => q)
                    intro w155v w155a w155b
                    show zGo X l 2 0 0 35 83 [(3, .int (3 : Int32)), (2, .int w142v), (1, .int (1 : Int32)), (0, .ref 155)] [.int w155v] w140M _
                    refine zs_invS (pc := 83) (as := [.int w155v]) (st := []) t35_83 (by decide) mf36 rfl rfl ⟨by decide, by decide, Nat.le_of_ble_eq_true rfl, Nat.le_of_ble_eq_true rfl⟩ (zs_in (by decide) mf36 (Nat.le_of_ble_eq_true rfl) ?_) (fun _ _ q => q)
                    show zGo X l 0 0 0 36 0 [(0, .int w155v)] [] w140M _
                    refine zs_iload_n (pc := 0) t36_0 rfl ?_
                    refine zs_bipush (pc := 1) t36_1 (v := 48) (by decide) ?_
                    by_cases w156 : w155v.toInt < 48
                    · refine zs_icmp_ltT (pc := 3) t36_3 rfl li48 (by omega) ?_
                      refine zs_iconst (pc := 16) t36_16 (v := 0) (by decide) ?_
                      refine zs_iret (pc := 17) t36_17 mr36 (by decide) ?_
                      show zGo X l 2 0 0 35 86 [(3, .int (3 : Int32)), (2, .int w142v), (1, .int (1 : Int32)), (0, .ref 155)] [.int (0 : Int32)] w140M _
                      refine zs_if_eqT (pc := 86) t35_86 li0 (by decide) ?_
                      refine zs_aload_n (pc := 98) t35_98 rfl ?_
                      refine zs_iload_n (pc := 99) t35_99 rfl ?_
                      refine zs_if_eqF (pc := 100) t35_100 li1 (by decide) ?_
                      refine zs_iload_n (pc := 103) t35_103 rfl ?_
                      obtain ⟨w157v, w157e⟩ : ∃ v, -w142v = v := ⟨_, rfl⟩
                      have w157 : w157v.toInt = -((w139v.toInt + w140v.toInt) - 48) := by rw [← w157e]; exact zneg w142 (by omega)
                      refine zs_ineg (pc := 104) t35_104 (c := w157v) w157e ?_
                      refine zs_goto (pc := 105) t35_105 ?_
                      have w158 : zIv cLo cHi (zsI w140M 155 4 w157v) := zIv.put w140I (show (-300000) ≤ w157v.toInt ∧ w157v.toInt ≤ 300000 from ⟨by omega, by omega⟩)
                      refine zs_putI (pc := 109) t35_109 (zk1 (w140s.k fk_zMc_155)) rfl ?_
                      refine zs_iconst (pc := 112) t35_112 (v := 1) (by decide) ?_
                      exact zs_iret (pc := 113) t35_113 mr35 (by decide) (hQ _ _ w140s w158 (((((((zFr.refl).put rfl).put rfl).trans (w90F.mono rfl)).trans (w115F.mono rfl)).trans (w140F.mono rfl)).put rfl) (by decide) (by decide))
                    · refine zs_icmp_ltF (pc := 3) t36_3 rfl li48 (by omega) ?_
                      refine zs_iload_n (pc := 6) t36_6 rfl ?_
                      refine zs_bipush (pc := 7) t36_7 (v := 57) (by decide) ?_
                      by_cases w159 : 57 < w155v.toInt
                      · refine zs_icmp_gtT (pc := 9) t36_9 rfl li57 (by omega) ?_
                        refine zs_iconst (pc := 16) t36_16 (v := 0) (by decide) ?_
                        refine zs_iret (pc := 17) t36_17 mr36 (by decide) ?_
                        show zGo X l 2 0 0 35 86 [(3, .int (3 : Int32)), (2, .int w142v), (1, .int (1 : Int32)), (0, .ref 155)] [.int (0 : Int32)] w140M _
                        refine zs_if_eqT (pc := 86) t35_86 li0 (by decide) ?_
                        refine zs_aload_n (pc := 98) t35_98 rfl ?_
                        refine zs_iload_n (pc := 99) t35_99 rfl ?_
                        refine zs_if_eqF (pc := 100) t35_100 li1 (by decide) ?_
                        refine zs_iload_n (pc := 103) t35_103 rfl ?_
                        obtain ⟨w160v, w160e⟩ : ∃ v, -w142v = v := ⟨_, rfl⟩
                        have w160 : w160v.toInt = -((w139v.toInt + w140v.toInt) - 48) := by rw [← w160e]; exact zneg w142 (by omega)
                        refine zs_ineg (pc := 104) t35_104 (c := w160v) w160e ?_
                        refine zs_goto (pc := 105) t35_105 ?_
                        have w161 : zIv cLo cHi (zsI w140M 155 4 w160v) := zIv.put w140I (show (-300000) ≤ w160v.toInt ∧ w160v.toInt ≤ 300000 from ⟨by omega, by omega⟩)
                        refine zs_putI (pc := 109) t35_109 (zk1 (w140s.k fk_zMc_155)) rfl ?_
                        refine zs_iconst (pc := 112) t35_112 (v := 1) (by decide) ?_
                        exact zs_iret (pc := 113) t35_113 mr35 (by decide) (hQ _ _ w140s w161 (((((((zFr.refl).put rfl).put rfl).trans (w90F.mono rfl)).trans (w115F.mono rfl)).trans (w140F.mono rfl)).put rfl) (by decide) (by decide))
                      · refine zs_icmp_gtF (pc := 9) t36_9 rfl li57 (by omega) ?_
                        refine zs_iconst (pc := 12) t36_12 (v := 1) (by decide) ?_
                        refine zs_goto (pc := 13) t36_13 ?_
                        refine zs_iret (pc := 17) t36_17 mr36 (by decide) ?_
                        show zGo X l 2 0 0 35 86 [(3, .int (3 : Int32)), (2, .int w142v), (1, .int (1 : Int32)), (0, .ref 155)] [.int (1 : Int32)] w140M _
                        refine zs_if_eqF (pc := 86) t35_86 li1 (by decide) ?_
                        refine zs_aload_n (pc := 89) t35_89 rfl ?_
                        refine zs_aload_n (pc := 90) t35_90 rfl ?_
                        have w162 := ib155_2 w140I
                        refine zs_get (pc := 91) t35_91 (by decide) (zk1 (w140s.k fk_zMc_155)) (zfvi rfl rfl) ?_
                        refine zs_invV (pc := 94) (k := 155) (as' := [.int (zI w140M 155 2)]) (st := []) t35_94 mf34 rfl rfl (Or.inl ⟨by decide, (zk1 (w140s.k fk_zMc_155))⟩) ⟨by decide, by decide, Nat.le_of_ble_eq_true rfl, Nat.le_of_ble_eq_true rfl⟩ (zs_in (by decide) mf34 (Nat.le_of_ble_eq_true rfl) ?_) (fun _ _ q => q)
                        show zGo X l 0 0 0 34 0 [(0, .ref 155), (1, .int (zI w140M 155 2))] [] w140M _
                        refine zs_aload_n (pc := 0) t34_0 rfl ?_
                        refine zs_iload_n (pc := 1) t34_1 rfl ?_
                        have w163 : zIv cLo cHi (zsI w140M 155 3 (zI w140M 155 2)) := zIv.put w140I (show (-2147483648) ≤ (zI w140M 155 2).toInt ∧ (zI w140M 155 2).toInt ≤ 2147483647 from (zrg (zI w140M 155 2)))
                        refine zs_putI (pc := 2) t34_2 (zk1 (w140s.k fk_zMc_155)) rfl ?_
                        refine zs_iconst (pc := 5) t34_5 (v := 0) (by decide) ?_
                        refine zs_iret (pc := 6) t34_6 mr34 (by decide) ?_
                        show zGo X l 2 0 0 35 97 [(3, .int (3 : Int32)), (2, .int w142v), (1, .int (1 : Int32)), (0, .ref 155)] [.int (0 : Int32)] (zsI w140M 155 3 (zI w140M 155 2)) _
                        exact zs_iret (pc := 97) t35_97 mr35 (by decide) (hQ _ _ w140s w163 (((((((zFr.refl).put rfl).put rfl).trans (w90F.mono rfl)).trans (w115F.mono rfl)).trans (w140F.mono rfl)).put rfl) (by decide) (by decide))
                  · refine zs_icmp_gtF (pc := 9) t36_9 rfl li57 (by omega) ?_
                    refine zs_iconst (pc := 12) t36_12 (v := 1) (by decide) ?_
                    refine zs_goto (pc := 13) t36_13 ?_
                    refine zs_iret (pc := 17) t36_17 mr36 (by decide) ?_
                    show zGo X l 2 0 0 35 53 [(3, .int (3 : Int32)), (2, .int w142v), (1, .int (1 : Int32)), (0, .ref 155)] [.int (1 : Int32)] w140M _
                    refine zs_if_eqF (pc := 53) t35_53 li1 (by decide) ?_
                    refine zs_iload_n (pc := 56) t35_56 rfl ?_
                    refine zs_bipush (pc := 57) t35_57 (v := 10) (by decide) ?_
                    obtain ⟨w164v, w164⟩ : ∃ v, w142v * (10 : Int32) = v := ⟨_, rfl⟩
                    have w164g : w164v.toInt = ((w139v.toInt + w140v.toInt) - 48) * 10 := by rw [← w164]; exact zmulc w142 li10 (by omega) (by omega)
                    refine zs_imul (pc := 59) t35_59 (c := w164v) w164 ?_
                    refine zs_aload_n (pc := 60) t35_60 rfl ?_
                    refine zs_invV (pc := 61) (k := 155) (as' := []) (st := [.int w164v]) t35_61 mf30 rfl rfl (Or.inl ⟨by decide, (zk1 (w140s.k fk_zMc_155))⟩) ⟨by decide, by decide, Nat.le_of_ble_eq_true rfl, Nat.le_of_ble_eq_true rfl⟩ (C30_155 w140s w140I ?_) (fun _ _ q => q)
                    intro w165M w165v w165s w165I w165F w165a w165b
                    show zGo X l 2 0 0 35 64 [(3, .int (3 : Int32)), (2, .int w142v), (1, .int (1 : Int32)), (0, .ref 155)] [.int w165v, .int w164v] w165M _
                    obtain ⟨w166v, w166e, w166⟩ := ziadd (a := w164v) (b := w165v) rfl rfl (by omega) (by omega)
                    refine zs_iadd (pc := 64) t35_64 (c := w166v) w166e ?_
                    refine zs_bipush (pc := 65) t35_65 (v := 48) (by decide) ?_
                    obtain ⟨w167v, w167e, w167⟩ := zisub (a := w166v) (b := (48 : Int32)) w166 li48 (by omega) (by omega)
                    refine zs_isub (pc := 67) t35_67 (c := w167v) w167e ?_
                    refine zs_istore_n (pc := 68) t35_68 (ls' := [(2, .int w167v), (3, .int (3 : Int32)), (1, .int (1 : Int32)), (0, .ref 155)]) (zml mf35 (by decide)) rfl ?_
                    refine zs_iinc (pc := 69) t35_69 (ls' := [(3, .int (4 : Int32)), (2, .int w167v), (1, .int (1 : Int32)), (0, .ref 155)]) (zml mf35 (by decide)) rfl (c := 4) (by decide) rfl ?_
                    refine zs_goto (pc := 72) t35_72 ?_
                    refine zs_iload_n (pc := 41) t35_41 rfl ?_
                    refine zs_iconst (pc := 42) t35_42 (v := 4) (by decide) ?_
                    refine zs_icmp_geT (pc := 43) t35_43 li4 li4 (by decide) ?_
                    refine zs_iload_n (pc := 75) t35_75 rfl ?_
                    refine zs_if_eqF (pc := 76) t35_76 li4 (by decide) ?_
                    refine zs_aload_n (pc := 79) t35_79 rfl ?_
                    refine zs_invV (pc := 80) (k := 155) (as' := []) (st := []) t35_80 mf31 rfl rfl (Or.inl ⟨by decide, (zk1 (w165s.k fk_zMc_155))⟩) ⟨by decide, by decide, Nat.le_of_ble_eq_true rfl, Nat.le_of_ble_eq_true rfl⟩ (C31_155 w165s w165I ?_) (fun _ _ q => q)
                    intro w168v w168a w168b
                    show zGo X l 2 0 0 35 83 [(3, .int (4 : Int32)), (2, .int w167v), (1, .int (1 : Int32)), (0, .ref 155)] [.int w168v] w165M _
                    refine zs_invS (pc := 83) (as := [.int w168v]) (st := []) t35_83 (by decide) mf36 rfl rfl ⟨by decide, by decide, Nat.le_of_ble_eq_true rfl, Nat.le_of_ble_eq_true rfl⟩ (zs_in (by decide) mf36 (Nat.le_of_ble_eq_true rfl) ?_) (fun _ _ q => q)
                    show zGo X l 0 0 0 36 0 [(0, .int w168v)] [] w165M _
                    refine zs_iload_n (pc := 0) t36_0 rfl ?_
                    refine zs_bipush (pc := 1) t36_1 (v := 48) (by decide) ?_
                    by_cases w169 : w168v.toInt < 48
                    · refine zs_icmp_ltT (pc := 3) t36_3 rfl li48 (by omega) ?_
                      refine zs_iconst (pc := 16) t36_16 (v := 0) (by decide) ?_
                      refine zs_iret (pc := 17) t36_17 mr36 (by decide) ?_
                      show zGo X l 2 0 0 35 86 [(3, .int (4 : Int32)), (2, .int w167v), (1, .int (1 : Int32)), (0, .ref 155)] [.int (0 : Int32)] w165M _
                      refine zs_if_eqT (pc := 86) t35_86 li0 (by decide) ?_
                      refine zs_aload_n (pc := 98) t35_98 rfl ?_
                      refine zs_iload_n (pc := 99) t35_99 rfl ?_
                      refine zs_if_eqF (pc := 100) t35_100 li1 (by decide) ?_
                      refine zs_iload_n (pc := 103) t35_103 rfl ?_
                      obtain ⟨w170v, w170e⟩ : ∃ v, -w167v = v := ⟨_, rfl⟩
                      have w170 : w170v.toInt = -((w164v.toInt + w165v.toInt) - 48) := by rw [← w170e]; exact zneg w167 (by omega)
                      refine zs_ineg (pc := 104) t35_104 (c := w170v) w170e ?_
                      refine zs_goto (pc := 105) t35_105 ?_
                      have w171 : zIv cLo cHi (zsI w165M 155 4 w170v) := zIv.put w165I (show (-300000) ≤ w170v.toInt ∧ w170v.toInt ≤ 300000 from ⟨by omega, by omega⟩)
                      refine zs_putI (pc := 109) t35_109 (zk1 (w165s.k fk_zMc_155)) rfl ?_
                      refine zs_iconst (pc := 112) t35_112 (v := 1) (by decide) ?_
                      exact zs_iret (pc := 113) t35_113 mr35 (by decide) (hQ _ _ w165s w171 ((((((((zFr.refl).put rfl).put rfl).trans (w90F.mono rfl)).trans (w115F.mono rfl)).trans (w140F.mono rfl)).trans (w165F.mono rfl)).put rfl) (by decide) (by decide))
                    · refine zs_icmp_ltF (pc := 3) t36_3 rfl li48 (by omega) ?_
                      refine zs_iload_n (pc := 6) t36_6 rfl ?_
                      refine zs_bipush (pc := 7) t36_7 (v := 57) (by decide) ?_
                      by_cases w172 : 57 < w168v.toInt
                      · refine zs_icmp_gtT (pc := 9) t36_9 rfl li57 (by omega) ?_
                        refine zs_iconst (pc := 16) t36_16 (v := 0) (by decide) ?_
                        refine zs_iret (pc := 17) t36_17 mr36 (by decide) ?_
                        show zGo X l 2 0 0 35 86 [(3, .int (4 : Int32)), (2, .int w167v), (1, .int (1 : Int32)), (0, .ref 155)] [.int (0 : Int32)] w165M _
                        refine zs_if_eqT (pc := 86) t35_86 li0 (by decide) ?_
                        refine zs_aload_n (pc := 98) t35_98 rfl ?_
                        refine zs_iload_n (pc := 99) t35_99 rfl ?_
                        refine zs_if_eqF (pc := 100) t35_100 li1 (by decide) ?_
                        refine zs_iload_n (pc := 103) t35_103 rfl ?_
                        obtain ⟨w173v, w173e⟩ : ∃ v, -w167v = v := ⟨_, rfl⟩
                        have w173 : w173v.toInt = -((w164v.toInt + w165v.toInt) - 48) := by rw [← w173e]; exact zneg w167 (by omega)
                        refine zs_ineg (pc := 104) t35_104 (c := w173v) w173e ?_
                        refine zs_goto (pc := 105) t35_105 ?_
                        have w174 : zIv cLo cHi (zsI w165M 155 4 w173v) := zIv.put w165I (show (-300000) ≤ w173v.toInt ∧ w173v.toInt ≤ 300000 from ⟨by omega, by omega⟩)
                        refine zs_putI (pc := 109) t35_109 (zk1 (w165s.k fk_zMc_155)) rfl ?_
                        refine zs_iconst (pc := 112) t35_112 (v := 1) (by decide) ?_
                        exact zs_iret (pc := 113) t35_113 mr35 (by decide) (hQ _ _ w165s w174 ((((((((zFr.refl).put rfl).put rfl).trans (w90F.mono rfl)).trans (w115F.mono rfl)).trans (w140F.mono rfl)).trans (w165F.mono rfl)).put rfl) (by decide) (by decide))
                      · refine zs_icmp_gtF (pc := 9) t36_9 rfl li57 (by omega) ?_
                        refine zs_iconst (pc := 12) t36_12 (v := 1) (by decide) ?_
                        refine zs_goto (pc := 13) t36_13 ?_
                        refine zs_iret (pc := 17) t36_17 mr36 (by decide) ?_
                        show zGo X l 2 0 0 35 86 [(3, .int (4 : Int32)), (2, .int w167v), (1, .int (1 : Int32)), (0, .ref 155)] [.int (1 : Int32)] w165M _
                        refine zs_if_eqF (pc := 86) t35_86 li1 (by decide) ?_
                        refine zs_aload_n (pc := 89) t35_89 rfl ?_
                        refine zs_aload_n (pc := 90) t35_90 rfl ?_
                        have w175 := ib155_2 w165I
                        refine zs_get (pc := 91) t35_91 (by decide) (zk1 (w165s.k fk_zMc_155)) (zfvi rfl rfl) ?_
                        refine zs_invV (pc := 94) (k := 155) (as' := [.int (zI w165M 155 2)]) (st := []) t35_94 mf34 rfl rfl (Or.inl ⟨by decide, (zk1 (w165s.k fk_zMc_155))⟩) ⟨by decide, by decide, Nat.le_of_ble_eq_true rfl, Nat.le_of_ble_eq_true rfl⟩ (zs_in (by decide) mf34 (Nat.le_of_ble_eq_true rfl) ?_) (fun _ _ q => q)
                        show zGo X l 0 0 0 34 0 [(0, .ref 155), (1, .int (zI w165M 155 2))] [] w165M _
                        refine zs_aload_n (pc := 0) t34_0 rfl ?_
                        refine zs_iload_n (pc := 1) t34_1 rfl ?_
                        have w176 : zIv cLo cHi (zsI w165M 155 3 (zI w165M 155 2)) := zIv.put w165I (show (-2147483648) ≤ (zI w165M 155 2).toInt ∧ (zI w165M 155 2).toInt ≤ 2147483647 from (zrg (zI w165M 155 2)))
                        refine zs_putI (pc := 2) t34_2 (zk1 (w165s.k fk_zMc_155)) rfl ?_
                        refine zs_iconst (pc := 5) t34_5 (v := 0) (by decide) ?_
                        refine zs_iret (pc := 6) t34_6 mr34 (by decide) ?_
                        show zGo X l 2 0 0 35 97 [(3, .int (4 : Int32)), (2, .int w167v), (1, .int (1 : Int32)), (0, .ref 155)] [.int (0 : Int32)] (zsI w165M 155 3 (zI w165M 155 2)) _
                        exact zs_iret (pc := 97) t35_97 mr35 (by decide) (hQ _ _ w165s w176 ((((((((zFr.refl).put rfl).put rfl).trans (w90F.mono rfl)).trans (w115F.mono rfl)).trans (w140F.mono rfl)).trans (w165F.mono rfl)).put rfl) (by decide) (by decide))
