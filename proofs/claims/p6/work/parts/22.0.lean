theorem C92_7 {X : zX} {l : Launch} {M : zM} {Q : Option Value → zM → Prop} (hs : zSk zMc M) (hI : zIv cLo cHi M) (hQ : ∀ v : Int32, (-2147483648) ≤ v.toInt → v.toInt ≤ 2147483647 → Q (some (.int v)) M) : zCall X l 2 0 0 92 [.ref 7] M Q := by
  refine zs_in (by decide) mf92 (Nat.le_of_ble_eq_true rfl) ?_
  show zGo X l 2 0 0 92 0 [(0, .ref 7)] [] M _
  refine zs_iconst (pc := 0) t92_0 (v := 0) (by decide) ?_
  refine zs_istore_n (pc := 1) t92_1 (ls' := [(1, .int (0 : Int32)), (0, .ref 7)]) (zml mf92 (by decide)) rfl ?_
  refine zs_iconst (pc := 2) t92_2 (v := 0) (by decide) ?_
  refine zs_istore_n (pc := 3) t92_3 (ls' := [(2, .int (0 : Int32)), (1, .int (0 : Int32)), (0, .ref 7)]) (zml mf92 (by decide)) rfl ?_
  have w1L : ∀ (m : Nat) (w1x1 : Int32) (w1x2 : Int32), (0 ≤ w1x2.toInt ∧ w1x2.toInt ≤ 60) → 60 - w1x2.toInt ≤ (m : Int) → zGo X l 2 0 0 92 4 [(0, .ref 7), (1, .int w1x1), (2, .int w1x2)] [] M Q := by
    intro m
    induction m using Nat.strongRecOn with
    | ind w1m w1ih =>
      intro w1x1 w1x2 w1b2 w1q
      have w1g1 := zrg w1x1
      refine zs_iload_n (pc := 4) t92_4 rfl ?_
      refine zs_aload_n (pc := 5) t92_5 rfl ?_
      have w2 := ib7_3 hI
      refine zs_get (pc := 6) t92_6 (by decide) (zk1 (hs.k fk_zMc_7)) (zfvi rfl rfl) ?_
      by_cases w3 : (zI M 7 3).toInt ≤ w1x2.toInt
      · refine zs_icmp_geT (pc := 9) t92_9 rfl rfl (by omega) ?_
        refine zs_iload_n (pc := 29) t92_29 rfl ?_
        exact zs_iret (pc := 30) t92_30 mr92 rfl (hQ _ (zrg _).1 (zrg _).2)
      · refine zs_icmp_geF (pc := 9) t92_9 rfl rfl (by omega) ?_
        refine zs_aload_n (pc := 12) t92_12 rfl ?_
        refine zs_iload_n (pc := 13) t92_13 rfl ?_
        refine zs_invV (pc := 14) (k := 7) (as' := [.int w1x2]) (st := []) t92_14 mf93 rfl rfl (Or.inl ⟨by decide, (zk1 (hs.k fk_zMc_7))⟩) ⟨by decide, by decide, Nat.le_of_ble_eq_true rfl, Nat.le_of_ble_eq_true rfl⟩ (zs_in (by decide) mf93 (Nat.le_of_ble_eq_true rfl) ?_) (fun _ _ q => q)
        show zGo X l 1 0 0 93 0 [(0, .ref 7), (1, .int w1x2)] [] M _
        refine zs_aload_n (pc := 0) t93_0 rfl ?_
        refine zs_iload_n (pc := 1) t93_1 rfl ?_
        refine zs_invV (pc := 2) (k := 7) (as' := [.int w1x2]) (st := []) t93_2 mf91 rfl rfl (Or.inl ⟨by decide, (zk1 (hs.k fk_zMc_7))⟩) ⟨by decide, by decide, Nat.le_of_ble_eq_true rfl, Nat.le_of_ble_eq_true rfl⟩ (zs_in (by decide) mf91 (Nat.le_of_ble_eq_true rfl) ?_) (fun _ _ q => q)
        show zGo X l 0 0 0 91 0 [(0, .ref 7), (1, .int w1x2)] [] M _
        refine zs_iload_n (pc := 0) t91_0 rfl ?_
        refine zs_if_ltF (pc := 1) t91_1 rfl (by omega) ?_
        refine zs_iload_n (pc := 4) t91_4 rfl ?_
        refine zs_aload_n (pc := 5) t91_5 rfl ?_
        refine zs_get (pc := 6) t91_6 (by decide) (zk1 (hs.k fk_zMc_7)) (zfvi rfl rfl) ?_
        by_cases w4 : (zI M 7 3).toInt ≤ w1x2.toInt
        · refine zs_icmp_geT (pc := 9) t91_9 rfl rfl (by omega) ?_
          refine zs_iconst (pc := 16) t91_16 (v := 0) (by decide) ?_
          refine zs_iret (pc := 17) t91_17 mr91 (by decide) ?_
          show zGo X l 1 0 0 93 5 [(0, .ref 7), (1, .int w1x2)] [.int (0 : Int32)] M _
          refine zs_if_eqT (pc := 5) t93_5 li0 (by decide) ?_
          refine zs_iconst (pc := 51) t93_51 (v := 0) (by decide) ?_
          refine zs_iret (pc := 52) t93_52 mr93 (by decide) ?_
          show zGo X l 2 0 0 92 17 [(0, .ref 7), (1, .int w1x1), (2, .int w1x2)] [.int (0 : Int32)] M _
          refine zs_if_eqT (pc := 17) t92_17 li0 (by decide) ?_
          obtain ⟨w5v, w5e, w5⟩ := ziadd (a := w1x2) (b := Int32.ofInt 1) rfl (show (Int32.ofInt 1).toInt = 1 by decide) (by omega) (by omega)
          refine zs_iinc (pc := 23) t92_23 (ls' := [(2, .int w5v), (0, .ref 7), (1, .int w1x1)]) (zml mf92 (by decide)) rfl (c := w5v) w5e rfl ?_
          refine zs_goto (pc := 26) t92_26 ?_
          refine zGo.locals (ls' := [(0, .ref 7), (1, .int w1x1), (2, .int w5v)]) (by simp) ?_
          exact w1ih (w1m - 1) (by omega) w1x1 w5v ⟨by omega, by omega⟩ (by omega)
        · refine zs_icmp_geF (pc := 9) t91_9 rfl rfl (by omega) ?_
          refine zs_iconst (pc := 12) t91_12 (v := 1) (by decide) ?_
          refine zs_goto (pc := 13) t91_13 ?_
          refine zs_iret (pc := 17) t91_17 mr91 (by decide) ?_
          show zGo X l 1 0 0 93 5 [(0, .ref 7), (1, .int w1x2)] [.int (1 : Int32)] M _
          refine zs_if_eqF (pc := 5) t93_5 li1 (by decide) ?_
          refine zs_aload_n (pc := 8) t93_8 rfl ?_
          refine zs_get (pc := 9) t93_9 (by decide) (zk1 (hs.k fk_zMc_7)) (hs.p rfl fv_zMc_7_2) ?_
          refine zs_aload_n (pc := 12) t93_12 rfl ?_
          refine zs_get (pc := 13) t93_13 (by decide) (zk1 (hs.k fk_zMc_7)) (hs.p rfl fv_zMc_7_4) ?_
          refine zs_iload_n (pc := 16) t93_16 rfl ?_
          obtain ⟨w6n, w6⟩ : ∃ n : Nat, w1x2.toInt = (n : Int) := ⟨w1x2.toInt.toNat, by omega⟩
          have w7 := ib10 hI w6n
          refine zs_iald (pc := 17) t93_17 (j := w6n) (by decide) (zk1 (hs.k fk_zMc_10)) w6 (zk2 (hs.k fk_zMc_10) (by omega)) rfl ?_
          obtain ⟨w8n, w8⟩ : ∃ n : Nat, (zI M 10 w6n).toInt = (n : Int) := ⟨(zI M 10 w6n).toInt.toNat, by omega⟩
          have w9 := ib9 hI w8n
          refine zs_bald (pc := 18) t93_18 (j := w8n) (Or.inr (zk1 (hs.k fk_zMc_9))) w8 (zk2 (hs.k fk_zMc_9) (by omega)) rfl ?_
          by_cases w10 : (zI M 9 w8n).toInt = 0
          · refine zs_if_eqT (pc := 19) t93_19 rfl (by omega) ?_
            refine zs_iconst (pc := 51) t93_51 (v := 0) (by decide) ?_
            refine zs_iret (pc := 52) t93_52 mr93 (by decide) ?_
            show zGo X l 2 0 0 92 17 [(0, .ref 7), (1, .int w1x1), (2, .int w1x2)] [.int (0 : Int32)] M _
            refine zs_if_eqT (pc := 17) t92_17 li0 (by decide) ?_
            obtain ⟨w11v, w11e, w11⟩ := ziadd (a := w1x2) (b := Int32.ofInt 1) rfl (show (Int32.ofInt 1).toInt = 1 by decide) (by omega) (by omega)
            refine zs_iinc (pc := 23) t92_23 (ls' := [(2, .int w11v), (0, .ref 7), (1, .int w1x1)]) (zml mf92 (by decide)) rfl (c := w11v) w11e rfl ?_
            refine zs_goto (pc := 26) t92_26 ?_
            refine zGo.locals (ls' := [(0, .ref 7), (1, .int w1x1), (2, .int w11v)]) (by simp) ?_
            exact w1ih (w1m - 1) (by omega) w1x1 w11v ⟨by omega, by omega⟩ (by omega)
          · refine zs_if_eqF (pc := 19) t93_19 rfl (by omega) ?_
            refine zs_aload_n (pc := 22) t93_22 rfl ?_
            refine zs_get (pc := 23) t93_23 (by decide) (zk1 (hs.k fk_zMc_7)) (hs.p rfl fv_zMc_7_6) ?_
            refine zs_iload_n (pc := 26) t93_26 rfl ?_
            have w12 := ib12 hI w6n
            refine zs_iald (pc := 27) t93_27 (j := w6n) (by decide) (zk1 (hs.k fk_zMc_12)) w6 (zk2 (hs.k fk_zMc_12) (by omega)) rfl ?_
            refine zs_aload_n (pc := 28) t93_28 rfl ?_
            refine zs_get (pc := 29) t93_29 (by decide) (zk1 (hs.k fk_zMc_7)) (hs.p rfl fv_zMc_7_12) ?_
            refine zs_iconst (pc := 32) t93_32 (v := 5) (by decide) ?_
            have w13 := ib17 hI 5
            refine zs_iald (pc := 33) t93_33 (j := 5) (by decide) (zk1 (hs.k fk_zMc_17)) li5 (zk2 (hs.k fk_zMc_17) (by decide)) rfl ?_
            refine zs_aload_n (pc := 34) t93_34 rfl ?_
            refine zs_get (pc := 35) t93_35 (by decide) (zk1 (hs.k fk_zMc_7)) (hs.p rfl fv_zMc_7_12) ?_
            refine zs_bipush (pc := 38) t93_38 (v := 6) (by decide) ?_
            have w14 := ib17 hI 6
            refine zs_iald (pc := 40) t93_40 (j := 6) (by decide) (zk1 (hs.k fk_zMc_17)) li6 (zk2 (hs.k fk_zMc_17) (by decide)) rfl ?_
            refine zs_invS (pc := 41) (as := [.int (zI M 12 w6n), .int (zI M 17 5), .int (zI M 17 6)]) (st := []) t93_41 (by decide) mf39 rfl rfl ⟨by decide, by decide, Nat.le_of_ble_eq_true rfl, Nat.le_of_ble_eq_true rfl⟩ (zs_in (by decide) mf39 (Nat.le_of_ble_eq_true rfl) ?_) (fun _ _ q => q)
            show zGo X l 0 0 0 39 0 [(0, .int (zI M 12 w6n)), (1, .int (zI M 17 5)), (2, .int (zI M 17 6))] [] M _
            refine zs_iload_n (pc := 0) t39_0 rfl ?_
            refine zs_iload_n (pc := 1) t39_1 rfl ?_
            by_cases w15 : (zI M 12 w6n).toInt < (zI M 17 5).toInt
            · refine zs_icmp_ltT (pc := 2) t39_2 rfl rfl (by omega) ?_
              refine zs_iconst (pc := 14) t39_14 (v := 0) (by decide) ?_
              refine zs_iret (pc := 15) t39_15 mr39 (by decide) ?_
              show zGo X l 1 0 0 93 44 [(0, .ref 7), (1, .int w1x2)] [.int (0 : Int32)] M _
              refine zs_if_eqT (pc := 44) t93_44 li0 (by decide) ?_
              refine zs_iconst (pc := 51) t93_51 (v := 0) (by decide) ?_
              refine zs_iret (pc := 52) t93_52 mr93 (by decide) ?_
              show zGo X l 2 0 0 92 17 [(0, .ref 7), (1, .int w1x1), (2, .int w1x2)] [.int (0 : Int32)] M _
              refine zs_if_eqT (pc := 17) t92_17 li0 (by decide) ?_
              obtain ⟨w16v, w16e, w16⟩ := ziadd (a := w1x2) (b := Int32.ofInt 1) rfl (show (Int32.ofInt 1).toInt = 1 by decide) (by omega) (by omega)
              refine zs_iinc (pc := 23) t92_23 (ls' := [(2, .int w16v), (0, .ref 7), (1, .int w1x1)]) (zml mf92 (by decide)) rfl (c := w16v) w16e rfl ?_
              refine zs_goto (pc := 26) t92_26 ?_
              refine zGo.locals (ls' := [(0, .ref 7), (1, .int w1x1), (2, .int w16v)]) (by simp) ?_
              exact w1ih (w1m - 1) (by omega) w1x1 w16v ⟨by omega, by omega⟩ (by omega)
            · refine zs_icmp_ltF (pc := 2) t39_2 rfl rfl (by omega) ?_
              refine zs_iload_n (pc := 5) t39_5 rfl ?_
              refine zs_iload_n (pc := 6) t39_6 rfl ?_
              by_cases w17 : (zI M 17 6).toInt < (zI M 12 w6n).toInt
              · refine zs_icmp_gtT (pc := 7) t39_7 rfl rfl (by omega) ?_
                refine zs_iconst (pc := 14) t39_14 (v := 0) (by decide) ?_
                refine zs_iret (pc := 15) t39_15 mr39 (by decide) ?_
                show zGo X l 1 0 0 93 44 [(0, .ref 7), (1, .int w1x2)] [.int (0 : Int32)] M _
                refine zs_if_eqT (pc := 44) t93_44 li0 (by decide) ?_
                refine zs_iconst (pc := 51) t93_51 (v := 0) (by decide) ?_
                refine zs_iret (pc := 52) t93_52 mr93 (by decide) ?_
                show zGo X l 2 0 0 92 17 [(0, .ref 7), (1, .int w1x1), (2, .int w1x2)] [.int (0 : Int32)] M _
                refine zs_if_eqT (pc := 17) t92_17 li0 (by decide) ?_
                obtain ⟨w18v, w18e, w18⟩ := ziadd (a := w1x2) (b := Int32.ofInt 1) rfl (show (Int32.ofInt 1).toInt = 1 by decide) (by omega) (by omega)
                refine zs_iinc (pc := 23) t92_23 (ls' := [(2, .int w18v), (0, .ref 7), (1, .int w1x1)]) (zml mf92 (by decide)) rfl (c := w18v) w18e rfl ?_
                refine zs_goto (pc := 26) t92_26 ?_
                refine zGo.locals (ls' := [(0, .ref 7), (1, .int w1x1), (2, .int w18v)]) (by simp) ?_
                exact w1ih (w1m - 1) (by omega) w1x1 w18v ⟨by omega, by omega⟩ (by omega)
              · refine zs_icmp_gtF (pc := 7) t39_7 rfl rfl (by omega) ?_
                refine zs_iconst (pc := 10) t39_10 (v := 1) (by decide) ?_
                refine zs_goto (pc := 11) t39_11 ?_
                refine zs_iret (pc := 15) t39_15 mr39 (by decide) ?_
                show zGo X l 1 0 0 93 44 [(0, .ref 7), (1, .int w1x2)] [.int (1 : Int32)] M _
                refine zs_if_eqF (pc := 44) t93_44 li1 (by decide) ?_
                refine zs_iconst (pc := 47) t93_47 (v := 1) (by decide) ?_
                refine zs_goto (pc := 48) t93_48 ?_
                refine zs_iret (pc := 52) t93_52 mr93 (by decide) ?_
                show zGo X l 2 0 0 92 17 [(0, .ref 7), (1, .int w1x1), (2, .int w1x2)] [.int (1 : Int32)] M _
                refine zs_if_eqF (pc := 17) t92_17 li1 (by decide) ?_
                obtain ⟨w19v, w19e⟩ : ∃ v, w1x1 + Int32.ofInt 1 = v := ⟨_, rfl⟩
                have w19 := zrg w19v
                refine zs_iinc (pc := 20) t92_20 (ls' := [(1, .int w19v), (0, .ref 7), (2, .int w1x2)]) (zml mf92 (by decide)) rfl (c := w19v) w19e rfl ?_
                obtain ⟨w20v, w20e, w20⟩ := ziadd (a := w1x2) (b := Int32.ofInt 1) rfl (show (Int32.ofInt 1).toInt = 1 by decide) (by omega) (by omega)
                refine zs_iinc (pc := 23) t92_23 (ls' := [(2, .int w20v), (1, .int w19v), (0, .ref 7)]) (zml mf92 (by decide)) rfl (c := w20v) w20e rfl ?_
                refine zs_goto (pc := 26) t92_26 ?_
                refine zGo.locals (ls' := [(0, .ref 7), (1, .int w19v), (2, .int w20v)]) (by simp) ?_
                exact w1ih (w1m - 1) (by omega) w19v w20v ⟨by omega, by omega⟩ (by omega)
  refine zGo.locals (ls' := [(0, .ref 7), (1, .int (0 : Int32)), (2, .int (0 : Int32))]) (by simp) ?_
  have w21 := li0
  have w22 := li0
  exact w1L ((60 - 0 : Int).toNat) (0 : Int32) (0 : Int32) ⟨by decide, by decide⟩ (by omega)
theorem C100_7 {X : zX} {l : Launch} {M : zM} {Q : Option Value → zM → Prop} (hs : zSk zMc M) (hI : zIv cLo cHi M) (hQ : ∀ v : Int32, (-2147483648) ≤ v.toInt → v.toInt ≤ 2147483647 → Q (some (.int v)) M) : zCall X l 0 0 0 100 [.ref 7] M Q := by
  refine zs_in (by decide) mf100 (Nat.le_of_ble_eq_true rfl) ?_
  show zGo X l 0 0 0 100 0 [(0, .ref 7)] [] M _
  refine zs_iconst (pc := 0) t100_0 (v := 0) (by decide) ?_
  refine zs_istore_n (pc := 1) t100_1 (ls' := [(1, .int (0 : Int32)), (0, .ref 7)]) (zml mf100 (by decide)) rfl ?_
  refine zs_iconst (pc := 2) t100_2 (v := 0) (by decide) ?_
  refine zs_istore_n (pc := 3) t100_3 (ls' := [(2, .int (0 : Int32)), (1, .int (0 : Int32)), (0, .ref 7)]) (zml mf100 (by decide)) rfl ?_
  have w1L : ∀ (m : Nat) (w1x1 : Int32) (w1x2 : Int32), (0 ≤ w1x2.toInt ∧ w1x2.toInt ≤ 8) → 8 - w1x2.toInt ≤ (m : Int) → zGo X l 0 0 0 100 4 [(0, .ref 7), (1, .int w1x1), (2, .int w1x2)] [] M Q := by
    intro m
    induction m using Nat.strongRecOn with
    | ind w1m w1ih =>
      intro w1x1 w1x2 w1b2 w1q
      have w1g1 := zrg w1x1
      refine zs_iload_n (pc := 4) t100_4 rfl ?_
      refine zs_aload_n (pc := 5) t100_5 rfl ?_
      have w2 := ib7_0 hI
      refine zs_get (pc := 6) t100_6 (by decide) (zk1 (hs.k fk_zMc_7)) (zfvi rfl rfl) ?_
      by_cases w3 : (zI M 7 0).toInt ≤ w1x2.toInt
      · refine zs_icmp_geT (pc := 9) t100_9 rfl rfl (by omega) ?_
        refine zs_iload_n (pc := 30) t100_30 rfl ?_
        exact zs_iret (pc := 31) t100_31 mr100 rfl (hQ _ (zrg _).1 (zrg _).2)
      · refine zs_icmp_geF (pc := 9) t100_9 rfl rfl (by omega) ?_
        refine zs_aload_n (pc := 12) t100_12 rfl ?_
        refine zs_get (pc := 13) t100_13 (by decide) (zk1 (hs.k fk_zMc_7)) (hs.p rfl fv_zMc_7_2) ?_
        refine zs_iload_n (pc := 16) t100_16 rfl ?_
        obtain ⟨w4n, w4⟩ : ∃ n : Nat, w1x2.toInt = (n : Int) := ⟨w1x2.toInt.toNat, by omega⟩
        have w5 := ib9 hI w4n
        refine zs_bald (pc := 17) t100_17 (j := w4n) (Or.inr (zk1 (hs.k fk_zMc_9))) w4 (zk2 (hs.k fk_zMc_9) (by omega)) rfl ?_
        by_cases w6 : (zI M 9 w4n).toInt = 0
        · refine zs_if_eqT (pc := 18) t100_18 rfl (by omega) ?_
          obtain ⟨w7v, w7e, w7⟩ := ziadd (a := w1x2) (b := Int32.ofInt 1) rfl (show (Int32.ofInt 1).toInt = 1 by decide) (by omega) (by omega)
          refine zs_iinc (pc := 24) t100_24 (ls' := [(2, .int w7v), (0, .ref 7), (1, .int w1x1)]) (zml mf100 (by decide)) rfl (c := w7v) w7e rfl ?_
          refine zs_goto (pc := 27) t100_27 ?_
          refine zGo.locals (ls' := [(0, .ref 7), (1, .int w1x1), (2, .int w7v)]) (by simp) ?_
          exact w1ih (w1m - 1) (by omega) w1x1 w7v ⟨by omega, by omega⟩ (by omega)
        · refine zs_if_eqF (pc := 18) t100_18 rfl (by omega) ?_
          obtain ⟨w8v, w8e⟩ : ∃ v, w1x1 + Int32.ofInt 1 = v := ⟨_, rfl⟩
          have w8 := zrg w8v
          refine zs_iinc (pc := 21) t100_21 (ls' := [(1, .int w8v), (0, .ref 7), (2, .int w1x2)]) (zml mf100 (by decide)) rfl (c := w8v) w8e rfl ?_
          obtain ⟨w9v, w9e, w9⟩ := ziadd (a := w1x2) (b := Int32.ofInt 1) rfl (show (Int32.ofInt 1).toInt = 1 by decide) (by omega) (by omega)
          refine zs_iinc (pc := 24) t100_24 (ls' := [(2, .int w9v), (1, .int w8v), (0, .ref 7)]) (zml mf100 (by decide)) rfl (c := w9v) w9e rfl ?_
          refine zs_goto (pc := 27) t100_27 ?_
          refine zGo.locals (ls' := [(0, .ref 7), (1, .int w8v), (2, .int w9v)]) (by simp) ?_
          exact w1ih (w1m - 1) (by omega) w8v w9v ⟨by omega, by omega⟩ (by omega)
  refine zGo.locals (ls' := [(0, .ref 7), (1, .int (0 : Int32)), (2, .int (0 : Int32))]) (by simp) ?_
  have w10 := li0
  have w11 := li0
  exact w1L ((8 - 0 : Int).toNat) (0 : Int32) (0 : Int32) ⟨by decide, by decide⟩ (by omega)
theorem C103_7 {X : zX} {l : Launch} {M : zM} {Q : Option Value → zM → Prop} {a : Int32} (hs : zSk zMc M) (hI : zIv cLo cHi M) (hQ : ∀ v : Int32, (-2147483648) ≤ v.toInt → v.toInt ≤ 2147483647 → Q (some (.int v)) M) : zCall X l 2 0 0 103 [.ref 7, .int a] M Q := by
  have ga := zrg a
  refine zs_in (by decide) mf103 (Nat.le_of_ble_eq_true rfl) ?_
  show zGo X l 2 0 0 103 0 [(0, .ref 7), (1, .int a)] [] M _
  refine zs_iconst (pc := 0) t103_0 (v := 0) (by decide) ?_
  refine zs_istore_n (pc := 1) t103_1 (ls' := [(2, .int (0 : Int32)), (0, .ref 7), (1, .int a)]) (zml mf103 (by decide)) rfl ?_
  refine zs_iconst (pc := 2) t103_2 (v := 0) (by decide) ?_
  refine zs_istore_n (pc := 3) t103_3 (ls' := [(3, .int (0 : Int32)), (2, .int (0 : Int32)), (0, .ref 7), (1, .int a)]) (zml mf103 (by decide)) rfl ?_
  have w1L : ∀ (m : Nat) (w1x2 : Int32) (w1x3 : Int32), (0 ≤ w1x3.toInt ∧ w1x3.toInt ≤ 60) → 60 - w1x3.toInt ≤ (m : Int) → zGo X l 2 0 0 103 4 [(0, .ref 7), (1, .int a), (2, .int w1x2), (3, .int w1x3)] [] M Q := by
    intro m
    induction m using Nat.strongRecOn with
    | ind w1m w1ih =>
      intro w1x2 w1x3 w1b3 w1q
      have w1g2 := zrg w1x2
      refine zs_iload_n (pc := 4) t103_4 rfl ?_
      refine zs_aload_n (pc := 5) t103_5 rfl ?_
      have w2 := ib7_3 hI
      refine zs_get (pc := 6) t103_6 (by decide) (zk1 (hs.k fk_zMc_7)) (zfvi rfl rfl) ?_
      by_cases w3 : (zI M 7 3).toInt ≤ w1x3.toInt
      · refine zs_icmp_geT (pc := 9) t103_9 rfl rfl (by omega) ?_
        refine zs_iload_n (pc := 39) t103_39 rfl ?_
        exact zs_iret (pc := 40) t103_40 mr103 rfl (hQ _ (zrg _).1 (zrg _).2)
      · refine zs_icmp_geF (pc := 9) t103_9 rfl rfl (by omega) ?_
        refine zs_aload_n (pc := 12) t103_12 rfl ?_
        refine zs_get (pc := 13) t103_13 (by decide) (zk1 (hs.k fk_zMc_7)) (hs.p rfl fv_zMc_7_4) ?_
        refine zs_iload_n (pc := 16) t103_16 rfl ?_
        obtain ⟨w4n, w4⟩ : ∃ n : Nat, w1x3.toInt = (n : Int) := ⟨w1x3.toInt.toNat, by omega⟩
        have w5 := ib10 hI w4n
        refine zs_iald (pc := 17) t103_17 (j := w4n) (by decide) (zk1 (hs.k fk_zMc_10)) w4 (zk2 (hs.k fk_zMc_10) (by omega)) rfl ?_
        refine zs_iload_n (pc := 18) t103_18 rfl ?_
        by_cases w6 : (zI M 10 w4n).toInt ≠ a.toInt
        · refine zs_icmp_neT (pc := 19) t103_19 rfl rfl (by omega) ?_
          obtain ⟨w7v, w7e, w7⟩ := ziadd (a := w1x3) (b := Int32.ofInt 1) rfl (show (Int32.ofInt 1).toInt = 1 by decide) (by omega) (by omega)
          refine zs_iinc (pc := 33) t103_33 (ls' := [(3, .int w7v), (0, .ref 7), (1, .int a), (2, .int w1x2)]) (zml mf103 (by decide)) rfl (c := w7v) w7e rfl ?_
          refine zs_goto (pc := 36) t103_36 ?_
          refine zGo.locals (ls' := [(0, .ref 7), (1, .int a), (2, .int w1x2), (3, .int w7v)]) (by simp) ?_
          exact w1ih (w1m - 1) (by omega) w1x2 w7v ⟨by omega, by omega⟩ (by omega)
        · refine zs_icmp_neF (pc := 19) t103_19 rfl rfl (by omega) ?_
          refine zs_aload_n (pc := 22) t103_22 rfl ?_
          refine zs_iload_n (pc := 23) t103_23 rfl ?_
          refine zs_invV (pc := 24) (k := 7) (as' := [.int w1x3]) (st := []) t103_24 mf93 rfl rfl (Or.inl ⟨by decide, (zk1 (hs.k fk_zMc_7))⟩) ⟨by decide, by decide, Nat.le_of_ble_eq_true rfl, Nat.le_of_ble_eq_true rfl⟩ (zs_in (by decide) mf93 (Nat.le_of_ble_eq_true rfl) ?_) (fun _ _ q => q)
          show zGo X l 1 0 0 93 0 [(0, .ref 7), (1, .int w1x3)] [] M _
          refine zs_aload_n (pc := 0) t93_0 rfl ?_
          refine zs_iload_n (pc := 1) t93_1 rfl ?_
          refine zs_invV (pc := 2) (k := 7) (as' := [.int w1x3]) (st := []) t93_2 mf91 rfl rfl (Or.inl ⟨by decide, (zk1 (hs.k fk_zMc_7))⟩) ⟨by decide, by decide, Nat.le_of_ble_eq_true rfl, Nat.le_of_ble_eq_true rfl⟩ (zs_in (by decide) mf91 (Nat.le_of_ble_eq_true rfl) ?_) (fun _ _ q => q)
          show zGo X l 0 0 0 91 0 [(0, .ref 7), (1, .int w1x3)] [] M _
          refine zs_iload_n (pc := 0) t91_0 rfl ?_
          refine zs_if_ltF (pc := 1) t91_1 rfl (by omega) ?_
          refine zs_iload_n (pc := 4) t91_4 rfl ?_
          refine zs_aload_n (pc := 5) t91_5 rfl ?_
          refine zs_get (pc := 6) t91_6 (by decide) (zk1 (hs.k fk_zMc_7)) (zfvi rfl rfl) ?_
          by_cases w8 : (zI M 7 3).toInt ≤ w1x3.toInt
          · refine zs_icmp_geT (pc := 9) t91_9 rfl rfl (by omega) ?_
            refine zs_iconst (pc := 16) t91_16 (v := 0) (by decide) ?_
            refine zs_iret (pc := 17) t91_17 mr91 (by decide) ?_
            show zGo X l 1 0 0 93 5 [(0, .ref 7), (1, .int w1x3)] [.int (0 : Int32)] M _
            refine zs_if_eqT (pc := 5) t93_5 li0 (by decide) ?_
            refine zs_iconst (pc := 51) t93_51 (v := 0) (by decide) ?_
            refine zs_iret (pc := 52) t93_52 mr93 (by decide) ?_
            show zGo X l 2 0 0 103 27 [(0, .ref 7), (1, .int a), (2, .int w1x2), (3, .int w1x3)] [.int (0 : Int32)] M _
            refine zs_if_eqT (pc := 27) t103_27 li0 (by decide) ?_
            obtain ⟨w9v, w9e, w9⟩ := ziadd (a := w1x3) (b := Int32.ofInt 1) rfl (show (Int32.ofInt 1).toInt = 1 by decide) (by omega) (by omega)
            refine zs_iinc (pc := 33) t103_33 (ls' := [(3, .int w9v), (0, .ref 7), (1, .int a), (2, .int w1x2)]) (zml mf103 (by decide)) rfl (c := w9v) w9e rfl ?_
            refine zs_goto (pc := 36) t103_36 ?_
            refine zGo.locals (ls' := [(0, .ref 7), (1, .int a), (2, .int w1x2), (3, .int w9v)]) (by simp) ?_
            exact w1ih (w1m - 1) (by omega) w1x2 w9v ⟨by omega, by omega⟩ (by omega)
          · refine zs_icmp_geF (pc := 9) t91_9 rfl rfl (by omega) ?_
            refine zs_iconst (pc := 12) t91_12 (v := 1) (by decide) ?_
            refine zs_goto (pc := 13) t91_13 ?_
            refine zs_iret (pc := 17) t91_17 mr91 (by decide) ?_
            show zGo X l 1 0 0 93 5 [(0, .ref 7), (1, .int w1x3)] [.int (1 : Int32)] M _
            refine zs_if_eqF (pc := 5) t93_5 li1 (by decide) ?_
            refine zs_aload_n (pc := 8) t93_8 rfl ?_
            refine zs_get (pc := 9) t93_9 (by decide) (zk1 (hs.k fk_zMc_7)) (hs.p rfl fv_zMc_7_2) ?_
            refine zs_aload_n (pc := 12) t93_12 rfl ?_
            refine zs_get (pc := 13) t93_13 (by decide) (zk1 (hs.k fk_zMc_7)) (hs.p rfl fv_zMc_7_4) ?_
            refine zs_iload_n (pc := 16) t93_16 rfl ?_
            refine zs_iald (pc := 17) t93_17 (j := w4n) (by decide) (zk1 (hs.k fk_zMc_10)) w4 (zk2 (hs.k fk_zMc_10) (by omega)) rfl ?_
            obtain ⟨w10n, w10⟩ : ∃ n : Nat, (zI M 10 w4n).toInt = (n : Int) := ⟨(zI M 10 w4n).toInt.toNat, by omega⟩
            have w11 := ib9 hI w10n
            refine zs_bald (pc := 18) t93_18 (j := w10n) (Or.inr (zk1 (hs.k fk_zMc_9))) w10 (zk2 (hs.k fk_zMc_9) (by omega)) rfl ?_
            by_cases w12 : (zI M 9 w10n).toInt = 0
            · refine zs_if_eqT (pc := 19) t93_19 rfl (by omega) ?_
              refine zs_iconst (pc := 51) t93_51 (v := 0) (by decide) ?_
              refine zs_iret (pc := 52) t93_52 mr93 (by decide) ?_
              show zGo X l 2 0 0 103 27 [(0, .ref 7), (1, .int a), (2, .int w1x2), (3, .int w1x3)] [.int (0 : Int32)] M _
              refine zs_if_eqT (pc := 27) t103_27 li0 (by decide) ?_
              obtain ⟨w13v, w13e, w13⟩ := ziadd (a := w1x3) (b := Int32.ofInt 1) rfl (show (Int32.ofInt 1).toInt = 1 by decide) (by omega) (by omega)
              refine zs_iinc (pc := 33) t103_33 (ls' := [(3, .int w13v), (0, .ref 7), (1, .int a), (2, .int w1x2)]) (zml mf103 (by decide)) rfl (c := w13v) w13e rfl ?_
              refine zs_goto (pc := 36) t103_36 ?_
              refine zGo.locals (ls' := [(0, .ref 7), (1, .int a), (2, .int w1x2), (3, .int w13v)]) (by simp) ?_
              exact w1ih (w1m - 1) (by omega) w1x2 w13v ⟨by omega, by omega⟩ (by omega)
            · refine zs_if_eqF (pc := 19) t93_19 rfl (by omega) ?_
              refine zs_aload_n (pc := 22) t93_22 rfl ?_
              refine zs_get (pc := 23) t93_23 (by decide) (zk1 (hs.k fk_zMc_7)) (hs.p rfl fv_zMc_7_6) ?_
              refine zs_iload_n (pc := 26) t93_26 rfl ?_
              have w14 := ib12 hI w4n
              refine zs_iald (pc := 27) t93_27 (j := w4n) (by decide) (zk1 (hs.k fk_zMc_12)) w4 (zk2 (hs.k fk_zMc_12) (by omega)) rfl ?_
              refine zs_aload_n (pc := 28) t93_28 rfl ?_
              refine zs_get (pc := 29) t93_29 (by decide) (zk1 (hs.k fk_zMc_7)) (hs.p rfl fv_zMc_7_12) ?_
              refine zs_iconst (pc := 32) t93_32 (v := 5) (by decide) ?_
              have w15 := ib17 hI 5
              refine zs_iald (pc := 33) t93_33 (j := 5) (by decide) (zk1 (hs.k fk_zMc_17)) li5 (zk2 (hs.k fk_zMc_17) (by decide)) rfl ?_
              refine zs_aload_n (pc := 34) t93_34 rfl ?_
              refine zs_get (pc := 35) t93_35 (by decide) (zk1 (hs.k fk_zMc_7)) (hs.p rfl fv_zMc_7_12) ?_
              refine zs_bipush (pc := 38) t93_38 (v := 6) (by decide) ?_
              have w16 := ib17 hI 6
              refine zs_iald (pc := 40) t93_40 (j := 6) (by decide) (zk1 (hs.k fk_zMc_17)) li6 (zk2 (hs.k fk_zMc_17) (by decide)) rfl ?_
              refine zs_invS (pc := 41) (as := [.int (zI M 12 w4n), .int (zI M 17 5), .int (zI M 17 6)]) (st := []) t93_41 (by decide) mf39 rfl rfl ⟨by decide, by decide, Nat.le_of_ble_eq_true rfl, Nat.le_of_ble_eq_true rfl⟩ (zs_in (by decide) mf39 (Nat.le_of_ble_eq_true rfl) ?_) (fun _ _ q => q)
              show zGo X l 0 0 0 39 0 [(0, .int (zI M 12 w4n)), (1, .int (zI M 17 5)), (2, .int (zI M 17 6))] [] M _
              refine zs_iload_n (pc := 0) t39_0 rfl ?_
              refine zs_iload_n (pc := 1) t39_1 rfl ?_
              by_cases w17 : (zI M 12 w4n).toInt < (zI M 17 5).toInt
              · refine zs_icmp_ltT (pc := 2) t39_2 rfl rfl (by omega) ?_
                refine zs_iconst (pc := 14) t39_14 (v := 0) (by decide) ?_
                refine zs_iret (pc := 15) t39_15 mr39 (by decide) ?_
                show zGo X l 1 0 0 93 44 [(0, .ref 7), (1, .int w1x3)] [.int (0 : Int32)] M _
                refine zs_if_eqT (pc := 44) t93_44 li0 (by decide) ?_
                refine zs_iconst (pc := 51) t93_51 (v := 0) (by decide) ?_
                refine zs_iret (pc := 52) t93_52 mr93 (by decide) ?_
                show zGo X l 2 0 0 103 27 [(0, .ref 7), (1, .int a), (2, .int w1x2), (3, .int w1x3)] [.int (0 : Int32)] M _
                refine zs_if_eqT (pc := 27) t103_27 li0 (by decide) ?_
                obtain ⟨w18v, w18e, w18⟩ := ziadd (a := w1x3) (b := Int32.ofInt 1) rfl (show (Int32.ofInt 1).toInt = 1 by decide) (by omega) (by omega)
                refine zs_iinc (pc := 33) t103_33 (ls' := [(3, .int w18v), (0, .ref 7), (1, .int a), (2, .int w1x2)]) (zml mf103 (by decide)) rfl (c := w18v) w18e rfl ?_
                refine zs_goto (pc := 36) t103_36 ?_
                refine zGo.locals (ls' := [(0, .ref 7), (1, .int a), (2, .int w1x2), (3, .int w18v)]) (by simp) ?_
                exact w1ih (w1m - 1) (by omega) w1x2 w18v ⟨by omega, by omega⟩ (by omega)
              · refine zs_icmp_ltF (pc := 2) t39_2 rfl rfl (by omega) ?_
                refine zs_iload_n (pc := 5) t39_5 rfl ?_
                refine zs_iload_n (pc := 6) t39_6 rfl ?_
                by_cases w19 : (zI M 17 6).toInt < (zI M 12 w4n).toInt
                · refine zs_icmp_gtT (pc := 7) t39_7 rfl rfl (by omega) ?_
                  refine zs_iconst (pc := 14) t39_14 (v := 0) (by decide) ?_
                  refine zs_iret (pc := 15) t39_15 mr39 (by decide) ?_
                  show zGo X l 1 0 0 93 44 [(0, .ref 7), (1, .int w1x3)] [.int (0 : Int32)] M _
                  refine zs_if_eqT (pc := 44) t93_44 li0 (by decide) ?_
                  refine zs_iconst (pc := 51) t93_51 (v := 0) (by decide) ?_
                  refine zs_iret (pc := 52) t93_52 mr93 (by decide) ?_
                  show zGo X l 2 0 0 103 27 [(0, .ref 7), (1, .int a), (2, .int w1x2), (3, .int w1x3)] [.int (0 : Int32)] M _
                  refine zs_if_eqT (pc := 27) t103_27 li0 (by decide) ?_
                  obtain ⟨w20v, w20e, w20⟩ := ziadd (a := w1x3) (b := Int32.ofInt 1) rfl (show (Int32.ofInt 1).toInt = 1 by decide) (by omega) (by omega)
                  refine zs_iinc (pc := 33) t103_33 (ls' := [(3, .int w20v), (0, .ref 7), (1, .int a), (2, .int w1x2)]) (zml mf103 (by decide)) rfl (c := w20v) w20e rfl ?_
                  refine zs_goto (pc := 36) t103_36 ?_
                  refine zGo.locals (ls' := [(0, .ref 7), (1, .int a), (2, .int w1x2), (3, .int w20v)]) (by simp) ?_
                  exact w1ih (w1m - 1) (by omega) w1x2 w20v ⟨by omega, by omega⟩ (by omega)
                · refine zs_icmp_gtF (pc := 7) t39_7 rfl rfl (by omega) ?_
                  refine zs_iconst (pc := 10) t39_10 (v := 1) (by decide) ?_
                  refine zs_goto (pc := 11) t39_11 ?_
                  refine zs_iret (pc := 15) t39_15 mr39 (by decide) ?_
                  show zGo X l 1 0 0 93 44 [(0, .ref 7), (1, .int w1x3)] [.int (1 : Int32)] M _
                  refine zs_if_eqF (pc := 44) t93_44 li1 (by decide) ?_
                  refine zs_iconst (pc := 47) t93_47 (v := 1) (by decide) ?_
                  refine zs_goto (pc := 48) t93_48 ?_
                  refine zs_iret (pc := 52) t93_52 mr93 (by decide) ?_
                  show zGo X l 2 0 0 103 27 [(0, .ref 7), (1, .int a), (2, .int w1x2), (3, .int w1x3)] [.int (1 : Int32)] M _
                  refine zs_if_eqF (pc := 27) t103_27 li1 (by decide) ?_
                  obtain ⟨w21v, w21e⟩ : ∃ v, w1x2 + Int32.ofInt 1 = v := ⟨_, rfl⟩
                  have w21 := zrg w21v
                  refine zs_iinc (pc := 30) t103_30 (ls' := [(2, .int w21v), (0, .ref 7), (1, .int a), (3, .int w1x3)]) (zml mf103 (by decide)) rfl (c := w21v) w21e rfl ?_
                  obtain ⟨w22v, w22e, w22⟩ := ziadd (a := w1x3) (b := Int32.ofInt 1) rfl (show (Int32.ofInt 1).toInt = 1 by decide) (by omega) (by omega)
                  refine zs_iinc (pc := 33) t103_33 (ls' := [(3, .int w22v), (2, .int w21v), (0, .ref 7), (1, .int a)]) (zml mf103 (by decide)) rfl (c := w22v) w22e rfl ?_
                  refine zs_goto (pc := 36) t103_36 ?_
                  refine zGo.locals (ls' := [(0, .ref 7), (1, .int a), (2, .int w21v), (3, .int w22v)]) (by simp) ?_
                  exact w1ih (w1m - 1) (by omega) w21v w22v ⟨by omega, by omega⟩ (by omega)
  refine zGo.locals (ls' := [(0, .ref 7), (1, .int a), (2, .int (0 : Int32)), (3, .int (0 : Int32))]) (by simp) ?_
  have w23 := li0
  have w24 := li0
  exact w1L ((60 - 0 : Int).toNat) (0 : Int32) (0 : Int32) ⟨by decide, by decide⟩ (by omega)
theorem C128_7 {X : zX} {l : Launch} {M : zM} {Q : Option Value → zM → Prop} {a : Int32} (hs : zSk zMc M) (hI : zIv cLo cHi M) (hQ : ∀ v : Int32, (-2147483648) ≤ v.toInt → v.toInt ≤ 2147483647 → Q (some (.int v)) M) : zCall X l 2 0 0 128 [.ref 7, .int a] M Q := by
  have ga := zrg a
  refine zs_in (by decide) mf128 (Nat.le_of_ble_eq_true rfl) ?_
  show zGo X l 2 0 0 128 0 [(0, .ref 7), (1, .int a)] [] M _
  refine zs_iconst (pc := 0) t128_0 (v := 0) (by decide) ?_
  refine zs_istore_n (pc := 1) t128_1 (ls' := [(2, .int (0 : Int32)), (0, .ref 7), (1, .int a)]) (zml mf128 (by decide)) rfl ?_
  refine zs_iconst (pc := 2) t128_2 (v := 0) (by decide) ?_
  refine zs_istore_n (pc := 3) t128_3 (ls' := [(3, .int (0 : Int32)), (2, .int (0 : Int32)), (0, .ref 7), (1, .int a)]) (zml mf128 (by decide)) rfl ?_
  have w1L : ∀ (m : Nat) (w1x2 : Int32) (w1x3 : Int32), (0 ≤ w1x3.toInt ∧ w1x3.toInt ≤ 60) → 60 - w1x3.toInt ≤ (m : Int) → zGo X l 2 0 0 128 4 [(0, .ref 7), (1, .int a), (2, .int w1x2), (3, .int w1x3)] [] M Q := by
    intro m
    induction m using Nat.strongRecOn with
    | ind w1m w1ih =>
      intro w1x2 w1x3 w1b3 w1q
      have w1g2 := zrg w1x2
      refine zs_iload_n (pc := 4) t128_4 rfl ?_
      refine zs_aload_n (pc := 5) t128_5 rfl ?_
      have w2 := ib7_3 hI
      refine zs_get (pc := 6) t128_6 (by decide) (zk1 (hs.k fk_zMc_7)) (zfvi rfl rfl) ?_
      by_cases w3 : (zI M 7 3).toInt ≤ w1x3.toInt
      · refine zs_icmp_geT (pc := 9) t128_9 rfl rfl (by omega) ?_
        refine zs_iload_n (pc := 39) t128_39 rfl ?_
        exact zs_iret (pc := 40) t128_40 mr128 rfl (hQ _ (zrg _).1 (zrg _).2)
      · refine zs_icmp_geF (pc := 9) t128_9 rfl rfl (by omega) ?_
        refine zs_aload_n (pc := 12) t128_12 rfl ?_
        refine zs_get (pc := 13) t128_13 (by decide) (zk1 (hs.k fk_zMc_7)) (hs.p rfl fv_zMc_7_7) ?_
        refine zs_iload_n (pc := 16) t128_16 rfl ?_
        obtain ⟨w4n, w4⟩ : ∃ n : Nat, w1x3.toInt = (n : Int) := ⟨w1x3.toInt.toNat, by omega⟩
        have w5 := ib13 hI w4n
        refine zs_iald (pc := 17) t128_17 (j := w4n) (by decide) (zk1 (hs.k fk_zMc_13)) w4 (zk2 (hs.k fk_zMc_13) (by omega)) rfl ?_
        refine zs_iload_n (pc := 18) t128_18 rfl ?_
        by_cases w6 : (zI M 13 w4n).toInt ≠ a.toInt
        · refine zs_icmp_neT (pc := 19) t128_19 rfl rfl (by omega) ?_
          obtain ⟨w7v, w7e, w7⟩ := ziadd (a := w1x3) (b := Int32.ofInt 1) rfl (show (Int32.ofInt 1).toInt = 1 by decide) (by omega) (by omega)
          refine zs_iinc (pc := 33) t128_33 (ls' := [(3, .int w7v), (0, .ref 7), (1, .int a), (2, .int w1x2)]) (zml mf128 (by decide)) rfl (c := w7v) w7e rfl ?_
          refine zs_goto (pc := 36) t128_36 ?_
          refine zGo.locals (ls' := [(0, .ref 7), (1, .int a), (2, .int w1x2), (3, .int w7v)]) (by simp) ?_
          exact w1ih (w1m - 1) (by omega) w1x2 w7v ⟨by omega, by omega⟩ (by omega)
        · refine zs_icmp_neF (pc := 19) t128_19 rfl rfl (by omega) ?_
          refine zs_aload_n (pc := 22) t128_22 rfl ?_
          refine zs_iload_n (pc := 23) t128_23 rfl ?_
          refine zs_invV (pc := 24) (k := 7) (as' := [.int w1x3]) (st := []) t128_24 mf93 rfl rfl (Or.inl ⟨by decide, (zk1 (hs.k fk_zMc_7))⟩) ⟨by decide, by decide, Nat.le_of_ble_eq_true rfl, Nat.le_of_ble_eq_true rfl⟩ (zs_in (by decide) mf93 (Nat.le_of_ble_eq_true rfl) ?_) (fun _ _ q => q)
          show zGo X l 1 0 0 93 0 [(0, .ref 7), (1, .int w1x3)] [] M _
          refine zs_aload_n (pc := 0) t93_0 rfl ?_
          refine zs_iload_n (pc := 1) t93_1 rfl ?_
          refine zs_invV (pc := 2) (k := 7) (as' := [.int w1x3]) (st := []) t93_2 mf91 rfl rfl (Or.inl ⟨by decide, (zk1 (hs.k fk_zMc_7))⟩) ⟨by decide, by decide, Nat.le_of_ble_eq_true rfl, Nat.le_of_ble_eq_true rfl⟩ (zs_in (by decide) mf91 (Nat.le_of_ble_eq_true rfl) ?_) (fun _ _ q => q)
          show zGo X l 0 0 0 91 0 [(0, .ref 7), (1, .int w1x3)] [] M _
          refine zs_iload_n (pc := 0) t91_0 rfl ?_
          refine zs_if_ltF (pc := 1) t91_1 rfl (by omega) ?_
          refine zs_iload_n (pc := 4) t91_4 rfl ?_
          refine zs_aload_n (pc := 5) t91_5 rfl ?_
          refine zs_get (pc := 6) t91_6 (by decide) (zk1 (hs.k fk_zMc_7)) (zfvi rfl rfl) ?_
          by_cases w8 : (zI M 7 3).toInt ≤ w1x3.toInt
          · refine zs_icmp_geT (pc := 9) t91_9 rfl rfl (by omega) ?_
            refine zs_iconst (pc := 16) t91_16 (v := 0) (by decide) ?_
            refine zs_iret (pc := 17) t91_17 mr91 (by decide) ?_
            show zGo X l 1 0 0 93 5 [(0, .ref 7), (1, .int w1x3)] [.int (0 : Int32)] M _
            refine zs_if_eqT (pc := 5) t93_5 li0 (by decide) ?_
            refine zs_iconst (pc := 51) t93_51 (v := 0) (by decide) ?_
            refine zs_iret (pc := 52) t93_52 mr93 (by decide) ?_
            show zGo X l 2 0 0 128 27 [(0, .ref 7), (1, .int a), (2, .int w1x2), (3, .int w1x3)] [.int (0 : Int32)] M _
            refine zs_if_eqT (pc := 27) t128_27 li0 (by decide) ?_
            obtain ⟨w9v, w9e, w9⟩ := ziadd (a := w1x3) (b := Int32.ofInt 1) rfl (show (Int32.ofInt 1).toInt = 1 by decide) (by omega) (by omega)
            refine zs_iinc (pc := 33) t128_33 (ls' := [(3, .int w9v), (0, .ref 7), (1, .int a), (2, .int w1x2)]) (zml mf128 (by decide)) rfl (c := w9v) w9e rfl ?_
            refine zs_goto (pc := 36) t128_36 ?_
            refine zGo.locals (ls' := [(0, .ref 7), (1, .int a), (2, .int w1x2), (3, .int w9v)]) (by simp) ?_
            exact w1ih (w1m - 1) (by omega) w1x2 w9v ⟨by omega, by omega⟩ (by omega)
          · refine zs_icmp_geF (pc := 9) t91_9 rfl rfl (by omega) ?_
            refine zs_iconst (pc := 12) t91_12 (v := 1) (by decide) ?_
            refine zs_goto (pc := 13) t91_13 ?_
            refine zs_iret (pc := 17) t91_17 mr91 (by decide) ?_
            show zGo X l 1 0 0 93 5 [(0, .ref 7), (1, .int w1x3)] [.int (1 : Int32)] M _
            refine zs_if_eqF (pc := 5) t93_5 li1 (by decide) ?_
            refine zs_aload_n (pc := 8) t93_8 rfl ?_
            refine zs_get (pc := 9) t93_9 (by decide) (zk1 (hs.k fk_zMc_7)) (hs.p rfl fv_zMc_7_2) ?_
            refine zs_aload_n (pc := 12) t93_12 rfl ?_
            refine zs_get (pc := 13) t93_13 (by decide) (zk1 (hs.k fk_zMc_7)) (hs.p rfl fv_zMc_7_4) ?_
            refine zs_iload_n (pc := 16) t93_16 rfl ?_
            have w10 := ib10 hI w4n
            refine zs_iald (pc := 17) t93_17 (j := w4n) (by decide) (zk1 (hs.k fk_zMc_10)) w4 (zk2 (hs.k fk_zMc_10) (by omega)) rfl ?_
            obtain ⟨w11n, w11⟩ : ∃ n : Nat, (zI M 10 w4n).toInt = (n : Int) := ⟨(zI M 10 w4n).toInt.toNat, by omega⟩
            have w12 := ib9 hI w11n
            refine zs_bald (pc := 18) t93_18 (j := w11n) (Or.inr (zk1 (hs.k fk_zMc_9))) w11 (zk2 (hs.k fk_zMc_9) (by omega)) rfl ?_
            by_cases w13 : (zI M 9 w11n).toInt = 0
            · refine zs_if_eqT (pc := 19) t93_19 rfl (by omega) ?_
              refine zs_iconst (pc := 51) t93_51 (v := 0) (by decide) ?_
              refine zs_iret (pc := 52) t93_52 mr93 (by decide) ?_
              show zGo X l 2 0 0 128 27 [(0, .ref 7), (1, .int a), (2, .int w1x2), (3, .int w1x3)] [.int (0 : Int32)] M _
              refine zs_if_eqT (pc := 27) t128_27 li0 (by decide) ?_
              obtain ⟨w14v, w14e, w14⟩ := ziadd (a := w1x3) (b := Int32.ofInt 1) rfl (show (Int32.ofInt 1).toInt = 1 by decide) (by omega) (by omega)
              refine zs_iinc (pc := 33) t128_33 (ls' := [(3, .int w14v), (0, .ref 7), (1, .int a), (2, .int w1x2)]) (zml mf128 (by decide)) rfl (c := w14v) w14e rfl ?_
              refine zs_goto (pc := 36) t128_36 ?_
              refine zGo.locals (ls' := [(0, .ref 7), (1, .int a), (2, .int w1x2), (3, .int w14v)]) (by simp) ?_
              exact w1ih (w1m - 1) (by omega) w1x2 w14v ⟨by omega, by omega⟩ (by omega)
            · refine zs_if_eqF (pc := 19) t93_19 rfl (by omega) ?_
              refine zs_aload_n (pc := 22) t93_22 rfl ?_
              refine zs_get (pc := 23) t93_23 (by decide) (zk1 (hs.k fk_zMc_7)) (hs.p rfl fv_zMc_7_6) ?_
              refine zs_iload_n (pc := 26) t93_26 rfl ?_
              have w15 := ib12 hI w4n
              refine zs_iald (pc := 27) t93_27 (j := w4n) (by decide) (zk1 (hs.k fk_zMc_12)) w4 (zk2 (hs.k fk_zMc_12) (by omega)) rfl ?_
              refine zs_aload_n (pc := 28) t93_28 rfl ?_
              refine zs_get (pc := 29) t93_29 (by decide) (zk1 (hs.k fk_zMc_7)) (hs.p rfl fv_zMc_7_12) ?_
              refine zs_iconst (pc := 32) t93_32 (v := 5) (by decide) ?_
              have w16 := ib17 hI 5
              refine zs_iald (pc := 33) t93_33 (j := 5) (by decide) (zk1 (hs.k fk_zMc_17)) li5 (zk2 (hs.k fk_zMc_17) (by decide)) rfl ?_
              refine zs_aload_n (pc := 34) t93_34 rfl ?_
              refine zs_get (pc := 35) t93_35 (by decide) (zk1 (hs.k fk_zMc_7)) (hs.p rfl fv_zMc_7_12) ?_
              refine zs_bipush (pc := 38) t93_38 (v := 6) (by decide) ?_
              have w17 := ib17 hI 6
              refine zs_iald (pc := 40) t93_40 (j := 6) (by decide) (zk1 (hs.k fk_zMc_17)) li6 (zk2 (hs.k fk_zMc_17) (by decide)) rfl ?_
              refine zs_invS (pc := 41) (as := [.int (zI M 12 w4n), .int (zI M 17 5), .int (zI M 17 6)]) (st := []) t93_41 (by decide) mf39 rfl rfl ⟨by decide, by decide, Nat.le_of_ble_eq_true rfl, Nat.le_of_ble_eq_true rfl⟩ (zs_in (by decide) mf39 (Nat.le_of_ble_eq_true rfl) ?_) (fun _ _ q => q)
              show zGo X l 0 0 0 39 0 [(0, .int (zI M 12 w4n)), (1, .int (zI M 17 5)), (2, .int (zI M 17 6))] [] M _
              refine zs_iload_n (pc := 0) t39_0 rfl ?_
              refine zs_iload_n (pc := 1) t39_1 rfl ?_
              by_cases w18 : (zI M 12 w4n).toInt < (zI M 17 5).toInt
              · refine zs_icmp_ltT (pc := 2) t39_2 rfl rfl (by omega) ?_
                refine zs_iconst (pc := 14) t39_14 (v := 0) (by decide) ?_
                refine zs_iret (pc := 15) t39_15 mr39 (by decide) ?_
                show zGo X l 1 0 0 93 44 [(0, .ref 7), (1, .int w1x3)] [.int (0 : Int32)] M _
                refine zs_if_eqT (pc := 44) t93_44 li0 (by decide) ?_
                refine zs_iconst (pc := 51) t93_51 (v := 0) (by decide) ?_
                refine zs_iret (pc := 52) t93_52 mr93 (by decide) ?_
                show zGo X l 2 0 0 128 27 [(0, .ref 7), (1, .int a), (2, .int w1x2), (3, .int w1x3)] [.int (0 : Int32)] M _
                refine zs_if_eqT (pc := 27) t128_27 li0 (by decide) ?_
                obtain ⟨w19v, w19e, w19⟩ := ziadd (a := w1x3) (b := Int32.ofInt 1) rfl (show (Int32.ofInt 1).toInt = 1 by decide) (by omega) (by omega)
                refine zs_iinc (pc := 33) t128_33 (ls' := [(3, .int w19v), (0, .ref 7), (1, .int a), (2, .int w1x2)]) (zml mf128 (by decide)) rfl (c := w19v) w19e rfl ?_
                refine zs_goto (pc := 36) t128_36 ?_
                refine zGo.locals (ls' := [(0, .ref 7), (1, .int a), (2, .int w1x2), (3, .int w19v)]) (by simp) ?_
                exact w1ih (w1m - 1) (by omega) w1x2 w19v ⟨by omega, by omega⟩ (by omega)
              · refine zs_icmp_ltF (pc := 2) t39_2 rfl rfl (by omega) ?_
                refine zs_iload_n (pc := 5) t39_5 rfl ?_
                refine zs_iload_n (pc := 6) t39_6 rfl ?_
                by_cases w20 : (zI M 17 6).toInt < (zI M 12 w4n).toInt
                · refine zs_icmp_gtT (pc := 7) t39_7 rfl rfl (by omega) ?_
                  refine zs_iconst (pc := 14) t39_14 (v := 0) (by decide) ?_
                  refine zs_iret (pc := 15) t39_15 mr39 (by decide) ?_
                  show zGo X l 1 0 0 93 44 [(0, .ref 7), (1, .int w1x3)] [.int (0 : Int32)] M _
                  refine zs_if_eqT (pc := 44) t93_44 li0 (by decide) ?_
                  refine zs_iconst (pc := 51) t93_51 (v := 0) (by decide) ?_
                  refine zs_iret (pc := 52) t93_52 mr93 (by decide) ?_
                  show zGo X l 2 0 0 128 27 [(0, .ref 7), (1, .int a), (2, .int w1x2), (3, .int w1x3)] [.int (0 : Int32)] M _
                  refine zs_if_eqT (pc := 27) t128_27 li0 (by decide) ?_
                  obtain ⟨w21v, w21e, w21⟩ := ziadd (a := w1x3) (b := Int32.ofInt 1) rfl (show (Int32.ofInt 1).toInt = 1 by decide) (by omega) (by omega)
                  refine zs_iinc (pc := 33) t128_33 (ls' := [(3, .int w21v), (0, .ref 7), (1, .int a), (2, .int w1x2)]) (zml mf128 (by decide)) rfl (c := w21v) w21e rfl ?_
                  refine zs_goto (pc := 36) t128_36 ?_
                  refine zGo.locals (ls' := [(0, .ref 7), (1, .int a), (2, .int w1x2), (3, .int w21v)]) (by simp) ?_
                  exact w1ih (w1m - 1) (by omega) w1x2 w21v ⟨by omega, by omega⟩ (by omega)
                · refine zs_icmp_gtF (pc := 7) t39_7 rfl rfl (by omega) ?_
                  refine zs_iconst (pc := 10) t39_10 (v := 1) (by decide) ?_
                  refine zs_goto (pc := 11) t39_11 ?_
                  refine zs_iret (pc := 15) t39_15 mr39 (by decide) ?_
                  show zGo X l 1 0 0 93 44 [(0, .ref 7), (1, .int w1x3)] [.int (1 : Int32)] M _
                  refine zs_if_eqF (pc := 44) t93_44 li1 (by decide) ?_
                  refine zs_iconst (pc := 47) t93_47 (v := 1) (by decide) ?_
                  refine zs_goto (pc := 48) t93_48 ?_
                  refine zs_iret (pc := 52) t93_52 mr93 (by decide) ?_
                  show zGo X l 2 0 0 128 27 [(0, .ref 7), (1, .int a), (2, .int w1x2), (3, .int w1x3)] [.int (1 : Int32)] M _
                  refine zs_if_eqF (pc := 27) t128_27 li1 (by decide) ?_
                  obtain ⟨w22v, w22e⟩ : ∃ v, w1x2 + Int32.ofInt 1 = v := ⟨_, rfl⟩
                  have w22 := zrg w22v
                  refine zs_iinc (pc := 30) t128_30 (ls' := [(2, .int w22v), (0, .ref 7), (1, .int a), (3, .int w1x3)]) (zml mf128 (by decide)) rfl (c := w22v) w22e rfl ?_
                  obtain ⟨w23v, w23e, w23⟩ := ziadd (a := w1x3) (b := Int32.ofInt 1) rfl (show (Int32.ofInt 1).toInt = 1 by decide) (by omega) (by omega)
                  refine zs_iinc (pc := 33) t128_33 (ls' := [(3, .int w23v), (2, .int w22v), (0, .ref 7), (1, .int a)]) (zml mf128 (by decide)) rfl (c := w23v) w23e rfl ?_
                  refine zs_goto (pc := 36) t128_36 ?_
                  refine zGo.locals (ls' := [(0, .ref 7), (1, .int a), (2, .int w22v), (3, .int w23v)]) (by simp) ?_
                  exact w1ih (w1m - 1) (by omega) w22v w23v ⟨by omega, by omega⟩ (by omega)
  refine zGo.locals (ls' := [(0, .ref 7), (1, .int a), (2, .int (0 : Int32)), (3, .int (0 : Int32))]) (by simp) ?_
  have w24 := li0
  have w25 := li0
  exact w1L ((60 - 0 : Int).toNat) (0 : Int32) (0 : Int32) ⟨by decide, by decide⟩ (by omega)
theorem C211_7 {X : zX} {l : Launch} {M : zM} {Q : Option Value → zM → Prop} {a b : Int32} (hs : zSk zMc M) (hI : zIv cLo cHi M) (hQ : ∀ v : Int32, (-2147483648) ≤ v.toInt → v.toInt ≤ 2147483647 → Q (some (.int v)) M) : zCall X l 1 0 0 211 [.ref 7, .int a, .int b] M Q := by
  have ga := zrg a
  have gb := zrg b
  refine zs_in (by decide) mf211 (Nat.le_of_ble_eq_true rfl) ?_
  show zGo X l 1 0 0 211 0 [(0, .ref 7), (1, .int a), (2, .int b)] [] M _
  refine zs_iconst (pc := 0) t211_0 (v := 0) (by decide) ?_
  refine zs_istore_n (pc := 1) t211_1 (ls' := [(3, .int (0 : Int32)), (0, .ref 7), (1, .int a), (2, .int b)]) (zml mf211 (by decide)) rfl ?_
  refine zs_iconst (pc := 2) t211_2 (v := 0) (by decide) ?_
  refine zs_istore (pc := 3) t211_3 (ls' := [(4, .int (0 : Int32)), (3, .int (0 : Int32)), (0, .ref 7), (1, .int a), (2, .int b)]) (zml mf211 (by decide)) rfl ?_
  have w1L : ∀ (m : Nat) (w1x3 : Int32) (w1x4 : Int32), (0 ≤ w1x4.toInt ∧ w1x4.toInt ≤ 60) → 60 - w1x4.toInt ≤ (m : Int) → zGo X l 1 0 0 211 5 [(0, .ref 7), (1, .int a), (2, .int b), (3, .int w1x3), (4, .int w1x4)] [] M Q := by
    intro m
    induction m using Nat.strongRecOn with
    | ind w1m w1ih =>
      intro w1x3 w1x4 w1b4 w1q
      have w1g3 := zrg w1x3
      refine zs_iload (pc := 5) t211_5 rfl ?_
      refine zs_aload_n (pc := 7) t211_7 rfl ?_
      have w2 := ib7_3 hI
      refine zs_get (pc := 8) t211_8 (by decide) (zk1 (hs.k fk_zMc_7)) (zfvi rfl rfl) ?_
      by_cases w3 : (zI M 7 3).toInt ≤ w1x4.toInt
      · refine zs_icmp_geT (pc := 11) t211_11 rfl rfl (by omega) ?_
        refine zs_iload_n (pc := 53) t211_53 rfl ?_
        exact zs_iret (pc := 54) t211_54 mr211 rfl (hQ _ (zrg _).1 (zrg _).2)
      · refine zs_icmp_geF (pc := 11) t211_11 rfl rfl (by omega) ?_
        refine zs_aload_n (pc := 14) t211_14 rfl ?_
        refine zs_get (pc := 15) t211_15 (by decide) (zk1 (hs.k fk_zMc_7)) (hs.p rfl fv_zMc_7_2) ?_
        refine zs_aload_n (pc := 18) t211_18 rfl ?_
        refine zs_get (pc := 19) t211_19 (by decide) (zk1 (hs.k fk_zMc_7)) (hs.p rfl fv_zMc_7_4) ?_
        refine zs_iload (pc := 22) t211_22 rfl ?_
        obtain ⟨w4n, w4⟩ : ∃ n : Nat, w1x4.toInt = (n : Int) := ⟨w1x4.toInt.toNat, by omega⟩
        have w5 := ib10 hI w4n
        refine zs_iald (pc := 24) t211_24 (j := w4n) (by decide) (zk1 (hs.k fk_zMc_10)) w4 (zk2 (hs.k fk_zMc_10) (by omega)) rfl ?_
        obtain ⟨w6n, w6⟩ : ∃ n : Nat, (zI M 10 w4n).toInt = (n : Int) := ⟨(zI M 10 w4n).toInt.toNat, by omega⟩
        have w7 := ib9 hI w6n
        refine zs_bald (pc := 25) t211_25 (j := w6n) (Or.inr (zk1 (hs.k fk_zMc_9))) w6 (zk2 (hs.k fk_zMc_9) (by omega)) rfl ?_
        by_cases w8 : (zI M 9 w6n).toInt = 0
        · refine zs_if_eqT (pc := 26) t211_26 rfl (by omega) ?_
          obtain ⟨w9v, w9e, w9⟩ := ziadd (a := w1x4) (b := Int32.ofInt 1) rfl (show (Int32.ofInt 1).toInt = 1 by decide) (by omega) (by omega)
          refine zs_iinc (pc := 47) t211_47 (ls' := [(4, .int w9v), (0, .ref 7), (1, .int a), (2, .int b), (3, .int w1x3)]) (zml mf211 (by decide)) rfl (c := w9v) w9e rfl ?_
          refine zs_goto (pc := 50) t211_50 ?_
          refine zGo.locals (ls' := [(0, .ref 7), (1, .int a), (2, .int b), (3, .int w1x3), (4, .int w9v)]) (by simp) ?_
          exact w1ih (w1m - 1) (by omega) w1x3 w9v ⟨by omega, by omega⟩ (by omega)
        · refine zs_if_eqF (pc := 26) t211_26 rfl (by omega) ?_
          refine zs_aload_n (pc := 29) t211_29 rfl ?_
          refine zs_get (pc := 30) t211_30 (by decide) (zk1 (hs.k fk_zMc_7)) (hs.p rfl fv_zMc_7_6) ?_
          refine zs_iload (pc := 33) t211_33 rfl ?_
          have w10 := ib12 hI w4n
          refine zs_iald (pc := 35) t211_35 (j := w4n) (by decide) (zk1 (hs.k fk_zMc_12)) w4 (zk2 (hs.k fk_zMc_12) (by omega)) rfl ?_
          refine zs_iload_n (pc := 36) t211_36 rfl ?_
          refine zs_iload_n (pc := 37) t211_37 rfl ?_
          refine zs_invS (pc := 38) (as := [.int (zI M 12 w4n), .int a, .int b]) (st := []) t211_38 (by decide) mf39 rfl rfl ⟨by decide, by decide, Nat.le_of_ble_eq_true rfl, Nat.le_of_ble_eq_true rfl⟩ (zs_in (by decide) mf39 (Nat.le_of_ble_eq_true rfl) ?_) (fun _ _ q => q)
          show zGo X l 0 0 0 39 0 [(0, .int (zI M 12 w4n)), (1, .int a), (2, .int b)] [] M _
          refine zs_iload_n (pc := 0) t39_0 rfl ?_
          refine zs_iload_n (pc := 1) t39_1 rfl ?_
          by_cases w11 : (zI M 12 w4n).toInt < a.toInt
          · refine zs_icmp_ltT (pc := 2) t39_2 rfl rfl (by omega) ?_
            refine zs_iconst (pc := 14) t39_14 (v := 0) (by decide) ?_
            refine zs_iret (pc := 15) t39_15 mr39 (by decide) ?_
            show zGo X l 1 0 0 211 41 [(0, .ref 7), (1, .int a), (2, .int b), (3, .int w1x3), (4, .int w1x4)] [.int (0 : Int32)] M _
            refine zs_if_eqT (pc := 41) t211_41 li0 (by decide) ?_
            obtain ⟨w12v, w12e, w12⟩ := ziadd (a := w1x4) (b := Int32.ofInt 1) rfl (show (Int32.ofInt 1).toInt = 1 by decide) (by omega) (by omega)
            refine zs_iinc (pc := 47) t211_47 (ls' := [(4, .int w12v), (0, .ref 7), (1, .int a), (2, .int b), (3, .int w1x3)]) (zml mf211 (by decide)) rfl (c := w12v) w12e rfl ?_
            refine zs_goto (pc := 50) t211_50 ?_
            refine zGo.locals (ls' := [(0, .ref 7), (1, .int a), (2, .int b), (3, .int w1x3), (4, .int w12v)]) (by simp) ?_
            exact w1ih (w1m - 1) (by omega) w1x3 w12v ⟨by omega, by omega⟩ (by omega)
          · refine zs_icmp_ltF (pc := 2) t39_2 rfl rfl (by omega) ?_
            refine zs_iload_n (pc := 5) t39_5 rfl ?_
            refine zs_iload_n (pc := 6) t39_6 rfl ?_
            by_cases w13 : b.toInt < (zI M 12 w4n).toInt
            · refine zs_icmp_gtT (pc := 7) t39_7 rfl rfl (by omega) ?_
              refine zs_iconst (pc := 14) t39_14 (v := 0) (by decide) ?_
              refine zs_iret (pc := 15) t39_15 mr39 (by decide) ?_
              show zGo X l 1 0 0 211 41 [(0, .ref 7), (1, .int a), (2, .int b), (3, .int w1x3), (4, .int w1x4)] [.int (0 : Int32)] M _
              refine zs_if_eqT (pc := 41) t211_41 li0 (by decide) ?_
              obtain ⟨w14v, w14e, w14⟩ := ziadd (a := w1x4) (b := Int32.ofInt 1) rfl (show (Int32.ofInt 1).toInt = 1 by decide) (by omega) (by omega)
              refine zs_iinc (pc := 47) t211_47 (ls' := [(4, .int w14v), (0, .ref 7), (1, .int a), (2, .int b), (3, .int w1x3)]) (zml mf211 (by decide)) rfl (c := w14v) w14e rfl ?_
              refine zs_goto (pc := 50) t211_50 ?_
              refine zGo.locals (ls' := [(0, .ref 7), (1, .int a), (2, .int b), (3, .int w1x3), (4, .int w14v)]) (by simp) ?_
              exact w1ih (w1m - 1) (by omega) w1x3 w14v ⟨by omega, by omega⟩ (by omega)
            · refine zs_icmp_gtF (pc := 7) t39_7 rfl rfl (by omega) ?_
              refine zs_iconst (pc := 10) t39_10 (v := 1) (by decide) ?_
              refine zs_goto (pc := 11) t39_11 ?_
              refine zs_iret (pc := 15) t39_15 mr39 (by decide) ?_
              show zGo X l 1 0 0 211 41 [(0, .ref 7), (1, .int a), (2, .int b), (3, .int w1x3), (4, .int w1x4)] [.int (1 : Int32)] M _
              refine zs_if_eqF (pc := 41) t211_41 li1 (by decide) ?_
              obtain ⟨w15v, w15e⟩ : ∃ v, w1x3 + Int32.ofInt 1 = v := ⟨_, rfl⟩
              have w15 := zrg w15v
              refine zs_iinc (pc := 44) t211_44 (ls' := [(3, .int w15v), (0, .ref 7), (1, .int a), (2, .int b), (4, .int w1x4)]) (zml mf211 (by decide)) rfl (c := w15v) w15e rfl ?_
              obtain ⟨w16v, w16e, w16⟩ := ziadd (a := w1x4) (b := Int32.ofInt 1) rfl (show (Int32.ofInt 1).toInt = 1 by decide) (by omega) (by omega)
              refine zs_iinc (pc := 47) t211_47 (ls' := [(4, .int w16v), (3, .int w15v), (0, .ref 7), (1, .int a), (2, .int b)]) (zml mf211 (by decide)) rfl (c := w16v) w16e rfl ?_
              refine zs_goto (pc := 50) t211_50 ?_
              refine zGo.locals (ls' := [(0, .ref 7), (1, .int a), (2, .int b), (3, .int w15v), (4, .int w16v)]) (by simp) ?_
              exact w1ih (w1m - 1) (by omega) w15v w16v ⟨by omega, by omega⟩ (by omega)
  refine zGo.locals (ls' := [(0, .ref 7), (1, .int a), (2, .int b), (3, .int (0 : Int32)), (4, .int (0 : Int32))]) (by simp) ?_
  have w17 := li0
  have w18 := li0
  exact w1L ((60 - 0 : Int).toNat) (0 : Int32) (0 : Int32) ⟨by decide, by decide⟩ (by omega)
theorem C185_7 {X : zX} {l : Launch} {M : zM} {Q : Option Value → zM → Prop} {a : Int32} (hs : zSk zMc M) (hI : zIv cLo cHi M) (ha : 0 ≤ a.toInt ∧ a.toInt ≤ 65535) (hQ : ∀ v : Int32, 0 ≤ v.toInt → v.toInt ≤ 1 → Q (some (.int v)) M) : zCall X l 0 0 0 185 [.ref 7, .int a] M Q := by
  have ga := zrg a
  refine zs_in (by decide) mf185 (Nat.le_of_ble_eq_true rfl) ?_
  show zGo X l 0 0 0 185 0 [(0, .ref 7), (1, .int a)] [] M _
  refine zs_iconst (pc := 0) t185_0 (v := 0) (by decide) ?_
  refine zs_istore_n (pc := 1) t185_1 (ls' := [(2, .int (0 : Int32)), (0, .ref 7), (1, .int a)]) (zml mf185 (by decide)) rfl ?_
  have w1L : ∀ (m : Nat) (w1x2 : Int32), (0 ≤ w1x2.toInt ∧ w1x2.toInt ≤ 500) → 500 - w1x2.toInt ≤ (m : Int) → zGo X l 0 0 0 185 2 [(0, .ref 7), (1, .int a), (2, .int w1x2)] [] M Q := by
    intro m
    induction m using Nat.strongRecOn with
    | ind w1m w1ih =>
      intro w1x2 w1b2 w1q
      refine zs_iload_n (pc := 2) t185_2 rfl ?_
      refine zs_aload_n (pc := 3) t185_3 rfl ?_
      have w2 := ib7_13 hI
      refine zs_get (pc := 4) t185_4 (by decide) (zk1 (hs.k fk_zMc_7)) (zfvi rfl rfl) ?_
      by_cases w3 : (zI M 7 13).toInt ≤ w1x2.toInt
      · refine zs_icmp_geT (pc := 7) t185_7 rfl rfl (by omega) ?_
        refine zs_iconst (pc := 28) t185_28 (v := 0) (by decide) ?_
        exact zs_iret (pc := 29) t185_29 mr185 (by decide) (hQ _ (by decide) (by decide))
      · refine zs_icmp_geF (pc := 7) t185_7 rfl rfl (by omega) ?_
        refine zs_aload_n (pc := 10) t185_10 rfl ?_
        refine zs_get (pc := 11) t185_11 (by decide) (zk1 (hs.k fk_zMc_7)) (hs.p rfl fv_zMc_7_14) ?_
        refine zs_iload_n (pc := 14) t185_14 rfl ?_
        obtain ⟨w4n, w4⟩ : ∃ n : Nat, w1x2.toInt = (n : Int) := ⟨w1x2.toInt.toNat, by omega⟩
        have w5 := ib18 hI w4n
        refine zs_bald (pc := 15) t185_15 (j := w4n) (Or.inl (zk1 (hs.k fk_zMc_18))) w4 (zk2 (hs.k fk_zMc_18) (by omega)) rfl ?_
        refine zs_iload_n (pc := 16) t185_16 rfl ?_
        by_cases w6 : (zI M 18 w4n).toInt ≠ a.toInt
        · refine zs_icmp_neT (pc := 17) t185_17 rfl rfl (by omega) ?_
          obtain ⟨w7v, w7e, w7⟩ := ziadd (a := w1x2) (b := Int32.ofInt 1) rfl (show (Int32.ofInt 1).toInt = 1 by decide) (by omega) (by omega)
          refine zs_iinc (pc := 22) t185_22 (ls' := [(2, .int w7v), (0, .ref 7), (1, .int a)]) (zml mf185 (by decide)) rfl (c := w7v) w7e rfl ?_
          refine zs_goto (pc := 25) t185_25 ?_
          refine zGo.locals (ls' := [(0, .ref 7), (1, .int a), (2, .int w7v)]) (by simp) ?_
          exact w1ih (w1m - 1) (by omega) w7v ⟨by omega, by omega⟩ (by omega)
        · refine zs_icmp_neF (pc := 17) t185_17 rfl rfl (by omega) ?_
          refine zs_iconst (pc := 20) t185_20 (v := 1) (by decide) ?_
          exact zs_iret (pc := 21) t185_21 mr185 (by decide) (hQ _ (by decide) (by decide))
  refine zGo.locals (ls' := [(0, .ref 7), (1, .int a), (2, .int (0 : Int32))]) (by simp) ?_
  have w8 := li0
  exact w1L ((500 - 0 : Int).toNat) (0 : Int32) ⟨by decide, by decide⟩ (by omega)
