theorem C128_7 {X : zX} {l : Launch} {M : zM} {Q : Option Value → zM → Prop} {a : Int32} (hs : zSk zMc M) (hI : zIv cLo cHi M) (hQ : ∀ v : Int32, (-2147483648) ≤ v.toInt → v.toInt ≤ 2147483647 → Q (some (.int v)) M) : zCall X l 2 0 0 128 [.ref 7, .int a] M Q := by
  have ga := zrg a
  refine zs_in (by decide) mf128 (Nat.le_of_ble_eq_true rfl) ?_
  show zGo X l 2 0 0 128 0 [(0, .ref 7), (1, .int a)] [] M _
  refine zs_iconst (pc := 0) t128_0 (v := 0) (by decide) ?_
  refine zs_istore_n (pc := 1) t128_1 (ls' := [(2, .int (0 : Int32)), (0, .ref 7), (1, .int a)]) (zml mf128 (by decide)) rfl ?_
  refine zs_iconst (pc := 2) t128_2 (v := 0) (by decide) ?_
  refine zs_istore_n (pc := 3) t128_3 (ls' := [(3, .int (0 : Int32)), (2, .int (0 : Int32)), (0, .ref 7), (1, .int a)]) (zml mf128 (by decide)) rfl ?_
  have w1L : ∀ (m : Nat) (w1x2 : Int32) (w1x3 : Int32), (0 ≤ w1x3.toInt ∧ w1x3.toInt ≤ 60) → 60 - w1x3.toInt ≤ (m : Int) → zGo X l 2 0 0 128 4 [(0, .ref 7), (1, .int a), (2, .int w1x2), (3, .int w1x3)] [] M Q := by
    intro m
    induction m using Nat.strongRecOn with
    | ind w1m w1ih =>
      intro w1x2 w1x3 w1b3 w1q
      have w1g2 := zrg w1x2
      refine zs_iload_n (pc := 4) t128_4 rfl ?_
      refine zs_aload_n (pc := 5) t128_5 rfl ?_
      have w2 := ib7_3 hI
      refine zs_get (pc := 6) t128_6 (by decide) (zk1 (hs.k fk_zMc_7)) (zfvi rfl rfl) ?_
      by_cases w3 : (zI M 7 3).toInt ≤ w1x3.toInt
      · refine zs_icmp_geT (pc := 9) t128_9 rfl rfl (by omega) ?_
        refine zs_iload_n (pc := 39) t128_39 rfl ?_
        exact zs_iret (pc := 40) t128_40 mr128 rfl (hQ _ (zrg _).1 (zrg _).2)
      · refine zs_icmp_geF (pc := 9) t128_9 rfl rfl (by omega) ?_
        refine zs_aload_n (pc := 12) t128_12 rfl ?_
        refine zs_get (pc := 13) t128_13 (by decide) (zk1 (hs.k fk_zMc_7)) (hs.p rfl fv_zMc_7_7) ?_
        refine zs_iload_n (pc := 16) t128_16 rfl ?_
        obtain ⟨w4n, w4⟩ : ∃ n : Nat, w1x3.toInt = (n : Int) := ⟨w1x3.toInt.toNat, by omega⟩
        have w5 := ib13 hI w4n
        refine zs_iald (pc := 17) t128_17 (j := w4n) (by decide) (zk1 (hs.k fk_zMc_13)) w4 (zk2 (hs.k fk_zMc_13) (by omega)) rfl ?_
        refine zs_iload_n (pc := 18) t128_18 rfl ?_
        by_cases w6 : (zI M 13 w4n).toInt ≠ a.toInt
        · refine zs_icmp_neT (pc := 19) t128_19 rfl rfl (by omega) ?_
          obtain ⟨w7v, w7e, w7⟩ := ziadd (a := w1x3) (b := Int32.ofInt 1) rfl (show (Int32.ofInt 1).toInt = 1 by decide) (by omega) (by omega)
          refine zs_iinc (pc := 33) t128_33 (ls' := [(3, .int w7v), (0, .ref 7), (1, .int a), (2, .int w1x2)]) (zml mf128 (by decide)) rfl (c := w7v) w7e rfl ?_
          refine zs_goto (pc := 36) t128_36 ?_
          refine zGo.locals (ls' := [(0, .ref 7), (1, .int a), (2, .int w1x2), (3, .int w7v)]) (by simp) ?_
          exact w1ih (w1m - 1) (by omega) w1x2 w7v ⟨by omega, by omega⟩ (by omega)
        · refine zs_icmp_neF (pc := 19) t128_19 rfl rfl (by omega) ?_
          refine zs_aload_n (pc := 22) t128_22 rfl ?_
          refine zs_iload_n (pc := 23) t128_23 rfl ?_
          refine zs_invV (pc := 24) (k := 7) (as' := [.int w1x3]) (st := []) t128_24 mf93 rfl rfl (Or.inl ⟨by decide, (zk1 (hs.k fk_zMc_7))⟩) ⟨by decide, by decide, Nat.le_of_ble_eq_true rfl, Nat.le_of_ble_eq_true rfl⟩ (zs_in (by decide) mf93 (Nat.le_of_ble_eq_true rfl) ?_) (fun _ _ q => q)
          show zGo X l 1 0 0 93 0 [(0, .ref 7), (1, .int w1x3)] [] M _
          refine zs_aload_n (pc := 0) t93_0 rfl ?_
          refine zs_iload_n (pc := 1) t93_1 rfl ?_
          refine zs_invV (pc := 2) (k := 7) (as' := [.int w1x3]) (st := []) t93_2 mf91 rfl rfl (Or.inl ⟨by decide, (zk1 (hs.k fk_zMc_7))⟩) ⟨by decide, by decide, Nat.le_of_ble_eq_true rfl, Nat.le_of_ble_eq_true rfl⟩ (zs_in (by decide) mf91 (Nat.le_of_ble_eq_true rfl) ?_) (fun _ _ q => q)
          show zGo X l 0 0 0 91 0 [(0, .ref 7), (1, .int w1x3)] [] M _
          refine zs_iload_n (pc := 0) t91_0 rfl ?_
          refine zs_if_ltF (pc := 1) t91_1 rfl (by omega) ?_
          refine zs_iload_n (pc := 4) t91_4 rfl ?_
          refine zs_aload_n (pc := 5) t91_5 rfl ?_
          refine zs_get (pc := 6) t91_6 (by decide) (zk1 (hs.k fk_zMc_7)) (zfvi rfl rfl) ?_
          by_cases w8 : (zI M 7 3).toInt ≤ w1x3.toInt
          · refine zs_icmp_geT (pc := 9) t91_9 rfl rfl (by omega) ?_
            refine zs_iconst (pc := 16) t91_16 (v := 0) (by decide) ?_
            refine zs_iret (pc := 17) t91_17 mr91 (by decide) ?_
            show zGo X l 1 0 0 93 5 [(0, .ref 7), (1, .int w1x3)] [.int (0 : Int32)] M _
            refine zs_if_eqT (pc := 5) t93_5 li0 (by decide) ?_
            refine zs_iconst (pc := 51) t93_51 (v := 0) (by decide) ?_
            refine zs_iret (pc := 52) t93_52 mr93 (by decide) ?_
            show zGo X l 2 0 0 128 27 [(0, .ref 7), (1, .int a), (2, .int w1x2), (3, .int w1x3)] [.int (0 : Int32)] M _
            refine zs_if_eqT (pc := 27) t128_27 li0 (by decide) ?_
            obtain ⟨w9v, w9e, w9⟩ := ziadd (a := w1x3) (b := Int32.ofInt 1) rfl (show (Int32.ofInt 1).toInt = 1 by decide) (by omega) (by omega)
            refine zs_iinc (pc := 33) t128_33 (ls' := [(3, .int w9v), (0, .ref 7), (1, .int a), (2, .int w1x2)]) (zml mf128 (by decide)) rfl (c := w9v) w9e rfl ?_
            refine zs_goto (pc := 36) t128_36 ?_
            refine zGo.locals (ls' := [(0, .ref 7), (1, .int a), (2, .int w1x2), (3, .int w9v)]) (by simp) ?_
            exact w1ih (w1m - 1) (by omega) w1x2 w9v ⟨by omega, by omega⟩ (by omega)
          · refine zs_icmp_geF (pc := 9) t91_9 rfl rfl (by omega) ?_
            refine zs_iconst (pc := 12) t91_12 (v := 1) (by decide) ?_
            refine zs_goto (pc := 13) t91_13 ?_
            refine zs_iret (pc := 17) t91_17 mr91 (by decide) ?_
            show zGo X l 1 0 0 93 5 [(0, .ref 7), (1, .int w1x3)] [.int (1 : Int32)] M _
            refine zs_if_eqF (pc := 5) t93_5 li1 (by decide) ?_
            refine zs_aload_n (pc := 8) t93_8 rfl ?_
            refine zs_get (pc := 9) t93_9 (by decide) (zk1 (hs.k fk_zMc_7)) (hs.p rfl fv_zMc_7_2) ?_
            refine zs_aload_n (pc := 12) t93_12 rfl ?_
            refine zs_get (pc := 13) t93_13 (by decide) (zk1 (hs.k fk_zMc_7)) (hs.p rfl fv_zMc_7_4) ?_
            refine zs_iload_n (pc := 16) t93_16 rfl ?_
            have w10 := ib10 hI w4n
            refine zs_iald (pc := 17) t93_17 (j := w4n) (by decide) (zk1 (hs.k fk_zMc_10)) w4 (zk2 (hs.k fk_zMc_10) (by omega)) rfl ?_
            obtain ⟨w11n, w11⟩ : ∃ n : Nat, (zI M 10 w4n).toInt = (n : Int) := ⟨(zI M 10 w4n).toInt.toNat, by omega⟩
            have w12 := ib9 hI w11n
            refine zs_bald (pc := 18) t93_18 (j := w11n) (Or.inr (zk1 (hs.k fk_zMc_9))) w11 (zk2 (hs.k fk_zMc_9) (by omega)) rfl ?_
            by_cases w13 : (zI M 9 w11n).toInt = 0
            · refine zs_if_eqT (pc := 19) t93_19 rfl (by omega) ?_
              refine zs_iconst (pc := 51) t93_51 (v := 0) (by decide) ?_
              refine zs_iret (pc := 52) t93_52 mr93 (by decide) ?_
              show zGo X l 2 0 0 128 27 [(0, .ref 7), (1, .int a), (2, .int w1x2), (3, .int w1x3)] [.int (0 : Int32)] M _
              refine zs_if_eqT (pc := 27) t128_27 li0 (by decide) ?_
              obtain ⟨w14v, w14e, w14⟩ := ziadd (a := w1x3) (b := Int32.ofInt 1) rfl (show (Int32.ofInt 1).toInt = 1 by decide) (by omega) (by omega)
              refine zs_iinc (pc := 33) t128_33 (ls' := [(3, .int w14v), (0, .ref 7), (1, .int a), (2, .int w1x2)]) (zml mf128 (by decide)) rfl (c := w14v) w14e rfl ?_
              refine zs_goto (pc := 36) t128_36 ?_
              refine zGo.locals (ls' := [(0, .ref 7), (1, .int a), (2, .int w1x2), (3, .int w14v)]) (by simp) ?_
              exact w1ih (w1m - 1) (by omega) w1x2 w14v ⟨by omega, by omega⟩ (by omega)
            · refine zs_if_eqF (pc := 19) t93_19 rfl (by omega) ?_
              refine zs_aload_n (pc := 22) t93_22 rfl ?_
              refine zs_get (pc := 23) t93_23 (by decide) (zk1 (hs.k fk_zMc_7)) (hs.p rfl fv_zMc_7_6) ?_
              refine zs_iload_n (pc := 26) t93_26 rfl ?_
              have w15 := ib12 hI w4n
              refine zs_iald (pc := 27) t93_27 (j := w4n) (by decide) (zk1 (hs.k fk_zMc_12)) w4 (zk2 (hs.k fk_zMc_12) (by omega)) rfl ?_
              refine zs_aload_n (pc := 28) t93_28 rfl ?_
              refine zs_get (pc := 29) t93_29 (by decide) (zk1 (hs.k fk_zMc_7)) (hs.p rfl fv_zMc_7_12) ?_
              refine zs_iconst (pc := 32) t93_32 (v := 5) (by decide) ?_
              have w16 := ib17 hI 5
              refine zs_iald (pc := 33) t93_33 (j := 5) (by decide) (zk1 (hs.k fk_zMc_17)) li5 (zk2 (hs.k fk_zMc_17) (by decide)) rfl ?_
              refine zs_aload_n (pc := 34) t93_34 rfl ?_
              refine zs_get (pc := 35) t93_35 (by decide) (zk1 (hs.k fk_zMc_7)) (hs.p rfl fv_zMc_7_12) ?_
              refine zs_bipush (pc := 38) t93_38 (v := 6) (by decide) ?_
              have w17 := ib17 hI 6
              refine zs_iald (pc := 40) t93_40 (j := 6) (by decide) (zk1 (hs.k fk_zMc_17)) li6 (zk2 (hs.k fk_zMc_17) (by decide)) rfl ?_
              refine zs_invS (pc := 41) (as := [.int (zI M 12 w4n), .int (zI M 17 5), .int (zI M 17 6)]) (st := []) t93_41 (by decide) mf39 rfl rfl ⟨by decide, by decide, Nat.le_of_ble_eq_true rfl, Nat.le_of_ble_eq_true rfl⟩ (zs_in (by decide) mf39 (Nat.le_of_ble_eq_true rfl) ?_) (fun _ _ q => q)
              show zGo X l 0 0 0 39 0 [(0, .int (zI M 12 w4n)), (1, .int (zI M 17 5)), (2, .int (zI M 17 6))] [] M _
              refine zs_iload_n (pc := 0) t39_0 rfl ?_
              refine zs_iload_n (pc := 1) t39_1 rfl ?_
              by_cases w18 : (zI M 12 w4n).toInt < (zI M 17 5).toInt
              · refine zs_icmp_ltT (pc := 2) t39_2 rfl rfl (by omega) ?_
                refine zs_iconst (pc := 14) t39_14 (v := 0) (by decide) ?_
                refine zs_iret (pc := 15) t39_15 mr39 (by decide) ?_
                show zGo X l 1 0 0 93 44 [(0, .ref 7), (1, .int w1x3)] [.int (0 : Int32)] M _
                refine zs_if_eqT (pc := 44) t93_44 li0 (by decide) ?_
                refine zs_iconst (pc := 51) t93_51 (v := 0) (by decide) ?_
                refine zs_iret (pc := 52) t93_52 mr93 (by decide) ?_
                show zGo X l 2 0 0 128 27 [(0, .ref 7), (1, .int a), (2, .int w1x2), (3, .int w1x3)] [.int (0 : Int32)] M _
                refine zs_if_eqT (pc := 27) t128_27 li0 (by decide) ?_
                obtain ⟨w19v, w19e, w19⟩ := ziadd (a := w1x3) (b := Int32.ofInt 1) rfl (show (Int32.ofInt 1).toInt = 1 by decide) (by omega) (by omega)
                refine zs_iinc (pc := 33) t128_33 (ls' := [(3, .int w19v), (0, .ref 7), (1, .int a), (2, .int w1x2)]) (zml mf128 (by decide)) rfl (c := w19v) w19e rfl ?_
                refine zs_goto (pc := 36) t128_36 ?_
                refine zGo.locals (ls' := [(0, .ref 7), (1, .int a), (2, .int w1x2), (3, .int w19v)]) (by simp) ?_
                exact w1ih (w1m - 1) (by omega) w1x2 w19v ⟨by omega, by omega⟩ (by omega)
              · refine zs_icmp_ltF (pc := 2) t39_2 rfl rfl (by omega) ?_
                refine zs_iload_n (pc := 5) t39_5 rfl ?_
                refine zs_iload_n (pc := 6) t39_6 rfl ?_
                by_cases w20 : (zI M 17 6).toInt < (zI M 12 w4n).toInt
                · refine zs_icmp_gtT (pc := 7) t39_7 rfl rfl (by omega) ?_
                  refine zs_iconst (pc := 14) t39_14 (v := 0) (by decide) ?_
                  refine zs_iret (pc := 15) t39_15 mr39 (by decide) ?_
                  show zGo X l 1 0 0 93 44 [(0, .ref 7), (1, .int w1x3)] [.int (0 : Int32)] M _
                  refine zs_if_eqT (pc := 44) t93_44 li0 (by decide) ?_
                  refine zs_iconst (pc := 51) t93_51 (v := 0) (by decide) ?_
                  refine zs_iret (pc := 52) t93_52 mr93 (by decide) ?_
                  show zGo X l 2 0 0 128 27 [(0, .ref 7), (1, .int a), (2, .int w1x2), (3, .int w1x3)] [.int (0 : Int32)] M _
                  refine zs_if_eqT (pc := 27) t128_27 li0 (by decide) ?_
                  obtain ⟨w21v, w21e, w21⟩ := ziadd (a := w1x3) (b := Int32.ofInt 1) rfl (show (Int32.ofInt 1).toInt = 1 by decide) (by omega) (by omega)
                  refine zs_iinc (pc := 33) t128_33 (ls' := [(3, .int w21v), (0, .ref 7), (1, .int a), (2, .int w1x2)]) (zml mf128 (by decide)) rfl (c := w21v) w21e rfl ?_
                  refine zs_goto (pc := 36) t128_36 ?_
                  refine zGo.locals (ls' := [(0, .ref 7), (1, .int a), (2, .int w1x2), (3, .int w21v)]) (by simp) ?_
                  exact w1ih (w1m - 1) (by omega) w1x2 w21v ⟨by omega, by omega⟩ (by omega)
                · refine zs_icmp_gtF (pc := 7) t39_7 rfl rfl (by omega) ?_
                  refine zs_iconst (pc := 10) t39_10 (v := 1) (by decide) ?_
                  refine zs_goto (pc := 11) t39_11 ?_
                  refine zs_iret (pc := 15) t39_15 mr39 (by decide) ?_
                  show zGo X l 1 0 0 93 44 [(0, .ref 7), (1, .int w1x3)] [.int (1 : Int32)] M _
                  refine zs_if_eqF (pc := 44) t93_44 li1 (by decide) ?_
                  refine zs_iconst (pc := 47) t93_47 (v := 1) (by decide) ?_
                  refine zs_goto (pc := 48) t93_48 ?_
                  refine zs_iret (pc := 52) t93_52 mr93 (by decide) ?_
                  show zGo X l 2 0 0 128 27 [(0, .ref 7), (1, .int a), (2, .int w1x2), (3, .int w1x3)] [.int (1 : Int32)] M _
                  refine zs_if_eqF (pc := 27) t128_27 li1 (by decide) ?_
                  obtain ⟨w22v, w22e⟩ : ∃ v, w1x2 + Int32.ofInt 1 = v := ⟨_, rfl⟩
                  have w22 := zrg w22v
                  refine zs_iinc (pc := 30) t128_30 (ls' := [(2, .int w22v), (0, .ref 7), (1, .int a), (3, .int w1x3)]) (zml mf128 (by decide)) rfl (c := w22v) w22e rfl ?_
                  obtain ⟨w23v, w23e, w23⟩ := ziadd (a := w1x3) (b := Int32.ofInt 1) rfl (show (Int32.ofInt 1).toInt = 1 by decide) (by omega) (by omega)
                  refine zs_iinc (pc := 33) t128_33 (ls' := [(3, .int w23v), (2, .int w22v), (0, .ref 7), (1, .int a)]) (zml mf128 (by decide)) rfl (c := w23v) w23e rfl ?_
                  refine zs_goto (pc := 36) t128_36 ?_
                  refine zGo.locals (ls' := [(0, .ref 7), (1, .int a), (2, .int w22v), (3, .int w23v)]) (by simp) ?_
                  exact w1ih (w1m - 1) (by omega) w22v w23v ⟨by omega, by omega⟩ (by omega)
  refine zGo.locals (ls' := [(0, .ref 7), (1, .int a), (2, .int (0 : Int32)), (3, .int (0 : Int32))]) (by simp) ?_
  have w24 := li0
  have w25 := li0
  exact w1L ((60 - 0 : Int).toNat) (0 : Int32) (0 : Int32) ⟨by decide, by decide⟩ (by omega)
theorem C185_7 {X : zX} {l : Launch} {M : zM} {Q : Option Value → zM → Prop} {a : Int32} (hs : zSk zMc M) (hI : zIv cLo cHi M) (ha : 0 ≤ a.toInt ∧ a.toInt ≤ 65535) (hQ : ∀ v : Int32, 0 ≤ v.toInt → v.toInt ≤ 1 → Q (some (.int v)) M) : zCall X l 0 0 0 185 [.ref 7, .int a] M Q := by
  have ga := zrg a
  refine zs_in (by decide) mf185 (Nat.le_of_ble_eq_true rfl) ?_
  show zGo X l 0 0 0 185 0 [(0, .ref 7), (1, .int a)] [] M _
  refine zs_iconst (pc := 0) t185_0 (v := 0) (by decide) ?_
  refine zs_istore_n (pc := 1) t185_1 (ls' := [(2, .int (0 : Int32)), (0, .ref 7), (1, .int a)]) (zml mf185 (by decide)) rfl ?_
  have w1L : ∀ (m : Nat) (w1x2 : Int32), (0 ≤ w1x2.toInt ∧ w1x2.toInt ≤ 500) → 500 - w1x2.toInt ≤ (m : Int) → zGo X l 0 0 0 185 2 [(0, .ref 7), (1, .int a), (2, .int w1x2)] [] M Q := by
    intro m
    induction m using Nat.strongRecOn with
    | ind w1m w1ih =>
      intro w1x2 w1b2 w1q
      refine zs_iload_n (pc := 2) t185_2 rfl ?_
      refine zs_aload_n (pc := 3) t185_3 rfl ?_
      have w2 := ib7_13 hI
      refine zs_get (pc := 4) t185_4 (by decide) (zk1 (hs.k fk_zMc_7)) (zfvi rfl rfl) ?_
      by_cases w3 : (zI M 7 13).toInt ≤ w1x2.toInt
      · refine zs_icmp_geT (pc := 7) t185_7 rfl rfl (by omega) ?_
        refine zs_iconst (pc := 28) t185_28 (v := 0) (by decide) ?_
        exact zs_iret (pc := 29) t185_29 mr185 (by decide) (hQ _ (by decide) (by decide))
      · refine zs_icmp_geF (pc := 7) t185_7 rfl rfl (by omega) ?_
        refine zs_aload_n (pc := 10) t185_10 rfl ?_
        refine zs_get (pc := 11) t185_11 (by decide) (zk1 (hs.k fk_zMc_7)) (hs.p rfl fv_zMc_7_14) ?_
        refine zs_iload_n (pc := 14) t185_14 rfl ?_
        obtain ⟨w4n, w4⟩ : ∃ n : Nat, w1x2.toInt = (n : Int) := ⟨w1x2.toInt.toNat, by omega⟩
        have w5 := ib18 hI w4n
        refine zs_bald (pc := 15) t185_15 (j := w4n) (Or.inl (zk1 (hs.k fk_zMc_18))) w4 (zk2 (hs.k fk_zMc_18) (by omega)) rfl ?_
        refine zs_iload_n (pc := 16) t185_16 rfl ?_
        by_cases w6 : (zI M 18 w4n).toInt ≠ a.toInt
        · refine zs_icmp_neT (pc := 17) t185_17 rfl rfl (by omega) ?_
          obtain ⟨w7v, w7e, w7⟩ := ziadd (a := w1x2) (b := Int32.ofInt 1) rfl (show (Int32.ofInt 1).toInt = 1 by decide) (by omega) (by omega)
          refine zs_iinc (pc := 22) t185_22 (ls' := [(2, .int w7v), (0, .ref 7), (1, .int a)]) (zml mf185 (by decide)) rfl (c := w7v) w7e rfl ?_
          refine zs_goto (pc := 25) t185_25 ?_
          refine zGo.locals (ls' := [(0, .ref 7), (1, .int a), (2, .int w7v)]) (by simp) ?_
          exact w1ih (w1m - 1) (by omega) w7v ⟨by omega, by omega⟩ (by omega)
        · refine zs_icmp_neF (pc := 17) t185_17 rfl rfl (by omega) ?_
          refine zs_iconst (pc := 20) t185_20 (v := 1) (by decide) ?_
          exact zs_iret (pc := 21) t185_21 mr185 (by decide) (hQ _ (by decide) (by decide))
  refine zGo.locals (ls' := [(0, .ref 7), (1, .int a), (2, .int (0 : Int32))]) (by simp) ?_
  have w8 := li0
  exact w1L ((500 - 0 : Int).toNat) (0 : Int32) ⟨by decide, by decide⟩ (by omega)
