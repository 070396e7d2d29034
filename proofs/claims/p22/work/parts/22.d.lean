theorem C146_164 {X : zX} {l : Launch} {M : zM} {Q : Option Value → zM → Prop} {a b : Int32} (hs : zSk zMc M) (hI : zIv cLo cHi M) (hQ : ∀ v : Int32, (-2147483648) ≤ v.toInt → v.toInt ≤ 2147483647 → Q (some (.int v)) M) : zCall X l 1 0 0 146 [.ref 164, .int a, .int b] M Q := by
  have ga := zrg a
  have gb := zrg b
  refine zs_in (by decide) mf146 (Nat.le_of_ble_eq_true rfl) ?_
  show zGo X l 1 0 0 146 0 [(0, .ref 164), (1, .int a), (2, .int b)] [] M _
  refine zs_iload_n (pc := 0) t146_0 rfl ?_
  refine zs_iconst (pc := 1) t146_1 (v := 0) (by decide) ?_
  refine zs_bipush (pc := 2) t146_2 (v := 11) (by decide) ?_
  refine zs_invS (pc := 4) (as := [.int a, .int (0 : Int32), .int (11 : Int32)]) (st := []) t146_4 (by decide) mf39 rfl rfl ⟨by decide, by decide, Nat.le_of_ble_eq_true rfl, Nat.le_of_ble_eq_true rfl⟩ (zs_in (by decide) mf39 (Nat.le_of_ble_eq_true rfl) ?_) (fun _ _ q => q)
  show zGo X l 0 0 0 39 0 [(0, .int a), (1, .int (0 : Int32)), (2, .int (11 : Int32))] [] M _
  refine zs_iload_n (pc := 0) t39_0 rfl ?_
  refine zs_iload_n (pc := 1) t39_1 rfl ?_
  by_cases w1 : a.toInt < 0
  · refine zs_icmp_ltT (pc := 2) t39_2 rfl li0 (by omega) ?_
    refine zs_iconst (pc := 14) t39_14 (v := 0) (by decide) ?_
    refine zs_iret (pc := 15) t39_15 mr39 (by decide) ?_
    show zGo X l 1 0 0 146 7 [(0, .ref 164), (1, .int a), (2, .int b)] [.int (0 : Int32)] M _
    refine zs_if_eqT (pc := 7) t146_7 li0 (by decide) ?_
    refine zs_iconst (pc := 34) t146_34 (v := 0) (by decide) ?_
    exact zs_iret (pc := 35) t146_35 mr146 (by decide) (hQ _ (zrg _).1 (zrg _).2)
  · refine zs_icmp_ltF (pc := 2) t39_2 rfl li0 (by omega) ?_
    refine zs_iload_n (pc := 5) t39_5 rfl ?_
    refine zs_iload_n (pc := 6) t39_6 rfl ?_
    by_cases w2 : 11 < a.toInt
    · refine zs_icmp_gtT (pc := 7) t39_7 rfl li11 (by omega) ?_
      refine zs_iconst (pc := 14) t39_14 (v := 0) (by decide) ?_
      refine zs_iret (pc := 15) t39_15 mr39 (by decide) ?_
      show zGo X l 1 0 0 146 7 [(0, .ref 164), (1, .int a), (2, .int b)] [.int (0 : Int32)] M _
      refine zs_if_eqT (pc := 7) t146_7 li0 (by decide) ?_
      refine zs_iconst (pc := 34) t146_34 (v := 0) (by decide) ?_
      exact zs_iret (pc := 35) t146_35 mr146 (by decide) (hQ _ (zrg _).1 (zrg _).2)
    · refine zs_icmp_gtF (pc := 7) t39_7 rfl li11 (by omega) ?_
      refine zs_iconst (pc := 10) t39_10 (v := 1) (by decide) ?_
      refine zs_goto (pc := 11) t39_11 ?_
      refine zs_iret (pc := 15) t39_15 mr39 (by decide) ?_
      show zGo X l 1 0 0 146 7 [(0, .ref 164), (1, .int a), (2, .int b)] [.int (1 : Int32)] M _
      refine zs_if_eqF (pc := 7) t146_7 li1 (by decide) ?_
      refine zs_iload_n (pc := 10) t146_10 rfl ?_
      refine zs_iconst (pc := 11) t146_11 (v := 0) (by decide) ?_
      refine zs_bipush (pc := 12) t146_12 (v := 19) (by decide) ?_
      refine zs_invS (pc := 14) (as := [.int b, .int (0 : Int32), .int (19 : Int32)]) (st := []) t146_14 (by decide) mf39 rfl rfl ⟨by decide, by decide, Nat.le_of_ble_eq_true rfl, Nat.le_of_ble_eq_true rfl⟩ (zs_in (by decide) mf39 (Nat.le_of_ble_eq_true rfl) ?_) (fun _ _ q => q)
      show zGo X l 0 0 0 39 0 [(0, .int b), (1, .int (0 : Int32)), (2, .int (19 : Int32))] [] M _
      refine zs_iload_n (pc := 0) t39_0 rfl ?_
      refine zs_iload_n (pc := 1) t39_1 rfl ?_
      by_cases w3 : b.toInt < 0
      · refine zs_icmp_ltT (pc := 2) t39_2 rfl li0 (by omega) ?_
        refine zs_iconst (pc := 14) t39_14 (v := 0) (by decide) ?_
        refine zs_iret (pc := 15) t39_15 mr39 (by decide) ?_
        show zGo X l 1 0 0 146 17 [(0, .ref 164), (1, .int a), (2, .int b)] [.int (0 : Int32)] M _
        refine zs_if_eqT (pc := 17) t146_17 li0 (by decide) ?_
        refine zs_iconst (pc := 34) t146_34 (v := 0) (by decide) ?_
        exact zs_iret (pc := 35) t146_35 mr146 (by decide) (hQ _ (zrg _).1 (zrg _).2)
      · refine zs_icmp_ltF (pc := 2) t39_2 rfl li0 (by omega) ?_
        refine zs_iload_n (pc := 5) t39_5 rfl ?_
        refine zs_iload_n (pc := 6) t39_6 rfl ?_
        by_cases w4 : 19 < b.toInt
        · refine zs_icmp_gtT (pc := 7) t39_7 rfl li19 (by omega) ?_
          refine zs_iconst (pc := 14) t39_14 (v := 0) (by decide) ?_
          refine zs_iret (pc := 15) t39_15 mr39 (by decide) ?_
          show zGo X l 1 0 0 146 17 [(0, .ref 164), (1, .int a), (2, .int b)] [.int (0 : Int32)] M _
          refine zs_if_eqT (pc := 17) t146_17 li0 (by decide) ?_
          refine zs_iconst (pc := 34) t146_34 (v := 0) (by decide) ?_
          exact zs_iret (pc := 35) t146_35 mr146 (by decide) (hQ _ (zrg _).1 (zrg _).2)
        · refine zs_icmp_gtF (pc := 7) t39_7 rfl li19 (by omega) ?_
          refine zs_iconst (pc := 10) t39_10 (v := 1) (by decide) ?_
          refine zs_goto (pc := 11) t39_11 ?_
          refine zs_iret (pc := 15) t39_15 mr39 (by decide) ?_
          show zGo X l 1 0 0 146 17 [(0, .ref 164), (1, .int a), (2, .int b)] [.int (1 : Int32)] M _
          refine zs_if_eqF (pc := 17) t146_17 li1 (by decide) ?_
          refine zs_aload_n (pc := 20) t146_20 rfl ?_
          refine zs_get (pc := 21) t146_21 (by decide) (zk1 (hs.k fk_zMc_164)) (hs.p rfl fv_zMc_164_8) ?_
          refine zs_iload_n (pc := 24) t146_24 rfl ?_
          refine zs_bipush (pc := 25) t146_25 (v := 20) (by decide) ?_
          obtain ⟨w5v, w5⟩ : ∃ v, a * (20 : Int32) = v := ⟨_, rfl⟩
          have w5g : w5v.toInt = a.toInt * 20 := by rw [← w5]; exact zmulc rfl li20 (by omega) (by omega)
          refine zs_imul (pc := 27) t146_27 (c := w5v) w5 ?_
          refine zs_iload_n (pc := 28) t146_28 rfl ?_
          obtain ⟨w6v, w6e, w6⟩ := ziadd (a := w5v) (b := b) rfl rfl (by omega) (by omega)
          refine zs_iadd (pc := 29) t146_29 (c := w6v) w6e ?_
          obtain ⟨w7n, w7⟩ : ∃ n : Nat, w6v.toInt = (n : Int) := ⟨w6v.toInt.toNat, by omega⟩
          have w8 := ib319 hI w7n
          refine zs_iald (pc := 30) t146_30 (j := w7n) (by decide) (zk1 (hs.k fk_zMc_319)) w7 (zk2 (hs.k fk_zMc_319) (by omega)) rfl ?_
          refine zs_goto (pc := 31) t146_31 ?_
          exact zs_iret (pc := 35) t146_35 mr146 rfl (hQ _ (zrg _).1 (zrg _).2)
theorem C124_164 {X : zX} {l : Launch} {M : zM} {Q : Option Value → zM → Prop} {a : Int32} (hs : zSk zMc M) (hI : zIv cLo cHi M) (hQ : ∀ v : Int32, 0 ≤ v.toInt → v.toInt ≤ 20 → Q (some (.int v)) M) : zCall X l 1 0 0 124 [.ref 164, .int a] M Q := by
  have ga := zrg a
  refine zs_in (by decide) mf124 (Nat.le_of_ble_eq_true rfl) ?_
  show zGo X l 1 0 0 124 0 [(0, .ref 164), (1, .int a)] [] M _
  refine zs_iconst (pc := 0) t124_0 (v := 0) (by decide) ?_
  refine zs_istore_n (pc := 1) t124_1 (ls' := [(2, .int (0 : Int32)), (0, .ref 164), (1, .int a)]) (zml mf124 (by decide)) rfl ?_
  refine zs_iconst (pc := 2) t124_2 (v := 0) (by decide) ?_
  refine zs_istore_n (pc := 3) t124_3 (ls' := [(3, .int (0 : Int32)), (2, .int (0 : Int32)), (0, .ref 164), (1, .int a)]) (zml mf124 (by decide)) rfl ?_
  have w1L : ∀ (m : Nat) (w1x2 : Int32) (w1x3 : Int32), (0 ≤ w1x2.toInt ∧ w1x2.toInt ≤ 20) → (0 ≤ w1x3.toInt ∧ w1x3.toInt ≤ 20) → (w1x2.toInt ≤ w1x3.toInt) → 20 - w1x3.toInt ≤ (m : Int) → zGo X l 1 0 0 124 4 [(0, .ref 164), (1, .int a), (2, .int w1x2), (3, .int w1x3)] [] M Q := by
    intro m
    induction m using Nat.strongRecOn with
    | ind w1m w1ih =>
      intro w1x2 w1x3 w1b2 w1b3 w1r0 w1q
      refine zs_iload_n (pc := 4) t124_4 rfl ?_
      refine zs_aload_n (pc := 5) t124_5 rfl ?_
      refine zs_get (pc := 6) t124_6 (by decide) (zk1 (hs.k fk_zMc_164)) (hs.p rfl fv_zMc_164_1) ?_
      refine zs_invV (pc := 9) (k := 165) (as' := []) (st := [.int w1x3]) t124_9 mf125 rfl rfl (Or.inl ⟨by decide, (zk1 (hs.k fk_zMc_165))⟩) ⟨by decide, by decide, Nat.le_of_ble_eq_true rfl, Nat.le_of_ble_eq_true rfl⟩ (zs_in (by decide) mf125 (Nat.le_of_ble_eq_true rfl) ?_) (fun _ _ q => q)
      show zGo X l 0 0 0 125 0 [(0, .ref 165)] [] M _
      refine zs_aload_n (pc := 0) t125_0 rfl ?_
      have w2 := ib165_2 hI
      refine zs_get (pc := 1) t125_1 (by decide) (zk1 (hs.k fk_zMc_165)) (zfvi rfl rfl) ?_
      refine zs_iret (pc := 4) t125_4 mr125 rfl ?_
      show zGo X l 1 0 0 124 12 [(0, .ref 164), (1, .int a), (2, .int w1x2), (3, .int w1x3)] [.int (zI M 165 2), .int w1x3] M _
      by_cases w3 : (zI M 165 2).toInt ≤ w1x3.toInt
      · refine zs_icmp_geT (pc := 12) t124_12 rfl rfl (by omega) ?_
        refine zs_iload_n (pc := 48) t124_48 rfl ?_
        exact zs_iret (pc := 49) t124_49 mr124 rfl (hQ _ (by omega) (by omega))
      · refine zs_icmp_geF (pc := 12) t124_12 rfl rfl (by omega) ?_
        refine zs_aload_n (pc := 15) t124_15 rfl ?_
        refine zs_get (pc := 16) t124_16 (by decide) (zk1 (hs.k fk_zMc_164)) (hs.p rfl fv_zMc_164_1) ?_
        refine zs_iload_n (pc := 19) t124_19 rfl ?_
        refine zs_invV (pc := 20) (k := 165) (as' := [.int w1x3]) (st := []) t124_20 mf126 rfl rfl (Or.inl ⟨by decide, (zk1 (hs.k fk_zMc_165))⟩) ⟨by decide, by decide, Nat.le_of_ble_eq_true rfl, Nat.le_of_ble_eq_true rfl⟩ (zs_in (by decide) mf126 (Nat.le_of_ble_eq_true rfl) ?_) (fun _ _ q => q)
        show zGo X l 0 0 0 126 0 [(0, .ref 165), (1, .int w1x3)] [] M _
        refine zs_iload_n (pc := 0) t126_0 rfl ?_
        refine zs_if_ltF (pc := 1) t126_1 rfl (by omega) ?_
        refine zs_iload_n (pc := 4) t126_4 rfl ?_
        refine zs_aload_n (pc := 5) t126_5 rfl ?_
        refine zs_get (pc := 6) t126_6 (by decide) (zk1 (hs.k fk_zMc_165)) (zfvi rfl rfl) ?_
        by_cases w4 : (zI M 165 2).toInt ≤ w1x3.toInt
        · refine zs_icmp_geT (pc := 9) t126_9 rfl rfl (by omega) ?_
          refine zs_aconst_null (pc := 21) t126_21 ?_
          refine zs_aret0 (pc := 22) t126_22 (by rw [mr126]; rfl) ?_
          show zGo X l 1 0 0 124 23 [(0, .ref 164), (1, .int a), (2, .int w1x2), (3, .int w1x3)] [.null] M _
          refine zs_astore0 (pc := 23) t124_23 (ls' := [(4, .null), (0, .ref 164), (1, .int a), (2, .int w1x2), (3, .int w1x3)]) (zml mf124 (by decide)) rfl ?_
          refine zs_aload0 (pc := 25) t124_25 rfl ?_
          refine zs_ifnullT (pc := 27) t124_27 ?_
          obtain ⟨w5v, w5e, w5⟩ := ziadd (a := w1x3) (b := Int32.ofInt 1) rfl (show (Int32.ofInt 1).toInt = 1 by decide) (by omega) (by omega)
          refine zs_iinc (pc := 42) t124_42 (ls' := [(3, .int w5v), (4, .null), (0, .ref 164), (1, .int a), (2, .int w1x2)]) (zml mf124 (by decide)) rfl (c := w5v) w5e rfl ?_
          refine zs_goto (pc := 45) t124_45 ?_
          refine zGo.locals (ls' := [(0, .ref 164), (1, .int a), (2, .int w1x2), (3, .int w5v)]) (by simp) ?_
          exact w1ih (w1m - 1) (by omega) w1x2 w5v ⟨by omega, by omega⟩ ⟨by omega, by omega⟩ (by omega) (by omega)
        · refine zs_icmp_geF (pc := 9) t126_9 rfl rfl (by omega) ?_
          refine zs_aload_n (pc := 12) t126_12 rfl ?_
          refine zs_get (pc := 13) t126_13 (by decide) (zk1 (hs.k fk_zMc_165)) (hs.p rfl fv_zMc_165_1) ?_
          refine zs_iload_n (pc := 16) t126_16 rfl ?_
          obtain ⟨w6n, w6⟩ : ∃ n : Nat, w1x3.toInt = (n : Int) := ⟨w1x3.toInt.toNat, by omega⟩
          have w7 : w6n < 20 := by omega
          refine zs_aald (pc := 17) t126_17 (j := w6n) (Or.inr (zk1 (hs.k fk_zMc_179))) w6 (zk2 (hs.k fk_zMc_179) (by omega)) (hs.a (fpT181 w6n w7)) ?_
          refine zs_goto (pc := 18) t126_18 ?_
          refine zs_aret (pc := 22) t126_22 (by rw [mr126]; rfl) ?_
          show zGo X l 1 0 0 124 23 [(0, .ref 164), (1, .int a), (2, .int w1x2), (3, .int w1x3)] [.ref (181 + 3 * w6n)] M _
          refine zs_astore (pc := 23) t124_23 (ls' := [(4, .ref (181 + 3 * w6n)), (0, .ref 164), (1, .int a), (2, .int w1x2), (3, .int w1x3)]) (zml mf124 (by decide)) rfl ?_
          refine zs_aload (pc := 25) t124_25 rfl ?_
          refine zs_ifnullF (pc := 27) t124_27 ?_
          refine zs_aload (pc := 30) t124_30 rfl ?_
          have w8 := ibT181_0_3 hI w7
          refine zs_get (pc := 32) t124_32 (by decide) (zk1 (hs.k (fT181_0 w6n w7))) (zfvi rfl rfl) ?_
          refine zs_iload_n (pc := 35) t124_35 rfl ?_
          by_cases w9 : (zI M (181 + 3 * w6n) 3).toInt < a.toInt
          · refine zs_icmp_ltT (pc := 36) t124_36 rfl rfl (by omega) ?_
            obtain ⟨w10v, w10e, w10⟩ := ziadd (a := w1x3) (b := Int32.ofInt 1) rfl (show (Int32.ofInt 1).toInt = 1 by decide) (by omega) (by omega)
            refine zs_iinc (pc := 42) t124_42 (ls' := [(3, .int w10v), (4, .ref (181 + 3 * w6n)), (0, .ref 164), (1, .int a), (2, .int w1x2)]) (zml mf124 (by decide)) rfl (c := w10v) w10e rfl ?_
            refine zs_goto (pc := 45) t124_45 ?_
            refine zGo.locals (ls' := [(0, .ref 164), (1, .int a), (2, .int w1x2), (3, .int w10v)]) (by simp) ?_
            exact w1ih (w1m - 1) (by omega) w1x2 w10v ⟨by omega, by omega⟩ ⟨by omega, by omega⟩ (by omega) (by omega)
          · refine zs_icmp_ltF (pc := 36) t124_36 rfl rfl (by omega) ?_
            obtain ⟨w11v, w11e, w11⟩ := ziadd (a := w1x2) (b := Int32.ofInt 1) rfl (show (Int32.ofInt 1).toInt = 1 by decide) (by omega) (by omega)
            refine zs_iinc (pc := 39) t124_39 (ls' := [(2, .int w11v), (4, .ref (181 + 3 * w6n)), (0, .ref 164), (1, .int a), (3, .int w1x3)]) (zml mf124 (by decide)) rfl (c := w11v) w11e rfl ?_
            obtain ⟨w12v, w12e, w12⟩ := ziadd (a := w1x3) (b := Int32.ofInt 1) rfl (show (Int32.ofInt 1).toInt = 1 by decide) (by omega) (by omega)
            refine zs_iinc (pc := 42) t124_42 (ls' := [(3, .int w12v), (2, .int w11v), (4, .ref (181 + 3 * w6n)), (0, .ref 164), (1, .int a)]) (zml mf124 (by decide)) rfl (c := w12v) w12e rfl ?_
            refine zs_goto (pc := 45) t124_45 ?_
            refine zGo.locals (ls' := [(0, .ref 164), (1, .int a), (2, .int w11v), (3, .int w12v)]) (by simp) ?_
            exact w1ih (w1m - 1) (by omega) w11v w12v ⟨by omega, by omega⟩ ⟨by omega, by omega⟩ (by omega) (by omega)
  refine zGo.locals (ls' := [(0, .ref 164), (1, .int a), (2, .int (0 : Int32)), (3, .int (0 : Int32))]) (by simp) ?_
  have w13 := li0
  have w14 := li0
  exact w1L ((20 - 0 : Int).toNat) (0 : Int32) (0 : Int32) ⟨by decide, by decide⟩ ⟨by decide, by decide⟩ (by omega) (by omega)
theorem C129_164_7 {X : zX} {l : Launch} {M : zM} {Q : Option Value → zM → Prop} {a b : Int32} (hs : zSk zMc M) (hI : zIv cLo cHi M) (hb : 0 ≤ b.toInt ∧ b.toInt ≤ 19) (hQ : ∀ M', zSk zMc M' → zIv cLo cHi M' → zFr [(317, 317, none), (319, 319, none)] M M' → Q none M') : zCall X l 1 0 0 129 [.ref 164, .ref 7, .int a, .int b] M Q := by
  have ga := zrg a
  have gb := zrg b
  refine zs_in (by decide) mf129 (Nat.le_of_ble_eq_true rfl) ?_
  show zGo X l 1 0 0 129 0 [(0, .ref 164), (1, .ref 7), (2, .int a), (3, .int b)] [] M _
  refine zs_aload_n (pc := 0) t129_0 rfl ?_
  refine zs_iload_n (pc := 1) t129_1 rfl ?_
  refine zs_invV (pc := 2) (k := 7) (as' := [.int a]) (st := []) t129_2 mf91 rfl rfl (Or.inl ⟨by decide, (zk1 (hs.k fk_zMc_7))⟩) ⟨by decide, by decide, Nat.le_of_ble_eq_true rfl, Nat.le_of_ble_eq_true rfl⟩ (zs_in (by decide) mf91 (Nat.le_of_ble_eq_true rfl) ?_) (fun _ _ q => q)
  show zGo X l 0 0 0 91 0 [(0, .ref 7), (1, .int a)] [] M _
  refine zs_iload_n (pc := 0) t91_0 rfl ?_
  by_cases w1 : a.toInt < 0
  · refine zs_if_ltT (pc := 1) t91_1 rfl (by omega) ?_
    refine zs_iconst (pc := 16) t91_16 (v := 0) (by decide) ?_
    refine zs_iret (pc := 17) t91_17 mr91 (by decide) ?_
    show zGo X l 1 0 0 129 5 [(0, .ref 164), (1, .ref 7), (2, .int a), (3, .int b)] [.int (0 : Int32)] M _
    refine zs_if_neF (pc := 5) t129_5 li0 (by decide) ?_
    exact zs_vret (pc := 8) t129_8 mr129 (hQ _ hs hI (zFr.refl))
  · refine zs_if_ltF (pc := 1) t91_1 rfl (by omega) ?_
    refine zs_iload_n (pc := 4) t91_4 rfl ?_
    refine zs_aload_n (pc := 5) t91_5 rfl ?_
    have w2 := ib7_3 hI
    refine zs_get (pc := 6) t91_6 (by decide) (zk1 (hs.k fk_zMc_7)) (zfvi rfl rfl) ?_
    by_cases w3 : (zI M 7 3).toInt ≤ a.toInt
    · refine zs_icmp_geT (pc := 9) t91_9 rfl rfl (by omega) ?_
      refine zs_iconst (pc := 16) t91_16 (v := 0) (by decide) ?_
      refine zs_iret (pc := 17) t91_17 mr91 (by decide) ?_
      show zGo X l 1 0 0 129 5 [(0, .ref 164), (1, .ref 7), (2, .int a), (3, .int b)] [.int (0 : Int32)] M _
      refine zs_if_neF (pc := 5) t129_5 li0 (by decide) ?_
      exact zs_vret (pc := 8) t129_8 mr129 (hQ _ hs hI (zFr.refl))
    · refine zs_icmp_geF (pc := 9) t91_9 rfl rfl (by omega) ?_
      refine zs_iconst (pc := 12) t91_12 (v := 1) (by decide) ?_
      refine zs_goto (pc := 13) t91_13 ?_
      refine zs_iret (pc := 17) t91_17 mr91 (by decide) ?_
      show zGo X l 1 0 0 129 5 [(0, .ref 164), (1, .ref 7), (2, .int a), (3, .int b)] [.int (1 : Int32)] M _
      refine zs_if_neT (pc := 5) t129_5 li1 (by decide) ?_
      refine zs_iload_n (pc := 9) t129_9 rfl ?_
      refine zs_aload_n (pc := 10) t129_10 rfl ?_
      have w4 := ib164_4 hI
      refine zs_get (pc := 11) t129_11 (by decide) (zk1 (hs.k fk_zMc_164)) (zfvi rfl rfl) ?_
      by_cases w5 : (zI M 164 4).toInt ≤ b.toInt
      · refine zs_icmp_geT (pc := 14) t129_14 rfl rfl (by omega) ?_
        refine zs_aload_n (pc := 24) t129_24 rfl ?_
        refine zs_get (pc := 25) t129_25 (by decide) (zk1 (hs.k fk_zMc_7)) (hs.p rfl fv_zMc_7_7) ?_
        refine zs_iload_n (pc := 28) t129_28 rfl ?_
        obtain ⟨w6n, w6⟩ : ∃ n : Nat, a.toInt = (n : Int) := ⟨a.toInt.toNat, by omega⟩
        have w7 := ib13 hI w6n
        refine zs_iald (pc := 29) t129_29 (j := w6n) (by decide) (zk1 (hs.k fk_zMc_13)) w6 (zk2 (hs.k fk_zMc_13) (by omega)) rfl ?_
        refine zs_istore (pc := 30) t129_30 (ls' := [(4, .int (zI M 13 w6n)), (0, .ref 164), (1, .ref 7), (2, .int a), (3, .int b)]) (zml mf129 (by decide)) rfl ?_
        refine zs_aload_n (pc := 32) t129_32 rfl ?_
        refine zs_iload (pc := 33) t129_33 rfl ?_
        refine zs_invV (pc := 35) (k := 7) (as' := [.int (zI M 13 w6n)]) (st := []) t129_35 mf130 rfl rfl (Or.inl ⟨by decide, (zk1 (hs.k fk_zMc_7))⟩) ⟨by decide, by decide, Nat.le_of_ble_eq_true rfl, Nat.le_of_ble_eq_true rfl⟩ (zs_in (by decide) mf130 (Nat.le_of_ble_eq_true rfl) ?_) (fun _ _ q => q)
        show zGo X l 0 0 0 130 0 [(0, .ref 7), (1, .int (zI M 13 w6n))] [] M _
        refine zs_iload_n (pc := 0) t130_0 rfl ?_
        by_cases w8 : (zI M 13 w6n).toInt < 0
        · refine zs_if_ltT (pc := 1) t130_1 rfl (by omega) ?_
          refine zs_iconst (pc := 16) t130_16 (v := 0) (by decide) ?_
          refine zs_iret (pc := 17) t130_17 mr130 (by decide) ?_
          show zGo X l 1 0 0 129 38 [(4, .int (zI M 13 w6n)), (0, .ref 164), (1, .ref 7), (2, .int a), (3, .int b)] [.int (0 : Int32)] M _
          refine zs_if_eqT (pc := 38) t129_38 li0 (by decide) ?_
          exact zs_vret (pc := 57) t129_57 mr129 (hQ _ hs hI (zFr.refl))
        · refine zs_if_ltF (pc := 1) t130_1 rfl (by omega) ?_
          refine zs_iload_n (pc := 4) t130_4 rfl ?_
          refine zs_aload_n (pc := 5) t130_5 rfl ?_
          have w9 := ib7_8 hI
          refine zs_get (pc := 6) t130_6 (by decide) (zk1 (hs.k fk_zMc_7)) (zfvi rfl rfl) ?_
          by_cases w10 : (zI M 7 8).toInt ≤ (zI M 13 w6n).toInt
          · refine zs_icmp_geT (pc := 9) t130_9 rfl rfl (by omega) ?_
            refine zs_iconst (pc := 16) t130_16 (v := 0) (by decide) ?_
            refine zs_iret (pc := 17) t130_17 mr130 (by decide) ?_
            show zGo X l 1 0 0 129 38 [(4, .int (zI M 13 w6n)), (0, .ref 164), (1, .ref 7), (2, .int a), (3, .int b)] [.int (0 : Int32)] M _
            refine zs_if_eqT (pc := 38) t129_38 li0 (by decide) ?_
            exact zs_vret (pc := 57) t129_57 mr129 (hQ _ hs hI (zFr.refl))
          · refine zs_icmp_geF (pc := 9) t130_9 rfl rfl (by omega) ?_
            refine zs_iconst (pc := 12) t130_12 (v := 1) (by decide) ?_
            refine zs_goto (pc := 13) t130_13 ?_
            refine zs_iret (pc := 17) t130_17 mr130 (by decide) ?_
            show zGo X l 1 0 0 129 38 [(4, .int (zI M 13 w6n)), (0, .ref 164), (1, .ref 7), (2, .int a), (3, .int b)] [.int (1 : Int32)] M _
            refine zs_if_eqF (pc := 38) t129_38 li1 (by decide) ?_
            refine zs_aload_n (pc := 41) t129_41 rfl ?_
            refine zs_get (pc := 42) t129_42 (by decide) (zk1 (hs.k fk_zMc_164)) (hs.p rfl fv_zMc_164_8) ?_
            refine zs_iload (pc := 45) t129_45 rfl ?_
            refine zs_bipush (pc := 47) t129_47 (v := 20) (by decide) ?_
            obtain ⟨w11v, w11⟩ : ∃ v, (zI M 13 w6n) * (20 : Int32) = v := ⟨_, rfl⟩
            have w11g : w11v.toInt = (zI M 13 w6n).toInt * 20 := by rw [← w11]; exact zmulc rfl li20 (by omega) (by omega)
            refine zs_imul (pc := 49) t129_49 (c := w11v) w11 ?_
            refine zs_iload_n (pc := 50) t129_50 rfl ?_
            obtain ⟨w12v, w12e, w12⟩ := ziadd (a := w11v) (b := b) rfl rfl (by omega) (by omega)
            refine zs_iadd (pc := 51) t129_51 (c := w12v) w12e ?_
            refine zs_dup2 (pc := 52) t129_52 ⟨rfl, rfl⟩ ?_
            obtain ⟨w13n, w13⟩ : ∃ n : Nat, w12v.toInt = (n : Int) := ⟨w12v.toInt.toNat, by omega⟩
            have w14 := ib319 hI w13n
            refine zs_iald (pc := 53) t129_53 (j := w13n) (by decide) (zk1 (hs.k fk_zMc_319)) w13 (zk2 (hs.k fk_zMc_319) (by omega)) rfl ?_
            refine zs_iconst (pc := 54) t129_54 (v := 1) (by decide) ?_
            obtain ⟨w15v, w15⟩ : ∃ v, v = (zI M 319 w13n) + (1 : Int32) := ⟨_, rfl⟩
            have w15g := zrg w15v
            refine zs_iadd (pc := 55) t129_55 (c := w15v) w15.symm ?_
            have w16 : zIv cLo cHi (zsI M 319 w13n w15v) := zIv.put hI (show (-2147483648) ≤ w15v.toInt ∧ w15v.toInt ≤ 2147483647 from (zrg w15v))
            refine zs_iast (pc := 56) t129_56 (j := w13n) (by decide) (zk1 (hs.k fk_zMc_319)) w13 (zk2 (hs.k fk_zMc_319) (by omega)) ?_
            exact zs_vret (pc := 57) t129_57 mr129 (hQ _ hs w16 ((zFr.refl).put rfl))
      · refine zs_icmp_geF (pc := 14) t129_14 rfl rfl (by omega) ?_
        refine zs_aload_n (pc := 17) t129_17 rfl ?_
        refine zs_get (pc := 18) t129_18 (by decide) (zk1 (hs.k fk_zMc_164)) (hs.p rfl fv_zMc_164_6) ?_
        refine zs_iload_n (pc := 21) t129_21 rfl ?_
        refine zs_iload_n (pc := 22) t129_22 rfl ?_
        obtain ⟨w17n, w17⟩ : ∃ n : Nat, a.toInt = (n : Int) := ⟨a.toInt.toNat, by omega⟩
        have w18 : zIv cLo cHi (zsI M 317 w17n b) := zIv.put hI (show (-2147483648) ≤ b.toInt ∧ b.toInt ≤ 2147483647 from (zrg b))
        refine zs_iast (pc := 23) t129_23 (j := w17n) (by decide) (zk1 (hs.k fk_zMc_317)) w17 (zk2 (hs.k fk_zMc_317) (by omega)) ?_
        refine zs_aload_n (pc := 24) t129_24 rfl ?_
        refine zs_get (pc := 25) t129_25 (by decide) (zk1 (hs.k fk_zMc_7)) (hs.p rfl fv_zMc_7_7) ?_
        refine zs_iload_n (pc := 28) t129_28 rfl ?_
        have w19 := ib13 hI w17n
        refine zs_iald (pc := 29) t129_29 (j := w17n) (by decide) (zk1 (hs.k fk_zMc_13)) w17 (zk2 (hs.k fk_zMc_13) (by omega)) ((zIo (by decide)).trans rfl) ?_
        refine zs_istore (pc := 30) t129_30 (ls' := [(4, .int (zI M 13 w17n)), (0, .ref 164), (1, .ref 7), (2, .int a), (3, .int b)]) (zml mf129 (by decide)) rfl ?_
        refine zs_aload_n (pc := 32) t129_32 rfl ?_
        refine zs_iload (pc := 33) t129_33 rfl ?_
        refine zs_invV (pc := 35) (k := 7) (as' := [.int (zI M 13 w17n)]) (st := []) t129_35 mf130 rfl rfl (Or.inl ⟨by decide, (zk1 (hs.k fk_zMc_7))⟩) ⟨by decide, by decide, Nat.le_of_ble_eq_true rfl, Nat.le_of_ble_eq_true rfl⟩ (zs_in (by decide) mf130 (Nat.le_of_ble_eq_true rfl) ?_) (fun _ _ q => q)
        show zGo X l 0 0 0 130 0 [(0, .ref 7), (1, .int (zI M 13 w17n))] [] (zsI M 317 w17n b) _
        refine zs_iload_n (pc := 0) t130_0 rfl ?_
        by_cases w20 : (zI M 13 w17n).toInt < 0
        · refine zs_if_ltT (pc := 1) t130_1 rfl (by omega) ?_
          refine zs_iconst (pc := 16) t130_16 (v := 0) (by decide) ?_
          refine zs_iret (pc := 17) t130_17 mr130 (by decide) ?_
          show zGo X l 1 0 0 129 38 [(4, .int (zI M 13 w17n)), (0, .ref 164), (1, .ref 7), (2, .int a), (3, .int b)] [.int (0 : Int32)] (zsI M 317 w17n b) _
          refine zs_if_eqT (pc := 38) t129_38 li0 (by decide) ?_
          exact zs_vret (pc := 57) t129_57 mr129 (hQ _ hs w18 ((zFr.refl).put rfl))
        · refine zs_if_ltF (pc := 1) t130_1 rfl (by omega) ?_
          refine zs_iload_n (pc := 4) t130_4 rfl ?_
          refine zs_aload_n (pc := 5) t130_5 rfl ?_
          have w21 := ib7_8 hI
          refine zs_get (pc := 6) t130_6 (by decide) (zk1 (hs.k fk_zMc_7)) (zfvi rfl ((zIo (by decide)).trans rfl)) ?_
          by_cases w22 : (zI M 7 8).toInt ≤ (zI M 13 w17n).toInt
          · refine zs_icmp_geT (pc := 9) t130_9 rfl rfl (by omega) ?_
            refine zs_iconst (pc := 16) t130_16 (v := 0) (by decide) ?_
            refine zs_iret (pc := 17) t130_17 mr130 (by decide) ?_
            show zGo X l 1 0 0 129 38 [(4, .int (zI M 13 w17n)), (0, .ref 164), (1, .ref 7), (2, .int a), (3, .int b)] [.int (0 : Int32)] (zsI M 317 w17n b) _
            refine zs_if_eqT (pc := 38) t129_38 li0 (by decide) ?_
            exact zs_vret (pc := 57) t129_57 mr129 (hQ _ hs w18 ((zFr.refl).put rfl))
          · refine zs_icmp_geF (pc := 9) t130_9 rfl rfl (by omega) ?_
            refine zs_iconst (pc := 12) t130_12 (v := 1) (by decide) ?_
            refine zs_goto (pc := 13) t130_13 ?_
            refine zs_iret (pc := 17) t130_17 mr130 (by decide) ?_
            show zGo X l 1 0 0 129 38 [(4, .int (zI M 13 w17n)), (0, .ref 164), (1, .ref 7), (2, .int a), (3, .int b)] [.int (1 : Int32)] (zsI M 317 w17n b) _
            refine zs_if_eqF (pc := 38) t129_38 li1 (by decide) ?_
            refine zs_aload_n (pc := 41) t129_41 rfl ?_
            refine zs_get (pc := 42) t129_42 (by decide) (zk1 (hs.k fk_zMc_164)) (hs.p rfl fv_zMc_164_8) ?_
            refine zs_iload (pc := 45) t129_45 rfl ?_
            refine zs_bipush (pc := 47) t129_47 (v := 20) (by decide) ?_
            obtain ⟨w23v, w23⟩ : ∃ v, (zI M 13 w17n) * (20 : Int32) = v := ⟨_, rfl⟩
            have w23g : w23v.toInt = (zI M 13 w17n).toInt * 20 := by rw [← w23]; exact zmulc rfl li20 (by omega) (by omega)
            refine zs_imul (pc := 49) t129_49 (c := w23v) w23 ?_
            refine zs_iload_n (pc := 50) t129_50 rfl ?_
            obtain ⟨w24v, w24e, w24⟩ := ziadd (a := w23v) (b := b) rfl rfl (by omega) (by omega)
            refine zs_iadd (pc := 51) t129_51 (c := w24v) w24e ?_
            refine zs_dup2 (pc := 52) t129_52 ⟨rfl, rfl⟩ ?_
            obtain ⟨w25n, w25⟩ : ∃ n : Nat, w24v.toInt = (n : Int) := ⟨w24v.toInt.toNat, by omega⟩
            have w26 := ib319 hI w25n
            refine zs_iald (pc := 53) t129_53 (j := w25n) (by decide) (zk1 (hs.k fk_zMc_319)) w25 (zk2 (hs.k fk_zMc_319) (by omega)) ((zIo (by decide)).trans rfl) ?_
            refine zs_iconst (pc := 54) t129_54 (v := 1) (by decide) ?_
            obtain ⟨w27v, w27⟩ : ∃ v, v = (zI M 319 w25n) + (1 : Int32) := ⟨_, rfl⟩
            have w27g := zrg w27v
            refine zs_iadd (pc := 55) t129_55 (c := w27v) w27.symm ?_
            have w28 : zIv cLo cHi (zsI (zsI M 317 w17n b) 319 w25n w27v) := zIv.put w18 (show (-2147483648) ≤ w27v.toInt ∧ w27v.toInt ≤ 2147483647 from (zrg w27v))
            refine zs_iast (pc := 56) t129_56 (j := w25n) (by decide) (zk1 (hs.k fk_zMc_319)) w25 (zk2 (hs.k fk_zMc_319) (by omega)) ?_
            exact zs_vret (pc := 57) t129_57 mr129 (hQ _ hs w28 (((zFr.refl).put rfl).put rfl))
