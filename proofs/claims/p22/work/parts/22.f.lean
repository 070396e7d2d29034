theorem C145_164 {X : zX} {l : Launch} {M : zM} {Q : Option Value → zM → Prop} {a b : Int32} (hs : zSk zMc M) (hI : zIv cLo cHi M) (hb : 0 ≤ b.toInt ∧ b.toInt ≤ 20) (hQ : ∀ v : Int32, (-2147483648) ≤ v.toInt → v.toInt ≤ 2147483647 → Q (some (.int v)) M) : zCall X l 2 0 0 145 [.ref 164, .int a, .int b] M Q := by
  have ga := zrg a
  have gb := zrg b
  refine zs_in (by decide) mf145 (Nat.le_of_ble_eq_true rfl) ?_
  show zGo X l 2 0 0 145 0 [(0, .ref 164), (1, .int a), (2, .int b)] [] M _
  refine zs_bipush (pc := 0) t145_0 (v := -2) (by decide) ?_
  refine zs_istore_n (pc := 2) t145_2 (ls' := [(3, .int (-2 : Int32)), (0, .ref 164), (1, .int a), (2, .int b)]) (zml mf145 (by decide)) rfl ?_
  refine zs_iconst (pc := 3) t145_3 (v := 0) (by decide) ?_
  refine zs_istore (pc := 4) t145_4 (ls' := [(4, .int (0 : Int32)), (3, .int (-2 : Int32)), (0, .ref 164), (1, .int a), (2, .int b)]) (zml mf145 (by decide)) rfl ?_
  refine zs_iconst (pc := 6) t145_6 (v := 0) (by decide) ?_
  refine zs_istore (pc := 7) t145_7 (ls' := [(5, .int (0 : Int32)), (4, .int (0 : Int32)), (3, .int (-2 : Int32)), (0, .ref 164), (1, .int a), (2, .int b)]) (zml mf145 (by decide)) rfl ?_
  have w1L : ∀ (m : Nat) (w1x3 : Int32) (w1x4 : Int32) (w1x5 : Int32), (0 ≤ w1x5.toInt ∧ w1x5.toInt ≤ 20) → 20 - w1x5.toInt ≤ (m : Int) → zGo X l 2 0 0 145 9 [(0, .ref 164), (1, .int a), (2, .int b), (3, .int w1x3), (4, .int w1x4), (5, .int w1x5)] [] M Q := by
    intro m
    induction m using Nat.strongRecOn with
    | ind w1m w1ih =>
      intro w1x3 w1x4 w1x5 w1b5 w1q
      have w1g3 := zrg w1x3
      have w1g4 := zrg w1x4
      refine zs_iload (pc := 9) t145_9 rfl ?_
      refine zs_iload_n (pc := 11) t145_11 rfl ?_
      by_cases w2 : b.toInt ≤ w1x5.toInt
      · refine zs_icmp_geT (pc := 12) t145_12 rfl rfl (by omega) ?_
        refine zs_iload_n (pc := 45) t145_45 rfl ?_
        refine zs_iconst (pc := 46) t145_46 (v := 0) (by decide) ?_
        refine zs_bipush (pc := 47) t145_47 (v := 11) (by decide) ?_
        refine zs_invS (pc := 49) (as := [.int a, .int (0 : Int32), .int (11 : Int32)]) (st := []) t145_49 (by decide) mf39 rfl rfl ⟨by decide, by decide, Nat.le_of_ble_eq_true rfl, Nat.le_of_ble_eq_true rfl⟩ (zs_in (by decide) mf39 (Nat.le_of_ble_eq_true rfl) ?_) (fun _ _ q => q)
        show zGo X l 0 0 0 39 0 [(0, .int a), (1, .int (0 : Int32)), (2, .int (11 : Int32))] [] M _
        refine zs_iload_n (pc := 0) t39_0 rfl ?_
        refine zs_iload_n (pc := 1) t39_1 rfl ?_
        by_cases w3 : a.toInt < 0
        · refine zs_icmp_ltT (pc := 2) t39_2 rfl li0 (by omega) ?_
          refine zs_iconst (pc := 14) t39_14 (v := 0) (by decide) ?_
          refine zs_iret (pc := 15) t39_15 mr39 (by decide) ?_
          show zGo X l 2 0 0 145 52 [(0, .ref 164), (1, .int a), (2, .int b), (3, .int w1x3), (4, .int w1x4), (5, .int w1x5)] [.int (0 : Int32)] M _
          refine zs_if_eqT (pc := 52) t145_52 li0 (by decide) ?_
          refine zs_bipush (pc := 72) t145_72 (v := -2) (by decide) ?_
          exact zs_iret (pc := 74) t145_74 mr145 (by decide) (hQ _ (zrg _).1 (zrg _).2)
        · refine zs_icmp_ltF (pc := 2) t39_2 rfl li0 (by omega) ?_
          refine zs_iload_n (pc := 5) t39_5 rfl ?_
          refine zs_iload_n (pc := 6) t39_6 rfl ?_
          by_cases w4 : 11 < a.toInt
          · refine zs_icmp_gtT (pc := 7) t39_7 rfl li11 (by omega) ?_
            refine zs_iconst (pc := 14) t39_14 (v := 0) (by decide) ?_
            refine zs_iret (pc := 15) t39_15 mr39 (by decide) ?_
            show zGo X l 2 0 0 145 52 [(0, .ref 164), (1, .int a), (2, .int b), (3, .int w1x3), (4, .int w1x4), (5, .int w1x5)] [.int (0 : Int32)] M _
            refine zs_if_eqT (pc := 52) t145_52 li0 (by decide) ?_
            refine zs_bipush (pc := 72) t145_72 (v := -2) (by decide) ?_
            exact zs_iret (pc := 74) t145_74 mr145 (by decide) (hQ _ (zrg _).1 (zrg _).2)
          · refine zs_icmp_gtF (pc := 7) t39_7 rfl li11 (by omega) ?_
            refine zs_iconst (pc := 10) t39_10 (v := 1) (by decide) ?_
            refine zs_goto (pc := 11) t39_11 ?_
            refine zs_iret (pc := 15) t39_15 mr39 (by decide) ?_
            show zGo X l 2 0 0 145 52 [(0, .ref 164), (1, .int a), (2, .int b), (3, .int w1x3), (4, .int w1x4), (5, .int w1x5)] [.int (1 : Int32)] M _
            refine zs_if_eqF (pc := 52) t145_52 li1 (by decide) ?_
            refine zs_iconst (pc := 55) t145_55 (v := 2) (by decide) ?_
            refine zs_iload (pc := 56) t145_56 rfl ?_
            obtain ⟨w5v, w5⟩ : ∃ v, (2 : Int32) * w1x4 = v := ⟨_, rfl⟩
            have w5g := zrg w5v
            refine zs_imul (pc := 58) t145_58 (c := w5v) w5 ?_
            refine zs_aload_n (pc := 59) t145_59 rfl ?_
            refine zs_get (pc := 60) t145_60 (by decide) (zk1 (hs.k fk_zMc_164)) (hs.p rfl fv_zMc_164_7) ?_
            refine zs_iload_n (pc := 63) t145_63 rfl ?_
            obtain ⟨w6n, w6⟩ : ∃ n : Nat, a.toInt = (n : Int) := ⟨a.toInt.toNat, by omega⟩
            have w7 := ib318 hI w6n
            refine zs_iald (pc := 64) t145_64 (j := w6n) (by decide) (zk1 (hs.k fk_zMc_318)) w6 (zk2 (hs.k fk_zMc_318) (by omega)) rfl ?_
            by_cases w8 : w5v.toInt < (zI M 318 w6n).toInt
            · refine zs_icmp_ltT (pc := 65) t145_65 rfl rfl (by omega) ?_
              refine zs_bipush (pc := 72) t145_72 (v := -2) (by decide) ?_
              exact zs_iret (pc := 74) t145_74 mr145 (by decide) (hQ _ (zrg _).1 (zrg _).2)
            · refine zs_icmp_ltF (pc := 65) t145_65 rfl rfl (by omega) ?_
              refine zs_iload_n (pc := 68) t145_68 rfl ?_
              refine zs_goto (pc := 69) t145_69 ?_
              exact zs_iret (pc := 74) t145_74 mr145 rfl (hQ _ (zrg _).1 (zrg _).2)
      · refine zs_icmp_geF (pc := 12) t145_12 rfl rfl (by omega) ?_
        refine zs_aload_n (pc := 15) t145_15 rfl ?_
        refine zs_iload_n (pc := 16) t145_16 rfl ?_
        refine zs_iload (pc := 17) t145_17 rfl ?_
        refine zs_invV (pc := 19) (k := 164) (as' := [.int a, .int w1x5]) (st := []) t145_19 mf146 rfl rfl (Or.inl ⟨by decide, (zk1 (hs.k fk_zMc_164))⟩) ⟨by decide, by decide, Nat.le_of_ble_eq_true rfl, Nat.le_of_ble_eq_true rfl⟩ (C146_164 hs hI ?_) (fun _ _ q => q)
        intro w9v w9a w9b
        show zGo X l 2 0 0 145 22 [(0, .ref 164), (1, .int a), (2, .int b), (3, .int w1x3), (4, .int w1x4), (5, .int w1x5)] [.int w9v] M _
        refine zs_iload (pc := 22) t145_22 rfl ?_
        by_cases w10 : w9v.toInt ≤ w1x4.toInt
        · refine zs_icmp_leT (pc := 24) t145_24 rfl rfl (by omega) ?_
          obtain ⟨w11v, w11e, w11⟩ := ziadd (a := w1x5) (b := Int32.ofInt 1) rfl (show (Int32.ofInt 1).toInt = 1 by decide) (by omega) (by omega)
          refine zs_iinc (pc := 39) t145_39 (ls' := [(5, .int w11v), (0, .ref 164), (1, .int a), (2, .int b), (3, .int w1x3), (4, .int w1x4)]) (zml mf145 (by decide)) rfl (c := w11v) w11e rfl ?_
          refine zs_goto (pc := 42) t145_42 ?_
          refine zGo.locals (ls' := [(0, .ref 164), (1, .int a), (2, .int b), (3, .int w1x3), (4, .int w1x4), (5, .int w11v)]) (by simp) ?_
          exact w1ih (w1m - 1) (by omega) w1x3 w1x4 w11v ⟨by omega, by omega⟩ (by omega)
        · refine zs_icmp_leF (pc := 24) t145_24 rfl rfl (by omega) ?_
          refine zs_aload_n (pc := 27) t145_27 rfl ?_
          refine zs_iload_n (pc := 28) t145_28 rfl ?_
          refine zs_iload (pc := 29) t145_29 rfl ?_
          refine zs_invV (pc := 31) (k := 164) (as' := [.int a, .int w1x5]) (st := []) t145_31 mf146 rfl rfl (Or.inl ⟨by decide, (zk1 (hs.k fk_zMc_164))⟩) ⟨by decide, by decide, Nat.le_of_ble_eq_true rfl, Nat.le_of_ble_eq_true rfl⟩ (C146_164 hs hI ?_) (fun _ _ q => q)
          intro w12v w12a w12b
          show zGo X l 2 0 0 145 34 [(0, .ref 164), (1, .int a), (2, .int b), (3, .int w1x3), (4, .int w1x4), (5, .int w1x5)] [.int w12v] M _
          refine zs_istore (pc := 34) t145_34 (ls' := [(4, .int w12v), (0, .ref 164), (1, .int a), (2, .int b), (3, .int w1x3), (5, .int w1x5)]) (zml mf145 (by decide)) rfl ?_
          refine zs_iload (pc := 36) t145_36 rfl ?_
          refine zs_istore_n (pc := 38) t145_38 (ls' := [(3, .int w1x5), (4, .int w12v), (0, .ref 164), (1, .int a), (2, .int b), (5, .int w1x5)]) (zml mf145 (by decide)) rfl ?_
          obtain ⟨w13v, w13e, w13⟩ := ziadd (a := w1x5) (b := Int32.ofInt 1) rfl (show (Int32.ofInt 1).toInt = 1 by decide) (by omega) (by omega)
          refine zs_iinc (pc := 39) t145_39 (ls' := [(5, .int w13v), (3, .int w1x5), (4, .int w12v), (0, .ref 164), (1, .int a), (2, .int b)]) (zml mf145 (by decide)) rfl (c := w13v) w13e rfl ?_
          refine zs_goto (pc := 42) t145_42 ?_
          refine zGo.locals (ls' := [(0, .ref 164), (1, .int a), (2, .int b), (3, .int w1x5), (4, .int w12v), (5, .int w13v)]) (by simp) ?_
          exact w1ih (w1m - 1) (by omega) w1x5 w12v w13v ⟨by omega, by omega⟩ (by omega)
  refine zGo.locals (ls' := [(0, .ref 164), (1, .int a), (2, .int b), (3, .int (-2 : Int32)), (4, .int (0 : Int32)), (5, .int (0 : Int32))]) (by simp) ?_
  have w14 := lin2
  have w15 := li0
  have w16 := li0
  exact w1L ((20 - 0 : Int).toNat) (-2 : Int32) (0 : Int32) (0 : Int32) ⟨by decide, by decide⟩ (by omega)
theorem C198_164 {X : zX} {l : Launch} {M : zM} {Q : Option Value → zM → Prop} {a : Int32} (hs : zSk zMc M) (hI : zIv cLo cHi M) (hQ : ∀ v : Int32, (-2147483648) ≤ v.toInt → v.toInt ≤ 2147483647 → Q (some (.int v)) M) : zCall X l 3 0 0 198 [.ref 164, .int a] M Q := by
  have ga := zrg a
  refine zs_in (by decide) mf198 (Nat.le_of_ble_eq_true rfl) ?_
  show zGo X l 3 0 0 198 0 [(0, .ref 164), (1, .int a)] [] M _
  refine zs_aload_n (pc := 0) t198_0 rfl ?_
  refine zs_iload_n (pc := 1) t198_1 rfl ?_
  refine zs_invV (pc := 2) (k := 164) (as' := [.int a]) (st := []) t198_2 mf124 rfl rfl (Or.inl ⟨by decide, (zk1 (hs.k fk_zMc_164))⟩) ⟨by decide, by decide, Nat.le_of_ble_eq_true rfl, Nat.le_of_ble_eq_true rfl⟩ (C124_164 hs hI ?_) (fun _ _ q => q)
  intro w1v w1a w1b
  show zGo X l 3 0 0 198 5 [(0, .ref 164), (1, .int a)] [.int w1v] M _
  refine zs_istore_n (pc := 5) t198_5 (ls' := [(2, .int w1v), (0, .ref 164), (1, .int a)]) (zml mf198 (by decide)) rfl ?_
  refine zs_iconst (pc := 6) t198_6 (v := 0) (by decide) ?_
  refine zs_istore_n (pc := 7) t198_7 (ls' := [(3, .int (0 : Int32)), (2, .int w1v), (0, .ref 164), (1, .int a)]) (zml mf198 (by decide)) rfl ?_
  refine zs_iconst (pc := 8) t198_8 (v := 0) (by decide) ?_
  refine zs_istore (pc := 9) t198_9 (ls' := [(4, .int (0 : Int32)), (3, .int (0 : Int32)), (2, .int w1v), (0, .ref 164), (1, .int a)]) (zml mf198 (by decide)) rfl ?_
  have w2L : ∀ (m : Nat) (w2x3 : Int32) (w2x4 : Int32), (0 ≤ w2x4.toInt ∧ w2x4.toInt ≤ 12) → 12 - w2x4.toInt ≤ (m : Int) → zGo X l 3 0 0 198 11 [(0, .ref 164), (1, .int a), (2, .int w1v), (3, .int w2x3), (4, .int w2x4)] [] M Q := by
    intro m
    induction m using Nat.strongRecOn with
    | ind w2m w2ih =>
      intro w2x3 w2x4 w2b4 w2q
      have w2g3 := zrg w2x3
      refine zs_iload (pc := 11) t198_11 rfl ?_
      refine zs_aload_n (pc := 13) t198_13 rfl ?_
      have w3 := ib164_5 hI
      refine zs_get (pc := 14) t198_14 (by decide) (zk1 (hs.k fk_zMc_164)) (zfvi rfl rfl) ?_
      by_cases w4 : (zI M 164 5).toInt ≤ w2x4.toInt
      · refine zs_icmp_geT (pc := 17) t198_17 rfl rfl (by omega) ?_
        refine zs_iload_n (pc := 39) t198_39 rfl ?_
        exact zs_iret (pc := 40) t198_40 mr198 rfl (hQ _ (zrg _).1 (zrg _).2)
      · refine zs_icmp_geF (pc := 17) t198_17 rfl rfl (by omega) ?_
        refine zs_aload_n (pc := 20) t198_20 rfl ?_
        refine zs_iload (pc := 21) t198_21 rfl ?_
        refine zs_iload_n (pc := 23) t198_23 rfl ?_
        refine zs_invV (pc := 24) (k := 164) (as' := [.int w2x4, .int w1v]) (st := []) t198_24 mf145 rfl rfl (Or.inl ⟨by decide, (zk1 (hs.k fk_zMc_164))⟩) ⟨by decide, by decide, Nat.le_of_ble_eq_true rfl, Nat.le_of_ble_eq_true rfl⟩ (C145_164 hs hI ⟨by omega, by omega⟩ ?_) (fun _ _ q => q)
        intro w5v w5a w5b
        show zGo X l 3 0 0 198 27 [(0, .ref 164), (1, .int a), (2, .int w1v), (3, .int w2x3), (4, .int w2x4)] [.int w5v] M _
        by_cases w6 : w5v.toInt < 0
        · refine zs_if_ltT (pc := 27) t198_27 rfl (by omega) ?_
          obtain ⟨w7v, w7e, w7⟩ := ziadd (a := w2x4) (b := Int32.ofInt 1) rfl (show (Int32.ofInt 1).toInt = 1 by decide) (by omega) (by omega)
          refine zs_iinc (pc := 33) t198_33 (ls' := [(4, .int w7v), (0, .ref 164), (1, .int a), (2, .int w1v), (3, .int w2x3)]) (zml mf198 (by decide)) rfl (c := w7v) w7e rfl ?_
          refine zs_goto (pc := 36) t198_36 ?_
          refine zGo.locals (ls' := [(0, .ref 164), (1, .int a), (2, .int w1v), (3, .int w2x3), (4, .int w7v)]) (by simp) ?_
          exact w2ih (w2m - 1) (by omega) w2x3 w7v ⟨by omega, by omega⟩ (by omega)
        · refine zs_if_ltF (pc := 27) t198_27 rfl (by omega) ?_
          obtain ⟨w8v, w8e⟩ : ∃ v, w2x3 + Int32.ofInt 1 = v := ⟨_, rfl⟩
          have w8 := zrg w8v
          refine zs_iinc (pc := 30) t198_30 (ls' := [(3, .int w8v), (0, .ref 164), (1, .int a), (2, .int w1v), (4, .int w2x4)]) (zml mf198 (by decide)) rfl (c := w8v) w8e rfl ?_
          obtain ⟨w9v, w9e, w9⟩ := ziadd (a := w2x4) (b := Int32.ofInt 1) rfl (show (Int32.ofInt 1).toInt = 1 by decide) (by omega) (by omega)
          refine zs_iinc (pc := 33) t198_33 (ls' := [(4, .int w9v), (3, .int w8v), (0, .ref 164), (1, .int a), (2, .int w1v)]) (zml mf198 (by decide)) rfl (c := w9v) w9e rfl ?_
          refine zs_goto (pc := 36) t198_36 ?_
          refine zGo.locals (ls' := [(0, .ref 164), (1, .int a), (2, .int w1v), (3, .int w8v), (4, .int w9v)]) (by simp) ?_
          exact w2ih (w2m - 1) (by omega) w8v w9v ⟨by omega, by omega⟩ (by omega)
  refine zGo.locals (ls' := [(0, .ref 164), (1, .int a), (2, .int w1v), (3, .int (0 : Int32)), (4, .int (0 : Int32))]) (by simp) ?_
  have w10 := li0
  have w11 := li0
  exact w2L ((12 - 0 : Int).toNat) (0 : Int32) (0 : Int32) ⟨by decide, by decide⟩ (by omega)
theorem C199_164 {X : zX} {l : Launch} {M : zM} {Q : Option Value → zM → Prop} {a : Int32} (hs : zSk zMc M) (hI : zIv cLo cHi M) (hQ : ∀ v : Int32, (-2147483648) ≤ v.toInt → v.toInt ≤ 2147483647 → Q (some (.int v)) M) : zCall X l 3 0 0 199 [.ref 164, .int a] M Q := by
  have ga := zrg a
  refine zs_in (by decide) mf199 (Nat.le_of_ble_eq_true rfl) ?_
  show zGo X l 3 0 0 199 0 [(0, .ref 164), (1, .int a)] [] M _
  refine zs_aload_n (pc := 0) t199_0 rfl ?_
  refine zs_iload_n (pc := 1) t199_1 rfl ?_
  refine zs_invV (pc := 2) (k := 164) (as' := [.int a]) (st := []) t199_2 mf124 rfl rfl (Or.inl ⟨by decide, (zk1 (hs.k fk_zMc_164))⟩) ⟨by decide, by decide, Nat.le_of_ble_eq_true rfl, Nat.le_of_ble_eq_true rfl⟩ (C124_164 hs hI ?_) (fun _ _ q => q)
  intro w1v w1a w1b
  show zGo X l 3 0 0 199 5 [(0, .ref 164), (1, .int a)] [.int w1v] M _
  refine zs_istore_n (pc := 5) t199_5 (ls' := [(2, .int w1v), (0, .ref 164), (1, .int a)]) (zml mf199 (by decide)) rfl ?_
  refine zs_iconst (pc := 6) t199_6 (v := 0) (by decide) ?_
  refine zs_istore_n (pc := 7) t199_7 (ls' := [(3, .int (0 : Int32)), (2, .int w1v), (0, .ref 164), (1, .int a)]) (zml mf199 (by decide)) rfl ?_
  refine zs_iconst (pc := 8) t199_8 (v := 0) (by decide) ?_
  refine zs_istore (pc := 9) t199_9 (ls' := [(4, .int (0 : Int32)), (3, .int (0 : Int32)), (2, .int w1v), (0, .ref 164), (1, .int a)]) (zml mf199 (by decide)) rfl ?_
  have w2L : ∀ (m : Nat) (w2x3 : Int32) (w2x4 : Int32), (0 ≤ w2x4.toInt ∧ w2x4.toInt ≤ 12) → 12 - w2x4.toInt ≤ (m : Int) → zGo X l 3 0 0 199 11 [(0, .ref 164), (1, .int a), (2, .int w1v), (3, .int w2x3), (4, .int w2x4)] [] M Q := by
    intro m
    induction m using Nat.strongRecOn with
    | ind w2m w2ih =>
      intro w2x3 w2x4 w2b4 w2q
      have w2g3 := zrg w2x3
      refine zs_iload (pc := 11) t199_11 rfl ?_
      refine zs_aload_n (pc := 13) t199_13 rfl ?_
      have w3 := ib164_5 hI
      refine zs_get (pc := 14) t199_14 (by decide) (zk1 (hs.k fk_zMc_164)) (zfvi rfl rfl) ?_
      by_cases w4 : (zI M 164 5).toInt ≤ w2x4.toInt
      · refine zs_icmp_geT (pc := 17) t199_17 rfl rfl (by omega) ?_
        refine zs_iload_n (pc := 47) t199_47 rfl ?_
        refine zs_iload_n (pc := 48) t199_48 rfl ?_
        refine zs_invS (pc := 49) (as := [.int w2x3]) (st := [.int w1v]) t199_49 (by decide) mf113 rfl rfl ⟨by decide, by decide, Nat.le_of_ble_eq_true rfl, Nat.le_of_ble_eq_true rfl⟩ (C113 hs hI ?_) (fun _ _ q => q)
        intro w5v w5a w5b
        show zGo X l 3 0 0 199 52 [(0, .ref 164), (1, .int a), (2, .int w1v), (3, .int w2x3), (4, .int w2x4)] [.int w5v, .int w1v] M _
        obtain ⟨w6v, w6⟩ : ∃ v, v = w1v - w5v := ⟨_, rfl⟩
        have w6g := zrg w6v
        refine zs_isub (pc := 52) t199_52 (c := w6v) w6.symm ?_
        exact zs_iret (pc := 53) t199_53 mr199 rfl (hQ _ (zrg _).1 (zrg _).2)
      · refine zs_icmp_geF (pc := 17) t199_17 rfl rfl (by omega) ?_
        refine zs_aload_n (pc := 20) t199_20 rfl ?_
        refine zs_iload (pc := 21) t199_21 rfl ?_
        refine zs_iload_n (pc := 23) t199_23 rfl ?_
        refine zs_invV (pc := 24) (k := 164) (as' := [.int w2x4, .int w1v]) (st := []) t199_24 mf145 rfl rfl (Or.inl ⟨by decide, (zk1 (hs.k fk_zMc_164))⟩) ⟨by decide, by decide, Nat.le_of_ble_eq_true rfl, Nat.le_of_ble_eq_true rfl⟩ (C145_164 hs hI ⟨by omega, by omega⟩ ?_) (fun _ _ q => q)
        intro w7v w7a w7b
        show zGo X l 3 0 0 199 27 [(0, .ref 164), (1, .int a), (2, .int w1v), (3, .int w2x3), (4, .int w2x4)] [.int w7v] M _
        refine zs_istore (pc := 27) t199_27 (ls' := [(5, .int w7v), (0, .ref 164), (1, .int a), (2, .int w1v), (3, .int w2x3), (4, .int w2x4)]) (zml mf199 (by decide)) rfl ?_
        refine zs_iload (pc := 29) t199_29 rfl ?_
        by_cases w8 : w7v.toInt < 0
        · refine zs_if_ltT (pc := 31) t199_31 rfl (by omega) ?_
          obtain ⟨w9v, w9e, w9⟩ := ziadd (a := w2x4) (b := Int32.ofInt 1) rfl (show (Int32.ofInt 1).toInt = 1 by decide) (by omega) (by omega)
          refine zs_iinc (pc := 41) t199_41 (ls' := [(4, .int w9v), (5, .int w7v), (0, .ref 164), (1, .int a), (2, .int w1v), (3, .int w2x3)]) (zml mf199 (by decide)) rfl (c := w9v) w9e rfl ?_
          refine zs_goto (pc := 44) t199_44 ?_
          refine zGo.locals (ls' := [(0, .ref 164), (1, .int a), (2, .int w1v), (3, .int w2x3), (4, .int w9v)]) (by simp) ?_
          exact w2ih (w2m - 1) (by omega) w2x3 w9v ⟨by omega, by omega⟩ (by omega)
        · refine zs_if_ltF (pc := 31) t199_31 rfl (by omega) ?_
          refine zs_iload_n (pc := 34) t199_34 rfl ?_
          refine zs_iconst (pc := 35) t199_35 (v := 1) (by decide) ?_
          refine zs_iload (pc := 36) t199_36 rfl ?_
          obtain ⟨w10v, w10⟩ : ∃ v, (1 : Int32) <<< (w7v &&& 31) = v := ⟨_, rfl⟩
          have w10g := zrg w10v
          refine zs_ishl (pc := 38) t199_38 (c := w10v) w10 ?_
          obtain ⟨w11v, w11⟩ : ∃ v, w2x3 ||| w10v = v := ⟨_, rfl⟩
          have w11g := zrg w11v
          refine zs_ior (pc := 39) t199_39 (c := w11v) w11 ?_
          refine zs_istore_n (pc := 40) t199_40 (ls' := [(3, .int w11v), (5, .int w7v), (0, .ref 164), (1, .int a), (2, .int w1v), (4, .int w2x4)]) (zml mf199 (by decide)) rfl ?_
          obtain ⟨w12v, w12e, w12⟩ := ziadd (a := w2x4) (b := Int32.ofInt 1) rfl (show (Int32.ofInt 1).toInt = 1 by decide) (by omega) (by omega)
          refine zs_iinc (pc := 41) t199_41 (ls' := [(4, .int w12v), (3, .int w11v), (5, .int w7v), (0, .ref 164), (1, .int a), (2, .int w1v)]) (zml mf199 (by decide)) rfl (c := w12v) w12e rfl ?_
          refine zs_goto (pc := 44) t199_44 ?_
          refine zGo.locals (ls' := [(0, .ref 164), (1, .int a), (2, .int w1v), (3, .int w11v), (4, .int w12v)]) (by simp) ?_
          exact w2ih (w2m - 1) (by omega) w11v w12v ⟨by omega, by omega⟩ (by omega)
  refine zGo.locals (ls' := [(0, .ref 164), (1, .int a), (2, .int w1v), (3, .int (0 : Int32)), (4, .int (0 : Int32))]) (by simp) ?_
  have w13 := li0
  have w14 := li0
  exact w2L ((12 - 0 : Int).toNat) (0 : Int32) (0 : Int32) ⟨by decide, by decide⟩ (by omega)
theorem C197_164 {X : zX} {l : Launch} {M : zM} {Q : Option Value → zM → Prop} (hs : zSk zMc M) (hI : zIv cLo cHi M) (hQ : ∀ v : Int32, (-2147483648) ≤ v.toInt → v.toInt ≤ 2147483647 → Q (some (.int v)) M) : zCall X l 4 0 0 197 [.ref 164] M Q := by
  refine zs_in (by decide) mf197 (Nat.le_of_ble_eq_true rfl) ?_
  show zGo X l 4 0 0 197 0 [(0, .ref 164)] [] M _
  refine zs_iconst (pc := 0) t197_0 (v := 2) (by decide) ?_
  refine zs_istore_n (pc := 1) t197_1 (ls' := [(1, .int (2 : Int32)), (0, .ref 164)]) (zml mf197 (by decide)) rfl ?_
  refine zs_aload_n (pc := 2) t197_2 rfl ?_
  refine zs_iconst (pc := 3) t197_3 (v := 2) (by decide) ?_
  refine zs_invV (pc := 4) (k := 164) (as' := [.int (2 : Int32)]) (st := []) t197_4 mf198 rfl rfl (Or.inl ⟨by decide, (zk1 (hs.k fk_zMc_164))⟩) ⟨by decide, by decide, Nat.le_of_ble_eq_true rfl, Nat.le_of_ble_eq_true rfl⟩ (C198_164 hs hI ?_) (fun _ _ q => q)
  intro w1v w1a w1b
  show zGo X l 4 0 0 197 7 [(1, .int (2 : Int32)), (0, .ref 164)] [.int w1v] M _
  refine zs_aload_n (pc := 7) t197_7 rfl ?_
  refine zs_iconst (pc := 8) t197_8 (v := 2) (by decide) ?_
  refine zs_invV (pc := 9) (k := 164) (as' := [.int (2 : Int32)]) (st := [.int w1v]) t197_9 mf199 rfl rfl (Or.inl ⟨by decide, (zk1 (hs.k fk_zMc_164))⟩) ⟨by decide, by decide, Nat.le_of_ble_eq_true rfl, Nat.le_of_ble_eq_true rfl⟩ (C199_164 hs hI ?_) (fun _ _ q => q)
  intro w2v w2a w2b
  show zGo X l 4 0 0 197 12 [(1, .int (2 : Int32)), (0, .ref 164)] [.int w2v, .int w1v] M _
  obtain ⟨w3v, w3⟩ : ∃ v, v = w1v - w2v := ⟨_, rfl⟩
  have w3g := zrg w3v
  refine zs_isub (pc := 12) t197_12 (c := w3v) w3.symm ?_
  refine zs_istore_n (pc := 13) t197_13 (ls' := [(2, .int w3v), (1, .int (2 : Int32)), (0, .ref 164)]) (zml mf197 (by decide)) rfl ?_
  refine zs_iconst (pc := 14) t197_14 (v := 3) (by decide) ?_
  refine zs_istore_n (pc := 15) t197_15 (ls' := [(3, .int (3 : Int32)), (2, .int w3v), (1, .int (2 : Int32)), (0, .ref 164)]) (zml mf197 (by decide)) rfl ?_
  have w4L : ∀ (m : Nat) (w4x1 : Int32) (w4x2 : Int32) (w4x3 : Int32), (3 ≤ w4x3.toInt ∧ w4x3.toInt ≤ 9) → 9 - w4x3.toInt ≤ (m : Int) → zGo X l 4 0 0 197 16 [(0, .ref 164), (1, .int w4x1), (2, .int w4x2), (3, .int w4x3)] [] M Q := by
    intro m
    induction m using Nat.strongRecOn with
    | ind w4m w4ih =>
      intro w4x1 w4x2 w4x3 w4b3 w4q
      have w4g1 := zrg w4x1
      have w4g2 := zrg w4x2
      refine zs_iload_n (pc := 16) t197_16 rfl ?_
      refine zs_bipush (pc := 17) t197_17 (v := 8) (by decide) ?_
      by_cases w5 : 8 < w4x3.toInt
      · refine zs_icmp_gtT (pc := 19) t197_19 rfl li8 (by omega) ?_
        refine zs_iload_n (pc := 52) t197_52 rfl ?_
        exact zs_iret (pc := 53) t197_53 mr197 rfl (hQ _ (zrg _).1 (zrg _).2)
      · refine zs_icmp_gtF (pc := 19) t197_19 rfl li8 (by omega) ?_
        refine zs_aload_n (pc := 22) t197_22 rfl ?_
        refine zs_iload_n (pc := 23) t197_23 rfl ?_
        refine zs_invV (pc := 24) (k := 164) (as' := [.int w4x3]) (st := []) t197_24 mf198 rfl rfl (Or.inl ⟨by decide, (zk1 (hs.k fk_zMc_164))⟩) ⟨by decide, by decide, Nat.le_of_ble_eq_true rfl, Nat.le_of_ble_eq_true rfl⟩ (C198_164 hs hI ?_) (fun _ _ q => q)
        intro w6v w6a w6b
        show zGo X l 4 0 0 197 27 [(0, .ref 164), (1, .int w4x1), (2, .int w4x2), (3, .int w4x3)] [.int w6v] M _
        refine zs_aload_n (pc := 27) t197_27 rfl ?_
        refine zs_iload_n (pc := 28) t197_28 rfl ?_
        refine zs_invV (pc := 29) (k := 164) (as' := [.int w4x3]) (st := [.int w6v]) t197_29 mf199 rfl rfl (Or.inl ⟨by decide, (zk1 (hs.k fk_zMc_164))⟩) ⟨by decide, by decide, Nat.le_of_ble_eq_true rfl, Nat.le_of_ble_eq_true rfl⟩ (C199_164 hs hI ?_) (fun _ _ q => q)
        intro w7v w7a w7b
        show zGo X l 4 0 0 197 32 [(0, .ref 164), (1, .int w4x1), (2, .int w4x2), (3, .int w4x3)] [.int w7v, .int w6v] M _
        obtain ⟨w8v, w8⟩ : ∃ v, v = w6v - w7v := ⟨_, rfl⟩
        have w8g := zrg w8v
        refine zs_isub (pc := 32) t197_32 (c := w8v) w8.symm ?_
        refine zs_istore (pc := 33) t197_33 (ls' := [(4, .int w8v), (0, .ref 164), (1, .int w4x1), (2, .int w4x2), (3, .int w4x3)]) (zml mf197 (by decide)) rfl ?_
        refine zs_iload (pc := 35) t197_35 rfl ?_
        refine zs_iload_n (pc := 37) t197_37 rfl ?_
        by_cases w9 : w8v.toInt ≤ w4x2.toInt
        · refine zs_icmp_leT (pc := 38) t197_38 rfl rfl (by omega) ?_
          obtain ⟨w10v, w10e, w10⟩ := ziadd (a := w4x3) (b := Int32.ofInt 1) rfl (show (Int32.ofInt 1).toInt = 1 by decide) (by omega) (by omega)
          refine zs_iinc (pc := 46) t197_46 (ls' := [(3, .int w10v), (4, .int w8v), (0, .ref 164), (1, .int w4x1), (2, .int w4x2)]) (zml mf197 (by decide)) rfl (c := w10v) w10e rfl ?_
          refine zs_goto (pc := 49) t197_49 ?_
          refine zGo.locals (ls' := [(0, .ref 164), (1, .int w4x1), (2, .int w4x2), (3, .int w10v)]) (by simp) ?_
          exact w4ih (w4m - 1) (by omega) w4x1 w4x2 w10v ⟨by omega, by omega⟩ (by omega)
        · refine zs_icmp_leF (pc := 38) t197_38 rfl rfl (by omega) ?_
          refine zs_iload (pc := 41) t197_41 rfl ?_
          refine zs_istore_n (pc := 43) t197_43 (ls' := [(2, .int w8v), (4, .int w8v), (0, .ref 164), (1, .int w4x1), (3, .int w4x3)]) (zml mf197 (by decide)) rfl ?_
          refine zs_iload_n (pc := 44) t197_44 rfl ?_
          refine zs_istore_n (pc := 45) t197_45 (ls' := [(1, .int w4x3), (2, .int w8v), (4, .int w8v), (0, .ref 164), (3, .int w4x3)]) (zml mf197 (by decide)) rfl ?_
          obtain ⟨w11v, w11e, w11⟩ := ziadd (a := w4x3) (b := Int32.ofInt 1) rfl (show (Int32.ofInt 1).toInt = 1 by decide) (by omega) (by omega)
          refine zs_iinc (pc := 46) t197_46 (ls' := [(3, .int w11v), (1, .int w4x3), (2, .int w8v), (4, .int w8v), (0, .ref 164)]) (zml mf197 (by decide)) rfl (c := w11v) w11e rfl ?_
          refine zs_goto (pc := 49) t197_49 ?_
          refine zGo.locals (ls' := [(0, .ref 164), (1, .int w4x3), (2, .int w8v), (3, .int w11v)]) (by simp) ?_
          exact w4ih (w4m - 1) (by omega) w4x3 w8v w11v ⟨by omega, by omega⟩ (by omega)
  refine zGo.locals (ls' := [(0, .ref 164), (1, .int (2 : Int32)), (2, .int w3v), (3, .int (3 : Int32))]) (by simp) ?_
  have w12 := li2
  have w13 := li3
  exact w4L ((9 - 3 : Int).toNat) (2 : Int32) w3v (3 : Int32) ⟨by decide, by decide⟩ (by omega)
theorem C167_164 {X : zX} {l : Launch} {M : zM} {Q : Option Value → zM → Prop} (hs : zSk zMc M) (hI : zIv cLo cHi M) (hQ : ∀ v : Int32, (-2147483648) ≤ v.toInt → v.toInt ≤ 2147483647 → Q (some (.int v)) M) : zCall X l 1 0 0 167 [.ref 164] M Q := by
  refine zs_in (by decide) mf167 (Nat.le_of_ble_eq_true rfl) ?_
  show zGo X l 1 0 0 167 0 [(0, .ref 164)] [] M _
  refine zs_iconst (pc := 0) t167_0 (v := 0) (by decide) ?_
  refine zs_istore_n (pc := 1) t167_1 (ls' := [(1, .int (0 : Int32)), (0, .ref 164)]) (zml mf167 (by decide)) rfl ?_
  refine zs_iconst (pc := 2) t167_2 (v := 0) (by decide) ?_
  refine zs_istore_n (pc := 3) t167_3 (ls' := [(2, .int (0 : Int32)), (1, .int (0 : Int32)), (0, .ref 164)]) (zml mf167 (by decide)) rfl ?_
  have w1L : ∀ (m : Nat) (w1x1 : Int32) (w1x2 : Int32), (0 ≤ w1x2.toInt ∧ w1x2.toInt ≤ 20) → 20 - w1x2.toInt ≤ (m : Int) → zGo X l 1 0 0 167 4 [(0, .ref 164), (1, .int w1x1), (2, .int w1x2)] [] M Q := by
    intro m
    induction m using Nat.strongRecOn with
    | ind w1m w1ih =>
      intro w1x1 w1x2 w1b2 w1q
      have w1g1 := zrg w1x1
      refine zs_iload_n (pc := 4) t167_4 rfl ?_
      refine zs_aload_n (pc := 5) t167_5 rfl ?_
      have w2 := ib164_4 hI
      refine zs_get (pc := 6) t167_6 (by decide) (zk1 (hs.k fk_zMc_164)) (zfvi rfl rfl) ?_
      by_cases w3 : (zI M 164 4).toInt ≤ w1x2.toInt
      · refine zs_icmp_geT (pc := 9) t167_9 rfl rfl (by omega) ?_
        refine zs_iload_n (pc := 42) t167_42 rfl ?_
        exact zs_iret (pc := 43) t167_43 mr167 rfl (hQ _ (zrg _).1 (zrg _).2)
      · refine zs_icmp_geF (pc := 9) t167_9 rfl rfl (by omega) ?_
        refine zs_aload_n (pc := 12) t167_12 rfl ?_
        refine zs_get (pc := 13) t167_13 (by decide) (zk1 (hs.k fk_zMc_164)) (hs.p rfl fv_zMc_164_1) ?_
        refine zs_iload_n (pc := 16) t167_16 rfl ?_
        refine zs_invV (pc := 17) (k := 165) (as' := [.int w1x2]) (st := []) t167_17 mf126 rfl rfl (Or.inl ⟨by decide, (zk1 (hs.k fk_zMc_165))⟩) ⟨by decide, by decide, Nat.le_of_ble_eq_true rfl, Nat.le_of_ble_eq_true rfl⟩ (zs_in (by decide) mf126 (Nat.le_of_ble_eq_true rfl) ?_) (fun _ _ q => q)
        show zGo X l 0 0 0 126 0 [(0, .ref 165), (1, .int w1x2)] [] M _
        refine zs_iload_n (pc := 0) t126_0 rfl ?_
        refine zs_if_ltF (pc := 1) t126_1 rfl (by omega) ?_
        refine zs_iload_n (pc := 4) t126_4 rfl ?_
        refine zs_aload_n (pc := 5) t126_5 rfl ?_
        have w4 := ib165_2 hI
        refine zs_get (pc := 6) t126_6 (by decide) (zk1 (hs.k fk_zMc_165)) (zfvi rfl rfl) ?_
        by_cases w5 : (zI M 165 2).toInt ≤ w1x2.toInt
        · refine zs_icmp_geT (pc := 9) t126_9 rfl rfl (by omega) ?_
          refine zs_aconst_null (pc := 21) t126_21 ?_
          refine zs_aret0 (pc := 22) t126_22 (by rw [mr126]; rfl) ?_
          show zGo X l 1 0 0 167 20 [(0, .ref 164), (1, .int w1x1), (2, .int w1x2)] [.null] M _
          refine zs_astore_n0 (pc := 20) t167_20 (ls' := [(3, .null), (0, .ref 164), (1, .int w1x1), (2, .int w1x2)]) (zml mf167 (by decide)) rfl ?_
          refine zs_iload_n (pc := 21) t167_21 rfl ?_
          refine zs_aload_n0 (pc := 22) t167_22 rfl ?_
          refine zs_ifnonnullF (pc := 23) t167_23 ?_
          refine zs_iconst (pc := 26) t167_26 (v := 0) (by decide) ?_
          refine zs_goto (pc := 27) t167_27 ?_
          obtain ⟨w6v, w6e, w6⟩ := ziadd (a := w1x1) (b := (0 : Int32)) rfl li0 (by omega) (by omega)
          refine zs_iadd (pc := 34) t167_34 (c := w6v) w6e ?_
          refine zs_istore_n (pc := 35) t167_35 (ls' := [(1, .int w6v), (3, .null), (0, .ref 164), (2, .int w1x2)]) (zml mf167 (by decide)) rfl ?_
          obtain ⟨w7v, w7e, w7⟩ := ziadd (a := w1x2) (b := Int32.ofInt 1) rfl (show (Int32.ofInt 1).toInt = 1 by decide) (by omega) (by omega)
          refine zs_iinc (pc := 36) t167_36 (ls' := [(2, .int w7v), (1, .int w6v), (3, .null), (0, .ref 164)]) (zml mf167 (by decide)) rfl (c := w7v) w7e rfl ?_
          refine zs_goto (pc := 39) t167_39 ?_
          refine zGo.locals (ls' := [(0, .ref 164), (1, .int w6v), (2, .int w7v)]) (by simp) ?_
          exact w1ih (w1m - 1) (by omega) w6v w7v ⟨by omega, by omega⟩ (by omega)
        · refine zs_icmp_geF (pc := 9) t126_9 rfl rfl (by omega) ?_
          refine zs_aload_n (pc := 12) t126_12 rfl ?_
          refine zs_get (pc := 13) t126_13 (by decide) (zk1 (hs.k fk_zMc_165)) (hs.p rfl fv_zMc_165_1) ?_
          refine zs_iload_n (pc := 16) t126_16 rfl ?_
          obtain ⟨w8n, w8⟩ : ∃ n : Nat, w1x2.toInt = (n : Int) := ⟨w1x2.toInt.toNat, by omega⟩
          have w9 : w8n < 20 := by omega
          refine zs_aald (pc := 17) t126_17 (j := w8n) (Or.inr (zk1 (hs.k fk_zMc_179))) w8 (zk2 (hs.k fk_zMc_179) (by omega)) (hs.a (fpT181 w8n w9)) ?_
          refine zs_goto (pc := 18) t126_18 ?_
          refine zs_aret (pc := 22) t126_22 (by rw [mr126]; rfl) ?_
          show zGo X l 1 0 0 167 20 [(0, .ref 164), (1, .int w1x1), (2, .int w1x2)] [.ref (181 + 3 * w8n)] M _
          refine zs_astore_n (pc := 20) t167_20 (ls' := [(3, .ref (181 + 3 * w8n)), (0, .ref 164), (1, .int w1x1), (2, .int w1x2)]) (zml mf167 (by decide)) rfl ?_
          refine zs_iload_n (pc := 21) t167_21 rfl ?_
          refine zs_aload_n (pc := 22) t167_22 rfl ?_
          refine zs_ifnonnullT (pc := 23) t167_23 ?_
          refine zs_aload_n (pc := 30) t167_30 rfl ?_
          have w10 := ibT181_0_3 hI w9
          refine zs_get (pc := 31) t167_31 (by decide) (zk1 (hs.k (fT181_0 w8n w9))) (zfvi rfl rfl) ?_
          obtain ⟨w11v, w11⟩ : ∃ v, v = w1x1 + (zI M (181 + 3 * w8n) 3) := ⟨_, rfl⟩
          have w11g := zrg w11v
          refine zs_iadd (pc := 34) t167_34 (c := w11v) w11.symm ?_
          refine zs_istore_n (pc := 35) t167_35 (ls' := [(1, .int w11v), (3, .ref (181 + 3 * w8n)), (0, .ref 164), (2, .int w1x2)]) (zml mf167 (by decide)) rfl ?_
          obtain ⟨w12v, w12e, w12⟩ := ziadd (a := w1x2) (b := Int32.ofInt 1) rfl (show (Int32.ofInt 1).toInt = 1 by decide) (by omega) (by omega)
          refine zs_iinc (pc := 36) t167_36 (ls' := [(2, .int w12v), (1, .int w11v), (3, .ref (181 + 3 * w8n)), (0, .ref 164)]) (zml mf167 (by decide)) rfl (c := w12v) w12e rfl ?_
          refine zs_goto (pc := 39) t167_39 ?_
          refine zGo.locals (ls' := [(0, .ref 164), (1, .int w11v), (2, .int w12v)]) (by simp) ?_
          exact w1ih (w1m - 1) (by omega) w11v w12v ⟨by omega, by omega⟩ (by omega)
  refine zGo.locals (ls' := [(0, .ref 164), (1, .int (0 : Int32)), (2, .int (0 : Int32))]) (by simp) ?_
  have w13 := li0
  have w14 := li0
  exact w1L ((20 - 0 : Int).toNat) (0 : Int32) (0 : Int32) ⟨by decide, by decide⟩ (by omega)
theorem C168_164 {X : zX} {l : Launch} {M : zM} {Q : Option Value → zM → Prop} (hs : zSk zMc M) (hI : zIv cLo cHi M) (hQ : ∀ v : Int32, (-2147483648) ≤ v.toInt → v.toInt ≤ 2147483647 → Q (some (.int v)) M) : zCall X l 1 0 0 168 [.ref 164] M Q := by
  refine zs_in (by decide) mf168 (Nat.le_of_ble_eq_true rfl) ?_
  show zGo X l 1 0 0 168 0 [(0, .ref 164)] [] M _
  refine zs_iconst (pc := 0) t168_0 (v := 0) (by decide) ?_
  refine zs_istore_n (pc := 1) t168_1 (ls' := [(1, .int (0 : Int32)), (0, .ref 164)]) (zml mf168 (by decide)) rfl ?_
  refine zs_iconst (pc := 2) t168_2 (v := 0) (by decide) ?_
  refine zs_istore_n (pc := 3) t168_3 (ls' := [(2, .int (0 : Int32)), (1, .int (0 : Int32)), (0, .ref 164)]) (zml mf168 (by decide)) rfl ?_
  have w1L : ∀ (m : Nat) (w1x1 : Int32) (w1x2 : Int32), (0 ≤ w1x2.toInt ∧ w1x2.toInt ≤ 20) → 20 - w1x2.toInt ≤ (m : Int) → zGo X l 1 0 0 168 4 [(0, .ref 164), (1, .int w1x1), (2, .int w1x2)] [] M Q := by
    intro m
    induction m using Nat.strongRecOn with
    | ind w1m w1ih =>
      intro w1x1 w1x2 w1b2 w1q
      have w1g1 := zrg w1x1
      refine zs_iload_n (pc := 4) t168_4 rfl ?_
      refine zs_aload_n (pc := 5) t168_5 rfl ?_
      have w2 := ib164_9 hI
      refine zs_get (pc := 6) t168_6 (by decide) (zk1 (hs.k fk_zMc_164)) (zfvi rfl rfl) ?_
      by_cases w3 : (zI M 164 9).toInt ≤ w1x2.toInt
      · refine zs_icmp_geT (pc := 9) t168_9 rfl rfl (by omega) ?_
        refine zs_iload_n (pc := 29) t168_29 rfl ?_
        exact zs_iret (pc := 30) t168_30 mr168 rfl (hQ _ (zrg _).1 (zrg _).2)
      · refine zs_icmp_geF (pc := 9) t168_9 rfl rfl (by omega) ?_
        refine zs_iload_n (pc := 12) t168_12 rfl ?_
        refine zs_aload_n (pc := 13) t168_13 rfl ?_
        refine zs_get (pc := 14) t168_14 (by decide) (zk1 (hs.k fk_zMc_164)) (hs.p rfl fv_zMc_164_11) ?_
        refine zs_iload_n (pc := 17) t168_17 rfl ?_
        obtain ⟨w4n, w4⟩ : ∃ n : Nat, w1x2.toInt = (n : Int) := ⟨w1x2.toInt.toNat, by omega⟩
        have w5 := ib321 hI w4n
        refine zs_iald (pc := 18) t168_18 (j := w4n) (by decide) (zk1 (hs.k fk_zMc_321)) w4 (zk2 (hs.k fk_zMc_321) (by omega)) rfl ?_
        refine zs_invS (pc := 19) (as := [.int w1x1, .int (zI M 321 w4n)]) (st := []) t168_19 (by decide) mf21 rfl rfl ⟨by decide, by decide, Nat.le_of_ble_eq_true rfl, Nat.le_of_ble_eq_true rfl⟩ (zs_in (by decide) mf21 (Nat.le_of_ble_eq_true rfl) ?_) (fun _ _ q => q)
        show zGo X l 0 0 0 21 0 [(0, .int w1x1), (1, .int (zI M 321 w4n))] [] M _
        refine zs_iload_n (pc := 0) t21_0 rfl ?_
        refine zs_iload_n (pc := 1) t21_1 rfl ?_
        by_cases w6 : w1x1.toInt < (zI M 321 w4n).toInt
        · refine zs_icmp_ltT (pc := 2) t21_2 rfl rfl (by omega) ?_
          refine zs_iload_n (pc := 9) t21_9 rfl ?_
          refine zs_iret (pc := 10) t21_10 mr21 rfl ?_
          show zGo X l 1 0 0 168 22 [(0, .ref 164), (1, .int w1x1), (2, .int w1x2)] [.int (zI M 321 w4n)] M _
          refine zs_istore_n (pc := 22) t168_22 (ls' := [(1, .int (zI M 321 w4n)), (0, .ref 164), (2, .int w1x2)]) (zml mf168 (by decide)) rfl ?_
          obtain ⟨w7v, w7e, w7⟩ := ziadd (a := w1x2) (b := Int32.ofInt 1) rfl (show (Int32.ofInt 1).toInt = 1 by decide) (by omega) (by omega)
          refine zs_iinc (pc := 23) t168_23 (ls' := [(2, .int w7v), (1, .int (zI M 321 w4n)), (0, .ref 164)]) (zml mf168 (by decide)) rfl (c := w7v) w7e rfl ?_
          refine zs_goto (pc := 26) t168_26 ?_
          refine zGo.locals (ls' := [(0, .ref 164), (1, .int (zI M 321 w4n)), (2, .int w7v)]) (by simp) ?_
          exact w1ih (w1m - 1) (by omega) (zI M 321 w4n) w7v ⟨by omega, by omega⟩ (by omega)
        · refine zs_icmp_ltF (pc := 2) t21_2 rfl rfl (by omega) ?_
          refine zs_iload_n (pc := 5) t21_5 rfl ?_
          refine zs_goto (pc := 6) t21_6 ?_
          refine zs_iret (pc := 10) t21_10 mr21 rfl ?_
          show zGo X l 1 0 0 168 22 [(0, .ref 164), (1, .int w1x1), (2, .int w1x2)] [.int w1x1] M _
          refine zs_istore_n (pc := 22) t168_22 (ls' := [(1, .int w1x1), (0, .ref 164), (2, .int w1x2)]) (zml mf168 (by decide)) rfl ?_
          obtain ⟨w8v, w8e, w8⟩ := ziadd (a := w1x2) (b := Int32.ofInt 1) rfl (show (Int32.ofInt 1).toInt = 1 by decide) (by omega) (by omega)
          refine zs_iinc (pc := 23) t168_23 (ls' := [(2, .int w8v), (1, .int w1x1), (0, .ref 164)]) (zml mf168 (by decide)) rfl (c := w8v) w8e rfl ?_
          refine zs_goto (pc := 26) t168_26 ?_
          refine zGo.locals (ls' := [(0, .ref 164), (1, .int w1x1), (2, .int w8v)]) (by simp) ?_
          exact w1ih (w1m - 1) (by omega) w1x1 w8v ⟨by omega, by omega⟩ (by omega)
  refine zGo.locals (ls' := [(0, .ref 164), (1, .int (0 : Int32)), (2, .int (0 : Int32))]) (by simp) ?_
  have w9 := li0
  have w10 := li0
  exact w1L ((20 - 0 : Int).toNat) (0 : Int32) (0 : Int32) ⟨by decide, by decide⟩ (by omega)
theorem C171_164 {X : zX} {l : Launch} {M : zM} {Q : Option Value → zM → Prop} {a : Int32} (hs : zSk zMc M) (hI : zIv cLo cHi M) (hQ : ∀ v : Int32, (-2147483648) ≤ v.toInt → v.toInt ≤ 2147483647 → Q (some (.int v)) M) : zCall X l 2 0 0 171 [.ref 164, .int a] M Q := by
  have ga := zrg a
  refine zs_in (by decide) mf171 (Nat.le_of_ble_eq_true rfl) ?_
  show zGo X l 2 0 0 171 0 [(0, .ref 164), (1, .int a)] [] M _
  refine zs_bipush (pc := 0) t171_0 (v := -2) (by decide) ?_
  refine zs_istore_n (pc := 2) t171_2 (ls' := [(2, .int (-2 : Int32)), (0, .ref 164), (1, .int a)]) (zml mf171 (by decide)) rfl ?_
  refine zs_iconst (pc := 3) t171_3 (v := 0) (by decide) ?_
  refine zs_istore_n (pc := 4) t171_4 (ls' := [(3, .int (0 : Int32)), (2, .int (-2 : Int32)), (0, .ref 164), (1, .int a)]) (zml mf171 (by decide)) rfl ?_
  refine zs_iconst (pc := 5) t171_5 (v := 0) (by decide) ?_
  refine zs_istore (pc := 6) t171_6 (ls' := [(4, .int (0 : Int32)), (3, .int (0 : Int32)), (2, .int (-2 : Int32)), (0, .ref 164), (1, .int a)]) (zml mf171 (by decide)) rfl ?_
  have w1L : ∀ (m : Nat) (w1x2 : Int32) (w1x3 : Int32) (w1x4 : Int32), (0 ≤ w1x4.toInt ∧ w1x4.toInt ≤ 12) → 12 - w1x4.toInt ≤ (m : Int) → zGo X l 2 0 0 171 8 [(0, .ref 164), (1, .int a), (2, .int w1x2), (3, .int w1x3), (4, .int w1x4)] [] M Q := by
    intro m
    induction m using Nat.strongRecOn with
    | ind w1m w1ih =>
      intro w1x2 w1x3 w1x4 w1b4 w1q
      have w1g2 := zrg w1x2
      have w1g3 := zrg w1x3
      refine zs_iload (pc := 8) t171_8 rfl ?_
      refine zs_aload_n (pc := 10) t171_10 rfl ?_
      have w2 := ib164_5 hI
      refine zs_get (pc := 11) t171_11 (by decide) (zk1 (hs.k fk_zMc_164)) (zfvi rfl rfl) ?_
      by_cases w3 : (zI M 164 5).toInt ≤ w1x4.toInt
      · refine zs_icmp_geT (pc := 14) t171_14 rfl rfl (by omega) ?_
        refine zs_iload_n (pc := 45) t171_45 rfl ?_
        exact zs_iret (pc := 46) t171_46 mr171 rfl (hQ _ (zrg _).1 (zrg _).2)
      · refine zs_icmp_geF (pc := 14) t171_14 rfl rfl (by omega) ?_
        refine zs_aload_n (pc := 17) t171_17 rfl ?_
        refine zs_iload (pc := 18) t171_18 rfl ?_
        refine zs_iload_n (pc := 20) t171_20 rfl ?_
        refine zs_invV (pc := 21) (k := 164) (as' := [.int w1x4, .int a]) (st := []) t171_21 mf146 rfl rfl (Or.inl ⟨by decide, (zk1 (hs.k fk_zMc_164))⟩) ⟨by decide, by decide, Nat.le_of_ble_eq_true rfl, Nat.le_of_ble_eq_true rfl⟩ (C146_164 hs hI ?_) (fun _ _ q => q)
        intro w4v w4a w4b
        show zGo X l 2 0 0 171 24 [(0, .ref 164), (1, .int a), (2, .int w1x2), (3, .int w1x3), (4, .int w1x4)] [.int w4v] M _
        refine zs_iload_n (pc := 24) t171_24 rfl ?_
        by_cases w5 : w4v.toInt ≤ w1x3.toInt
        · refine zs_icmp_leT (pc := 25) t171_25 rfl rfl (by omega) ?_
          obtain ⟨w6v, w6e, w6⟩ := ziadd (a := w1x4) (b := Int32.ofInt 1) rfl (show (Int32.ofInt 1).toInt = 1 by decide) (by omega) (by omega)
          refine zs_iinc (pc := 39) t171_39 (ls' := [(4, .int w6v), (0, .ref 164), (1, .int a), (2, .int w1x2), (3, .int w1x3)]) (zml mf171 (by decide)) rfl (c := w6v) w6e rfl ?_
          refine zs_goto (pc := 42) t171_42 ?_
          refine zGo.locals (ls' := [(0, .ref 164), (1, .int a), (2, .int w1x2), (3, .int w1x3), (4, .int w6v)]) (by simp) ?_
          exact w1ih (w1m - 1) (by omega) w1x2 w1x3 w6v ⟨by omega, by omega⟩ (by omega)
        · refine zs_icmp_leF (pc := 25) t171_25 rfl rfl (by omega) ?_
          refine zs_aload_n (pc := 28) t171_28 rfl ?_
          refine zs_iload (pc := 29) t171_29 rfl ?_
          refine zs_iload_n (pc := 31) t171_31 rfl ?_
          refine zs_invV (pc := 32) (k := 164) (as' := [.int w1x4, .int a]) (st := []) t171_32 mf146 rfl rfl (Or.inl ⟨by decide, (zk1 (hs.k fk_zMc_164))⟩) ⟨by decide, by decide, Nat.le_of_ble_eq_true rfl, Nat.le_of_ble_eq_true rfl⟩ (C146_164 hs hI ?_) (fun _ _ q => q)
          intro w7v w7a w7b
          show zGo X l 2 0 0 171 35 [(0, .ref 164), (1, .int a), (2, .int w1x2), (3, .int w1x3), (4, .int w1x4)] [.int w7v] M _
          refine zs_istore_n (pc := 35) t171_35 (ls' := [(3, .int w7v), (0, .ref 164), (1, .int a), (2, .int w1x2), (4, .int w1x4)]) (zml mf171 (by decide)) rfl ?_
          refine zs_iload (pc := 36) t171_36 rfl ?_
          refine zs_istore_n (pc := 38) t171_38 (ls' := [(2, .int w1x4), (3, .int w7v), (0, .ref 164), (1, .int a), (4, .int w1x4)]) (zml mf171 (by decide)) rfl ?_
          obtain ⟨w8v, w8e, w8⟩ := ziadd (a := w1x4) (b := Int32.ofInt 1) rfl (show (Int32.ofInt 1).toInt = 1 by decide) (by omega) (by omega)
          refine zs_iinc (pc := 39) t171_39 (ls' := [(4, .int w8v), (2, .int w1x4), (3, .int w7v), (0, .ref 164), (1, .int a)]) (zml mf171 (by decide)) rfl (c := w8v) w8e rfl ?_
          refine zs_goto (pc := 42) t171_42 ?_
          refine zGo.locals (ls' := [(0, .ref 164), (1, .int a), (2, .int w1x4), (3, .int w7v), (4, .int w8v)]) (by simp) ?_
          exact w1ih (w1m - 1) (by omega) w1x4 w7v w8v ⟨by omega, by omega⟩ (by omega)
  refine zGo.locals (ls' := [(0, .ref 164), (1, .int a), (2, .int (-2 : Int32)), (3, .int (0 : Int32)), (4, .int (0 : Int32))]) (by simp) ?_
  have w9 := lin2
  have w10 := li0
  have w11 := li0
  exact w1L ((12 - 0 : Int).toNat) (-2 : Int32) (0 : Int32) (0 : Int32) ⟨by decide, by decide⟩ (by omega)
theorem C158_325_166 {X : zX} {l : Launch} {M : zM} {Q : Option Value → zM → Prop} {a : Int32} (hs : zSk zMc M) (hI : zIv cLo cHi M) (hQ : ∀ (M' : zM) (v : Int32), zSk zMc M' → zIv cLo cHi M' → zFr [(330, 331, none)] M M' → 0 ≤ v.toInt → v.toInt ≤ 60 → Q (some (.int v)) M') : zCall X l 1 0 0 158 [.ref 325, .ref 166, .int a] M Q := by
  have ga := zrg a
  refine zs_in (by decide) mf158 (Nat.le_of_ble_eq_true rfl) ?_
  show zGo X l 1 0 0 158 0 [(0, .ref 325), (1, .ref 166), (2, .int a)] [] M _
  refine zs_iconst (pc := 0) t158_0 (v := 0) (by decide) ?_
  refine zs_istore_n (pc := 1) t158_1 (ls' := [(3, .int (0 : Int32)), (0, .ref 325), (1, .ref 166), (2, .int a)]) (zml mf158 (by decide)) rfl ?_
  refine zs_iconst (pc := 2) t158_2 (v := 0) (by decide) ?_
  refine zs_istore (pc := 3) t158_3 (ls' := [(4, .int (0 : Int32)), (3, .int (0 : Int32)), (0, .ref 325), (1, .ref 166), (2, .int a)]) (zml mf158 (by decide)) rfl ?_
  have w1L : ∀ (m : Nat) (w1x3 : Int32) (w1x4 : Int32) (w1M : zM), (0 ≤ w1x3.toInt ∧ w1x3.toInt ≤ 60) → (0 ≤ w1x4.toInt ∧ w1x4.toInt ≤ 60) → zSk zMc w1M → zIv cLo cHi w1M → zFr [(330, 331, none)] M w1M → 60 - w1x4.toInt ≤ (m : Int) → zGo X l 1 0 0 158 5 [(0, .ref 325), (1, .ref 166), (2, .int a), (3, .int w1x3), (4, .int w1x4)] [] w1M Q := by
    intro m
    induction m using Nat.strongRecOn with
    | ind w1m w1ih =>
      intro w1x3 w1x4 w1M w1b3 w1b4 w1s w1I w1F w1q
      refine zs_iload (pc := 5) t158_5 rfl ?_
      refine zs_aload_n (pc := 7) t158_7 rfl ?_
      refine zs_invV (pc := 8) (k := 166) (as' := []) (st := [.int w1x4]) t158_8 mf159 rfl rfl (Or.inl ⟨by decide, (zk1 (w1s.k fk_zMc_166))⟩) ⟨by decide, by decide, Nat.le_of_ble_eq_true rfl, Nat.le_of_ble_eq_true rfl⟩ (zs_in (by decide) mf159 (Nat.le_of_ble_eq_true rfl) ?_) (fun _ _ q => q)
      show zGo X l 0 0 0 159 0 [(0, .ref 166)] [] w1M _
      refine zs_aload_n (pc := 0) t159_0 rfl ?_
      have w2 := ib166_15 hI
      refine zs_get (pc := 1) t159_1 (by decide) (zk1 (w1s.k fk_zMc_166)) (zfvi rfl ((w1F 166 15 rfl).trans rfl)) ?_
      refine zs_iret (pc := 4) t159_4 mr159 rfl ?_
      show zGo X l 1 0 0 158 11 [(0, .ref 325), (1, .ref 166), (2, .int a), (3, .int w1x3), (4, .int w1x4)] [.int (zI M 166 15), .int w1x4] w1M _
      by_cases w3 : (zI M 166 15).toInt ≤ w1x4.toInt
      · refine zs_icmp_geT (pc := 11) t158_11 rfl rfl (by omega) ?_
        refine zs_iload_n (pc := 132) t158_132 rfl ?_
        exact zs_iret (pc := 133) t158_133 mr158 rfl (hQ _ _ w1s w1I ((zFr.refl).trans (w1F.mono rfl)) (by omega) (by omega))
      · refine zs_icmp_geF (pc := 11) t158_11 rfl rfl (by omega) ?_
        refine zs_iload_n (pc := 14) t158_14 rfl ?_
        refine zs_bipush (pc := 15) t158_15 (v := 60) (by decide) ?_
        by_cases w4 : 60 ≤ w1x3.toInt
        · refine zs_icmp_geT (pc := 17) t158_17 rfl li60 (by omega) ?_
          refine zs_iload_n (pc := 132) t158_132 rfl ?_
          exact zs_iret (pc := 133) t158_133 mr158 rfl (hQ _ _ w1s w1I ((zFr.refl).trans (w1F.mono rfl)) (by omega) (by omega))
        · refine zs_icmp_geF (pc := 17) t158_17 rfl li60 (by omega) ?_
          refine zs_aload_n (pc := 20) t158_20 rfl ?_
          refine zs_iload (pc := 21) t158_21 rfl ?_
          refine zs_invV (pc := 23) (k := 166) (as' := [.int w1x4]) (st := []) t158_23 mf160 rfl rfl (Or.inl ⟨by decide, (zk1 (w1s.k fk_zMc_166))⟩) ⟨by decide, by decide, Nat.le_of_ble_eq_true rfl, Nat.le_of_ble_eq_true rfl⟩ (zs_in (by decide) mf160 (Nat.le_of_ble_eq_true rfl) ?_) (fun _ _ q => q)
          show zGo X l 0 0 0 160 0 [(0, .ref 166), (1, .int w1x4)] [] w1M _
          refine zs_iload_n (pc := 0) t160_0 rfl ?_
          refine zs_if_ltF (pc := 1) t160_1 rfl (by omega) ?_
          refine zs_iload_n (pc := 4) t160_4 rfl ?_
          refine zs_aload_n (pc := 5) t160_5 rfl ?_
          refine zs_get (pc := 6) t160_6 (by decide) (zk1 (w1s.k fk_zMc_166)) (zfvi rfl ((w1F 166 15 rfl).trans rfl)) ?_
          by_cases w5 : (zI M 166 15).toInt ≤ w1x4.toInt
          · refine zs_icmp_geT (pc := 9) t160_9 rfl rfl (by omega) ?_
            refine zs_iconst (pc := 26) t160_26 (v := 0) (by decide) ?_
            refine zs_iret (pc := 27) t160_27 mr160 (by decide) ?_
            show zGo X l 1 0 0 158 26 [(0, .ref 325), (1, .ref 166), (2, .int a), (3, .int w1x3), (4, .int w1x4)] [.int (0 : Int32)] w1M _
            refine zs_istore (pc := 26) t158_26 (ls' := [(5, .int (0 : Int32)), (0, .ref 325), (1, .ref 166), (2, .int a), (3, .int w1x3), (4, .int w1x4)]) (zml mf158 (by decide)) rfl ?_
            refine zs_iload (pc := 28) t158_28 rfl ?_
            refine zs_iload_n (pc := 30) t158_30 rfl ?_
            by_cases w6 : a.toInt ≤ 0
            · refine zs_icmp_geT (pc := 31) t158_31 li0 rfl (by omega) ?_
              refine zs_aload_n (pc := 37) t158_37 rfl ?_
              refine zs_iload (pc := 38) t158_38 rfl ?_
              refine zs_invV (pc := 40) (k := 166) (as' := [.int w1x4]) (st := []) t158_40 mf161 rfl rfl (Or.inl ⟨by decide, (zk1 (w1s.k fk_zMc_166))⟩) ⟨by decide, by decide, Nat.le_of_ble_eq_true rfl, Nat.le_of_ble_eq_true rfl⟩ (zs_in (by decide) mf161 (Nat.le_of_ble_eq_true rfl) ?_) (fun _ _ q => q)
              show zGo X l 0 0 0 161 0 [(0, .ref 166), (1, .int w1x4)] [] w1M _
              refine zs_iload_n (pc := 0) t161_0 rfl ?_
              refine zs_if_ltF (pc := 1) t161_1 rfl (by omega) ?_
              refine zs_iload_n (pc := 4) t161_4 rfl ?_
              refine zs_aload_n (pc := 5) t161_5 rfl ?_
              refine zs_get (pc := 6) t161_6 (by decide) (zk1 (w1s.k fk_zMc_166)) (zfvi rfl ((w1F 166 15 rfl).trans rfl)) ?_
              by_cases w7 : (zI M 166 15).toInt ≤ w1x4.toInt
              · refine zs_icmp_geT (pc := 9) t161_9 rfl rfl (by omega) ?_
                refine zs_iconst (pc := 26) t161_26 (v := 0) (by decide) ?_
                refine zs_iret (pc := 27) t161_27 mr161 (by decide) ?_
                show zGo X l 1 0 0 158 43 [(5, .int (0 : Int32)), (0, .ref 325), (1, .ref 166), (2, .int a), (3, .int w1x3), (4, .int w1x4)] [.int (0 : Int32)] w1M _
                refine zs_istore (pc := 43) t158_43 (ls' := [(6, .int (0 : Int32)), (5, .int (0 : Int32)), (0, .ref 325), (1, .ref 166), (2, .int a), (3, .int w1x3), (4, .int w1x4)]) (zml mf158 (by decide)) rfl ?_
                refine zs_iload_n (pc := 45) t158_45 rfl ?_
                refine zs_istore (pc := 46) t158_46 (ls' := [(7, .int w1x3), (6, .int (0 : Int32)), (5, .int (0 : Int32)), (0, .ref 325), (1, .ref 166), (2, .int a), (3, .int w1x3), (4, .int w1x4)]) (zml mf158 (by decide)) rfl ?_
                have w8L : ∀ (m : Nat) (w8x7 : Int32) (w8M : zM), (0 ≤ w8x7.toInt ∧ w8x7.toInt ≤ 59) → zSk zMc w8M → zIv cLo cHi w8M → zFr [(330, 331, none)] w1M w8M → w8x7.toInt ≤ (m : Int) → zGo X l 1 0 0 158 48 [(0, .ref 325), (1, .ref 166), (2, .int a), (3, .int w1x3), (4, .int w1x4), (5, .int (0 : Int32)), (6, .int (0 : Int32)), (7, .int w8x7)] [] w8M Q := by
                  intro m
                  induction m using Nat.strongRecOn with
                  | ind w8m w8ih =>
                    intro w8x7 w8M w8b7 w8s w8I w8F w8q
                    refine zs_iload (pc := 48) t158_48 rfl ?_
                    by_cases w9 : w8x7.toInt ≤ 0
                    · refine zs_if_leT (pc := 50) t158_50 rfl (by omega) ?_
                      refine zs_aload_n (pc := 105) t158_105 rfl ?_
                      refine zs_get (pc := 106) t158_106 (by decide) (zk1 (w8s.k fk_zMc_325)) (w8s.p rfl fv_zMc_325_6) ?_
                      refine zs_iload (pc := 109) t158_109 rfl ?_
                      refine zs_iload (pc := 111) t158_111 rfl ?_
                      obtain ⟨w10n, w10⟩ : ∃ n : Nat, w8x7.toInt = (n : Int) := ⟨w8x7.toInt.toNat, by omega⟩
                      have w11 : zIv cLo cHi (zsI w8M 330 w10n (0 : Int32)) := zIv.put w8I (show (-2147483648) ≤ (0 : Int32).toInt ∧ (0 : Int32).toInt ≤ 2147483647 from (zrg (0 : Int32)))
                      refine zs_iast (pc := 113) t158_113 (j := w10n) (by decide) (zk1 (w8s.k fk_zMc_330)) w10 (zk2 (w8s.k fk_zMc_330) (by omega)) ?_
                      refine zs_aload_n (pc := 114) t158_114 rfl ?_
                      refine zs_get (pc := 115) t158_115 (by decide) (zk1 (w8s.k fk_zMc_325)) (w8s.p rfl fv_zMc_325_7) ?_
                      refine zs_iload (pc := 118) t158_118 rfl ?_
                      refine zs_iload (pc := 120) t158_120 rfl ?_
                      have w12 : zIv cLo cHi (zsI (zsI w8M 330 w10n (0 : Int32)) 331 w10n (0 : Int32)) := zIv.put w11 (show (-2147483648) ≤ (0 : Int32).toInt ∧ (0 : Int32).toInt ≤ 2147483647 from (zrg (0 : Int32)))
                      refine zs_iast (pc := 122) t158_122 (j := w10n) (by decide) (zk1 (w8s.k fk_zMc_331)) w10 (zk2 (w8s.k fk_zMc_331) (by omega)) ?_
                      obtain ⟨w13v, w13e, w13⟩ := ziadd (a := w1x3) (b := Int32.ofInt 1) rfl (show (Int32.ofInt 1).toInt = 1 by decide) (by omega) (by omega)
                      refine zs_iinc (pc := 123) t158_123 (ls' := [(3, .int w13v), (0, .ref 325), (1, .ref 166), (2, .int a), (4, .int w1x4), (5, .int (0 : Int32)), (6, .int (0 : Int32)), (7, .int w8x7)]) (zml mf158 (by decide)) rfl (c := w13v) w13e rfl ?_
                      obtain ⟨w14v, w14e, w14⟩ := ziadd (a := w1x4) (b := Int32.ofInt 1) rfl (show (Int32.ofInt 1).toInt = 1 by decide) (by omega) (by omega)
                      refine zs_iinc (pc := 126) t158_126 (ls' := [(4, .int w14v), (3, .int w13v), (0, .ref 325), (1, .ref 166), (2, .int a), (5, .int (0 : Int32)), (6, .int (0 : Int32)), (7, .int w8x7)]) (zml mf158 (by decide)) rfl (c := w14v) w14e rfl ?_
                      refine zs_goto (pc := 129) t158_129 ?_
                      refine zGo.locals (ls' := [(0, .ref 325), (1, .ref 166), (2, .int a), (3, .int w13v), (4, .int w14v)]) (by simp) ?_
                      exact w1ih (w1m - 1) (by omega) w13v w14v (zsI (zsI w8M 330 w10n (0 : Int32)) 331 w10n (0 : Int32)) ⟨by omega, by omega⟩ ⟨by omega, by omega⟩ w8s w12 (((((zFr.refl).trans (w1F.mono rfl)).trans (w8F.mono rfl)).put rfl).put rfl) (by omega)
                    · refine zs_if_leF (pc := 50) t158_50 rfl (by omega) ?_
                      refine zs_aload_n (pc := 53) t158_53 rfl ?_
                      refine zs_get (pc := 54) t158_54 (by decide) (zk1 (w8s.k fk_zMc_325)) (w8s.p rfl fv_zMc_325_6) ?_
                      refine zs_iload (pc := 57) t158_57 rfl ?_
                      refine zs_iconst (pc := 59) t158_59 (v := 1) (by decide) ?_
                      obtain ⟨w15v, w15e, w15⟩ := zisub (a := w8x7) (b := (1 : Int32)) rfl li1 (by omega) (by omega)
                      refine zs_isub (pc := 60) t158_60 (c := w15v) w15e ?_
                      obtain ⟨w16n, w16⟩ : ∃ n : Nat, w15v.toInt = (n : Int) := ⟨w15v.toInt.toNat, by omega⟩
                      have w17 := ib330 w8I w16n
                      refine zs_iald (pc := 61) t158_61 (j := w16n) (by decide) (zk1 (w8s.k fk_zMc_330)) w16 (zk2 (w8s.k fk_zMc_330) (by omega)) rfl ?_
                      refine zs_iload (pc := 62) t158_62 rfl ?_
                      by_cases w18 : (zI w8M 330 w16n).toInt ≤ 0
                      · refine zs_icmp_leT (pc := 64) t158_64 rfl li0 (by omega) ?_
                        refine zs_aload_n (pc := 105) t158_105 rfl ?_
                        refine zs_get (pc := 106) t158_106 (by decide) (zk1 (w8s.k fk_zMc_325)) (w8s.p rfl fv_zMc_325_6) ?_
                        refine zs_iload (pc := 109) t158_109 rfl ?_
                        refine zs_iload (pc := 111) t158_111 rfl ?_
                        obtain ⟨w19n, w19⟩ : ∃ n : Nat, w8x7.toInt = (n : Int) := ⟨w8x7.toInt.toNat, by omega⟩
                        have w20 : zIv cLo cHi (zsI w8M 330 w19n (0 : Int32)) := zIv.put w8I (show (-2147483648) ≤ (0 : Int32).toInt ∧ (0 : Int32).toInt ≤ 2147483647 from (zrg (0 : Int32)))
                        refine zs_iast (pc := 113) t158_113 (j := w19n) (by decide) (zk1 (w8s.k fk_zMc_330)) w19 (zk2 (w8s.k fk_zMc_330) (by omega)) ?_
                        refine zs_aload_n (pc := 114) t158_114 rfl ?_
                        refine zs_get (pc := 115) t158_115 (by decide) (zk1 (w8s.k fk_zMc_325)) (w8s.p rfl fv_zMc_325_7) ?_
                        refine zs_iload (pc := 118) t158_118 rfl ?_
                        refine zs_iload (pc := 120) t158_120 rfl ?_
                        have w21 : zIv cLo cHi (zsI (zsI w8M 330 w19n (0 : Int32)) 331 w19n (0 : Int32)) := zIv.put w20 (show (-2147483648) ≤ (0 : Int32).toInt ∧ (0 : Int32).toInt ≤ 2147483647 from (zrg (0 : Int32)))
                        refine zs_iast (pc := 122) t158_122 (j := w19n) (by decide) (zk1 (w8s.k fk_zMc_331)) w19 (zk2 (w8s.k fk_zMc_331) (by omega)) ?_
                        obtain ⟨w22v, w22e, w22⟩ := ziadd (a := w1x3) (b := Int32.ofInt 1) rfl (show (Int32.ofInt 1).toInt = 1 by decide) (by omega) (by omega)
                        refine zs_iinc (pc := 123) t158_123 (ls' := [(3, .int w22v), (0, .ref 325), (1, .ref 166), (2, .int a), (4, .int w1x4), (5, .int (0 : Int32)), (6, .int (0 : Int32)), (7, .int w8x7)]) (zml mf158 (by decide)) rfl (c := w22v) w22e rfl ?_
                        obtain ⟨w23v, w23e, w23⟩ := ziadd (a := w1x4) (b := Int32.ofInt 1) rfl (show (Int32.ofInt 1).toInt = 1 by decide) (by omega) (by omega)
                        refine zs_iinc (pc := 126) t158_126 (ls' := [(4, .int w23v), (3, .int w22v), (0, .ref 325), (1, .ref 166), (2, .int a), (5, .int (0 : Int32)), (6, .int (0 : Int32)), (7, .int w8x7)]) (zml mf158 (by decide)) rfl (c := w23v) w23e rfl ?_
                        refine zs_goto (pc := 129) t158_129 ?_
                        refine zGo.locals (ls' := [(0, .ref 325), (1, .ref 166), (2, .int a), (3, .int w22v), (4, .int w23v)]) (by simp) ?_
                        exact w1ih (w1m - 1) (by omega) w22v w23v (zsI (zsI w8M 330 w19n (0 : Int32)) 331 w19n (0 : Int32)) ⟨by omega, by omega⟩ ⟨by omega, by omega⟩ w8s w21 (((((zFr.refl).trans (w1F.mono rfl)).trans (w8F.mono rfl)).put rfl).put rfl) (by omega)
                      · refine zs_icmp_leF (pc := 64) t158_64 rfl li0 (by omega) ?_
                        refine zs_aload_n (pc := 67) t158_67 rfl ?_
                        refine zs_get (pc := 68) t158_68 (by decide) (zk1 (w8s.k fk_zMc_325)) (w8s.p rfl fv_zMc_325_6) ?_
                        refine zs_iload (pc := 71) t158_71 rfl ?_
                        refine zs_aload_n (pc := 73) t158_73 rfl ?_
                        refine zs_get (pc := 74) t158_74 (by decide) (zk1 (w8s.k fk_zMc_325)) (w8s.p rfl fv_zMc_325_6) ?_
                        refine zs_iload (pc := 77) t158_77 rfl ?_
                        refine zs_iconst (pc := 79) t158_79 (v := 1) (by decide) ?_
                        obtain ⟨w24v, w24e, w24⟩ := zisub (a := w8x7) (b := (1 : Int32)) rfl li1 (by omega) (by omega)
                        refine zs_isub (pc := 80) t158_80 (c := w24v) w24e ?_
                        obtain ⟨w25n, w25⟩ : ∃ n : Nat, w24v.toInt = (n : Int) := ⟨w24v.toInt.toNat, by omega⟩
                        have w26 := ib330 w8I w25n
                        refine zs_iald (pc := 81) t158_81 (j := w25n) (by decide) (zk1 (w8s.k fk_zMc_330)) w25 (zk2 (w8s.k fk_zMc_330) (by omega)) rfl ?_
                        obtain ⟨w27n, w27⟩ : ∃ n : Nat, w8x7.toInt = (n : Int) := ⟨w8x7.toInt.toNat, by omega⟩
                        have w28 : zIv cLo cHi (zsI w8M 330 w27n (zI w8M 330 w25n)) := zIv.put w8I (show (-2147483648) ≤ (zI w8M 330 w25n).toInt ∧ (zI w8M 330 w25n).toInt ≤ 2147483647 from (zrg (zI w8M 330 w25n)))
                        refine zs_iast (pc := 82) t158_82 (j := w27n) (by decide) (zk1 (w8s.k fk_zMc_330)) w27 (zk2 (w8s.k fk_zMc_330) (by omega)) ?_
                        refine zs_aload_n (pc := 83) t158_83 rfl ?_
                        refine zs_get (pc := 84) t158_84 (by decide) (zk1 (w8s.k fk_zMc_325)) (w8s.p rfl fv_zMc_325_7) ?_
                        refine zs_iload (pc := 87) t158_87 rfl ?_
                        refine zs_aload_n (pc := 89) t158_89 rfl ?_
                        refine zs_get (pc := 90) t158_90 (by decide) (zk1 (w8s.k fk_zMc_325)) (w8s.p rfl fv_zMc_325_7) ?_
                        refine zs_iload (pc := 93) t158_93 rfl ?_
                        refine zs_iconst (pc := 95) t158_95 (v := 1) (by decide) ?_
                        obtain ⟨w29v, w29e, w29⟩ := zisub (a := w8x7) (b := (1 : Int32)) rfl li1 (by omega) (by omega)
                        refine zs_isub (pc := 96) t158_96 (c := w29v) w29e ?_
                        obtain ⟨w30n, w30⟩ : ∃ n : Nat, w29v.toInt = (n : Int) := ⟨w29v.toInt.toNat, by omega⟩
                        have w31 := ib331 w8I w30n
                        refine zs_iald (pc := 97) t158_97 (j := w30n) (by decide) (zk1 (w8s.k fk_zMc_331)) w30 (zk2 (w8s.k fk_zMc_331) (by omega)) ((zIo (by decide)).trans rfl) ?_
                        have w32 : zIv cLo cHi (zsI (zsI w8M 330 w27n (zI w8M 330 w25n)) 331 w27n (zI w8M 331 w30n)) := zIv.put w28 (show (-2147483648) ≤ (zI w8M 331 w30n).toInt ∧ (zI w8M 331 w30n).toInt ≤ 2147483647 from (zrg (zI w8M 331 w30n)))
                        refine zs_iast (pc := 98) t158_98 (j := w27n) (by decide) (zk1 (w8s.k fk_zMc_331)) w27 (zk2 (w8s.k fk_zMc_331) (by omega)) ?_
                        obtain ⟨w33v, w33e, w33⟩ := ziadd (a := w8x7) (b := Int32.ofInt (-1)) rfl (show (Int32.ofInt (-1)).toInt = (-1) by decide) (by omega) (by omega)
                        refine zs_iinc (pc := 99) t158_99 (ls' := [(7, .int w33v), (0, .ref 325), (1, .ref 166), (2, .int a), (3, .int w1x3), (4, .int w1x4), (5, .int (0 : Int32)), (6, .int (0 : Int32))]) (zml mf158 (by decide)) rfl (c := w33v) w33e rfl ?_
                        refine zs_goto (pc := 102) t158_102 ?_
                        refine zGo.locals (ls' := [(0, .ref 325), (1, .ref 166), (2, .int a), (3, .int w1x3), (4, .int w1x4), (5, .int (0 : Int32)), (6, .int (0 : Int32)), (7, .int w33v)]) (by simp) ?_
                        exact w8ih (w8m - 1) (by omega) w33v (zsI (zsI w8M 330 w27n (zI w8M 330 w25n)) 331 w27n (zI w8M 331 w30n)) ⟨by omega, by omega⟩ w8s w32 ((((zFr.refl).trans (w8F.mono rfl)).put rfl).put rfl) (by omega)
                refine zGo.locals (ls' := [(0, .ref 325), (1, .ref 166), (2, .int a), (3, .int w1x3), (4, .int w1x4), (5, .int (0 : Int32)), (6, .int (0 : Int32)), (7, .int w1x3)]) (by simp) ?_
                exact w8L ((w1x3.toInt : Int).toNat) w1x3 w1M ⟨by omega, by omega⟩ w1s w1I zFr.refl (by omega)
              · refine zs_icmp_geF (pc := 9) t161_9 rfl rfl (by omega) ?_
                refine zs_aload_n (pc := 12) t161_12 rfl ?_
                refine zs_get (pc := 13) t161_13 (by decide) (zk1 (w1s.k fk_zMc_166)) (w1s.p rfl fv_zMc_166_12) ?_
                refine zs_aload_n (pc := 16) t161_16 rfl ?_
                refine zs_get (pc := 17) t161_17 (by decide) (zk1 (w1s.k fk_zMc_166)) (w1s.p rfl fv_zMc_166_16) ?_
                refine zs_iload_n (pc := 20) t161_20 rfl ?_
                obtain ⟨w34n, w34⟩ : ∃ n : Nat, w1x4.toInt = (n : Int) := ⟨w1x4.toInt.toNat, by omega⟩
                have w35 := ib178 hI w34n
                refine zs_iald (pc := 21) t161_21 (j := w34n) (by decide) (zk1 (w1s.k fk_zMc_178)) w34 (zk2 (w1s.k fk_zMc_178) (by omega)) ((w1F 178 w34n rfl).trans rfl) ?_
                obtain ⟨w36n, w36⟩ : ∃ n : Nat, (zI M 178 w34n).toInt = (n : Int) := ⟨(zI M 178 w34n).toInt.toNat, by omega⟩
                have w37 := ib175 hI w36n
                refine zs_iald (pc := 22) t161_22 (j := w36n) (by decide) (zk1 (w1s.k fk_zMc_175)) w36 (zk2 (w1s.k fk_zMc_175) (by omega)) ((w1F 175 w36n rfl).trans rfl) ?_
                refine zs_goto (pc := 23) t161_23 ?_
                refine zs_iret (pc := 27) t161_27 mr161 rfl ?_
                show zGo X l 1 0 0 158 43 [(5, .int (0 : Int32)), (0, .ref 325), (1, .ref 166), (2, .int a), (3, .int w1x3), (4, .int w1x4)] [.int (zI M 175 w36n)] w1M _
                refine zs_istore (pc := 43) t158_43 (ls' := [(6, .int (zI M 175 w36n)), (5, .int (0 : Int32)), (0, .ref 325), (1, .ref 166), (2, .int a), (3, .int w1x3), (4, .int w1x4)]) (zml mf158 (by decide)) rfl ?_
                refine zs_iload_n (pc := 45) t158_45 rfl ?_
                refine zs_istore (pc := 46) t158_46 (ls' := [(7, .int w1x3), (6, .int (zI M 175 w36n)), (5, .int (0 : Int32)), (0, .ref 325), (1, .ref 166), (2, .int a), (3, .int w1x3), (4, .int w1x4)]) (zml mf158 (by decide)) rfl ?_
                have w38L : ∀ (m : Nat) (w38x7 : Int32) (w38M : zM), (0 ≤ w38x7.toInt ∧ w38x7.toInt ≤ 59) → zSk zMc w38M → zIv cLo cHi w38M → zFr [(330, 331, none)] w1M w38M → w38x7.toInt ≤ (m : Int) → zGo X l 1 0 0 158 48 [(0, .ref 325), (1, .ref 166), (2, .int a), (3, .int w1x3), (4, .int w1x4), (5, .int (0 : Int32)), (6, .int (zI M 175 w36n)), (7, .int w38x7)] [] w38M Q := by
                  intro m
                  induction m using Nat.strongRecOn with
                  | ind w38m w38ih =>
                    intro w38x7 w38M w38b7 w38s w38I w38F w38q
                    refine zs_iload (pc := 48) t158_48 rfl ?_
                    by_cases w39 : w38x7.toInt ≤ 0
                    · refine zs_if_leT (pc := 50) t158_50 rfl (by omega) ?_
                      refine zs_aload_n (pc := 105) t158_105 rfl ?_
                      refine zs_get (pc := 106) t158_106 (by decide) (zk1 (w38s.k fk_zMc_325)) (w38s.p rfl fv_zMc_325_6) ?_
                      refine zs_iload (pc := 109) t158_109 rfl ?_
                      refine zs_iload (pc := 111) t158_111 rfl ?_
                      obtain ⟨w40n, w40⟩ : ∃ n : Nat, w38x7.toInt = (n : Int) := ⟨w38x7.toInt.toNat, by omega⟩
                      have w41 : zIv cLo cHi (zsI w38M 330 w40n (zI M 175 w36n)) := zIv.put w38I (show (-2147483648) ≤ (zI M 175 w36n).toInt ∧ (zI M 175 w36n).toInt ≤ 2147483647 from (zrg (zI M 175 w36n)))
                      refine zs_iast (pc := 113) t158_113 (j := w40n) (by decide) (zk1 (w38s.k fk_zMc_330)) w40 (zk2 (w38s.k fk_zMc_330) (by omega)) ?_
                      refine zs_aload_n (pc := 114) t158_114 rfl ?_
                      refine zs_get (pc := 115) t158_115 (by decide) (zk1 (w38s.k fk_zMc_325)) (w38s.p rfl fv_zMc_325_7) ?_
                      refine zs_iload (pc := 118) t158_118 rfl ?_
                      refine zs_iload (pc := 120) t158_120 rfl ?_
                      have w42 : zIv cLo cHi (zsI (zsI w38M 330 w40n (zI M 175 w36n)) 331 w40n (0 : Int32)) := zIv.put w41 (show (-2147483648) ≤ (0 : Int32).toInt ∧ (0 : Int32).toInt ≤ 2147483647 from (zrg (0 : Int32)))
                      refine zs_iast (pc := 122) t158_122 (j := w40n) (by decide) (zk1 (w38s.k fk_zMc_331)) w40 (zk2 (w38s.k fk_zMc_331) (by omega)) ?_
                      obtain ⟨w43v, w43e, w43⟩ := ziadd (a := w1x3) (b := Int32.ofInt 1) rfl (show (Int32.ofInt 1).toInt = 1 by decide) (by omega) (by omega)
                      refine zs_iinc (pc := 123) t158_123 (ls' := [(3, .int w43v), (0, .ref 325), (1, .ref 166), (2, .int a), (4, .int w1x4), (5, .int (0 : Int32)), (6, .int (zI M 175 w36n)), (7, .int w38x7)]) (zml mf158 (by decide)) rfl (c := w43v) w43e rfl ?_
                      obtain ⟨w44v, w44e, w44⟩ := ziadd (a := w1x4) (b := Int32.ofInt 1) rfl (show (Int32.ofInt 1).toInt = 1 by decide) (by omega) (by omega)
                      refine zs_iinc (pc := 126) t158_126 (ls' := [(4, .int w44v), (3, .int w43v), (0, .ref 325), (1, .ref 166), (2, .int a), (5, .int (0 : Int32)), (6, .int (zI M 175 w36n)), (7, .int w38x7)]) (zml mf158 (by decide)) rfl (c := w44v) w44e rfl ?_
                      refine zs_goto (pc := 129) t158_129 ?_
                      refine zGo.locals (ls' := [(0, .ref 325), (1, .ref 166), (2, .int a), (3, .int w43v), (4, .int w44v)]) (by simp) ?_
                      exact w1ih (w1m - 1) (by omega) w43v w44v (zsI (zsI w38M 330 w40n (zI M 175 w36n)) 331 w40n (0 : Int32)) ⟨by omega, by omega⟩ ⟨by omega, by omega⟩ w38s w42 (((((zFr.refl).trans (w1F.mono rfl)).trans (w38F.mono rfl)).put rfl).put rfl) (by omega)
                    · refine zs_if_leF (pc := 50) t158_50 rfl (by omega) ?_
                      refine zs_aload_n (pc := 53) t158_53 rfl ?_
                      refine zs_get (pc := 54) t158_54 (by decide) (zk1 (w38s.k fk_zMc_325)) (w38s.p rfl fv_zMc_325_6) ?_
                      refine zs_iload (pc := 57) t158_57 rfl ?_
                      refine zs_iconst (pc := 59) t158_59 (v := 1) (by decide) ?_
                      obtain ⟨w45v, w45e, w45⟩ := zisub (a := w38x7) (b := (1 : Int32)) rfl li1 (by omega) (by omega)
                      refine zs_isub (pc := 60) t158_60 (c := w45v) w45e ?_
                      obtain ⟨w46n, w46⟩ : ∃ n : Nat, w45v.toInt = (n : Int) := ⟨w45v.toInt.toNat, by omega⟩
                      have w47 := ib330 w38I w46n
                      refine zs_iald (pc := 61) t158_61 (j := w46n) (by decide) (zk1 (w38s.k fk_zMc_330)) w46 (zk2 (w38s.k fk_zMc_330) (by omega)) rfl ?_
                      refine zs_iload (pc := 62) t158_62 rfl ?_
                      by_cases w48 : (zI w38M 330 w46n).toInt ≤ (zI M 175 w36n).toInt
                      · refine zs_icmp_leT (pc := 64) t158_64 rfl rfl (by omega) ?_
                        refine zs_aload_n (pc := 105) t158_105 rfl ?_
                        refine zs_get (pc := 106) t158_106 (by decide) (zk1 (w38s.k fk_zMc_325)) (w38s.p rfl fv_zMc_325_6) ?_
                        refine zs_iload (pc := 109) t158_109 rfl ?_
                        refine zs_iload (pc := 111) t158_111 rfl ?_
                        obtain ⟨w49n, w49⟩ : ∃ n : Nat, w38x7.toInt = (n : Int) := ⟨w38x7.toInt.toNat, by omega⟩
                        have w50 : zIv cLo cHi (zsI w38M 330 w49n (zI M 175 w36n)) := zIv.put w38I (show (-2147483648) ≤ (zI M 175 w36n).toInt ∧ (zI M 175 w36n).toInt ≤ 2147483647 from (zrg (zI M 175 w36n)))
                        refine zs_iast (pc := 113) t158_113 (j := w49n) (by decide) (zk1 (w38s.k fk_zMc_330)) w49 (zk2 (w38s.k fk_zMc_330) (by omega)) ?_
                        refine zs_aload_n (pc := 114) t158_114 rfl ?_
                        refine zs_get (pc := 115) t158_115 (by decide) (zk1 (w38s.k fk_zMc_325)) (w38s.p rfl fv_zMc_325_7) ?_
                        refine zs_iload (pc := 118) t158_118 rfl ?_
                        refine zs_iload (pc := 120) t158_120 rfl ?_
                        have w51 : zIv cLo cHi (zsI (zsI w38M 330 w49n (zI M 175 w36n)) 331 w49n (0 : Int32)) := zIv.put w50 (show (-2147483648) ≤ (0 : Int32).toInt ∧ (0 : Int32).toInt ≤ 2147483647 from (zrg (0 : Int32)))
                        refine zs_iast (pc := 122) t158_122 (j := w49n) (by decide) (zk1 (w38s.k fk_zMc_331)) w49 (zk2 (w38s.k fk_zMc_331) (by omega)) ?_
                        obtain ⟨w52v, w52e, w52⟩ := ziadd (a := w1x3) (b := Int32.ofInt 1) rfl (show (Int32.ofInt 1).toInt = 1 by decide) (by omega) (by omega)
                        refine zs_iinc (pc := 123) t158_123 (ls' := [(3, .int w52v), (0, .ref 325), (1, .ref 166), (2, .int a), (4, .int w1x4), (5, .int (0 : Int32)), (6, .int (zI M 175 w36n)), (7, .int w38x7)]) (zml mf158 (by decide)) rfl (c := w52v) w52e rfl ?_
                        obtain ⟨w53v, w53e, w53⟩ := ziadd (a := w1x4) (b := Int32.ofInt 1) rfl (show (Int32.ofInt 1).toInt = 1 by decide) (by omega) (by omega)
                        refine zs_iinc (pc := 126) t158_126 (ls' := [(4, .int w53v), (3, .int w52v), (0, .ref 325), (1, .ref 166), (2, .int a), (5, .int (0 : Int32)), (6, .int (zI M 175 w36n)), (7, .int w38x7)]) (zml mf158 (by decide)) rfl (c := w53v) w53e rfl ?_
                        refine zs_goto (pc := 129) t158_129 ?_
                        refine zGo.locals (ls' := [(0, .ref 325), (1, .ref 166), (2, .int a), (3, .int w52v), (4, .int w53v)]) (by simp) ?_
                        exact w1ih (w1m - 1) (by omega) w52v w53v (zsI (zsI w38M 330 w49n (zI M 175 w36n)) 331 w49n (0 : Int32)) ⟨by omega, by omega⟩ ⟨by omega, by omega⟩ w38s w51 (((((zFr.refl).trans (w1F.mono rfl)).trans (w38F.mono rfl)).put rfl).put rfl) (by omega)
                      · refine zs_icmp_leF (pc := 64) t158_64 rfl rfl (by omega) ?_
                        refine zs_aload_n (pc := 67) t158_67 rfl ?_
                        refine zs_get (pc := 68) t158_68 (by decide) (zk1 (w38s.k fk_zMc_325)) (w38s.p rfl fv_zMc_325_6) ?_
                        refine zs_iload (pc := 71) t158_71 rfl ?_
                        refine zs_aload_n (pc := 73) t158_73 rfl ?_
                        refine zs_get (pc := 74) t158_74 (by decide) (zk1 (w38s.k fk_zMc_325)) (w38s.p rfl fv_zMc_325_6) ?_
                        refine zs_iload (pc := 77) t158_77 rfl ?_
                        refine zs_iconst (pc := 79) t158_79 (v := 1) (by decide) ?_
                        obtain ⟨w54v, w54e, w54⟩ := zisub (a := w38x7) (b := (1 : Int32)) rfl li1 (by omega) (by omega)
                        refine zs_isub (pc := 80) t158_80 (c := w54v) w54e ?_
                        obtain ⟨w55n, w55⟩ : ∃ n : Nat, w54v.toInt = (n : Int) := ⟨w54v.toInt.toNat, by omega⟩
                        have w56 := ib330 w38I w55n
                        refine zs_iald (pc := 81) t158_81 (j := w55n) (by decide) (zk1 (w38s.k fk_zMc_330)) w55 (zk2 (w38s.k fk_zMc_330) (by omega)) rfl ?_
                        obtain ⟨w57n, w57⟩ : ∃ n : Nat, w38x7.toInt = (n : Int) := ⟨w38x7.toInt.toNat, by omega⟩
                        have w58 : zIv cLo cHi (zsI w38M 330 w57n (zI w38M 330 w55n)) := zIv.put w38I (show (-2147483648) ≤ (zI w38M 330 w55n).toInt ∧ (zI w38M 330 w55n).toInt ≤ 2147483647 from (zrg (zI w38M 330 w55n)))
                        refine zs_iast (pc := 82) t158_82 (j := w57n) (by decide) (zk1 (w38s.k fk_zMc_330)) w57 (zk2 (w38s.k fk_zMc_330) (by omega)) ?_
                        refine zs_aload_n (pc := 83) t158_83 rfl ?_
                        refine zs_get (pc := 84) t158_84 (by decide) (zk1 (w38s.k fk_zMc_325)) (w38s.p rfl fv_zMc_325_7) ?_
                        refine zs_iload (pc := 87) t158_87 rfl ?_
                        refine zs_aload_n (pc := 89) t158_89 rfl ?_
                        refine zs_get (pc := 90) t158_90 (by decide) (zk1 (w38s.k fk_zMc_325)) (w38s.p rfl fv_zMc_325_7) ?_
                        refine zs_iload (pc := 93) t158_93 rfl ?_
                        refine zs_iconst (pc := 95) t158_95 (v := 1) (by decide) ?_
                        obtain ⟨w59v, w59e, w59⟩ := zisub (a := w38x7) (b := (1 : Int32)) rfl li1 (by omega) (by omega)
                        refine zs_isub (pc := 96) t158_96 (c := w59v) w59e ?_
                        obtain ⟨w60n, w60⟩ : ∃ n : Nat, w59v.toInt = (n : Int) := ⟨w59v.toInt.toNat, by omega⟩
                        have w61 := ib331 w38I w60n
                        refine zs_iald (pc := 97) t158_97 (j := w60n) (by decide) (zk1 (w38s.k fk_zMc_331)) w60 (zk2 (w38s.k fk_zMc_331) (by omega)) ((zIo (by decide)).trans rfl) ?_
                        have w62 : zIv cLo cHi (zsI (zsI w38M 330 w57n (zI w38M 330 w55n)) 331 w57n (zI w38M 331 w60n)) := zIv.put w58 (show (-2147483648) ≤ (zI w38M 331 w60n).toInt ∧ (zI w38M 331 w60n).toInt ≤ 2147483647 from (zrg (zI w38M 331 w60n)))
                        refine zs_iast (pc := 98) t158_98 (j := w57n) (by decide) (zk1 (w38s.k fk_zMc_331)) w57 (zk2 (w38s.k fk_zMc_331) (by omega)) ?_
                        obtain ⟨w63v, w63e, w63⟩ := ziadd (a := w38x7) (b := Int32.ofInt (-1)) rfl (show (Int32.ofInt (-1)).toInt = (-1) by decide) (by omega) (by omega)
                        refine zs_iinc (pc := 99) t158_99 (ls' := [(7, .int w63v), (0, .ref 325), (1, .ref 166), (2, .int a), (3, .int w1x3), (4, .int w1x4), (5, .int (0 : Int32)), (6, .int (zI M 175 w36n))]) (zml mf158 (by decide)) rfl (c := w63v) w63e rfl ?_
                        refine zs_goto (pc := 102) t158_102 ?_
                        refine zGo.locals (ls' := [(0, .ref 325), (1, .ref 166), (2, .int a), (3, .int w1x3), (4, .int w1x4), (5, .int (0 : Int32)), (6, .int (zI M 175 w36n)), (7, .int w63v)]) (by simp) ?_
                        exact w38ih (w38m - 1) (by omega) w63v (zsI (zsI w38M 330 w57n (zI w38M 330 w55n)) 331 w57n (zI w38M 331 w60n)) ⟨by omega, by omega⟩ w38s w62 ((((zFr.refl).trans (w38F.mono rfl)).put rfl).put rfl) (by omega)
                refine zGo.locals (ls' := [(0, .ref 325), (1, .ref 166), (2, .int a), (3, .int w1x3), (4, .int w1x4), (5, .int (0 : Int32)), (6, .int (zI M 175 w36n)), (7, .int w1x3)]) (by simp) ?_
                exact w38L ((w1x3.toInt : Int).toNat) w1x3 w1M ⟨by omega, by omega⟩ w1s w1I zFr.refl (by omega)
            · refine zs_icmp_geF (pc := 31) t158_31 li0 rfl (by omega) ?_
              refine zs_goto (pc := 34) t158_34 ?_
              obtain ⟨w64v, w64e, w64⟩ := ziadd (a := w1x4) (b := Int32.ofInt 1) rfl (show (Int32.ofInt 1).toInt = 1 by decide) (by omega) (by omega)
              refine zs_iinc (pc := 126) t158_126 (ls' := [(4, .int w64v), (5, .int (0 : Int32)), (0, .ref 325), (1, .ref 166), (2, .int a), (3, .int w1x3)]) (zml mf158 (by decide)) rfl (c := w64v) w64e rfl ?_
              refine zs_goto (pc := 129) t158_129 ?_
              refine zGo.locals (ls' := [(0, .ref 325), (1, .ref 166), (2, .int a), (3, .int w1x3), (4, .int w64v)]) (by simp) ?_
              exact w1ih (w1m - 1) (by omega) w1x3 w64v w1M ⟨by omega, by omega⟩ ⟨by omega, by omega⟩ w1s w1I ((zFr.refl).trans (w1F.mono rfl)) (by omega)
          · refine zs_icmp_geF (pc := 9) t160_9 rfl rfl (by omega) ?_
            refine zs_aload_n (pc := 12) t160_12 rfl ?_
            refine zs_get (pc := 13) t160_13 (by decide) (zk1 (w1s.k fk_zMc_166)) (w1s.p rfl fv_zMc_166_14) ?_
            refine zs_aload_n (pc := 16) t160_16 rfl ?_
            refine zs_get (pc := 17) t160_17 (by decide) (zk1 (w1s.k fk_zMc_166)) (w1s.p rfl fv_zMc_166_16) ?_
            refine zs_iload_n (pc := 20) t160_20 rfl ?_
            obtain ⟨w65n, w65⟩ : ∃ n : Nat, w1x4.toInt = (n : Int) := ⟨w1x4.toInt.toNat, by omega⟩
            have w66 := ib178 hI w65n
            refine zs_iald (pc := 21) t160_21 (j := w65n) (by decide) (zk1 (w1s.k fk_zMc_178)) w65 (zk2 (w1s.k fk_zMc_178) (by omega)) ((w1F 178 w65n rfl).trans rfl) ?_
            obtain ⟨w67n, w67⟩ : ∃ n : Nat, (zI M 178 w65n).toInt = (n : Int) := ⟨(zI M 178 w65n).toInt.toNat, by omega⟩
            have w68 := ib177 hI w67n
            refine zs_iald (pc := 22) t160_22 (j := w67n) (by decide) (zk1 (w1s.k fk_zMc_177)) w67 (zk2 (w1s.k fk_zMc_177) (by omega)) ((w1F 177 w67n rfl).trans rfl) ?_
            refine zs_goto (pc := 23) t160_23 ?_
            refine zs_iret (pc := 27) t160_27 mr160 rfl ?_
            show zGo X l 1 0 0 158 26 [(0, .ref 325), (1, .ref 166), (2, .int a), (3, .int w1x3), (4, .int w1x4)] [.int (zI M 177 w67n)] w1M _
            refine zs_istore (pc := 26) t158_26 (ls' := [(5, .int (zI M 177 w67n)), (0, .ref 325), (1, .ref 166), (2, .int a), (3, .int w1x3), (4, .int w1x4)]) (zml mf158 (by decide)) rfl ?_
            refine zs_iload (pc := 28) t158_28 rfl ?_
            refine zs_iload_n (pc := 30) t158_30 rfl ?_
            by_cases w69 : a.toInt ≤ (zI M 177 w67n).toInt
            · refine zs_icmp_geT (pc := 31) t158_31 rfl rfl (by omega) ?_
              refine zs_aload_n (pc := 37) t158_37 rfl ?_
              refine zs_iload (pc := 38) t158_38 rfl ?_
              refine zs_invV (pc := 40) (k := 166) (as' := [.int w1x4]) (st := []) t158_40 mf161 rfl rfl (Or.inl ⟨by decide, (zk1 (w1s.k fk_zMc_166))⟩) ⟨by decide, by decide, Nat.le_of_ble_eq_true rfl, Nat.le_of_ble_eq_true rfl⟩ (zs_in (by decide) mf161 (Nat.le_of_ble_eq_true rfl) ?_) (fun _ _ q => q)
              show zGo X l 0 0 0 161 0 [(0, .ref 166), (1, .int w1x4)] [] w1M _
              refine zs_iload_n (pc := 0) t161_0 rfl ?_
              refine zs_if_ltF (pc := 1) t161_1 rfl (by omega) ?_
              refine zs_iload_n (pc := 4) t161_4 rfl ?_
              refine zs_aload_n (pc := 5) t161_5 rfl ?_
              refine zs_get (pc := 6) t161_6 (by decide) (zk1 (w1s.k fk_zMc_166)) (zfvi rfl ((w1F 166 15 rfl).trans rfl)) ?_
              by_cases w70 : (zI M 166 15).toInt ≤ w1x4.toInt
              · refine zs_icmp_geT (pc := 9) t161_9 rfl rfl (by omega) ?_
                refine zs_iconst (pc := 26) t161_26 (v := 0) (by decide) ?_
                refine zs_iret (pc := 27) t161_27 mr161 (by decide) ?_
                show zGo X l 1 0 0 158 43 [(5, .int (zI M 177 w67n)), (0, .ref 325), (1, .ref 166), (2, .int a), (3, .int w1x3), (4, .int w1x4)] [.int (0 : Int32)] w1M _
                refine zs_istore (pc := 43) t158_43 (ls' := [(6, .int (0 : Int32)), (5, .int (zI M 177 w67n)), (0, .ref 325), (1, .ref 166), (2, .int a), (3, .int w1x3), (4, .int w1x4)]) (zml mf158 (by decide)) rfl ?_
                refine zs_iload_n (pc := 45) t158_45 rfl ?_
                refine zs_istore (pc := 46) t158_46 (ls' := [(7, .int w1x3), (6, .int (0 : Int32)), (5, .int (zI M 177 w67n)), (0, .ref 325), (1, .ref 166), (2, .int a), (3, .int w1x3), (4, .int w1x4)]) (zml mf158 (by decide)) rfl ?_
                have w71L : ∀ (m : Nat) (w71x7 : Int32) (w71M : zM), (0 ≤ w71x7.toInt ∧ w71x7.toInt ≤ 59) → zSk zMc w71M → zIv cLo cHi w71M → zFr [(330, 331, none)] w1M w71M → w71x7.toInt ≤ (m : Int) → zGo X l 1 0 0 158 48 [(0, .ref 325), (1, .ref 166), (2, .int a), (3, .int w1x3), (4, .int w1x4), (5, .int (zI M 177 w67n)), (6, .int (0 : Int32)), (7, .int w71x7)] [] w71M Q := by
                  intro m
                  induction m using Nat.strongRecOn with
                  | ind w71m w71ih =>
                    intro w71x7 w71M w71b7 w71s w71I w71F w71q
                    refine zs_iload (pc := 48) t158_48 rfl ?_
                    by_cases w72 : w71x7.toInt ≤ 0
                    · refine zs_if_leT (pc := 50) t158_50 rfl (by omega) ?_
                      refine zs_aload_n (pc := 105) t158_105 rfl ?_
                      refine zs_get (pc := 106) t158_106 (by decide) (zk1 (w71s.k fk_zMc_325)) (w71s.p rfl fv_zMc_325_6) ?_
                      refine zs_iload (pc := 109) t158_109 rfl ?_
                      refine zs_iload (pc := 111) t158_111 rfl ?_
                      obtain ⟨w73n, w73⟩ : ∃ n : Nat, w71x7.toInt = (n : Int) := ⟨w71x7.toInt.toNat, by omega⟩
                      have w74 : zIv cLo cHi (zsI w71M 330 w73n (0 : Int32)) := zIv.put w71I (show (-2147483648) ≤ (0 : Int32).toInt ∧ (0 : Int32).toInt ≤ 2147483647 from (zrg (0 : Int32)))
                      refine zs_iast (pc := 113) t158_113 (j := w73n) (by decide) (zk1 (w71s.k fk_zMc_330)) w73 (zk2 (w71s.k fk_zMc_330) (by omega)) ?_
                      refine zs_aload_n (pc := 114) t158_114 rfl ?_
                      refine zs_get (pc := 115) t158_115 (by decide) (zk1 (w71s.k fk_zMc_325)) (w71s.p rfl fv_zMc_325_7) ?_
                      refine zs_iload (pc := 118) t158_118 rfl ?_
                      refine zs_iload (pc := 120) t158_120 rfl ?_
                      have w75 : zIv cLo cHi (zsI (zsI w71M 330 w73n (0 : Int32)) 331 w73n (zI M 177 w67n)) := zIv.put w74 (show (-2147483648) ≤ (zI M 177 w67n).toInt ∧ (zI M 177 w67n).toInt ≤ 2147483647 from (zrg (zI M 177 w67n)))
                      refine zs_iast (pc := 122) t158_122 (j := w73n) (by decide) (zk1 (w71s.k fk_zMc_331)) w73 (zk2 (w71s.k fk_zMc_331) (by omega)) ?_
                      obtain ⟨w76v, w76e, w76⟩ := ziadd (a := w1x3) (b := Int32.ofInt 1) rfl (show (Int32.ofInt 1).toInt = 1 by decide) (by omega) (by omega)
                      refine zs_iinc (pc := 123) t158_123 (ls' := [(3, .int w76v), (0, .ref 325), (1, .ref 166), (2, .int a), (4, .int w1x4), (5, .int (zI M 177 w67n)), (6, .int (0 : Int32)), (7, .int w71x7)]) (zml mf158 (by decide)) rfl (c := w76v) w76e rfl ?_
                      obtain ⟨w77v, w77e, w77⟩ := ziadd (a := w1x4) (b := Int32.ofInt 1) rfl (show (Int32.ofInt 1).toInt = 1 by decide) (by omega) (by omega)
                      refine zs_iinc (pc := 126) t158_126 (ls' := [(4, .int w77v), (3, .int w76v), (0, .ref 325), (1, .ref 166), (2, .int a), (5, .int (zI M 177 w67n)), (6, .int (0 : Int32)), (7, .int w71x7)]) (zml mf158 (by decide)) rfl (c := w77v) w77e rfl ?_
                      refine zs_goto (pc := 129) t158_129 ?_
                      refine zGo.locals (ls' := [(0, .ref 325), (1, .ref 166), (2, .int a), (3, .int w76v), (4, .int w77v)]) (by simp) ?_
                      exact w1ih (w1m - 1) (by omega) w76v w77v (zsI (zsI w71M 330 w73n (0 : Int32)) 331 w73n (zI M 177 w67n)) ⟨by omega, by omega⟩ ⟨by omega, by omega⟩ w71s w75 (((((zFr.refl).trans (w1F.mono rfl)).trans (w71F.mono rfl)).put rfl).put rfl) (by omega)
                    · refine zs_if_leF (pc := 50) t158_50 rfl (by omega) ?_
                      refine zs_aload_n (pc := 53) t158_53 rfl ?_
                      refine zs_get (pc := 54) t158_54 (by decide) (zk1 (w71s.k fk_zMc_325)) (w71s.p rfl fv_zMc_325_6) ?_
                      refine zs_iload (pc := 57) t158_57 rfl ?_
                      refine zs_iconst (pc := 59) t158_59 (v := 1) (by decide) ?_
                      obtain ⟨w78v, w78e, w78⟩ := zisub (a := w71x7) (b := (1 : Int32)) rfl li1 (by omega) (by omega)
                      refine zs_isub (pc := 60) t158_60 (c := w78v) w78e ?_
                      obtain ⟨w79n, w79⟩ : ∃ n : Nat, w78v.toInt = (n : Int) := ⟨w78v.toInt.toNat, by omega⟩
                      have w80 := ib330 w71I w79n
                      refine zs_iald (pc := 61) t158_61 (j := w79n) (by decide) (zk1 (w71s.k fk_zMc_330)) w79 (zk2 (w71s.k fk_zMc_330) (by omega)) rfl ?_
                      refine zs_iload (pc := 62) t158_62 rfl ?_
                      by_cases w81 : (zI w71M 330 w79n).toInt ≤ 0
                      · refine zs_icmp_leT (pc := 64) t158_64 rfl li0 (by omega) ?_
                        refine zs_aload_n (pc := 105) t158_105 rfl ?_
                        refine zs_get (pc := 106) t158_106 (by decide) (zk1 (w71s.k fk_zMc_325)) (w71s.p rfl fv_zMc_325_6) ?_
                        refine zs_iload (pc := 109) t158_109 rfl ?_
                        refine zs_iload (pc := 111) t158_111 rfl ?_
                        obtain ⟨w82n, w82⟩ : ∃ n : Nat, w71x7.toInt = (n : Int) := ⟨w71x7.toInt.toNat, by omega⟩
                        have w83 : zIv cLo cHi (zsI w71M 330 w82n (0 : Int32)) := zIv.put w71I (show (-2147483648) ≤ (0 : Int32).toInt ∧ (0 : Int32).toInt ≤ 2147483647 from (zrg (0 : Int32)))
                        refine zs_iast (pc := 113) t158_113 (j := w82n) (by decide) (zk1 (w71s.k fk_zMc_330)) w82 (zk2 (w71s.k fk_zMc_330) (by omega)) ?_
                        refine zs_aload_n (pc := 114) t158_114 rfl ?_
                        refine zs_get (pc := 115) t158_115 (by decide) (zk1 (w71s.k fk_zMc_325)) (w71s.p rfl fv_zMc_325_7) ?_
                        refine zs_iload (pc := 118) t158_118 rfl ?_
                        refine zs_iload (pc := 120) t158_120 rfl ?_
                        have w84 : zIv cLo cHi (zsI (zsI w71M 330 w82n (0 : Int32)) 331 w82n (zI M 177 w67n)) := zIv.put w83 (show (-2147483648) ≤ (zI M 177 w67n).toInt ∧ (zI M 177 w67n).toInt ≤ 2147483647 from (zrg (zI M 177 w67n)))
                        refine zs_iast (pc := 122) t158_122 (j := w82n) (by decide) (zk1 (w71s.k fk_zMc_331)) w82 (zk2 (w71s.k fk_zMc_331) (by omega)) ?_
                        obtain ⟨w85v, w85e, w85⟩ := ziadd (a := w1x3) (b := Int32.ofInt 1) rfl (show (Int32.ofInt 1).toInt = 1 by decide) (by omega) (by omega)
                        refine zs_iinc (pc := 123) t158_123 (ls' := [(3, .int w85v), (0, .ref 325), (1, .ref 166), (2, .int a), (4, .int w1x4), (5, .int (zI M 177 w67n)), (6, .int (0 : Int32)), (7, .int w71x7)]) (zml mf158 (by decide)) rfl (c := w85v) w85e rfl ?_
                        obtain ⟨w86v, w86e, w86⟩ := ziadd (a := w1x4) (b := Int32.ofInt 1) rfl (show (Int32.ofInt 1).toInt = 1 by decide) (by omega) (by omega)
                        refine zs_iinc (pc := 126) t158_126 (ls' := [(4, .int w86v), (3, .int w85v), (0, .ref 325), (1, .ref 166), (2, .int a), (5, .int (zI M 177 w67n)), (6, .int (0 : Int32)), (7, .int w71x7)]) (zml mf158 (by decide)) rfl (c := w86v) w86e rfl ?_
                        refine zs_goto (pc := 129) t158_129 ?_
                        refine zGo.locals (ls' := [(0, .ref 325), (1, .ref 166), (2, .int a), (3, .int w85v), (4, .int w86v)]) (by simp) ?_
                        exact w1ih (w1m - 1) (by omega) w85v w86v (zsI (zsI w71M 330 w82n (0 : Int32)) 331 w82n (zI M 177 w67n)) ⟨by omega, by omega⟩ ⟨by omega, by omega⟩ w71s w84 (((((zFr.refl).trans (w1F.mono rfl)).trans (w71F.mono rfl)).put rfl).put rfl) (by omega)
                      · refine zs_icmp_leF (pc := 64) t158_64 rfl li0 (by omega) ?_
                        refine zs_aload_n (pc := 67) t158_67 rfl ?_
                        refine zs_get (pc := 68) t158_68 (by decide) (zk1 (w71s.k fk_zMc_325)) (w71s.p rfl fv_zMc_325_6) ?_
                        refine zs_iload (pc := 71) t158_71 rfl ?_
                        refine zs_aload_n (pc := 73) t158_73 rfl ?_
                        refine zs_get (pc := 74) t158_74 (by decide) (zk1 (w71s.k fk_zMc_325)) (w71s.p rfl fv_zMc_325_6) ?_
                        refine zs_iload (pc := 77) t158_77 rfl ?_
                        refine zs_iconst (pc := 79) t158_79 (v := 1) (by decide) ?_
                        obtain ⟨w87v, w87e, w87⟩ := zisub (a := w71x7) (b := (1 : Int32)) rfl li1 (by omega) (by omega)
                        refine zs_isub (pc := 80) t158_80 (c := w87v) w87e ?_
                        obtain ⟨w88n, w88⟩ : ∃ n : Nat, w87v.toInt = (n : Int) := ⟨w87v.toInt.toNat, by omega⟩
                        have w89 := ib330 w71I w88n
                        refine zs_iald (pc := 81) t158_81 (j := w88n) (by decide) (zk1 (w71s.k fk_zMc_330)) w88 (zk2 (w71s.k fk_zMc_330) (by omega)) rfl ?_
                        obtain ⟨w90n, w90⟩ : ∃ n : Nat, w71x7.toInt = (n : Int) := ⟨w71x7.toInt.toNat, by omega⟩
                        have w91 : zIv cLo cHi (zsI w71M 330 w90n (zI w71M 330 w88n)) := zIv.put w71I (show (-2147483648) ≤ (zI w71M 330 w88n).toInt ∧ (zI w71M 330 w88n).toInt ≤ 2147483647 from (zrg (zI w71M 330 w88n)))
                        refine zs_iast (pc := 82) t158_82 (j := w90n) (by decide) (zk1 (w71s.k fk_zMc_330)) w90 (zk2 (w71s.k fk_zMc_330) (by omega)) ?_
                        refine zs_aload_n (pc := 83) t158_83 rfl ?_
                        refine zs_get (pc := 84) t158_84 (by decide) (zk1 (w71s.k fk_zMc_325)) (w71s.p rfl fv_zMc_325_7) ?_
                        refine zs_iload (pc := 87) t158_87 rfl ?_
                        refine zs_aload_n (pc := 89) t158_89 rfl ?_
                        refine zs_get (pc := 90) t158_90 (by decide) (zk1 (w71s.k fk_zMc_325)) (w71s.p rfl fv_zMc_325_7) ?_
                        refine zs_iload (pc := 93) t158_93 rfl ?_
                        refine zs_iconst (pc := 95) t158_95 (v := 1) (by decide) ?_
                        obtain ⟨w92v, w92e, w92⟩ := zisub (a := w71x7) (b := (1 : Int32)) rfl li1 (by omega) (by omega)
                        refine zs_isub (pc := 96) t158_96 (c := w92v) w92e ?_
                        obtain ⟨w93n, w93⟩ : ∃ n : Nat, w92v.toInt = (n : Int) := ⟨w92v.toInt.toNat, by omega⟩
                        have w94 := ib331 w71I w93n
                        refine zs_iald (pc := 97) t158_97 (j := w93n) (by decide) (zk1 (w71s.k fk_zMc_331)) w93 (zk2 (w71s.k fk_zMc_331) (by omega)) ((zIo (by decide)).trans rfl) ?_
                        have w95 : zIv cLo cHi (zsI (zsI w71M 330 w90n (zI w71M 330 w88n)) 331 w90n (zI w71M 331 w93n)) := zIv.put w91 (show (-2147483648) ≤ (zI w71M 331 w93n).toInt ∧ (zI w71M 331 w93n).toInt ≤ 2147483647 from (zrg (zI w71M 331 w93n)))
                        refine zs_iast (pc := 98) t158_98 (j := w90n) (by decide) (zk1 (w71s.k fk_zMc_331)) w90 (zk2 (w71s.k fk_zMc_331) (by omega)) ?_
                        obtain ⟨w96v, w96e, w96⟩ := ziadd (a := w71x7) (b := Int32.ofInt (-1)) rfl (show (Int32.ofInt (-1)).toInt = (-1) by decide) (by omega) (by omega)
                        refine zs_iinc (pc := 99) t158_99 (ls' := [(7, .int w96v), (0, .ref 325), (1, .ref 166), (2, .int a), (3, .int w1x3), (4, .int w1x4), (5, .int (zI M 177 w67n)), (6, .int (0 : Int32))]) (zml mf158 (by decide)) rfl (c := w96v) w96e rfl ?_
                        refine zs_goto (pc := 102) t158_102 ?_
                        refine zGo.locals (ls' := [(0, .ref 325), (1, .ref 166), (2, .int a), (3, .int w1x3), (4, .int w1x4), (5, .int (zI M 177 w67n)), (6, .int (0 : Int32)), (7, .int w96v)]) (by simp) ?_
                        exact w71ih (w71m - 1) (by omega) w96v (zsI (zsI w71M 330 w90n (zI w71M 330 w88n)) 331 w90n (zI w71M 331 w93n)) ⟨by omega, by omega⟩ w71s w95 ((((zFr.refl).trans (w71F.mono rfl)).put rfl).put rfl) (by omega)
                refine zGo.locals (ls' := [(0, .ref 325), (1, .ref 166), (2, .int a), (3, .int w1x3), (4, .int w1x4), (5, .int (zI M 177 w67n)), (6, .int (0 : Int32)), (7, .int w1x3)]) (by simp) ?_
                exact w71L ((w1x3.toInt : Int).toNat) w1x3 w1M ⟨by omega, by omega⟩ w1s w1I zFr.refl (by omega)
              · refine zs_icmp_geF (pc := 9) t161_9 rfl rfl (by omega) ?_
                refine zs_aload_n (pc := 12) t161_12 rfl ?_
                refine zs_get (pc := 13) t161_13 (by decide) (zk1 (w1s.k fk_zMc_166)) (w1s.p rfl fv_zMc_166_12) ?_
                refine zs_aload_n (pc := 16) t161_16 rfl ?_
                refine zs_get (pc := 17) t161_17 (by decide) (zk1 (w1s.k fk_zMc_166)) (w1s.p rfl fv_zMc_166_16) ?_
                refine zs_iload_n (pc := 20) t161_20 rfl ?_
                refine zs_iald (pc := 21) t161_21 (j := w65n) (by decide) (zk1 (w1s.k fk_zMc_178)) w65 (zk2 (w1s.k fk_zMc_178) (by omega)) ((w1F 178 w65n rfl).trans rfl) ?_
                have w97 := ib175 hI w67n
                refine zs_iald (pc := 22) t161_22 (j := w67n) (by decide) (zk1 (w1s.k fk_zMc_175)) w67 (zk2 (w1s.k fk_zMc_175) (by omega)) ((w1F 175 w67n rfl).trans rfl) ?_
                refine zs_goto (pc := 23) t161_23 ?_
                refine zs_iret (pc := 27) t161_27 mr161 rfl ?_
                show zGo X l 1 0 0 158 43 [(5, .int (zI M 177 w67n)), (0, .ref 325), (1, .ref 166), (2, .int a), (3, .int w1x3), (4, .int w1x4)] [.int (zI M 175 w67n)] w1M _
                refine zs_istore (pc := 43) t158_43 (ls' := [(6, .int (zI M 175 w67n)), (5, .int (zI M 177 w67n)), (0, .ref 325), (1, .ref 166), (2, .int a), (3, .int w1x3), (4, .int w1x4)]) (zml mf158 (by decide)) rfl ?_
                refine zs_iload_n (pc := 45) t158_45 rfl ?_
                refine zs_istore (pc := 46) t158_46 (ls' := [(7, .int w1x3), (6, .int (zI M 175 w67n)), (5, .int (zI M 177 w67n)), (0, .ref 325), (1, .ref 166), (2, .int a), (3, .int w1x3), (4, .int w1x4)]) (zml mf158 (by decide)) rfl ?_
                have w98L : ∀ (m : Nat) (w98x7 : Int32) (w98M : zM), (0 ≤ w98x7.toInt ∧ w98x7.toInt ≤ 59) → zSk zMc w98M → zIv cLo cHi w98M → zFr [(330, 331, none)] w1M w98M → w98x7.toInt ≤ (m : Int) → zGo X l 1 0 0 158 48 [(0, .ref 325), (1, .ref 166), (2, .int a), (3, .int w1x3), (4, .int w1x4), (5, .int (zI M 177 w67n)), (6, .int (zI M 175 w67n)), (7, .int w98x7)] [] w98M Q := by
                  intro m
                  induction m using Nat.strongRecOn with
                  | ind w98m w98ih =>
                    intro w98x7 w98M w98b7 w98s w98I w98F w98q
                    refine zs_iload (pc := 48) t158_48 rfl ?_
                    by_cases w99 : w98x7.toInt ≤ 0
                    · refine zs_if_leT (pc := 50) t158_50 rfl (by omega) ?_
                      refine zs_aload_n (pc := 105) t158_105 rfl ?_
                      refine zs_get (pc := 106) t158_106 (by decide) (zk1 (w98s.k fk_zMc_325)) (w98s.p rfl fv_zMc_325_6) ?_
                      refine zs_iload (pc := 109) t158_109 rfl ?_
                      refine zs_iload (pc := 111) t158_111 rfl ?_
                      obtain ⟨w100n, w100⟩ : ∃ n : Nat, w98x7.toInt = (n : Int) := ⟨w98x7.toInt.toNat, by omega⟩
                      have w101 : zIv cLo cHi (zsI w98M 330 w100n (zI M 175 w67n)) := zIv.put w98I (show (-2147483648) ≤ (zI M 175 w67n).toInt ∧ (zI M 175 w67n).toInt ≤ 2147483647 from (zrg (zI M 175 w67n)))
                      refine zs_iast (pc := 113) t158_113 (j := w100n) (by decide) (zk1 (w98s.k fk_zMc_330)) w100 (zk2 (w98s.k fk_zMc_330) (by omega)) ?_
                      refine zs_aload_n (pc := 114) t158_114 rfl ?_
                      refine zs_get (pc := 115) t158_115 (by decide) (zk1 (w98s.k fk_zMc_325)) (w98s.p rfl fv_zMc_325_7) ?_
                      refine zs_iload (pc := 118) t158_118 rfl ?_
                      refine zs_iload (pc := 120) t158_120 rfl ?_
                      have w102 : zIv cLo cHi (zsI (zsI w98M 330 w100n (zI M 175 w67n)) 331 w100n (zI M 177 w67n)) := zIv.put w101 (show (-2147483648) ≤ (zI M 177 w67n).toInt ∧ (zI M 177 w67n).toInt ≤ 2147483647 from (zrg (zI M 177 w67n)))
                      refine zs_iast (pc := 122) t158_122 (j := w100n) (by decide) (zk1 (w98s.k fk_zMc_331)) w100 (zk2 (w98s.k fk_zMc_331) (by omega)) ?_
                      obtain ⟨w103v, w103e, w103⟩ := ziadd (a := w1x3) (b := Int32.ofInt 1) rfl (show (Int32.ofInt 1).toInt = 1 by decide) (by omega) (by omega)
                      refine zs_iinc (pc := 123) t158_123 (ls' := [(3, .int w103v), (0, .ref 325), (1, .ref 166), (2, .int a), (4, .int w1x4), (5, .int (zI M 177 w67n)), (6, .int (zI M 175 w67n)), (7, .int w98x7)]) (zml mf158 (by decide)) rfl (c := w103v) w103e rfl ?_
                      obtain ⟨w104v, w104e, w104⟩ := ziadd (a := w1x4) (b := Int32.ofInt 1) rfl (show (Int32.ofInt 1).toInt = 1 by decide) (by omega) (by omega)
                      refine zs_iinc (pc := 126) t158_126 (ls' := [(4, .int w104v), (3, .int w103v), (0, .ref 325), (1, .ref 166), (2, .int a), (5, .int (zI M 177 w67n)), (6, .int (zI M 175 w67n)), (7, .int w98x7)]) (zml mf158 (by decide)) rfl (c := w104v) w104e rfl ?_
                      refine zs_goto (pc := 129) t158_129 ?_
                      refine zGo.locals (ls' := [(0, .ref 325), (1, .ref 166), (2, .int a), (3, .int w103v), (4, .int w104v)]) (by simp) ?_
                      exact w1ih (w1m - 1) (by omega) w103v w104v (zsI (zsI w98M 330 w100n (zI M 175 w67n)) 331 w100n (zI M 177 w67n)) ⟨by omega, by omega⟩ ⟨by omega, by omega⟩ w98s w102 (((((zFr.refl).trans (w1F.mono rfl)).trans (w98F.mono rfl)).put rfl).put rfl) (by omega)
                    · refine zs_if_leF (pc := 50) t158_50 rfl (by omega) ?_
                      refine zs_aload_n (pc := 53) t158_53 rfl ?_
                      refine zs_get (pc := 54) t158_54 (by decide) (zk1 (w98s.k fk_zMc_325)) (w98s.p rfl fv_zMc_325_6) ?_
                      refine zs_iload (pc := 57) t158_57 rfl ?_
                      refine zs_iconst (pc := 59) t158_59 (v := 1) (by decide) ?_
                      obtain ⟨w105v, w105e, w105⟩ := zisub (a := w98x7) (b := (1 : Int32)) rfl li1 (by omega) (by omega)
                      refine zs_isub (pc := 60) t158_60 (c := w105v) w105e ?_
                      obtain ⟨w106n, w106⟩ : ∃ n : Nat, w105v.toInt = (n : Int) := ⟨w105v.toInt.toNat, by omega⟩
                      have w107 := ib330 w98I w106n
                      refine zs_iald (pc := 61) t158_61 (j := w106n) (by decide) (zk1 (w98s.k fk_zMc_330)) w106 (zk2 (w98s.k fk_zMc_330) (by omega)) rfl ?_
                      refine zs_iload (pc := 62) t158_62 rfl ?_
                      by_cases w108 : (zI w98M 330 w106n).toInt ≤ (zI M 175 w67n).toInt
                      · refine zs_icmp_leT (pc := 64) t158_64 rfl rfl (by omega) ?_
                        refine zs_aload_n (pc := 105) t158_105 rfl ?_
                        refine zs_get (pc := 106) t158_106 (by decide) (zk1 (w98s.k fk_zMc_325)) (w98s.p rfl fv_zMc_325_6) ?_
                        refine zs_iload (pc := 109) t158_109 rfl ?_
                        refine zs_iload (pc := 111) t158_111 rfl ?_
                        obtain ⟨w109n, w109⟩ : ∃ n : Nat, w98x7.toInt = (n : Int) := ⟨w98x7.toInt.toNat, by omega⟩
                        have w110 : zIv cLo cHi (zsI w98M 330 w109n (zI M 175 w67n)) := zIv.put w98I (show (-2147483648) ≤ (zI M 175 w67n).toInt ∧ (zI M 175 w67n).toInt ≤ 2147483647 from (zrg (zI M 175 w67n)))
                        refine zs_iast (pc := 113) t158_113 (j := w109n) (by decide) (zk1 (w98s.k fk_zMc_330)) w109 (zk2 (w98s.k fk_zMc_330) (by omega)) ?_
                        refine zs_aload_n (pc := 114) t158_114 rfl ?_
                        refine zs_get (pc := 115) t158_115 (by decide) (zk1 (w98s.k fk_zMc_325)) (w98s.p rfl fv_zMc_325_7) ?_
                        refine zs_iload (pc := 118) t158_118 rfl ?_
                        refine zs_iload (pc := 120) t158_120 rfl ?_
                        have w111 : zIv cLo cHi (zsI (zsI w98M 330 w109n (zI M 175 w67n)) 331 w109n (zI M 177 w67n)) := zIv.put w110 (show (-2147483648) ≤ (zI M 177 w67n).toInt ∧ (zI M 177 w67n).toInt ≤ 2147483647 from (zrg (zI M 177 w67n)))
                        refine zs_iast (pc := 122) t158_122 (j := w109n) (by decide) (zk1 (w98s.k fk_zMc_331)) w109 (zk2 (w98s.k fk_zMc_331) (by omega)) ?_
                        obtain ⟨w112v, w112e, w112⟩ := ziadd (a := w1x3) (b := Int32.ofInt 1) rfl (show (Int32.ofInt 1).toInt = 1 by decide) (by omega) (by omega)
                        refine zs_iinc (pc := 123) t158_123 (ls' := [(3, .int w112v), (0, .ref 325), (1, .ref 166), (2, .int a), (4, .int w1x4), (5, .int (zI M 177 w67n)), (6, .int (zI M 175 w67n)), (7, .int w98x7)]) (zml mf158 (by decide)) rfl (c := w112v) w112e rfl ?_
                        obtain ⟨w113v, w113e, w113⟩ := ziadd (a := w1x4) (b := Int32.ofInt 1) rfl (show (Int32.ofInt 1).toInt = 1 by decide) (by omega) (by omega)
                        refine zs_iinc (pc := 126) t158_126 (ls' := [(4, .int w113v), (3, .int w112v), (0, .ref 325), (1, .ref 166), (2, .int a), (5, .int (zI M 177 w67n)), (6, .int (zI M 175 w67n)), (7, .int w98x7)]) (zml mf158 (by decide)) rfl (c := w113v) w113e rfl ?_
                        refine zs_goto (pc := 129) t158_129 ?_
                        refine zGo.locals (ls' := [(0, .ref 325), (1, .ref 166), (2, .int a), (3, .int w112v), (4, .int w113v)]) (by simp) ?_
                        exact w1ih (w1m - 1) (by omega) w112v w113v (zsI (zsI w98M 330 w109n (zI M 175 w67n)) 331 w109n (zI M 177 w67n)) ⟨by omega, by omega⟩ ⟨by omega, by omega⟩ w98s w111 (((((zFr.refl).trans (w1F.mono rfl)).trans (w98F.mono rfl)).put rfl).put rfl) (by omega)
                      · refine zs_icmp_leF (pc := 64) t158_64 rfl rfl (by omega) ?_
                        refine zs_aload_n (pc := 67) t158_67 rfl ?_
                        refine zs_get (pc := 68) t158_68 (by decide) (zk1 (w98s.k fk_zMc_325)) (w98s.p rfl fv_zMc_325_6) ?_
                        refine zs_iload (pc := 71) t158_71 rfl ?_
                        refine zs_aload_n (pc := 73) t158_73 rfl ?_
                        refine zs_get (pc := 74) t158_74 (by decide) (zk1 (w98s.k fk_zMc_325)) (w98s.p rfl fv_zMc_325_6) ?_
                        refine zs_iload (pc := 77) t158_77 rfl ?_
                        refine zs_iconst (pc := 79) t158_79 (v := 1) (by decide) ?_
                        obtain ⟨w114v, w114e, w114⟩ := zisub (a := w98x7) (b := (1 : Int32)) rfl li1 (by omega) (by omega)
                        refine zs_isub (pc := 80) t158_80 (c := w114v) w114e ?_
                        obtain ⟨w115n, w115⟩ : ∃ n : Nat, w114v.toInt = (n : Int) := ⟨w114v.toInt.toNat, by omega⟩
                        have w116 := ib330 w98I w115n
                        refine zs_iald (pc := 81) t158_81 (j := w115n) (by decide) (zk1 (w98s.k fk_zMc_330)) w115 (zk2 (w98s.k fk_zMc_330) (by omega)) rfl ?_
                        obtain ⟨w117n, w117⟩ : ∃ n : Nat, w98x7.toInt = (n : Int) := ⟨w98x7.toInt.toNat, by omega⟩
                        have w118 : zIv cLo cHi (zsI w98M 330 w117n (zI w98M 330 w115n)) := zIv.put w98I (show (-2147483648) ≤ (zI w98M 330 w115n).toInt ∧ (zI w98M 330 w115n).toInt ≤ 2147483647 from (zrg (zI w98M 330 w115n)))
                        refine zs_iast (pc := 82) t158_82 (j := w117n) (by decide) (zk1 (w98s.k fk_zMc_330)) w117 (zk2 (w98s.k fk_zMc_330) (by omega)) ?_
                        refine zs_aload_n (pc := 83) t158_83 rfl ?_
                        refine zs_get (pc := 84) t158_84 (by decide) (zk1 (w98s.k fk_zMc_325)) (w98s.p rfl fv_zMc_325_7) ?_
                        refine zs_iload (pc := 87) t158_87 rfl ?_
                        refine zs_aload_n (pc := 89) t158_89 rfl ?_
                        refine zs_get (pc := 90) t158_90 (by decide) (zk1 (w98s.k fk_zMc_325)) (w98s.p rfl fv_zMc_325_7) ?_
                        refine zs_iload (pc := 93) t158_93 rfl ?_
                        refine zs_iconst (pc := 95) t158_95 (v := 1) (by decide) ?_
                        obtain ⟨w119v, w119e, w119⟩ := zisub (a := w98x7) (b := (1 : Int32)) rfl li1 (by omega) (by omega)
                        refine zs_isub (pc := 96) t158_96 (c := w119v) w119e ?_
                        obtain ⟨w120n, w120⟩ : ∃ n : Nat, w119v.toInt = (n : Int) := ⟨w119v.toInt.toNat, by omega⟩
                        have w121 := ib331 w98I w120n
                        refine zs_iald (pc := 97) t158_97 (j := w120n) (by decide) (zk1 (w98s.k fk_zMc_331)) w120 (zk2 (w98s.k fk_zMc_331) (by omega)) ((zIo (by decide)).trans rfl) ?_
                        have w122 : zIv cLo cHi (zsI (zsI w98M 330 w117n (zI w98M 330 w115n)) 331 w117n (zI w98M 331 w120n)) := zIv.put w118 (show (-2147483648) ≤ (zI w98M 331 w120n).toInt ∧ (zI w98M 331 w120n).toInt ≤ 2147483647 from (zrg (zI w98M 331 w120n)))
                        refine zs_iast (pc := 98) t158_98 (j := w117n) (by decide) (zk1 (w98s.k fk_zMc_331)) w117 (zk2 (w98s.k fk_zMc_331) (by omega)) ?_
                        obtain ⟨w123v, w123e, w123⟩ := ziadd (a := w98x7) (b := Int32.ofInt (-1)) rfl (show (Int32.ofInt (-1)).toInt = (-1) by decide) (by omega) (by omega)
                        refine zs_iinc (pc := 99) t158_99 (ls' := [(7, .int w123v), (0, .ref 325), (1, .ref 166), (2, .int a), (3, .int w1x3), (4, .int w1x4), (5, .int (zI M 177 w67n)), (6, .int (zI M 175 w67n))]) (zml mf158 (by decide)) rfl (c := w123v) w123e rfl ?_
                        refine zs_goto (pc := 102) t158_102 ?_
                        refine zGo.locals (ls' := [(0, .ref 325), (1, .ref 166), (2, .int a), (3, .int w1x3), (4, .int w1x4), (5, .int (zI M 177 w67n)), (6, .int (zI M 175 w67n)), (7, .int w123v)]) (by simp) ?_
                        exact w98ih (w98m - 1) (by omega) w123v (zsI (zsI w98M 330 w117n (zI w98M 330 w115n)) 331 w117n (zI w98M 331 w120n)) ⟨by omega, by omega⟩ w98s w122 ((((zFr.refl).trans (w98F.mono rfl)).put rfl).put rfl) (by omega)
                refine zGo.locals (ls' := [(0, .ref 325), (1, .ref 166), (2, .int a), (3, .int w1x3), (4, .int w1x4), (5, .int (zI M 177 w67n)), (6, .int (zI M 175 w67n)), (7, .int w1x3)]) (by simp) ?_
                exact w98L ((w1x3.toInt : Int).toNat) w1x3 w1M ⟨by omega, by omega⟩ w1s w1I zFr.refl (by omega)
            · refine zs_icmp_geF (pc := 31) t158_31 rfl rfl (by omega) ?_
              refine zs_goto (pc := 34) t158_34 ?_
              obtain ⟨w124v, w124e, w124⟩ := ziadd (a := w1x4) (b := Int32.ofInt 1) rfl (show (Int32.ofInt 1).toInt = 1 by decide) (by omega) (by omega)
              refine zs_iinc (pc := 126) t158_126 (ls' := [(4, .int w124v), (5, .int (zI M 177 w67n)), (0, .ref 325), (1, .ref 166), (2, .int a), (3, .int w1x3)]) (zml mf158 (by decide)) rfl (c := w124v) w124e rfl ?_
              refine zs_goto (pc := 129) t158_129 ?_
              refine zGo.locals (ls' := [(0, .ref 325), (1, .ref 166), (2, .int a), (3, .int w1x3), (4, .int w124v)]) (by simp) ?_
              exact w1ih (w1m - 1) (by omega) w1x3 w124v w1M ⟨by omega, by omega⟩ ⟨by omega, by omega⟩ w1s w1I ((zFr.refl).trans (w1F.mono rfl)) (by omega)
  refine zGo.locals (ls' := [(0, .ref 325), (1, .ref 166), (2, .int a), (3, .int (0 : Int32)), (4, .int (0 : Int32))]) (by simp) ?_
  have w125 := li0
  have w126 := li0
  exact w1L ((60 - 0 : Int).toNat) (0 : Int32) (0 : Int32) M ⟨by decide, by decide⟩ ⟨by decide, by decide⟩ hs hI zFr.refl (by omega)
theorem C162_164 {X : zX} {l : Launch} {M : zM} {Q : Option Value → zM → Prop} {a b c : Int32} (hs : zSk zMc M) (hI : zIv cLo cHi M) (hQ : ∀ v : Int32, 0 ≤ v.toInt → v.toInt ≤ 1 → Q (some (.int v)) M) : zCall X l 2 0 0 162 [.ref 164, .int a, .int b, .int c] M Q := by
  have ga := zrg a
  have gb := zrg b
  have gc := zrg c
  refine zs_in (by decide) mf162 (Nat.le_of_ble_eq_true rfl) ?_
  show zGo X l 2 0 0 162 0 [(0, .ref 164), (1, .int a), (2, .int b), (3, .int c)] [] M _
  refine zs_iconst (pc := 0) t162_0 (v := 0) (by decide) ?_
  refine zs_istore (pc := 1) t162_1 (ls' := [(4, .int (0 : Int32)), (0, .ref 164), (1, .int a), (2, .int b), (3, .int c)]) (zml mf162 (by decide)) rfl ?_
  have w1L : ∀ (m : Nat) (w1x4 : Int32), (0 ≤ w1x4.toInt ∧ w1x4.toInt ≤ 20) → 20 - w1x4.toInt ≤ (m : Int) → zGo X l 2 0 0 162 3 [(0, .ref 164), (1, .int a), (2, .int b), (3, .int c), (4, .int w1x4)] [] M Q := by
    intro m
    induction m using Nat.strongRecOn with
    | ind w1m w1ih =>
      intro w1x4 w1b4 w1q
      refine zs_iload (pc := 3) t162_3 rfl ?_
      refine zs_aload_n (pc := 5) t162_5 rfl ?_
      refine zs_invV (pc := 6) (k := 164) (as' := []) (st := [.int w1x4]) t162_6 mf144 rfl rfl (Or.inl ⟨by decide, (zk1 (hs.k fk_zMc_164))⟩) ⟨by decide, by decide, Nat.le_of_ble_eq_true rfl, Nat.le_of_ble_eq_true rfl⟩ (zs_in (by decide) mf144 (Nat.le_of_ble_eq_true rfl) ?_) (fun _ _ q => q)
      show zGo X l 0 0 0 144 0 [(0, .ref 164)] [] M _
      refine zs_aload_n (pc := 0) t144_0 rfl ?_
      have w2 := ib164_4 hI
      refine zs_get (pc := 1) t144_1 (by decide) (zk1 (hs.k fk_zMc_164)) (zfvi rfl rfl) ?_
      refine zs_iret (pc := 4) t144_4 mr144 rfl ?_
      show zGo X l 2 0 0 162 9 [(0, .ref 164), (1, .int a), (2, .int b), (3, .int c), (4, .int w1x4)] [.int (zI M 164 4), .int w1x4] M _
      by_cases w3 : (zI M 164 4).toInt ≤ w1x4.toInt
      · refine zs_icmp_geT (pc := 9) t162_9 rfl rfl (by omega) ?_
        refine zs_iconst (pc := 60) t162_60 (v := 0) (by decide) ?_
        exact zs_iret (pc := 61) t162_61 mr162 (by decide) (hQ _ (by decide) (by decide))
      · refine zs_icmp_geF (pc := 9) t162_9 rfl rfl (by omega) ?_
        refine zs_aload_n (pc := 12) t162_12 rfl ?_
        refine zs_iload (pc := 13) t162_13 rfl ?_
        refine zs_invV (pc := 15) (k := 164) (as' := [.int w1x4]) (st := []) t162_15 mf163 rfl rfl (Or.inl ⟨by decide, (zk1 (hs.k fk_zMc_164))⟩) ⟨by decide, by decide, Nat.le_of_ble_eq_true rfl, Nat.le_of_ble_eq_true rfl⟩ (zs_in (by decide) mf163 (Nat.le_of_ble_eq_true rfl) ?_) (fun _ _ q => q)
        show zGo X l 1 0 0 163 0 [(0, .ref 164), (1, .int w1x4)] [] M _
        refine zs_iload_n (pc := 0) t163_0 rfl ?_
        refine zs_aload_n (pc := 1) t163_1 rfl ?_
        refine zs_get (pc := 2) t163_2 (by decide) (zk1 (hs.k fk_zMc_164)) (zfvi rfl rfl) ?_
        by_cases w4 : (zI M 164 4).toInt ≤ w1x4.toInt
        · refine zs_icmp_geT (pc := 5) t163_5 rfl rfl (by omega) ?_
          refine zs_aconst_null (pc := 19) t163_19 ?_
          refine zs_aret0 (pc := 20) t163_20 (by rw [mr163]; rfl) ?_
          show zGo X l 2 0 0 162 18 [(0, .ref 164), (1, .int a), (2, .int b), (3, .int c), (4, .int w1x4)] [.null] M _
          refine zs_astore0 (pc := 18) t162_18 (ls' := [(5, .null), (0, .ref 164), (1, .int a), (2, .int b), (3, .int c), (4, .int w1x4)]) (zml mf162 (by decide)) rfl ?_
          refine zs_aload0 (pc := 20) t162_20 rfl ?_
          refine zs_ifnullT (pc := 22) t162_22 ?_
          obtain ⟨w5v, w5e, w5⟩ := ziadd (a := w1x4) (b := Int32.ofInt 1) rfl (show (Int32.ofInt 1).toInt = 1 by decide) (by omega) (by omega)
          refine zs_iinc (pc := 54) t162_54 (ls' := [(4, .int w5v), (5, .null), (0, .ref 164), (1, .int a), (2, .int b), (3, .int c)]) (zml mf162 (by decide)) rfl (c := w5v) w5e rfl ?_
          refine zs_goto (pc := 57) t162_57 ?_
          refine zGo.locals (ls' := [(0, .ref 164), (1, .int a), (2, .int b), (3, .int c), (4, .int w5v)]) (by simp) ?_
          exact w1ih (w1m - 1) (by omega) w5v ⟨by omega, by omega⟩ (by omega)
        · refine zs_icmp_geF (pc := 5) t163_5 rfl rfl (by omega) ?_
          refine zs_aload_n (pc := 8) t163_8 rfl ?_
          refine zs_get (pc := 9) t163_9 (by decide) (zk1 (hs.k fk_zMc_164)) (hs.p rfl fv_zMc_164_1) ?_
          refine zs_iload_n (pc := 12) t163_12 rfl ?_
          refine zs_invV (pc := 13) (k := 165) (as' := [.int w1x4]) (st := []) t163_13 mf126 rfl rfl (Or.inl ⟨by decide, (zk1 (hs.k fk_zMc_165))⟩) ⟨by decide, by decide, Nat.le_of_ble_eq_true rfl, Nat.le_of_ble_eq_true rfl⟩ (zs_in (by decide) mf126 (Nat.le_of_ble_eq_true rfl) ?_) (fun _ _ q => q)
          show zGo X l 0 0 0 126 0 [(0, .ref 165), (1, .int w1x4)] [] M _
          refine zs_iload_n (pc := 0) t126_0 rfl ?_
          refine zs_if_ltF (pc := 1) t126_1 rfl (by omega) ?_
          refine zs_iload_n (pc := 4) t126_4 rfl ?_
          refine zs_aload_n (pc := 5) t126_5 rfl ?_
          have w6 := ib165_2 hI
          refine zs_get (pc := 6) t126_6 (by decide) (zk1 (hs.k fk_zMc_165)) (zfvi rfl rfl) ?_
          by_cases w7 : (zI M 165 2).toInt ≤ w1x4.toInt
          · refine zs_icmp_geT (pc := 9) t126_9 rfl rfl (by omega) ?_
            refine zs_aconst_null (pc := 21) t126_21 ?_
            refine zs_aret0 (pc := 22) t126_22 (by rw [mr126]; rfl) ?_
            show zGo X l 1 0 0 163 16 [(0, .ref 164), (1, .int w1x4)] [.null] M _
            refine zs_goto (pc := 16) t163_16 ?_
            refine zs_aret0 (pc := 20) t163_20 (by rw [mr163]; rfl) ?_
            show zGo X l 2 0 0 162 18 [(0, .ref 164), (1, .int a), (2, .int b), (3, .int c), (4, .int w1x4)] [.null] M _
            refine zs_astore0 (pc := 18) t162_18 (ls' := [(5, .null), (0, .ref 164), (1, .int a), (2, .int b), (3, .int c), (4, .int w1x4)]) (zml mf162 (by decide)) rfl ?_
            refine zs_aload0 (pc := 20) t162_20 rfl ?_
            refine zs_ifnullT (pc := 22) t162_22 ?_
            obtain ⟨w8v, w8e, w8⟩ := ziadd (a := w1x4) (b := Int32.ofInt 1) rfl (show (Int32.ofInt 1).toInt = 1 by decide) (by omega) (by omega)
            refine zs_iinc (pc := 54) t162_54 (ls' := [(4, .int w8v), (5, .null), (0, .ref 164), (1, .int a), (2, .int b), (3, .int c)]) (zml mf162 (by decide)) rfl (c := w8v) w8e rfl ?_
            refine zs_goto (pc := 57) t162_57 ?_
            refine zGo.locals (ls' := [(0, .ref 164), (1, .int a), (2, .int b), (3, .int c), (4, .int w8v)]) (by simp) ?_
            exact w1ih (w1m - 1) (by omega) w8v ⟨by omega, by omega⟩ (by omega)
          · refine zs_icmp_geF (pc := 9) t126_9 rfl rfl (by omega) ?_
            refine zs_aload_n (pc := 12) t126_12 rfl ?_
            refine zs_get (pc := 13) t126_13 (by decide) (zk1 (hs.k fk_zMc_165)) (hs.p rfl fv_zMc_165_1) ?_
            refine zs_iload_n (pc := 16) t126_16 rfl ?_
            obtain ⟨w9n, w9⟩ : ∃ n : Nat, w1x4.toInt = (n : Int) := ⟨w1x4.toInt.toNat, by omega⟩
            have w10 : w9n < 20 := by omega
            refine zs_aald (pc := 17) t126_17 (j := w9n) (Or.inr (zk1 (hs.k fk_zMc_179))) w9 (zk2 (hs.k fk_zMc_179) (by omega)) (hs.a (fpT181 w9n w10)) ?_
            refine zs_goto (pc := 18) t126_18 ?_
            refine zs_aret (pc := 22) t126_22 (by rw [mr126]; rfl) ?_
            show zGo X l 1 0 0 163 16 [(0, .ref 164), (1, .int w1x4)] [.ref (181 + 3 * w9n)] M _
            refine zs_goto (pc := 16) t163_16 ?_
            refine zs_aret (pc := 20) t163_20 (by rw [mr163]; rfl) ?_
            show zGo X l 2 0 0 162 18 [(0, .ref 164), (1, .int a), (2, .int b), (3, .int c), (4, .int w1x4)] [.ref (181 + 3 * w9n)] M _
            refine zs_astore (pc := 18) t162_18 (ls' := [(5, .ref (181 + 3 * w9n)), (0, .ref 164), (1, .int a), (2, .int b), (3, .int c), (4, .int w1x4)]) (zml mf162 (by decide)) rfl ?_
            refine zs_aload (pc := 20) t162_20 rfl ?_
            refine zs_ifnullF (pc := 22) t162_22 ?_
            refine zs_aload (pc := 25) t162_25 rfl ?_
            have w11 := ibT181_0_0 hI w10
            refine zs_get (pc := 27) t162_27 (by decide) (zk1 (hs.k (fT181_0 w9n w10))) (zfvi rfl rfl) ?_
            refine zs_iload_n (pc := 30) t162_30 rfl ?_
            by_cases w12 : (zI M (181 + 3 * w9n) 0).toInt ≠ a.toInt
            · refine zs_icmp_neT (pc := 31) t162_31 rfl rfl (by omega) ?_
              obtain ⟨w13v, w13e, w13⟩ := ziadd (a := w1x4) (b := Int32.ofInt 1) rfl (show (Int32.ofInt 1).toInt = 1 by decide) (by omega) (by omega)
              refine zs_iinc (pc := 54) t162_54 (ls' := [(4, .int w13v), (5, .ref (181 + 3 * w9n)), (0, .ref 164), (1, .int a), (2, .int b), (3, .int c)]) (zml mf162 (by decide)) rfl (c := w13v) w13e rfl ?_
              refine zs_goto (pc := 57) t162_57 ?_
              refine zGo.locals (ls' := [(0, .ref 164), (1, .int a), (2, .int b), (3, .int c), (4, .int w13v)]) (by simp) ?_
              exact w1ih (w1m - 1) (by omega) w13v ⟨by omega, by omega⟩ (by omega)
            · refine zs_icmp_neF (pc := 31) t162_31 rfl rfl (by omega) ?_
              refine zs_aload (pc := 34) t162_34 rfl ?_
              have w14 := ibT181_0_1 hI w10
              refine zs_get (pc := 36) t162_36 (by decide) (zk1 (hs.k (fT181_0 w9n w10))) (zfvi rfl rfl) ?_
              refine zs_iload_n (pc := 39) t162_39 rfl ?_
              by_cases w15 : (zI M (181 + 3 * w9n) 1).toInt ≠ b.toInt
              · refine zs_icmp_neT (pc := 40) t162_40 rfl rfl (by omega) ?_
                obtain ⟨w16v, w16e, w16⟩ := ziadd (a := w1x4) (b := Int32.ofInt 1) rfl (show (Int32.ofInt 1).toInt = 1 by decide) (by omega) (by omega)
                refine zs_iinc (pc := 54) t162_54 (ls' := [(4, .int w16v), (5, .ref (181 + 3 * w9n)), (0, .ref 164), (1, .int a), (2, .int b), (3, .int c)]) (zml mf162 (by decide)) rfl (c := w16v) w16e rfl ?_
                refine zs_goto (pc := 57) t162_57 ?_
                refine zGo.locals (ls' := [(0, .ref 164), (1, .int a), (2, .int b), (3, .int c), (4, .int w16v)]) (by simp) ?_
                exact w1ih (w1m - 1) (by omega) w16v ⟨by omega, by omega⟩ (by omega)
              · refine zs_icmp_neF (pc := 40) t162_40 rfl rfl (by omega) ?_
                refine zs_aload (pc := 43) t162_43 rfl ?_
                have w17 := ibT181_0_2 hI w10
                refine zs_get (pc := 45) t162_45 (by decide) (zk1 (hs.k (fT181_0 w9n w10))) (zfvi rfl rfl) ?_
                refine zs_iload_n (pc := 48) t162_48 rfl ?_
                by_cases w18 : (zI M (181 + 3 * w9n) 2).toInt ≠ c.toInt
                · refine zs_icmp_neT (pc := 49) t162_49 rfl rfl (by omega) ?_
                  obtain ⟨w19v, w19e, w19⟩ := ziadd (a := w1x4) (b := Int32.ofInt 1) rfl (show (Int32.ofInt 1).toInt = 1 by decide) (by omega) (by omega)
                  refine zs_iinc (pc := 54) t162_54 (ls' := [(4, .int w19v), (5, .ref (181 + 3 * w9n)), (0, .ref 164), (1, .int a), (2, .int b), (3, .int c)]) (zml mf162 (by decide)) rfl (c := w19v) w19e rfl ?_
                  refine zs_goto (pc := 57) t162_57 ?_
                  refine zGo.locals (ls' := [(0, .ref 164), (1, .int a), (2, .int b), (3, .int c), (4, .int w19v)]) (by simp) ?_
                  exact w1ih (w1m - 1) (by omega) w19v ⟨by omega, by omega⟩ (by omega)
                · refine zs_icmp_neF (pc := 49) t162_49 rfl rfl (by omega) ?_
                  refine zs_iconst (pc := 52) t162_52 (v := 1) (by decide) ?_
                  exact zs_iret (pc := 53) t162_53 mr162 (by decide) (hQ _ (by decide) (by decide))
  refine zGo.locals (ls' := [(0, .ref 164), (1, .int a), (2, .int b), (3, .int c), (4, .int (0 : Int32))]) (by simp) ?_
  have w20 := li0
  exact w1L ((20 - 0 : Int).toNat) (0 : Int32) ⟨by decide, by decide⟩ (by omega)
