theorem O219 {X : zX} {l : Launch} {M : zM} {Q : Option Value → zM → Prop} (hs : zSk zMc M) (hI : zIv cLo cHi M) {F : Nat → Int} (x0 : zSo M 7 F) (x1 : zWF F) (hQ : ∀ (M' : zM) (v : Int32), zSk zMc M' → zIv cLo cHi M' → zFr [(6, 6, some 10), (335, 335, none)] M M' → (v.toInt = (wAll F).1 ∧ zWr M' 6 10 335 (wAll F)) → Q (some (.int v)) M') : zCall X l 3 0 0 219 [.ref 6] M Q := by
  refine zs_in (by decide) mf219 (Nat.le_of_ble_eq_true rfl) ?_
  show zGo X l 3 0 0 219 0 [(0, .ref 6)] [] M _
  have f0 := x0.1
  have w1 := ib7_0 hI
  have w2 : (zI M 7 0).toInt = (zI M 7 0).toInt := (congrArg Int32.toInt rfl).trans rfl
  have w3 := ib7_3 hI
  have w4 : (zI M 7 3).toInt = (zI M 7 3).toInt := (congrArg Int32.toInt rfl).trans rfl
  have w5 := ib7_8 hI
  have w6 : (zI M 7 8).toInt = (zI M 7 8).toInt := (congrArg Int32.toInt rfl).trans rfl
  have f1 := x1.1
  have f3 := x1.2.2.2
  have f2 := (show (zI M 7 0).toInt = F 0 ∧ (zI M 7 3).toInt = F 1 ∧ (zI M 7 8).toInt = F 2 from ⟨x0.1.1, x0.1.2.1, x0.1.2.2.1⟩)
  refine zs_aload_n (pc := 0) t219_0 rfl ?_
  refine zs_iconst (pc := 1) t219_1 (v := 0) (by decide) ?_
  have w7 : zIv cLo cHi (zsI M 6 10 (0 : Int32)) := zIv.put hI (show 0 ≤ (0 : Int32).toInt ∧ (0 : Int32).toInt ≤ 128 from ⟨by decide, by decide⟩)
  have w8 : zWr (zsI M 6 10 (0 : Int32)) 6 10 335 (0, fun _ => 0) := zWr.zero (by rw [zIs]; decide)
  refine zs_putI (pc := 2) t219_2 (zk1 (hs.k fk_zMc_6)) rfl ?_
  refine zs_iconst (pc := 5) t219_5 (v := 0) (by decide) ?_
  refine zs_istore_n (pc := 6) t219_6 (ls' := [(1, .int (0 : Int32)), (0, .ref 6)]) (zml mf219 (by decide)) rfl ?_
  have w9L : ∀ (m : Nat) (w9x1 : Int32) (w9M : zM), (0 ≤ w9x1.toInt ∧ w9x1.toInt ≤ 8) → zSk zMc w9M → zIv cLo cHi w9M → zFr [(6, 6, some 10), (335, 335, none)] (zsI M 6 10 (0 : Int32)) w9M → (w9x1.toInt ≤ F 0) → ((zI w9M 6 10).toInt ≤ 6 * w9x1.toInt) → (∀ l : Nat, (l : Int) = w9x1.toInt → zWr w9M 6 10 335 (wL F l)) → 8 - w9x1.toInt ≤ (m : Int) → zGo X l 3 0 0 219 7 [(0, .ref 6), (1, .int w9x1)] [] w9M Q := by
    intro m
    induction m using Nat.strongRecOn with
    | ind w9m w9ih =>
      intro w9x1 w9M w9b1 w9s w9I w9F w9r0 w9r1 w9t0 w9q
      obtain ⟨w10n, w10⟩ : ∃ n : Nat, w9x1.toInt = (n : Int) := ⟨(w9x1.toInt).toNat, by omega⟩
      have w11 := ib6_10 w9I
      refine zs_iload_n (pc := 7) t219_7 rfl ?_
      refine zs_aload_n (pc := 8) t219_8 rfl ?_
      refine zs_get (pc := 9) t219_9 (by decide) (zk1 (w9s.k fk_zMc_6)) (w9s.p rfl fv_zMc_6_0) ?_
      refine zs_get (pc := 12) t219_12 (by decide) (zk1 (w9s.k fk_zMc_7)) (zfvi rfl ((w9F 7 0 rfl).trans ((zIo (by decide)).trans rfl))) ?_
      by_cases w12 : (zI M 7 0).toInt ≤ w9x1.toInt
      · refine zs_icmp_geT (pc := 15) t219_15 rfl rfl (by omega) ?_
        refine zs_aload_n (pc := 49) t219_49 rfl ?_
        refine zs_bipush (pc := 50) t219_50 (v := 115) (by decide) ?_
        refine zs_iconst (pc := 52) t219_52 (v := 0) (by decide) ?_
        refine zs_iconst (pc := 53) t219_53 (v := 3) (by decide) ?_
        refine zs_invV (pc := 54) (k := 6) (as' := [.int (115 : Int32), .int (0 : Int32), .int (3 : Int32)]) (st := []) t219_54 mf222 rfl rfl (Or.inl ⟨by decide, (zk1 (w9s.k fk_zMc_6))⟩) ⟨by decide, by decide, Nat.le_of_ble_eq_true rfl, Nat.le_of_ble_eq_true rfl⟩ (zs_in (by decide) mf222 (Nat.le_of_ble_eq_true rfl) ?_) (fun _ _ q => q)
        show zGo X l 2 0 0 222 0 [(0, .ref 6), (1, .int (115 : Int32)), (2, .int (0 : Int32)), (3, .int (3 : Int32))] [] w9M _
        refine zs_aload_n (pc := 0) t222_0 rfl ?_
        refine zs_iload_n (pc := 1) t222_1 rfl ?_
        have w13 : (115 : Int32).toInt = 115 := li115
        have w14 : (115 : Int32).toInt = 115 := li115
        have w15 : (zI w9M 6 10).toInt = (zI w9M 6 10).toInt := (congrArg Int32.toInt rfl).trans rfl
        have w16 : (zI w9M 6 10).toInt = (zI w9M 6 10).toInt := (congrArg Int32.toInt rfl).trans rfl
        refine zs_invV (pc := 2) (k := 6) (as' := [.int (115 : Int32)]) (st := []) t222_2 mf220 rfl rfl (Or.inl ⟨by decide, (zk1 (w9s.k fk_zMc_6))⟩) ⟨by decide, by decide, Nat.le_of_ble_eq_true rfl, Nat.le_of_ble_eq_true rfl⟩ (X220_6 w9s w9I ⟨by decide, by decide⟩ (by omega) (by omega) (w9t0 w10n (by omega)) ?_) (fun _ _ q => q)
        intro w17M w17s w17I w17F w17t0 w17x0
        have w18 := ib6_10 w17I
        show zGo X l 2 0 0 222 5 [(0, .ref 6), (1, .int (115 : Int32)), (2, .int (0 : Int32)), (3, .int (3 : Int32))] [] w17M _
        have w17y : zWr w17M 6 10 335 (wS (wL F w10n) 115) := by
          have q := w17x0
          rw [show (115 : Int32).toInt = 115 by first | decide | omega] at q
          exact q
        refine zs_iload_n (pc := 5) t222_5 rfl ?_
        refine zs_istore (pc := 6) t222_6 (ls' := [(4, .int (0 : Int32)), (0, .ref 6), (1, .int (115 : Int32)), (2, .int (0 : Int32)), (3, .int (3 : Int32))]) (zml mf222 (by decide)) rfl ?_
        refine zs_iload (pc := 8) t222_8 rfl ?_
        refine zs_iload_n (pc := 10) t222_10 rfl ?_
        refine zs_icmp_gtF (pc := 11) t222_11 li0 li3 (by decide) ?_
        refine zs_aload_n (pc := 14) t222_14 rfl ?_
        refine zs_aload_n (pc := 15) t222_15 rfl ?_
        refine zs_get (pc := 16) t222_16 (by decide) (zk1 (w17s.k fk_zMc_6)) (w17s.p rfl fv_zMc_6_0) ?_
        refine zs_iload (pc := 19) t222_19 rfl ?_
        refine zs_invV (pc := 21) (k := 7) (as' := [.int (0 : Int32)]) (st := [.ref 6]) t222_21 mf96 rfl rfl (Or.inl ⟨by decide, (zk1 (w17s.k fk_zMc_7))⟩) ⟨by decide, by decide, Nat.le_of_ble_eq_true rfl, Nat.le_of_ble_eq_true rfl⟩ (zs_in (by decide) mf96 (Nat.le_of_ble_eq_true rfl) ?_) (fun _ _ q => q)
        show zGo X l 0 0 0 96 0 [(0, .ref 7), (1, .int (0 : Int32))] [] w17M _
        refine zs_iload_n (pc := 0) t96_0 rfl ?_
        refine zs_if_ltF (pc := 1) t96_1 li0 (by decide) ?_
        refine zs_iload_n (pc := 4) t96_4 rfl ?_
        refine zs_bipush (pc := 5) t96_5 (v := 9) (by decide) ?_
        refine zs_icmp_geF (pc := 7) t96_7 li0 li9 (by decide) ?_
        refine zs_aload_n (pc := 10) t96_10 rfl ?_
        refine zs_get (pc := 11) t96_11 (by decide) (zk1 (w17s.k fk_zMc_7)) (w17s.p rfl fv_zMc_7_12) ?_
        refine zs_iload_n (pc := 14) t96_14 rfl ?_
        have w19 := ib17 hI 0
        have w20 : (zI M 17 0).toInt = F 5 := x0.2.2.2.2.1 0 (by decide)
        refine zs_iald (pc := 15) t96_15 (j := 0) (by decide) (zk1 (w17s.k fk_zMc_17)) li0 (zk2 (w17s.k fk_zMc_17) (by decide)) ((w17F 17 0 rfl).trans ((w9F 17 0 rfl).trans ((zIo (by decide)).trans rfl))) ?_
        refine zs_goto (pc := 16) t96_16 ?_
        refine zs_iret (pc := 20) t96_20 mr96 rfl ?_
        show zGo X l 2 0 0 222 24 [(4, .int (0 : Int32)), (0, .ref 6), (1, .int (115 : Int32)), (2, .int (0 : Int32)), (3, .int (3 : Int32))] [.int (zI M 17 0), .ref 6] w17M _
        have w21 : (zI w17M 6 10).toInt = (zI w17M 6 10).toInt := (congrArg Int32.toInt rfl).trans rfl
        have w22 : (zI w17M 6 10).toInt = (zI w17M 6 10).toInt := (congrArg Int32.toInt rfl).trans rfl
        refine zs_invV (pc := 24) (k := 6) (as' := [.int (zI M 17 0)]) (st := []) t222_24 mf221 rfl rfl (Or.inl ⟨by decide, (zk1 (w17s.k fk_zMc_6))⟩) ⟨by decide, by decide, Nat.le_of_ble_eq_true rfl, Nat.le_of_ble_eq_true rfl⟩ (X221_6 w17s w17I ⟨by omega, by omega⟩ (by omega) w17y ?_) (fun _ _ q => q)
        intro w23M w23s w23I w23F w23t0 w23x0
        have w24 := ib6_10 w23I
        show zGo X l 2 0 0 222 27 [(4, .int (0 : Int32)), (0, .ref 6), (1, .int (115 : Int32)), (2, .int (0 : Int32)), (3, .int (3 : Int32))] [] w23M _
        have w23y : zWr w23M 6 10 335 (wN (wS (wL F w10n) 115) (F 5)) := by
          have q := w23x0
          rw [show (zI M 17 0).toInt = (F 5) by first | decide | omega] at q
          exact q
        refine zs_aload_n (pc := 27) t222_27 rfl ?_
        refine zs_iload (pc := 28) t222_28 rfl ?_
        refine zs_iload_n (pc := 30) t222_30 rfl ?_
        refine zs_icmp_geF (pc := 31) t222_31 li0 li3 (by decide) ?_
        refine zs_bipush (pc := 34) t222_34 (v := 44) (by decide) ?_
        refine zs_goto (pc := 36) t222_36 ?_
        have w25 : (44 : Int32).toInt = 44 := li44
        have w26 : (44 : Int32).toInt = 44 := li44
        have w27 : (zI w23M 6 10).toInt = (zI w23M 6 10).toInt := (congrArg Int32.toInt rfl).trans rfl
        have w28 : (zI w23M 6 10).toInt = (zI w23M 6 10).toInt := (congrArg Int32.toInt rfl).trans rfl
        refine zs_invV (pc := 41) (k := 6) (as' := [.int (44 : Int32)]) (st := []) t222_41 mf220 rfl rfl (Or.inl ⟨by decide, (zk1 (w23s.k fk_zMc_6))⟩) ⟨by decide, by decide, Nat.le_of_ble_eq_true rfl, Nat.le_of_ble_eq_true rfl⟩ (X220_6 w23s w23I ⟨by decide, by decide⟩ (by omega) (by omega) w23y ?_) (fun _ _ q => q)
        intro w29M w29s w29I w29F w29t0 w29x0
        have w30 := ib6_10 w29I
        show zGo X l 2 0 0 222 44 [(4, .int (0 : Int32)), (0, .ref 6), (1, .int (115 : Int32)), (2, .int (0 : Int32)), (3, .int (3 : Int32))] [] w29M _
        have w29y : zWr w29M 6 10 335 (wS (wN (wS (wL F w10n) 115) (F 5)) 44) := by
          have q := w29x0
          rw [show (44 : Int32).toInt = 44 by first | decide | omega] at q
          exact q
        refine zs_iinc (pc := 44) t222_44 (ls' := [(4, .int (1 : Int32)), (0, .ref 6), (1, .int (115 : Int32)), (2, .int (0 : Int32)), (3, .int (3 : Int32))]) (zml mf222 (by decide)) rfl (c := 1) (by decide) rfl ?_
        refine zs_goto (pc := 47) t222_47 ?_
        refine zs_iload (pc := 8) t222_8 rfl ?_
        refine zs_iload_n (pc := 10) t222_10 rfl ?_
        refine zs_icmp_gtF (pc := 11) t222_11 li1 li3 (by decide) ?_
        refine zs_aload_n (pc := 14) t222_14 rfl ?_
        refine zs_aload_n (pc := 15) t222_15 rfl ?_
        refine zs_get (pc := 16) t222_16 (by decide) (zk1 (w29s.k fk_zMc_6)) (w29s.p rfl fv_zMc_6_0) ?_
        refine zs_iload (pc := 19) t222_19 rfl ?_
        refine zs_invV (pc := 21) (k := 7) (as' := [.int (1 : Int32)]) (st := [.ref 6]) t222_21 mf96 rfl rfl (Or.inl ⟨by decide, (zk1 (w29s.k fk_zMc_7))⟩) ⟨by decide, by decide, Nat.le_of_ble_eq_true rfl, Nat.le_of_ble_eq_true rfl⟩ (zs_in (by decide) mf96 (Nat.le_of_ble_eq_true rfl) ?_) (fun _ _ q => q)
        show zGo X l 0 0 0 96 0 [(0, .ref 7), (1, .int (1 : Int32))] [] w29M _
        refine zs_iload_n (pc := 0) t96_0 rfl ?_
        refine zs_if_ltF (pc := 1) t96_1 li1 (by decide) ?_
        refine zs_iload_n (pc := 4) t96_4 rfl ?_
        refine zs_bipush (pc := 5) t96_5 (v := 9) (by decide) ?_
        refine zs_icmp_geF (pc := 7) t96_7 li1 li9 (by decide) ?_
        refine zs_aload_n (pc := 10) t96_10 rfl ?_
        refine zs_get (pc := 11) t96_11 (by decide) (zk1 (w29s.k fk_zMc_7)) (w29s.p rfl fv_zMc_7_12) ?_
        refine zs_iload_n (pc := 14) t96_14 rfl ?_
        have w31 := ib17 hI 1
        have w32 : (zI M 17 1).toInt = F 6 := x0.2.2.2.2.1 1 (by decide)
        refine zs_iald (pc := 15) t96_15 (j := 1) (by decide) (zk1 (w29s.k fk_zMc_17)) li1 (zk2 (w29s.k fk_zMc_17) (by decide)) ((w29F 17 1 rfl).trans ((w23F 17 1 rfl).trans ((w17F 17 1 rfl).trans ((w9F 17 1 rfl).trans ((zIo (by decide)).trans rfl))))) ?_
        refine zs_goto (pc := 16) t96_16 ?_
        refine zs_iret (pc := 20) t96_20 mr96 rfl ?_
        show zGo X l 2 0 0 222 24 [(4, .int (1 : Int32)), (0, .ref 6), (1, .int (115 : Int32)), (2, .int (0 : Int32)), (3, .int (3 : Int32))] [.int (zI M 17 1), .ref 6] w29M _
        have w33 : (zI w29M 6 10).toInt = (zI w29M 6 10).toInt := (congrArg Int32.toInt rfl).trans rfl
        have w34 : (zI w29M 6 10).toInt = (zI w29M 6 10).toInt := (congrArg Int32.toInt rfl).trans rfl
        refine zs_invV (pc := 24) (k := 6) (as' := [.int (zI M 17 1)]) (st := []) t222_24 mf221 rfl rfl (Or.inl ⟨by decide, (zk1 (w29s.k fk_zMc_6))⟩) ⟨by decide, by decide, Nat.le_of_ble_eq_true rfl, Nat.le_of_ble_eq_true rfl⟩ (X221_6 w29s w29I ⟨by omega, by omega⟩ (by omega) w29y ?_) (fun _ _ q => q)
        intro w35M w35s w35I w35F w35t0 w35x0
        have w36 := ib6_10 w35I
        show zGo X l 2 0 0 222 27 [(4, .int (1 : Int32)), (0, .ref 6), (1, .int (115 : Int32)), (2, .int (0 : Int32)), (3, .int (3 : Int32))] [] w35M _
        have w35y : zWr w35M 6 10 335 (wN (wS (wN (wS (wL F w10n) 115) (F 5)) 44) (F 6)) := by
          have q := w35x0
          rw [show (zI M 17 1).toInt = (F 6) by first | decide | omega] at q
          exact q
        refine zs_aload_n (pc := 27) t222_27 rfl ?_
        refine zs_iload (pc := 28) t222_28 rfl ?_
        refine zs_iload_n (pc := 30) t222_30 rfl ?_
        refine zs_icmp_geF (pc := 31) t222_31 li1 li3 (by decide) ?_
        refine zs_bipush (pc := 34) t222_34 (v := 44) (by decide) ?_
        refine zs_goto (pc := 36) t222_36 ?_
        have w37 : (44 : Int32).toInt = 44 := li44
        have w38 : (44 : Int32).toInt = 44 := li44
        have w39 : (zI w35M 6 10).toInt = (zI w35M 6 10).toInt := (congrArg Int32.toInt rfl).trans rfl
        have w40 : (zI w35M 6 10).toInt = (zI w35M 6 10).toInt := (congrArg Int32.toInt rfl).trans rfl
        refine zs_invV (pc := 41) (k := 6) (as' := [.int (44 : Int32)]) (st := []) t222_41 mf220 rfl rfl (Or.inl ⟨by decide, (zk1 (w35s.k fk_zMc_6))⟩) ⟨by decide, by decide, Nat.le_of_ble_eq_true rfl, Nat.le_of_ble_eq_true rfl⟩ (X220_6 w35s w35I ⟨by decide, by decide⟩ (by omega) (by omega) w35y ?_) (fun _ _ q => q)
        intro w41M w41s w41I w41F w41t0 w41x0
        have w42 := ib6_10 w41I
        show zGo X l 2 0 0 222 44 [(4, .int (1 : Int32)), (0, .ref 6), (1, .int (115 : Int32)), (2, .int (0 : Int32)), (3, .int (3 : Int32))] [] w41M _
        have w41y : zWr w41M 6 10 335 (wS (wN (wS (wN (wS (wL F w10n) 115) (F 5)) 44) (F 6)) 44) := by
          have q := w41x0
          rw [show (44 : Int32).toInt = 44 by first | decide | omega] at q
          exact q
        refine zs_iinc (pc := 44) t222_44 (ls' := [(4, .int (2 : Int32)), (0, .ref 6), (1, .int (115 : Int32)), (2, .int (0 : Int32)), (3, .int (3 : Int32))]) (zml mf222 (by decide)) rfl (c := 2) (by decide) rfl ?_
        refine zs_goto (pc := 47) t222_47 ?_
        refine zs_iload (pc := 8) t222_8 rfl ?_
        refine zs_iload_n (pc := 10) t222_10 rfl ?_
        refine zs_icmp_gtF (pc := 11) t222_11 li2 li3 (by decide) ?_
        refine zs_aload_n (pc := 14) t222_14 rfl ?_
        refine zs_aload_n (pc := 15) t222_15 rfl ?_
        refine zs_get (pc := 16) t222_16 (by decide) (zk1 (w41s.k fk_zMc_6)) (w41s.p rfl fv_zMc_6_0) ?_
        refine zs_iload (pc := 19) t222_19 rfl ?_
        refine zs_invV (pc := 21) (k := 7) (as' := [.int (2 : Int32)]) (st := [.ref 6]) t222_21 mf96 rfl rfl (Or.inl ⟨by decide, (zk1 (w41s.k fk_zMc_7))⟩) ⟨by decide, by decide, Nat.le_of_ble_eq_true rfl, Nat.le_of_ble_eq_true rfl⟩ (zs_in (by decide) mf96 (Nat.le_of_ble_eq_true rfl) ?_) (fun _ _ q => q)
        show zGo X l 0 0 0 96 0 [(0, .ref 7), (1, .int (2 : Int32))] [] w41M _
        refine zs_iload_n (pc := 0) t96_0 rfl ?_
        refine zs_if_ltF (pc := 1) t96_1 li2 (by decide) ?_
        refine zs_iload_n (pc := 4) t96_4 rfl ?_
        refine zs_bipush (pc := 5) t96_5 (v := 9) (by decide) ?_
        refine zs_icmp_geF (pc := 7) t96_7 li2 li9 (by decide) ?_
        refine zs_aload_n (pc := 10) t96_10 rfl ?_
        refine zs_get (pc := 11) t96_11 (by decide) (zk1 (w41s.k fk_zMc_7)) (w41s.p rfl fv_zMc_7_12) ?_
        refine zs_iload_n (pc := 14) t96_14 rfl ?_
        have w43 := ib17 hI 2
        have w44 : (zI M 17 2).toInt = F 7 := x0.2.2.2.2.1 2 (by decide)
        refine zs_iald (pc := 15) t96_15 (j := 2) (by decide) (zk1 (w41s.k fk_zMc_17)) li2 (zk2 (w41s.k fk_zMc_17) (by decide)) ((w41F 17 2 rfl).trans ((w35F 17 2 rfl).trans ((w29F 17 2 rfl).trans ((w23F 17 2 rfl).trans ((w17F 17 2 rfl).trans ((w9F 17 2 rfl).trans ((zIo (by decide)).trans rfl))))))) ?_
        refine zs_goto (pc := 16) t96_16 ?_
        refine zs_iret (pc := 20) t96_20 mr96 rfl ?_
        show zGo X l 2 0 0 222 24 [(4, .int (2 : Int32)), (0, .ref 6), (1, .int (115 : Int32)), (2, .int (0 : Int32)), (3, .int (3 : Int32))] [.int (zI M 17 2), .ref 6] w41M _
        have w45 : (zI w41M 6 10).toInt = (zI w41M 6 10).toInt := (congrArg Int32.toInt rfl).trans rfl
        have w46 : (zI w41M 6 10).toInt = (zI w41M 6 10).toInt := (congrArg Int32.toInt rfl).trans rfl
        refine zs_invV (pc := 24) (k := 6) (as' := [.int (zI M 17 2)]) (st := []) t222_24 mf221 rfl rfl (Or.inl ⟨by decide, (zk1 (w41s.k fk_zMc_6))⟩) ⟨by decide, by decide, Nat.le_of_ble_eq_true rfl, Nat.le_of_ble_eq_true rfl⟩ (X221_6 w41s w41I ⟨by omega, by omega⟩ (by omega) w41y ?_) (fun _ _ q => q)
        intro w47M w47s w47I w47F w47t0 w47x0
        have w48 := ib6_10 w47I
        show zGo X l 2 0 0 222 27 [(4, .int (2 : Int32)), (0, .ref 6), (1, .int (115 : Int32)), (2, .int (0 : Int32)), (3, .int (3 : Int32))] [] w47M _
        have w47y : zWr w47M 6 10 335 (wN (wS (wN (wS (wN (wS (wL F w10n) 115) (F 5)) 44) (F 6)) 44) (F 7)) := by
          have q := w47x0
          rw [show (zI M 17 2).toInt = (F 7) by first | decide | omega] at q
          exact q
        refine zs_aload_n (pc := 27) t222_27 rfl ?_
        refine zs_iload (pc := 28) t222_28 rfl ?_
        refine zs_iload_n (pc := 30) t222_30 rfl ?_
        refine zs_icmp_geF (pc := 31) t222_31 li2 li3 (by decide) ?_
        refine zs_bipush (pc := 34) t222_34 (v := 44) (by decide) ?_
        refine zs_goto (pc := 36) t222_36 ?_
        have w49 : (44 : Int32).toInt = 44 := li44
        have w50 : (44 : Int32).toInt = 44 := li44
        have w51 : (zI w47M 6 10).toInt = (zI w47M 6 10).toInt := (congrArg Int32.toInt rfl).trans rfl
        have w52 : (zI w47M 6 10).toInt = (zI w47M 6 10).toInt := (congrArg Int32.toInt rfl).trans rfl
        refine zs_invV (pc := 41) (k := 6) (as' := [.int (44 : Int32)]) (st := []) t222_41 mf220 rfl rfl (Or.inl ⟨by decide, (zk1 (w47s.k fk_zMc_6))⟩) ⟨by decide, by decide, Nat.le_of_ble_eq_true rfl, Nat.le_of_ble_eq_true rfl⟩ (X220_6 w47s w47I ⟨by decide, by decide⟩ (by omega) (by omega) w47y ?_) (fun _ _ q => q)
        intro w53M w53s w53I w53F w53t0 w53x0
        have w54 := ib6_10 w53I
        show zGo X l 2 0 0 222 44 [(4, .int (2 : Int32)), (0, .ref 6), (1, .int (115 : Int32)), (2, .int (0 : Int32)), (3, .int (3 : Int32))] [] w53M _
        have w53y : zWr w53M 6 10 335 (wS (wN (wS (wN (wS (wN (wS (wL F w10n) 115) (F 5)) 44) (F 6)) 44) (F 7)) 44) := by
          have q := w53x0
          rw [show (44 : Int32).toInt = 44 by first | decide | omega] at q
          exact q
        refine zs_iinc (pc := 44) t222_44 (ls' := [(4, .int (3 : Int32)), (0, .ref 6), (1, .int (115 : Int32)), (2, .int (0 : Int32)), (3, .int (3 : Int32))]) (zml mf222 (by decide)) rfl (c := 3) (by decide) rfl ?_
        refine zs_goto (pc := 47) t222_47 ?_
        refine zs_iload (pc := 8) t222_8 rfl ?_
        refine zs_iload_n (pc := 10) t222_10 rfl ?_
        refine zs_icmp_gtF (pc := 11) t222_11 li3 li3 (by decide) ?_
        refine zs_aload_n (pc := 14) t222_14 rfl ?_
        refine zs_aload_n (pc := 15) t222_15 rfl ?_
        refine zs_get (pc := 16) t222_16 (by decide) (zk1 (w53s.k fk_zMc_6)) (w53s.p rfl fv_zMc_6_0) ?_
        refine zs_iload (pc := 19) t222_19 rfl ?_
        refine zs_invV (pc := 21) (k := 7) (as' := [.int (3 : Int32)]) (st := [.ref 6]) t222_21 mf96 rfl rfl (Or.inl ⟨by decide, (zk1 (w53s.k fk_zMc_7))⟩) ⟨by decide, by decide, Nat.le_of_ble_eq_true rfl, Nat.le_of_ble_eq_true rfl⟩ (zs_in (by decide) mf96 (Nat.le_of_ble_eq_true rfl) ?_) (fun _ _ q => q)
        show zGo X l 0 0 0 96 0 [(0, .ref 7), (1, .int (3 : Int32))] [] w53M _
        refine zs_iload_n (pc := 0) t96_0 rfl ?_
        refine zs_if_ltF (pc := 1) t96_1 li3 (by decide) ?_
        refine zs_iload_n (pc := 4) t96_4 rfl ?_
        refine zs_bipush (pc := 5) t96_5 (v := 9) (by decide) ?_
        refine zs_icmp_geF (pc := 7) t96_7 li3 li9 (by decide) ?_
        refine zs_aload_n (pc := 10) t96_10 rfl ?_
        refine zs_get (pc := 11) t96_11 (by decide) (zk1 (w53s.k fk_zMc_7)) (w53s.p rfl fv_zMc_7_12) ?_
        refine zs_iload_n (pc := 14) t96_14 rfl ?_
        have w55 := ib17 hI 3
        have w56 : (zI M 17 3).toInt = F 8 := x0.2.2.2.2.1 3 (by decide)
        refine zs_iald (pc := 15) t96_15 (j := 3) (by decide) (zk1 (w53s.k fk_zMc_17)) li3 (zk2 (w53s.k fk_zMc_17) (by decide)) ((w53F 17 3 rfl).trans ((w47F 17 3 rfl).trans ((w41F 17 3 rfl).trans ((w35F 17 3 rfl).trans ((w29F 17 3 rfl).trans ((w23F 17 3 rfl).trans ((w17F 17 3 rfl).trans ((w9F 17 3 rfl).trans ((zIo (by decide)).trans rfl))))))))) ?_
        refine zs_goto (pc := 16) t96_16 ?_
        refine zs_iret (pc := 20) t96_20 mr96 rfl ?_
        show zGo X l 2 0 0 222 24 [(4, .int (3 : Int32)), (0, .ref 6), (1, .int (115 : Int32)), (2, .int (0 : Int32)), (3, .int (3 : Int32))] [.int (zI M 17 3), .ref 6] w53M _
        have w57 : (zI w53M 6 10).toInt = (zI w53M 6 10).toInt := (congrArg Int32.toInt rfl).trans rfl
        have w58 : (zI w53M 6 10).toInt = (zI w53M 6 10).toInt := (congrArg Int32.toInt rfl).trans rfl
        refine zs_invV (pc := 24) (k := 6) (as' := [.int (zI M 17 3)]) (st := []) t222_24 mf221 rfl rfl (Or.inl ⟨by decide, (zk1 (w53s.k fk_zMc_6))⟩) ⟨by decide, by decide, Nat.le_of_ble_eq_true rfl, Nat.le_of_ble_eq_true rfl⟩ (X221_6 w53s w53I ⟨by omega, by omega⟩ (by omega) w53y ?_) (fun _ _ q => q)
        intro w59M w59s w59I w59F w59t0 w59x0
        have w60 := ib6_10 w59I
        show zGo X l 2 0 0 222 27 [(4, .int (3 : Int32)), (0, .ref 6), (1, .int (115 : Int32)), (2, .int (0 : Int32)), (3, .int (3 : Int32))] [] w59M _
        have w59y : zWr w59M 6 10 335 (wN (wS (wN (wS (wN (wS (wN (wS (wL F w10n) 115) (F 5)) 44) (F 6)) 44) (F 7)) 44) (F 8)) := by
          have q := w59x0
          rw [show (zI M 17 3).toInt = (F 8) by first | decide | omega] at q
          exact q
        refine zs_aload_n (pc := 27) t222_27 rfl ?_
        refine zs_iload (pc := 28) t222_28 rfl ?_
        refine zs_iload_n (pc := 30) t222_30 rfl ?_
        refine zs_icmp_geT (pc := 31) t222_31 li3 li3 (by decide) ?_
        refine zs_bipush (pc := 39) t222_39 (v := 59) (by decide) ?_
        have w61 : (59 : Int32).toInt = 59 := li59
        have w62 : (59 : Int32).toInt = 59 := li59
        have w63 : (zI w59M 6 10).toInt = (zI w59M 6 10).toInt := (congrArg Int32.toInt rfl).trans rfl
        have w64 : (zI w59M 6 10).toInt = (zI w59M 6 10).toInt := (congrArg Int32.toInt rfl).trans rfl
        refine zs_invV (pc := 41) (k := 6) (as' := [.int (59 : Int32)]) (st := []) t222_41 mf220 rfl rfl (Or.inl ⟨by decide, (zk1 (w59s.k fk_zMc_6))⟩) ⟨by decide, by decide, Nat.le_of_ble_eq_true rfl, Nat.le_of_ble_eq_true rfl⟩ (X220_6 w59s w59I ⟨by decide, by decide⟩ (by omega) (by omega) w59y ?_) (fun _ _ q => q)
        intro w65M w65s w65I w65F w65t0 w65x0
        have w66 := ib6_10 w65I
        show zGo X l 2 0 0 222 44 [(4, .int (3 : Int32)), (0, .ref 6), (1, .int (115 : Int32)), (2, .int (0 : Int32)), (3, .int (3 : Int32))] [] w65M _
        have w65y : zWr w65M 6 10 335 (wS (wN (wS (wN (wS (wN (wS (wN (wS (wL F w10n) 115) (F 5)) 44) (F 6)) 44) (F 7)) 44) (F 8)) 59) := by
          have q := w65x0
          rw [show (59 : Int32).toInt = 59 by first | decide | omega] at q
          exact q
        refine zs_iinc (pc := 44) t222_44 (ls' := [(4, .int (4 : Int32)), (0, .ref 6), (1, .int (115 : Int32)), (2, .int (0 : Int32)), (3, .int (3 : Int32))]) (zml mf222 (by decide)) rfl (c := 4) (by decide) rfl ?_
        refine zs_goto (pc := 47) t222_47 ?_
        refine zs_iload (pc := 8) t222_8 rfl ?_
        refine zs_iload_n (pc := 10) t222_10 rfl ?_
        refine zs_icmp_gtT (pc := 11) t222_11 li4 li3 (by decide) ?_
        refine zs_vret (pc := 50) t222_50 mr222 ?_
        show zGo X l 3 0 0 219 57 [(0, .ref 6), (1, .int w9x1)] [] w65M _
        refine zs_aload_n (pc := 57) t219_57 rfl ?_
        refine zs_bipush (pc := 58) t219_58 (v := 103) (by decide) ?_
        refine zs_iconst (pc := 60) t219_60 (v := 4) (by decide) ?_
        refine zs_iconst (pc := 61) t219_61 (v := 4) (by decide) ?_
        refine zs_invV (pc := 62) (k := 6) (as' := [.int (103 : Int32), .int (4 : Int32), .int (4 : Int32)]) (st := []) t219_62 mf222 rfl rfl (Or.inl ⟨by decide, (zk1 (w65s.k fk_zMc_6))⟩) ⟨by decide, by decide, Nat.le_of_ble_eq_true rfl, Nat.le_of_ble_eq_true rfl⟩ (zs_in (by decide) mf222 (Nat.le_of_ble_eq_true rfl) ?_) (fun _ _ q => q)
        show zGo X l 2 0 0 222 0 [(0, .ref 6), (1, .int (103 : Int32)), (2, .int (4 : Int32)), (3, .int (4 : Int32))] [] w65M _
        refine zs_aload_n (pc := 0) t222_0 rfl ?_
        refine zs_iload_n (pc := 1) t222_1 rfl ?_
        have w67 : (103 : Int32).toInt = 103 := li103
        have w68 : (103 : Int32).toInt = 103 := li103
        have w69 : (zI w65M 6 10).toInt = (zI w65M 6 10).toInt := (congrArg Int32.toInt rfl).trans rfl
        have w70 : (zI w65M 6 10).toInt = (zI w65M 6 10).toInt := (congrArg Int32.toInt rfl).trans rfl
        refine zs_invV (pc := 2) (k := 6) (as' := [.int (103 : Int32)]) (st := []) t222_2 mf220 rfl rfl (Or.inl ⟨by decide, (zk1 (w65s.k fk_zMc_6))⟩) ⟨by decide, by decide, Nat.le_of_ble_eq_true rfl, Nat.le_of_ble_eq_true rfl⟩ (X220_6 w65s w65I ⟨by decide, by decide⟩ (by omega) (by omega) w65y ?_) (fun _ _ q => q)
        intro w71M w71s w71I w71F w71t0 w71x0
        have w72 := ib6_10 w71I
        show zGo X l 2 0 0 222 5 [(0, .ref 6), (1, .int (103 : Int32)), (2, .int (4 : Int32)), (3, .int (4 : Int32))] [] w71M _
        have w71y : zWr w71M 6 10 335 (wS (wS (wN (wS (wN (wS (wN (wS (wN (wS (wL F w10n) 115) (F 5)) 44) (F 6)) 44) (F 7)) 44) (F 8)) 59) 103) := by
          have q := w71x0
          rw [show (103 : Int32).toInt = 103 by first | decide | omega] at q
          exact q
        refine zs_iload_n (pc := 5) t222_5 rfl ?_
        refine zs_istore (pc := 6) t222_6 (ls' := [(4, .int (4 : Int32)), (0, .ref 6), (1, .int (103 : Int32)), (2, .int (4 : Int32)), (3, .int (4 : Int32))]) (zml mf222 (by decide)) rfl ?_
        refine zs_iload (pc := 8) t222_8 rfl ?_
        refine zs_iload_n (pc := 10) t222_10 rfl ?_
        refine zs_icmp_gtF (pc := 11) t222_11 li4 li4 (by decide) ?_
        refine zs_aload_n (pc := 14) t222_14 rfl ?_
        refine zs_aload_n (pc := 15) t222_15 rfl ?_
        refine zs_get (pc := 16) t222_16 (by decide) (zk1 (w71s.k fk_zMc_6)) (w71s.p rfl fv_zMc_6_0) ?_
        refine zs_iload (pc := 19) t222_19 rfl ?_
        refine zs_invV (pc := 21) (k := 7) (as' := [.int (4 : Int32)]) (st := [.ref 6]) t222_21 mf96 rfl rfl (Or.inl ⟨by decide, (zk1 (w71s.k fk_zMc_7))⟩) ⟨by decide, by decide, Nat.le_of_ble_eq_true rfl, Nat.le_of_ble_eq_true rfl⟩ (zs_in (by decide) mf96 (Nat.le_of_ble_eq_true rfl) ?_) (fun _ _ q => q)
        show zGo X l 0 0 0 96 0 [(0, .ref 7), (1, .int (4 : Int32))] [] w71M _
        refine zs_iload_n (pc := 0) t96_0 rfl ?_
        refine zs_if_ltF (pc := 1) t96_1 li4 (by decide) ?_
        refine zs_iload_n (pc := 4) t96_4 rfl ?_
        refine zs_bipush (pc := 5) t96_5 (v := 9) (by decide) ?_
        refine zs_icmp_geF (pc := 7) t96_7 li4 li9 (by decide) ?_
        refine zs_aload_n (pc := 10) t96_10 rfl ?_
        refine zs_get (pc := 11) t96_11 (by decide) (zk1 (w71s.k fk_zMc_7)) (w71s.p rfl fv_zMc_7_12) ?_
        refine zs_iload_n (pc := 14) t96_14 rfl ?_
        have w73 := ib17 hI 4
        have w74 : (zI M 17 4).toInt = F 9 := x0.2.2.2.2.1 4 (by decide)
        refine zs_iald (pc := 15) t96_15 (j := 4) (by decide) (zk1 (w71s.k fk_zMc_17)) li4 (zk2 (w71s.k fk_zMc_17) (by decide)) ((w71F 17 4 rfl).trans ((w65F 17 4 rfl).trans ((w59F 17 4 rfl).trans ((w53F 17 4 rfl).trans ((w47F 17 4 rfl).trans ((w41F 17 4 rfl).trans ((w35F 17 4 rfl).trans ((w29F 17 4 rfl).trans ((w23F 17 4 rfl).trans ((w17F 17 4 rfl).trans ((w9F 17 4 rfl).trans ((zIo (by decide)).trans rfl)))))))))))) ?_
        refine zs_goto (pc := 16) t96_16 ?_
        refine zs_iret (pc := 20) t96_20 mr96 rfl ?_
        show zGo X l 2 0 0 222 24 [(4, .int (4 : Int32)), (0, .ref 6), (1, .int (103 : Int32)), (2, .int (4 : Int32)), (3, .int (4 : Int32))] [.int (zI M 17 4), .ref 6] w71M _
        have w75 : (zI w71M 6 10).toInt = (zI w71M 6 10).toInt := (congrArg Int32.toInt rfl).trans rfl
        have w76 : (zI w71M 6 10).toInt = (zI w71M 6 10).toInt := (congrArg Int32.toInt rfl).trans rfl
        refine zs_invV (pc := 24) (k := 6) (as' := [.int (zI M 17 4)]) (st := []) t222_24 mf221 rfl rfl (Or.inl ⟨by decide, (zk1 (w71s.k fk_zMc_6))⟩) ⟨by decide, by decide, Nat.le_of_ble_eq_true rfl, Nat.le_of_ble_eq_true rfl⟩ (X221_6 w71s w71I ⟨by omega, by omega⟩ (by omega) w71y ?_) (fun _ _ q => q)
        intro w77M w77s w77I w77F w77t0 w77x0
        have w78 := ib6_10 w77I
        show zGo X l 2 0 0 222 27 [(4, .int (4 : Int32)), (0, .ref 6), (1, .int (103 : Int32)), (2, .int (4 : Int32)), (3, .int (4 : Int32))] [] w77M _
        have w77y : zWr w77M 6 10 335 (wN (wS (wS (wN (wS (wN (wS (wN (wS (wN (wS (wL F w10n) 115) (F 5)) 44) (F 6)) 44) (F 7)) 44) (F 8)) 59) 103) (F 9)) := by
          have q := w77x0
          rw [show (zI M 17 4).toInt = (F 9) by first | decide | omega] at q
          exact q
        refine zs_aload_n (pc := 27) t222_27 rfl ?_
        refine zs_iload (pc := 28) t222_28 rfl ?_
        refine zs_iload_n (pc := 30) t222_30 rfl ?_
        refine zs_icmp_geT (pc := 31) t222_31 li4 li4 (by decide) ?_
        refine zs_bipush (pc := 39) t222_39 (v := 59) (by decide) ?_
        have w79 : (59 : Int32).toInt = 59 := li59
        have w80 : (59 : Int32).toInt = 59 := li59
        have w81 : (zI w77M 6 10).toInt = (zI w77M 6 10).toInt := (congrArg Int32.toInt rfl).trans rfl
        have w82 : (zI w77M 6 10).toInt = (zI w77M 6 10).toInt := (congrArg Int32.toInt rfl).trans rfl
        refine zs_invV (pc := 41) (k := 6) (as' := [.int (59 : Int32)]) (st := []) t222_41 mf220 rfl rfl (Or.inl ⟨by decide, (zk1 (w77s.k fk_zMc_6))⟩) ⟨by decide, by decide, Nat.le_of_ble_eq_true rfl, Nat.le_of_ble_eq_true rfl⟩ (X220_6 w77s w77I ⟨by decide, by decide⟩ (by omega) (by omega) w77y ?_) (fun _ _ q => q)
        intro w83M w83s w83I w83F w83t0 w83x0
        have w84 := ib6_10 w83I
        show zGo X l 2 0 0 222 44 [(4, .int (4 : Int32)), (0, .ref 6), (1, .int (103 : Int32)), (2, .int (4 : Int32)), (3, .int (4 : Int32))] [] w83M _
        have w83y : zWr w83M 6 10 335 (wS (wN (wS (wS (wN (wS (wN (wS (wN (wS (wN (wS (wL F w10n) 115) (F 5)) 44) (F 6)) 44) (F 7)) 44) (F 8)) 59) 103) (F 9)) 59) := by
          have q := w83x0
          rw [show (59 : Int32).toInt = 59 by first | decide | omega] at q
          exact q
        refine zs_iinc (pc := 44) t222_44 (ls' := [(4, .int (5 : Int32)), (0, .ref 6), (1, .int (103 : Int32)), (2, .int (4 : Int32)), (3, .int (4 : Int32))]) (zml mf222 (by decide)) rfl (c := 5) (by decide) rfl ?_
        refine zs_goto (pc := 47) t222_47 ?_
        refine zs_iload (pc := 8) t222_8 rfl ?_
        refine zs_iload_n (pc := 10) t222_10 rfl ?_
        refine zs_icmp_gtT (pc := 11) t222_11 li5 li4 (by decide) ?_
        refine zs_vret (pc := 50) t222_50 mr222 ?_
        show zGo X l 3 0 0 219 65 [(0, .ref 6), (1, .int w9x1)] [] w83M _
        refine zs_aload_n (pc := 65) t219_65 rfl ?_
        refine zs_bipush (pc := 66) t219_66 (v := 119) (by decide) ?_
        refine zs_iconst (pc := 68) t219_68 (v := 5) (by decide) ?_
        refine zs_bipush (pc := 69) t219_69 (v := 6) (by decide) ?_
        refine zs_invV (pc := 71) (k := 6) (as' := [.int (119 : Int32), .int (5 : Int32), .int (6 : Int32)]) (st := []) t219_71 mf222 rfl rfl (Or.inl ⟨by decide, (zk1 (w83s.k fk_zMc_6))⟩) ⟨by decide, by decide, Nat.le_of_ble_eq_true rfl, Nat.le_of_ble_eq_true rfl⟩ (zs_in (by decide) mf222 (Nat.le_of_ble_eq_true rfl) ?_) (fun _ _ q => q)
        show zGo X l 2 0 0 222 0 [(0, .ref 6), (1, .int (119 : Int32)), (2, .int (5 : Int32)), (3, .int (6 : Int32))] [] w83M _
        refine zs_aload_n (pc := 0) t222_0 rfl ?_
        refine zs_iload_n (pc := 1) t222_1 rfl ?_
        have w85 : (119 : Int32).toInt = 119 := li119
        have w86 : (119 : Int32).toInt = 119 := li119
        have w87 : (zI w83M 6 10).toInt = (zI w83M 6 10).toInt := (congrArg Int32.toInt rfl).trans rfl
        have w88 : (zI w83M 6 10).toInt = (zI w83M 6 10).toInt := (congrArg Int32.toInt rfl).trans rfl
        refine zs_invV (pc := 2) (k := 6) (as' := [.int (119 : Int32)]) (st := []) t222_2 mf220 rfl rfl (Or.inl ⟨by decide, (zk1 (w83s.k fk_zMc_6))⟩) ⟨by decide, by decide, Nat.le_of_ble_eq_true rfl, Nat.le_of_ble_eq_true rfl⟩ (X220_6 w83s w83I ⟨by decide, by decide⟩ (by omega) (by omega) w83y ?_) (fun _ _ q => q)
        intro w89M w89s w89I w89F w89t0 w89x0
        have w90 := ib6_10 w89I
        show zGo X l 2 0 0 222 5 [(0, .ref 6), (1, .int (119 : Int32)), (2, .int (5 : Int32)), (3, .int (6 : Int32))] [] w89M _
        have w89y : zWr w89M 6 10 335 (wS (wS (wN (wS (wS (wN (wS (wN (wS (wN (wS (wN (wS (wL F w10n) 115) (F 5)) 44) (F 6)) 44) (F 7)) 44) (F 8)) 59) 103) (F 9)) 59) 119) := by
          have q := w89x0
          rw [show (119 : Int32).toInt = 119 by first | decide | omega] at q
          exact q
        refine zs_iload_n (pc := 5) t222_5 rfl ?_
        refine zs_istore (pc := 6) t222_6 (ls' := [(4, .int (5 : Int32)), (0, .ref 6), (1, .int (119 : Int32)), (2, .int (5 : Int32)), (3, .int (6 : Int32))]) (zml mf222 (by decide)) rfl ?_
        refine zs_iload (pc := 8) t222_8 rfl ?_
        refine zs_iload_n (pc := 10) t222_10 rfl ?_
        refine zs_icmp_gtF (pc := 11) t222_11 li5 li6 (by decide) ?_
        refine zs_aload_n (pc := 14) t222_14 rfl ?_
        refine zs_aload_n (pc := 15) t222_15 rfl ?_
        refine zs_get (pc := 16) t222_16 (by decide) (zk1 (w89s.k fk_zMc_6)) (w89s.p rfl fv_zMc_6_0) ?_
        refine zs_iload (pc := 19) t222_19 rfl ?_
        refine zs_invV (pc := 21) (k := 7) (as' := [.int (5 : Int32)]) (st := [.ref 6]) t222_21 mf96 rfl rfl (Or.inl ⟨by decide, (zk1 (w89s.k fk_zMc_7))⟩) ⟨by decide, by decide, Nat.le_of_ble_eq_true rfl, Nat.le_of_ble_eq_true rfl⟩ (zs_in (by decide) mf96 (Nat.le_of_ble_eq_true rfl) ?_) (fun _ _ q => q)
        show zGo X l 0 0 0 96 0 [(0, .ref 7), (1, .int (5 : Int32))] [] w89M _
        refine zs_iload_n (pc := 0) t96_0 rfl ?_
        refine zs_if_ltF (pc := 1) t96_1 li5 (by decide) ?_
        refine zs_iload_n (pc := 4) t96_4 rfl ?_
        refine zs_bipush (pc := 5) t96_5 (v := 9) (by decide) ?_
        refine zs_icmp_geF (pc := 7) t96_7 li5 li9 (by decide) ?_
        refine zs_aload_n (pc := 10) t96_10 rfl ?_
        refine zs_get (pc := 11) t96_11 (by decide) (zk1 (w89s.k fk_zMc_7)) (w89s.p rfl fv_zMc_7_12) ?_
        refine zs_iload_n (pc := 14) t96_14 rfl ?_
        have w91 := ib17 hI 5
        have w92 : (zI M 17 5).toInt = F 10 := x0.2.2.2.2.1 5 (by decide)
        refine zs_iald (pc := 15) t96_15 (j := 5) (by decide) (zk1 (w89s.k fk_zMc_17)) li5 (zk2 (w89s.k fk_zMc_17) (by decide)) ((w89F 17 5 rfl).trans ((w83F 17 5 rfl).trans ((w77F 17 5 rfl).trans ((w71F 17 5 rfl).trans ((w65F 17 5 rfl).trans ((w59F 17 5 rfl).trans ((w53F 17 5 rfl).trans ((w47F 17 5 rfl).trans ((w41F 17 5 rfl).trans ((w35F 17 5 rfl).trans ((w29F 17 5 rfl).trans ((w23F 17 5 rfl).trans ((w17F 17 5 rfl).trans ((w9F 17 5 rfl).trans ((zIo (by decide)).trans rfl))))))))))))))) ?_
        refine zs_goto (pc := 16) t96_16 ?_
        refine zs_iret (pc := 20) t96_20 mr96 rfl ?_
        show zGo X l 2 0 0 222 24 [(4, .int (5 : Int32)), (0, .ref 6), (1, .int (119 : Int32)), (2, .int (5 : Int32)), (3, .int (6 : Int32))] [.int (zI M 17 5), .ref 6] w89M _
        have w93 : (zI w89M 6 10).toInt = (zI w89M 6 10).toInt := (congrArg Int32.toInt rfl).trans rfl
        have w94 : (zI w89M 6 10).toInt = (zI w89M 6 10).toInt := (congrArg Int32.toInt rfl).trans rfl
        refine zs_invV (pc := 24) (k := 6) (as' := [.int (zI M 17 5)]) (st := []) t222_24 mf221 rfl rfl (Or.inl ⟨by decide, (zk1 (w89s.k fk_zMc_6))⟩) ⟨by decide, by decide, Nat.le_of_ble_eq_true rfl, Nat.le_of_ble_eq_true rfl⟩ (X221_6 w89s w89I ⟨by omega, by omega⟩ (by omega) w89y ?_) (fun _ _ q => q)
        intro w95M w95s w95I w95F w95t0 w95x0
        have w96 := ib6_10 w95I
        show zGo X l 2 0 0 222 27 [(4, .int (5 : Int32)), (0, .ref 6), (1, .int (119 : Int32)), (2, .int (5 : Int32)), (3, .int (6 : Int32))] [] w95M _
        have w95y : zWr w95M 6 10 335 (wN (wS (wS (wN (wS (wS (wN (wS (wN (wS (wN (wS (wN (wS (wL F w10n) 115) (F 5)) 44) (F 6)) 44) (F 7)) 44) (F 8)) 59) 103) (F 9)) 59) 119) (F 10)) := by
          have q := w95x0
          rw [show (zI M 17 5).toInt = (F 10) by first | decide | omega] at q
          exact q
        refine zs_aload_n (pc := 27) t222_27 rfl ?_
        refine zs_iload (pc := 28) t222_28 rfl ?_
        refine zs_iload_n (pc := 30) t222_30 rfl ?_
        refine zs_icmp_geF (pc := 31) t222_31 li5 li6 (by decide) ?_
        refine zs_bipush (pc := 34) t222_34 (v := 44) (by decide) ?_
        refine zs_goto (pc := 36) t222_36 ?_
        have w97 : (44 : Int32).toInt = 44 := li44
        have w98 : (44 : Int32).toInt = 44 := li44
        have w99 : (zI w95M 6 10).toInt = (zI w95M 6 10).toInt := (congrArg Int32.toInt rfl).trans rfl
        have w100 : (zI w95M 6 10).toInt = (zI w95M 6 10).toInt := (congrArg Int32.toInt rfl).trans rfl
        refine zs_invV (pc := 41) (k := 6) (as' := [.int (44 : Int32)]) (st := []) t222_41 mf220 rfl rfl (Or.inl ⟨by decide, (zk1 (w95s.k fk_zMc_6))⟩) ⟨by decide, by decide, Nat.le_of_ble_eq_true rfl, Nat.le_of_ble_eq_true rfl⟩ (X220_6 w95s w95I ⟨by decide, by decide⟩ (by omega) (by omega) w95y ?_) (fun _ _ q => q)
        intro w101M w101s w101I w101F w101t0 w101x0
        have w102 := ib6_10 w101I
        show zGo X l 2 0 0 222 44 [(4, .int (5 : Int32)), (0, .ref 6), (1, .int (119 : Int32)), (2, .int (5 : Int32)), (3, .int (6 : Int32))] [] w101M _
        have w101y : zWr w101M 6 10 335 (wS (wN (wS (wS (wN (wS (wS (wN (wS (wN (wS (wN (wS (wN (wS (wL F w10n) 115) (F 5)) 44) (F 6)) 44) (F 7)) 44) (F 8)) 59) 103) (F 9)) 59) 119) (F 10)) 44) := by
          have q := w101x0
          rw [show (44 : Int32).toInt = 44 by first | decide | omega] at q
          exact q
        refine zs_iinc (pc := 44) t222_44 (ls' := [(4, .int (6 : Int32)), (0, .ref 6), (1, .int (119 : Int32)), (2, .int (5 : Int32)), (3, .int (6 : Int32))]) (zml mf222 (by decide)) rfl (c := 6) (by decide) rfl ?_
        refine zs_goto (pc := 47) t222_47 ?_
        refine zs_iload (pc := 8) t222_8 rfl ?_
        refine zs_iload_n (pc := 10) t222_10 rfl ?_
        refine zs_icmp_gtF (pc := 11) t222_11 li6 li6 (by decide) ?_
        refine zs_aload_n (pc := 14) t222_14 rfl ?_
        refine zs_aload_n (pc := 15) t222_15 rfl ?_
        refine zs_get (pc := 16) t222_16 (by decide) (zk1 (w101s.k fk_zMc_6)) (w101s.p rfl fv_zMc_6_0) ?_
        refine zs_iload (pc := 19) t222_19 rfl ?_
        refine zs_invV (pc := 21) (k := 7) (as' := [.int (6 : Int32)]) (st := [.ref 6]) t222_21 mf96 rfl rfl (Or.inl ⟨by decide, (zk1 (w101s.k fk_zMc_7))⟩) ⟨by decide, by decide, Nat.le_of_ble_eq_true rfl, Nat.le_of_ble_eq_true rfl⟩ (zs_in (by decide) mf96 (Nat.le_of_ble_eq_true rfl) ?_) (fun _ _ q => q)
        show zGo X l 0 0 0 96 0 [(0, .ref 7), (1, .int (6 : Int32))] [] w101M _
        refine zs_iload_n (pc := 0) t96_0 rfl ?_
        refine zs_if_ltF (pc := 1) t96_1 li6 (by decide) ?_
        refine zs_iload_n (pc := 4) t96_4 rfl ?_
        refine zs_bipush (pc := 5) t96_5 (v := 9) (by decide) ?_
        refine zs_icmp_geF (pc := 7) t96_7 li6 li9 (by decide) ?_
        refine zs_aload_n (pc := 10) t96_10 rfl ?_
        refine zs_get (pc := 11) t96_11 (by decide) (zk1 (w101s.k fk_zMc_7)) (w101s.p rfl fv_zMc_7_12) ?_
        refine zs_iload_n (pc := 14) t96_14 rfl ?_
        have w103 := ib17 hI 6
        have w104 : (zI M 17 6).toInt = F 11 := x0.2.2.2.2.1 6 (by decide)
        refine zs_iald (pc := 15) t96_15 (j := 6) (by decide) (zk1 (w101s.k fk_zMc_17)) li6 (zk2 (w101s.k fk_zMc_17) (by decide)) ((w101F 17 6 rfl).trans ((w95F 17 6 rfl).trans ((w89F 17 6 rfl).trans ((w83F 17 6 rfl).trans ((w77F 17 6 rfl).trans ((w71F 17 6 rfl).trans ((w65F 17 6 rfl).trans ((w59F 17 6 rfl).trans ((w53F 17 6 rfl).trans ((w47F 17 6 rfl).trans ((w41F 17 6 rfl).trans ((w35F 17 6 rfl).trans ((w29F 17 6 rfl).trans ((w23F 17 6 rfl).trans ((w17F 17 6 rfl).trans ((w9F 17 6 rfl).trans ((zIo (by decide)).trans rfl))))))))))))))))) ?_
        refine zs_goto (pc := 16) t96_16 ?_
        refine zs_iret (pc := 20) t96_20 mr96 rfl ?_
        show zGo X l 2 0 0 222 24 [(4, .int (6 : Int32)), (0, .ref 6), (1, .int (119 : Int32)), (2, .int (5 : Int32)), (3, .int (6 : Int32))] [.int (zI M 17 6), .ref 6] w101M _
        have w105 : (zI w101M 6 10).toInt = (zI w101M 6 10).toInt := (congrArg Int32.toInt rfl).trans rfl
        have w106 : (zI w101M 6 10).toInt = (zI w101M 6 10).toInt := (congrArg Int32.toInt rfl).trans rfl
        refine zs_invV (pc := 24) (k := 6) (as' := [.int (zI M 17 6)]) (st := []) t222_24 mf221 rfl rfl (Or.inl ⟨by decide, (zk1 (w101s.k fk_zMc_6))⟩) ⟨by decide, by decide, Nat.le_of_ble_eq_true rfl, Nat.le_of_ble_eq_true rfl⟩ (X221_6 w101s w101I ⟨by omega, by omega⟩ (by omega) w101y ?_) (fun _ _ q => q)
        intro w107M w107s w107I w107F w107t0 w107x0
        have w108 := ib6_10 w107I
        show zGo X l 2 0 0 222 27 [(4, .int (6 : Int32)), (0, .ref 6), (1, .int (119 : Int32)), (2, .int (5 : Int32)), (3, .int (6 : Int32))] [] w107M _
        have w107y : zWr w107M 6 10 335 (wN (wS (wN (wS (wS (wN (wS (wS (wN (wS (wN (wS (wN (wS (wN (wS (wL F w10n) 115) (F 5)) 44) (F 6)) 44) (F 7)) 44) (F 8)) 59) 103) (F 9)) 59) 119) (F 10)) 44) (F 11)) := by
          have q := w107x0
          rw [show (zI M 17 6).toInt = (F 11) by first | decide | omega] at q
          exact q
        refine zs_aload_n (pc := 27) t222_27 rfl ?_
        refine zs_iload (pc := 28) t222_28 rfl ?_
        refine zs_iload_n (pc := 30) t222_30 rfl ?_
        refine zs_icmp_geT (pc := 31) t222_31 li6 li6 (by decide) ?_
        refine zs_bipush (pc := 39) t222_39 (v := 59) (by decide) ?_
        have w109 : (59 : Int32).toInt = 59 := li59
        have w110 : (59 : Int32).toInt = 59 := li59
        have w111 : (zI w107M 6 10).toInt = (zI w107M 6 10).toInt := (congrArg Int32.toInt rfl).trans rfl
        have w112 : (zI w107M 6 10).toInt = (zI w107M 6 10).toInt := (congrArg Int32.toInt rfl).trans rfl
        refine zs_invV (pc := 41) (k := 6) (as' := [.int (59 : Int32)]) (st := []) t222_41 mf220 rfl rfl (Or.inl ⟨by decide, (zk1 (w107s.k fk_zMc_6))⟩) ⟨by decide, by decide, Nat.le_of_ble_eq_true rfl, Nat.le_of_ble_eq_true rfl⟩ (X220_6 w107s w107I ⟨by decide, by decide⟩ (by omega) (by omega) w107y ?_) (fun _ _ q => q)
        intro w113M w113s w113I w113F w113t0 w113x0
        have w114 := ib6_10 w113I
        show zGo X l 2 0 0 222 44 [(4, .int (6 : Int32)), (0, .ref 6), (1, .int (119 : Int32)), (2, .int (5 : Int32)), (3, .int (6 : Int32))] [] w113M _
        have w113y : zWr w113M 6 10 335 (wS (wN (wS (wN (wS (wS (wN (wS (wS (wN (wS (wN (wS (wN (wS (wN (wS (wL F w10n) 115) (F 5)) 44) (F 6)) 44) (F 7)) 44) (F 8)) 59) 103) (F 9)) 59) 119) (F 10)) 44) (F 11)) 59) := by
          have q := w113x0
          rw [show (59 : Int32).toInt = 59 by first | decide | omega] at q
          exact q
        refine zs_iinc (pc := 44) t222_44 (ls' := [(4, .int (7 : Int32)), (0, .ref 6), (1, .int (119 : Int32)), (2, .int (5 : Int32)), (3, .int (6 : Int32))]) (zml mf222 (by decide)) rfl (c := 7) (by decide) rfl ?_
        refine zs_goto (pc := 47) t222_47 ?_
        refine zs_iload (pc := 8) t222_8 rfl ?_
        refine zs_iload_n (pc := 10) t222_10 rfl ?_
        refine zs_icmp_gtT (pc := 11) t222_11 li7 li6 (by decide) ?_
        refine zs_vret (pc := 50) t222_50 mr222 ?_
        show zGo X l 3 0 0 219 74 [(0, .ref 6), (1, .int w9x1)] [] w113M _
        refine zs_aload_n (pc := 74) t219_74 rfl ?_
        refine zs_bipush (pc := 75) t219_75 (v := 113) (by decide) ?_
        refine zs_bipush (pc := 77) t219_77 (v := 7) (by decide) ?_
        refine zs_bipush (pc := 79) t219_79 (v := 8) (by decide) ?_
        refine zs_invV (pc := 81) (k := 6) (as' := [.int (113 : Int32), .int (7 : Int32), .int (8 : Int32)]) (st := []) t219_81 mf222 rfl rfl (Or.inl ⟨by decide, (zk1 (w113s.k fk_zMc_6))⟩) ⟨by decide, by decide, Nat.le_of_ble_eq_true rfl, Nat.le_of_ble_eq_true rfl⟩ (zs_in (by decide) mf222 (Nat.le_of_ble_eq_true rfl) ?_) (fun _ _ q => q)
        show zGo X l 2 0 0 222 0 [(0, .ref 6), (1, .int (113 : Int32)), (2, .int (7 : Int32)), (3, .int (8 : Int32))] [] w113M _
        refine zs_aload_n (pc := 0) t222_0 rfl ?_
        refine zs_iload_n (pc := 1) t222_1 rfl ?_
        have w115 : (113 : Int32).toInt = 113 := li113
        have w116 : (113 : Int32).toInt = 113 := li113
        have w117 : (zI w113M 6 10).toInt = (zI w113M 6 10).toInt := (congrArg Int32.toInt rfl).trans rfl
        have w118 : (zI w113M 6 10).toInt = (zI w113M 6 10).toInt := (congrArg Int32.toInt rfl).trans rfl
        refine zs_invV (pc := 2) (k := 6) (as' := [.int (113 : Int32)]) (st := []) t222_2 mf220 rfl rfl (Or.inl ⟨by decide, (zk1 (w113s.k fk_zMc_6))⟩) ⟨by decide, by decide, Nat.le_of_ble_eq_true rfl, Nat.le_of_ble_eq_true rfl⟩ (X220_6 w113s w113I ⟨by decide, by decide⟩ (by omega) (by omega) w113y ?_) (fun _ _ q => q)
        intro w119M w119s w119I w119F w119t0 w119x0
        have w120 := ib6_10 w119I
        show zGo X l 2 0 0 222 5 [(0, .ref 6), (1, .int (113 : Int32)), (2, .int (7 : Int32)), (3, .int (8 : Int32))] [] w119M _
        have w119y : zWr w119M 6 10 335 (wS (wS (wN (wS (wN (wS (wS (wN (wS (wS (wN (wS (wN (wS (wN (wS (wN (wS (wL F w10n) 115) (F 5)) 44) (F 6)) 44) (F 7)) 44) (F 8)) 59) 103) (F 9)) 59) 119) (F 10)) 44) (F 11)) 59) 113) := by
          have q := w119x0
          rw [show (113 : Int32).toInt = 113 by first | decide | omega] at q
          exact q
        refine zs_iload_n (pc := 5) t222_5 rfl ?_
        refine zs_istore (pc := 6) t222_6 (ls' := [(4, .int (7 : Int32)), (0, .ref 6), (1, .int (113 : Int32)), (2, .int (7 : Int32)), (3, .int (8 : Int32))]) (zml mf222 (by decide)) rfl ?_
        refine zs_iload (pc := 8) t222_8 rfl ?_
        refine zs_iload_n (pc := 10) t222_10 rfl ?_
        refine zs_icmp_gtF (pc := 11) t222_11 li7 li8 (by decide) ?_
        refine zs_aload_n (pc := 14) t222_14 rfl ?_
        refine zs_aload_n (pc := 15) t222_15 rfl ?_
        refine zs_get (pc := 16) t222_16 (by decide) (zk1 (w119s.k fk_zMc_6)) (w119s.p rfl fv_zMc_6_0) ?_
        refine zs_iload (pc := 19) t222_19 rfl ?_
        refine zs_invV (pc := 21) (k := 7) (as' := [.int (7 : Int32)]) (st := [.ref 6]) t222_21 mf96 rfl rfl (Or.inl ⟨by decide, (zk1 (w119s.k fk_zMc_7))⟩) ⟨by decide, by decide, Nat.le_of_ble_eq_true rfl, Nat.le_of_ble_eq_true rfl⟩ (zs_in (by decide) mf96 (Nat.le_of_ble_eq_true rfl) ?_) (fun _ _ q => q)
        show zGo X l 0 0 0 96 0 [(0, .ref 7), (1, .int (7 : Int32))] [] w119M _
        refine zs_iload_n (pc := 0) t96_0 rfl ?_
        refine zs_if_ltF (pc := 1) t96_1 li7 (by decide) ?_
        refine zs_iload_n (pc := 4) t96_4 rfl ?_
        refine zs_bipush (pc := 5) t96_5 (v := 9) (by decide) ?_
        refine zs_icmp_geF (pc := 7) t96_7 li7 li9 (by decide) ?_
        refine zs_aload_n (pc := 10) t96_10 rfl ?_
        refine zs_get (pc := 11) t96_11 (by decide) (zk1 (w119s.k fk_zMc_7)) (w119s.p rfl fv_zMc_7_12) ?_
        refine zs_iload_n (pc := 14) t96_14 rfl ?_
        have w121 := ib17 hI 7
        have w122 : (zI M 17 7).toInt = F 12 := x0.2.2.2.2.1 7 (by decide)
        refine zs_iald (pc := 15) t96_15 (j := 7) (by decide) (zk1 (w119s.k fk_zMc_17)) li7 (zk2 (w119s.k fk_zMc_17) (by decide)) ((w119F 17 7 rfl).trans ((w113F 17 7 rfl).trans ((w107F 17 7 rfl).trans ((w101F 17 7 rfl).trans ((w95F 17 7 rfl).trans ((w89F 17 7 rfl).trans ((w83F 17 7 rfl).trans ((w77F 17 7 rfl).trans ((w71F 17 7 rfl).trans ((w65F 17 7 rfl).trans ((w59F 17 7 rfl).trans ((w53F 17 7 rfl).trans ((w47F 17 7 rfl).trans ((w41F 17 7 rfl).trans ((w35F 17 7 rfl).trans ((w29F 17 7 rfl).trans ((w23F 17 7 rfl).trans ((w17F 17 7 rfl).trans ((w9F 17 7 rfl).trans ((zIo (by decide)).trans rfl)))))))))))))))))))) ?_
        refine zs_goto (pc := 16) t96_16 ?_
        refine zs_iret (pc := 20) t96_20 mr96 rfl ?_
        show zGo X l 2 0 0 222 24 [(4, .int (7 : Int32)), (0, .ref 6), (1, .int (113 : Int32)), (2, .int (7 : Int32)), (3, .int (8 : Int32))] [.int (zI M 17 7), .ref 6] w119M _
        have w123 : (zI w119M 6 10).toInt = (zI w119M 6 10).toInt := (congrArg Int32.toInt rfl).trans rfl
        have w124 : (zI w119M 6 10).toInt = (zI w119M 6 10).toInt := (congrArg Int32.toInt rfl).trans rfl
        refine zs_invV (pc := 24) (k := 6) (as' := [.int (zI M 17 7)]) (st := []) t222_24 mf221 rfl rfl (Or.inl ⟨by decide, (zk1 (w119s.k fk_zMc_6))⟩) ⟨by decide, by decide, Nat.le_of_ble_eq_true rfl, Nat.le_of_ble_eq_true rfl⟩ (X221_6 w119s w119I ⟨by omega, by omega⟩ (by omega) w119y ?_) (fun _ _ q => q)
        intro w125M w125s w125I w125F w125t0 w125x0
        have w126 := ib6_10 w125I
        show zGo X l 2 0 0 222 27 [(4, .int (7 : Int32)), (0, .ref 6), (1, .int (113 : Int32)), (2, .int (7 : Int32)), (3, .int (8 : Int32))] [] w125M _
        have w125y : zWr w125M 6 10 335 (wN (wS (wS (wN (wS (wN (wS (wS (wN (wS (wS (wN (wS (wN (wS (wN (wS (wN (wS (wL F w10n) 115) (F 5)) 44) (F 6)) 44) (F 7)) 44) (F 8)) 59) 103) (F 9)) 59) 119) (F 10)) 44) (F 11)) 59) 113) (F 12)) := by
          have q := w125x0
          rw [show (zI M 17 7).toInt = (F 12) by first | decide | omega] at q
          exact q
        refine zs_aload_n (pc := 27) t222_27 rfl ?_
        refine zs_iload (pc := 28) t222_28 rfl ?_
        refine zs_iload_n (pc := 30) t222_30 rfl ?_
        refine zs_icmp_geF (pc := 31) t222_31 li7 li8 (by decide) ?_
        refine zs_bipush (pc := 34) t222_34 (v := 44) (by decide) ?_
        refine zs_goto (pc := 36) t222_36 ?_
        have w127 : (44 : Int32).toInt = 44 := li44
        have w128 : (44 : Int32).toInt = 44 := li44
        have w129 : (zI w125M 6 10).toInt = (zI w125M 6 10).toInt := (congrArg Int32.toInt rfl).trans rfl
        have w130 : (zI w125M 6 10).toInt = (zI w125M 6 10).toInt := (congrArg Int32.toInt rfl).trans rfl
        refine zs_invV (pc := 41) (k := 6) (as' := [.int (44 : Int32)]) (st := []) t222_41 mf220 rfl rfl (Or.inl ⟨by decide, (zk1 (w125s.k fk_zMc_6))⟩) ⟨by decide, by decide, Nat.le_of_ble_eq_true rfl, Nat.le_of_ble_eq_true rfl⟩ (X220_6 w125s w125I ⟨by decide, by decide⟩ (by omega) (by omega) w125y ?_) (fun _ _ q => q)
        intro w131M w131s w131I w131F w131t0 w131x0
        have w132 := ib6_10 w131I
        show zGo X l 2 0 0 222 44 [(4, .int (7 : Int32)), (0, .ref 6), (1, .int (113 : Int32)), (2, .int (7 : Int32)), (3, .int (8 : Int32))] [] w131M _
        have w131y : zWr w131M 6 10 335 (wS (wN (wS (wS (wN (wS (wN (wS (wS (wN (wS (wS (wN (wS (wN (wS (wN (wS (wN (wS (wL F w10n) 115) (F 5)) 44) (F 6)) 44) (F 7)) 44) (F 8)) 59) 103) (F 9)) 59) 119) (F 10)) 44) (F 11)) 59) 113) (F 12)) 44) := by
          have q := w131x0
          rw [show (44 : Int32).toInt = 44 by first | decide | omega] at q
          exact q
        refine zs_iinc (pc := 44) t222_44 (ls' := [(4, .int (8 : Int32)), (0, .ref 6), (1, .int (113 : Int32)), (2, .int (7 : Int32)), (3, .int (8 : Int32))]) (zml mf222 (by decide)) rfl (c := 8) (by decide) rfl ?_
        refine zs_goto (pc := 47) t222_47 ?_
        refine zs_iload (pc := 8) t222_8 rfl ?_
        refine zs_iload_n (pc := 10) t222_10 rfl ?_
        refine zs_icmp_gtF (pc := 11) t222_11 li8 li8 (by decide) ?_
        refine zs_aload_n (pc := 14) t222_14 rfl ?_
        refine zs_aload_n (pc := 15) t222_15 rfl ?_
        refine zs_get (pc := 16) t222_16 (by decide) (zk1 (w131s.k fk_zMc_6)) (w131s.p rfl fv_zMc_6_0) ?_
        refine zs_iload (pc := 19) t222_19 rfl ?_
        refine zs_invV (pc := 21) (k := 7) (as' := [.int (8 : Int32)]) (st := [.ref 6]) t222_21 mf96 rfl rfl (Or.inl ⟨by decide, (zk1 (w131s.k fk_zMc_7))⟩) ⟨by decide, by decide, Nat.le_of_ble_eq_true rfl, Nat.le_of_ble_eq_true rfl⟩ (zs_in (by decide) mf96 (Nat.le_of_ble_eq_true rfl) ?_) (fun _ _ q => q)
        show zGo X l 0 0 0 96 0 [(0, .ref 7), (1, .int (8 : Int32))] [] w131M _
        refine zs_iload_n (pc := 0) t96_0 rfl ?_
        refine zs_if_ltF (pc := 1) t96_1 li8 (by decide) ?_
        refine zs_iload_n (pc := 4) t96_4 rfl ?_
        refine zs_bipush (pc := 5) t96_5 (v := 9) (by decide) ?_
        refine zs_icmp_geF (pc := 7) t96_7 li8 li9 (by decide) ?_
        refine zs_aload_n (pc := 10) t96_10 rfl ?_
        refine zs_get (pc := 11) t96_11 (by decide) (zk1 (w131s.k fk_zMc_7)) (w131s.p rfl fv_zMc_7_12) ?_
        refine zs_iload_n (pc := 14) t96_14 rfl ?_
        have w133 := ib17 hI 8
        have w134 : (zI M 17 8).toInt = F 13 := x0.2.2.2.2.1 8 (by decide)
        refine zs_iald (pc := 15) t96_15 (j := 8) (by decide) (zk1 (w131s.k fk_zMc_17)) li8 (zk2 (w131s.k fk_zMc_17) (by decide)) ((w131F 17 8 rfl).trans ((w125F 17 8 rfl).trans ((w119F 17 8 rfl).trans ((w113F 17 8 rfl).trans ((w107F 17 8 rfl).trans ((w101F 17 8 rfl).trans ((w95F 17 8 rfl).trans ((w89F 17 8 rfl).trans ((w83F 17 8 rfl).trans ((w77F 17 8 rfl).trans ((w71F 17 8 rfl).trans ((w65F 17 8 rfl).trans ((w59F 17 8 rfl).trans ((w53F 17 8 rfl).trans ((w47F 17 8 rfl).trans ((w41F 17 8 rfl).trans ((w35F 17 8 rfl).trans ((w29F 17 8 rfl).trans ((w23F 17 8 rfl).trans ((w17F 17 8 rfl).trans ((w9F 17 8 rfl).trans ((zIo (by decide)).trans rfl)))))))))))))))))))))) ?_
        refine zs_goto (pc := 16) t96_16 ?_
        refine zs_iret (pc := 20) t96_20 mr96 rfl ?_
        show zGo X l 2 0 0 222 24 [(4, .int (8 : Int32)), (0, .ref 6), (1, .int (113 : Int32)), (2, .int (7 : Int32)), (3, .int (8 : Int32))] [.int (zI M 17 8), .ref 6] w131M _
        have w135 : (zI w131M 6 10).toInt = (zI w131M 6 10).toInt := (congrArg Int32.toInt rfl).trans rfl
        have w136 : (zI w131M 6 10).toInt = (zI w131M 6 10).toInt := (congrArg Int32.toInt rfl).trans rfl
        refine zs_invV (pc := 24) (k := 6) (as' := [.int (zI M 17 8)]) (st := []) t222_24 mf221 rfl rfl (Or.inl ⟨by decide, (zk1 (w131s.k fk_zMc_6))⟩) ⟨by decide, by decide, Nat.le_of_ble_eq_true rfl, Nat.le_of_ble_eq_true rfl⟩ (X221_6 w131s w131I ⟨by omega, by omega⟩ (by omega) w131y ?_) (fun _ _ q => q)
        intro w137M w137s w137I w137F w137t0 w137x0
        have w138 := ib6_10 w137I
        show zGo X l 2 0 0 222 27 [(4, .int (8 : Int32)), (0, .ref 6), (1, .int (113 : Int32)), (2, .int (7 : Int32)), (3, .int (8 : Int32))] [] w137M _
        have w137y : zWr w137M 6 10 335 (wN (wS (wN (wS (wS (wN (wS (wN (wS (wS (wN (wS (wS (wN (wS (wN (wS (wN (wS (wN (wS (wL F w10n) 115) (F 5)) 44) (F 6)) 44) (F 7)) 44) (F 8)) 59) 103) (F 9)) 59) 119) (F 10)) 44) (F 11)) 59) 113) (F 12)) 44) (F 13)) := by
          have q := w137x0
          rw [show (zI M 17 8).toInt = (F 13) by first | decide | omega] at q
          exact q
        refine zs_aload_n (pc := 27) t222_27 rfl ?_
        refine zs_iload (pc := 28) t222_28 rfl ?_
        refine zs_iload_n (pc := 30) t222_30 rfl ?_
        refine zs_icmp_geT (pc := 31) t222_31 li8 li8 (by decide) ?_
        refine zs_bipush (pc := 39) t222_39 (v := 59) (by decide) ?_
        have w139 : (59 : Int32).toInt = 59 := li59
        have w140 : (59 : Int32).toInt = 59 := li59
        have w141 : (zI w137M 6 10).toInt = (zI w137M 6 10).toInt := (congrArg Int32.toInt rfl).trans rfl
        have w142 : (zI w137M 6 10).toInt = (zI w137M 6 10).toInt := (congrArg Int32.toInt rfl).trans rfl
        refine zs_invV (pc := 41) (k := 6) (as' := [.int (59 : Int32)]) (st := []) t222_41 mf220 rfl rfl (Or.inl ⟨by decide, (zk1 (w137s.k fk_zMc_6))⟩) ⟨by decide, by decide, Nat.le_of_ble_eq_true rfl, Nat.le_of_ble_eq_true rfl⟩ (X220_6 w137s w137I ⟨by decide, by decide⟩ (by omega) (by omega) w137y ?_) (fun _ _ q => q)
        intro w143M w143s w143I w143F w143t0 w143x0
        have w144 := ib6_10 w143I
        show zGo X l 2 0 0 222 44 [(4, .int (8 : Int32)), (0, .ref 6), (1, .int (113 : Int32)), (2, .int (7 : Int32)), (3, .int (8 : Int32))] [] w143M _
        have w143y : zWr w143M 6 10 335 (wS (wN (wS (wN (wS (wS (wN (wS (wN (wS (wS (wN (wS (wS (wN (wS (wN (wS (wN (wS (wN (wS (wL F w10n) 115) (F 5)) 44) (F 6)) 44) (F 7)) 44) (F 8)) 59) 103) (F 9)) 59) 119) (F 10)) 44) (F 11)) 59) 113) (F 12)) 44) (F 13)) 59) := by
          have q := w143x0
          rw [show (59 : Int32).toInt = 59 by first | decide | omega] at q
          exact q
        refine zs_iinc (pc := 44) t222_44 (ls' := [(4, .int (9 : Int32)), (0, .ref 6), (1, .int (113 : Int32)), (2, .int (7 : Int32)), (3, .int (8 : Int32))]) (zml mf222 (by decide)) rfl (c := 9) (by decide) rfl ?_
        refine zs_goto (pc := 47) t222_47 ?_
        refine zs_iload (pc := 8) t222_8 rfl ?_
        refine zs_iload_n (pc := 10) t222_10 rfl ?_
        refine zs_icmp_gtT (pc := 11) t222_11 li9 li8 (by decide) ?_
        refine zs_vret (pc := 50) t222_50 mr222 ?_
        show zGo X l 3 0 0 219 84 [(0, .ref 6), (1, .int w9x1)] [] w143M _
        refine zs_aload_n (pc := 84) t219_84 rfl ?_
        refine zs_get (pc := 85) t219_85 (by decide) (zk1 (w143s.k fk_zMc_6)) (zfvi rfl rfl) ?_
        exact zs_iret (pc := 88) t219_88 mr219 rfl (hQ _ _ w143s w143I (((((((((((((((((((((((((zFr.refl).put rfl).trans (w9F.mono rfl)).trans (w17F.mono rfl)).trans (w23F.mono rfl)).trans (w29F.mono rfl)).trans (w35F.mono rfl)).trans (w41F.mono rfl)).trans (w47F.mono rfl)).trans (w53F.mono rfl)).trans (w59F.mono rfl)).trans (w65F.mono rfl)).trans (w71F.mono rfl)).trans (w77F.mono rfl)).trans (w83F.mono rfl)).trans (w89F.mono rfl)).trans (w95F.mono rfl)).trans (w101F.mono rfl)).trans (w107F.mono rfl)).trans (w113F.mono rfl)).trans (w119F.mono rfl)).trans (w125F.mono rfl)).trans (w131F.mono rfl)).trans (w137F.mono rfl)).trans (w143F.mono rfl)) (by have q := w143y; unfold wAll; rw [show (F 0).toNat = w10n by omega]; exact ⟨q.1.2, q⟩))
      · refine zs_icmp_geF (pc := 15) t219_15 rfl rfl (by omega) ?_
        refine zs_aload_n (pc := 18) t219_18 rfl ?_
        refine zs_bipush (pc := 19) t219_19 (v := 114) (by decide) ?_
        have w145 : (114 : Int32).toInt = 114 := li114
        have w146 : (114 : Int32).toInt = 114 := li114
        have w147 : (zI w9M 6 10).toInt = (zI w9M 6 10).toInt := (congrArg Int32.toInt rfl).trans rfl
        have w148 : (zI w9M 6 10).toInt = (zI w9M 6 10).toInt := (congrArg Int32.toInt rfl).trans rfl
        refine zs_invV (pc := 21) (k := 6) (as' := [.int (114 : Int32)]) (st := []) t219_21 mf220 rfl rfl (Or.inl ⟨by decide, (zk1 (w9s.k fk_zMc_6))⟩) ⟨by decide, by decide, Nat.le_of_ble_eq_true rfl, Nat.le_of_ble_eq_true rfl⟩ (X220_6 w9s w9I ⟨by decide, by decide⟩ (by omega) (by omega) (w9t0 w10n (by omega)) ?_) (fun _ _ q => q)
        intro w149M w149s w149I w149F w149t0 w149x0
        have w150 := ib6_10 w149I
        show zGo X l 3 0 0 219 24 [(0, .ref 6), (1, .int w9x1)] [] w149M _
        have w149y : zWr w149M 6 10 335 (wS (wL F w10n) 114) := by
          have q := w149x0
          rw [show (114 : Int32).toInt = 114 by first | decide | omega] at q
          exact q
        refine zs_aload_n (pc := 24) t219_24 rfl ?_
        refine zs_aload_n (pc := 25) t219_25 rfl ?_
        refine zs_get (pc := 26) t219_26 (by decide) (zk1 (w149s.k fk_zMc_6)) (w149s.p rfl fv_zMc_6_0) ?_
        refine zs_get (pc := 29) t219_29 (by decide) (zk1 (w149s.k fk_zMc_7)) (w149s.p rfl fv_zMc_7_1) ?_
        refine zs_iload_n (pc := 32) t219_32 rfl ?_
        have w151 := zrg (zI M 8 w10n)
        have w152 : (zI M 8 w10n).toInt = F (14 + 2 * w10n) ∧ (zI M 9 w10n).toInt = F (15 + 2 * w10n) := x0.2.1 w10n (by omega)
        have w153 := x1.2.1 w10n (by omega)
        refine zs_iald (pc := 33) t219_33 (j := w10n) (by decide) (zk1 (w149s.k fk_zMc_8)) (show w9x1.toInt = ((w10n : Nat) : Int) by omega) (zk2 (w149s.k fk_zMc_8) (by omega)) ((w149F 8 w10n rfl).trans ((w9F 8 w10n rfl).trans ((zIo (by decide)).trans rfl))) ?_
        have w154 : (zI w149M 6 10).toInt = (zI w149M 6 10).toInt := (congrArg Int32.toInt rfl).trans rfl
        have w155 : (zI w149M 6 10).toInt = (zI w149M 6 10).toInt := (congrArg Int32.toInt rfl).trans rfl
        refine zs_invV (pc := 34) (k := 6) (as' := [.int (zI M 8 w10n)]) (st := []) t219_34 mf221 rfl rfl (Or.inl ⟨by decide, (zk1 (w149s.k fk_zMc_6))⟩) ⟨by decide, by decide, Nat.le_of_ble_eq_true rfl, Nat.le_of_ble_eq_true rfl⟩ (X221_6 w149s w149I ⟨by omega, by omega⟩ (by omega) w149y ?_) (fun _ _ q => q)
        intro w156M w156s w156I w156F w156t0 w156x0
        have w157 := ib6_10 w156I
        show zGo X l 3 0 0 219 37 [(0, .ref 6), (1, .int w9x1)] [] w156M _
        have w156y : zWr w156M 6 10 335 (wN (wS (wL F w10n) 114) (F (14 + 2 * w10n))) := by
          have q := w156x0
          rw [show (zI M 8 w10n).toInt = (F (14 + 2 * w10n)) by first | decide | omega] at q
          exact q
        refine zs_aload_n (pc := 37) t219_37 rfl ?_
        refine zs_bipush (pc := 38) t219_38 (v := 59) (by decide) ?_
        have w158 : (59 : Int32).toInt = 59 := li59
        have w159 : (59 : Int32).toInt = 59 := li59
        have w160 : (zI w156M 6 10).toInt = (zI w156M 6 10).toInt := (congrArg Int32.toInt rfl).trans rfl
        have w161 : (zI w156M 6 10).toInt = (zI w156M 6 10).toInt := (congrArg Int32.toInt rfl).trans rfl
        refine zs_invV (pc := 40) (k := 6) (as' := [.int (59 : Int32)]) (st := []) t219_40 mf220 rfl rfl (Or.inl ⟨by decide, (zk1 (w156s.k fk_zMc_6))⟩) ⟨by decide, by decide, Nat.le_of_ble_eq_true rfl, Nat.le_of_ble_eq_true rfl⟩ (X220_6 w156s w156I ⟨by decide, by decide⟩ (by omega) (by omega) w156y ?_) (fun _ _ q => q)
        intro w162M w162s w162I w162F w162t0 w162x0
        have w163 := ib6_10 w162I
        show zGo X l 3 0 0 219 43 [(0, .ref 6), (1, .int w9x1)] [] w162M _
        have w162y : zWr w162M 6 10 335 (wS (wN (wS (wL F w10n) 114) (F (14 + 2 * w10n))) 59) := by
          have q := w162x0
          rw [show (59 : Int32).toInt = 59 by first | decide | omega] at q
          exact q
        obtain ⟨w164v, w164e, w164⟩ := ziadd (a := w9x1) (b := Int32.ofInt 1) rfl (show (Int32.ofInt 1).toInt = 1 by decide) (by omega) (by omega)
        refine zs_iinc (pc := 43) t219_43 (ls' := [(1, .int w164v), (0, .ref 6)]) (zml mf219 (by decide)) rfl (c := w164v) w164e rfl ?_
        refine zs_goto (pc := 46) t219_46 ?_
        refine zGo.locals (ls' := [(0, .ref 6), (1, .int w164v)]) (by simp) ?_
        have w165 := w164
        have w166 : (zI w162M 6 10).toInt = (zI w162M 6 10).toInt := (congrArg Int32.toInt rfl).trans rfl
        exact w9ih (w9m - 1) (by omega) w164v w162M ⟨by omega, by omega⟩ w162s w162I (((((zFr.refl).trans (w9F.mono rfl)).trans (w149F.mono rfl)).trans (w156F.mono rfl)).trans (w162F.mono rfl)) (by omega) (by omega) (fun l hl => by obtain rfl : l = w10n + 1 := (by omega); exact w162y) (by omega)
  refine zGo.locals (ls' := [(0, .ref 6), (1, .int (0 : Int32))]) (by simp) ?_
  have w167 := li0
  have w168 : (zI (zsI M 6 10 (0 : Int32)) 6 10).toInt = 0 := (congrArg Int32.toInt zIs).trans li0
  exact w9L ((8 - 0 : Int).toNat) (0 : Int32) (zsI M 6 10 (0 : Int32)) ⟨by decide, by decide⟩ hs w7 zFr.refl (by omega) (by omega) (fun l hl => by obtain rfl : l = 0 := (by omega); exact w8) (by omega)
theorem zand255 {x : Int32} (h0 : 0 ≤ x.toInt) (h1 : x.toInt ≤ 127) : (x &&& 255).toInt = x.toInt := by
  obtain ⟨n, hn⟩ : ∃ n : Nat, x.toInt = (n : Int) := ⟨x.toInt.toNat, by omega⟩
  have e : x = Int32.ofNat n := by
    rw [← Int32.toInt_inj, Int32.toInt_ofNat_of_lt (by omega)]
    exact hn
  have z := List.all_eq_true.mp (show ((List.range 128).all fun n => decide ((Int32.ofNat n &&& 255).toInt = (n : Int))) = true by decide +kernel) n (List.mem_range.mpr (by omega))
  rw [e, of_decide_eq_true z, ← e]
  exact hn.symm
theorem O223 {X : zX} {l : Launch} {M : zM} {Q : Option Value → zM → Prop} {a : Int32} (hs : zSk zMc M) (hI : zIv cLo cHi M) {c : zWt} (x0 : zWr M 6 10 335 c) (hQ : ∀ v : Int32, (zOcP c a.toInt v.toInt) → Q (some (.int v)) M) : zCall X l 0 0 0 223 [.ref 6, .int a] M Q := by
  have ga := zrg a
  refine zs_in (by decide) mf223 (Nat.le_of_ble_eq_true rfl) ?_
  show zGo X l 0 0 0 223 0 [(0, .ref 6), (1, .int a)] [] M _
  have g0 := x0.1
  refine zs_iload_n (pc := 0) t223_0 rfl ?_
  by_cases w1 : a.toInt < 0
  · refine zs_if_ltT (pc := 1) t223_1 rfl (by omega) ?_
    refine zs_iconst (pc := 12) t223_12 (v := -1) (by decide) ?_
    refine zs_goto (pc := 13) t223_13 ?_
    have w2 : (-1 : Int32).toInt = (-1) := lin1
    exact zs_iret (pc := 26) t223_26 mr223 (by decide) (hQ _ (zWr.on x0 (by omega) (by decide)))
  · refine zs_if_ltF (pc := 1) t223_1 rfl (by omega) ?_
    refine zs_iload_n (pc := 4) t223_4 rfl ?_
    refine zs_aload_n (pc := 5) t223_5 rfl ?_
    have w3 := ib6_10 hI
    refine zs_get (pc := 6) t223_6 (by decide) (zk1 (hs.k fk_zMc_6)) (zfvi rfl rfl) ?_
    by_cases w4 : a.toInt < (zI M 6 10).toInt
    · refine zs_icmp_ltT (pc := 9) t223_9 rfl rfl (by omega) ?_
      refine zs_aload_n (pc := 16) t223_16 rfl ?_
      refine zs_get (pc := 17) t223_17 (by decide) (zk1 (hs.k fk_zMc_6)) (hs.p rfl fv_zMc_6_9) ?_
      refine zs_iload_n (pc := 20) t223_20 rfl ?_
      obtain ⟨w5n, w5⟩ : ∃ n : Nat, a.toInt = (n : Int) := ⟨(a.toInt).toNat, by omega⟩
      have w6 := ib335 hI w5n
      have w7 := x0.2 w5n (by omega)
      refine zs_bald (pc := 21) t223_21 (j := w5n) (Or.inl (zk1 (hs.k fk_zMc_335))) (show a.toInt = ((w5n : Nat) : Int) by omega) (zk2 (hs.k fk_zMc_335) (by omega)) rfl ?_
      refine zs_sipush (pc := 22) t223_22 (v := 255) (by decide) ?_
      obtain ⟨w8v, w8⟩ : ∃ v, (zI M 335 w5n) &&& (255 : Int32) = v := ⟨_, rfl⟩
      have w8g : 0 ≤ w8v.toInt ∧ w8v.toInt ≤ 255 := by rw [← w8]; exact zand li255 (by decide)
      refine zs_iand (pc := 25) t223_25 (c := w8v) w8 ?_
      have w9 : w8v.toInt = (zI M 335 w5n).toInt := by rw [← w8]; exact zand255 (by omega) (by omega)
      exact zs_iret (pc := 26) t223_26 mr223 rfl (hQ _ (zWr.oc (n := w5n) x0 (by omega) (by omega) w9))
    · refine zs_icmp_ltF (pc := 9) t223_9 rfl rfl (by omega) ?_
      refine zs_iconst (pc := 12) t223_12 (v := -1) (by decide) ?_
      refine zs_goto (pc := 13) t223_13 ?_
      have w10 : (-1 : Int32).toInt = (-1) := lin1
      exact zs_iret (pc := 26) t223_26 mr223 (by decide) (hQ _ (zWr.on x0 (by omega) (by decide)))
theorem X113 {X : zX} {l : Launch} {M : zM} {Q : Option Value → zM → Prop} {a : Int32} (hs : zSk zMc M) (hI : zIv cLo cHi M) (hQ : ∀ v : Int32, (v = zbc a) → Q (some (.int v)) M) : zCall X l 0 0 0 113 [.int a] M Q := by
  have ga := zrg a
  refine zs_in (by decide) mf113 (Nat.le_of_ble_eq_true rfl) ?_
  show zGo X l 0 0 0 113 0 [(0, .int a)] [] M _
  refine zs_iload_n (pc := 0) t113_0 rfl ?_
  refine zs_iload_n (pc := 1) t113_1 rfl ?_
  refine zs_iconst (pc := 2) t113_2 (v := 1) (by decide) ?_
  obtain ⟨w1v, w1⟩ : ∃ v, (a.toUInt32 >>> ((1 : Int32).toUInt32 &&& Int32.toUInt32 31)).toInt32 = v := ⟨_, rfl⟩
  have w1g := zrg w1v
  refine zs_iushr (pc := 3) t113_3 (c := w1v) w1 ?_
  refine zs_ldc_w (pc := 4) t113_4 (v := 1431655765) rfl (by decide) ?_
  obtain ⟨w2v, w2⟩ : ∃ v, w1v &&& (1431655765 : Int32) = v := ⟨_, rfl⟩
  have w2g : 0 ≤ w2v.toInt ∧ w2v.toInt ≤ 1431655765 := by rw [← w2]; exact zand li1431655765 (by decide)
  refine zs_iand (pc := 7) t113_7 (c := w2v) w2 ?_
  obtain ⟨w3v, w3⟩ : ∃ v, v = a - w2v := ⟨_, rfl⟩
  have w3g := zrg w3v
  refine zs_isub (pc := 8) t113_8 (c := w3v) w3.symm ?_
  refine zs_istore_n (pc := 9) t113_9 (ls' := [(0, .int w3v)]) (zml mf113 (by decide)) rfl ?_
  refine zs_iload_n (pc := 10) t113_10 rfl ?_
  refine zs_ldc_w (pc := 11) t113_11 (v := 858993459) rfl (by decide) ?_
  obtain ⟨w4v, w4⟩ : ∃ v, w3v &&& (858993459 : Int32) = v := ⟨_, rfl⟩
  have w4g : 0 ≤ w4v.toInt ∧ w4v.toInt ≤ 858993459 := by rw [← w4]; exact zand li858993459 (by decide)
  refine zs_iand (pc := 14) t113_14 (c := w4v) w4 ?_
  refine zs_iload_n (pc := 15) t113_15 rfl ?_
  refine zs_iconst (pc := 16) t113_16 (v := 2) (by decide) ?_
  obtain ⟨w5v, w5⟩ : ∃ v, (w3v.toUInt32 >>> ((2 : Int32).toUInt32 &&& Int32.toUInt32 31)).toInt32 = v := ⟨_, rfl⟩
  have w5g := zrg w5v
  refine zs_iushr (pc := 17) t113_17 (c := w5v) w5 ?_
  refine zs_ldc_w (pc := 18) t113_18 (v := 858993459) rfl (by decide) ?_
  obtain ⟨w6v, w6⟩ : ∃ v, w5v &&& (858993459 : Int32) = v := ⟨_, rfl⟩
  have w6g : 0 ≤ w6v.toInt ∧ w6v.toInt ≤ 858993459 := by rw [← w6]; exact zand li858993459 (by decide)
  refine zs_iand (pc := 21) t113_21 (c := w6v) w6 ?_
  obtain ⟨w7v, w7e, w7⟩ := ziadd (a := w4v) (b := w6v) rfl rfl (by omega) (by omega)
  refine zs_iadd (pc := 22) t113_22 (c := w7v) w7e ?_
  refine zs_istore_n (pc := 23) t113_23 (ls' := [(0, .int w7v)]) (zml mf113 (by decide)) rfl ?_
  refine zs_iload_n (pc := 24) t113_24 rfl ?_
  refine zs_iload_n (pc := 25) t113_25 rfl ?_
  refine zs_iconst (pc := 26) t113_26 (v := 4) (by decide) ?_
  obtain ⟨w8v, w8⟩ : ∃ v, (w7v.toUInt32 >>> ((4 : Int32).toUInt32 &&& Int32.toUInt32 31)).toInt32 = v := ⟨_, rfl⟩
  have w8g := zrg w8v
  refine zs_iushr (pc := 27) t113_27 (c := w8v) w8 ?_
  obtain ⟨w9v, w9⟩ : ∃ v, v = w7v + w8v := ⟨_, rfl⟩
  have w9g := zrg w9v
  refine zs_iadd (pc := 28) t113_28 (c := w9v) w9.symm ?_
  refine zs_ldc_w (pc := 29) t113_29 (v := 252645135) rfl (by decide) ?_
  obtain ⟨w10v, w10⟩ : ∃ v, w9v &&& (252645135 : Int32) = v := ⟨_, rfl⟩
  have w10g : 0 ≤ w10v.toInt ∧ w10v.toInt ≤ 252645135 := by rw [← w10]; exact zand li252645135 (by decide)
  refine zs_iand (pc := 32) t113_32 (c := w10v) w10 ?_
  refine zs_istore_n (pc := 33) t113_33 (ls' := [(0, .int w10v)]) (zml mf113 (by decide)) rfl ?_
  refine zs_iload_n (pc := 34) t113_34 rfl ?_
  refine zs_iload_n (pc := 35) t113_35 rfl ?_
  refine zs_bipush (pc := 36) t113_36 (v := 8) (by decide) ?_
  obtain ⟨w11v, w11⟩ : ∃ v, (w10v.toUInt32 >>> ((8 : Int32).toUInt32 &&& Int32.toUInt32 31)).toInt32 = v := ⟨_, rfl⟩
  have w11g := zrg w11v
  refine zs_iushr (pc := 38) t113_38 (c := w11v) w11 ?_
  obtain ⟨w12v, w12⟩ : ∃ v, v = w10v + w11v := ⟨_, rfl⟩
  have w12g := zrg w12v
  refine zs_iadd (pc := 39) t113_39 (c := w12v) w12.symm ?_
  refine zs_istore_n (pc := 40) t113_40 (ls' := [(0, .int w12v)]) (zml mf113 (by decide)) rfl ?_
  refine zs_iload_n (pc := 41) t113_41 rfl ?_
  refine zs_iload_n (pc := 42) t113_42 rfl ?_
  refine zs_bipush (pc := 43) t113_43 (v := 16) (by decide) ?_
  obtain ⟨w13v, w13⟩ : ∃ v, (w12v.toUInt32 >>> ((16 : Int32).toUInt32 &&& Int32.toUInt32 31)).toInt32 = v := ⟨_, rfl⟩
  have w13g := zrg w13v
  refine zs_iushr (pc := 45) t113_45 (c := w13v) w13 ?_
  obtain ⟨w14v, w14⟩ : ∃ v, v = w12v + w13v := ⟨_, rfl⟩
  have w14g := zrg w14v
  refine zs_iadd (pc := 46) t113_46 (c := w14v) w14.symm ?_
  refine zs_istore_n (pc := 47) t113_47 (ls' := [(0, .int w14v)]) (zml mf113 (by decide)) rfl ?_
  refine zs_iload_n (pc := 48) t113_48 rfl ?_
  refine zs_bipush (pc := 49) t113_49 (v := 63) (by decide) ?_
  obtain ⟨w15v, w15⟩ : ∃ v, w14v &&& (63 : Int32) = v := ⟨_, rfl⟩
  have w15g : 0 ≤ w15v.toInt ∧ w15v.toInt ≤ 63 := by rw [← w15]; exact zand li63 (by decide)
  refine zs_iand (pc := 51) t113_51 (c := w15v) w15 ?_
  exact zs_iret (pc := 52) t113_52 mr113 rfl (hQ _ (by subst_vars; rfl))
theorem X149_7 {X : zX} {l : Launch} {M : zM} {Q : Option Value → zM → Prop} {a b c : Int32} (hs : zSk zMc M) (hI : zIv cLo cHi M) {F : Nat → Int} (ha : (-3) ≤ a.toInt ∧ a.toInt ≤ 3) (hb : (-20) ≤ b.toInt ∧ b.toInt ≤ 20) (x0 : zSo M 7 F) (x1 : zWF F) (hQ : ∀ v : Int32, (∀ n : Nat, F 1 = (n : Int) → ∃ m : Int32, zMk m (zlr F (zvh F a.toInt b.toInt c.toInt) n) ∧ v = zbc m) → Q (some (.int v)) M) : zCall X l 2 0 0 149 [.ref 7, .int a, .int b, .int c] M Q := by
  have ga := zrg a
  have gb := zrg b
  have gc := zrg c
  refine zs_in (by decide) mf149 (Nat.le_of_ble_eq_true rfl) ?_
  show zGo X l 2 0 0 149 0 [(0, .ref 7), (1, .int a), (2, .int b), (3, .int c)] [] M _
  have f0 := x0.1
  have w1 := ib7_0 hI
  have w2 : (zI M 7 0).toInt = (zI M 7 0).toInt := (congrArg Int32.toInt rfl).trans rfl
  have w3 := ib7_3 hI
  have w4 : (zI M 7 3).toInt = (zI M 7 3).toInt := (congrArg Int32.toInt rfl).trans rfl
  have w5 := ib7_8 hI
  have w6 : (zI M 7 8).toInt = (zI M 7 8).toInt := (congrArg Int32.toInt rfl).trans rfl
  have f1 := x1.1
  have f3 := x1.2.2.2
  have f2 := (show (zI M 7 0).toInt = F 0 ∧ (zI M 7 3).toInt = F 1 ∧ (zI M 7 8).toInt = F 2 from ⟨x0.1.1, x0.1.2.1, x0.1.2.2.1⟩)
  refine zs_iconst (pc := 0) t149_0 (v := 1) (by decide) ?_
  refine zs_aload_n (pc := 1) t149_1 rfl ?_
  refine zs_get (pc := 2) t149_2 (by decide) (zk1 (hs.k fk_zMc_7)) (hs.p rfl fv_zMc_7_12) ?_
  refine zs_iconst (pc := 5) t149_5 (v := 2) (by decide) ?_
  have w7 := ib17 hI 2
  have w8 : (zI M 17 2).toInt = F 7 := x0.2.2.2.2.1 2 (by decide)
  refine zs_iald (pc := 6) t149_6 (j := 2) (by decide) (zk1 (hs.k fk_zMc_17)) li2 (zk2 (hs.k fk_zMc_17) (by decide)) rfl ?_
  refine zs_invS (pc := 7) (as := [.int (1 : Int32), .int (zI M 17 2)]) (st := []) t149_7 (by decide) mf21 rfl rfl ⟨by decide, by decide, Nat.le_of_ble_eq_true rfl, Nat.le_of_ble_eq_true rfl⟩ (zs_in (by decide) mf21 (Nat.le_of_ble_eq_true rfl) ?_) (fun _ _ q => q)
  show zGo X l 0 0 0 21 0 [(0, .int (1 : Int32)), (1, .int (zI M 17 2))] [] M _
  refine zs_iload_n (pc := 0) t21_0 rfl ?_
  refine zs_iload_n (pc := 1) t21_1 rfl ?_
  by_cases w9 : 1 < (zI M 17 2).toInt
  · refine zs_icmp_ltT (pc := 2) t21_2 li1 rfl (by omega) ?_
    refine zs_iload_n (pc := 9) t21_9 rfl ?_
    refine zs_iret (pc := 10) t21_10 mr21 rfl ?_
    show zGo X l 2 0 0 149 10 [(0, .ref 7), (1, .int a), (2, .int b), (3, .int c)] [.int (zI M 17 2)] M _
    refine zs_istore (pc := 10) t149_10 (ls' := [(4, .int (zI M 17 2)), (0, .ref 7), (1, .int a), (2, .int b), (3, .int c)]) (zml mf149 (by decide)) rfl ?_
    refine zs_iconst (pc := 12) t149_12 (v := 0) (by decide) ?_
    refine zs_istore (pc := 13) t149_13 (ls' := [(5, .int (0 : Int32)), (4, .int (zI M 17 2)), (0, .ref 7), (1, .int a), (2, .int b), (3, .int c)]) (zml mf149 (by decide)) rfl ?_
    refine zs_iconst (pc := 15) t149_15 (v := 0) (by decide) ?_
    refine zs_istore (pc := 16) t149_16 (ls' := [(6, .int (0 : Int32)), (5, .int (0 : Int32)), (4, .int (zI M 17 2)), (0, .ref 7), (1, .int a), (2, .int b), (3, .int c)]) (zml mf149 (by decide)) rfl ?_
    have w10L : ∀ (m : Nat) (w10x5 : Int32) (w10x6 : Int32), (0 ≤ w10x6.toInt ∧ w10x6.toInt ≤ 60) → (w10x6.toInt ≤ F 1) → (∀ k : Nat, (k : Int) = w10x6.toInt → zMk w10x5 (zlr F (zvh F a.toInt b.toInt c.toInt) k)) → 60 - w10x6.toInt ≤ (m : Int) → zGo X l 2 0 0 149 18 [(0, .ref 7), (1, .int a), (2, .int b), (3, .int c), (4, .int (zI M 17 2)), (5, .int w10x5), (6, .int w10x6)] [] M Q := by
      intro m
      induction m using Nat.strongRecOn with
      | ind w10m w10ih =>
        intro w10x5 w10x6 w10b6 w10r0 w10t0 w10q
        have w10g5 := zrg w10x5
        refine zs_iload (pc := 18) t149_18 rfl ?_
        refine zs_aload_n (pc := 20) t149_20 rfl ?_
        refine zs_get (pc := 21) t149_21 (by decide) (zk1 (hs.k fk_zMc_7)) (zfvi rfl rfl) ?_
        by_cases w11 : (zI M 7 3).toInt ≤ w10x6.toInt
        · refine zs_icmp_geT (pc := 24) t149_24 rfl rfl (by omega) ?_
          refine zs_iload (pc := 96) t149_96 rfl ?_
          refine zs_invS (pc := 98) (as := [.int w10x5]) (st := []) t149_98 (by decide) mf113 rfl rfl ⟨by decide, by decide, Nat.le_of_ble_eq_true rfl, Nat.le_of_ble_eq_true rfl⟩ (X113 hs hI ?_) (fun _ _ q => q)
          intro w12v w12x0
          have w12g := zrg w12v
          show zGo X l 2 0 0 149 101 [(0, .ref 7), (1, .int a), (2, .int b), (3, .int c), (4, .int (zI M 17 2)), (5, .int w10x5), (6, .int w10x6)] [.int w12v] M _
          obtain ⟨w13n, w13⟩ : ∃ n : Nat, w10x6.toInt = (n : Int) := ⟨(w10x6.toInt).toNat, by omega⟩
          exact zs_iret (pc := 101) t149_101 mr149 rfl (hQ _ (fun n hn => by obtain rfl : w13n = n := (by omega); exact ⟨w10x5, w10t0 w13n (by omega), w12x0⟩))
        · refine zs_icmp_geF (pc := 24) t149_24 rfl rfl (by omega) ?_
          refine zs_aload_n (pc := 27) t149_27 rfl ?_
          refine zs_get (pc := 28) t149_28 (by decide) (zk1 (hs.k fk_zMc_7)) (hs.p rfl fv_zMc_7_4) ?_
          refine zs_iload (pc := 31) t149_31 rfl ?_
          obtain ⟨w14n, w14⟩ : ∃ n : Nat, w10x6.toInt = (n : Int) := ⟨(w10x6.toInt).toNat, by omega⟩
          have w15 := ib10 hI w14n
          have w16 : (zI M 10 w14n).toInt = F (30 + 4 * w14n) ∧ (zI M 11 w14n).toInt = F (31 + 4 * w14n) ∧ (zI M 12 w14n).toInt = F (32 + 4 * w14n) ∧ (zI M 13 w14n).toInt = F (33 + 4 * w14n) := x0.2.2.1 w14n (by omega)
          have w17 := x1.2.2.1 w14n (by omega)
          refine zs_iald (pc := 33) t149_33 (j := w14n) (by decide) (zk1 (hs.k fk_zMc_10)) (show w10x6.toInt = ((w14n : Nat) : Int) by omega) (zk2 (hs.k fk_zMc_10) (by omega)) rfl ?_
          refine zs_istore (pc := 34) t149_34 (ls' := [(7, .int (zI M 10 w14n)), (0, .ref 7), (1, .int a), (2, .int b), (3, .int c), (4, .int (zI M 17 2)), (5, .int w10x5), (6, .int w10x6)]) (zml mf149 (by decide)) rfl ?_
          refine zs_aload_n (pc := 36) t149_36 rfl ?_
          refine zs_get (pc := 37) t149_37 (by decide) (zk1 (hs.k fk_zMc_7)) (hs.p rfl fv_zMc_7_5) ?_
          refine zs_iload (pc := 40) t149_40 rfl ?_
          have w18 := zrg (zI M 11 w14n)
          have w19 : (zI M 10 w14n).toInt = F (30 + 4 * w14n) ∧ (zI M 11 w14n).toInt = F (31 + 4 * w14n) ∧ (zI M 12 w14n).toInt = F (32 + 4 * w14n) ∧ (zI M 13 w14n).toInt = F (33 + 4 * w14n) := x0.2.2.1 w14n (by omega)
          have w20 := x1.2.2.1 w14n (by omega)
          refine zs_iald (pc := 42) t149_42 (j := w14n) (by decide) (zk1 (hs.k fk_zMc_11)) (show w10x6.toInt = ((w14n : Nat) : Int) by omega) (zk2 (hs.k fk_zMc_11) (by omega)) rfl ?_
          refine zs_aload_n (pc := 43) t149_43 rfl ?_
          refine zs_iload (pc := 44) t149_44 rfl ?_
          refine zs_iload_n (pc := 46) t149_46 rfl ?_
          refine zs_invV (pc := 47) (k := 7) (as' := [.int (zI M 10 w14n), .int b]) (st := [.int (zI M 11 w14n)]) t149_47 mf53 rfl rfl (Or.inl ⟨by decide, (zk1 (hs.k fk_zMc_7))⟩) ⟨by decide, by decide, Nat.le_of_ble_eq_true rfl, Nat.le_of_ble_eq_true rfl⟩ (X53_7 hs hI x0 x1 ?_) (fun _ _ q => q)
          intro w21v w21x0
          obtain ⟨w22n, w22⟩ : ∃ n : Nat, (zI M 10 w14n).toInt = (n : Int) := ⟨((zI M 10 w14n).toInt).toNat, by omega⟩
          have w23 := x1.2.1 w22n (by omega)
          have w23b := pLf.b (l := w22n) (t := b.toInt) (k := a.toInt) w23.1 w23.2.1 (by omega) (by omega) (by omega) (by omega)
          have w21q := w21x0 w22n (by omega) (by omega) (by omega) (by omega)
          have w21g := zrg w21v
          show zGo X l 2 0 0 149 50 [(7, .int (zI M 10 w14n)), (0, .ref 7), (1, .int a), (2, .int b), (3, .int c), (4, .int (zI M 17 2)), (5, .int w10x5), (6, .int w10x6)] [.int w21v, .int (zI M 11 w14n)] M _
          obtain ⟨w24v, w24e, w24⟩ := zisub (a := (zI M 11 w14n)) (b := w21v) rfl rfl (by omega) (by omega)
          refine zs_isub (pc := 50) t149_50 (c := w24v) w24e ?_
          refine zs_aload_n (pc := 51) t149_51 rfl ?_
          refine zs_iload (pc := 52) t149_52 rfl ?_
          refine zs_iload_n (pc := 54) t149_54 rfl ?_
          refine zs_invV (pc := 55) (k := 7) (as' := [.int (zI M 10 w14n), .int a]) (st := [.int w24v]) t149_55 mf55 rfl rfl (Or.inl ⟨by decide, (zk1 (hs.k fk_zMc_7))⟩) ⟨by decide, by decide, Nat.le_of_ble_eq_true rfl, Nat.le_of_ble_eq_true rfl⟩ (X55_7 hs hI x0 x1 ?_) (fun _ _ q => q)
          intro w25v w25x0
          have w26 := x1.2.1 w22n (by omega)
          have w26b := pLf.b (l := w22n) (t := b.toInt) (k := a.toInt) w26.1 w26.2.1 (by omega) (by omega) (by omega) (by omega)
          have w25q := w25x0 w22n (by omega) (by omega) (by omega) (by omega)
          have w25g := zrg w25v
          show zGo X l 2 0 0 149 58 [(7, .int (zI M 10 w14n)), (0, .ref 7), (1, .int a), (2, .int b), (3, .int c), (4, .int (zI M 17 2)), (5, .int w10x5), (6, .int w10x6)] [.int w25v, .int w24v] M _
          obtain ⟨w27v, w27e, w27⟩ := zisub (a := w24v) (b := w25v) w24 rfl (by omega) (by omega)
          refine zs_isub (pc := 58) t149_58 (c := w27v) w27e ?_
          refine zs_istore (pc := 59) t149_59 (ls' := [(8, .int w27v), (7, .int (zI M 10 w14n)), (0, .ref 7), (1, .int a), (2, .int b), (3, .int c), (4, .int (zI M 17 2)), (5, .int w10x5), (6, .int w10x6)]) (zml mf149 (by decide)) rfl ?_
          refine zs_aload_n (pc := 61) t149_61 rfl ?_
          refine zs_iload (pc := 62) t149_62 rfl ?_
          refine zs_invV (pc := 64) (k := 7) (as' := [.int w10x6]) (st := []) t149_64 mf93 rfl rfl (Or.inl ⟨by decide, (zk1 (hs.k fk_zMc_7))⟩) ⟨by decide, by decide, Nat.le_of_ble_eq_true rfl, Nat.le_of_ble_eq_true rfl⟩ (X93_7 hs hI x0 x1 ?_) (fun _ _ q => q)
          intro w28v w28x0 w28a w28b
          show zGo X l 2 0 0 149 67 [(8, .int w27v), (7, .int (zI M 10 w14n)), (0, .ref 7), (1, .int a), (2, .int b), (3, .int c), (4, .int (zI M 17 2)), (5, .int w10x5), (6, .int w10x6)] [.int w28v] M _
          by_cases w29 : w28v.toInt = 0
          · refine zs_if_eqT (pc := 67) t149_67 rfl (by omega) ?_
            obtain ⟨w30v, w30e, w30⟩ := ziadd (a := w10x6) (b := Int32.ofInt 1) rfl (show (Int32.ofInt 1).toInt = 1 by decide) (by omega) (by omega)
            refine zs_iinc (pc := 90) t149_90 (ls' := [(6, .int w30v), (8, .int w27v), (7, .int (zI M 10 w14n)), (0, .ref 7), (1, .int a), (2, .int b), (3, .int c), (4, .int (zI M 17 2)), (5, .int w10x5)]) (zml mf149 (by decide)) rfl (c := w30v) w30e rfl ?_
            refine zs_goto (pc := 93) t149_93 ?_
            refine zGo.locals (ls' := [(0, .ref 7), (1, .int a), (2, .int b), (3, .int c), (4, .int (zI M 17 2)), (5, .int w10x5), (6, .int w30v)]) (by simp) ?_
            have w31 := w30
            exact w10ih (w10m - 1) (by omega) w10x5 w30v ⟨by omega, by omega⟩ (by omega) (fun k hk => by obtain rfl : k = w14n + 1 := (by omega); rcases (w28x0 w14n (by omega) (by omega)) with ⟨q1, q2⟩ | ⟨q1, q2⟩ <;> first | exact absurd q1 (by omega) | exact zMk.vn (w10t0 w14n (by omega)) (zvh.n q2) | skip) (by omega)
          · refine zs_if_eqF (pc := 67) t149_67 rfl (by omega) ?_
            refine zs_iload (pc := 70) t149_70 rfl ?_
            refine zs_iload (pc := 72) t149_72 rfl ?_
            have w32 : w27v.toInt = (((zI M 11 w14n).toInt - w21v.toInt) - w25v.toInt) := w27
            refine zs_invS (pc := 74) (as := [.int w27v, .int (zI M 17 2)]) (st := []) t149_74 (by decide) mf54 rfl rfl ⟨by decide, by decide, Nat.le_of_ble_eq_true rfl, Nat.le_of_ble_eq_true rfl⟩ (X54 hs hI ⟨by omega, by omega⟩ ?_) (fun _ _ q => q)
            intro w33v w33x0
            have w35 : w27v.toInt = (((zI M 11 w14n).toInt - w21v.toInt) - w25v.toInt) := w27
            have w34 : w33v.toInt = (F (31 + 4 * w14n) - (b.toInt * F (14 + 2 * w22n) / 100 + a.toInt * F (14 + 2 * w22n) * F (14 + 2 * w22n) / 10000)) / F 7 := by rw [w33x0, show w27v.toInt = F (31 + 4 * w14n) - (b.toInt * F (14 + 2 * w22n) / 100 + a.toInt * F (14 + 2 * w22n) * F (14 + 2 * w22n) / 10000) by omega, show (zI M 17 2).toInt = F 7 by omega]
            have w33g := zrg w33v
            show zGo X l 2 0 0 149 77 [(8, .int w27v), (7, .int (zI M 10 w14n)), (0, .ref 7), (1, .int a), (2, .int b), (3, .int c), (4, .int (zI M 17 2)), (5, .int w10x5), (6, .int w10x6)] [.int w33v] M _
            refine zs_iload_n (pc := 77) t149_77 rfl ?_
            by_cases w36 : w33v.toInt ≠ c.toInt
            · refine zs_icmp_neT (pc := 78) t149_78 rfl rfl (by omega) ?_
              obtain ⟨w37v, w37e, w37⟩ := ziadd (a := w10x6) (b := Int32.ofInt 1) rfl (show (Int32.ofInt 1).toInt = 1 by decide) (by omega) (by omega)
              refine zs_iinc (pc := 90) t149_90 (ls' := [(6, .int w37v), (8, .int w27v), (7, .int (zI M 10 w14n)), (0, .ref 7), (1, .int a), (2, .int b), (3, .int c), (4, .int (zI M 17 2)), (5, .int w10x5)]) (zml mf149 (by decide)) rfl (c := w37v) w37e rfl ?_
              refine zs_goto (pc := 93) t149_93 ?_
              refine zGo.locals (ls' := [(0, .ref 7), (1, .int a), (2, .int b), (3, .int c), (4, .int (zI M 17 2)), (5, .int w10x5), (6, .int w37v)]) (by simp) ?_
              have w38 := w37
              exact w10ih (w10m - 1) (by omega) w10x5 w37v ⟨by omega, by omega⟩ (by omega) (fun k hk => by obtain rfl : k = w14n + 1 := (by omega); rcases (w28x0 w14n (by omega) (by omega)) with ⟨q1, q2⟩ | ⟨q1, q2⟩ <;> first | exact absurd q1 (by omega) | exact zMk.vn (w10t0 w14n (by omega)) (zvh.n q2) | exact zMk.vn (w10t0 w14n (by omega)) (zvh.o (l := w22n) (by omega) (by unfold pLf; rw [← w34]; omega))) (by omega)
            · refine zs_icmp_neF (pc := 78) t149_78 rfl rfl (by omega) ?_
              refine zs_iload (pc := 81) t149_81 rfl ?_
              refine zs_iconst (pc := 83) t149_83 (v := 1) (by decide) ?_
              refine zs_iload (pc := 84) t149_84 rfl ?_
              obtain ⟨w39v, w39⟩ : ∃ v, (1 : Int32) <<< ((zI M 10 w14n) &&& 31) = v := ⟨_, rfl⟩
              have w39g := zrg w39v
              refine zs_ishl (pc := 86) t149_86 (c := w39v) w39 ?_
              obtain ⟨w40v, w40⟩ : ∃ v, w10x5 ||| w39v = v := ⟨_, rfl⟩
              have w40g := zrg w40v
              refine zs_ior (pc := 87) t149_87 (c := w40v) w40 ?_
              refine zs_istore (pc := 88) t149_88 (ls' := [(5, .int w40v), (8, .int w27v), (7, .int (zI M 10 w14n)), (0, .ref 7), (1, .int a), (2, .int b), (3, .int c), (4, .int (zI M 17 2)), (6, .int w10x6)]) (zml mf149 (by decide)) rfl ?_
              obtain ⟨w41v, w41e, w41⟩ := ziadd (a := w10x6) (b := Int32.ofInt 1) rfl (show (Int32.ofInt 1).toInt = 1 by decide) (by omega) (by omega)
              refine zs_iinc (pc := 90) t149_90 (ls' := [(6, .int w41v), (5, .int w40v), (8, .int w27v), (7, .int (zI M 10 w14n)), (0, .ref 7), (1, .int a), (2, .int b), (3, .int c), (4, .int (zI M 17 2))]) (zml mf149 (by decide)) rfl (c := w41v) w41e rfl ?_
              refine zs_goto (pc := 93) t149_93 ?_
              refine zGo.locals (ls' := [(0, .ref 7), (1, .int a), (2, .int b), (3, .int c), (4, .int (zI M 17 2)), (5, .int w40v), (6, .int w41v)]) (by simp) ?_
              have w42 := w41
              exact w10ih (w10m - 1) (by omega) w40v w41v ⟨by omega, by omega⟩ (by omega) (fun k hk => by obtain rfl : k = w14n + 1 := (by omega); rcases (w28x0 w14n (by omega) (by omega)) with ⟨q1, q2⟩ | ⟨q1, q2⟩ <;> first | exact absurd q1 (by omega) | exact zMk.vy (j := w22n) (w10t0 w14n (by omega)) (zvh.y (l := w22n) q2 (by omega) (by unfold pLf; rw [← w34]; omega)) (by omega) (by omega) (by omega) w39 w40) (by omega)
    refine zGo.locals (ls' := [(0, .ref 7), (1, .int a), (2, .int b), (3, .int c), (4, .int (zI M 17 2)), (5, .int (0 : Int32)), (6, .int (0 : Int32))]) (by simp) ?_
    have w43 := li0
    have w44 := li0
    exact w10L ((60 - 0 : Int).toNat) (0 : Int32) (0 : Int32) ⟨by decide, by decide⟩ (by omega) (fun k hk => by obtain rfl : k = 0 := (by omega); exact zMk.zero (by decide) (fun _ => rfl)) (by omega)
  · refine zs_icmp_ltF (pc := 2) t21_2 li1 rfl (by omega) ?_
    refine zs_iload_n (pc := 5) t21_5 rfl ?_
    refine zs_goto (pc := 6) t21_6 ?_
    refine zs_iret (pc := 10) t21_10 mr21 (by decide) ?_
    show zGo X l 2 0 0 149 10 [(0, .ref 7), (1, .int a), (2, .int b), (3, .int c)] [.int (1 : Int32)] M _
    refine zs_istore (pc := 10) t149_10 (ls' := [(4, .int (1 : Int32)), (0, .ref 7), (1, .int a), (2, .int b), (3, .int c)]) (zml mf149 (by decide)) rfl ?_
    refine zs_iconst (pc := 12) t149_12 (v := 0) (by decide) ?_
    refine zs_istore (pc := 13) t149_13 (ls' := [(5, .int (0 : Int32)), (4, .int (1 : Int32)), (0, .ref 7), (1, .int a), (2, .int b), (3, .int c)]) (zml mf149 (by decide)) rfl ?_
    refine zs_iconst (pc := 15) t149_15 (v := 0) (by decide) ?_
    refine zs_istore (pc := 16) t149_16 (ls' := [(6, .int (0 : Int32)), (5, .int (0 : Int32)), (4, .int (1 : Int32)), (0, .ref 7), (1, .int a), (2, .int b), (3, .int c)]) (zml mf149 (by decide)) rfl ?_
    have w45L : ∀ (m : Nat) (w45x5 : Int32) (w45x6 : Int32), (0 ≤ w45x6.toInt ∧ w45x6.toInt ≤ 60) → (w45x6.toInt ≤ F 1) → (∀ k : Nat, (k : Int) = w45x6.toInt → zMk w45x5 (zlr F (zvh F a.toInt b.toInt c.toInt) k)) → 60 - w45x6.toInt ≤ (m : Int) → zGo X l 2 0 0 149 18 [(0, .ref 7), (1, .int a), (2, .int b), (3, .int c), (4, .int (1 : Int32)), (5, .int w45x5), (6, .int w45x6)] [] M Q := by
      intro m
      induction m using Nat.strongRecOn with
      | ind w45m w45ih =>
        intro w45x5 w45x6 w45b6 w45r0 w45t0 w45q
        have w45g5 := zrg w45x5
        refine zs_iload (pc := 18) t149_18 rfl ?_
        refine zs_aload_n (pc := 20) t149_20 rfl ?_
        refine zs_get (pc := 21) t149_21 (by decide) (zk1 (hs.k fk_zMc_7)) (zfvi rfl rfl) ?_
        by_cases w46 : (zI M 7 3).toInt ≤ w45x6.toInt
        · refine zs_icmp_geT (pc := 24) t149_24 rfl rfl (by omega) ?_
          refine zs_iload (pc := 96) t149_96 rfl ?_
          refine zs_invS (pc := 98) (as := [.int w45x5]) (st := []) t149_98 (by decide) mf113 rfl rfl ⟨by decide, by decide, Nat.le_of_ble_eq_true rfl, Nat.le_of_ble_eq_true rfl⟩ (X113 hs hI ?_) (fun _ _ q => q)
          intro w47v w47x0
          have w47g := zrg w47v
          show zGo X l 2 0 0 149 101 [(0, .ref 7), (1, .int a), (2, .int b), (3, .int c), (4, .int (1 : Int32)), (5, .int w45x5), (6, .int w45x6)] [.int w47v] M _
          obtain ⟨w48n, w48⟩ : ∃ n : Nat, w45x6.toInt = (n : Int) := ⟨(w45x6.toInt).toNat, by omega⟩
          exact zs_iret (pc := 101) t149_101 mr149 rfl (hQ _ (fun n hn => by obtain rfl : w48n = n := (by omega); exact ⟨w45x5, w45t0 w48n (by omega), w47x0⟩))
        · refine zs_icmp_geF (pc := 24) t149_24 rfl rfl (by omega) ?_
          refine zs_aload_n (pc := 27) t149_27 rfl ?_
          refine zs_get (pc := 28) t149_28 (by decide) (zk1 (hs.k fk_zMc_7)) (hs.p rfl fv_zMc_7_4) ?_
          refine zs_iload (pc := 31) t149_31 rfl ?_
          obtain ⟨w49n, w49⟩ : ∃ n : Nat, w45x6.toInt = (n : Int) := ⟨(w45x6.toInt).toNat, by omega⟩
          have w50 := ib10 hI w49n
          have w51 : (zI M 10 w49n).toInt = F (30 + 4 * w49n) ∧ (zI M 11 w49n).toInt = F (31 + 4 * w49n) ∧ (zI M 12 w49n).toInt = F (32 + 4 * w49n) ∧ (zI M 13 w49n).toInt = F (33 + 4 * w49n) := x0.2.2.1 w49n (by omega)
          have w52 := x1.2.2.1 w49n (by omega)
          refine zs_iald (pc := 33) t149_33 (j := w49n) (by decide) (zk1 (hs.k fk_zMc_10)) (show w45x6.toInt = ((w49n : Nat) : Int) by omega) (zk2 (hs.k fk_zMc_10) (by omega)) rfl ?_
          refine zs_istore (pc := 34) t149_34 (ls' := [(7, .int (zI M 10 w49n)), (0, .ref 7), (1, .int a), (2, .int b), (3, .int c), (4, .int (1 : Int32)), (5, .int w45x5), (6, .int w45x6)]) (zml mf149 (by decide)) rfl ?_
          refine zs_aload_n (pc := 36) t149_36 rfl ?_
          refine zs_get (pc := 37) t149_37 (by decide) (zk1 (hs.k fk_zMc_7)) (hs.p rfl fv_zMc_7_5) ?_
          refine zs_iload (pc := 40) t149_40 rfl ?_
          have w53 := zrg (zI M 11 w49n)
          have w54 : (zI M 10 w49n).toInt = F (30 + 4 * w49n) ∧ (zI M 11 w49n).toInt = F (31 + 4 * w49n) ∧ (zI M 12 w49n).toInt = F (32 + 4 * w49n) ∧ (zI M 13 w49n).toInt = F (33 + 4 * w49n) := x0.2.2.1 w49n (by omega)
          have w55 := x1.2.2.1 w49n (by omega)
          refine zs_iald (pc := 42) t149_42 (j := w49n) (by decide) (zk1 (hs.k fk_zMc_11)) (show w45x6.toInt = ((w49n : Nat) : Int) by omega) (zk2 (hs.k fk_zMc_11) (by omega)) rfl ?_
          refine zs_aload_n (pc := 43) t149_43 rfl ?_
          refine zs_iload (pc := 44) t149_44 rfl ?_
          refine zs_iload_n (pc := 46) t149_46 rfl ?_
          refine zs_invV (pc := 47) (k := 7) (as' := [.int (zI M 10 w49n), .int b]) (st := [.int (zI M 11 w49n)]) t149_47 mf53 rfl rfl (Or.inl ⟨by decide, (zk1 (hs.k fk_zMc_7))⟩) ⟨by decide, by decide, Nat.le_of_ble_eq_true rfl, Nat.le_of_ble_eq_true rfl⟩ (X53_7 hs hI x0 x1 ?_) (fun _ _ q => q)
          intro w56v w56x0
          obtain ⟨w57n, w57⟩ : ∃ n : Nat, (zI M 10 w49n).toInt = (n : Int) := ⟨((zI M 10 w49n).toInt).toNat, by omega⟩
          have w58 := x1.2.1 w57n (by omega)
          have w58b := pLf.b (l := w57n) (t := b.toInt) (k := a.toInt) w58.1 w58.2.1 (by omega) (by omega) (by omega) (by omega)
          have w56q := w56x0 w57n (by omega) (by omega) (by omega) (by omega)
          have w56g := zrg w56v
          show zGo X l 2 0 0 149 50 [(7, .int (zI M 10 w49n)), (0, .ref 7), (1, .int a), (2, .int b), (3, .int c), (4, .int (1 : Int32)), (5, .int w45x5), (6, .int w45x6)] [.int w56v, .int (zI M 11 w49n)] M _
          obtain ⟨w59v, w59e, w59⟩ := zisub (a := (zI M 11 w49n)) (b := w56v) rfl rfl (by omega) (by omega)
          refine zs_isub (pc := 50) t149_50 (c := w59v) w59e ?_
          refine zs_aload_n (pc := 51) t149_51 rfl ?_
          refine zs_iload (pc := 52) t149_52 rfl ?_
          refine zs_iload_n (pc := 54) t149_54 rfl ?_
          refine zs_invV (pc := 55) (k := 7) (as' := [.int (zI M 10 w49n), .int a]) (st := [.int w59v]) t149_55 mf55 rfl rfl (Or.inl ⟨by decide, (zk1 (hs.k fk_zMc_7))⟩) ⟨by decide, by decide, Nat.le_of_ble_eq_true rfl, Nat.le_of_ble_eq_true rfl⟩ (X55_7 hs hI x0 x1 ?_) (fun _ _ q => q)
          intro w60v w60x0
          have w61 := x1.2.1 w57n (by omega)
          have w61b := pLf.b (l := w57n) (t := b.toInt) (k := a.toInt) w61.1 w61.2.1 (by omega) (by omega) (by omega) (by omega)
          have w60q := w60x0 w57n (by omega) (by omega) (by omega) (by omega)
          have w60g := zrg w60v
          show zGo X l 2 0 0 149 58 [(7, .int (zI M 10 w49n)), (0, .ref 7), (1, .int a), (2, .int b), (3, .int c), (4, .int (1 : Int32)), (5, .int w45x5), (6, .int w45x6)] [.int w60v, .int w59v] M _
          obtain ⟨w62v, w62e, w62⟩ := zisub (a := w59v) (b := w60v) w59 rfl (by omega) (by omega)
          refine zs_isub (pc := 58) t149_58 (c := w62v) w62e ?_
          refine zs_istore (pc := 59) t149_59 (ls' := [(8, .int w62v), (7, .int (zI M 10 w49n)), (0, .ref 7), (1, .int a), (2, .int b), (3, .int c), (4, .int (1 : Int32)), (5, .int w45x5), (6, .int w45x6)]) (zml mf149 (by decide)) rfl ?_
          refine zs_aload_n (pc := 61) t149_61 rfl ?_
          refine zs_iload (pc := 62) t149_62 rfl ?_
          refine zs_invV (pc := 64) (k := 7) (as' := [.int w45x6]) (st := []) t149_64 mf93 rfl rfl (Or.inl ⟨by decide, (zk1 (hs.k fk_zMc_7))⟩) ⟨by decide, by decide, Nat.le_of_ble_eq_true rfl, Nat.le_of_ble_eq_true rfl⟩ (X93_7 hs hI x0 x1 ?_) (fun _ _ q => q)
          intro w63v w63x0 w63a w63b
          show zGo X l 2 0 0 149 67 [(8, .int w62v), (7, .int (zI M 10 w49n)), (0, .ref 7), (1, .int a), (2, .int b), (3, .int c), (4, .int (1 : Int32)), (5, .int w45x5), (6, .int w45x6)] [.int w63v] M _
          by_cases w64 : w63v.toInt = 0
          · refine zs_if_eqT (pc := 67) t149_67 rfl (by omega) ?_
            obtain ⟨w65v, w65e, w65⟩ := ziadd (a := w45x6) (b := Int32.ofInt 1) rfl (show (Int32.ofInt 1).toInt = 1 by decide) (by omega) (by omega)
            refine zs_iinc (pc := 90) t149_90 (ls' := [(6, .int w65v), (8, .int w62v), (7, .int (zI M 10 w49n)), (0, .ref 7), (1, .int a), (2, .int b), (3, .int c), (4, .int (1 : Int32)), (5, .int w45x5)]) (zml mf149 (by decide)) rfl (c := w65v) w65e rfl ?_
            refine zs_goto (pc := 93) t149_93 ?_
            refine zGo.locals (ls' := [(0, .ref 7), (1, .int a), (2, .int b), (3, .int c), (4, .int (1 : Int32)), (5, .int w45x5), (6, .int w65v)]) (by simp) ?_
            have w66 := w65
            exact w45ih (w45m - 1) (by omega) w45x5 w65v ⟨by omega, by omega⟩ (by omega) (fun k hk => by obtain rfl : k = w49n + 1 := (by omega); rcases (w63x0 w49n (by omega) (by omega)) with ⟨q1, q2⟩ | ⟨q1, q2⟩ <;> first | exact absurd q1 (by omega) | exact zMk.vn (w45t0 w49n (by omega)) (zvh.n q2) | skip) (by omega)
          · refine zs_if_eqF (pc := 67) t149_67 rfl (by omega) ?_
            refine zs_iload (pc := 70) t149_70 rfl ?_
            refine zs_iload (pc := 72) t149_72 rfl ?_
            have w67 : w62v.toInt = (((zI M 11 w49n).toInt - w56v.toInt) - w60v.toInt) := w62
            have w68 : (1 : Int32).toInt = 1 := li1
            refine zs_invS (pc := 74) (as := [.int w62v, .int (1 : Int32)]) (st := []) t149_74 (by decide) mf54 rfl rfl ⟨by decide, by decide, Nat.le_of_ble_eq_true rfl, Nat.le_of_ble_eq_true rfl⟩ (X54 hs hI ⟨by decide, by decide⟩ ?_) (fun _ _ q => q)
            intro w69v w69x0
            have w71 : w62v.toInt = (((zI M 11 w49n).toInt - w56v.toInt) - w60v.toInt) := w62
            have w72 : (1 : Int32).toInt = 1 := li1
            have w70 : w69v.toInt = (F (31 + 4 * w49n) - (b.toInt * F (14 + 2 * w57n) / 100 + a.toInt * F (14 + 2 * w57n) * F (14 + 2 * w57n) / 10000)) / F 7 := by rw [w69x0, show w62v.toInt = F (31 + 4 * w49n) - (b.toInt * F (14 + 2 * w57n) / 100 + a.toInt * F (14 + 2 * w57n) * F (14 + 2 * w57n) / 10000) by omega, show (1 : Int32).toInt = F 7 by omega]
            have w69g := zrg w69v
            show zGo X l 2 0 0 149 77 [(8, .int w62v), (7, .int (zI M 10 w49n)), (0, .ref 7), (1, .int a), (2, .int b), (3, .int c), (4, .int (1 : Int32)), (5, .int w45x5), (6, .int w45x6)] [.int w69v] M _
            refine zs_iload_n (pc := 77) t149_77 rfl ?_
            by_cases w73 : w69v.toInt ≠ c.toInt
            · refine zs_icmp_neT (pc := 78) t149_78 rfl rfl (by omega) ?_
              obtain ⟨w74v, w74e, w74⟩ := ziadd (a := w45x6) (b := Int32.ofInt 1) rfl (show (Int32.ofInt 1).toInt = 1 by decide) (by omega) (by omega)
              refine zs_iinc (pc := 90) t149_90 (ls' := [(6, .int w74v), (8, .int w62v), (7, .int (zI M 10 w49n)), (0, .ref 7), (1, .int a), (2, .int b), (3, .int c), (4, .int (1 : Int32)), (5, .int w45x5)]) (zml mf149 (by decide)) rfl (c := w74v) w74e rfl ?_
              refine zs_goto (pc := 93) t149_93 ?_
              refine zGo.locals (ls' := [(0, .ref 7), (1, .int a), (2, .int b), (3, .int c), (4, .int (1 : Int32)), (5, .int w45x5), (6, .int w74v)]) (by simp) ?_
              have w75 := w74
              exact w45ih (w45m - 1) (by omega) w45x5 w74v ⟨by omega, by omega⟩ (by omega) (fun k hk => by obtain rfl : k = w49n + 1 := (by omega); rcases (w63x0 w49n (by omega) (by omega)) with ⟨q1, q2⟩ | ⟨q1, q2⟩ <;> first | exact absurd q1 (by omega) | exact zMk.vn (w45t0 w49n (by omega)) (zvh.n q2) | exact zMk.vn (w45t0 w49n (by omega)) (zvh.o (l := w57n) (by omega) (by unfold pLf; rw [← w70]; omega))) (by omega)
            · refine zs_icmp_neF (pc := 78) t149_78 rfl rfl (by omega) ?_
              refine zs_iload (pc := 81) t149_81 rfl ?_
              refine zs_iconst (pc := 83) t149_83 (v := 1) (by decide) ?_
              refine zs_iload (pc := 84) t149_84 rfl ?_
              obtain ⟨w76v, w76⟩ : ∃ v, (1 : Int32) <<< ((zI M 10 w49n) &&& 31) = v := ⟨_, rfl⟩
              have w76g := zrg w76v
              refine zs_ishl (pc := 86) t149_86 (c := w76v) w76 ?_
              obtain ⟨w77v, w77⟩ : ∃ v, w45x5 ||| w76v = v := ⟨_, rfl⟩
              have w77g := zrg w77v
              refine zs_ior (pc := 87) t149_87 (c := w77v) w77 ?_
              refine zs_istore (pc := 88) t149_88 (ls' := [(5, .int w77v), (8, .int w62v), (7, .int (zI M 10 w49n)), (0, .ref 7), (1, .int a), (2, .int b), (3, .int c), (4, .int (1 : Int32)), (6, .int w45x6)]) (zml mf149 (by decide)) rfl ?_
              obtain ⟨w78v, w78e, w78⟩ := ziadd (a := w45x6) (b := Int32.ofInt 1) rfl (show (Int32.ofInt 1).toInt = 1 by decide) (by omega) (by omega)
              refine zs_iinc (pc := 90) t149_90 (ls' := [(6, .int w78v), (5, .int w77v), (8, .int w62v), (7, .int (zI M 10 w49n)), (0, .ref 7), (1, .int a), (2, .int b), (3, .int c), (4, .int (1 : Int32))]) (zml mf149 (by decide)) rfl (c := w78v) w78e rfl ?_
              refine zs_goto (pc := 93) t149_93 ?_
              refine zGo.locals (ls' := [(0, .ref 7), (1, .int a), (2, .int b), (3, .int c), (4, .int (1 : Int32)), (5, .int w77v), (6, .int w78v)]) (by simp) ?_
              have w79 := w78
              exact w45ih (w45m - 1) (by omega) w77v w78v ⟨by omega, by omega⟩ (by omega) (fun k hk => by obtain rfl : k = w49n + 1 := (by omega); rcases (w63x0 w49n (by omega) (by omega)) with ⟨q1, q2⟩ | ⟨q1, q2⟩ <;> first | exact absurd q1 (by omega) | exact zMk.vy (j := w57n) (w45t0 w49n (by omega)) (zvh.y (l := w57n) q2 (by omega) (by unfold pLf; rw [← w70]; omega)) (by omega) (by omega) (by omega) w76 w77) (by omega)
    refine zGo.locals (ls' := [(0, .ref 7), (1, .int a), (2, .int b), (3, .int c), (4, .int (1 : Int32)), (5, .int (0 : Int32)), (6, .int (0 : Int32))]) (by simp) ?_
    have w80 := li0
    have w81 := li0
    exact w45L ((60 - 0 : Int).toNat) (0 : Int32) (0 : Int32) ⟨by decide, by decide⟩ (by omega) (fun k hk => by obtain rfl : k = 0 := (by omega); exact zMk.zero (by decide) (fun _ => rfl)) (by omega)
