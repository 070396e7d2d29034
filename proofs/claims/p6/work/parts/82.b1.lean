theorem O219 {X : zX} {l : Launch} {M : zM} {Q : Option Value → zM → Prop} (hs : zSk zMc M) (hI : zIv cLo cHi M) {F : Nat → Int} (x0 : zSo M 7 F) (x1 : zWF F) (hQ : ∀ (M' : zM) (v : Int32), zSk zMc M' → zIv cLo cHi M' → zFr [(6, 6, some 10), (335, 335, none)] M M' → (v.toInt = (wAll F).1 ∧ zWr M' 6 10 335 (wAll F)) → Q (some (.int v)) M') : zCall X l 3 0 0 219 [.ref 6] M Q := by
  refine zs_in (by decide) mf219 (Nat.le_of_ble_eq_true rfl) ?_
  show zGo X l 3 0 0 219 0 [(0, .ref 6)] [] M _
  have f0 := x0.1
  have w1 := ib7_0 hI
  have w2 : (zI M 7 0).toInt = (zI M 7 0).toInt := (congrArg Int32.toInt rfl).trans rfl
  have w3 := ib7_3 hI
  have w4 : (zI M 7 3).toInt = (zI M 7 3).toInt := (congrArg Int32.toInt rfl).trans rfl
  have w5 := ib7_8 hI
  have w6 : (zI M 7 8).toInt = (zI M 7 8).toInt := (congrArg Int32.toInt rfl).trans rfl
  have f1 := x1.1
  have f3 := x1.2.2.2
  have f2 := (show (zI M 7 0).toInt = F 0 ∧ (zI M 7 3).toInt = F 1 ∧ (zI M 7 8).toInt = F 2 from ⟨x0.1.1, x0.1.2.1, x0.1.2.2.1⟩)
  refine zs_aload_n (pc := 0) t219_0 rfl ?_
  refine zs_iconst (pc := 1) t219_1 (v := 0) (by decide) ?_
  have w7 : zIv cLo cHi (zsI M 6 10 (0 : Int32)) := zIv.put hI (show 0 ≤ (0 : Int32).toInt ∧ (0 : Int32).toInt ≤ 128 from ⟨by decide, by decide⟩)
  have w8 : zWr (zsI M 6 10 (0 : Int32)) 6 10 335 (0, fun _ => 0) := zWr.zero (by rw [zIs]; decide)
  refine zs_putI (pc := 2) t219_2 (zk1 (hs.k fk_zMc_6)) rfl ?_
  refine zs_iconst (pc := 5) t219_5 (v := 0) (by decide) ?_
  refine zs_istore_n (pc := 6) t219_6 (ls' := [(1, .int (0 : Int32)), (0, .ref 6)]) (zml mf219 (by decide)) rfl ?_
  have w9L : ∀ (m : Nat) (w9x1 : Int32) (w9M : zM), (0 ≤ w9x1.toInt ∧ w9x1.toInt ≤ 8) → zSk zMc w9M → zIv cLo cHi w9M → zFr [(6, 6, some 10), (335, 335, none)] (zsI M 6 10 (0 : Int32)) w9M → (w9x1.toInt ≤ F 0) → ((zI w9M 6 10).toInt ≤ 6 * w9x1.toInt) → (∀ l : Nat, (l : Int) = w9x1.toInt → zWr w9M 6 10 335 (wL F l)) → 8 - w9x1.toInt ≤ (m : Int) → zGo X l 3 0 0 219 7 [(0, .ref 6), (1, .int w9x1)] [] w9M Q := by
    intro m
    induction m using Nat.strongRecOn with
    | ind w9m w9ih =>
      intro w9x1 w9M w9b1 w9s w9I w9F w9r0 w9r1 w9t0 w9q
      obtain ⟨w10n, w10⟩ : ∃ n : Nat, w9x1.toInt = (n : Int) := ⟨(w9x1.toInt).toNat, by omega⟩
      have w11 := ib6_10 w9I
      refine zs_iload_n (pc := 7) t219_7 rfl ?_
      refine zs_aload_n (pc := 8) t219_8 rfl ?_
      refine zs_get (pc := 9) t219_9 (by decide) (zk1 (w9s.k fk_zMc_6)) (w9s.p rfl fv_zMc_6_0) ?_
      refine zs_get (pc := 12) t219_12 (by decide) (zk1 (w9s.k fk_zMc_7)) (zfvi rfl ((w9F 7 0 rfl).trans ((zIo (by decide)).trans rfl))) ?_
      by_cases w12 : (zI M 7 0).toInt ≤ w9x1.toInt
      · refine zs_icmp_geT (pc := 15) t219_15 rfl rfl (by omega) ?_
        refine zs_aload_n (pc := 49) t219_49 rfl ?_
        refine zs_bipush (pc := 50) t219_50 (v := 115) (by decide) ?_
        refine zs_iconst (pc := 52) t219_52 (v := 0) (by decide) ?_
        refine zs_iconst (pc := 53) t219_53 (v := 3) (by decide) ?_
        refine zs_invV (pc := 54) (k := 6) (as' := [.int (115 : Int32), .int (0 : Int32), .int (3 : Int32)]) (st := []) t219_54 mf222 rfl rfl (Or.inl ⟨by decide, (zk1 (w9s.k fk_zMc_6))⟩) ⟨by decide, by decide, Nat.le_of_ble_eq_true rfl, Nat.le_of_ble_eq_true rfl⟩ (zs_in (by decide) mf222 (Nat.le_of_ble_eq_true rfl) ?_) (fun _ _ q => q)
        show zGo X l 2 0 0 222 0 [(0, .ref 6), (1, .int (115 : Int32)), (2, .int (0 : Int32)), (3, .int (3 : Int32))] [] w9M _
        refine zs_aload_n (pc := 0) t222_0 rfl ?_
        refine zs_iload_n (pc := 1) t222_1 rfl ?_
        have w13 : (115 : Int32).toInt = 115 := li115
        have w14 : (115 : Int32).toInt = 115 := li115
        have w15 : (zI w9M 6 10).toInt = (zI w9M 6 10).toInt := (congrArg Int32.toInt rfl).trans rfl
        have w16 : (zI w9M 6 10).toInt = (zI w9M 6 10).toInt := (congrArg Int32.toInt rfl).trans rfl
        refine zs_invV (pc := 2) (k := 6) (as' := [.int (115 : Int32)]) (st := []) t222_2 mf220 rfl rfl (Or.inl ⟨by decide, (zk1 (w9s.k fk_zMc_6))⟩) ⟨by decide, by decide, Nat.le_of_ble_eq_true rfl, Nat.le_of_ble_eq_true rfl⟩ (X220_6 w9s w9I ⟨by decide, by decide⟩ (by omega) (by omega) (w9t0 w10n (by omega)) ?_) (fun _ _ q => q)
        intro w17M w17s w17I w17F w17t0 w17x0
        have w18 := ib6_10 w17I
        show zGo X l 2 0 0 222 5 [(0, .ref 6), (1, .int (115 : Int32)), (2, .int (0 : Int32)), (3, .int (3 : Int32))] [] w17M _
        have w17y : zWr w17M 6 10 335 (wS (wL F w10n) 115) := by
          have q := w17x0
          rw [show (115 : Int32).toInt = 115 by first | decide | omega] at q
          exact q
        refine zs_iload_n (pc := 5) t222_5 rfl ?_
        refine zs_istore (pc := 6) t222_6 (ls' := [(4, .int (0 : Int32)), (0, .ref 6), (1, .int (115 : Int32)), (2, .int (0 : Int32)), (3, .int (3 : Int32))]) (zml mf222 (by decide)) rfl ?_
        refine zs_iload (pc := 8) t222_8 rfl ?_
        refine zs_iload_n (pc := 10) t222_10 rfl ?_
        refine zs_icmp_gtF (pc := 11) t222_11 li0 li3 (by decide) ?_
        refine zs_aload_n (pc := 14) t222_14 rfl ?_
        refine zs_aload_n (pc := 15) t222_15 rfl ?_
        refine zs_get (pc := 16) t222_16 (by decide) (zk1 (w17s.k fk_zMc_6)) (w17s.p rfl fv_zMc_6_0) ?_
        refine zs_iload (pc := 19) t222_19 rfl ?_
        refine zs_invV (pc := 21) (k := 7) (as' := [.int (0 : Int32)]) (st := [.ref 6]) t222_21 mf96 rfl rfl (Or.inl ⟨by decide, (zk1 (w17s.k fk_zMc_7))⟩) ⟨by decide, by decide, Nat.le_of_ble_eq_true rfl, Nat.le_of_ble_eq_true rfl⟩ (zs_in (by decide) mf96 (Nat.le_of_ble_eq_true rfl) ?_) (fun _ _ q => q)
        show zGo X l 0 0 0 96 0 [(0, .ref 7), (1, .int (0 : Int32))] [] w17M _
        refine zs_iload_n (pc := 0) t96_0 rfl ?_
        refine zs_if_ltF (pc := 1) t96_1 li0 (by decide) ?_
        refine zs_iload_n (pc := 4) t96_4 rfl ?_
        refine zs_bipush (pc := 5) t96_5 (v := 9) (by decide) ?_
        refine zs_icmp_geF (pc := 7) t96_7 li0 li9 (by decide) ?_
        refine zs_aload_n (pc := 10) t96_10 rfl ?_
        refine zs_get (pc := 11) t96_11 (by decide) (zk1 (w17s.k fk_zMc_7)) (w17s.p rfl fv_zMc_7_12) ?_
        refine zs_iload_n (pc := 14) t96_14 rfl ?_
        have w19 := ib17 hI 0
        have w20 : (zI M 17 0).toInt = F 5 := x0.2.2.2.2.1 0 (by decide)
        refine zs_iald (pc := 15) t96_15 (j := 0) (by decide) (zk1 (w17s.k fk_zMc_17)) li0 (zk2 (w17s.k fk_zMc_17) (by decide)) ((w17F 17 0 rfl).trans ((w9F 17 0 rfl).trans ((zIo (by decide)).trans rfl))) ?_
        refine zs_goto (pc := 16) t96_16 ?_
        refine zs_iret (pc := 20) t96_20 mr96 rfl ?_
        show zGo X l 2 0 0 222 24 [(4, .int (0 : Int32)), (0, .ref 6), (1, .int (115 : Int32)), (2, .int (0 : Int32)), (3, .int (3 : Int32))] [.int (zI M 17 0), .ref 6] w17M _
        have w21 : (zI w17M 6 10).toInt = (zI w17M 6 10).toInt := (congrArg Int32.toInt rfl).trans rfl
        have w22 : (zI w17M 6 10).toInt = (zI w17M 6 10).toInt := (congrArg Int32.toInt rfl).trans rfl
        refine zs_invV (pc := 24) (k := 6) (as' := [.int (zI M 17 0)]) (st := []) t222_24 mf221 rfl rfl (Or.inl ⟨by decide, (zk1 (w17s.k fk_zMc_6))⟩) ⟨by decide, by decide, Nat.le_of_ble_eq_true rfl, Nat.le_of_ble_eq_true rfl⟩ (X221_6 w17s w17I ⟨by omega, by omega⟩ (by omega) w17y ?_) (fun _ _ q => q)
        intro w23M w23s w23I w23F w23t0 w23x0
        have w24 := ib6_10 w23I
        show zGo X l 2 0 0 222 27 [(4, .int (0 : Int32)), (0, .ref 6), (1, .int (115 : Int32)), (2, .int (0 : Int32)), (3, .int (3 : Int32))] [] w23M _
        have w23y : zWr w23M 6 10 335 (wN (wS (wL F w10n) 115) (F 5)) := by
          have q := w23x0
          rw [show (zI M 17 0).toInt = (F 5) by first | decide | omega] at q
          exact q
        refine zs_aload_n (pc := 27) t222_27 rfl ?_
        refine zs_iload (pc := 28) t222_28 rfl ?_
        refine zs_iload_n (pc := 30) t222_30 rfl ?_
        refine zs_icmp_geF (pc := 31) t222_31 li0 li3 (by decide) ?_
        refine zs_bipush (pc := 34) t222_34 (v := 44) (by decide) ?_
        refine zs_goto (pc := 36) t222_36 ?_
        have w25 : (44 : Int32).toInt = 44 := li44
        have w26 : (44 : Int32).toInt = 44 := li44
        have w27 : (zI w23M 6 10).toInt = (zI w23M 6 10).toInt := (congrArg Int32.toInt rfl).trans rfl
        have w28 : (zI w23M 6 10).toInt = (zI w23M 6 10).toInt := (congrArg Int32.toInt rfl).trans rfl
        refine zs_invV (pc := 41) (k := 6) (as' := [.int (44 : Int32)]) (st := []) t222_41 mf220 rfl rfl (Or.inl ⟨by decide, (zk1 (w23s.k fk_zMc_6))⟩) ⟨by decide, by decide, Nat.le_of_ble_eq_true rfl, Nat.le_of_ble_eq_true rfl⟩ (X220_6 w23s w23I ⟨by decide, by decide⟩ (by omega) (by omega) w23y ?_) (fun _ _ q => q)
        intro w29M w29s w29I w29F w29t0 w29x0
        have w30 := ib6_10 w29I
        show zGo X l 2 0 0 222 44 [(4, .int (0 : Int32)), (0, .ref 6), (1, .int (115 : Int32)), (2, .int (0 : Int32)), (3, .int (3 : Int32))] [] w29M _
        have w29y : zWr w29M 6 10 335 (wS (wN (wS (wL F w10n) 115) (F 5)) 44) := by
          have q := w29x0
          rw [show (44 : Int32).toInt = 44 by first | decide | omega] at q
          exact q
        refine zs_iinc (pc := 44) t222_44 (ls' := [(4, .int (1 : Int32)), (0, .ref 6), (1, .int (115 : Int32)), (2, .int (0 : Int32)), (3, .int (3 : Int32))]) (zml mf222 (by decide)) rfl (c := 1) (by decide) rfl ?_
        refine zs_goto (pc := 47) t222_47 ?_
        refine zs_iload (pc := 8) t222_8 rfl ?_
        refine zs_iload_n (pc := 10) t222_10 rfl ?_
        refine zs_icmp_gtF (pc := 11) t222_11 li1 li3 (by decide) ?_
        refine zs_aload_n (pc := 14) t222_14 rfl ?_
        refine zs_aload_n (pc := 15) t222_15 rfl ?_
        refine zs_get (pc := 16) t222_16 (by decide) (zk1 (w29s.k fk_zMc_6)) (w29s.p rfl fv_zMc_6_0) ?_
        refine zs_iload (pc := 19) t222_19 rfl ?_
        refine zs_invV (pc := 21) (k := 7) (as' := [.int (1 : Int32)]) (st := [.ref 6]) t222_21 mf96 rfl rfl (Or.inl ⟨by decide, (zk1 (w29s.k fk_zMc_7))⟩) ⟨by decide, by decide, Nat.le_of_ble_eq_true rfl, Nat.le_of_ble_eq_true rfl⟩ (zs_in (by decide) mf96 (Nat.le_of_ble_eq_true rfl) ?_) (fun _ _ q => q)
        show zGo X l 0 0 0 96 0 [(0, .ref 7), (1, .int (1 : Int32))] [] w29M _
        refine zs_iload_n (pc := 0) t96_0 rfl ?_
        refine zs_if_ltF (pc := 1) t96_1 li1 (by decide) ?_
        refine zs_iload_n (pc := 4) t96_4 rfl ?_
        refine zs_bipush (pc := 5) t96_5 (v := 9) (by decide) ?_
        refine zs_icmp_geF (pc := 7) t96_7 li1 li9 (by decide) ?_
        refine zs_aload_n (pc := 10) t96_10 rfl ?_
        refine zs_get (pc := 11) t96_11 (by decide) (zk1 (w29s.k fk_zMc_7)) (w29s.p rfl fv_zMc_7_12) ?_
        refine zs_iload_n (pc := 14) t96_14 rfl ?_
        have w31 := ib17 hI 1
        have w32 : (zI M 17 1).toInt = F 6 := x0.2.2.2.2.1 1 (by decide)
        refine zs_iald (pc := 15) t96_15 (j := 1) (by decide) (zk1 (w29s.k fk_zMc_17)) li1 (zk2 (w29s.k fk_zMc_17) (by decide)) ((w29F 17 1 rfl).trans ((w23F 17 1 rfl).trans ((w17F 17 1 rfl).trans ((w9F 17 1 rfl).trans ((zIo (by decide)).trans rfl))))) ?_
        refine zs_goto (pc := 16) t96_16 ?_
        refine zs_iret (pc := 20) t96_20 mr96 rfl ?_
        show zGo X l 2 0 0 222 24 [(4, .int (1 : Int32)), (0, .ref 6), (1, .int (115 : Int32)), (2, .int (0 : Int32)), (3, .int (3 : Int32))] [.int (zI M 17 1), .ref 6] w29M _
        have w33 : (zI w29M 6 10).toInt = (zI w29M 6 10).toInt := (congrArg Int32.toInt rfl).trans rfl
        have w34 : (zI w29M 6 10).toInt = (zI w29M 6 10).toInt := (congrArg Int32.toInt rfl).trans rfl
        refine zs_invV (pc := 24) (k := 6) (as' := [.int (zI M 17 1)]) (st := []) t222_24 mf221 rfl rfl (Or.inl ⟨by decide, (zk1 (w29s.k fk_zMc_6))⟩) ⟨by decide, by decide, Nat.le_of_ble_eq_true rfl, Nat.le_of_ble_eq_true rfl⟩ (X221_6 w29s w29I ⟨by omega, by omega⟩ (by omega) w29y ?_) (fun _ _ q => q)
        intro w35M w35s w35I w35F w35t0 w35x0
        have w36 := ib6_10 w35I
        show zGo X l 2 0 0 222 27 [(4, .int (1 : Int32)), (0, .ref 6), (1, .int (115 : Int32)), (2, .int (0 : Int32)), (3, .int (3 : Int32))] [] w35M _
        have w35y : zWr w35M 6 10 335 (wN (wS (wN (wS (wL F w10n) 115) (F 5)) 44) (F 6)) := by
          have q := w35x0
          rw [show (zI M 17 1).toInt = (F 6) by first | decide | omega] at q
          exact q
        refine zs_aload_n (pc := 27) t222_27 rfl ?_
        refine zs_iload (pc := 28) t222_28 rfl ?_
        refine zs_iload_n (pc := 30) t222_30 rfl ?_
        refine zs_icmp_geF (pc := 31) t222_31 li1 li3 (by decide) ?_
        refine zs_bipush (pc := 34) t222_34 (v := 44) (by decide) ?_
        refine zs_goto (pc := 36) t222_36 ?_
        have w37 : (44 : Int32).toInt = 44 := li44
        have w38 : (44 : Int32).toInt = 44 := li44
        have w39 : (zI w35M 6 10).toInt = (zI w35M 6 10).toInt := (congrArg Int32.toInt rfl).trans rfl
        have w40 : (zI w35M 6 10).toInt = (zI w35M 6 10).toInt := (congrArg Int32.toInt rfl).trans rfl
        refine zs_invV (pc := 41) (k := 6) (as' := [.int (44 : Int32)]) (st := []) t222_41 mf220 rfl rfl (Or.inl ⟨by decide, (zk1 (w35s.k fk_zMc_6))⟩) ⟨by decide, by decide, Nat.le_of_ble_eq_true rfl, Nat.le_of_ble_eq_true rfl⟩ (X220_6 w35s w35I ⟨by decide, by decide⟩ (by omega) (by omega) w35y ?_) (fun _ _ q => q)
        intro w41M w41s w41I w41F w41t0 w41x0
        have w42 := ib6_10 w41I
        show zGo X l 2 0 0 222 44 [(4, .int (1 : Int32)), (0, .ref 6), (1, .int (115 : Int32)), (2, .int (0 : Int32)), (3, .int (3 : Int32))] [] w41M _
        have w41y : zWr w41M 6 10 335 (wS (wN (wS (wN (wS (wL F w10n) 115) (F 5)) 44) (F 6)) 44) := by
          have q := w41x0
          rw [show (44 : Int32).toInt = 44 by first | decide | omega] at q
          exact q
        refine zs_iinc (pc := 44) t222_44 (ls' := [(4, .int (2 : Int32)), (0, .ref 6), (1, .int (115 : Int32)), (2, .int (0 : Int32)), (3, .int (3 : Int32))]) (zml mf222 (by decide)) rfl (c := 2) (by decide) rfl ?_
        refine zs_goto (pc := 47) t222_47 ?_
        refine zs_iload (pc := 8) t222_8 rfl ?_
        refine zs_iload_n (pc := 10) t222_10 rfl ?_
        refine zs_icmp_gtF (pc := 11) t222_11 li2 li3 (by decide) ?_
        refine zs_aload_n (pc := 14) t222_14 rfl ?_
        refine zs_aload_n (pc := 15) t222_15 rfl ?_
        refine zs_get (pc := 16) t222_16 (by decide) (zk1 (w41s.k fk_zMc_6)) (w41s.p rfl fv_zMc_6_0) ?_
        refine zs_iload (pc := 19) t222_19 rfl ?_
        refine zs_invV (pc := 21) (k := 7) (as' := [.int (2 : Int32)]) (st := [.ref 6]) t222_21 mf96 rfl rfl (Or.inl ⟨by decide, (zk1 (w41s.k fk_zMc_7))⟩) ⟨by decide, by decide, Nat.le_of_ble_eq_true rfl, Nat.le_of_ble_eq_true rfl⟩ (zs_in (by decide) mf96 (Nat.le_of_ble_eq_true rfl) ?_) (fun _ _ q => q)
        show zGo X l 0 0 0 96 0 [(0, .ref 7), (1, .int (2 : Int32))] [] w41M _
        refine zs_iload_n (pc := 0) t96_0 rfl ?_
        refine zs_if_ltF (pc := 1) t96_1 li2 (by decide) ?_
        refine zs_iload_n (pc := 4) t96_4 rfl ?_
        refine zs_bipush (pc := 5) t96_5 (v := 9) (by decide) ?_
        refine zs_icmp_geF (pc := 7) t96_7 li2 li9 (by decide) ?_
        refine zs_aload_n (pc := 10) t96_10 rfl ?_
        refine zs_get (pc := 11) t96_11 (by decide) (zk1 (w41s.k fk_zMc_7)) (w41s.p rfl fv_zMc_7_12) ?_
        refine zs_iload_n (pc := 14) t96_14 rfl ?_
        have w43 := ib17 hI 2
        have w44 : (zI M 17 2).toInt = F 7 := x0.2.2.2.2.1 2 (by decide)
        refine zs_iald (pc := 15) t96_15 (j := 2) (by decide) (zk1 (w41s.k fk_zMc_17)) li2 (zk2 (w41s.k fk_zMc_17) (by decide)) ((w41F 17 2 rfl).trans ((w35F 17 2 rfl).trans ((w29F 17 2 rfl).trans ((w23F 17 2 rfl).trans ((w17F 17 2 rfl).trans ((w9F 17 2 rfl).trans ((zIo (by decide)).trans rfl))))))) ?_
        refine zs_goto (pc := 16) t96_16 ?_
        refine zs_iret (pc := 20) t96_20 mr96 rfl ?_
        show zGo X l 2 0 0 222 24 [(4, .int (2 : Int32)), (0, .ref 6), (1, .int (115 : Int32)), (2, .int (0 : Int32)), (3, .int (3 : Int32))] [.int (zI M 17 2), .ref 6] w41M _
        have w45 : (zI w41M 6 10).toInt = (zI w41M 6 10).toInt := (congrArg Int32.toInt rfl).trans rfl
        have w46 : (zI w41M 6 10).toInt = (zI w41M 6 10).toInt := (congrArg Int32.toInt rfl).trans rfl
        refine zs_invV (pc := 24) (k := 6) (as' := [.int (zI M 17 2)]) (st := []) t222_24 mf221 rfl rfl (Or.inl ⟨by decide, (zk1 (w41s.k fk_zMc_6))⟩) ⟨by decide, by decide, Nat.le_of_ble_eq_true rfl, Nat.le_of_ble_eq_true rfl⟩ (X221_6 w41s w41I ⟨by omega, by omega⟩ (by omega) w41y ?_) (fun _ _ q => q)
        intro w47M w47s w47I w47F w47t0 w47x0
        have w48 := ib6_10 w47I
        show zGo X l 2 0 0 222 27 [(4, .int (2 : Int32)), (0, .ref 6), (1, .int (115 : Int32)), (2, .int (0 : Int32)), (3, .int (3 : Int32))] [] w47M _
        have w47y : zWr w47M 6 10 335 (wN (wS (wN (wS (wN (wS (wL F w10n) 115) (F 5)) 44) (F 6)) 44) (F 7)) := by
          have q := w47x0
          rw [show (zI M 17 2).toInt = (F 7) by first | decide | omega] at q
          exact q
        refine zs_aload_n (pc := 27) t222_27 rfl ?_
        refine zs_iload (pc := 28) t222_28 rfl ?_
        refine zs_iload_n (pc := 30) t222_30 rfl ?_
        refine zs_icmp_geF (pc := 31) t222_31 li2 li3 (by decide) ?_
        refine zs_bipush (pc := 34) t222_34 (v := 44) (by decide) ?_
        refine zs_goto (pc := 36) t222_36 ?_
        have w49 : (44 : Int32).toInt = 44 := li44
        have w50 : (44 : Int32).toInt = 44 := li44
        have w51 : (zI w47M 6 10).toInt = (zI w47M 6 10).toInt := (congrArg Int32.toInt rfl).trans rfl
        have w52 : (zI w47M 6 10).toInt = (zI w47M 6 10).toInt := (congrArg Int32.toInt rfl).trans rfl
        refine zs_invV (pc := 41) (k := 6) (as' := [.int (44 : Int32)]) (st := []) t222_41 mf220 rfl rfl (Or.inl ⟨by decide, (zk1 (w47s.k fk_zMc_6))⟩) ⟨by decide, by decide, Nat.le_of_ble_eq_true rfl, Nat.le_of_ble_eq_true rfl⟩ (X220_6 w47s w47I ⟨by decide, by decide⟩ (by omega) (by omega) w47y ?_) (fun _ _ q => q)
        intro w53M w53s w53I w53F w53t0 w53x0
        have w54 := ib6_10 w53I
        show zGo X l 2 0 0 222 44 [(4, .int (2 : Int32)), (0, .ref 6), (1, .int (115 : Int32)), (2, .int (0 : Int32)), (3, .int (3 : Int32))] [] w53M _
        have w53y : zWr w53M 6 10 335 (wS (wN (wS (wN (wS (wN (wS (wL F w10n) 115) (F 5)) 44) (F 6)) 44) (F 7)) 44) := by
          have q := w53x0
          rw [show (44 : Int32).toInt = 44 by first | decide | omega] at q
          exact q
        refine zs_iinc (pc := 44) t222_44 (ls' := [(4, .int (3 : Int32)), (0, .ref 6), (1, .int (115 : Int32)), (2, .int (0 : Int32)), (3, .int (3 : Int32))]) (zml mf222 (by decide)) rfl (c := 3) (by decide) rfl ?_
        refine zs_goto (pc := 47) t222_47 ?_
        refine zs_iload (pc := 8) t222_8 rfl ?_
        refine zs_iload_n (pc := 10) t222_10 rfl ?_
        refine zs_icmp_gtF (pc := 11) t222_11 li3 li3 (by decide) ?_
        refine zs_aload_n (pc := 14) t222_14 rfl ?_
        refine zs_aload_n (pc := 15) t222_15 rfl ?_
        refine zs_get (pc := 16) t222_16 (by decide) (zk1 (w53s.k fk_zMc_6)) (w53s.p rfl fv_zMc_6_0) ?_
        refine zs_iload (pc := 19) t222_19 rfl ?_
        refine zs_invV (pc := 21) (k := 7) (as' := [.int (3 : Int32)]) (st := [.ref 6]) t222_21 mf96 rfl rfl (Or.inl ⟨by decide, (zk1 (w53s.k fk_zMc_7))⟩) ⟨by decide, by decide, Nat.le_of_ble_eq_true rfl, Nat.le_of_ble_eq_true rfl⟩ (zs_in (by decide) mf96 (Nat.le_of_ble_eq_true rfl) ?_) (fun _ _ q => q)
        show zGo X l 0 0 0 96 0 [(0, .ref 7), (1, .int (3 : Int32))] [] w53M _
        refine zs_iload_n (pc := 0) t96_0 rfl ?_
        refine zs_if_ltF (pc := 1) t96_1 li3 (by decide) ?_
        refine zs_iload_n (pc := 4) t96_4 rfl ?_
        refine zs_bipush (pc := 5) t96_5 (v := 9) (by decide) ?_
        refine zs_icmp_geF (pc := 7) t96_7 li3 li9 (by decide) ?_
        refine zs_aload_n (pc := 10) t96_10 rfl ?_
        refine zs_get (pc := 11) t96_11 (by decide) (zk1 (w53s.k fk_zMc_7)) (w53s.p rfl fv_zMc_7_12) ?_
        refine zs_iload_n (pc := 14) t96_14 rfl ?_
        have w55 := ib17 hI 3
        have w56 : (zI M 17 3).toInt = F 8 := x0.2.2.2.2.1 3 (by decide)
        refine zs_iald (pc := 15) t96_15 (j := 3) (by decide) (zk1 (w53s.k fk_zMc_17)) li3 (zk2 (w53s.k fk_zMc_17) (by decide)) ((w53F 17 3 rfl).trans ((w47F 17 3 rfl).trans ((w41F 17 3 rfl).trans ((w35F 17 3 rfl).trans ((w29F 17 3 rfl).trans ((w23F 17 3 rfl).trans ((w17F 17 3 rfl).trans ((w9F 17 3 rfl).trans ((zIo (by decide)).trans rfl))))))))) ?_
        refine zs_goto (pc := 16) t96_16 ?_
        refine zs_iret (pc := 20) t96_20 mr96 rfl ?_
        show zGo X l 2 0 0 222 24 [(4, .int (3 : Int32)), (0, .ref 6), (1, .int (115 : Int32)), (2, .int (0 : Int32)), (3, .int (3 : Int32))] [.int (zI M 17 3), .ref 6] w53M _
        have w57 : (zI w53M 6 10).toInt = (zI w53M 6 10).toInt := (congrArg Int32.toInt rfl).trans rfl
        have w58 : (zI w53M 6 10).toInt = (zI w53M 6 10).toInt := (congrArg Int32.toInt rfl).trans rfl
        refine zs_invV (pc := 24) (k := 6) (as' := [.int (zI M 17 3)]) (st := []) t222_24 mf221 rfl rfl (Or.inl ⟨by decide, (zk1 (w53s.k fk_zMc_6))⟩) ⟨by decide, by decide, Nat.le_of_ble_eq_true rfl, Nat.le_of_ble_eq_true rfl⟩ (X221_6 w53s w53I ⟨by omega, by omega⟩ (by omega) w53y ?_) (fun _ _ q => q)
        intro w59M w59s w59I w59F w59t0 w59x0
        have w60 := ib6_10 w59I
        show zGo X l 2 0 0 222 27 [(4, .int (3 : Int32)), (0, .ref 6), (1, .int (115 : Int32)), (2, .int (0 : Int32)), (3, .int (3 : Int32))] [] w59M _
        have w59y : zWr w59M 6 10 335 (wN (wS (wN (wS (wN (wS (wN (wS (wL F w10n) 115) (F 5)) 44) (F 6)) 44) (F 7)) 44) (F 8)) := by
          have q := w59x0
          rw [show (zI M 17 3).toInt = (F 8) by first | decide | omega] at q
          exact q
        refine zs_aload_n (pc := 27) t222_27 rfl ?_
        refine zs_iload (pc := 28) t222_28 rfl ?_
        refine zs_iload_n (pc := 30) t222_30 rfl ?_
        refine zs_icmp_geT (pc := 31) t222_31 li3 li3 (by decide) ?_
        refine zs_bipush (pc := 39) t222_39 (v := 59) (by decide) ?_
        have w61 : (59 : Int32).toInt = 59 := li59
        have w62 : (59 : Int32).toInt = 59 := li59
        have w63 : (zI w59M 6 10).toInt = (zI w59M 6 10).toInt := (congrArg Int32.toInt rfl).trans rfl
        have w64 : (zI w59M 6 10).toInt = (zI w59M 6 10).toInt := (congrArg Int32.toInt rfl).trans rfl
        refine zs_invV (pc := 41) (k := 6) (as' := [.int (59 : Int32)]) (st := []) t222_41 mf220 rfl rfl (Or.inl ⟨by decide, (zk1 (w59s.k fk_zMc_6))⟩) ⟨by decide, by decide, Nat.le_of_ble_eq_true rfl, Nat.le_of_ble_eq_true rfl⟩ (X220_6 w59s w59I ⟨by decide, by decide⟩ (by omega) (by omega) w59y ?_) (fun _ _ q => q)
        intro w65M w65s w65I w65F w65t0 w65x0
        have w66 := ib6_10 w65I
        show zGo X l 2 0 0 222 44 [(4, .int (3 : Int32)), (0, .ref 6), (1, .int (115 : Int32)), (2, .int (0 : Int32)), (3, .int (3 : Int32))] [] w65M _
        have w65y : zWr w65M 6 10 335 (wS (wN (wS (wN (wS (wN (wS (wN (wS (wL F w10n) 115) (F 5)) 44) (F 6)) 44) (F 7)) 44) (F 8)) 59) := by
          have q := w65x0
          rw [show (59 : Int32).toInt = 59 by first | decide | omega] at q
          exact q
        refine zs_iinc (pc := 44) t222_44 (ls' := [(4, .int (4 : Int32)), (0, .ref 6), (1, .int (115 : Int32)), (2, .int (0 : Int32)), (3, .int (3 : Int32))]) (zml mf222 (by decide)) rfl (c := 4) (by decide) rfl ?_
        refine zs_goto (pc := 47) t222_47 ?_
        refine zs_iload (pc := 8) t222_8 rfl ?_
        refine zs_iload_n (pc := 10) t222_10 rfl ?_
        refine zs_icmp_gtT (pc := 11) t222_11 li4 li3 (by decide) ?_
        refine zs_vret (pc := 50) t222_50 mr222 ?_
        show zGo X l 3 0 0 219 57 [(0, .ref 6), (1, .int w9x1)] [] w65M _
        refine zs_aload_n (pc := 57) t219_57 rfl ?_
        refine zs_bipush (pc := 58) t219_58 (v := 103) (by decide) ?_
        refine zs_iconst (pc := 60) t219_60 (v := 4) (by decide) ?_
        refine zs_iconst (pc := 61) t219_61 (v := 4) (by decide) ?_
        refine zs_invV (pc := 62) (k := 6) (as' := [.int (103 : Int32), .int (4 : Int32), .int (4 : Int32)]) (st := []) t219_62 mf222 rfl rfl (Or.inl ⟨by decide, (zk1 (w65s.k fk_zMc_6))⟩) ⟨by decide, by decide, Nat.le_of_ble_eq_true rfl, Nat.le_of_ble_eq_true rfl⟩ (zs_in (by decide) mf222 (Nat.le_of_ble_eq_true rfl) ?_) (fun _ _ q => q)
        show zGo X l 2 0 0 222 0 [(0, .ref 6), (1, .int (103 : Int32)), (2, .int (4 : Int32)), (3, .int (4 : Int32))] [] w65M _
        refine zs_aload_n (pc := 0) t222_0 rfl ?_
        refine zs_iload_n (pc := 1) t222_1 rfl ?_
        have w67 : (103 : Int32).toInt = 103 := li103
        have w68 : (103 : Int32).toInt = 103 := li103
        have w69 : (zI w65M 6 10).toInt = (zI w65M 6 10).toInt := (congrArg Int32.toInt rfl).trans rfl
        have w70 : (zI w65M 6 10).toInt = (zI w65M 6 10).toInt := (congrArg Int32.toInt rfl).trans rfl
        refine zs_invV (pc := 2) (k := 6) (as' := [.int (103 : Int32)]) (st := []) t222_2 mf220 rfl rfl (Or.inl ⟨by decide, (zk1 (w65s.k fk_zMc_6))⟩) ⟨by decide, by decide, Nat.le_of_ble_eq_true rfl, Nat.le_of_ble_eq_true rfl⟩ (X220_6 w65s w65I ⟨by decide, by decide⟩ (by omega) (by omega) w65y ?_) (fun _ _ q => q)
        intro w71M w71s w71I w71F w71t0 w71x0
        have w72 := ib6_10 w71I
        show zGo X l 2 0 0 222 5 [(0, .ref 6), (1, .int (103 : Int32)), (2, .int (4 : Int32)), (3, .int (4 : Int32))] [] w71M _
        have w71y : zWr w71M 6 10 335 (wS (wS (wN (wS (wN (wS (wN (wS (wN (wS (wL F w10n) 115) (F 5)) 44) (F 6)) 44) (F 7)) 44) (F 8)) 59) 103) := by
          have q := w71x0
          rw [show (103 : Int32).toInt = 103 by first | decide | omega] at q
          exact q
        refine zs_iload_n (pc := 5) t222_5 rfl ?_
        refine zs_istore (pc := 6) t222_6 (ls' := [(4, .int (4 : Int32)), (0, .ref 6), (1, .int (103 : Int32)), (2, .int (4 : Int32)), (3, .int (4 : Int32))]) (zml mf222 (by decide)) rfl ?_
        refine zs_iload (pc := 8) t222_8 rfl ?_
        refine zs_iload_n (pc := 10) t222_10 rfl ?_
        refine zs_icmp_gtF (pc := 11) t222_11 li4 li4 (by decide) ?_
        refine zs_aload_n (pc := 14) t222_14 rfl ?_
        refine zs_aload_n (pc := 15) t222_15 rfl ?_
        refine zs_get (pc := 16) t222_16 (by decide) (zk1 (w71s.k fk_zMc_6)) (w71s.p rfl fv_zMc_6_0) ?_
        refine zs_iload (pc := 19) t222_19 rfl ?_
        refine zs_invV (pc := 21) (k := 7) (as' := [.int (4 : Int32)]) (st := [.ref 6]) t222_21 mf96 rfl rfl (Or.inl ⟨by decide, (zk1 (w71s.k fk_zMc_7))⟩) ⟨by decide, by decide, Nat.le_of_ble_eq_true rfl, Nat.le_of_ble_eq_true rfl⟩ (zs_in (by decide) mf96 (Nat.le_of_ble_eq_true rfl) ?_) (fun _ _ q => q)
        show zGo X l 0 0 0 96 0 [(0, .ref 7), (1, .int (4 : Int32))] [] w71M _
        refine zs_iload_n (pc := 0) t96_0 rfl ?_
        refine zs_if_ltF (pc := 1) t96_1 li4 (by decide) ?_
        refine zs_iload_n (pc := 4) t96_4 rfl ?_
        refine zs_bipush (pc := 5) t96_5 (v := 9) (by decide) ?_
        refine zs_icmp_geF (pc := 7) t96_7 li4 li9 (by decide) ?_
        refine zs_aload_n (pc := 10) t96_10 rfl ?_
        refine zs_get (pc := 11) t96_11 (by decide) (zk1 (w71s.k fk_zMc_7)) (w71s.p rfl fv_zMc_7_12) ?_
        refine zs_iload_n (pc := 14) t96_14 rfl ?_
        have w73 := ib17 hI 4
        have w74 : (zI M 17 4).toInt = F 9 := x0.2.2.2.2.1 4 (by decide)
        refine zs_iald (pc := 15) t96_15 (j := 4) (by decide) (zk1 (w71s.k fk_zMc_17)) li4 (zk2 (w71s.k fk_zMc_17) (by decide)) ((w71F 17 4 rfl).trans ((w65F 17 4 rfl).trans ((w59F 17 4 rfl).trans ((w53F 17 4 rfl).trans ((w47F 17 4 rfl).trans ((w41F 17 4 rfl).trans ((w35F 17 4 rfl).trans ((w29F 17 4 rfl).trans ((w23F 17 4 rfl).trans ((w17F 17 4 rfl).trans ((w9F 17 4 rfl).trans ((zIo (by decide)).trans rfl)))))))))))) ?_
        refine zs_goto (pc := 16) t96_16 ?_
        refine zs_iret (pc := 20) t96_20 mr96 rfl ?_
        show zGo X l 2 0 0 222 24 [(4, .int (4 : Int32)), (0, .ref 6), (1, .int (103 : Int32)), (2, .int (4 : Int32)), (3, .int (4 : Int32))] [.int (zI M 17 4), .ref 6] w71M _
        have w75 : (zI w71M 6 10).toInt = (zI w71M 6 10).toInt := (congrArg Int32.toInt rfl).trans rfl
        have w76 : (zI w71M 6 10).toInt = (zI w71M 6 10).toInt := (congrArg Int32.toInt rfl).trans rfl
        refine zs_invV (pc := 24) (k := 6) (as' := [.int (zI M 17 4)]) (st := []) t222_24 mf221 rfl rfl (Or.inl ⟨by decide, (zk1 (w71s.k fk_zMc_6))⟩) ⟨by decide, by decide, Nat.le_of_ble_eq_true rfl, Nat.le_of_ble_eq_true rfl⟩ (X221_6 w71s w71I ⟨by omega, by omega⟩ (by omega) w71y ?_) (fun _ _ q => q)
        intro w77M w77s w77I w77F w77t0 w77x0
        have w78 := ib6_10 w77I
        show zGo X l 2 0 0 222 27 [(4, .int (4 : Int32)), (0, .ref 6), (1, .int (103 : Int32)), (2, .int (4 : Int32)), (3, .int (4 : Int32))] [] w77M _
        have w77y : zWr w77M 6 10 335 (wN (wS (wS (wN (wS (wN (wS (wN (wS (wN (wS (wL F w10n) 115) (F 5)) 44) (F 6)) 44) (F 7)) 44) (F 8)) 59) 103) (F 9)) := by
          have q := w77x0
          rw [show (zI M 17 4).toInt = (F 9) by first | decide | omega] at q
          exact q
        refine zs_aload_n (pc := 27) t222_27 rfl ?_
        refine zs_iload (pc := 28) t222_28 rfl ?_
        refine zs_iload_n (pc := 30) t222_30 rfl ?_
        refine zs_icmp_geT (pc := 31) t222_31 li4 li4 (by decide) ?_
        refine zs_bipush (pc := 39) t222_39 (v := 59) (by decide) ?_
        have w79 : (59 : Int32).toInt = 59 := li59
        have w80 : (59 : Int32).toInt = 59 := li59
        have w81 : (zI w77M 6 10).toInt = (zI w77M 6 10).toInt := (congrArg Int32.toInt rfl).trans rfl
        have w82 : (zI w77M 6 10).toInt = (zI w77M 6 10).toInt := (congrArg Int32.toInt rfl).trans rfl
        refine zs_invV (pc := 41) (k := 6) (as' := [.int (59 : Int32)]) (st := []) t222_41 mf220 rfl rfl (Or.inl ⟨by decide, (zk1 (w77s.k fk_zMc_6))⟩) ⟨by decide, by decide, Nat.le_of_ble_eq_true rfl, Nat.le_of_ble_eq_true rfl⟩ (X220_6 w77s w77I ⟨by decide, by decide⟩ (by omega) (by omega) w77y ?_) (fun _ _ q => q)
        intro w83M w83s w83I w83F w83t0 w83x0
        have w84 := ib6_10 w83I
        show zGo X l 2 0 0 222 44 [(4, .int (4 : Int32)), (0, .ref 6), (1, .int (103 : Int32)), (2, .int (4 : Int32)), (3, .int (4 : Int32))] [] w83M _
        have w83y : zWr w83M 6 10 335 (wS (wN (wS (wS (wN (wS (wN (wS (wN (wS (wN (wS (wL F w10n) 115) (F 5)) 44) (F 6)) 44) (F 7)) 44) (F 8)) 59) 103) (F 9)) 59) := by
          have q := w83x0
          rw [show (59 : Int32).toInt = 59 by first | decide | omega] at q
          exact q
        refine zs_iinc (pc := 44) t222_44 (ls' := [(4, .int (5 : Int32)), (0, .ref 6), (1, .int (103 : Int32)), (2, .int (4 : Int32)), (3, .int (4 : Int32))]) (zml mf222 (by decide)) rfl (c := 5) (by decide) rfl ?_
        refine zs_goto (pc := 47) t222_47 ?_
        refine zs_iload (pc := 8) t222_8 rfl ?_
        refine zs_iload_n (pc := 10) t222_10 rfl ?_
        refine zs_icmp_gtT (pc := 11) t222_11 li5 li4 (by decide) ?_
        refine zs_vret (pc := 50) t222_50 mr222 ?_
        show zGo X l 3 0 0 219 65 [(0, .ref 6), (1, .int w9x1)] [] w83M _
        refine zs_aload_n (pc := 65) t219_65 rfl ?_
        refine zs_bipush (pc := 66) t219_66 (v := 119) (by decide) ?_
        refine zs_iconst (pc := 68) t219_68 (v := 5) (by decide) ?_
        refine zs_bipush (pc := 69) t219_69 (v := 6) (by decide) ?_
        refine zs_invV (pc := 71) (k := 6) (as' := [.int (119 : Int32), .int (5 : Int32), .int (6 : Int32)]) (st := []) t219_71 mf222 rfl rfl (Or.inl ⟨by decide, (zk1 (w83s.k fk_zMc_6))⟩) ⟨by decide, by decide, Nat.le_of_ble_eq_true rfl, Nat.le_of_ble_eq_true rfl⟩ (zs_in (by decide) mf222 (Nat.le_of_ble_eq_true rfl) ?_) (fun _ _ q => q)
        show zGo X l 2 0 0 222 0 [(0, .ref 6), (1, .int (119 : Int32)), (2, .int (5 : Int32)), (3, .int (6 : Int32))] [] w83M _
        refine zs_aload_n (pc := 0) t222_0 rfl ?_
        refine zs_iload_n (pc := 1) t222_1 rfl ?_
        have w85 : (119 : Int32).toInt = 119 := li119
        have w86 : (119 : Int32).toInt = 119 := li119
        have w87 : (zI w83M 6 10).toInt = (zI w83M 6 10).toInt := (congrArg Int32.toInt rfl).trans rfl
        have w88 : (zI w83M 6 10).toInt = (zI w83M 6 10).toInt := (congrArg Int32.toInt rfl).trans rfl
        refine zs_invV (pc := 2) (k := 6) (as' := [.int (119 : Int32)]) (st := []) t222_2 mf220 rfl rfl (Or.inl ⟨by decide, (zk1 (w83s.k fk_zMc_6))⟩) ⟨by decide, by decide, Nat.le_of_ble_eq_true rfl, Nat.le_of_ble_eq_true rfl⟩ (X220_6 w83s w83I ⟨by decide, by decide⟩ (by omega) (by omega) w83y ?_) (fun _ _ q => q)
        intro w89M w89s w89I w89F w89t0 w89x0
        have w90 := ib6_10 w89I
        show zGo X l 2 0 0 222 5 [(0, .ref 6), (1, .int (119 : Int32)), (2, .int (5 : Int32)), (3, .int (6 : Int32))] [] w89M _
        have w89y : zWr w89M 6 10 335 (wS (wS (wN (wS (wS (wN (wS (wN (wS (wN (wS (wN (wS (wL F w10n) 115) (F 5)) 44) (F 6)) 44) (F 7)) 44) (F 8)) 59) 103) (F 9)) 59) 119) := by
          have q := w89x0
          rw [show (119 : Int32).toInt = 119 by first | decide | omega] at q
          exact q
        refine zs_iload_n (pc := 5) t222_5 rfl ?_
        refine zs_istore (pc := 6) t222_6 (ls' := [(4, .int (5 : Int32)), (0, .ref 6), (1, .int (119 : Int32)), (2, .int (5 : Int32)), (3, .int (6 : Int32))]) (zml mf222 (by decide)) rfl ?_
        refine zs_iload (pc := 8) t222_8 rfl ?_
        refine zs_iload_n (pc := 10) t222_10 rfl ?_
        refine zs_icmp_gtF (pc := 11) t222_11 li5 li6 (by decide) ?_
        refine zs_aload_n (pc := 14) t222_14 rfl ?_
        refine zs_aload_n (pc := 15) t222_15 rfl ?_
        refine zs_get (pc := 16) t222_16 (by decide) (zk1 (w89s.k fk_zMc_6)) (w89s.p rfl fv_zMc_6_0) ?_
        refine zs_iload (pc := 19) t222_19 rfl ?_
        refine zs_invV (pc := 21) (k := 7) (as' := [.int (5 : Int32)]) (st := [.ref 6]) t222_21 mf96 rfl rfl (Or.inl ⟨by decide, (zk1 (w89s.k fk_zMc_7))⟩) ⟨by decide, by decide, Nat.le_of_ble_eq_true rfl, Nat.le_of_ble_eq_true rfl⟩ (zs_in (by decide) mf96 (Nat.le_of_ble_eq_true rfl) ?_) (fun _ _ q => q)
        show zGo X l 0 0 0 96 0 [(0, .ref 7), (1, .int (5 : Int32))] [] w89M _
        refine zs_iload_n (pc := 0) t96_0 rfl ?_
        refine zs_if_ltF (pc := 1) t96_1 li5 (by decide) ?_
        refine zs_iload_n (pc := 4) t96_4 rfl ?_
        refine zs_bipush (pc := 5) t96_5 (v := 9) (by decide) ?_
        refine zs_icmp_geF (pc := 7) t96_7 li5 li9 (by decide) ?_
        refine zs_aload_n (pc := 10) t96_10 rfl ?_
        refine zs_get (pc := 11) t96_11 (by decide) (zk1 (w89s.k fk_zMc_7)) (w89s.p rfl fv_zMc_7_12) ?_
        refine zs_iload_n (pc := 14) t96_14 rfl ?_
        have w91 := ib17 hI 5
        have w92 : (zI M 17 5).toInt = F 10 := x0.2.2.2.2.1 5 (by decide)
        refine zs_iald (pc := 15) t96_15 (j := 5) (by decide) (zk1 (w89s.k fk_zMc_17)) li5 (zk2 (w89s.k fk_zMc_17) (by decide)) ((w89F 17 5 rfl).trans ((w83F 17 5 rfl).trans ((w77F 17 5 rfl).trans ((w71F 17 5 rfl).trans ((w65F 17 5 rfl).trans ((w59F 17 5 rfl).trans ((w53F 17 5 rfl).trans ((w47F 17 5 rfl).trans ((w41F 17 5 rfl).trans ((w35F 17 5 rfl).trans ((w29F 17 5 rfl).trans ((w23F 17 5 rfl).trans ((w17F 17 5 rfl).trans ((w9F 17 5 rfl).trans ((zIo (by decide)).trans rfl))))))))))))))) ?_
        refine zs_goto (pc := 16) t96_16 ?_
        refine zs_iret (pc := 20) t96_20 mr96 rfl ?_
        show zGo X l 2 0 0 222 24 [(4, .int (5 : Int32)), (0, .ref 6), (1, .int (119 : Int32)), (2, .int (5 : Int32)), (3, .int (6 : Int32))] [.int (zI M 17 5), .ref 6] w89M _
        have w93 : (zI w89M 6 10).toInt = (zI w89M 6 10).toInt := (congrArg Int32.toInt rfl).trans rfl
        have w94 : (zI w89M 6 10).toInt = (zI w89M 6 10).toInt := (congrArg Int32.toInt rfl).trans rfl
        refine zs_invV (pc := 24) (k := 6) (as' := [.int (zI M 17 5)]) (st := []) t222_24 mf221 rfl rfl (Or.inl ⟨by decide, (zk1 (w89s.k fk_zMc_6))⟩) ⟨by decide, by decide, Nat.le_of_ble_eq_true rfl, Nat.le_of_ble_eq_true rfl⟩ (X221_6 w89s w89I ⟨by omega, by omega⟩ (by omega) w89y ?_) (fun _ _ q => q)
        intro w95M w95s w95I w95F w95t0 w95x0
        have w96 := ib6_10 w95I
        show zGo X l 2 0 0 222 27 [(4, .int (5 : Int32)), (0, .ref 6), (1, .int (119 : Int32)), (2, .int (5 : Int32)), (3, .int (6 : Int32))] [] w95M _
        have w95y : zWr w95M 6 10 335 (wN (wS (wS (wN (wS (wS (wN (wS (wN (wS (wN (wS (wN (wS (wL F w10n) 115) (F 5)) 44) (F 6)) 44) (F 7)) 44) (F 8)) 59) 103) (F 9)) 59) 119) (F 10)) := by
          have q := w95x0
          rw [show (zI M 17 5).toInt = (F 10) by first | decide | omega] at q
          exact q
        refine zs_aload_n (pc := 27) t222_27 rfl ?_
        refine zs_iload (pc := 28) t222_28 rfl ?_
        refine zs_iload_n (pc := 30) t222_30 rfl ?_
        refine zs_icmp_geF (pc := 31) t222_31 li5 li6 (by decide) ?_
        refine zs_bipush (pc := 34) t222_34 (v := 44) (by decide) ?_
        refine zs_goto (pc := 36) t222_36 ?_
        have w97 : (44 : Int32).toInt = 44 := li44
        have w98 : (44 : Int32).toInt = 44 := li44
        have w99 : (zI w95M 6 10).toInt = (zI w95M 6 10).toInt := (congrArg Int32.toInt rfl).trans rfl
        have w100 : (zI w95M 6 10).toInt = (zI w95M 6 10).toInt := (congrArg Int32.toInt rfl).trans rfl
        refine zs_invV (pc := 41) (k := 6) (as' := [.int (44 : Int32)]) (st := []) t222_41 mf220 rfl rfl (Or.inl ⟨by decide, (zk1 (w95s.k fk_zMc_6))⟩) ⟨by decide, by decide, Nat.le_of_ble_eq_true rfl, Nat.le_of_ble_eq_true rfl⟩ (X220_6 w95s w95I ⟨by decide, by decide⟩ (by omega) (by omega) w95y ?_) (fun _ _ q => q)
        intro w101M w101s w101I w101F w101t0 w101x0
        have w102 := ib6_10 w101I
        show zGo X l 2 0 0 222 44 [(4, .int (5 : Int32)), (0, .ref 6), (1, .int (119 : Int32)), (2, .int (5 : Int32)), (3, .int (6 : Int32))] [] w101M _
        have w101y : zWr w101M 6 10 335 (wS (wN (wS (wS (wN (wS (wS (wN (wS (wN (wS (wN (wS (wN (wS (wL F w10n) 115) (F 5)) 44) (F 6)) 44) (F 7)) 44) (F 8)) 59) 103) (F 9)) 59) 119) (F 10)) 44) := by
          have q := w101x0
          rw [show (44 : Int32).toInt = 44 by first | decide | omega] at q
          exact q
        refine zs_iinc (pc := 44) t222_44 (ls' := [(4, .int (6 : Int32)), (0, .ref 6), (1, .int (119 : Int32)), (2, .int (5 : Int32)), (3, .int (6 : Int32))]) (zml mf222 (by decide)) rfl (c := 6) (by decide) rfl ?_
        refine zs_goto (pc := 47) t222_47 ?_
        refine zs_iload (pc := 8) t222_8 rfl ?_
        refine zs_iload_n (pc := 10) t222_10 rfl ?_
        refine zs_icmp_gtF (pc := 11) t222_11 li6 li6 (by decide) ?_
        refine zs_aload_n (pc := 14) t222_14 rfl ?_
        refine zs_aload_n (pc := 15) t222_15 rfl ?_
        refine zs_get (pc := 16) t222_16 (by decide) (zk1 (w101s.k fk_zMc_6)) (w101s.p rfl fv_zMc_6_0) ?_
        refine zs_iload (pc := 19) t222_19 rfl ?_
        refine zs_invV (pc := 21) (k := 7) (as' := [.int (6 : Int32)]) (st := [.ref 6]) t222_21 mf96 rfl rfl (Or.inl ⟨by decide, (zk1 (w101s.k fk_zMc_7))⟩) ⟨by decide, by decide, Nat.le_of_ble_eq_true rfl, Nat.le_of_ble_eq_true rfl⟩ (zs_in (by decide) mf96 (Nat.le_of_ble_eq_true rfl) ?_) (fun _ _ q => q)
        show zGo X l 0 0 0 96 0 [(0, .ref 7), (1, .int (6 : Int32))] [] w101M _
        refine zs_iload_n (pc := 0) t96_0 rfl ?_
        refine zs_if_ltF (pc := 1) t96_1 li6 (by decide) ?_
        refine zs_iload_n (pc := 4) t96_4 rfl ?_
        refine zs_bipush (pc := 5) t96_5 (v := 9) (by decide) ?_
        refine zs_icmp_geF (pc := 7) t96_7 li6 li9 (by decide) ?_
        refine zs_aload_n (pc := 10) t96_10 rfl ?_
        refine zs_get (pc := 11) t96_11 (by decide) (zk1 (w101s.k fk_zMc_7)) (w101s.p rfl fv_zMc_7_12) ?_
        refine zs_iload_n (pc := 14) t96_14 rfl ?_
        have w103 := ib17 hI 6
        have w104 : (zI M 17 6).toInt = F 11 := x0.2.2.2.2.1 6 (by decide)
        refine zs_iald (pc := 15) t96_15 (j := 6) (by decide) (zk1 (w101s.k fk_zMc_17)) li6 (zk2 (w101s.k fk_zMc_17) (by decide)) ((w101F 17 6 rfl).trans ((w95F 17 6 rfl).trans ((w89F 17 6 rfl).trans ((w83F 17 6 rfl).trans ((w77F 17 6 rfl).trans ((w71F 17 6 rfl).trans ((w65F 17 6 rfl).trans ((w59F 17 6 rfl).trans ((w53F 17 6 rfl).trans ((w47F 17 6 rfl).trans ((w41F 17 6 rfl).trans ((w35F 17 6 rfl).trans ((w29F 17 6 rfl).trans ((w23F 17 6 rfl).trans ((w17F 17 6 rfl).trans ((w9F 17 6 rfl).trans ((zIo (by decide)).trans rfl))))))))))))))))) ?_
        refine zs_goto (pc := 16) t96_16 ?_
        refine zs_iret (pc := 20) t96_20 mr96 rfl ?_
        show zGo X l 2 0 0 222 24 [(4, .int (6 : Int32)), (0, .ref 6), (1, .int (119 : Int32)), (2, .int (5 : Int32)), (3, .int (6 : Int32))] [.int (zI M 17 6), .ref 6] w101M _
        have w105 : (zI w101M 6 10).toInt = (zI w101M 6 10).toInt := (congrArg Int32.toInt rfl).trans rfl
        have w106 : (zI w101M 6 10).toInt = (zI w101M 6 10).toInt := (congrArg Int32.toInt rfl).trans rfl
        refine zs_invV (pc := 24) (k := 6) (as' := [.int (zI M 17 6)]) (st := []) t222_24 mf221 rfl rfl (Or.inl ⟨by decide, (zk1 (w101s.k fk_zMc_6))⟩) ⟨by decide, by decide, Nat.le_of_ble_eq_true rfl, Nat.le_of_ble_eq_true rfl⟩ (X221_6 w101s w101I ⟨by omega, by omega⟩ (by omega) w101y ?_) (fun _ _ q => q)
        intro w107M w107s w107I w107F w107t0 w107x0
        have w108 := ib6_10 w107I
        show zGo X l 2 0 0 222 27 [(4, .int (6 : Int32)), (0, .ref 6), (1, .int (119 : Int32)), (2, .int (5 : Int32)), (3, .int (6 : Int32))] [] w107M _
        have w107y : zWr w107M 6 10 335 (wN (wS (wN (wS (wS (wN (wS (wS (wN (wS (wN (wS (wN (wS (wN (wS (wL F w10n) 115) (F 5)) 44) (F 6)) 44) (F 7)) 44) (F 8)) 59) 103) (F 9)) 59) 119) (F 10)) 44) (F 11)) := by
          have q := w107x0
          rw [show (zI M 17 6).toInt = (F 11) by first | decide | omega] at q
          exact q
        refine zs_aload_n (pc := 27) t222_27 rfl ?_
        refine zs_iload (pc := 28) t222_28 rfl ?_
        refine zs_iload_n (pc := 30) t222_30 rfl ?_
        refine zs_icmp_geT (pc := 31) t222_31 li6 li6 (by decide) ?_
        refine zs_bipush (pc := 39) t222_39 (v := 59) (by decide) ?_
        have w109 : (59 : Int32).toInt = 59 := li59
        have w110 : (59 : Int32).toInt = 59 := li59
        have w111 : (zI w107M 6 10).toInt = (zI w107M 6 10).toInt := (congrArg Int32.toInt rfl).trans rfl
        have w112 : (zI w107M 6 10).toInt = (zI w107M 6 10).toInt := (congrArg Int32.toInt rfl).trans rfl
        refine zs_invV (pc := 41) (k := 6) (as' := [.int (59 : Int32)]) (st := []) t222_41 mf220 rfl rfl (Or.inl ⟨by decide, (zk1 (w107s.k fk_zMc_6))⟩) ⟨by decide, by decide, Nat.le_of_ble_eq_true rfl, Nat.le_of_ble_eq_true rfl⟩ (X220_6 w107s w107I ⟨by decide, by decide⟩ (by omega) (by omega) w107y ?_) (fun _ _ q => q)
        intro w113M w113s w113I w113F w113t0 w113x0
        have w114 := ib6_10 w113I
        show zGo X l 2 0 0 222 44 [(4, .int (6 : Int32)), (0, .ref 6), (1, .int (119 : Int32)), (2, .int (5 : Int32)), (3, .int (6 : Int32))] [] w113M _
        have w113y : zWr w113M 6 10 335 (wS (wN (wS (wN (wS (wS (wN (wS (wS (wN (wS (wN (wS (wN (wS (wN (wS (wL F w10n) 115) (F 5)) 44) (F 6)) 44) (F 7)) 44) (F 8)) 59) 103) (F 9)) 59) 119) (F 10)) 44) (F 11)) 59) := by
          have q := w113x0
          rw [show (59 : Int32).toInt = 59 by first | decide | omega] at q
          exact q
        refine zs_iinc (pc := 44) t222_44 (ls' := [(4, .int (7 : Int32)), (0, .ref 6), (1, .int (119 : Int32)), (2, .int (5 : Int32)), (3, .int (6 : Int32))]) (zml mf222 (by decide)) rfl (c := 7) (by decide) rfl ?_
        refine zs_goto (pc := 47) t222_47 ?_
        refine zs_iload (pc := 8) t222_8 rfl ?_
        refine zs_iload_n (pc := 10) t222_10 rfl ?_
        refine zs_icmp_gtT (pc := 11) t222_11 li7 li6 (by decide) ?_
        refine zs_vret (pc := 50) t222_50 mr222 ?_
        show zGo X l 3 0 0 219 74 [(0, .ref 6), (1, .int w9x1)] [] w113M _
        refine zs_aload_n (pc := 74) t219_74 rfl ?_
        refine zs_bipush (pc := 75) t219_75 (v := 113) (by decide) ?_
        refine zs_bipush (pc := 77) t219_77 (v := 7) (by decide) ?_
        refine zs_bipush (pc := 79) t219_79 (v := 8) (by decide) ?_
        refine zs_invV (pc := 81) (k := 6) (as' := [.int (113 : Int32), .int (7 : Int32), .int (8 : Int32)]) (st := []) t219_81 mf222 rfl rfl (Or.inl ⟨by decide, (zk1 (w113s.k fk_zMc_6))⟩) ⟨by decide, by decide, Nat.le_of_ble_eq_true rfl, Nat.le_of_ble_eq_true rfl⟩ (zs_in (by decide) mf222 (Nat.le_of_ble_eq_true rfl) ?_) (fun _ _ q => q)
        show zGo X l 2 0 0 222 0 [(0, .ref 6), (1, .int (113 : Int32)), (2, .int (7 : Int32)), (3, .int (8 : Int32))] [] w113M _
        refine zs_aload_n (pc := 0) t222_0 rfl ?_
        refine zs_iload_n (pc := 1) t222_1 rfl ?_
        have w115 : (113 : Int32).toInt = 113 := li113
        have w116 : (113 : Int32).toInt = 113 := li113
        have w117 : (zI w113M 6 10).toInt = (zI w113M 6 10).toInt := (congrArg Int32.toInt rfl).trans rfl
        have w118 : (zI w113M 6 10).toInt = (zI w113M 6 10).toInt := (congrArg Int32.toInt rfl).trans rfl
        refine zs_invV (pc := 2) (k := 6) (as' := [.int (113 : Int32)]) (st := []) t222_2 mf220 rfl rfl (Or.inl ⟨by decide, (zk1 (w113s.k fk_zMc_6))⟩) ⟨by decide, by decide, Nat.le_of_ble_eq_true rfl, Nat.le_of_ble_eq_true rfl⟩ (X220_6 w113s w113I ⟨by decide, by decide⟩ (by omega) (by omega) w113y ?_) (fun _ _ q => q)
        intro w119M w119s w119I w119F w119t0 w119x0
        have w120 := ib6_10 w119I
        show zGo X l 2 0 0 222 5 [(0, .ref 6), (1, .int (113 : Int32)), (2, .int (7 : Int32)), (3, .int (8 : Int32))] [] w119M _
        have w119y : zWr w119M 6 10 335 (wS (wS (wN (wS (wN (wS (wS (wN (wS (wS (wN (wS (wN (wS (wN (wS (wN (wS (wL F w10n) 115) (F 5)) 44) (F 6)) 44) (F 7)) 44) (F 8)) 59) 103) (F 9)) 59) 119) (F 10)) 44) (F 11)) 59) 113) := by
          have q := w119x0
          rw [show (113 : Int32).toInt = 113 by first | decide | omega] at q
          exact q
        refine zs_iload_n (pc := 5) t222_5 rfl ?_
        refine zs_istore (pc := 6) t222_6 (ls' := [(4, .int (7 : Int32)), (0, .ref 6), (1, .int (113 : Int32)), (2, .int (7 : Int32)), (3, .int (8 : Int32))]) (zml mf222 (by decide)) rfl ?_
        refine zs_iload (pc := 8) t222_8 rfl ?_
        refine zs_iload_n (pc := 10) t222_10 rfl ?_
        refine zs_icmp_gtF (pc := 11) t222_11 li7 li8 (by decide) ?_
        refine zs_aload_n (pc := 14) t222_14 rfl ?_
        refine zs_aload_n (pc := 15) t222_15 rfl ?_
        refine zs_get (pc := 16) t222_16 (by decide) (zk1 (w119s.k fk_zMc_6)) (w119s.p rfl fv_zMc_6_0) ?_
        refine zs_iload (pc := 19) t222_19 rfl ?_
        refine zs_invV (pc := 21) (k := 7) (as' := [.int (7 : Int32)]) (st := [.ref 6]) t222_21 mf96 rfl rfl (Or.inl ⟨by decide, (zk1 (w119s.k fk_zMc_7))⟩) ⟨by decide, by decide, Nat.le_of_ble_eq_true rfl, Nat.le_of_ble_eq_true rfl⟩ (zs_in (by decide) mf96 (Nat.le_of_ble_eq_true rfl) ?_) (fun _ _ q => q)
        show zGo X l 0 0 0 96 0 [(0, .ref 7), (1, .int (7 : Int32))] [] w119M _
        refine zs_iload_n (pc := 0) t96_0 rfl ?_
        refine zs_if_ltF (pc := 1) t96_1 li7 (by decide) ?_
        refine zs_iload_n (pc := 4) t96_4 rfl ?_
        refine zs_bipush (pc := 5) t96_5 (v := 9) (by decide) ?_
        refine zs_icmp_geF (pc := 7) t96_7 li7 li9 (by decide) ?_
        refine zs_aload_n (pc := 10) t96_10 rfl ?_
        refine zs_get (pc := 11) t96_11 (by decide) (zk1 (w119s.k fk_zMc_7)) (w119s.p rfl fv_zMc_7_12) ?_
        refine zs_iload_n (pc := 14) t96_14 rfl ?_
        have w121 := ib17 hI 7
        have w122 : (zI M 17 7).toInt = F 12 := x0.2.2.2.2.1 7 (by decide)
        refine zs_iald (pc := 15) t96_15 (j := 7) (by decide) (zk1 (w119s.k fk_zMc_17)) li7 (zk2 (w119s.k fk_zMc_17) (by decide)) ((w119F 17 7 rfl).trans ((w113F 17 7 rfl).trans ((w107F 17 7 rfl).trans ((w101F 17 7 rfl).trans ((w95F 17 7 rfl).trans ((w89F 17 7 rfl).trans ((w83F 17 7 rfl).trans ((w77F 17 7 rfl).trans ((w71F 17 7 rfl).trans ((w65F 17 7 rfl).trans ((w59F 17 7 rfl).trans ((w53F 17 7 rfl).trans ((w47F 17 7 rfl).trans ((w41F 17 7 rfl).trans ((w35F 17 7 rfl).trans ((w29F 17 7 rfl).trans ((w23F 17 7 rfl).trans ((w17F 17 7 rfl).trans ((w9F 17 7 rfl).trans ((zIo (by decide)).trans rfl)))))))))))))))))))) ?_
        refine zs_goto (pc := 16) t96_16 ?_
        refine zs_iret (pc := 20) t96_20 mr96 rfl ?_
        show zGo X l 2 0 0 222 24 [(4, .int (7 : Int32)), (0, .ref 6), (1, .int (113 : Int32)), (2, .int (7 : Int32)), (3, .int (8 : Int32))] [.int (zI M 17 7), .ref 6] w119M _
        have w123 : (zI w119M 6 10).toInt = (zI w119M 6 10).toInt := (congrArg Int32.toInt rfl).trans rfl
        have w124 : (zI w119M 6 10).toInt = (zI w119M 6 10).toInt := (congrArg Int32.toInt rfl).trans rfl
        refine zs_invV (pc := 24) (k := 6) (as' := [.int (zI M 17 7)]) (st := []) t222_24 mf221 rfl rfl (Or.inl ⟨by decide, (zk1 (w119s.k fk_zMc_6))⟩) ⟨by decide, by decide, Nat.le_of_ble_eq_true rfl, Nat.le_of_ble_eq_true rfl⟩ (X221_6 w119s w119I ⟨by omega, by omega⟩ (by omega) w119y ?_) (fun _ _ q => q)
        intro w125M w125s w125I w125F w125t0 w125x0
        have w126 := ib6_10 w125I
        show zGo X l 2 0 0 222 27 [(4, .int (7 : Int32)), (0, .ref 6), (1, .int (113 : Int32)), (2, .int (7 : Int32)), (3, .int (8 : Int32))] [] w125M _
        have w125y : zWr w125M 6 10 335 (wN (wS (wS (wN (wS (wN (wS (wS (wN (wS (wS (wN (wS (wN (wS (wN (wS (wN (wS (wL F w10n) 115) (F 5)) 44) (F 6)) 44) (F 7)) 44) (F 8)) 59) 103) (F 9)) 59) 119) (F 10)) 44) (F 11)) 59) 113) (F 12)) := by
          have q := w125x0
          rw [show (zI M 17 7).toInt = (F 12) by first | decide | omega] at q
          exact q
        refine zs_aload_n (pc := 27) t222_27 rfl ?_
        refine zs_iload (pc := 28) t222_28 rfl ?_
        refine zs_iload_n (pc := 30) t222_30 rfl ?_
        refine zs_icmp_geF (pc := 31) t222_31 li7 li8 (by decide) ?_
        refine zs_bipush (pc := 34) t222_34 (v := 44) (by decide) ?_
        refine zs_goto (pc := 36) t222_36 ?_
        have w127 : (44 : Int32).toInt = 44 := li44
        have w128 : (44 : Int32).toInt = 44 := li44
        have w129 : (zI w125M 6 10).toInt = (zI w125M 6 10).toInt := (congrArg Int32.toInt rfl).trans rfl
        have w130 : (zI w125M 6 10).toInt = (zI w125M 6 10).toInt := (congrArg Int32.toInt rfl).trans rfl
        refine zs_invV (pc := 41) (k := 6) (as' := [.int (44 : Int32)]) (st := []) t222_41 mf220 rfl rfl (Or.inl ⟨by decide, (zk1 (w125s.k fk_zMc_6))⟩) ⟨by decide, by decide, Nat.le_of_ble_eq_true rfl, Nat.le_of_ble_eq_true rfl⟩ (X220_6 w125s w125I ⟨by decide, by decide⟩ (by omega) (by omega) w125y ?_) (fun _ _ q => q)
        intro w131M w131s w131I w131F w131t0 w131x0
        have w132 := ib6_10 w131I
        show zGo X l 2 0 0 222 44 [(4, .int (7 : Int32)), (0, .ref 6), (1, .int (113 : Int32)), (2, .int (7 : Int32)), (3, .int (8 : Int32))] [] w131M _
        have w131y : zWr w131M 6 10 335 (wS (wN (wS (wS (wN (wS (wN (wS (wS (wN (wS (wS (wN (wS (wN (wS (wN (wS (wN (wS (wL F w10n) 115) (F 5)) 44) (F 6)) 44) (F 7)) 44) (F 8)) 59) 103) (F 9)) 59) 119) (F 10)) 44) (F 11)) 59) 113) (F 12)) 44) := by
          have q := w131x0
          rw [show (44 : Int32).toInt = 44 by first | decide | omega] at q
          exact q
        refine zs_iinc (pc := 44) t222_44 (ls' := [(4, .int (8 : Int32)), (0, .ref 6), (1, .int (113 : Int32)), (2, .int (7 : Int32)), (3, .int (8 : Int32))]) (zml mf222 (by decide)) rfl (c := 8) (by decide) rfl ?_
        refine zs_goto (pc := 47) t222_47 ?_
        refine zs_iload (pc := 8) t222_8 rfl ?_
        refine zs_iload_n (pc := 10) t222_10 rfl ?_
        refine zs_icmp_gtF (pc := 11) t222_11 li8 li8 (by decide) ?_
        refine zs_aload_n (pc := 14) t222_14 rfl ?_
        refine zs_aload_n (pc := 15) t222_15 rfl ?_
        refine zs_get (pc := 16) t222_16 (by decide) (zk1 (w131s.k fk_zMc_6)) (w131s.p rfl fv_zMc_6_0) ?_
        refine zs_iload (pc := 19) t222_19 rfl ?_
        refine zs_invV (pc := 21) (k := 7) (as' := [.int (8 : Int32)]) (st := [.ref 6]) t222_21 mf96 rfl rfl (Or.inl ⟨by decide, (zk1 (w131s.k fk_zMc_7))⟩) ⟨by decide, by decide, Nat.le_of_ble_eq_true rfl, Nat.le_of_ble_eq_true rfl⟩ (zs_in (by decide) mf96 (Nat.le_of_ble_eq_true rfl) ?_) (fun _ _ q => q)
        show zGo X l 0 0 0 96 0 [(0, .ref 7), (1, .int (8 : Int32))] [] w131M _
        refine zs_iload_n (pc := 0) t96_0 rfl ?_
        refine zs_if_ltF (pc := 1) t96_1 li8 (by decide) ?_
        refine zs_iload_n (pc := 4) t96_4 rfl ?_
        refine zs_bipush (pc := 5) t96_5 (v := 9) (by decide) ?_
        refine zs_icmp_geF (pc := 7) t96_7 li8 li9 (by decide) ?_
        refine zs_aload_n (pc := 10) t96_10 rfl ?_
        refine zs_get (pc := 11) t96_11 (by decide) (zk1 (w131s.k fk_zMc_7)) (w131s.p rfl fv_zMc_7_12) ?_
        refine zs_iload_n (pc := 14) t96_14 rfl ?_
        have w133 := ib17 hI 8
        have w134 : (zI M 17 8).toInt = F 13 := x0.2.2.2.2.1 8 (by decide)
        refine zs_iald (pc := 15) t96_15 (j := 8) (by decide) (zk1 (w131s.k fk_zMc_17)) li8 (zk2 (w131s.k fk_zMc_17) (by decide)) ((w131F 17 8 rfl).trans ((w125F 17 8 rfl).trans ((w119F 17 8 rfl).trans ((w113F 17 8 rfl).trans ((w107F 17 8 rfl).trans ((w101F 17 8 rfl).trans ((w95F 17 8 rfl).trans ((w89F 17 8 rfl).trans ((w83F 17 8 rfl).trans ((w77F 17 8 rfl).trans ((w71F 17 8 rfl).trans ((w65F 17 8 rfl).trans ((w59F 17 8 rfl).trans ((w53F 17 8 rfl).trans ((w47F 17 8 rfl).trans ((w41F 17 8 rfl).trans ((w35F 17 8 rfl).trans ((w29F 17 8 rfl).trans ((w23F 17 8 rfl).trans ((w17F 17 8 rfl).trans ((w9F 17 8 rfl).trans ((zIo (by decide)).trans rfl)))))))))))))))))))))) ?_
        refine zs_goto (pc := 16) t96_16 ?_
        refine zs_iret (pc := 20) t96_20 mr96 rfl ?_
        show zGo X l 2 0 0 222 24 [(4, .int (8 : Int32)), (0, .ref 6), (1, .int (113 : Int32)), (2, .int (7 : Int32)), (3, .int (8 : Int32))] [.int (zI M 17 8), .ref 6] w131M _
        have w135 : (zI w131M 6 10).toInt = (zI w131M 6 10).toInt := (congrArg Int32.toInt rfl).trans rfl
        have w136 : (zI w131M 6 10).toInt = (zI w131M 6 10).toInt := (congrArg Int32.toInt rfl).trans rfl
        refine zs_invV (pc := 24) (k := 6) (as' := [.int (zI M 17 8)]) (st := []) t222_24 mf221 rfl rfl (Or.inl ⟨by decide, (zk1 (w131s.k fk_zMc_6))⟩) ⟨by decide, by decide, Nat.le_of_ble_eq_true rfl, Nat.le_of_ble_eq_true rfl⟩ (X221_6 w131s w131I ⟨by omega, by omega⟩ (by omega) w131y ?_) (fun _ _ q => q)
        intro w137M w137s w137I w137F w137t0 w137x0
        have w138 := ib6_10 w137I
        show zGo X l 2 0 0 222 27 [(4, .int (8 : Int32)), (0, .ref 6), (1, .int (113 : Int32)), (2, .int (7 : Int32)), (3, .int (8 : Int32))] [] w137M _
        have w137y : zWr w137M 6 10 335 (wN (wS (wN (wS (wS (wN (wS (wN (wS (wS (wN (wS (wS (wN (wS (wN (wS (wN (wS (wN (wS (wL F w10n) 115) (F 5)) 44) (F 6)) 44) (F 7)) 44) (F 8)) 59) 103) (F 9)) 59) 119) (F 10)) 44) (F 11)) 59) 113) (F 12)) 44) (F 13)) := by
          have q := w137x0
          rw [show (zI M 17 8).toInt = (F 13) by first | decide | omega] at q
          exact q
        refine zs_aload_n (pc := 27) t222_27 rfl ?_
        refine zs_iload (pc := 28) t222_28 rfl ?_
        refine zs_iload_n (pc := 30) t222_30 rfl ?_
        refine zs_icmp_geT (pc := 31) t222_31 li8 li8 (by decide) ?_
        refine zs_bipush (pc := 39) t222_39 (v := 59) (by decide) ?_
        have w139 : (59 : Int32).toInt = 59 := li59
        have w140 : (59 : Int32).toInt = 59 := li59
        have w141 : (zI w137M 6 10).toInt = (zI w137M 6 10).toInt := (congrArg Int32.toInt rfl).trans rfl
        have w142 : (zI w137M 6 10).toInt = (zI w137M 6 10).toInt := (congrArg Int32.toInt rfl).trans rfl
        refine zs_invV (pc := 41) (k := 6) (as' := [.int (59 : Int32)]) (st := []) t222_41 mf220 rfl rfl (Or.inl ⟨by decide, (zk1 (w137s.k fk_zMc_6))⟩) ⟨by decide, by decide, Nat.le_of_ble_eq_true rfl, Nat.le_of_ble_eq_true rfl⟩ (X220_6 w137s w137I ⟨by decide, by decide⟩ (by omega) (by omega) w137y ?_) (fun _ _ q => q)
        intro w143M w143s w143I w143F w143t0 w143x0
        have w144 := ib6_10 w143I
        show zGo X l 2 0 0 222 44 [(4, .int (8 : Int32)), (0, .ref 6), (1, .int (113 : Int32)), (2, .int (7 : Int32)), (3, .int (8 : Int32))] [] w143M _
        have w143y : zWr w143M 6 10 335 (wS (wN (wS (wN (wS (wS (wN (wS (wN (wS (wS (wN (wS (wS (wN (wS (wN (wS (wN (wS (wN (wS (wL F w10n) 115) (F 5)) 44) (F 6)) 44) (F 7)) 44) (F 8)) 59) 103) (F 9)) 59) 119) (F 10)) 44) (F 11)) 59) 113) (F 12)) 44) (F 13)) 59) := by
          have q := w143x0
          rw [show (59 : Int32).toInt = 59 by first | decide | omega] at q
          exact q
        refine zs_iinc (pc := 44) t222_44 (ls' := [(4, .int (9 : Int32)), (0, .ref 6), (1, .int (113 : Int32)), (2, .int (7 : Int32)), (3, .int (8 : Int32))]) (zml mf222 (by decide)) rfl (c := 9) (by decide) rfl ?_
        refine zs_goto (pc := 47) t222_47 ?_
        refine zs_iload (pc := 8) t222_8 rfl ?_
        refine zs_iload_n (pc := 10) t222_10 rfl ?_
        refine zs_icmp_gtT (pc := 11) t222_11 li9 li8 (by decide) ?_
        refine zs_vret (pc := 50) t222_50 mr222 ?_
        show zGo X l 3 0 0 219 84 [(0, .ref 6), (1, .int w9x1)] [] w143M _
        refine zs_aload_n (pc := 84) t219_84 rfl ?_
        refine zs_get (pc := 85) t219_85 (by decide) (zk1 (w143s.k fk_zMc_6)) (zfvi rfl rfl) ?_
        exact zs_iret (pc := 88) t219_88 mr219 rfl (hQ _ _ w143s w143I (((((((((((((((((((((((((zFr.refl).put rfl).trans (w9F.mono rfl)).trans (w17F.mono rfl)).trans (w23F.mono rfl)).trans (w29F.mono rfl)).trans (w35F.mono rfl)).trans (w41F.mono rfl)).trans (w47F.mono rfl)).trans (w53F.mono rfl)).trans (w59F.mono rfl)).trans (w65F.mono rfl)).trans (w71F.mono rfl)).trans (w77F.mono rfl)).trans (w83F.mono rfl)).trans (w89F.mono rfl)).trans (w95F.mono rfl)).trans (w101F.mono rfl)).trans (w107F.mono rfl)).trans (w113F.mono rfl)).trans (w119F.mono rfl)).trans (w125F.mono rfl)).trans (w131F.mono rfl)).trans (w137F.mono rfl)).trans (w143F.mono rfl)) (by have q := w143y; unfold wAll; rw [show (F 0).toNat = w10n by omega]; exact ⟨q.1.2, q⟩))
      · refine zs_icmp_geF (pc := 15) t219_15 rfl rfl (by omega) ?_
        refine zs_aload_n (pc := 18) t219_18 rfl ?_
        refine zs_bipush (pc := 19) t219_19 (v := 114) (by decide) ?_
        have w145 : (114 : Int32).toInt = 114 := li114
        have w146 : (114 : Int32).toInt = 114 := li114
        have w147 : (zI w9M 6 10).toInt = (zI w9M 6 10).toInt := (congrArg Int32.toInt rfl).trans rfl
        have w148 : (zI w9M 6 10).toInt = (zI w9M 6 10).toInt := (congrArg Int32.toInt rfl).trans rfl
        refine zs_invV (pc := 21) (k := 6) (as' := [.int (114 : Int32)]) (st := []) t219_21 mf220 rfl rfl (Or.inl ⟨by decide, (zk1 (w9s.k fk_zMc_6))⟩) ⟨by decide, by decide, Nat.le_of_ble_eq_true rfl, Nat.le_of_ble_eq_true rfl⟩ (X220_6 w9s w9I ⟨by decide, by decide⟩ (by omega) (by omega) (w9t0 w10n (by omega)) ?_) (fun _ _ q => q)
        intro w149M w149s w149I w149F w149t0 w149x0
        have w150 := ib6_10 w149I
        show zGo X l 3 0 0 219 24 [(0, .ref 6), (1, .int w9x1)] [] w149M _
        have w149y : zWr w149M 6 10 335 (wS (wL F w10n) 114) := by
          have q := w149x0
          rw [show (114 : Int32).toInt = 114 by first | decide | omega] at q
          exact q
        refine zs_aload_n (pc := 24) t219_24 rfl ?_
        refine zs_aload_n (pc := 25) t219_25 rfl ?_
        refine zs_get (pc := 26) t219_26 (by decide) (zk1 (w149s.k fk_zMc_6)) (w149s.p rfl fv_zMc_6_0) ?_
        refine zs_get (pc := 29) t219_29 (by decide) (zk1 (w149s.k fk_zMc_7)) (w149s.p rfl fv_zMc_7_1) ?_
        refine zs_iload_n (pc := 32) t219_32 rfl ?_
        have w151 := zrg (zI M 8 w10n)
        have w152 : (zI M 8 w10n).toInt = F (14 + 2 * w10n) ∧ (zI M 9 w10n).toInt = F (15 + 2 * w10n) := x0.2.1 w10n (by omega)
        have w153 := x1.2.1 w10n (by omega)
        refine zs_iald (pc := 33) t219_33 (j := w10n) (by decide) (zk1 (w149s.k fk_zMc_8)) (show w9x1.toInt = ((w10n : Nat) : Int) by omega) (zk2 (w149s.k fk_zMc_8) (by omega)) ((w149F 8 w10n rfl).trans ((w9F 8 w10n rfl).trans ((zIo (by decide)).trans rfl))) ?_
        have w154 : (zI w149M 6 10).toInt = (zI w149M 6 10).toInt := (congrArg Int32.toInt rfl).trans rfl
        have w155 : (zI w149M 6 10).toInt = (zI w149M 6 10).toInt := (congrArg Int32.toInt rfl).trans rfl
        refine zs_invV (pc := 34) (k := 6) (as' := [.int (zI M 8 w10n)]) (st := []) t219_34 mf221 rfl rfl (Or.inl ⟨by decide, (zk1 (w149s.k fk_zMc_6))⟩) ⟨by decide, by decide, Nat.le_of_ble_eq_true rfl, Nat.le_of_ble_eq_true rfl⟩ (X221_6 w149s w149I ⟨by omega, by omega⟩ (by omega) w149y ?_) (fun _ _ q => q)
        intro w156M w156s w156I w156F w156t0 w156x0
        have w157 := ib6_10 w156I
        show zGo X l 3 0 0 219 37 [(0, .ref 6), (1, .int w9x1)] [] w156M _
        have w156y : zWr w156M 6 10 335 (wN (wS (wL F w10n) 114) (F (14 + 2 * w10n))) := by
          have q := w156x0
          rw [show (zI M 8 w10n).toInt = (F (14 + 2 * w10n)) by first | decide | omega] at q
          exact q
        refine zs_aload_n (pc := 37) t219_37 rfl ?_
        refine zs_bipush (pc := 38) t219_38 (v := 59) (by decide) ?_
        have w158 : (59 : Int32).toInt = 59 := li59
        have w159 : (59 : Int32).toInt = 59 := li59
        have w160 : (zI w156M 6 10).toInt = (zI w156M 6 10).toInt := (congrArg Int32.toInt rfl).trans rfl
        have w161 : (zI w156M 6 10).toInt = (zI w156M 6 10).toInt := (congrArg Int32.toInt rfl).trans rfl
        refine zs_invV (pc := 40) (k := 6) (as' := [.int (59 : Int32)]) (st := []) t219_40 mf220 rfl rfl (Or.inl ⟨by decide, (zk1 (w156s.k fk_zMc_6))⟩) ⟨by decide, by decide, Nat.le_of_ble_eq_true rfl, Nat.le_of_ble_eq_true rfl⟩ (X220_6 w156s w156I ⟨by decide, by decide⟩ (by omega) (by omega) w156y ?_) (fun _ _ q => q)
        intro w162M w162s w162I w162F w162t0 w162x0
        have w163 := ib6_10 w162I
        show zGo X l 3 0 0 219 43 [(0, .ref 6), (1, .int w9x1)] [] w162M _
        have w162y : zWr w162M 6 10 335 (wS (wN (wS (wL F w10n) 114) (F (14 + 2 * w10n))) 59) := by
          have q := w162x0
          rw [show (59 : Int32).toInt = 59 by first | decide | omega] at q
          exact q
        obtain ⟨w164v, w164e, w164⟩ := ziadd (a := w9x1) (b := Int32.ofInt 1) rfl (show (Int32.ofInt 1).toInt = 1 by decide) (by omega) (by omega)
        refine zs_iinc (pc := 43) t219_43 (ls' := [(1, .int w164v), (0, .ref 6)]) (zml mf219 (by decide)) rfl (c := w164v) w164e rfl ?_
        refine zs_goto (pc := 46) t219_46 ?_
        refine zGo.locals (ls' := [(0, .ref 6), (1, .int w164v)]) (by simp) ?_
        have w165 := w164
        have w166 : (zI w162M 6 10).toInt = (zI w162M 6 10).toInt := (congrArg Int32.toInt rfl).trans rfl
        exact w9ih (w9m - 1) (by omega) w164v w162M ⟨by omega, by omega⟩ w162s w162I (((((zFr.refl).trans (w9F.mono rfl)).trans (w149F.mono rfl)).trans (w156F.mono rfl)).trans (w162F.mono rfl)) (by omega) (by omega) (fun l hl => by obtain rfl : l = w10n + 1 := (by omega); exact w162y) (by omega)
  refine zGo.locals (ls' := [(0, .ref 6), (1, .int (0 : Int32))]) (by simp) ?_
  have w167 := li0
  have w168 : (zI (zsI M 6 10 (0 : Int32)) 6 10).toInt = 0 := (congrArg Int32.toInt zIs).trans li0
  exact w9L ((8 - 0 : Int).toNat) (0 : Int32) (zsI M 6 10 (0 : Int32)) ⟨by decide, by decide⟩ hs w7 zFr.refl (by omega) (by omega) (fun l hl => by obtain rfl : l = 0 := (by omega); exact w8) (by omega)
