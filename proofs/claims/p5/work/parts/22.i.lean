theorem C95_6 {X : zX} {l : Launch} {M : zM} {Q : Option Value → zM → Prop} {a : Int32} (hs : zSk zMc M) (hI : zIv cLo cHi M) (hQ : ∀ (M' : zM) (v : Int32), zSk zMc M' → zIv cLo cHi M' → zFr [(6, 335, none)] M M' → (-2147483648) ≤ v.toInt → v.toInt ≤ 2147483647 → Q (some (.int v)) M') : zCall X l 4 0 0 95 [.ref 6, .int a] M Q := by
  have ga := zrg a
  refine zs_in (by decide) mf95 (Nat.le_of_ble_eq_true rfl) ?_
  show zGo X l 4 0 0 95 0 [(0, .ref 6), (1, .int a)] [] M _
  refine zs_iload_n (pc := 0) t95_0 rfl ?_
  refine zs_iconst (pc := 1) t95_1 (v := 2) (by decide) ?_
  refine zs_bipush (pc := 2) t95_2 (v := 8) (by decide) ?_
  refine zs_invS (pc := 4) (as := [.int a, .int (2 : Int32), .int (8 : Int32)]) (st := []) t95_4 (by decide) mf39 rfl rfl ⟨by decide, by decide, Nat.le_of_ble_eq_true rfl, Nat.le_of_ble_eq_true rfl⟩ (zs_in (by decide) mf39 (Nat.le_of_ble_eq_true rfl) ?_) (fun _ _ q => q)
  show zGo X l 0 0 0 39 0 [(0, .int a), (1, .int (2 : Int32)), (2, .int (8 : Int32))] [] M _
  refine zs_iload_n (pc := 0) t39_0 rfl ?_
  refine zs_iload_n (pc := 1) t39_1 rfl ?_
  by_cases w1 : a.toInt < 2
  · refine zs_icmp_ltT (pc := 2) t39_2 rfl li2 (by omega) ?_
    refine zs_iconst (pc := 14) t39_14 (v := 0) (by decide) ?_
    refine zs_iret (pc := 15) t39_15 mr39 (by decide) ?_
    show zGo X l 4 0 0 95 7 [(0, .ref 6), (1, .int a)] [.int (0 : Int32)] M _
    refine zs_if_neF (pc := 7) t95_7 li0 (by decide) ?_
    refine zs_iconst (pc := 10) t95_10 (v := -1) (by decide) ?_
    exact zs_iret (pc := 11) t95_11 mr95 (by decide) (hQ _ _ hs hI (zFr.refl) (zrg _).1 (zrg _).2)
  · refine zs_icmp_ltF (pc := 2) t39_2 rfl li2 (by omega) ?_
    refine zs_iload_n (pc := 5) t39_5 rfl ?_
    refine zs_iload_n (pc := 6) t39_6 rfl ?_
    by_cases w2 : 8 < a.toInt
    · refine zs_icmp_gtT (pc := 7) t39_7 rfl li8 (by omega) ?_
      refine zs_iconst (pc := 14) t39_14 (v := 0) (by decide) ?_
      refine zs_iret (pc := 15) t39_15 mr39 (by decide) ?_
      show zGo X l 4 0 0 95 7 [(0, .ref 6), (1, .int a)] [.int (0 : Int32)] M _
      refine zs_if_neF (pc := 7) t95_7 li0 (by decide) ?_
      refine zs_iconst (pc := 10) t95_10 (v := -1) (by decide) ?_
      exact zs_iret (pc := 11) t95_11 mr95 (by decide) (hQ _ _ hs hI (zFr.refl) (zrg _).1 (zrg _).2)
    · refine zs_icmp_gtF (pc := 7) t39_7 rfl li8 (by omega) ?_
      refine zs_iconst (pc := 10) t39_10 (v := 1) (by decide) ?_
      refine zs_goto (pc := 11) t39_11 ?_
      refine zs_iret (pc := 15) t39_15 mr39 (by decide) ?_
      show zGo X l 4 0 0 95 7 [(0, .ref 6), (1, .int a)] [.int (1 : Int32)] M _
      refine zs_if_neT (pc := 7) t95_7 li1 (by decide) ?_
      refine zs_aload_n (pc := 12) t95_12 rfl ?_
      refine zs_get (pc := 13) t95_13 (by decide) (zk1 (hs.k fk_zMc_6)) (hs.p rfl fv_zMc_6_2) ?_
      refine zs_aload_n (pc := 16) t95_16 rfl ?_
      refine zs_get (pc := 17) t95_17 (by decide) (zk1 (hs.k fk_zMc_6)) (hs.p rfl fv_zMc_6_0) ?_
      refine zs_invV (pc := 20) (k := 31) (as' := [.ref 7]) (st := []) t95_20 mf58 rfl rfl (Or.inl ⟨by decide, (zk1 (hs.k fk_zMc_31))⟩) ⟨by decide, by decide, Nat.le_of_ble_eq_true rfl, Nat.le_of_ble_eq_true rfl⟩ (C58_31_7 hs hI ?_) (fun _ _ q => q)
      intro w3M w3s w3I w3F
      show zGo X l 4 0 0 95 23 [(0, .ref 6), (1, .int a)] [] w3M _
      refine zs_aload_n (pc := 23) t95_23 rfl ?_
      refine zs_invV (pc := 24) (k := 6) (as' := []) (st := []) t95_24 mf59 rfl rfl (Or.inl ⟨by decide, (zk1 (w3s.k fk_zMc_6))⟩) ⟨by decide, by decide, Nat.le_of_ble_eq_true rfl, Nat.le_of_ble_eq_true rfl⟩ (zs_in (by decide) mf59 (Nat.le_of_ble_eq_true rfl) ?_) (fun _ _ q => q)
      show zGo X l 1 0 0 59 0 [(0, .ref 6)] [] w3M _
      refine zs_aload_n (pc := 0) t59_0 rfl ?_
      refine zs_get (pc := 1) t59_1 (by decide) (zk1 (w3s.k fk_zMc_6)) (w3s.p rfl fv_zMc_6_6) ?_
      refine zs_invV (pc := 4) (k := 164) (as' := []) (st := []) t59_4 mf60 rfl rfl (Or.inl ⟨by decide, (zk1 (w3s.k fk_zMc_164))⟩) ⟨by decide, by decide, Nat.le_of_ble_eq_true rfl, Nat.le_of_ble_eq_true rfl⟩ (zs_in (by decide) mf60 (Nat.le_of_ble_eq_true rfl) ?_) (fun _ _ q => q)
      show zGo X l 0 0 0 60 0 [(0, .ref 164)] [] w3M _
      refine zs_aload_n (pc := 0) t60_0 rfl ?_
      refine zs_iconst (pc := 1) t60_1 (v := 0) (by decide) ?_
      have w4 : zIv cLo cHi (zsI w3M 164 0 (0 : Int32)) := zIv.put w3I (show 0 ≤ (0 : Int32).toInt ∧ (0 : Int32).toInt ≤ 1 from ⟨by decide, by decide⟩)
      refine zs_putI (pc := 2) t60_2 (zk1 (w3s.k fk_zMc_164)) (by decide) ?_
      refine zs_vret (pc := 5) t60_5 mr60 ?_
      show zGo X l 1 0 0 59 7 [(0, .ref 6)] [] (zsI w3M 164 0 (0 : Int32)) _
      refine zs_aload_n (pc := 7) t59_7 rfl ?_
      refine zs_get (pc := 8) t59_8 (by decide) (zk1 (w3s.k fk_zMc_6)) (w3s.p rfl fv_zMc_6_7) ?_
      refine zs_invV (pc := 11) (k := 325) (as' := []) (st := []) t59_11 mf61 rfl rfl (Or.inl ⟨by decide, (zk1 (w3s.k fk_zMc_325))⟩) ⟨by decide, by decide, Nat.le_of_ble_eq_true rfl, Nat.le_of_ble_eq_true rfl⟩ (zs_in (by decide) mf61 (Nat.le_of_ble_eq_true rfl) ?_) (fun _ _ q => q)
      show zGo X l 0 0 0 61 0 [(0, .ref 325)] [] (zsI w3M 164 0 (0 : Int32)) _
      refine zs_aload_n (pc := 0) t61_0 rfl ?_
      refine zs_iconst (pc := 1) t61_1 (v := 0) (by decide) ?_
      have w5 : zIv cLo cHi (zsI (zsI w3M 164 0 (0 : Int32)) 325 0 (0 : Int32)) := zIv.put w4 (show 0 ≤ (0 : Int32).toInt ∧ (0 : Int32).toInt ≤ 1 from ⟨by decide, by decide⟩)
      refine zs_putI (pc := 2) t61_2 (zk1 (w3s.k fk_zMc_325)) (by decide) ?_
      refine zs_vret (pc := 5) t61_5 mr61 ?_
      show zGo X l 1 0 0 59 14 [(0, .ref 6)] [] (zsI (zsI w3M 164 0 (0 : Int32)) 325 0 (0 : Int32)) _
      refine zs_vret (pc := 14) t59_14 mr59 ?_
      show zGo X l 4 0 0 95 27 [(0, .ref 6), (1, .int a)] [] (zsI (zsI w3M 164 0 (0 : Int32)) 325 0 (0 : Int32)) _
      refine zs_aload_n (pc := 27) t95_27 rfl ?_
      refine zs_get (pc := 28) t95_28 (by decide) (zk1 (w3s.k fk_zMc_6)) (w3s.p rfl fv_zMc_6_0) ?_
      refine zs_iconst (pc := 31) t95_31 (v := 3) (by decide) ?_
      refine zs_invV (pc := 32) (k := 7) (as' := [.int (3 : Int32)]) (st := []) t95_32 mf96 rfl rfl (Or.inl ⟨by decide, (zk1 (w3s.k fk_zMc_7))⟩) ⟨by decide, by decide, Nat.le_of_ble_eq_true rfl, Nat.le_of_ble_eq_true rfl⟩ (zs_in (by decide) mf96 (Nat.le_of_ble_eq_true rfl) ?_) (fun _ _ q => q)
      show zGo X l 0 0 0 96 0 [(0, .ref 7), (1, .int (3 : Int32))] [] (zsI (zsI w3M 164 0 (0 : Int32)) 325 0 (0 : Int32)) _
      refine zs_iload_n (pc := 0) t96_0 rfl ?_
      refine zs_if_ltF (pc := 1) t96_1 li3 (by decide) ?_
      refine zs_iload_n (pc := 4) t96_4 rfl ?_
      refine zs_bipush (pc := 5) t96_5 (v := 9) (by decide) ?_
      refine zs_icmp_geF (pc := 7) t96_7 li3 li9 (by decide) ?_
      refine zs_aload_n (pc := 10) t96_10 rfl ?_
      refine zs_get (pc := 11) t96_11 (by decide) (zk1 (w3s.k fk_zMc_7)) (w3s.p rfl fv_zMc_7_12) ?_
      refine zs_iload_n (pc := 14) t96_14 rfl ?_
      have w6 := ib17 hI 3
      refine zs_iald (pc := 15) t96_15 (j := 3) (by decide) (zk1 (w3s.k fk_zMc_17)) li3 (zk2 (w3s.k fk_zMc_17) (by decide)) ((zIo (by decide)).trans ((zIo (by decide)).trans ((w3F 17 3 rfl).trans rfl))) ?_
      refine zs_goto (pc := 16) t96_16 ?_
      refine zs_iret (pc := 20) t96_20 mr96 rfl ?_
      show zGo X l 4 0 0 95 35 [(0, .ref 6), (1, .int a)] [.int (zI M 17 3)] (zsI (zsI w3M 164 0 (0 : Int32)) 325 0 (0 : Int32)) _
      refine zs_istore_n (pc := 35) t95_35 (ls' := [(2, .int (zI M 17 3)), (0, .ref 6), (1, .int a)]) (zml mf95 (by decide)) rfl ?_
      refine zs_aload_n (pc := 36) t95_36 rfl ?_
      refine zs_get (pc := 37) t95_37 (by decide) (zk1 (w3s.k fk_zMc_6)) (w3s.p rfl fv_zMc_6_0) ?_
      refine zs_iconst (pc := 40) t95_40 (v := 3) (by decide) ?_
      refine zs_iload_n (pc := 41) t95_41 rfl ?_
      refine zs_invV (pc := 42) (k := 7) (as' := [.int (3 : Int32), .int a]) (st := []) t95_42 mf56 rfl rfl (Or.inl ⟨by decide, (zk1 (w3s.k fk_zMc_7))⟩) ⟨by decide, by decide, Nat.le_of_ble_eq_true rfl, Nat.le_of_ble_eq_true rfl⟩ (zs_in (by decide) mf56 (Nat.le_of_ble_eq_true rfl) ?_) (fun _ _ q => q)
      show zGo X l 0 0 0 56 0 [(0, .ref 7), (1, .int (3 : Int32)), (2, .int a)] [] (zsI (zsI w3M 164 0 (0 : Int32)) 325 0 (0 : Int32)) _
      refine zs_iload_n (pc := 0) t56_0 rfl ?_
      refine zs_if_ltF (pc := 1) t56_1 li3 (by decide) ?_
      refine zs_iload_n (pc := 4) t56_4 rfl ?_
      refine zs_bipush (pc := 5) t56_5 (v := 9) (by decide) ?_
      refine zs_icmp_geF (pc := 7) t56_7 li3 li9 (by decide) ?_
      refine zs_aload_n (pc := 10) t56_10 rfl ?_
      refine zs_get (pc := 11) t56_11 (by decide) (zk1 (w3s.k fk_zMc_7)) (w3s.p rfl fv_zMc_7_12) ?_
      refine zs_iload_n (pc := 14) t56_14 rfl ?_
      refine zs_iload_n (pc := 15) t56_15 rfl ?_
      have w7 : zIv cLo cHi (zsI (zsI (zsI w3M 164 0 (0 : Int32)) 325 0 (0 : Int32)) 17 3 a) := zIv.put w5 (show (-300000) ≤ a.toInt ∧ a.toInt ≤ 300000 from ⟨by omega, by omega⟩)
      refine zs_iast (pc := 16) t56_16 (j := 3) (by decide) (zk1 (w3s.k fk_zMc_17)) li3 (zk2 (w3s.k fk_zMc_17) (by decide)) ?_
      refine zs_vret (pc := 17) t56_17 mr56 ?_
      show zGo X l 4 0 0 95 45 [(2, .int (zI M 17 3)), (0, .ref 6), (1, .int a)] [] (zsI (zsI (zsI w3M 164 0 (0 : Int32)) 325 0 (0 : Int32)) 17 3 a) _
      refine zs_iload_n (pc := 45) t95_45 rfl ?_
      exact zs_iret (pc := 46) t95_46 mr95 rfl (hQ _ _ w3s w7 (((((zFr.refl).trans (w3F.mono rfl)).put rfl).put rfl).put rfl) (zrg _).1 (zrg _).2)
theorem C86_6 {X : zX} {l : Launch} {M : zM} {Q : Option Value → zM → Prop} {a : Int32} (hs : zSk zMc M) (hI : zIv cLo cHi M) (hQ : ∀ (M' : zM) (v : Int32), zSk zMc M' → zIv cLo cHi M' → zFr [(6, 335, none)] M M' → (-2147483648) ≤ v.toInt → v.toInt ≤ 2147483647 → Q (some (.int v)) M') : zCall X l 5 0 0 86 [.ref 6, .int a] M Q := by
  have ga := zrg a
  refine zs_in (by decide) mf86 (Nat.le_of_ble_eq_true rfl) ?_
  show zGo X l 5 0 0 86 0 [(0, .ref 6), (1, .int a)] [] M _
  refine zs_aload_n (pc := 0) t86_0 rfl ?_
  refine zs_get (pc := 1) t86_1 (by decide) (zk1 (hs.k fk_zMc_6)) (hs.p rfl fv_zMc_6_4) ?_
  refine zs_iload_n (pc := 4) t86_4 rfl ?_
  refine zs_invV (pc := 5) (k := 157) (as' := [.int a]) (st := []) t86_5 mf87 rfl rfl (Or.inl ⟨by decide, (zk1 (hs.k fk_zMc_157))⟩) ⟨by decide, by decide, Nat.le_of_ble_eq_true rfl, Nat.le_of_ble_eq_true rfl⟩ (zs_in (by decide) mf87 (Nat.le_of_ble_eq_true rfl) ?_) (fun _ _ q => q)
  show zGo X l 1 0 0 87 0 [(0, .ref 157), (1, .int a)] [] M _
  refine zs_iload_n (pc := 0) t87_0 rfl ?_
  refine zs_iconst (pc := 1) t87_1 (v := 0) (by decide) ?_
  refine zs_bipush (pc := 2) t87_2 (v := 19) (by decide) ?_
  refine zs_invS (pc := 4) (as := [.int a, .int (0 : Int32), .int (19 : Int32)]) (st := []) t87_4 (by decide) mf39 rfl rfl ⟨by decide, by decide, Nat.le_of_ble_eq_true rfl, Nat.le_of_ble_eq_true rfl⟩ (zs_in (by decide) mf39 (Nat.le_of_ble_eq_true rfl) ?_) (fun _ _ q => q)
  show zGo X l 0 0 0 39 0 [(0, .int a), (1, .int (0 : Int32)), (2, .int (19 : Int32))] [] M _
  refine zs_iload_n (pc := 0) t39_0 rfl ?_
  refine zs_iload_n (pc := 1) t39_1 rfl ?_
  by_cases w1 : a.toInt < 0
  · refine zs_icmp_ltT (pc := 2) t39_2 rfl li0 (by omega) ?_
    refine zs_iconst (pc := 14) t39_14 (v := 0) (by decide) ?_
    refine zs_iret (pc := 15) t39_15 mr39 (by decide) ?_
    show zGo X l 1 0 0 87 7 [(0, .ref 157), (1, .int a)] [.int (0 : Int32)] M _
    refine zs_if_eqT (pc := 7) t87_7 li0 (by decide) ?_
    refine zs_iconst (pc := 19) t87_19 (v := -1) (by decide) ?_
    refine zs_iret (pc := 20) t87_20 mr87 (by decide) ?_
    show zGo X l 5 0 0 86 8 [(0, .ref 6), (1, .int a)] [.int (-1 : Int32)] M _
    refine zs_lsw (pc := 8) t86_8 (off := 118) lin1 rfl (pc2 := 126) rfl ?_
    refine zs_iconst (pc := 126) t86_126 (v := -1) (by decide) ?_
    exact zs_iret (pc := 127) t86_127 mr86 (by decide) (hQ _ _ hs hI (zFr.refl) (zrg _).1 (zrg _).2)
  · refine zs_icmp_ltF (pc := 2) t39_2 rfl li0 (by omega) ?_
    refine zs_iload_n (pc := 5) t39_5 rfl ?_
    refine zs_iload_n (pc := 6) t39_6 rfl ?_
    by_cases w2 : 19 < a.toInt
    · refine zs_icmp_gtT (pc := 7) t39_7 rfl li19 (by omega) ?_
      refine zs_iconst (pc := 14) t39_14 (v := 0) (by decide) ?_
      refine zs_iret (pc := 15) t39_15 mr39 (by decide) ?_
      show zGo X l 1 0 0 87 7 [(0, .ref 157), (1, .int a)] [.int (0 : Int32)] M _
      refine zs_if_eqT (pc := 7) t87_7 li0 (by decide) ?_
      refine zs_iconst (pc := 19) t87_19 (v := -1) (by decide) ?_
      refine zs_iret (pc := 20) t87_20 mr87 (by decide) ?_
      show zGo X l 5 0 0 86 8 [(0, .ref 6), (1, .int a)] [.int (-1 : Int32)] M _
      refine zs_lsw (pc := 8) t86_8 (off := 118) lin1 rfl (pc2 := 126) rfl ?_
      refine zs_iconst (pc := 126) t86_126 (v := -1) (by decide) ?_
      exact zs_iret (pc := 127) t86_127 mr86 (by decide) (hQ _ _ hs hI (zFr.refl) (zrg _).1 (zrg _).2)
    · refine zs_icmp_gtF (pc := 7) t39_7 rfl li19 (by omega) ?_
      refine zs_iconst (pc := 10) t39_10 (v := 1) (by decide) ?_
      refine zs_goto (pc := 11) t39_11 ?_
      refine zs_iret (pc := 15) t39_15 mr39 (by decide) ?_
      show zGo X l 1 0 0 87 7 [(0, .ref 157), (1, .int a)] [.int (1 : Int32)] M _
      refine zs_if_eqF (pc := 7) t87_7 li1 (by decide) ?_
      refine zs_aload_n (pc := 10) t87_10 rfl ?_
      refine zs_get (pc := 11) t87_11 (by decide) (zk1 (hs.k fk_zMc_157)) (hs.p rfl fv_zMc_157_1) ?_
      refine zs_iload_n (pc := 14) t87_14 rfl ?_
      obtain ⟨w3n, w3⟩ : ∃ n : Nat, a.toInt = (n : Int) := ⟨a.toInt.toNat, by omega⟩
      have w4 := ib159 hI w3n
      refine zs_iald (pc := 15) t87_15 (j := w3n) (by decide) (zk1 (hs.k fk_zMc_159)) w3 (zk2 (hs.k fk_zMc_159) (by omega)) rfl ?_
      refine zs_goto (pc := 16) t87_16 ?_
      refine zs_iret (pc := 20) t87_20 mr87 rfl ?_
      show zGo X l 5 0 0 86 8 [(0, .ref 6), (1, .int a)] [.int (zI M 159 w3n)] M _
      by_cases w5 : (zI M 159 w3n).toInt = 100
      · refine zs_lsw (pc := 8) t86_8 (off := 90) ((rfl : (zI M 159 w3n).toInt = (zI M 159 w3n).toInt).trans w5) rfl (pc2 := 98) rfl ?_
        refine zs_aload_n (pc := 98) t86_98 rfl ?_
        refine zs_aload_n (pc := 99) t86_99 rfl ?_
        refine zs_get (pc := 100) t86_100 (by decide) (zk1 (hs.k fk_zMc_6)) (hs.p rfl fv_zMc_6_4) ?_
        refine zs_iload_n (pc := 103) t86_103 rfl ?_
        refine zs_iconst (pc := 104) t86_104 (v := 0) (by decide) ?_
        refine zs_invV (pc := 105) (k := 157) (as' := [.int a, .int (0 : Int32)]) (st := [.ref 6]) t86_105 mf88 rfl rfl (Or.inl ⟨by decide, (zk1 (hs.k fk_zMc_157))⟩) ⟨by decide, by decide, Nat.le_of_ble_eq_true rfl, Nat.le_of_ble_eq_true rfl⟩ (zs_in (by decide) mf88 (Nat.le_of_ble_eq_true rfl) ?_) (fun _ _ q => q)
        show zGo X l 1 0 0 88 0 [(0, .ref 157), (1, .int a), (2, .int (0 : Int32))] [] M _
        refine zs_iload_n (pc := 0) t88_0 rfl ?_
        refine zs_iconst (pc := 1) t88_1 (v := 0) (by decide) ?_
        refine zs_bipush (pc := 2) t88_2 (v := 19) (by decide) ?_
        refine zs_invS (pc := 4) (as := [.int a, .int (0 : Int32), .int (19 : Int32)]) (st := []) t88_4 (by decide) mf39 rfl rfl ⟨by decide, by decide, Nat.le_of_ble_eq_true rfl, Nat.le_of_ble_eq_true rfl⟩ (zs_in (by decide) mf39 (Nat.le_of_ble_eq_true rfl) ?_) (fun _ _ q => q)
        show zGo X l 0 0 0 39 0 [(0, .int a), (1, .int (0 : Int32)), (2, .int (19 : Int32))] [] M _
        refine zs_iload_n (pc := 0) t39_0 rfl ?_
        refine zs_iload_n (pc := 1) t39_1 rfl ?_
        refine zs_icmp_ltF (pc := 2) t39_2 rfl li0 (by omega) ?_
        refine zs_iload_n (pc := 5) t39_5 rfl ?_
        refine zs_iload_n (pc := 6) t39_6 rfl ?_
        refine zs_icmp_gtF (pc := 7) t39_7 rfl li19 (by omega) ?_
        refine zs_iconst (pc := 10) t39_10 (v := 1) (by decide) ?_
        refine zs_goto (pc := 11) t39_11 ?_
        refine zs_iret (pc := 15) t39_15 mr39 (by decide) ?_
        show zGo X l 1 0 0 88 7 [(0, .ref 157), (1, .int a), (2, .int (0 : Int32))] [.int (1 : Int32)] M _
        refine zs_if_eqF (pc := 7) t88_7 li1 (by decide) ?_
        refine zs_iload_n (pc := 10) t88_10 rfl ?_
        refine zs_iconst (pc := 11) t88_11 (v := 0) (by decide) ?_
        refine zs_iconst (pc := 12) t88_12 (v := 3) (by decide) ?_
        refine zs_invS (pc := 13) (as := [.int (0 : Int32), .int (0 : Int32), .int (3 : Int32)]) (st := []) t88_13 (by decide) mf39 rfl rfl ⟨by decide, by decide, Nat.le_of_ble_eq_true rfl, Nat.le_of_ble_eq_true rfl⟩ (zs_in (by decide) mf39 (Nat.le_of_ble_eq_true rfl) ?_) (fun _ _ q => q)
        show zGo X l 0 0 0 39 0 [(0, .int (0 : Int32)), (1, .int (0 : Int32)), (2, .int (3 : Int32))] [] M _
        refine zs_iload_n (pc := 0) t39_0 rfl ?_
        refine zs_iload_n (pc := 1) t39_1 rfl ?_
        refine zs_icmp_ltF (pc := 2) t39_2 li0 li0 (by decide) ?_
        refine zs_iload_n (pc := 5) t39_5 rfl ?_
        refine zs_iload_n (pc := 6) t39_6 rfl ?_
        refine zs_icmp_gtF (pc := 7) t39_7 li0 li3 (by decide) ?_
        refine zs_iconst (pc := 10) t39_10 (v := 1) (by decide) ?_
        refine zs_goto (pc := 11) t39_11 ?_
        refine zs_iret (pc := 15) t39_15 mr39 (by decide) ?_
        show zGo X l 1 0 0 88 16 [(0, .ref 157), (1, .int a), (2, .int (0 : Int32))] [.int (1 : Int32)] M _
        refine zs_if_eqF (pc := 16) t88_16 li1 (by decide) ?_
        refine zs_aload_n (pc := 19) t88_19 rfl ?_
        refine zs_get (pc := 20) t88_20 (by decide) (zk1 (hs.k fk_zMc_157)) (hs.p rfl fv_zMc_157_2) ?_
        refine zs_iload_n (pc := 23) t88_23 rfl ?_
        refine zs_iconst (pc := 24) t88_24 (v := 4) (by decide) ?_
        obtain ⟨w6v, w6⟩ : ∃ v, a * (4 : Int32) = v := ⟨_, rfl⟩
        have w6g : w6v.toInt = a.toInt * 4 := by rw [← w6]; exact zmulc rfl li4 (by omega) (by omega)
        refine zs_imul (pc := 25) t88_25 (c := w6v) w6 ?_
        refine zs_iload_n (pc := 26) t88_26 rfl ?_
        obtain ⟨w7v, w7e, w7⟩ := ziadd (a := w6v) (b := (0 : Int32)) rfl li0 (by omega) (by omega)
        refine zs_iadd (pc := 27) t88_27 (c := w7v) w7e ?_
        obtain ⟨w8n, w8⟩ : ∃ n : Nat, w7v.toInt = (n : Int) := ⟨w7v.toInt.toNat, by omega⟩
        have w9 := ib160 hI w8n
        refine zs_iald (pc := 28) t88_28 (j := w8n) (by decide) (zk1 (hs.k fk_zMc_160)) w8 (zk2 (hs.k fk_zMc_160) (by omega)) rfl ?_
        refine zs_goto (pc := 29) t88_29 ?_
        refine zs_iret (pc := 33) t88_33 mr88 rfl ?_
        show zGo X l 5 0 0 86 108 [(0, .ref 6), (1, .int a)] [.int (zI M 160 w8n), .ref 6] M _
        refine zs_invV (pc := 108) (k := 6) (as' := [.int (zI M 160 w8n)]) (st := []) t86_108 mf94 rfl rfl (Or.inl ⟨by decide, (zk1 (hs.k fk_zMc_6))⟩) ⟨by decide, by decide, Nat.le_of_ble_eq_true rfl, Nat.le_of_ble_eq_true rfl⟩ (C94_6 hs hI ?_) (fun _ _ q => q)
        intro w10M w10v w10s w10I w10F w10a w10b
        show zGo X l 5 0 0 86 111 [(0, .ref 6), (1, .int a)] [.int w10v] w10M _
        exact zs_iret (pc := 111) t86_111 mr86 rfl (hQ _ _ w10s w10I ((zFr.refl).trans (w10F.mono rfl)) (zrg _).1 (zrg _).2)
      by_cases w11 : (zI M 159 w3n).toInt = 104
      · refine zs_lsw (pc := 8) t86_8 (off := 44) ((rfl : (zI M 159 w3n).toInt = (zI M 159 w3n).toInt).trans w11) rfl (pc2 := 52) rfl ?_
        refine zs_aload_n (pc := 52) t86_52 rfl ?_
        refine zs_aload_n (pc := 53) t86_53 rfl ?_
        refine zs_get (pc := 54) t86_54 (by decide) (zk1 (hs.k fk_zMc_6)) (hs.p rfl fv_zMc_6_4) ?_
        refine zs_iload_n (pc := 57) t86_57 rfl ?_
        refine zs_iconst (pc := 58) t86_58 (v := 0) (by decide) ?_
        refine zs_invV (pc := 59) (k := 157) (as' := [.int a, .int (0 : Int32)]) (st := [.ref 6]) t86_59 mf88 rfl rfl (Or.inl ⟨by decide, (zk1 (hs.k fk_zMc_157))⟩) ⟨by decide, by decide, Nat.le_of_ble_eq_true rfl, Nat.le_of_ble_eq_true rfl⟩ (zs_in (by decide) mf88 (Nat.le_of_ble_eq_true rfl) ?_) (fun _ _ q => q)
        show zGo X l 1 0 0 88 0 [(0, .ref 157), (1, .int a), (2, .int (0 : Int32))] [] M _
        refine zs_iload_n (pc := 0) t88_0 rfl ?_
        refine zs_iconst (pc := 1) t88_1 (v := 0) (by decide) ?_
        refine zs_bipush (pc := 2) t88_2 (v := 19) (by decide) ?_
        refine zs_invS (pc := 4) (as := [.int a, .int (0 : Int32), .int (19 : Int32)]) (st := []) t88_4 (by decide) mf39 rfl rfl ⟨by decide, by decide, Nat.le_of_ble_eq_true rfl, Nat.le_of_ble_eq_true rfl⟩ (zs_in (by decide) mf39 (Nat.le_of_ble_eq_true rfl) ?_) (fun _ _ q => q)
        show zGo X l 0 0 0 39 0 [(0, .int a), (1, .int (0 : Int32)), (2, .int (19 : Int32))] [] M _
        refine zs_iload_n (pc := 0) t39_0 rfl ?_
        refine zs_iload_n (pc := 1) t39_1 rfl ?_
        refine zs_icmp_ltF (pc := 2) t39_2 rfl li0 (by omega) ?_
        refine zs_iload_n (pc := 5) t39_5 rfl ?_
        refine zs_iload_n (pc := 6) t39_6 rfl ?_
        refine zs_icmp_gtF (pc := 7) t39_7 rfl li19 (by omega) ?_
        refine zs_iconst (pc := 10) t39_10 (v := 1) (by decide) ?_
        refine zs_goto (pc := 11) t39_11 ?_
        refine zs_iret (pc := 15) t39_15 mr39 (by decide) ?_
        show zGo X l 1 0 0 88 7 [(0, .ref 157), (1, .int a), (2, .int (0 : Int32))] [.int (1 : Int32)] M _
        refine zs_if_eqF (pc := 7) t88_7 li1 (by decide) ?_
        refine zs_iload_n (pc := 10) t88_10 rfl ?_
        refine zs_iconst (pc := 11) t88_11 (v := 0) (by decide) ?_
        refine zs_iconst (pc := 12) t88_12 (v := 3) (by decide) ?_
        refine zs_invS (pc := 13) (as := [.int (0 : Int32), .int (0 : Int32), .int (3 : Int32)]) (st := []) t88_13 (by decide) mf39 rfl rfl ⟨by decide, by decide, Nat.le_of_ble_eq_true rfl, Nat.le_of_ble_eq_true rfl⟩ (zs_in (by decide) mf39 (Nat.le_of_ble_eq_true rfl) ?_) (fun _ _ q => q)
        show zGo X l 0 0 0 39 0 [(0, .int (0 : Int32)), (1, .int (0 : Int32)), (2, .int (3 : Int32))] [] M _
        refine zs_iload_n (pc := 0) t39_0 rfl ?_
        refine zs_iload_n (pc := 1) t39_1 rfl ?_
        refine zs_icmp_ltF (pc := 2) t39_2 li0 li0 (by decide) ?_
        refine zs_iload_n (pc := 5) t39_5 rfl ?_
        refine zs_iload_n (pc := 6) t39_6 rfl ?_
        refine zs_icmp_gtF (pc := 7) t39_7 li0 li3 (by decide) ?_
        refine zs_iconst (pc := 10) t39_10 (v := 1) (by decide) ?_
        refine zs_goto (pc := 11) t39_11 ?_
        refine zs_iret (pc := 15) t39_15 mr39 (by decide) ?_
        show zGo X l 1 0 0 88 16 [(0, .ref 157), (1, .int a), (2, .int (0 : Int32))] [.int (1 : Int32)] M _
        refine zs_if_eqF (pc := 16) t88_16 li1 (by decide) ?_
        refine zs_aload_n (pc := 19) t88_19 rfl ?_
        refine zs_get (pc := 20) t88_20 (by decide) (zk1 (hs.k fk_zMc_157)) (hs.p rfl fv_zMc_157_2) ?_
        refine zs_iload_n (pc := 23) t88_23 rfl ?_
        refine zs_iconst (pc := 24) t88_24 (v := 4) (by decide) ?_
        obtain ⟨w12v, w12⟩ : ∃ v, a * (4 : Int32) = v := ⟨_, rfl⟩
        have w12g : w12v.toInt = a.toInt * 4 := by rw [← w12]; exact zmulc rfl li4 (by omega) (by omega)
        refine zs_imul (pc := 25) t88_25 (c := w12v) w12 ?_
        refine zs_iload_n (pc := 26) t88_26 rfl ?_
        obtain ⟨w13v, w13e, w13⟩ := ziadd (a := w12v) (b := (0 : Int32)) rfl li0 (by omega) (by omega)
        refine zs_iadd (pc := 27) t88_27 (c := w13v) w13e ?_
        obtain ⟨w14n, w14⟩ : ∃ n : Nat, w13v.toInt = (n : Int) := ⟨w13v.toInt.toNat, by omega⟩
        have w15 := ib160 hI w14n
        refine zs_iald (pc := 28) t88_28 (j := w14n) (by decide) (zk1 (hs.k fk_zMc_160)) w14 (zk2 (hs.k fk_zMc_160) (by omega)) rfl ?_
        refine zs_goto (pc := 29) t88_29 ?_
        refine zs_iret (pc := 33) t88_33 mr88 rfl ?_
        show zGo X l 5 0 0 86 62 [(0, .ref 6), (1, .int a)] [.int (zI M 160 w14n), .ref 6] M _
        refine zs_aload_n (pc := 62) t86_62 rfl ?_
        refine zs_get (pc := 63) t86_63 (by decide) (zk1 (hs.k fk_zMc_6)) (hs.p rfl fv_zMc_6_4) ?_
        refine zs_iload_n (pc := 66) t86_66 rfl ?_
        refine zs_iconst (pc := 67) t86_67 (v := 1) (by decide) ?_
        refine zs_invV (pc := 68) (k := 157) (as' := [.int a, .int (1 : Int32)]) (st := [.int (zI M 160 w14n), .ref 6]) t86_68 mf88 rfl rfl (Or.inl ⟨by decide, (zk1 (hs.k fk_zMc_157))⟩) ⟨by decide, by decide, Nat.le_of_ble_eq_true rfl, Nat.le_of_ble_eq_true rfl⟩ (zs_in (by decide) mf88 (Nat.le_of_ble_eq_true rfl) ?_) (fun _ _ q => q)
        show zGo X l 1 0 0 88 0 [(0, .ref 157), (1, .int a), (2, .int (1 : Int32))] [] M _
        refine zs_iload_n (pc := 0) t88_0 rfl ?_
        refine zs_iconst (pc := 1) t88_1 (v := 0) (by decide) ?_
        refine zs_bipush (pc := 2) t88_2 (v := 19) (by decide) ?_
        refine zs_invS (pc := 4) (as := [.int a, .int (0 : Int32), .int (19 : Int32)]) (st := []) t88_4 (by decide) mf39 rfl rfl ⟨by decide, by decide, Nat.le_of_ble_eq_true rfl, Nat.le_of_ble_eq_true rfl⟩ (zs_in (by decide) mf39 (Nat.le_of_ble_eq_true rfl) ?_) (fun _ _ q => q)
        show zGo X l 0 0 0 39 0 [(0, .int a), (1, .int (0 : Int32)), (2, .int (19 : Int32))] [] M _
        refine zs_iload_n (pc := 0) t39_0 rfl ?_
        refine zs_iload_n (pc := 1) t39_1 rfl ?_
        refine zs_icmp_ltF (pc := 2) t39_2 rfl li0 (by omega) ?_
        refine zs_iload_n (pc := 5) t39_5 rfl ?_
        refine zs_iload_n (pc := 6) t39_6 rfl ?_
        refine zs_icmp_gtF (pc := 7) t39_7 rfl li19 (by omega) ?_
        refine zs_iconst (pc := 10) t39_10 (v := 1) (by decide) ?_
        refine zs_goto (pc := 11) t39_11 ?_
        refine zs_iret (pc := 15) t39_15 mr39 (by decide) ?_
        show zGo X l 1 0 0 88 7 [(0, .ref 157), (1, .int a), (2, .int (1 : Int32))] [.int (1 : Int32)] M _
        refine zs_if_eqF (pc := 7) t88_7 li1 (by decide) ?_
        refine zs_iload_n (pc := 10) t88_10 rfl ?_
        refine zs_iconst (pc := 11) t88_11 (v := 0) (by decide) ?_
        refine zs_iconst (pc := 12) t88_12 (v := 3) (by decide) ?_
        refine zs_invS (pc := 13) (as := [.int (1 : Int32), .int (0 : Int32), .int (3 : Int32)]) (st := []) t88_13 (by decide) mf39 rfl rfl ⟨by decide, by decide, Nat.le_of_ble_eq_true rfl, Nat.le_of_ble_eq_true rfl⟩ (zs_in (by decide) mf39 (Nat.le_of_ble_eq_true rfl) ?_) (fun _ _ q => q)
        show zGo X l 0 0 0 39 0 [(0, .int (1 : Int32)), (1, .int (0 : Int32)), (2, .int (3 : Int32))] [] M _
        refine zs_iload_n (pc := 0) t39_0 rfl ?_
        refine zs_iload_n (pc := 1) t39_1 rfl ?_
        refine zs_icmp_ltF (pc := 2) t39_2 li1 li0 (by decide) ?_
        refine zs_iload_n (pc := 5) t39_5 rfl ?_
        refine zs_iload_n (pc := 6) t39_6 rfl ?_
        refine zs_icmp_gtF (pc := 7) t39_7 li1 li3 (by decide) ?_
        refine zs_iconst (pc := 10) t39_10 (v := 1) (by decide) ?_
        refine zs_goto (pc := 11) t39_11 ?_
        refine zs_iret (pc := 15) t39_15 mr39 (by decide) ?_
        show zGo X l 1 0 0 88 16 [(0, .ref 157), (1, .int a), (2, .int (1 : Int32))] [.int (1 : Int32)] M _
        refine zs_if_eqF (pc := 16) t88_16 li1 (by decide) ?_
        refine zs_aload_n (pc := 19) t88_19 rfl ?_
        refine zs_get (pc := 20) t88_20 (by decide) (zk1 (hs.k fk_zMc_157)) (hs.p rfl fv_zMc_157_2) ?_
        refine zs_iload_n (pc := 23) t88_23 rfl ?_
        refine zs_iconst (pc := 24) t88_24 (v := 4) (by decide) ?_
        obtain ⟨w16v, w16⟩ : ∃ v, a * (4 : Int32) = v := ⟨_, rfl⟩
        have w16g : w16v.toInt = a.toInt * 4 := by rw [← w16]; exact zmulc rfl li4 (by omega) (by omega)
        refine zs_imul (pc := 25) t88_25 (c := w16v) w16 ?_
        refine zs_iload_n (pc := 26) t88_26 rfl ?_
        obtain ⟨w17v, w17e, w17⟩ := ziadd (a := w16v) (b := (1 : Int32)) rfl li1 (by omega) (by omega)
        refine zs_iadd (pc := 27) t88_27 (c := w17v) w17e ?_
        obtain ⟨w18n, w18⟩ : ∃ n : Nat, w17v.toInt = (n : Int) := ⟨w17v.toInt.toNat, by omega⟩
        have w19 := ib160 hI w18n
        refine zs_iald (pc := 28) t88_28 (j := w18n) (by decide) (zk1 (hs.k fk_zMc_160)) w18 (zk2 (hs.k fk_zMc_160) (by omega)) rfl ?_
        refine zs_goto (pc := 29) t88_29 ?_
        refine zs_iret (pc := 33) t88_33 mr88 rfl ?_
        show zGo X l 5 0 0 86 71 [(0, .ref 6), (1, .int a)] [.int (zI M 160 w18n), .int (zI M 160 w14n), .ref 6] M _
        refine zs_aload_n (pc := 71) t86_71 rfl ?_
        refine zs_get (pc := 72) t86_72 (by decide) (zk1 (hs.k fk_zMc_6)) (hs.p rfl fv_zMc_6_4) ?_
        refine zs_iload_n (pc := 75) t86_75 rfl ?_
        refine zs_iconst (pc := 76) t86_76 (v := 2) (by decide) ?_
        refine zs_invV (pc := 77) (k := 157) (as' := [.int a, .int (2 : Int32)]) (st := [.int (zI M 160 w18n), .int (zI M 160 w14n), .ref 6]) t86_77 mf88 rfl rfl (Or.inl ⟨by decide, (zk1 (hs.k fk_zMc_157))⟩) ⟨by decide, by decide, Nat.le_of_ble_eq_true rfl, Nat.le_of_ble_eq_true rfl⟩ (zs_in (by decide) mf88 (Nat.le_of_ble_eq_true rfl) ?_) (fun _ _ q => q)
        show zGo X l 1 0 0 88 0 [(0, .ref 157), (1, .int a), (2, .int (2 : Int32))] [] M _
        refine zs_iload_n (pc := 0) t88_0 rfl ?_
        refine zs_iconst (pc := 1) t88_1 (v := 0) (by decide) ?_
        refine zs_bipush (pc := 2) t88_2 (v := 19) (by decide) ?_
        refine zs_invS (pc := 4) (as := [.int a, .int (0 : Int32), .int (19 : Int32)]) (st := []) t88_4 (by decide) mf39 rfl rfl ⟨by decide, by decide, Nat.le_of_ble_eq_true rfl, Nat.le_of_ble_eq_true rfl⟩ (zs_in (by decide) mf39 (Nat.le_of_ble_eq_true rfl) ?_) (fun _ _ q => q)
        show zGo X l 0 0 0 39 0 [(0, .int a), (1, .int (0 : Int32)), (2, .int (19 : Int32))] [] M _
        refine zs_iload_n (pc := 0) t39_0 rfl ?_
        refine zs_iload_n (pc := 1) t39_1 rfl ?_
        refine zs_icmp_ltF (pc := 2) t39_2 rfl li0 (by omega) ?_
        refine zs_iload_n (pc := 5) t39_5 rfl ?_
        refine zs_iload_n (pc := 6) t39_6 rfl ?_
        refine zs_icmp_gtF (pc := 7) t39_7 rfl li19 (by omega) ?_
        refine zs_iconst (pc := 10) t39_10 (v := 1) (by decide) ?_
        refine zs_goto (pc := 11) t39_11 ?_
        refine zs_iret (pc := 15) t39_15 mr39 (by decide) ?_
        show zGo X l 1 0 0 88 7 [(0, .ref 157), (1, .int a), (2, .int (2 : Int32))] [.int (1 : Int32)] M _
        refine zs_if_eqF (pc := 7) t88_7 li1 (by decide) ?_
        refine zs_iload_n (pc := 10) t88_10 rfl ?_
        refine zs_iconst (pc := 11) t88_11 (v := 0) (by decide) ?_
        refine zs_iconst (pc := 12) t88_12 (v := 3) (by decide) ?_
        refine zs_invS (pc := 13) (as := [.int (2 : Int32), .int (0 : Int32), .int (3 : Int32)]) (st := []) t88_13 (by decide) mf39 rfl rfl ⟨by decide, by decide, Nat.le_of_ble_eq_true rfl, Nat.le_of_ble_eq_true rfl⟩ (zs_in (by decide) mf39 (Nat.le_of_ble_eq_true rfl) ?_) (fun _ _ q => q)
        show zGo X l 0 0 0 39 0 [(0, .int (2 : Int32)), (1, .int (0 : Int32)), (2, .int (3 : Int32))] [] M _
        refine zs_iload_n (pc := 0) t39_0 rfl ?_
        refine zs_iload_n (pc := 1) t39_1 rfl ?_
        refine zs_icmp_ltF (pc := 2) t39_2 li2 li0 (by decide) ?_
        refine zs_iload_n (pc := 5) t39_5 rfl ?_
        refine zs_iload_n (pc := 6) t39_6 rfl ?_
        refine zs_icmp_gtF (pc := 7) t39_7 li2 li3 (by decide) ?_
        refine zs_iconst (pc := 10) t39_10 (v := 1) (by decide) ?_
        refine zs_goto (pc := 11) t39_11 ?_
        refine zs_iret (pc := 15) t39_15 mr39 (by decide) ?_
        show zGo X l 1 0 0 88 16 [(0, .ref 157), (1, .int a), (2, .int (2 : Int32))] [.int (1 : Int32)] M _
        refine zs_if_eqF (pc := 16) t88_16 li1 (by decide) ?_
        refine zs_aload_n (pc := 19) t88_19 rfl ?_
        refine zs_get (pc := 20) t88_20 (by decide) (zk1 (hs.k fk_zMc_157)) (hs.p rfl fv_zMc_157_2) ?_
        refine zs_iload_n (pc := 23) t88_23 rfl ?_
        refine zs_iconst (pc := 24) t88_24 (v := 4) (by decide) ?_
        obtain ⟨w20v, w20⟩ : ∃ v, a * (4 : Int32) = v := ⟨_, rfl⟩
        have w20g : w20v.toInt = a.toInt * 4 := by rw [← w20]; exact zmulc rfl li4 (by omega) (by omega)
        refine zs_imul (pc := 25) t88_25 (c := w20v) w20 ?_
        refine zs_iload_n (pc := 26) t88_26 rfl ?_
        obtain ⟨w21v, w21e, w21⟩ := ziadd (a := w20v) (b := (2 : Int32)) rfl li2 (by omega) (by omega)
        refine zs_iadd (pc := 27) t88_27 (c := w21v) w21e ?_
        obtain ⟨w22n, w22⟩ : ∃ n : Nat, w21v.toInt = (n : Int) := ⟨w21v.toInt.toNat, by omega⟩
        have w23 := ib160 hI w22n
        refine zs_iald (pc := 28) t88_28 (j := w22n) (by decide) (zk1 (hs.k fk_zMc_160)) w22 (zk2 (hs.k fk_zMc_160) (by omega)) rfl ?_
        refine zs_goto (pc := 29) t88_29 ?_
        refine zs_iret (pc := 33) t88_33 mr88 rfl ?_
        show zGo X l 5 0 0 86 80 [(0, .ref 6), (1, .int a)] [.int (zI M 160 w22n), .int (zI M 160 w18n), .int (zI M 160 w14n), .ref 6] M _
        refine zs_invV (pc := 80) (k := 6) (as' := [.int (zI M 160 w14n), .int (zI M 160 w18n), .int (zI M 160 w22n)]) (st := []) t86_80 mf89 rfl rfl (Or.inl ⟨by decide, (zk1 (hs.k fk_zMc_6))⟩) ⟨by decide, by decide, Nat.le_of_ble_eq_true rfl, Nat.le_of_ble_eq_true rfl⟩ (C89_6 hs hI ?_) (fun _ _ q => q)
        intro w24M w24v w24s w24I w24F w24a w24b
        show zGo X l 5 0 0 86 83 [(0, .ref 6), (1, .int a)] [.int w24v] w24M _
        exact zs_iret (pc := 83) t86_83 mr86 rfl (hQ _ _ w24s w24I ((zFr.refl).trans (w24F.mono rfl)) (zrg _).1 (zrg _).2)
      by_cases w25 : (zI M 159 w3n).toInt = 110
      · refine zs_lsw (pc := 8) t86_8 (off := 104) ((rfl : (zI M 159 w3n).toInt = (zI M 159 w3n).toInt).trans w25) rfl (pc2 := 112) rfl ?_
        refine zs_aload_n (pc := 112) t86_112 rfl ?_
        refine zs_aload_n (pc := 113) t86_113 rfl ?_
        refine zs_get (pc := 114) t86_114 (by decide) (zk1 (hs.k fk_zMc_6)) (hs.p rfl fv_zMc_6_4) ?_
        refine zs_iload_n (pc := 117) t86_117 rfl ?_
        refine zs_iconst (pc := 118) t86_118 (v := 0) (by decide) ?_
        refine zs_invV (pc := 119) (k := 157) (as' := [.int a, .int (0 : Int32)]) (st := [.ref 6]) t86_119 mf88 rfl rfl (Or.inl ⟨by decide, (zk1 (hs.k fk_zMc_157))⟩) ⟨by decide, by decide, Nat.le_of_ble_eq_true rfl, Nat.le_of_ble_eq_true rfl⟩ (zs_in (by decide) mf88 (Nat.le_of_ble_eq_true rfl) ?_) (fun _ _ q => q)
        show zGo X l 1 0 0 88 0 [(0, .ref 157), (1, .int a), (2, .int (0 : Int32))] [] M _
        refine zs_iload_n (pc := 0) t88_0 rfl ?_
        refine zs_iconst (pc := 1) t88_1 (v := 0) (by decide) ?_
        refine zs_bipush (pc := 2) t88_2 (v := 19) (by decide) ?_
        refine zs_invS (pc := 4) (as := [.int a, .int (0 : Int32), .int (19 : Int32)]) (st := []) t88_4 (by decide) mf39 rfl rfl ⟨by decide, by decide, Nat.le_of_ble_eq_true rfl, Nat.le_of_ble_eq_true rfl⟩ (zs_in (by decide) mf39 (Nat.le_of_ble_eq_true rfl) ?_) (fun _ _ q => q)
        show zGo X l 0 0 0 39 0 [(0, .int a), (1, .int (0 : Int32)), (2, .int (19 : Int32))] [] M _
        refine zs_iload_n (pc := 0) t39_0 rfl ?_
        refine zs_iload_n (pc := 1) t39_1 rfl ?_
        refine zs_icmp_ltF (pc := 2) t39_2 rfl li0 (by omega) ?_
        refine zs_iload_n (pc := 5) t39_5 rfl ?_
        refine zs_iload_n (pc := 6) t39_6 rfl ?_
        refine zs_icmp_gtF (pc := 7) t39_7 rfl li19 (by omega) ?_
        refine zs_iconst (pc := 10) t39_10 (v := 1) (by decide) ?_
        refine zs_goto (pc := 11) t39_11 ?_
        refine zs_iret (pc := 15) t39_15 mr39 (by decide) ?_
        show zGo X l 1 0 0 88 7 [(0, .ref 157), (1, .int a), (2, .int (0 : Int32))] [.int (1 : Int32)] M _
        refine zs_if_eqF (pc := 7) t88_7 li1 (by decide) ?_
        refine zs_iload_n (pc := 10) t88_10 rfl ?_
        refine zs_iconst (pc := 11) t88_11 (v := 0) (by decide) ?_
        refine zs_iconst (pc := 12) t88_12 (v := 3) (by decide) ?_
        refine zs_invS (pc := 13) (as := [.int (0 : Int32), .int (0 : Int32), .int (3 : Int32)]) (st := []) t88_13 (by decide) mf39 rfl rfl ⟨by decide, by decide, Nat.le_of_ble_eq_true rfl, Nat.le_of_ble_eq_true rfl⟩ (zs_in (by decide) mf39 (Nat.le_of_ble_eq_true rfl) ?_) (fun _ _ q => q)
        show zGo X l 0 0 0 39 0 [(0, .int (0 : Int32)), (1, .int (0 : Int32)), (2, .int (3 : Int32))] [] M _
        refine zs_iload_n (pc := 0) t39_0 rfl ?_
        refine zs_iload_n (pc := 1) t39_1 rfl ?_
        refine zs_icmp_ltF (pc := 2) t39_2 li0 li0 (by decide) ?_
        refine zs_iload_n (pc := 5) t39_5 rfl ?_
        refine zs_iload_n (pc := 6) t39_6 rfl ?_
        refine zs_icmp_gtF (pc := 7) t39_7 li0 li3 (by decide) ?_
        refine zs_iconst (pc := 10) t39_10 (v := 1) (by decide) ?_
        refine zs_goto (pc := 11) t39_11 ?_
        refine zs_iret (pc := 15) t39_15 mr39 (by decide) ?_
        show zGo X l 1 0 0 88 16 [(0, .ref 157), (1, .int a), (2, .int (0 : Int32))] [.int (1 : Int32)] M _
        refine zs_if_eqF (pc := 16) t88_16 li1 (by decide) ?_
        refine zs_aload_n (pc := 19) t88_19 rfl ?_
        refine zs_get (pc := 20) t88_20 (by decide) (zk1 (hs.k fk_zMc_157)) (hs.p rfl fv_zMc_157_2) ?_
        refine zs_iload_n (pc := 23) t88_23 rfl ?_
        refine zs_iconst (pc := 24) t88_24 (v := 4) (by decide) ?_
        obtain ⟨w26v, w26⟩ : ∃ v, a * (4 : Int32) = v := ⟨_, rfl⟩
        have w26g : w26v.toInt = a.toInt * 4 := by rw [← w26]; exact zmulc rfl li4 (by omega) (by omega)
        refine zs_imul (pc := 25) t88_25 (c := w26v) w26 ?_
        refine zs_iload_n (pc := 26) t88_26 rfl ?_
        obtain ⟨w27v, w27e, w27⟩ := ziadd (a := w26v) (b := (0 : Int32)) rfl li0 (by omega) (by omega)
        refine zs_iadd (pc := 27) t88_27 (c := w27v) w27e ?_
        obtain ⟨w28n, w28⟩ : ∃ n : Nat, w27v.toInt = (n : Int) := ⟨w27v.toInt.toNat, by omega⟩
        have w29 := ib160 hI w28n
        refine zs_iald (pc := 28) t88_28 (j := w28n) (by decide) (zk1 (hs.k fk_zMc_160)) w28 (zk2 (hs.k fk_zMc_160) (by omega)) rfl ?_
        refine zs_goto (pc := 29) t88_29 ?_
        refine zs_iret (pc := 33) t88_33 mr88 rfl ?_
        show zGo X l 5 0 0 86 122 [(0, .ref 6), (1, .int a)] [.int (zI M 160 w28n), .ref 6] M _
        refine zs_invV (pc := 122) (k := 6) (as' := [.int (zI M 160 w28n)]) (st := []) t86_122 mf95 rfl rfl (Or.inl ⟨by decide, (zk1 (hs.k fk_zMc_6))⟩) ⟨by decide, by decide, Nat.le_of_ble_eq_true rfl, Nat.le_of_ble_eq_true rfl⟩ (C95_6 hs hI ?_) (fun _ _ q => q)
        intro w30M w30v w30s w30I w30F w30a w30b
        show zGo X l 5 0 0 86 125 [(0, .ref 6), (1, .int a)] [.int w30v] w30M _
        exact zs_iret (pc := 125) t86_125 mr86 rfl (hQ _ _ w30s w30I ((zFr.refl).trans (w30F.mono rfl)) (zrg _).1 (zrg _).2)
      by_cases w31 : (zI M 159 w3n).toInt = 120
      · refine zs_lsw (pc := 8) t86_8 (off := 76) ((rfl : (zI M 159 w3n).toInt = (zI M 159 w3n).toInt).trans w31) rfl (pc2 := 84) rfl ?_
        refine zs_aload_n (pc := 84) t86_84 rfl ?_
        refine zs_aload_n (pc := 85) t86_85 rfl ?_
        refine zs_get (pc := 86) t86_86 (by decide) (zk1 (hs.k fk_zMc_6)) (hs.p rfl fv_zMc_6_4) ?_
        refine zs_iload_n (pc := 89) t86_89 rfl ?_
        refine zs_iconst (pc := 90) t86_90 (v := 0) (by decide) ?_
        refine zs_invV (pc := 91) (k := 157) (as' := [.int a, .int (0 : Int32)]) (st := [.ref 6]) t86_91 mf88 rfl rfl (Or.inl ⟨by decide, (zk1 (hs.k fk_zMc_157))⟩) ⟨by decide, by decide, Nat.le_of_ble_eq_true rfl, Nat.le_of_ble_eq_true rfl⟩ (zs_in (by decide) mf88 (Nat.le_of_ble_eq_true rfl) ?_) (fun _ _ q => q)
        show zGo X l 1 0 0 88 0 [(0, .ref 157), (1, .int a), (2, .int (0 : Int32))] [] M _
        refine zs_iload_n (pc := 0) t88_0 rfl ?_
        refine zs_iconst (pc := 1) t88_1 (v := 0) (by decide) ?_
        refine zs_bipush (pc := 2) t88_2 (v := 19) (by decide) ?_
        refine zs_invS (pc := 4) (as := [.int a, .int (0 : Int32), .int (19 : Int32)]) (st := []) t88_4 (by decide) mf39 rfl rfl ⟨by decide, by decide, Nat.le_of_ble_eq_true rfl, Nat.le_of_ble_eq_true rfl⟩ (zs_in (by decide) mf39 (Nat.le_of_ble_eq_true rfl) ?_) (fun _ _ q => q)
        show zGo X l 0 0 0 39 0 [(0, .int a), (1, .int (0 : Int32)), (2, .int (19 : Int32))] [] M _
        refine zs_iload_n (pc := 0) t39_0 rfl ?_
        refine zs_iload_n (pc := 1) t39_1 rfl ?_
        refine zs_icmp_ltF (pc := 2) t39_2 rfl li0 (by omega) ?_
        refine zs_iload_n (pc := 5) t39_5 rfl ?_
        refine zs_iload_n (pc := 6) t39_6 rfl ?_
        refine zs_icmp_gtF (pc := 7) t39_7 rfl li19 (by omega) ?_
        refine zs_iconst (pc := 10) t39_10 (v := 1) (by decide) ?_
        refine zs_goto (pc := 11) t39_11 ?_
        refine zs_iret (pc := 15) t39_15 mr39 (by decide) ?_
        show zGo X l 1 0 0 88 7 [(0, .ref 157), (1, .int a), (2, .int (0 : Int32))] [.int (1 : Int32)] M _
        refine zs_if_eqF (pc := 7) t88_7 li1 (by decide) ?_
        refine zs_iload_n (pc := 10) t88_10 rfl ?_
        refine zs_iconst (pc := 11) t88_11 (v := 0) (by decide) ?_
        refine zs_iconst (pc := 12) t88_12 (v := 3) (by decide) ?_
        refine zs_invS (pc := 13) (as := [.int (0 : Int32), .int (0 : Int32), .int (3 : Int32)]) (st := []) t88_13 (by decide) mf39 rfl rfl ⟨by decide, by decide, Nat.le_of_ble_eq_true rfl, Nat.le_of_ble_eq_true rfl⟩ (zs_in (by decide) mf39 (Nat.le_of_ble_eq_true rfl) ?_) (fun _ _ q => q)
        show zGo X l 0 0 0 39 0 [(0, .int (0 : Int32)), (1, .int (0 : Int32)), (2, .int (3 : Int32))] [] M _
        refine zs_iload_n (pc := 0) t39_0 rfl ?_
        refine zs_iload_n (pc := 1) t39_1 rfl ?_
        refine zs_icmp_ltF (pc := 2) t39_2 li0 li0 (by decide) ?_
        refine zs_iload_n (pc := 5) t39_5 rfl ?_
        refine zs_iload_n (pc := 6) t39_6 rfl ?_
        refine zs_icmp_gtF (pc := 7) t39_7 li0 li3 (by decide) ?_
        refine zs_iconst (pc := 10) t39_10 (v := 1) (by decide) ?_
        refine zs_goto (pc := 11) t39_11 ?_
        refine zs_iret (pc := 15) t39_15 mr39 (by decide) ?_
        show zGo X l 1 0 0 88 16 [(0, .ref 157), (1, .int a), (2, .int (0 : Int32))] [.int (1 : Int32)] M _
        refine zs_if_eqF (pc := 16) t88_16 li1 (by decide) ?_
        refine zs_aload_n (pc := 19) t88_19 rfl ?_
        refine zs_get (pc := 20) t88_20 (by decide) (zk1 (hs.k fk_zMc_157)) (hs.p rfl fv_zMc_157_2) ?_
        refine zs_iload_n (pc := 23) t88_23 rfl ?_
        refine zs_iconst (pc := 24) t88_24 (v := 4) (by decide) ?_
        obtain ⟨w32v, w32⟩ : ∃ v, a * (4 : Int32) = v := ⟨_, rfl⟩
        have w32g : w32v.toInt = a.toInt * 4 := by rw [← w32]; exact zmulc rfl li4 (by omega) (by omega)
        refine zs_imul (pc := 25) t88_25 (c := w32v) w32 ?_
        refine zs_iload_n (pc := 26) t88_26 rfl ?_
        obtain ⟨w33v, w33e, w33⟩ := ziadd (a := w32v) (b := (0 : Int32)) rfl li0 (by omega) (by omega)
        refine zs_iadd (pc := 27) t88_27 (c := w33v) w33e ?_
        obtain ⟨w34n, w34⟩ : ∃ n : Nat, w33v.toInt = (n : Int) := ⟨w33v.toInt.toNat, by omega⟩
        have w35 := ib160 hI w34n
        refine zs_iald (pc := 28) t88_28 (j := w34n) (by decide) (zk1 (hs.k fk_zMc_160)) w34 (zk2 (hs.k fk_zMc_160) (by omega)) rfl ?_
        refine zs_goto (pc := 29) t88_29 ?_
        refine zs_iret (pc := 33) t88_33 mr88 rfl ?_
        show zGo X l 5 0 0 86 94 [(0, .ref 6), (1, .int a)] [.int (zI M 160 w34n), .ref 6] M _
        refine zs_invV (pc := 94) (k := 6) (as' := [.int (zI M 160 w34n)]) (st := []) t86_94 mf90 rfl rfl (Or.inl ⟨by decide, (zk1 (hs.k fk_zMc_6))⟩) ⟨by decide, by decide, Nat.le_of_ble_eq_true rfl, Nat.le_of_ble_eq_true rfl⟩ (C90_6 hs hI ?_) (fun _ _ q => q)
        intro w36M w36v w36s w36I w36F w36a w36b
        show zGo X l 5 0 0 86 97 [(0, .ref 6), (1, .int a)] [.int w36v] w36M _
        exact zs_iret (pc := 97) t86_97 mr86 rfl (hQ _ _ w36s w36I ((zFr.refl).trans (w36F.mono rfl)) (zrg _).1 (zrg _).2)
      refine zs_lsw (pc := 8) t86_8 (off := 118) rfl (by unfold zlsel; repeat (first | rfl | (rw [if_neg (by omega)]; unfold zlsel))) (pc2 := 126) rfl ?_
      refine zs_iconst (pc := 126) t86_126 (v := -1) (by decide) ?_
      exact zs_iret (pc := 127) t86_127 mr86 (by decide) (hQ _ _ hs hI (zFr.refl) (zrg _).1 (zrg _).2)
theorem C14_6 {X : zX} {l : Launch} {M : zM} {Q : Option Value → zM → Prop} {a b c d e : Int32} (hs : zSk zMc M) (hI : zIv cLo cHi M) (hQ : ∀ (M' : zM) (v : Int32), zSk zMc M' → zIv cLo cHi M' → zFr [(6, 335, none)] M M' → (-2147483648) ≤ v.toInt → v.toInt ≤ 2147483647 → Q (some (.int v)) M') : zCall X l 1 0 0 14 [.ref 6, .int a, .int b, .int c, .int d, .int e] M Q := by
  have ga := zrg a
  have gb := zrg b
  have gc := zrg c
  have gd := zrg d
  have ge := zrg e
  refine zs_in (by decide) mf14 (Nat.le_of_ble_eq_true rfl) ?_
  show zGo X l 1 0 0 14 0 [(0, .ref 6), (1, .int a), (2, .int b), (3, .int c), (4, .int d), (5, .int e)] [] M _
  refine zs_aload_n (pc := 0) t14_0 rfl ?_
  refine zs_get (pc := 1) t14_1 (by decide) (zk1 (hs.k fk_zMc_6)) (hs.p rfl fv_zMc_6_3) ?_
  refine zs_bipush (pc := 4) t14_4 (v := 20) (by decide) ?_
  refine zs_invV (pc := 6) (k := 155) (as' := [.int (20 : Int32)]) (st := []) t14_6 mf15 rfl rfl (Or.inl ⟨by decide, (zk1 (hs.k fk_zMc_155))⟩) ⟨by decide, by decide, Nat.le_of_ble_eq_true rfl, Nat.le_of_ble_eq_true rfl⟩ (zs_in (by decide) mf15 (Nat.le_of_ble_eq_true rfl) ?_) (fun _ _ q => q)
  show zGo X l 0 0 0 15 0 [(0, .ref 155), (1, .int (20 : Int32))] [] M _
  refine zs_aload_n (pc := 0) t15_0 rfl ?_
  have w1 := ib155_1 hI
  refine zs_get (pc := 1) t15_1 (by decide) (zk1 (hs.k fk_zMc_155)) (zfvi rfl rfl) ?_
  refine zs_iload_n (pc := 4) t15_4 rfl ?_
  obtain ⟨w2v, w2e, w2⟩ := ziadd (a := (zI M 155 1)) (b := (20 : Int32)) rfl li20 (by omega) (by omega)
  refine zs_iadd (pc := 5) t15_5 (c := w2v) w2e ?_
  refine zs_sipush (pc := 6) t15_6 (v := 500) (by decide) ?_
  by_cases w3 : 500 < ((zI M 155 1).toInt + 20)
  · refine zs_icmp_gtT (pc := 9) t15_9 w2 li500 (by omega) ?_
    refine zs_iconst (pc := 16) t15_16 (v := 0) (by decide) ?_
    refine zs_iret (pc := 17) t15_17 mr15 (by decide) ?_
    show zGo X l 1 0 0 14 9 [(0, .ref 6), (1, .int a), (2, .int b), (3, .int c), (4, .int d), (5, .int e)] [.int (0 : Int32)] M _
    refine zs_if_neF (pc := 9) t14_9 li0 (by decide) ?_
    refine zs_iconst (pc := 12) t14_12 (v := -1) (by decide) ?_
    exact zs_iret (pc := 13) t14_13 mr14 (by decide) (hQ _ _ hs hI (zFr.refl) (zrg _).1 (zrg _).2)
  · refine zs_icmp_gtF (pc := 9) t15_9 w2 li500 (by omega) ?_
    refine zs_iconst (pc := 12) t15_12 (v := 1) (by decide) ?_
    refine zs_goto (pc := 13) t15_13 ?_
    refine zs_iret (pc := 17) t15_17 mr15 (by decide) ?_
    show zGo X l 1 0 0 14 9 [(0, .ref 6), (1, .int a), (2, .int b), (3, .int c), (4, .int d), (5, .int e)] [.int (1 : Int32)] M _
    refine zs_if_neT (pc := 9) t14_9 li1 (by decide) ?_
    refine zs_aload_n (pc := 14) t14_14 rfl ?_
    refine zs_get (pc := 15) t14_15 (by decide) (zk1 (hs.k fk_zMc_6)) (hs.p rfl fv_zMc_6_3) ?_
    refine zs_iload_n (pc := 18) t14_18 rfl ?_
    refine zs_invV (pc := 19) (k := 155) (as' := [.int a]) (st := []) t14_19 mf16 rfl rfl (Or.inl ⟨by decide, (zk1 (hs.k fk_zMc_155))⟩) ⟨by decide, by decide, Nat.le_of_ble_eq_true rfl, Nat.le_of_ble_eq_true rfl⟩ (C16_155 hs hI ?_) (fun _ _ q => q)
    intro w4M w4s w4I w4F
    show zGo X l 1 0 0 14 22 [(0, .ref 6), (1, .int a), (2, .int b), (3, .int c), (4, .int d), (5, .int e)] [] w4M _
    refine zs_aload_n (pc := 22) t14_22 rfl ?_
    refine zs_get (pc := 23) t14_23 (by decide) (zk1 (w4s.k fk_zMc_6)) (w4s.p rfl fv_zMc_6_3) ?_
    refine zs_iload_n (pc := 26) t14_26 rfl ?_
    refine zs_invV (pc := 27) (k := 155) (as' := [.int b]) (st := []) t14_27 mf16 rfl rfl (Or.inl ⟨by decide, (zk1 (w4s.k fk_zMc_155))⟩) ⟨by decide, by decide, Nat.le_of_ble_eq_true rfl, Nat.le_of_ble_eq_true rfl⟩ (C16_155 w4s w4I ?_) (fun _ _ q => q)
    intro w5M w5s w5I w5F
    show zGo X l 1 0 0 14 30 [(0, .ref 6), (1, .int a), (2, .int b), (3, .int c), (4, .int d), (5, .int e)] [] w5M _
    refine zs_aload_n (pc := 30) t14_30 rfl ?_
    refine zs_get (pc := 31) t14_31 (by decide) (zk1 (w5s.k fk_zMc_6)) (w5s.p rfl fv_zMc_6_3) ?_
    refine zs_iload_n (pc := 34) t14_34 rfl ?_
    refine zs_invV (pc := 35) (k := 155) (as' := [.int c]) (st := []) t14_35 mf16 rfl rfl (Or.inl ⟨by decide, (zk1 (w5s.k fk_zMc_155))⟩) ⟨by decide, by decide, Nat.le_of_ble_eq_true rfl, Nat.le_of_ble_eq_true rfl⟩ (C16_155 w5s w5I ?_) (fun _ _ q => q)
    intro w6M w6s w6I w6F
    show zGo X l 1 0 0 14 38 [(0, .ref 6), (1, .int a), (2, .int b), (3, .int c), (4, .int d), (5, .int e)] [] w6M _
    refine zs_aload_n (pc := 38) t14_38 rfl ?_
    refine zs_get (pc := 39) t14_39 (by decide) (zk1 (w6s.k fk_zMc_6)) (w6s.p rfl fv_zMc_6_3) ?_
    refine zs_iload (pc := 42) t14_42 rfl ?_
    refine zs_invV (pc := 44) (k := 155) (as' := [.int d]) (st := []) t14_44 mf16 rfl rfl (Or.inl ⟨by decide, (zk1 (w6s.k fk_zMc_155))⟩) ⟨by decide, by decide, Nat.le_of_ble_eq_true rfl, Nat.le_of_ble_eq_true rfl⟩ (C16_155 w6s w6I ?_) (fun _ _ q => q)
    intro w7M w7s w7I w7F
    show zGo X l 1 0 0 14 47 [(0, .ref 6), (1, .int a), (2, .int b), (3, .int c), (4, .int d), (5, .int e)] [] w7M _
    refine zs_aload_n (pc := 47) t14_47 rfl ?_
    refine zs_get (pc := 48) t14_48 (by decide) (zk1 (w7s.k fk_zMc_6)) (w7s.p rfl fv_zMc_6_3) ?_
    refine zs_iload (pc := 51) t14_51 rfl ?_
    refine zs_invV (pc := 53) (k := 155) (as' := [.int e]) (st := []) t14_53 mf16 rfl rfl (Or.inl ⟨by decide, (zk1 (w7s.k fk_zMc_155))⟩) ⟨by decide, by decide, Nat.le_of_ble_eq_true rfl, Nat.le_of_ble_eq_true rfl⟩ (C16_155 w7s w7I ?_) (fun _ _ q => q)
    intro w8M w8s w8I w8F
    show zGo X l 1 0 0 14 56 [(0, .ref 6), (1, .int a), (2, .int b), (3, .int c), (4, .int d), (5, .int e)] [] w8M _
    refine zs_aload_n (pc := 56) t14_56 rfl ?_
    refine zs_get (pc := 57) t14_57 (by decide) (zk1 (w8s.k fk_zMc_6)) (w8s.p rfl fv_zMc_6_3) ?_
    refine zs_invV (pc := 60) (k := 155) (as' := []) (st := []) t14_60 mf17 rfl rfl (Or.inl ⟨by decide, (zk1 (w8s.k fk_zMc_155))⟩) ⟨by decide, by decide, Nat.le_of_ble_eq_true rfl, Nat.le_of_ble_eq_true rfl⟩ (zs_in (by decide) mf17 (Nat.le_of_ble_eq_true rfl) ?_) (fun _ _ q => q)
    show zGo X l 0 0 0 17 0 [(0, .ref 155)] [] w8M _
    refine zs_aload_n (pc := 0) t17_0 rfl ?_
    have w9 := ib155_1 w8I
    refine zs_get (pc := 1) t17_1 (by decide) (zk1 (w8s.k fk_zMc_155)) (zfvi rfl rfl) ?_
    refine zs_iret (pc := 4) t17_4 mr17 rfl ?_
    show zGo X l 1 0 0 14 63 [(0, .ref 6), (1, .int a), (2, .int b), (3, .int c), (4, .int d), (5, .int e)] [.int (zI w8M 155 1)] w8M _
    exact zs_iret (pc := 63) t14_63 mr14 rfl (hQ _ _ w8s w8I ((((((zFr.refl).trans (w4F.mono rfl)).trans (w5F.mono rfl)).trans (w6F.mono rfl)).trans (w7F.mono rfl)).trans (w8F.mono rfl)) (zrg _).1 (zrg _).2)
theorem C18_6 {X : zX} {l : Launch} {M : zM} {Q : Option Value → zM → Prop} {a : Int32} (hs : zSk zMc M) (hI : zIv cLo cHi M) (hQ : ∀ (M' : zM) (v : Int32), zSk zMc M' → zIv cLo cHi M' → zFr [(6, 335, none)] M M' → (-2147483648) ≤ v.toInt → v.toInt ≤ 2147483647 → Q (some (.int v)) M') : zCall X l 2 0 0 18 [.ref 6, .int a] M Q := by
  have ga := zrg a
  refine zs_in (by decide) mf18 (Nat.le_of_ble_eq_true rfl) ?_
  show zGo X l 2 0 0 18 0 [(0, .ref 6), (1, .int a)] [] M _
  refine zs_iload_n (pc := 0) t18_0 rfl ?_
  by_cases w1 : a.toInt < 0
  · refine zs_if_ltT (pc := 1) t18_1 rfl (by omega) ?_
    refine zs_iconst (pc := 15) t18_15 (v := -1) (by decide) ?_
    exact zs_iret (pc := 16) t18_16 mr18 (by decide) (hQ _ _ hs hI (zFr.refl) (zrg _).1 (zrg _).2)
  · refine zs_if_ltF (pc := 1) t18_1 rfl (by omega) ?_
    refine zs_iload_n (pc := 4) t18_4 rfl ?_
    refine zs_aload_n (pc := 5) t18_5 rfl ?_
    refine zs_get (pc := 6) t18_6 (by decide) (zk1 (hs.k fk_zMc_6)) (hs.p rfl fv_zMc_6_3) ?_
    refine zs_invV (pc := 9) (k := 155) (as' := []) (st := [.int a]) t18_9 mf17 rfl rfl (Or.inl ⟨by decide, (zk1 (hs.k fk_zMc_155))⟩) ⟨by decide, by decide, Nat.le_of_ble_eq_true rfl, Nat.le_of_ble_eq_true rfl⟩ (zs_in (by decide) mf17 (Nat.le_of_ble_eq_true rfl) ?_) (fun _ _ q => q)
    show zGo X l 0 0 0 17 0 [(0, .ref 155)] [] M _
    refine zs_aload_n (pc := 0) t17_0 rfl ?_
    have w2 := ib155_1 hI
    refine zs_get (pc := 1) t17_1 (by decide) (zk1 (hs.k fk_zMc_155)) (zfvi rfl rfl) ?_
    refine zs_iret (pc := 4) t17_4 mr17 rfl ?_
    show zGo X l 2 0 0 18 12 [(0, .ref 6), (1, .int a)] [.int (zI M 155 1), .int a] M _
    by_cases w3 : a.toInt ≤ (zI M 155 1).toInt
    · refine zs_icmp_leT (pc := 12) t18_12 rfl rfl (by omega) ?_
      refine zs_aload_n (pc := 17) t18_17 rfl ?_
      refine zs_get (pc := 18) t18_18 (by decide) (zk1 (hs.k fk_zMc_6)) (hs.p rfl fv_zMc_6_3) ?_
      refine zs_iload_n (pc := 21) t18_21 rfl ?_
      refine zs_invV (pc := 22) (k := 155) (as' := [.int a]) (st := []) t18_22 mf19 rfl rfl (Or.inl ⟨by decide, (zk1 (hs.k fk_zMc_155))⟩) ⟨by decide, by decide, Nat.le_of_ble_eq_true rfl, Nat.le_of_ble_eq_true rfl⟩ (zs_in (by decide) mf19 (Nat.le_of_ble_eq_true rfl) ?_) (fun _ _ q => q)
      show zGo X l 1 0 0 19 0 [(0, .ref 155), (1, .int a)] [] M _
      refine zs_aload_n (pc := 0) t19_0 rfl ?_
      refine zs_iconst (pc := 1) t19_1 (v := 0) (by decide) ?_
      refine zs_iload_n (pc := 2) t19_2 rfl ?_
      refine zs_aload_n (pc := 3) t19_3 rfl ?_
      refine zs_get (pc := 4) t19_4 (by decide) (zk1 (hs.k fk_zMc_155)) (zfvi rfl rfl) ?_
      refine zs_invS (pc := 7) (as := [.int a, .int (zI M 155 1)]) (st := [.int (0 : Int32), .ref 155]) t19_7 (by decide) mf20 rfl rfl ⟨by decide, by decide, Nat.le_of_ble_eq_true rfl, Nat.le_of_ble_eq_true rfl⟩ (zs_in (by decide) mf20 (Nat.le_of_ble_eq_true rfl) ?_) (fun _ _ q => q)
      show zGo X l 0 0 0 20 0 [(0, .int a), (1, .int (zI M 155 1))] [] M _
      refine zs_iload_n (pc := 0) t20_0 rfl ?_
      refine zs_iload_n (pc := 1) t20_1 rfl ?_
      by_cases w4 : (zI M 155 1).toInt < a.toInt
      · refine zs_icmp_gtT (pc := 2) t20_2 rfl rfl (by omega) ?_
        refine zs_iload_n (pc := 9) t20_9 rfl ?_
        refine zs_iret (pc := 10) t20_10 mr20 rfl ?_
        show zGo X l 1 0 0 19 10 [(0, .ref 155), (1, .int a)] [.int (zI M 155 1), .int (0 : Int32), .ref 155] M _
        refine zs_invS (pc := 10) (as := [.int (0 : Int32), .int (zI M 155 1)]) (st := [.ref 155]) t19_10 (by decide) mf21 rfl rfl ⟨by decide, by decide, Nat.le_of_ble_eq_true rfl, Nat.le_of_ble_eq_true rfl⟩ (zs_in (by decide) mf21 (Nat.le_of_ble_eq_true rfl) ?_) (fun _ _ q => q)
        show zGo X l 0 0 0 21 0 [(0, .int (0 : Int32)), (1, .int (zI M 155 1))] [] M _
        refine zs_iload_n (pc := 0) t21_0 rfl ?_
        refine zs_iload_n (pc := 1) t21_1 rfl ?_
        by_cases w5 : 0 < (zI M 155 1).toInt
        · refine zs_icmp_ltT (pc := 2) t21_2 li0 rfl (by omega) ?_
          refine zs_iload_n (pc := 9) t21_9 rfl ?_
          refine zs_iret (pc := 10) t21_10 mr21 rfl ?_
          show zGo X l 1 0 0 19 13 [(0, .ref 155), (1, .int a)] [.int (zI M 155 1), .ref 155] M _
          have w6 : zIv cLo cHi (zsI M 155 1 (zI M 155 1)) := zIv.put hI (show 0 ≤ (zI M 155 1).toInt ∧ (zI M 155 1).toInt ≤ 500 from ⟨by omega, by omega⟩)
          refine zs_putI (pc := 13) t19_13 (zk1 (hs.k fk_zMc_155)) rfl ?_
          refine zs_vret (pc := 16) t19_16 mr19 ?_
          show zGo X l 2 0 0 18 25 [(0, .ref 6), (1, .int a)] [] (zsI M 155 1 (zI M 155 1)) _
          refine zs_iload_n (pc := 25) t18_25 rfl ?_
          exact zs_iret (pc := 26) t18_26 mr18 rfl (hQ _ _ hs w6 ((zFr.refl).put rfl) (zrg _).1 (zrg _).2)
        · refine zs_icmp_ltF (pc := 2) t21_2 li0 rfl (by omega) ?_
          refine zs_iload_n (pc := 5) t21_5 rfl ?_
          refine zs_goto (pc := 6) t21_6 ?_
          refine zs_iret (pc := 10) t21_10 mr21 (by decide) ?_
          show zGo X l 1 0 0 19 13 [(0, .ref 155), (1, .int a)] [.int (0 : Int32), .ref 155] M _
          have w7 : zIv cLo cHi (zsI M 155 1 (0 : Int32)) := zIv.put hI (show 0 ≤ (0 : Int32).toInt ∧ (0 : Int32).toInt ≤ 500 from ⟨by decide, by decide⟩)
          refine zs_putI (pc := 13) t19_13 (zk1 (hs.k fk_zMc_155)) rfl ?_
          refine zs_vret (pc := 16) t19_16 mr19 ?_
          show zGo X l 2 0 0 18 25 [(0, .ref 6), (1, .int a)] [] (zsI M 155 1 (0 : Int32)) _
          refine zs_iload_n (pc := 25) t18_25 rfl ?_
          exact zs_iret (pc := 26) t18_26 mr18 rfl (hQ _ _ hs w7 ((zFr.refl).put rfl) (zrg _).1 (zrg _).2)
      · refine zs_icmp_gtF (pc := 2) t20_2 rfl rfl (by omega) ?_
        refine zs_iload_n (pc := 5) t20_5 rfl ?_
        refine zs_goto (pc := 6) t20_6 ?_
        refine zs_iret (pc := 10) t20_10 mr20 rfl ?_
        show zGo X l 1 0 0 19 10 [(0, .ref 155), (1, .int a)] [.int a, .int (0 : Int32), .ref 155] M _
        refine zs_invS (pc := 10) (as := [.int (0 : Int32), .int a]) (st := [.ref 155]) t19_10 (by decide) mf21 rfl rfl ⟨by decide, by decide, Nat.le_of_ble_eq_true rfl, Nat.le_of_ble_eq_true rfl⟩ (zs_in (by decide) mf21 (Nat.le_of_ble_eq_true rfl) ?_) (fun _ _ q => q)
        show zGo X l 0 0 0 21 0 [(0, .int (0 : Int32)), (1, .int a)] [] M _
        refine zs_iload_n (pc := 0) t21_0 rfl ?_
        refine zs_iload_n (pc := 1) t21_1 rfl ?_
        by_cases w8 : 0 < a.toInt
        · refine zs_icmp_ltT (pc := 2) t21_2 li0 rfl (by omega) ?_
          refine zs_iload_n (pc := 9) t21_9 rfl ?_
          refine zs_iret (pc := 10) t21_10 mr21 rfl ?_
          show zGo X l 1 0 0 19 13 [(0, .ref 155), (1, .int a)] [.int a, .ref 155] M _
          have w9 : zIv cLo cHi (zsI M 155 1 a) := zIv.put hI (show 0 ≤ a.toInt ∧ a.toInt ≤ 500 from ⟨by omega, by omega⟩)
          refine zs_putI (pc := 13) t19_13 (zk1 (hs.k fk_zMc_155)) rfl ?_
          refine zs_vret (pc := 16) t19_16 mr19 ?_
          show zGo X l 2 0 0 18 25 [(0, .ref 6), (1, .int a)] [] (zsI M 155 1 a) _
          refine zs_iload_n (pc := 25) t18_25 rfl ?_
          exact zs_iret (pc := 26) t18_26 mr18 rfl (hQ _ _ hs w9 ((zFr.refl).put rfl) (zrg _).1 (zrg _).2)
        · refine zs_icmp_ltF (pc := 2) t21_2 li0 rfl (by omega) ?_
          refine zs_iload_n (pc := 5) t21_5 rfl ?_
          refine zs_goto (pc := 6) t21_6 ?_
          refine zs_iret (pc := 10) t21_10 mr21 (by decide) ?_
          show zGo X l 1 0 0 19 13 [(0, .ref 155), (1, .int a)] [.int (0 : Int32), .ref 155] M _
          have w10 : zIv cLo cHi (zsI M 155 1 (0 : Int32)) := zIv.put hI (show 0 ≤ (0 : Int32).toInt ∧ (0 : Int32).toInt ≤ 500 from ⟨by decide, by decide⟩)
          refine zs_putI (pc := 13) t19_13 (zk1 (hs.k fk_zMc_155)) rfl ?_
          refine zs_vret (pc := 16) t19_16 mr19 ?_
          show zGo X l 2 0 0 18 25 [(0, .ref 6), (1, .int a)] [] (zsI M 155 1 (0 : Int32)) _
          refine zs_iload_n (pc := 25) t18_25 rfl ?_
          exact zs_iret (pc := 26) t18_26 mr18 rfl (hQ _ _ hs w10 ((zFr.refl).put rfl) (zrg _).1 (zrg _).2)
    · refine zs_icmp_leF (pc := 12) t18_12 rfl rfl (by omega) ?_
      refine zs_iconst (pc := 15) t18_15 (v := -1) (by decide) ?_
      exact zs_iret (pc := 16) t18_16 mr18 (by decide) (hQ _ _ hs hI (zFr.refl) (zrg _).1 (zrg _).2)
theorem C22_6 {X : zX} {l : Launch} {M : zM} {Q : Option Value → zM → Prop} (hs : zSk zMc M) (hI : zIv cLo cHi M) (hQ : ∀ (M' : zM) (v : Int32), zSk zMc M' → zIv cLo cHi M' → zFr [(6, 335, none)] M M' → (-2147483648) ≤ v.toInt → v.toInt ≤ 2147483647 → Q (some (.int v)) M') : zCall X l 7 0 0 22 [.ref 6] M Q := by
  refine zs_in (by decide) mf22 (Nat.le_of_ble_eq_true rfl) ?_
  show zGo X l 7 0 0 22 0 [(0, .ref 6)] [] M _
  refine zs_aload_n (pc := 0) t22_0 rfl ?_
  refine zs_get (pc := 1) t22_1 (by decide) (zk1 (hs.k fk_zMc_6)) (hs.p rfl fv_zMc_6_1) ?_
  refine zs_aload_n (pc := 4) t22_4 rfl ?_
  refine zs_get (pc := 5) t22_5 (by decide) (zk1 (hs.k fk_zMc_6)) (hs.p rfl fv_zMc_6_0) ?_
  refine zs_invV (pc := 8) (k := 19) (as' := [.ref 7]) (st := []) t22_8 mf23 rfl rfl (Or.inl ⟨by decide, (zk1 (hs.k fk_zMc_19))⟩) ⟨by decide, by decide, Nat.le_of_ble_eq_true rfl, Nat.le_of_ble_eq_true rfl⟩ (C23_19_7 hs hI ?_) (fun _ _ q => q)
  intro w1M w1s w1I w1F
  show zGo X l 7 0 0 22 11 [(0, .ref 6)] [] w1M _
  refine zs_aload_n (pc := 11) t22_11 rfl ?_
  refine zs_get (pc := 12) t22_12 (by decide) (zk1 (w1s.k fk_zMc_6)) (w1s.p rfl fv_zMc_6_4) ?_
  refine zs_aload_n (pc := 15) t22_15 rfl ?_
  refine zs_get (pc := 16) t22_16 (by decide) (zk1 (w1s.k fk_zMc_6)) (w1s.p rfl fv_zMc_6_3) ?_
  refine zs_aload_n (pc := 19) t22_19 rfl ?_
  refine zs_get (pc := 20) t22_20 (by decide) (zk1 (w1s.k fk_zMc_6)) (w1s.p rfl fv_zMc_6_1) ?_
  refine zs_invV (pc := 23) (k := 157) (as' := [.ref 155, .ref 19]) (st := []) t22_23 mf25 rfl rfl (Or.inl ⟨by decide, (zk1 (w1s.k fk_zMc_157))⟩) ⟨by decide, by decide, Nat.le_of_ble_eq_true rfl, Nat.le_of_ble_eq_true rfl⟩ (C25_157_155_19 w1s w1I ?_) (fun _ _ q => q)
  intro w2M w2v w2s w2I w2F w2a w2b
  show zGo X l 7 0 0 22 26 [(0, .ref 6)] [.int w2v] w2M _
  refine zs_istore_n (pc := 26) t22_26 (ls' := [(1, .int w2v), (0, .ref 6)]) (zml mf22 (by decide)) rfl ?_
  refine zs_aload_n (pc := 27) t22_27 rfl ?_
  refine zs_aload_n (pc := 28) t22_28 rfl ?_
  refine zs_get (pc := 29) t22_29 (by decide) (zk1 (w2s.k fk_zMc_6)) (w2s.p rfl fv_zMc_6_3) ?_
  refine zs_invV (pc := 32) (k := 155) (as' := []) (st := [.ref 6]) t22_32 mf57 rfl rfl (Or.inl ⟨by decide, (zk1 (w2s.k fk_zMc_155))⟩) ⟨by decide, by decide, Nat.le_of_ble_eq_true rfl, Nat.le_of_ble_eq_true rfl⟩ (zs_in (by decide) mf57 (Nat.le_of_ble_eq_true rfl) ?_) (fun _ _ q => q)
  show zGo X l 0 0 0 57 0 [(0, .ref 155)] [] w2M _
  refine zs_aload_n (pc := 0) t57_0 rfl ?_
  have w3 := ib155_3 w2I
  refine zs_get (pc := 1) t57_1 (by decide) (zk1 (w2s.k fk_zMc_155)) (zfvi rfl rfl) ?_
  refine zs_iret (pc := 4) t57_4 mr57 rfl ?_
  show zGo X l 7 0 0 22 35 [(1, .int w2v), (0, .ref 6)] [.int (zI w2M 155 3), .ref 6] w2M _
  have w4 : zIv cLo cHi (zsI w2M 6 11 (zI w2M 155 3)) := zIv.put w2I (show (-2147483648) ≤ (zI w2M 155 3).toInt ∧ (zI w2M 155 3).toInt ≤ 2147483647 from (zrg (zI w2M 155 3)))
  refine zs_putI (pc := 35) t22_35 (zk1 (w2s.k fk_zMc_6)) rfl ?_
  refine zs_aload_n (pc := 38) t22_38 rfl ?_
  refine zs_get (pc := 39) t22_39 (by decide) (zk1 (w2s.k fk_zMc_6)) (w2s.p rfl fv_zMc_6_3) ?_
  refine zs_iconst (pc := 42) t22_42 (v := 0) (by decide) ?_
  refine zs_invV (pc := 43) (k := 155) (as' := [.int (0 : Int32)]) (st := []) t22_43 mf19 rfl rfl (Or.inl ⟨by decide, (zk1 (w2s.k fk_zMc_155))⟩) ⟨by decide, by decide, Nat.le_of_ble_eq_true rfl, Nat.le_of_ble_eq_true rfl⟩ (zs_in (by decide) mf19 (Nat.le_of_ble_eq_true rfl) ?_) (fun _ _ q => q)
  show zGo X l 1 0 0 19 0 [(0, .ref 155), (1, .int (0 : Int32))] [] (zsI w2M 6 11 (zI w2M 155 3)) _
  refine zs_aload_n (pc := 0) t19_0 rfl ?_
  refine zs_iconst (pc := 1) t19_1 (v := 0) (by decide) ?_
  refine zs_iload_n (pc := 2) t19_2 rfl ?_
  refine zs_aload_n (pc := 3) t19_3 rfl ?_
  have w5 := ib155_1 w2I
  refine zs_get (pc := 4) t19_4 (by decide) (zk1 (w2s.k fk_zMc_155)) (zfvi rfl ((zIo (by decide)).trans rfl)) ?_
  refine zs_invS (pc := 7) (as := [.int (0 : Int32), .int (zI w2M 155 1)]) (st := [.int (0 : Int32), .ref 155]) t19_7 (by decide) mf20 rfl rfl ⟨by decide, by decide, Nat.le_of_ble_eq_true rfl, Nat.le_of_ble_eq_true rfl⟩ (zs_in (by decide) mf20 (Nat.le_of_ble_eq_true rfl) ?_) (fun _ _ q => q)
  show zGo X l 0 0 0 20 0 [(0, .int (0 : Int32)), (1, .int (zI w2M 155 1))] [] (zsI w2M 6 11 (zI w2M 155 3)) _
  refine zs_iload_n (pc := 0) t20_0 rfl ?_
  refine zs_iload_n (pc := 1) t20_1 rfl ?_
  refine zs_icmp_gtF (pc := 2) t20_2 li0 rfl (by omega) ?_
  refine zs_iload_n (pc := 5) t20_5 rfl ?_
  refine zs_goto (pc := 6) t20_6 ?_
  refine zs_iret (pc := 10) t20_10 mr20 (by decide) ?_
  show zGo X l 1 0 0 19 10 [(0, .ref 155), (1, .int (0 : Int32))] [.int (0 : Int32), .int (0 : Int32), .ref 155] (zsI w2M 6 11 (zI w2M 155 3)) _
  refine zs_invS (pc := 10) (as := [.int (0 : Int32), .int (0 : Int32)]) (st := [.ref 155]) t19_10 (by decide) mf21 rfl rfl ⟨by decide, by decide, Nat.le_of_ble_eq_true rfl, Nat.le_of_ble_eq_true rfl⟩ (zs_in (by decide) mf21 (Nat.le_of_ble_eq_true rfl) ?_) (fun _ _ q => q)
  show zGo X l 0 0 0 21 0 [(0, .int (0 : Int32)), (1, .int (0 : Int32))] [] (zsI w2M 6 11 (zI w2M 155 3)) _
  refine zs_iload_n (pc := 0) t21_0 rfl ?_
  refine zs_iload_n (pc := 1) t21_1 rfl ?_
  refine zs_icmp_ltF (pc := 2) t21_2 li0 li0 (by decide) ?_
  refine zs_iload_n (pc := 5) t21_5 rfl ?_
  refine zs_goto (pc := 6) t21_6 ?_
  refine zs_iret (pc := 10) t21_10 mr21 (by decide) ?_
  show zGo X l 1 0 0 19 13 [(0, .ref 155), (1, .int (0 : Int32))] [.int (0 : Int32), .ref 155] (zsI w2M 6 11 (zI w2M 155 3)) _
  have w6 : zIv cLo cHi (zsI (zsI w2M 6 11 (zI w2M 155 3)) 155 1 (0 : Int32)) := zIv.put w4 (show 0 ≤ (0 : Int32).toInt ∧ (0 : Int32).toInt ≤ 500 from ⟨by decide, by decide⟩)
  refine zs_putI (pc := 13) t19_13 (zk1 (w2s.k fk_zMc_155)) rfl ?_
  refine zs_vret (pc := 16) t19_16 mr19 ?_
  show zGo X l 7 0 0 22 46 [(1, .int w2v), (0, .ref 6)] [] (zsI (zsI w2M 6 11 (zI w2M 155 3)) 155 1 (0 : Int32)) _
  refine zs_iload_n (pc := 46) t22_46 rfl ?_
  refine zs_iconst (pc := 47) t22_47 (v := -1) (by decide) ?_
  by_cases w7 : w2v.toInt ≠ (-1)
  · refine zs_icmp_neT (pc := 48) t22_48 rfl lin1 (by omega) ?_
    refine zs_aload_n (pc := 53) t22_53 rfl ?_
    refine zs_get (pc := 54) t22_54 (by decide) (zk1 (w2s.k fk_zMc_6)) (w2s.p rfl fv_zMc_6_2) ?_
    refine zs_aload_n (pc := 57) t22_57 rfl ?_
    refine zs_get (pc := 58) t22_58 (by decide) (zk1 (w2s.k fk_zMc_6)) (w2s.p rfl fv_zMc_6_0) ?_
    refine zs_invV (pc := 61) (k := 31) (as' := [.ref 7]) (st := []) t22_61 mf58 rfl rfl (Or.inl ⟨by decide, (zk1 (w2s.k fk_zMc_31))⟩) ⟨by decide, by decide, Nat.le_of_ble_eq_true rfl, Nat.le_of_ble_eq_true rfl⟩ (C58_31_7 w2s w6 ?_) (fun _ _ q => q)
    intro w8M w8s w8I w8F
    show zGo X l 7 0 0 22 64 [(1, .int w2v), (0, .ref 6)] [] w8M _
    refine zs_aload_n (pc := 64) t22_64 rfl ?_
    refine zs_get (pc := 65) t22_65 (by decide) (zk1 (w8s.k fk_zMc_6)) (w8s.p rfl fv_zMc_6_0) ?_
    refine zs_aload_n (pc := 68) t22_68 rfl ?_
    refine zs_get (pc := 69) t22_69 (by decide) (zk1 (w8s.k fk_zMc_6)) (w8s.p rfl fv_zMc_6_1) ?_
    refine zs_invV (pc := 72) (k := 7) (as' := [.ref 19]) (st := []) t22_72 mf23 rfl rfl (Or.inl ⟨by decide, (zk1 (w8s.k fk_zMc_7))⟩) ⟨by decide, by decide, Nat.le_of_ble_eq_true rfl, Nat.le_of_ble_eq_true rfl⟩ (C23_7_19 w8s w8I ?_) (fun _ _ q => q)
    intro w9M w9s w9I w9F
    show zGo X l 7 0 0 22 75 [(1, .int w2v), (0, .ref 6)] [] w9M _
    refine zs_aload_n (pc := 75) t22_75 rfl ?_
    refine zs_invV (pc := 76) (k := 6) (as' := []) (st := []) t22_76 mf59 rfl rfl (Or.inl ⟨by decide, (zk1 (w9s.k fk_zMc_6))⟩) ⟨by decide, by decide, Nat.le_of_ble_eq_true rfl, Nat.le_of_ble_eq_true rfl⟩ (zs_in (by decide) mf59 (Nat.le_of_ble_eq_true rfl) ?_) (fun _ _ q => q)
    show zGo X l 1 0 0 59 0 [(0, .ref 6)] [] w9M _
    refine zs_aload_n (pc := 0) t59_0 rfl ?_
    refine zs_get (pc := 1) t59_1 (by decide) (zk1 (w9s.k fk_zMc_6)) (w9s.p rfl fv_zMc_6_6) ?_
    refine zs_invV (pc := 4) (k := 164) (as' := []) (st := []) t59_4 mf60 rfl rfl (Or.inl ⟨by decide, (zk1 (w9s.k fk_zMc_164))⟩) ⟨by decide, by decide, Nat.le_of_ble_eq_true rfl, Nat.le_of_ble_eq_true rfl⟩ (zs_in (by decide) mf60 (Nat.le_of_ble_eq_true rfl) ?_) (fun _ _ q => q)
    show zGo X l 0 0 0 60 0 [(0, .ref 164)] [] w9M _
    refine zs_aload_n (pc := 0) t60_0 rfl ?_
    refine zs_iconst (pc := 1) t60_1 (v := 0) (by decide) ?_
    have w10 : zIv cLo cHi (zsI w9M 164 0 (0 : Int32)) := zIv.put w9I (show 0 ≤ (0 : Int32).toInt ∧ (0 : Int32).toInt ≤ 1 from ⟨by decide, by decide⟩)
    refine zs_putI (pc := 2) t60_2 (zk1 (w9s.k fk_zMc_164)) (by decide) ?_
    refine zs_vret (pc := 5) t60_5 mr60 ?_
    show zGo X l 1 0 0 59 7 [(0, .ref 6)] [] (zsI w9M 164 0 (0 : Int32)) _
    refine zs_aload_n (pc := 7) t59_7 rfl ?_
    refine zs_get (pc := 8) t59_8 (by decide) (zk1 (w9s.k fk_zMc_6)) (w9s.p rfl fv_zMc_6_7) ?_
    refine zs_invV (pc := 11) (k := 325) (as' := []) (st := []) t59_11 mf61 rfl rfl (Or.inl ⟨by decide, (zk1 (w9s.k fk_zMc_325))⟩) ⟨by decide, by decide, Nat.le_of_ble_eq_true rfl, Nat.le_of_ble_eq_true rfl⟩ (zs_in (by decide) mf61 (Nat.le_of_ble_eq_true rfl) ?_) (fun _ _ q => q)
    show zGo X l 0 0 0 61 0 [(0, .ref 325)] [] (zsI w9M 164 0 (0 : Int32)) _
    refine zs_aload_n (pc := 0) t61_0 rfl ?_
    refine zs_iconst (pc := 1) t61_1 (v := 0) (by decide) ?_
    have w11 : zIv cLo cHi (zsI (zsI w9M 164 0 (0 : Int32)) 325 0 (0 : Int32)) := zIv.put w10 (show 0 ≤ (0 : Int32).toInt ∧ (0 : Int32).toInt ≤ 1 from ⟨by decide, by decide⟩)
    refine zs_putI (pc := 2) t61_2 (zk1 (w9s.k fk_zMc_325)) (by decide) ?_
    refine zs_vret (pc := 5) t61_5 mr61 ?_
    show zGo X l 1 0 0 59 14 [(0, .ref 6)] [] (zsI (zsI w9M 164 0 (0 : Int32)) 325 0 (0 : Int32)) _
    refine zs_vret (pc := 14) t59_14 mr59 ?_
    show zGo X l 7 0 0 22 79 [(1, .int w2v), (0, .ref 6)] [] (zsI (zsI w9M 164 0 (0 : Int32)) 325 0 (0 : Int32)) _
    refine zs_iload_n (pc := 79) t22_79 rfl ?_
    exact zs_iret (pc := 80) t22_80 mr22 rfl (hQ _ _ w9s w11 (((((((((zFr.refl).trans (w1F.mono rfl)).trans (w2F.mono rfl)).put rfl).put rfl).trans (w8F.mono rfl)).trans (w9F.mono rfl)).put rfl).put rfl) (zrg _).1 (zrg _).2)
  · refine zs_icmp_neF (pc := 48) t22_48 rfl lin1 (by omega) ?_
    refine zs_iconst (pc := 51) t22_51 (v := -1) (by decide) ?_
    exact zs_iret (pc := 52) t22_52 mr22 (by decide) (hQ _ _ w2s w6 (((((zFr.refl).trans (w1F.mono rfl)).trans (w2F.mono rfl)).put rfl).put rfl) (zrg _).1 (zrg _).2)
theorem C82_6 {X : zX} {l : Launch} {M : zM} {Q : Option Value → zM → Prop} (hs : zSk zMc M) (hI : zIv cLo cHi M) (hQ : ∀ (M' : zM) (v : Int32), zSk zMc M' → zIv cLo cHi M' → zFr [(6, 335, none)] M M' → (-2147483648) ≤ v.toInt → v.toInt ≤ 2147483647 → Q (some (.int v)) M') : zCall X l 6 0 0 82 [.ref 6] M Q := by
  refine zs_in (by decide) mf82 (Nat.le_of_ble_eq_true rfl) ?_
  show zGo X l 6 0 0 82 0 [(0, .ref 6)] [] M _
  refine zs_aload_n (pc := 0) t82_0 rfl ?_
  refine zs_get (pc := 1) t82_1 (by decide) (zk1 (hs.k fk_zMc_6)) (hs.p rfl fv_zMc_6_4) ?_
  refine zs_aload_n (pc := 4) t82_4 rfl ?_
  refine zs_get (pc := 5) t82_5 (by decide) (zk1 (hs.k fk_zMc_6)) (hs.p rfl fv_zMc_6_3) ?_
  refine zs_invV (pc := 8) (k := 157) (as' := [.ref 155]) (st := []) t82_8 mf83 rfl rfl (Or.inl ⟨by decide, (zk1 (hs.k fk_zMc_157))⟩) ⟨by decide, by decide, Nat.le_of_ble_eq_true rfl, Nat.le_of_ble_eq_true rfl⟩ (C83_157_155 hs hI ?_) (fun _ _ q => q)
  intro w1M w1v w1s w1I w1F w1a w1b
  show zGo X l 6 0 0 82 11 [(0, .ref 6)] [.int w1v] w1M _
  refine zs_istore_n (pc := 11) t82_11 (ls' := [(1, .int w1v), (0, .ref 6)]) (zml mf82 (by decide)) rfl ?_
  refine zs_aload_n (pc := 12) t82_12 rfl ?_
  refine zs_aload_n (pc := 13) t82_13 rfl ?_
  refine zs_get (pc := 14) t82_14 (by decide) (zk1 (w1s.k fk_zMc_6)) (w1s.p rfl fv_zMc_6_3) ?_
  refine zs_invV (pc := 17) (k := 155) (as' := []) (st := [.ref 6]) t82_17 mf57 rfl rfl (Or.inl ⟨by decide, (zk1 (w1s.k fk_zMc_155))⟩) ⟨by decide, by decide, Nat.le_of_ble_eq_true rfl, Nat.le_of_ble_eq_true rfl⟩ (zs_in (by decide) mf57 (Nat.le_of_ble_eq_true rfl) ?_) (fun _ _ q => q)
  show zGo X l 0 0 0 57 0 [(0, .ref 155)] [] w1M _
  refine zs_aload_n (pc := 0) t57_0 rfl ?_
  have w2 := ib155_3 w1I
  refine zs_get (pc := 1) t57_1 (by decide) (zk1 (w1s.k fk_zMc_155)) (zfvi rfl rfl) ?_
  refine zs_iret (pc := 4) t57_4 mr57 rfl ?_
  show zGo X l 6 0 0 82 20 [(1, .int w1v), (0, .ref 6)] [.int (zI w1M 155 3), .ref 6] w1M _
  have w3 : zIv cLo cHi (zsI w1M 6 11 (zI w1M 155 3)) := zIv.put w1I (show (-2147483648) ≤ (zI w1M 155 3).toInt ∧ (zI w1M 155 3).toInt ≤ 2147483647 from (zrg (zI w1M 155 3)))
  refine zs_putI (pc := 20) t82_20 (zk1 (w1s.k fk_zMc_6)) rfl ?_
  refine zs_aload_n (pc := 23) t82_23 rfl ?_
  refine zs_get (pc := 24) t82_24 (by decide) (zk1 (w1s.k fk_zMc_6)) (w1s.p rfl fv_zMc_6_3) ?_
  refine zs_iconst (pc := 27) t82_27 (v := 0) (by decide) ?_
  refine zs_invV (pc := 28) (k := 155) (as' := [.int (0 : Int32)]) (st := []) t82_28 mf19 rfl rfl (Or.inl ⟨by decide, (zk1 (w1s.k fk_zMc_155))⟩) ⟨by decide, by decide, Nat.le_of_ble_eq_true rfl, Nat.le_of_ble_eq_true rfl⟩ (zs_in (by decide) mf19 (Nat.le_of_ble_eq_true rfl) ?_) (fun _ _ q => q)
  show zGo X l 1 0 0 19 0 [(0, .ref 155), (1, .int (0 : Int32))] [] (zsI w1M 6 11 (zI w1M 155 3)) _
  refine zs_aload_n (pc := 0) t19_0 rfl ?_
  refine zs_iconst (pc := 1) t19_1 (v := 0) (by decide) ?_
  refine zs_iload_n (pc := 2) t19_2 rfl ?_
  refine zs_aload_n (pc := 3) t19_3 rfl ?_
  have w4 := ib155_1 w1I
  refine zs_get (pc := 4) t19_4 (by decide) (zk1 (w1s.k fk_zMc_155)) (zfvi rfl ((zIo (by decide)).trans rfl)) ?_
  refine zs_invS (pc := 7) (as := [.int (0 : Int32), .int (zI w1M 155 1)]) (st := [.int (0 : Int32), .ref 155]) t19_7 (by decide) mf20 rfl rfl ⟨by decide, by decide, Nat.le_of_ble_eq_true rfl, Nat.le_of_ble_eq_true rfl⟩ (zs_in (by decide) mf20 (Nat.le_of_ble_eq_true rfl) ?_) (fun _ _ q => q)
  show zGo X l 0 0 0 20 0 [(0, .int (0 : Int32)), (1, .int (zI w1M 155 1))] [] (zsI w1M 6 11 (zI w1M 155 3)) _
  refine zs_iload_n (pc := 0) t20_0 rfl ?_
  refine zs_iload_n (pc := 1) t20_1 rfl ?_
  refine zs_icmp_gtF (pc := 2) t20_2 li0 rfl (by omega) ?_
  refine zs_iload_n (pc := 5) t20_5 rfl ?_
  refine zs_goto (pc := 6) t20_6 ?_
  refine zs_iret (pc := 10) t20_10 mr20 (by decide) ?_
  show zGo X l 1 0 0 19 10 [(0, .ref 155), (1, .int (0 : Int32))] [.int (0 : Int32), .int (0 : Int32), .ref 155] (zsI w1M 6 11 (zI w1M 155 3)) _
  refine zs_invS (pc := 10) (as := [.int (0 : Int32), .int (0 : Int32)]) (st := [.ref 155]) t19_10 (by decide) mf21 rfl rfl ⟨by decide, by decide, Nat.le_of_ble_eq_true rfl, Nat.le_of_ble_eq_true rfl⟩ (zs_in (by decide) mf21 (Nat.le_of_ble_eq_true rfl) ?_) (fun _ _ q => q)
  show zGo X l 0 0 0 21 0 [(0, .int (0 : Int32)), (1, .int (0 : Int32))] [] (zsI w1M 6 11 (zI w1M 155 3)) _
  refine zs_iload_n (pc := 0) t21_0 rfl ?_
  refine zs_iload_n (pc := 1) t21_1 rfl ?_
  refine zs_icmp_ltF (pc := 2) t21_2 li0 li0 (by decide) ?_
  refine zs_iload_n (pc := 5) t21_5 rfl ?_
  refine zs_goto (pc := 6) t21_6 ?_
  refine zs_iret (pc := 10) t21_10 mr21 (by decide) ?_
  show zGo X l 1 0 0 19 13 [(0, .ref 155), (1, .int (0 : Int32))] [.int (0 : Int32), .ref 155] (zsI w1M 6 11 (zI w1M 155 3)) _
  have w5 : zIv cLo cHi (zsI (zsI w1M 6 11 (zI w1M 155 3)) 155 1 (0 : Int32)) := zIv.put w3 (show 0 ≤ (0 : Int32).toInt ∧ (0 : Int32).toInt ≤ 500 from ⟨by decide, by decide⟩)
  refine zs_putI (pc := 13) t19_13 (zk1 (w1s.k fk_zMc_155)) rfl ?_
  refine zs_vret (pc := 16) t19_16 mr19 ?_
  show zGo X l 6 0 0 82 31 [(1, .int w1v), (0, .ref 6)] [] (zsI (zsI w1M 6 11 (zI w1M 155 3)) 155 1 (0 : Int32)) _
  refine zs_iload_n (pc := 31) t82_31 rfl ?_
  refine zs_iconst (pc := 32) t82_32 (v := -1) (by decide) ?_
  by_cases w6 : w1v.toInt ≠ (-1)
  · refine zs_icmp_neT (pc := 33) t82_33 rfl lin1 (by omega) ?_
    refine zs_aload_n (pc := 38) t82_38 rfl ?_
    refine zs_iconst (pc := 39) t82_39 (v := -1) (by decide) ?_
    have w7 : zIv cLo cHi (zsI (zsI (zsI w1M 6 11 (zI w1M 155 3)) 155 1 (0 : Int32)) 6 12 (-1 : Int32)) := zIv.put w5 (show (-2147483648) ≤ (-1 : Int32).toInt ∧ (-1 : Int32).toInt ≤ 2147483647 from (zrg (-1 : Int32)))
    refine zs_putI (pc := 40) t82_40 (zk1 (w1s.k fk_zMc_6)) rfl ?_
    refine zs_iconst (pc := 43) t82_43 (v := 0) (by decide) ?_
    refine zs_istore_n (pc := 44) t82_44 (ls' := [(2, .int (0 : Int32)), (1, .int w1v), (0, .ref 6)]) (zml mf82 (by decide)) rfl ?_
    refine zs_iconst (pc := 45) t82_45 (v := 0) (by decide) ?_
    refine zs_istore_n (pc := 46) t82_46 (ls' := [(3, .int (0 : Int32)), (2, .int (0 : Int32)), (1, .int w1v), (0, .ref 6)]) (zml mf82 (by decide)) rfl ?_
    have w8L : ∀ (m : Nat) (w8x2 : Int32) (w8x3 : Int32) (w8M : zM), (0 ≤ w8x3.toInt ∧ w8x3.toInt ≤ 20) → zSk zMc w8M → zIv cLo cHi w8M → zFr [(6, 335, none)] (zsI (zsI (zsI w1M 6 11 (zI w1M 155 3)) 155 1 (0 : Int32)) 6 12 (-1 : Int32)) w8M → 20 - w8x3.toInt ≤ (m : Int) → zGo X l 6 0 0 82 47 [(0, .ref 6), (1, .int w1v), (2, .int w8x2), (3, .int w8x3)] [] w8M Q := by
      intro m
      induction m using Nat.strongRecOn with
      | ind w8m w8ih =>
        intro w8x2 w8x3 w8M w8b3 w8s w8I w8F w8q
        have w8g2 := zrg w8x2
        refine zs_iload_n (pc := 47) t82_47 rfl ?_
        refine zs_iload_n (pc := 48) t82_48 rfl ?_
        by_cases w9 : w1v.toInt ≤ w8x3.toInt
        · refine zs_icmp_geT (pc := 49) t82_49 rfl rfl (by omega) ?_
          refine zs_iload_n (pc := 78) t82_78 rfl ?_
          exact zs_iret (pc := 79) t82_79 mr82 rfl (hQ _ _ w8s w8I ((((((zFr.refl).trans (w1F.mono rfl)).put rfl).put rfl).put rfl).trans (w8F.mono rfl)) (zrg _).1 (zrg _).2)
        · refine zs_icmp_geF (pc := 49) t82_49 rfl rfl (by omega) ?_
          refine zs_aload_n (pc := 52) t82_52 rfl ?_
          refine zs_iload_n (pc := 53) t82_53 rfl ?_
          refine zs_invV (pc := 54) (k := 6) (as' := [.int w8x3]) (st := []) t82_54 mf86 rfl rfl (Or.inl ⟨by decide, (zk1 (w8s.k fk_zMc_6))⟩) ⟨by decide, by decide, Nat.le_of_ble_eq_true rfl, Nat.le_of_ble_eq_true rfl⟩ (C86_6 w8s w8I ?_) (fun _ _ q => q)
          intro w10M w10v w10s w10I w10F w10a w10b
          show zGo X l 6 0 0 82 57 [(0, .ref 6), (1, .int w1v), (2, .int w8x2), (3, .int w8x3)] [.int w10v] w10M _
          refine zs_iconst (pc := 57) t82_57 (v := -1) (by decide) ?_
          by_cases w11 : w10v.toInt ≠ (-1)
          · refine zs_icmp_neT (pc := 58) t82_58 rfl lin1 (by omega) ?_
            obtain ⟨w12v, w12e⟩ : ∃ v, w8x2 + Int32.ofInt 1 = v := ⟨_, rfl⟩
            have w12 := zrg w12v
            refine zs_iinc (pc := 69) t82_69 (ls' := [(2, .int w12v), (0, .ref 6), (1, .int w1v), (3, .int w8x3)]) (zml mf82 (by decide)) rfl (c := w12v) w12e rfl ?_
            obtain ⟨w13v, w13e, w13⟩ := ziadd (a := w8x3) (b := Int32.ofInt 1) rfl (show (Int32.ofInt 1).toInt = 1 by decide) (by omega) (by omega)
            refine zs_iinc (pc := 72) t82_72 (ls' := [(3, .int w13v), (2, .int w12v), (0, .ref 6), (1, .int w1v)]) (zml mf82 (by decide)) rfl (c := w13v) w13e rfl ?_
            refine zs_goto (pc := 75) t82_75 ?_
            refine zGo.locals (ls' := [(0, .ref 6), (1, .int w1v), (2, .int w12v), (3, .int w13v)]) (by simp) ?_
            exact w8ih (w8m - 1) (by omega) w12v w13v w10M ⟨by omega, by omega⟩ w10s w10I (((zFr.refl).trans (w8F.mono rfl)).trans (w10F.mono rfl)) (by omega)
          · refine zs_icmp_neF (pc := 58) t82_58 rfl lin1 (by omega) ?_
            refine zs_aload_n (pc := 61) t82_61 rfl ?_
            refine zs_iload_n (pc := 62) t82_62 rfl ?_
            have w14 : zIv cLo cHi (zsI w10M 6 12 w8x3) := zIv.put w10I (show (-2147483648) ≤ w8x3.toInt ∧ w8x3.toInt ≤ 2147483647 from (zrg w8x3))
            refine zs_putI (pc := 63) t82_63 (zk1 (w10s.k fk_zMc_6)) rfl ?_
            refine zs_goto (pc := 66) t82_66 ?_
            refine zs_iload_n (pc := 78) t82_78 rfl ?_
            exact zs_iret (pc := 79) t82_79 mr82 rfl (hQ _ _ w10s w14 ((((((((zFr.refl).trans (w1F.mono rfl)).put rfl).put rfl).put rfl).trans (w8F.mono rfl)).trans (w10F.mono rfl)).put rfl) (zrg _).1 (zrg _).2)
    refine zGo.locals (ls' := [(0, .ref 6), (1, .int w1v), (2, .int (0 : Int32)), (3, .int (0 : Int32))]) (by simp) ?_
    have w15 := li0
    have w16 := li0
    exact w8L ((20 - 0 : Int).toNat) (0 : Int32) (0 : Int32) (zsI (zsI (zsI w1M 6 11 (zI w1M 155 3)) 155 1 (0 : Int32)) 6 12 (-1 : Int32)) ⟨by decide, by decide⟩ w1s w7 zFr.refl (by omega)
  · refine zs_icmp_neF (pc := 33) t82_33 rfl lin1 (by omega) ?_
    refine zs_iconst (pc := 36) t82_36 (v := -1) (by decide) ?_
    exact zs_iret (pc := 37) t82_37 mr82 (by decide) (hQ _ _ w1s w5 ((((zFr.refl).trans (w1F.mono rfl)).put rfl).put rfl) (zrg _).1 (zrg _).2)
theorem C97_6 {X : zX} {l : Launch} {M : zM} {Q : Option Value → zM → Prop} (hs : zSk zMc M) (hI : zIv cLo cHi M) (hQ : ∀ (M' : zM) (v : Int32), zSk zMc M' → zIv cLo cHi M' → zFr [(6, 335, none)] M M' → (-2147483648) ≤ v.toInt → v.toInt ≤ 2147483647 → Q (some (.int v)) M') : zCall X l 0 0 0 97 [.ref 6] M Q := by
  refine zs_in (by decide) mf97 (Nat.le_of_ble_eq_true rfl) ?_
  show zGo X l 0 0 0 97 0 [(0, .ref 6)] [] M _
  refine zs_aload_n (pc := 0) t97_0 rfl ?_
  have w1 := ib6_11 hI
  refine zs_get (pc := 1) t97_1 (by decide) (zk1 (hs.k fk_zMc_6)) (zfvi rfl rfl) ?_
  exact zs_iret (pc := 4) t97_4 mr97 rfl (hQ _ _ hs hI (zFr.refl) (zrg _).1 (zrg _).2)
theorem C98_6 {X : zX} {l : Launch} {M : zM} {Q : Option Value → zM → Prop} (hs : zSk zMc M) (hI : zIv cLo cHi M) (hQ : ∀ (M' : zM) (v : Int32), zSk zMc M' → zIv cLo cHi M' → zFr [(6, 335, none)] M M' → (-2147483648) ≤ v.toInt → v.toInt ≤ 2147483647 → Q (some (.int v)) M') : zCall X l 0 0 0 98 [.ref 6] M Q := by
  refine zs_in (by decide) mf98 (Nat.le_of_ble_eq_true rfl) ?_
  show zGo X l 0 0 0 98 0 [(0, .ref 6)] [] M _
  refine zs_aload_n (pc := 0) t98_0 rfl ?_
  have w1 := ib6_12 hI
  refine zs_get (pc := 1) t98_1 (by decide) (zk1 (hs.k fk_zMc_6)) (zfvi rfl rfl) ?_
  exact zs_iret (pc := 4) t98_4 mr98 rfl (hQ _ _ hs hI (zFr.refl) (zrg _).1 (zrg _).2)
theorem C99_6 {X : zX} {l : Launch} {M : zM} {Q : Option Value → zM → Prop} {a : Int32} (hs : zSk zMc M) (hI : zIv cLo cHi M) (hQ : ∀ (M' : zM) (v : Int32), zSk zMc M' → zIv cLo cHi M' → zFr [(6, 335, none)] M M' → (-2147483648) ≤ v.toInt → v.toInt ≤ 2147483647 → Q (some (.int v)) M') : zCall X l 3 0 0 99 [.ref 6, .int a] M Q := by
  have ga := zrg a
  refine zs_in (by decide) mf99 (Nat.le_of_ble_eq_true rfl) ?_
  show zGo X l 3 0 0 99 0 [(0, .ref 6), (1, .int a)] [] M _
  refine zs_iload_n (pc := 0) t99_0 rfl ?_
  refine zs_iconst (pc := 1) t99_1 (v := 5) (by decide) ?_
  by_cases w1 : a.toInt < 5
  · refine zs_icmp_ltT (pc := 2) t99_2 rfl li5 (by omega) ?_
    refine zs_iload_n (pc := 22) t99_22 rfl ?_
    by_cases w2 : a.toInt = 0
    · refine zs_tswI (pc := 23) t99_23 ((rfl : a.toInt = a.toInt).trans w2) (by decide) rfl (pc2 := 100) rfl ?_
      refine zs_aload_n (pc := 100) t99_100 rfl ?_
      refine zs_get (pc := 101) t99_101 (by decide) (zk1 (hs.k fk_zMc_6)) (hs.p rfl fv_zMc_6_0) ?_
      have w3 := ib7_0 hI
      refine zs_get (pc := 104) t99_104 (by decide) (zk1 (hs.k fk_zMc_7)) (zfvi rfl rfl) ?_
      exact zs_iret (pc := 107) t99_107 mr99 rfl (hQ _ _ hs hI (zFr.refl) (zrg _).1 (zrg _).2)
    by_cases w4 : a.toInt = 1
    · refine zs_tswI (pc := 23) t99_23 ((rfl : a.toInt = a.toInt).trans w4) (by decide) rfl (pc2 := 108) rfl ?_
      refine zs_aload_n (pc := 108) t99_108 rfl ?_
      refine zs_get (pc := 109) t99_109 (by decide) (zk1 (hs.k fk_zMc_6)) (hs.p rfl fv_zMc_6_0) ?_
      refine zs_invV (pc := 112) (k := 7) (as' := []) (st := []) t99_112 mf100 rfl rfl (Or.inl ⟨by decide, (zk1 (hs.k fk_zMc_7))⟩) ⟨by decide, by decide, Nat.le_of_ble_eq_true rfl, Nat.le_of_ble_eq_true rfl⟩ (C100_7 hs hI ?_) (fun _ _ q => q)
      intro w5v w5a w5b
      show zGo X l 3 0 0 99 115 [(0, .ref 6), (1, .int a)] [.int w5v] M _
      exact zs_iret (pc := 115) t99_115 mr99 rfl (hQ _ _ hs hI (zFr.refl) (zrg _).1 (zrg _).2)
    by_cases w6 : a.toInt = 2
    · refine zs_tswI (pc := 23) t99_23 ((rfl : a.toInt = a.toInt).trans w6) (by decide) rfl (pc2 := 116) rfl ?_
      refine zs_aload_n (pc := 116) t99_116 rfl ?_
      refine zs_get (pc := 117) t99_117 (by decide) (zk1 (hs.k fk_zMc_6)) (hs.p rfl fv_zMc_6_0) ?_
      have w7 := ib7_3 hI
      refine zs_get (pc := 120) t99_120 (by decide) (zk1 (hs.k fk_zMc_7)) (zfvi rfl rfl) ?_
      exact zs_iret (pc := 123) t99_123 mr99 rfl (hQ _ _ hs hI (zFr.refl) (zrg _).1 (zrg _).2)
    by_cases w8 : a.toInt = 3
    · refine zs_tswI (pc := 23) t99_23 ((rfl : a.toInt = a.toInt).trans w8) (by decide) rfl (pc2 := 124) rfl ?_
      refine zs_aload_n (pc := 124) t99_124 rfl ?_
      refine zs_get (pc := 125) t99_125 (by decide) (zk1 (hs.k fk_zMc_6)) (hs.p rfl fv_zMc_6_0) ?_
      refine zs_invV (pc := 128) (k := 7) (as' := []) (st := []) t99_128 mf92 rfl rfl (Or.inl ⟨by decide, (zk1 (hs.k fk_zMc_7))⟩) ⟨by decide, by decide, Nat.le_of_ble_eq_true rfl, Nat.le_of_ble_eq_true rfl⟩ (C92_7 hs hI ?_) (fun _ _ q => q)
      intro w9v w9a w9b
      show zGo X l 3 0 0 99 131 [(0, .ref 6), (1, .int a)] [.int w9v] M _
      exact zs_iret (pc := 131) t99_131 mr99 rfl (hQ _ _ hs hI (zFr.refl) (zrg _).1 (zrg _).2)
    by_cases w10 : a.toInt = 4
    · refine zs_tswI (pc := 23) t99_23 ((rfl : a.toInt = a.toInt).trans w10) (by decide) rfl (pc2 := 132) rfl ?_
      refine zs_aload_n (pc := 132) t99_132 rfl ?_
      refine zs_get (pc := 133) t99_133 (by decide) (zk1 (hs.k fk_zMc_6)) (hs.p rfl fv_zMc_6_0) ?_
      have w11 := ib7_8 hI
      refine zs_get (pc := 136) t99_136 (by decide) (zk1 (hs.k fk_zMc_7)) (zfvi rfl rfl) ?_
      exact zs_iret (pc := 139) t99_139 mr99 rfl (hQ _ _ hs hI (zFr.refl) (zrg _).1 (zrg _).2)
    refine zs_tswD (pc := 23) t99_23 rfl (by omega) (pc2 := 156) rfl ?_
    refine zs_iconst (pc := 156) t99_156 (v := -1) (by decide) ?_
    exact zs_iret (pc := 157) t99_157 mr99 (by decide) (hQ _ _ hs hI (zFr.refl) (zrg _).1 (zrg _).2)
  · refine zs_icmp_ltF (pc := 2) t99_2 rfl li5 (by omega) ?_
    refine zs_iload_n (pc := 5) t99_5 rfl ?_
    refine zs_bipush (pc := 6) t99_6 (v := 14) (by decide) ?_
    by_cases w12 : 14 ≤ a.toInt
    · refine zs_icmp_geT (pc := 8) t99_8 rfl li14 (by omega) ?_
      refine zs_iload_n (pc := 22) t99_22 rfl ?_
      by_cases w13 : a.toInt = 14
      · refine zs_tswI (pc := 23) t99_23 ((rfl : a.toInt = a.toInt).trans w13) (by decide) rfl (pc2 := 140) rfl ?_
        refine zs_aload_n (pc := 140) t99_140 rfl ?_
        refine zs_get (pc := 141) t99_141 (by decide) (zk1 (hs.k fk_zMc_6)) (hs.p rfl fv_zMc_6_2) ?_
        refine zs_invV (pc := 144) (k := 31) (as' := []) (st := []) t99_144 mf101 rfl rfl (Or.inl ⟨by decide, (zk1 (hs.k fk_zMc_31))⟩) ⟨by decide, by decide, Nat.le_of_ble_eq_true rfl, Nat.le_of_ble_eq_true rfl⟩ (zs_in (by decide) mf101 (Nat.le_of_ble_eq_true rfl) ?_) (fun _ _ q => q)
        show zGo X l 0 0 0 101 0 [(0, .ref 31)] [] M _
        refine zs_aload_n (pc := 0) t101_0 rfl ?_
        have w14 := ib31_2 hI
        refine zs_get (pc := 1) t101_1 (by decide) (zk1 (hs.k fk_zMc_31)) (zfvi rfl rfl) ?_
        refine zs_iret (pc := 4) t101_4 mr101 rfl ?_
        show zGo X l 3 0 0 99 147 [(0, .ref 6), (1, .int a)] [.int (zI M 31 2)] M _
        exact zs_iret (pc := 147) t99_147 mr99 rfl (hQ _ _ hs hI (zFr.refl) (zrg _).1 (zrg _).2)
      by_cases w15 : a.toInt = 15
      · refine zs_tswI (pc := 23) t99_23 ((rfl : a.toInt = a.toInt).trans w15) (by decide) rfl (pc2 := 148) rfl ?_
        refine zs_aload_n (pc := 148) t99_148 rfl ?_
        refine zs_get (pc := 149) t99_149 (by decide) (zk1 (hs.k fk_zMc_6)) (hs.p rfl fv_zMc_6_3) ?_
        refine zs_invV (pc := 152) (k := 155) (as' := []) (st := []) t99_152 mf17 rfl rfl (Or.inl ⟨by decide, (zk1 (hs.k fk_zMc_155))⟩) ⟨by decide, by decide, Nat.le_of_ble_eq_true rfl, Nat.le_of_ble_eq_true rfl⟩ (zs_in (by decide) mf17 (Nat.le_of_ble_eq_true rfl) ?_) (fun _ _ q => q)
        show zGo X l 0 0 0 17 0 [(0, .ref 155)] [] M _
        refine zs_aload_n (pc := 0) t17_0 rfl ?_
        have w16 := ib155_1 hI
        refine zs_get (pc := 1) t17_1 (by decide) (zk1 (hs.k fk_zMc_155)) (zfvi rfl rfl) ?_
        refine zs_iret (pc := 4) t17_4 mr17 rfl ?_
        show zGo X l 3 0 0 99 155 [(0, .ref 6), (1, .int a)] [.int (zI M 155 1)] M _
        exact zs_iret (pc := 155) t99_155 mr99 rfl (hQ _ _ hs hI (zFr.refl) (zrg _).1 (zrg _).2)
      refine zs_tswD (pc := 23) t99_23 rfl (by omega) (pc2 := 156) rfl ?_
      refine zs_iconst (pc := 156) t99_156 (v := -1) (by decide) ?_
      exact zs_iret (pc := 157) t99_157 mr99 (by decide) (hQ _ _ hs hI (zFr.refl) (zrg _).1 (zrg _).2)
    · refine zs_icmp_geF (pc := 8) t99_8 rfl li14 (by omega) ?_
      refine zs_aload_n (pc := 11) t99_11 rfl ?_
      refine zs_get (pc := 12) t99_12 (by decide) (zk1 (hs.k fk_zMc_6)) (hs.p rfl fv_zMc_6_0) ?_
      refine zs_iload_n (pc := 15) t99_15 rfl ?_
      refine zs_iconst (pc := 16) t99_16 (v := 5) (by decide) ?_
      obtain ⟨w17v, w17e, w17⟩ := zisub (a := a) (b := (5 : Int32)) rfl li5 (by omega) (by omega)
      refine zs_isub (pc := 17) t99_17 (c := w17v) w17e ?_
      refine zs_invV (pc := 18) (k := 7) (as' := [.int w17v]) (st := []) t99_18 mf96 rfl rfl (Or.inl ⟨by decide, (zk1 (hs.k fk_zMc_7))⟩) ⟨by decide, by decide, Nat.le_of_ble_eq_true rfl, Nat.le_of_ble_eq_true rfl⟩ (zs_in (by decide) mf96 (Nat.le_of_ble_eq_true rfl) ?_) (fun _ _ q => q)
      show zGo X l 0 0 0 96 0 [(0, .ref 7), (1, .int w17v)] [] M _
      refine zs_iload_n (pc := 0) t96_0 rfl ?_
      refine zs_if_ltF (pc := 1) t96_1 w17 (by omega) ?_
      refine zs_iload_n (pc := 4) t96_4 rfl ?_
      refine zs_bipush (pc := 5) t96_5 (v := 9) (by decide) ?_
      refine zs_icmp_geF (pc := 7) t96_7 w17 li9 (by omega) ?_
      refine zs_aload_n (pc := 10) t96_10 rfl ?_
      refine zs_get (pc := 11) t96_11 (by decide) (zk1 (hs.k fk_zMc_7)) (hs.p rfl fv_zMc_7_12) ?_
      refine zs_iload_n (pc := 14) t96_14 rfl ?_
      obtain ⟨w18n, w18⟩ : ∃ n : Nat, w17v.toInt = (n : Int) := ⟨w17v.toInt.toNat, by omega⟩
      have w19 := ib17 hI w18n
      refine zs_iald (pc := 15) t96_15 (j := w18n) (by decide) (zk1 (hs.k fk_zMc_17)) w18 (zk2 (hs.k fk_zMc_17) (by omega)) rfl ?_
      refine zs_goto (pc := 16) t96_16 ?_
      refine zs_iret (pc := 20) t96_20 mr96 rfl ?_
      show zGo X l 3 0 0 99 21 [(0, .ref 6), (1, .int a)] [.int (zI M 17 w18n)] M _
      exact zs_iret (pc := 21) t99_21 mr99 rfl (hQ _ _ hs hI (zFr.refl) (zrg _).1 (zrg _).2)
theorem C102_6 {X : zX} {l : Launch} {M : zM} {Q : Option Value → zM → Prop} {a b : Int32} (hs : zSk zMc M) (hI : zIv cLo cHi M) (hQ : ∀ (M' : zM) (v : Int32), zSk zMc M' → zIv cLo cHi M' → zFr [(6, 335, none)] M M' → (-2147483648) ≤ v.toInt → v.toInt ≤ 2147483647 → Q (some (.int v)) M') : zCall X l 3 0 0 102 [.ref 6, .int a, .int b] M Q := by
  have ga := zrg a
  have gb := zrg b
  refine zs_in (by decide) mf102 (Nat.le_of_ble_eq_true rfl) ?_
  show zGo X l 3 0 0 102 0 [(0, .ref 6), (1, .int a), (2, .int b)] [] M _
  refine zs_aload_n (pc := 0) t102_0 rfl ?_
  refine zs_get (pc := 1) t102_1 (by decide) (zk1 (hs.k fk_zMc_6)) (hs.p rfl fv_zMc_6_0) ?_
  refine zs_iload_n (pc := 4) t102_4 rfl ?_
  refine zs_invV (pc := 5) (k := 7) (as' := [.int a]) (st := []) t102_5 mf41 rfl rfl (Or.inl ⟨by decide, (zk1 (hs.k fk_zMc_7))⟩) ⟨by decide, by decide, Nat.le_of_ble_eq_true rfl, Nat.le_of_ble_eq_true rfl⟩ (zs_in (by decide) mf41 (Nat.le_of_ble_eq_true rfl) ?_) (fun _ _ q => q)
  show zGo X l 0 0 0 41 0 [(0, .ref 7), (1, .int a)] [] M _
  refine zs_iload_n (pc := 0) t41_0 rfl ?_
  by_cases w1 : a.toInt < 0
  · refine zs_if_ltT (pc := 1) t41_1 rfl (by omega) ?_
    refine zs_iconst (pc := 16) t41_16 (v := 0) (by decide) ?_
    refine zs_iret (pc := 17) t41_17 mr41 (by decide) ?_
    show zGo X l 3 0 0 102 8 [(0, .ref 6), (1, .int a), (2, .int b)] [.int (0 : Int32)] M _
    refine zs_if_neF (pc := 8) t102_8 li0 (by decide) ?_
    refine zs_iconst (pc := 11) t102_11 (v := -1) (by decide) ?_
    exact zs_iret (pc := 12) t102_12 mr102 (by decide) (hQ _ _ hs hI (zFr.refl) (zrg _).1 (zrg _).2)
  · refine zs_if_ltF (pc := 1) t41_1 rfl (by omega) ?_
    refine zs_iload_n (pc := 4) t41_4 rfl ?_
    refine zs_aload_n (pc := 5) t41_5 rfl ?_
    have w2 := ib7_0 hI
    refine zs_get (pc := 6) t41_6 (by decide) (zk1 (hs.k fk_zMc_7)) (zfvi rfl rfl) ?_
    by_cases w3 : (zI M 7 0).toInt ≤ a.toInt
    · refine zs_icmp_geT (pc := 9) t41_9 rfl rfl (by omega) ?_
      refine zs_iconst (pc := 16) t41_16 (v := 0) (by decide) ?_
      refine zs_iret (pc := 17) t41_17 mr41 (by decide) ?_
      show zGo X l 3 0 0 102 8 [(0, .ref 6), (1, .int a), (2, .int b)] [.int (0 : Int32)] M _
      refine zs_if_neF (pc := 8) t102_8 li0 (by decide) ?_
      refine zs_iconst (pc := 11) t102_11 (v := -1) (by decide) ?_
      exact zs_iret (pc := 12) t102_12 mr102 (by decide) (hQ _ _ hs hI (zFr.refl) (zrg _).1 (zrg _).2)
    · refine zs_icmp_geF (pc := 9) t41_9 rfl rfl (by omega) ?_
      refine zs_iconst (pc := 12) t41_12 (v := 1) (by decide) ?_
      refine zs_goto (pc := 13) t41_13 ?_
      refine zs_iret (pc := 17) t41_17 mr41 (by decide) ?_
      show zGo X l 3 0 0 102 8 [(0, .ref 6), (1, .int a), (2, .int b)] [.int (1 : Int32)] M _
      refine zs_if_neT (pc := 8) t102_8 li1 (by decide) ?_
      refine zs_iload_n (pc := 13) t102_13 rfl ?_
      by_cases w4 : b.toInt = 0
      · refine zs_tswI (pc := 14) t102_14 ((rfl : b.toInt = b.toInt).trans w4) (by decide) rfl (pc2 := 40) rfl ?_
        refine zs_aload_n (pc := 40) t102_40 rfl ?_
        refine zs_get (pc := 41) t102_41 (by decide) (zk1 (hs.k fk_zMc_6)) (hs.p rfl fv_zMc_6_0) ?_
        refine zs_get (pc := 44) t102_44 (by decide) (zk1 (hs.k fk_zMc_7)) (hs.p rfl fv_zMc_7_1) ?_
        refine zs_iload_n (pc := 47) t102_47 rfl ?_
        obtain ⟨w5n, w5⟩ : ∃ n : Nat, a.toInt = (n : Int) := ⟨a.toInt.toNat, by omega⟩
        have w6 := ib8 hI w5n
        refine zs_iald (pc := 48) t102_48 (j := w5n) (by decide) (zk1 (hs.k fk_zMc_8)) w5 (zk2 (hs.k fk_zMc_8) (by omega)) rfl ?_
        exact zs_iret (pc := 49) t102_49 mr102 rfl (hQ _ _ hs hI (zFr.refl) (zrg _).1 (zrg _).2)
      by_cases w7 : b.toInt = 1
      · refine zs_tswI (pc := 14) t102_14 ((rfl : b.toInt = b.toInt).trans w7) (by decide) rfl (pc2 := 50) rfl ?_
        refine zs_aload_n (pc := 50) t102_50 rfl ?_
        refine zs_get (pc := 51) t102_51 (by decide) (zk1 (hs.k fk_zMc_6)) (hs.p rfl fv_zMc_6_0) ?_
        refine zs_get (pc := 54) t102_54 (by decide) (zk1 (hs.k fk_zMc_7)) (hs.p rfl fv_zMc_7_2) ?_
        refine zs_iload_n (pc := 57) t102_57 rfl ?_
        obtain ⟨w8n, w8⟩ : ∃ n : Nat, a.toInt = (n : Int) := ⟨a.toInt.toNat, by omega⟩
        have w9 := ib9 hI w8n
        refine zs_bald (pc := 58) t102_58 (j := w8n) (Or.inr (zk1 (hs.k fk_zMc_9))) w8 (zk2 (hs.k fk_zMc_9) (by omega)) rfl ?_
        by_cases w10 : (zI M 9 w8n).toInt = 0
        · refine zs_if_eqT (pc := 59) t102_59 rfl (by omega) ?_
          refine zs_iconst (pc := 66) t102_66 (v := 0) (by decide) ?_
          exact zs_iret (pc := 67) t102_67 mr102 (by decide) (hQ _ _ hs hI (zFr.refl) (zrg _).1 (zrg _).2)
        · refine zs_if_eqF (pc := 59) t102_59 rfl (by omega) ?_
          refine zs_iconst (pc := 62) t102_62 (v := 1) (by decide) ?_
          refine zs_goto (pc := 63) t102_63 ?_
          exact zs_iret (pc := 67) t102_67 mr102 (by decide) (hQ _ _ hs hI (zFr.refl) (zrg _).1 (zrg _).2)
      by_cases w11 : b.toInt = 2
      · refine zs_tswI (pc := 14) t102_14 ((rfl : b.toInt = b.toInt).trans w11) (by decide) rfl (pc2 := 68) rfl ?_
        refine zs_aload_n (pc := 68) t102_68 rfl ?_
        refine zs_get (pc := 69) t102_69 (by decide) (zk1 (hs.k fk_zMc_6)) (hs.p rfl fv_zMc_6_0) ?_
        refine zs_iload_n (pc := 72) t102_72 rfl ?_
        refine zs_invV (pc := 73) (k := 7) (as' := [.int a]) (st := []) t102_73 mf103 rfl rfl (Or.inl ⟨by decide, (zk1 (hs.k fk_zMc_7))⟩) ⟨by decide, by decide, Nat.le_of_ble_eq_true rfl, Nat.le_of_ble_eq_true rfl⟩ (C103_7 hs hI ?_) (fun _ _ q => q)
        intro w12v w12a w12b
        show zGo X l 3 0 0 102 76 [(0, .ref 6), (1, .int a), (2, .int b)] [.int w12v] M _
        exact zs_iret (pc := 76) t102_76 mr102 rfl (hQ _ _ hs hI (zFr.refl) (zrg _).1 (zrg _).2)
      refine zs_tswD (pc := 14) t102_14 rfl (by omega) (pc2 := 77) rfl ?_
      refine zs_iconst (pc := 77) t102_77 (v := -1) (by decide) ?_
      exact zs_iret (pc := 78) t102_78 mr102 (by decide) (hQ _ _ hs hI (zFr.refl) (zrg _).1 (zrg _).2)
theorem C104_6 {X : zX} {l : Launch} {M : zM} {Q : Option Value → zM → Prop} {a b : Int32} (hs : zSk zMc M) (hI : zIv cLo cHi M) (hQ : ∀ (M' : zM) (v : Int32), zSk zMc M' → zIv cLo cHi M' → zFr [(6, 335, none)] M M' → (-2147483648) ≤ v.toInt → v.toInt ≤ 2147483647 → Q (some (.int v)) M') : zCall X l 6 0 0 104 [.ref 6, .int a, .int b] M Q := by
  have ga := zrg a
  have gb := zrg b
  refine zs_in (by decide) mf104 (Nat.le_of_ble_eq_true rfl) ?_
  show zGo X l 6 0 0 104 0 [(0, .ref 6), (1, .int a), (2, .int b)] [] M _
  refine zs_aload_n (pc := 0) t104_0 rfl ?_
  refine zs_get (pc := 1) t104_1 (by decide) (zk1 (hs.k fk_zMc_6)) (hs.p rfl fv_zMc_6_0) ?_
  refine zs_iload_n (pc := 4) t104_4 rfl ?_
  refine zs_invV (pc := 5) (k := 7) (as' := [.int a]) (st := []) t104_5 mf91 rfl rfl (Or.inl ⟨by decide, (zk1 (hs.k fk_zMc_7))⟩) ⟨by decide, by decide, Nat.le_of_ble_eq_true rfl, Nat.le_of_ble_eq_true rfl⟩ (zs_in (by decide) mf91 (Nat.le_of_ble_eq_true rfl) ?_) (fun _ _ q => q)
  show zGo X l 0 0 0 91 0 [(0, .ref 7), (1, .int a)] [] M _
  refine zs_iload_n (pc := 0) t91_0 rfl ?_
  by_cases w1 : a.toInt < 0
  · refine zs_if_ltT (pc := 1) t91_1 rfl (by omega) ?_
    refine zs_iconst (pc := 16) t91_16 (v := 0) (by decide) ?_
    refine zs_iret (pc := 17) t91_17 mr91 (by decide) ?_
    show zGo X l 6 0 0 104 8 [(0, .ref 6), (1, .int a), (2, .int b)] [.int (0 : Int32)] M _
    refine zs_if_neF (pc := 8) t104_8 li0 (by decide) ?_
    refine zs_ldc (pc := 11) t104_11 (v := -100000) rfl (by decide) ?_
    exact zs_iret (pc := 13) t104_13 mr104 (by decide) (hQ _ _ hs hI (zFr.refl) (zrg _).1 (zrg _).2)
  · refine zs_if_ltF (pc := 1) t91_1 rfl (by omega) ?_
    refine zs_iload_n (pc := 4) t91_4 rfl ?_
    refine zs_aload_n (pc := 5) t91_5 rfl ?_
    have w2 := ib7_3 hI
    refine zs_get (pc := 6) t91_6 (by decide) (zk1 (hs.k fk_zMc_7)) (zfvi rfl rfl) ?_
    by_cases w3 : (zI M 7 3).toInt ≤ a.toInt
    · refine zs_icmp_geT (pc := 9) t91_9 rfl rfl (by omega) ?_
      refine zs_iconst (pc := 16) t91_16 (v := 0) (by decide) ?_
      refine zs_iret (pc := 17) t91_17 mr91 (by decide) ?_
      show zGo X l 6 0 0 104 8 [(0, .ref 6), (1, .int a), (2, .int b)] [.int (0 : Int32)] M _
      refine zs_if_neF (pc := 8) t104_8 li0 (by decide) ?_
      refine zs_ldc (pc := 11) t104_11 (v := -100000) rfl (by decide) ?_
      exact zs_iret (pc := 13) t104_13 mr104 (by decide) (hQ _ _ hs hI (zFr.refl) (zrg _).1 (zrg _).2)
    · refine zs_icmp_geF (pc := 9) t91_9 rfl rfl (by omega) ?_
      refine zs_iconst (pc := 12) t91_12 (v := 1) (by decide) ?_
      refine zs_goto (pc := 13) t91_13 ?_
      refine zs_iret (pc := 17) t91_17 mr91 (by decide) ?_
      show zGo X l 6 0 0 104 8 [(0, .ref 6), (1, .int a), (2, .int b)] [.int (1 : Int32)] M _
      refine zs_if_neT (pc := 8) t104_8 li1 (by decide) ?_
      refine zs_iload_n (pc := 14) t104_14 rfl ?_
      by_cases w4 : b.toInt = 0
      · refine zs_tswI (pc := 15) t104_15 ((rfl : b.toInt = b.toInt).trans w4) (by decide) rfl (pc2 := 52) rfl ?_
        refine zs_aload_n (pc := 52) t104_52 rfl ?_
        refine zs_get (pc := 53) t104_53 (by decide) (zk1 (hs.k fk_zMc_6)) (hs.p rfl fv_zMc_6_0) ?_
        refine zs_get (pc := 56) t104_56 (by decide) (zk1 (hs.k fk_zMc_7)) (hs.p rfl fv_zMc_7_4) ?_
        refine zs_iload_n (pc := 59) t104_59 rfl ?_
        obtain ⟨w5n, w5⟩ : ∃ n : Nat, a.toInt = (n : Int) := ⟨a.toInt.toNat, by omega⟩
        have w6 := ib10 hI w5n
        refine zs_iald (pc := 60) t104_60 (j := w5n) (by decide) (zk1 (hs.k fk_zMc_10)) w5 (zk2 (hs.k fk_zMc_10) (by omega)) rfl ?_
        exact zs_iret (pc := 61) t104_61 mr104 rfl (hQ _ _ hs hI (zFr.refl) (zrg _).1 (zrg _).2)
      by_cases w7 : b.toInt = 1
      · refine zs_tswI (pc := 15) t104_15 ((rfl : b.toInt = b.toInt).trans w7) (by decide) rfl (pc2 := 62) rfl ?_
        refine zs_aload_n (pc := 62) t104_62 rfl ?_
        refine zs_get (pc := 63) t104_63 (by decide) (zk1 (hs.k fk_zMc_6)) (hs.p rfl fv_zMc_6_0) ?_
        refine zs_get (pc := 66) t104_66 (by decide) (zk1 (hs.k fk_zMc_7)) (hs.p rfl fv_zMc_7_5) ?_
        refine zs_iload_n (pc := 69) t104_69 rfl ?_
        obtain ⟨w8n, w8⟩ : ∃ n : Nat, a.toInt = (n : Int) := ⟨a.toInt.toNat, by omega⟩
        have w9 := ib11 hI w8n
        refine zs_iald (pc := 70) t104_70 (j := w8n) (by decide) (zk1 (hs.k fk_zMc_11)) w8 (zk2 (hs.k fk_zMc_11) (by omega)) rfl ?_
        exact zs_iret (pc := 71) t104_71 mr104 rfl (hQ _ _ hs hI (zFr.refl) (zrg _).1 (zrg _).2)
      by_cases w10 : b.toInt = 2
      · refine zs_tswI (pc := 15) t104_15 ((rfl : b.toInt = b.toInt).trans w10) (by decide) rfl (pc2 := 72) rfl ?_
        refine zs_aload_n (pc := 72) t104_72 rfl ?_
        refine zs_get (pc := 73) t104_73 (by decide) (zk1 (hs.k fk_zMc_6)) (hs.p rfl fv_zMc_6_0) ?_
        refine zs_get (pc := 76) t104_76 (by decide) (zk1 (hs.k fk_zMc_7)) (hs.p rfl fv_zMc_7_6) ?_
        refine zs_iload_n (pc := 79) t104_79 rfl ?_
        obtain ⟨w11n, w11⟩ : ∃ n : Nat, a.toInt = (n : Int) := ⟨a.toInt.toNat, by omega⟩
        have w12 := ib12 hI w11n
        refine zs_iald (pc := 80) t104_80 (j := w11n) (by decide) (zk1 (hs.k fk_zMc_12)) w11 (zk2 (hs.k fk_zMc_12) (by omega)) rfl ?_
        exact zs_iret (pc := 81) t104_81 mr104 rfl (hQ _ _ hs hI (zFr.refl) (zrg _).1 (zrg _).2)
      by_cases w13 : b.toInt = 3
      · refine zs_tswI (pc := 15) t104_15 ((rfl : b.toInt = b.toInt).trans w13) (by decide) rfl (pc2 := 82) rfl ?_
        refine zs_aload_n (pc := 82) t104_82 rfl ?_
        refine zs_get (pc := 83) t104_83 (by decide) (zk1 (hs.k fk_zMc_6)) (hs.p rfl fv_zMc_6_0) ?_
        refine zs_get (pc := 86) t104_86 (by decide) (zk1 (hs.k fk_zMc_7)) (hs.p rfl fv_zMc_7_7) ?_
        refine zs_iload_n (pc := 89) t104_89 rfl ?_
        obtain ⟨w14n, w14⟩ : ∃ n : Nat, a.toInt = (n : Int) := ⟨a.toInt.toNat, by omega⟩
        have w15 := ib13 hI w14n
        refine zs_iald (pc := 90) t104_90 (j := w14n) (by decide) (zk1 (hs.k fk_zMc_13)) w14 (zk2 (hs.k fk_zMc_13) (by omega)) rfl ?_
        exact zs_iret (pc := 91) t104_91 mr104 rfl (hQ _ _ hs hI (zFr.refl) (zrg _).1 (zrg _).2)
      by_cases w16 : b.toInt = 4
      · refine zs_tswI (pc := 15) t104_15 ((rfl : b.toInt = b.toInt).trans w16) (by decide) rfl (pc2 := 92) rfl ?_
        refine zs_aload_n (pc := 92) t104_92 rfl ?_
        refine zs_get (pc := 93) t104_93 (by decide) (zk1 (hs.k fk_zMc_6)) (hs.p rfl fv_zMc_6_0) ?_
        refine zs_iload_n (pc := 96) t104_96 rfl ?_
        refine zs_invV (pc := 97) (k := 7) (as' := [.int a]) (st := []) t104_97 mf93 rfl rfl (Or.inl ⟨by decide, (zk1 (hs.k fk_zMc_7))⟩) ⟨by decide, by decide, Nat.le_of_ble_eq_true rfl, Nat.le_of_ble_eq_true rfl⟩ (zs_in (by decide) mf93 (Nat.le_of_ble_eq_true rfl) ?_) (fun _ _ q => q)
        show zGo X l 1 0 0 93 0 [(0, .ref 7), (1, .int a)] [] M _
        refine zs_aload_n (pc := 0) t93_0 rfl ?_
        refine zs_iload_n (pc := 1) t93_1 rfl ?_
        refine zs_invV (pc := 2) (k := 7) (as' := [.int a]) (st := []) t93_2 mf91 rfl rfl (Or.inl ⟨by decide, (zk1 (hs.k fk_zMc_7))⟩) ⟨by decide, by decide, Nat.le_of_ble_eq_true rfl, Nat.le_of_ble_eq_true rfl⟩ (zs_in (by decide) mf91 (Nat.le_of_ble_eq_true rfl) ?_) (fun _ _ q => q)
        show zGo X l 0 0 0 91 0 [(0, .ref 7), (1, .int a)] [] M _
        refine zs_iload_n (pc := 0) t91_0 rfl ?_
        refine zs_if_ltF (pc := 1) t91_1 rfl (by omega) ?_
        refine zs_iload_n (pc := 4) t91_4 rfl ?_
        refine zs_aload_n (pc := 5) t91_5 rfl ?_
        refine zs_get (pc := 6) t91_6 (by decide) (zk1 (hs.k fk_zMc_7)) (zfvi rfl rfl) ?_
        by_cases w17 : (zI M 7 3).toInt ≤ a.toInt
        · refine zs_icmp_geT (pc := 9) t91_9 rfl rfl (by omega) ?_
          refine zs_iconst (pc := 16) t91_16 (v := 0) (by decide) ?_
          refine zs_iret (pc := 17) t91_17 mr91 (by decide) ?_
          show zGo X l 1 0 0 93 5 [(0, .ref 7), (1, .int a)] [.int (0 : Int32)] M _
          refine zs_if_eqT (pc := 5) t93_5 li0 (by decide) ?_
          refine zs_iconst (pc := 51) t93_51 (v := 0) (by decide) ?_
          refine zs_iret (pc := 52) t93_52 mr93 (by decide) ?_
          show zGo X l 6 0 0 104 100 [(0, .ref 6), (1, .int a), (2, .int b)] [.int (0 : Int32)] M _
          refine zs_if_eqT (pc := 100) t104_100 li0 (by decide) ?_
          refine zs_iconst (pc := 107) t104_107 (v := 0) (by decide) ?_
          exact zs_iret (pc := 108) t104_108 mr104 (by decide) (hQ _ _ hs hI (zFr.refl) (zrg _).1 (zrg _).2)
        · refine zs_icmp_geF (pc := 9) t91_9 rfl rfl (by omega) ?_
          refine zs_iconst (pc := 12) t91_12 (v := 1) (by decide) ?_
          refine zs_goto (pc := 13) t91_13 ?_
          refine zs_iret (pc := 17) t91_17 mr91 (by decide) ?_
          show zGo X l 1 0 0 93 5 [(0, .ref 7), (1, .int a)] [.int (1 : Int32)] M _
          refine zs_if_eqF (pc := 5) t93_5 li1 (by decide) ?_
          refine zs_aload_n (pc := 8) t93_8 rfl ?_
          refine zs_get (pc := 9) t93_9 (by decide) (zk1 (hs.k fk_zMc_7)) (hs.p rfl fv_zMc_7_2) ?_
          refine zs_aload_n (pc := 12) t93_12 rfl ?_
          refine zs_get (pc := 13) t93_13 (by decide) (zk1 (hs.k fk_zMc_7)) (hs.p rfl fv_zMc_7_4) ?_
          refine zs_iload_n (pc := 16) t93_16 rfl ?_
          obtain ⟨w18n, w18⟩ : ∃ n : Nat, a.toInt = (n : Int) := ⟨a.toInt.toNat, by omega⟩
          have w19 := ib10 hI w18n
          refine zs_iald (pc := 17) t93_17 (j := w18n) (by decide) (zk1 (hs.k fk_zMc_10)) w18 (zk2 (hs.k fk_zMc_10) (by omega)) rfl ?_
          obtain ⟨w20n, w20⟩ : ∃ n : Nat, (zI M 10 w18n).toInt = (n : Int) := ⟨(zI M 10 w18n).toInt.toNat, by omega⟩
          have w21 := ib9 hI w20n
          refine zs_bald (pc := 18) t93_18 (j := w20n) (Or.inr (zk1 (hs.k fk_zMc_9))) w20 (zk2 (hs.k fk_zMc_9) (by omega)) rfl ?_
          by_cases w22 : (zI M 9 w20n).toInt = 0
          · refine zs_if_eqT (pc := 19) t93_19 rfl (by omega) ?_
            refine zs_iconst (pc := 51) t93_51 (v := 0) (by decide) ?_
            refine zs_iret (pc := 52) t93_52 mr93 (by decide) ?_
            show zGo X l 6 0 0 104 100 [(0, .ref 6), (1, .int a), (2, .int b)] [.int (0 : Int32)] M _
            refine zs_if_eqT (pc := 100) t104_100 li0 (by decide) ?_
            refine zs_iconst (pc := 107) t104_107 (v := 0) (by decide) ?_
            exact zs_iret (pc := 108) t104_108 mr104 (by decide) (hQ _ _ hs hI (zFr.refl) (zrg _).1 (zrg _).2)
          · refine zs_if_eqF (pc := 19) t93_19 rfl (by omega) ?_
            refine zs_aload_n (pc := 22) t93_22 rfl ?_
            refine zs_get (pc := 23) t93_23 (by decide) (zk1 (hs.k fk_zMc_7)) (hs.p rfl fv_zMc_7_6) ?_
            refine zs_iload_n (pc := 26) t93_26 rfl ?_
            have w23 := ib12 hI w18n
            refine zs_iald (pc := 27) t93_27 (j := w18n) (by decide) (zk1 (hs.k fk_zMc_12)) w18 (zk2 (hs.k fk_zMc_12) (by omega)) rfl ?_
            refine zs_aload_n (pc := 28) t93_28 rfl ?_
            refine zs_get (pc := 29) t93_29 (by decide) (zk1 (hs.k fk_zMc_7)) (hs.p rfl fv_zMc_7_12) ?_
            refine zs_iconst (pc := 32) t93_32 (v := 5) (by decide) ?_
            have w24 := ib17 hI 5
            refine zs_iald (pc := 33) t93_33 (j := 5) (by decide) (zk1 (hs.k fk_zMc_17)) li5 (zk2 (hs.k fk_zMc_17) (by decide)) rfl ?_
            refine zs_aload_n (pc := 34) t93_34 rfl ?_
            refine zs_get (pc := 35) t93_35 (by decide) (zk1 (hs.k fk_zMc_7)) (hs.p rfl fv_zMc_7_12) ?_
            refine zs_bipush (pc := 38) t93_38 (v := 6) (by decide) ?_
            have w25 := ib17 hI 6
            refine zs_iald (pc := 40) t93_40 (j := 6) (by decide) (zk1 (hs.k fk_zMc_17)) li6 (zk2 (hs.k fk_zMc_17) (by decide)) rfl ?_
            refine zs_invS (pc := 41) (as := [.int (zI M 12 w18n), .int (zI M 17 5), .int (zI M 17 6)]) (st := []) t93_41 (by decide) mf39 rfl rfl ⟨by decide, by decide, Nat.le_of_ble_eq_true rfl, Nat.le_of_ble_eq_true rfl⟩ (zs_in (by decide) mf39 (Nat.le_of_ble_eq_true rfl) ?_) (fun _ _ q => q)
            show zGo X l 0 0 0 39 0 [(0, .int (zI M 12 w18n)), (1, .int (zI M 17 5)), (2, .int (zI M 17 6))] [] M _
            refine zs_iload_n (pc := 0) t39_0 rfl ?_
            refine zs_iload_n (pc := 1) t39_1 rfl ?_
            by_cases w26 : (zI M 12 w18n).toInt < (zI M 17 5).toInt
            · refine zs_icmp_ltT (pc := 2) t39_2 rfl rfl (by omega) ?_
              refine zs_iconst (pc := 14) t39_14 (v := 0) (by decide) ?_
              refine zs_iret (pc := 15) t39_15 mr39 (by decide) ?_
              show zGo X l 1 0 0 93 44 [(0, .ref 7), (1, .int a)] [.int (0 : Int32)] M _
              refine zs_if_eqT (pc := 44) t93_44 li0 (by decide) ?_
              refine zs_iconst (pc := 51) t93_51 (v := 0) (by decide) ?_
              refine zs_iret (pc := 52) t93_52 mr93 (by decide) ?_
              show zGo X l 6 0 0 104 100 [(0, .ref 6), (1, .int a), (2, .int b)] [.int (0 : Int32)] M _
              refine zs_if_eqT (pc := 100) t104_100 li0 (by decide) ?_
              refine zs_iconst (pc := 107) t104_107 (v := 0) (by decide) ?_
              exact zs_iret (pc := 108) t104_108 mr104 (by decide) (hQ _ _ hs hI (zFr.refl) (zrg _).1 (zrg _).2)
            · refine zs_icmp_ltF (pc := 2) t39_2 rfl rfl (by omega) ?_
              refine zs_iload_n (pc := 5) t39_5 rfl ?_
              refine zs_iload_n (pc := 6) t39_6 rfl ?_
              by_cases w27 : (zI M 17 6).toInt < (zI M 12 w18n).toInt
              · refine zs_icmp_gtT (pc := 7) t39_7 rfl rfl (by omega) ?_
                refine zs_iconst (pc := 14) t39_14 (v := 0) (by decide) ?_
                refine zs_iret (pc := 15) t39_15 mr39 (by decide) ?_
                show zGo X l 1 0 0 93 44 [(0, .ref 7), (1, .int a)] [.int (0 : Int32)] M _
                refine zs_if_eqT (pc := 44) t93_44 li0 (by decide) ?_
                refine zs_iconst (pc := 51) t93_51 (v := 0) (by decide) ?_
                refine zs_iret (pc := 52) t93_52 mr93 (by decide) ?_
                show zGo X l 6 0 0 104 100 [(0, .ref 6), (1, .int a), (2, .int b)] [.int (0 : Int32)] M _
                refine zs_if_eqT (pc := 100) t104_100 li0 (by decide) ?_
                refine zs_iconst (pc := 107) t104_107 (v := 0) (by decide) ?_
                exact zs_iret (pc := 108) t104_108 mr104 (by decide) (hQ _ _ hs hI (zFr.refl) (zrg _).1 (zrg _).2)
              · refine zs_icmp_gtF (pc := 7) t39_7 rfl rfl (by omega) ?_
                refine zs_iconst (pc := 10) t39_10 (v := 1) (by decide) ?_
                refine zs_goto (pc := 11) t39_11 ?_
                refine zs_iret (pc := 15) t39_15 mr39 (by decide) ?_
                show zGo X l 1 0 0 93 44 [(0, .ref 7), (1, .int a)] [.int (1 : Int32)] M _
                refine zs_if_eqF (pc := 44) t93_44 li1 (by decide) ?_
                refine zs_iconst (pc := 47) t93_47 (v := 1) (by decide) ?_
                refine zs_goto (pc := 48) t93_48 ?_
                refine zs_iret (pc := 52) t93_52 mr93 (by decide) ?_
                show zGo X l 6 0 0 104 100 [(0, .ref 6), (1, .int a), (2, .int b)] [.int (1 : Int32)] M _
                refine zs_if_eqF (pc := 100) t104_100 li1 (by decide) ?_
                refine zs_iconst (pc := 103) t104_103 (v := 1) (by decide) ?_
                refine zs_goto (pc := 104) t104_104 ?_
                exact zs_iret (pc := 108) t104_108 mr104 (by decide) (hQ _ _ hs hI (zFr.refl) (zrg _).1 (zrg _).2)
      by_cases w28 : b.toInt = 5
      · refine zs_tswI (pc := 15) t104_15 ((rfl : b.toInt = b.toInt).trans w28) (by decide) rfl (pc2 := 109) rfl ?_
        refine zs_aload_n (pc := 109) t104_109 rfl ?_
        refine zs_get (pc := 110) t104_110 (by decide) (zk1 (hs.k fk_zMc_6)) (hs.p rfl fv_zMc_6_6) ?_
        refine zs_aload_n (pc := 113) t104_113 rfl ?_
        refine zs_get (pc := 114) t104_114 (by decide) (zk1 (hs.k fk_zMc_6)) (hs.p rfl fv_zMc_6_0) ?_
        refine zs_invV (pc := 117) (k := 164) (as' := [.ref 7]) (st := []) t104_117 mf105 rfl rfl (Or.inl ⟨by decide, (zk1 (hs.k fk_zMc_164))⟩) ⟨by decide, by decide, Nat.le_of_ble_eq_true rfl, Nat.le_of_ble_eq_true rfl⟩ (C105_164_7 hs hI ?_) (fun _ _ q => q)
        intro w29M w29s w29I w29F
        show zGo X l 6 0 0 104 120 [(0, .ref 6), (1, .int a), (2, .int b)] [.ref 164] w29M _
        refine zs_iload_n (pc := 120) t104_120 rfl ?_
        refine zs_invV (pc := 121) (k := 164) (as' := [.int a]) (st := []) t104_121 mf142 rfl rfl (Or.inl ⟨by decide, (zk1 (w29s.k fk_zMc_164))⟩) ⟨by decide, by decide, Nat.le_of_ble_eq_true rfl, Nat.le_of_ble_eq_true rfl⟩ (zs_in (by decide) mf142 (Nat.le_of_ble_eq_true rfl) ?_) (fun _ _ q => q)
        show zGo X l 0 0 0 142 0 [(0, .ref 164), (1, .int a)] [] w29M _
        refine zs_iload_n (pc := 0) t142_0 rfl ?_
        refine zs_if_ltF (pc := 1) t142_1 rfl (by omega) ?_
        refine zs_iload_n (pc := 4) t142_4 rfl ?_
        refine zs_bipush (pc := 5) t142_5 (v := 60) (by decide) ?_
        refine zs_icmp_geF (pc := 7) t142_7 rfl li60 (by omega) ?_
        refine zs_aload_n (pc := 10) t142_10 rfl ?_
        refine zs_get (pc := 11) t142_11 (by decide) (zk1 (w29s.k fk_zMc_164)) (w29s.p rfl fv_zMc_164_6) ?_
        refine zs_iload_n (pc := 14) t142_14 rfl ?_
        obtain ⟨w30n, w30⟩ : ∃ n : Nat, a.toInt = (n : Int) := ⟨a.toInt.toNat, by omega⟩
        have w31 := ib317 w29I w30n
        refine zs_iald (pc := 15) t142_15 (j := w30n) (by decide) (zk1 (w29s.k fk_zMc_317)) w30 (zk2 (w29s.k fk_zMc_317) (by omega)) rfl ?_
        refine zs_goto (pc := 16) t142_16 ?_
        refine zs_iret (pc := 21) t142_21 mr142 rfl ?_
        show zGo X l 6 0 0 104 124 [(0, .ref 6), (1, .int a), (2, .int b)] [.int (zI w29M 317 w30n)] w29M _
        exact zs_iret (pc := 124) t104_124 mr104 rfl (hQ _ _ w29s w29I ((zFr.refl).trans (w29F.mono rfl)) (zrg _).1 (zrg _).2)
      refine zs_tswD (pc := 15) t104_15 rfl (by omega) (pc2 := 125) rfl ?_
      refine zs_ldc (pc := 125) t104_125 (v := -100000) rfl (by decide) ?_
      exact zs_iret (pc := 127) t104_127 mr104 (by decide) (hQ _ _ hs hI (zFr.refl) (zrg _).1 (zrg _).2)
theorem C143_6 {X : zX} {l : Launch} {M : zM} {Q : Option Value → zM → Prop} {a b : Int32} (hs : zSk zMc M) (hI : zIv cLo cHi M) (hQ : ∀ (M' : zM) (v : Int32), zSk zMc M' → zIv cLo cHi M' → zFr [(6, 335, none)] M M' → (-2147483648) ≤ v.toInt → v.toInt ≤ 2147483647 → Q (some (.int v)) M') : zCall X l 6 0 0 143 [.ref 6, .int a, .int b] M Q := by
  have ga := zrg a
  have gb := zrg b
  refine zs_in (by decide) mf143 (Nat.le_of_ble_eq_true rfl) ?_
  show zGo X l 6 0 0 143 0 [(0, .ref 6), (1, .int a), (2, .int b)] [] M _
  refine zs_aload_n (pc := 0) t143_0 rfl ?_
  refine zs_get (pc := 1) t143_1 (by decide) (zk1 (hs.k fk_zMc_6)) (hs.p rfl fv_zMc_6_0) ?_
  refine zs_iload_n (pc := 4) t143_4 rfl ?_
  refine zs_invV (pc := 5) (k := 7) (as' := [.int a]) (st := []) t143_5 mf130 rfl rfl (Or.inl ⟨by decide, (zk1 (hs.k fk_zMc_7))⟩) ⟨by decide, by decide, Nat.le_of_ble_eq_true rfl, Nat.le_of_ble_eq_true rfl⟩ (zs_in (by decide) mf130 (Nat.le_of_ble_eq_true rfl) ?_) (fun _ _ q => q)
  show zGo X l 0 0 0 130 0 [(0, .ref 7), (1, .int a)] [] M _
  refine zs_iload_n (pc := 0) t130_0 rfl ?_
  by_cases w1 : a.toInt < 0
  · refine zs_if_ltT (pc := 1) t130_1 rfl (by omega) ?_
    refine zs_iconst (pc := 16) t130_16 (v := 0) (by decide) ?_
    refine zs_iret (pc := 17) t130_17 mr130 (by decide) ?_
    show zGo X l 6 0 0 143 8 [(0, .ref 6), (1, .int a), (2, .int b)] [.int (0 : Int32)] M _
    refine zs_if_neF (pc := 8) t143_8 li0 (by decide) ?_
    refine zs_ldc (pc := 11) t143_11 (v := -100000) rfl (by decide) ?_
    exact zs_iret (pc := 13) t143_13 mr143 (by decide) (hQ _ _ hs hI (zFr.refl) (zrg _).1 (zrg _).2)
  · refine zs_if_ltF (pc := 1) t130_1 rfl (by omega) ?_
    refine zs_iload_n (pc := 4) t130_4 rfl ?_
    refine zs_aload_n (pc := 5) t130_5 rfl ?_
    have w2 := ib7_8 hI
    refine zs_get (pc := 6) t130_6 (by decide) (zk1 (hs.k fk_zMc_7)) (zfvi rfl rfl) ?_
    by_cases w3 : (zI M 7 8).toInt ≤ a.toInt
    · refine zs_icmp_geT (pc := 9) t130_9 rfl rfl (by omega) ?_
      refine zs_iconst (pc := 16) t130_16 (v := 0) (by decide) ?_
      refine zs_iret (pc := 17) t130_17 mr130 (by decide) ?_
      show zGo X l 6 0 0 143 8 [(0, .ref 6), (1, .int a), (2, .int b)] [.int (0 : Int32)] M _
      refine zs_if_neF (pc := 8) t143_8 li0 (by decide) ?_
      refine zs_ldc (pc := 11) t143_11 (v := -100000) rfl (by decide) ?_
      exact zs_iret (pc := 13) t143_13 mr143 (by decide) (hQ _ _ hs hI (zFr.refl) (zrg _).1 (zrg _).2)
    · refine zs_icmp_geF (pc := 9) t130_9 rfl rfl (by omega) ?_
      refine zs_iconst (pc := 12) t130_12 (v := 1) (by decide) ?_
      refine zs_goto (pc := 13) t130_13 ?_
      refine zs_iret (pc := 17) t130_17 mr130 (by decide) ?_
      show zGo X l 6 0 0 143 8 [(0, .ref 6), (1, .int a), (2, .int b)] [.int (1 : Int32)] M _
      refine zs_if_neT (pc := 8) t143_8 li1 (by decide) ?_
      refine zs_iload_n (pc := 14) t143_14 rfl ?_
      by_cases w4 : b.toInt = 0
      · refine zs_tswI (pc := 15) t143_15 ((rfl : b.toInt = b.toInt).trans w4) (by decide) rfl (pc2 := 48) rfl ?_
        refine zs_aload_n (pc := 48) t143_48 rfl ?_
        refine zs_get (pc := 49) t143_49 (by decide) (zk1 (hs.k fk_zMc_6)) (hs.p rfl fv_zMc_6_0) ?_
        refine zs_get (pc := 52) t143_52 (by decide) (zk1 (hs.k fk_zMc_7)) (hs.p rfl fv_zMc_7_9) ?_
        refine zs_iload_n (pc := 55) t143_55 rfl ?_
        obtain ⟨w5n, w5⟩ : ∃ n : Nat, a.toInt = (n : Int) := ⟨a.toInt.toNat, by omega⟩
        have w6 := ib14 hI w5n
        refine zs_iald (pc := 56) t143_56 (j := w5n) (by decide) (zk1 (hs.k fk_zMc_14)) w5 (zk2 (hs.k fk_zMc_14) (by omega)) rfl ?_
        exact zs_iret (pc := 57) t143_57 mr143 rfl (hQ _ _ hs hI (zFr.refl) (zrg _).1 (zrg _).2)
      by_cases w7 : b.toInt = 1
      · refine zs_tswI (pc := 15) t143_15 ((rfl : b.toInt = b.toInt).trans w7) (by decide) rfl (pc2 := 58) rfl ?_
        refine zs_aload_n (pc := 58) t143_58 rfl ?_
        refine zs_get (pc := 59) t143_59 (by decide) (zk1 (hs.k fk_zMc_6)) (hs.p rfl fv_zMc_6_0) ?_
        refine zs_get (pc := 62) t143_62 (by decide) (zk1 (hs.k fk_zMc_7)) (hs.p rfl fv_zMc_7_10) ?_
        refine zs_iload_n (pc := 65) t143_65 rfl ?_
        obtain ⟨w8n, w8⟩ : ∃ n : Nat, a.toInt = (n : Int) := ⟨a.toInt.toNat, by omega⟩
        have w9 := ib15 hI w8n
        refine zs_iald (pc := 66) t143_66 (j := w8n) (by decide) (zk1 (hs.k fk_zMc_15)) w8 (zk2 (hs.k fk_zMc_15) (by omega)) rfl ?_
        exact zs_iret (pc := 67) t143_67 mr143 rfl (hQ _ _ hs hI (zFr.refl) (zrg _).1 (zrg _).2)
      by_cases w10 : b.toInt = 2
      · refine zs_tswI (pc := 15) t143_15 ((rfl : b.toInt = b.toInt).trans w10) (by decide) rfl (pc2 := 68) rfl ?_
        refine zs_aload_n (pc := 68) t143_68 rfl ?_
        refine zs_get (pc := 69) t143_69 (by decide) (zk1 (hs.k fk_zMc_6)) (hs.p rfl fv_zMc_6_0) ?_
        refine zs_get (pc := 72) t143_72 (by decide) (zk1 (hs.k fk_zMc_7)) (hs.p rfl fv_zMc_7_11) ?_
        refine zs_iload_n (pc := 75) t143_75 rfl ?_
        obtain ⟨w11n, w11⟩ : ∃ n : Nat, a.toInt = (n : Int) := ⟨a.toInt.toNat, by omega⟩
        have w12 := ib16 hI w11n
        refine zs_iald (pc := 76) t143_76 (j := w11n) (by decide) (zk1 (hs.k fk_zMc_16)) w11 (zk2 (hs.k fk_zMc_16) (by omega)) rfl ?_
        exact zs_iret (pc := 77) t143_77 mr143 rfl (hQ _ _ hs hI (zFr.refl) (zrg _).1 (zrg _).2)
      by_cases w13 : b.toInt = 3
      · refine zs_tswI (pc := 15) t143_15 ((rfl : b.toInt = b.toInt).trans w13) (by decide) rfl (pc2 := 78) rfl ?_
        refine zs_aload_n (pc := 78) t143_78 rfl ?_
        refine zs_get (pc := 79) t143_79 (by decide) (zk1 (hs.k fk_zMc_6)) (hs.p rfl fv_zMc_6_0) ?_
        refine zs_iload_n (pc := 82) t143_82 rfl ?_
        refine zs_invV (pc := 83) (k := 7) (as' := [.int a]) (st := []) t143_83 mf128 rfl rfl (Or.inl ⟨by decide, (zk1 (hs.k fk_zMc_7))⟩) ⟨by decide, by decide, Nat.le_of_ble_eq_true rfl, Nat.le_of_ble_eq_true rfl⟩ (C128_7 hs hI ?_) (fun _ _ q => q)
        intro w14v w14a w14b
        show zGo X l 6 0 0 143 86 [(0, .ref 6), (1, .int a), (2, .int b)] [.int w14v] M _
        exact zs_iret (pc := 86) t143_86 mr143 rfl (hQ _ _ hs hI (zFr.refl) (zrg _).1 (zrg _).2)
      by_cases w15 : b.toInt = 4
      · refine zs_tswI (pc := 15) t143_15 ((rfl : b.toInt = b.toInt).trans w15) (by decide) rfl (pc2 := 87) rfl ?_
        refine zs_aload_n (pc := 87) t143_87 rfl ?_
        refine zs_get (pc := 88) t143_88 (by decide) (zk1 (hs.k fk_zMc_6)) (hs.p rfl fv_zMc_6_6) ?_
        refine zs_aload_n (pc := 91) t143_91 rfl ?_
        refine zs_get (pc := 92) t143_92 (by decide) (zk1 (hs.k fk_zMc_6)) (hs.p rfl fv_zMc_6_0) ?_
        refine zs_invV (pc := 95) (k := 164) (as' := [.ref 7]) (st := []) t143_95 mf105 rfl rfl (Or.inl ⟨by decide, (zk1 (hs.k fk_zMc_164))⟩) ⟨by decide, by decide, Nat.le_of_ble_eq_true rfl, Nat.le_of_ble_eq_true rfl⟩ (C105_164_7 hs hI ?_) (fun _ _ q => q)
        intro w16M w16s w16I w16F
        show zGo X l 6 0 0 143 98 [(0, .ref 6), (1, .int a), (2, .int b)] [.ref 164] w16M _
        refine zs_iload_n (pc := 98) t143_98 rfl ?_
        refine zs_aload_n (pc := 99) t143_99 rfl ?_
        refine zs_get (pc := 100) t143_100 (by decide) (zk1 (w16s.k fk_zMc_6)) (w16s.p rfl fv_zMc_6_6) ?_
        refine zs_invV (pc := 103) (k := 164) (as' := []) (st := [.int a, .ref 164]) t143_103 mf144 rfl rfl (Or.inl ⟨by decide, (zk1 (w16s.k fk_zMc_164))⟩) ⟨by decide, by decide, Nat.le_of_ble_eq_true rfl, Nat.le_of_ble_eq_true rfl⟩ (zs_in (by decide) mf144 (Nat.le_of_ble_eq_true rfl) ?_) (fun _ _ q => q)
        show zGo X l 0 0 0 144 0 [(0, .ref 164)] [] w16M _
        refine zs_aload_n (pc := 0) t144_0 rfl ?_
        have w17 := ib164_4 w16I
        refine zs_get (pc := 1) t144_1 (by decide) (zk1 (w16s.k fk_zMc_164)) (zfvi rfl rfl) ?_
        refine zs_iret (pc := 4) t144_4 mr144 rfl ?_
        show zGo X l 6 0 0 143 106 [(0, .ref 6), (1, .int a), (2, .int b)] [.int (zI w16M 164 4), .int a, .ref 164] w16M _
        refine zs_invV (pc := 106) (k := 164) (as' := [.int a, .int (zI w16M 164 4)]) (st := []) t143_106 mf145 rfl rfl (Or.inl ⟨by decide, (zk1 (w16s.k fk_zMc_164))⟩) ⟨by decide, by decide, Nat.le_of_ble_eq_true rfl, Nat.le_of_ble_eq_true rfl⟩ (C145_164 w16s w16I ⟨by omega, by omega⟩ ?_) (fun _ _ q => q)
        intro w18v w18a w18b
        show zGo X l 6 0 0 143 109 [(0, .ref 6), (1, .int a), (2, .int b)] [.int w18v] w16M _
        exact zs_iret (pc := 109) t143_109 mr143 rfl (hQ _ _ w16s w16I ((zFr.refl).trans (w16F.mono rfl)) (zrg _).1 (zrg _).2)
      refine zs_tswD (pc := 15) t143_15 rfl (by omega) (pc2 := 110) rfl ?_
      refine zs_ldc (pc := 110) t143_110 (v := -100000) rfl (by decide) ?_
      exact zs_iret (pc := 112) t143_112 mr143 (by decide) (hQ _ _ hs hI (zFr.refl) (zrg _).1 (zrg _).2)
