theorem c12_4 {X : zX} {l : Launch} {a b c : Int32} (la : (-1) ≤ a.toInt) (ua : a.toInt ≤ 1) (lb : (-10) ≤ b.toInt) (ub : b.toInt ≤ 10) : zCall X l 3 0 0 148 [.ref 6, .int a, .int b, .int c] zMc (fun r _ => r = some (.int (0 : Int32))) := by
  have ga := zrg a
  have gb := zrg b
  have gc := zrg c
  refine zs_in (by decide) mf148 (Nat.le_of_ble_eq_true rfl) ?_
  show zGo X l 3 0 0 148 0 [(0, .ref 6), (1, .int a), (2, .int b), (3, .int c)] [] zMc _
  refine zs_iload_n (pc := 0) t148_0 rfl ?_
  refine zs_aload_n (pc := 1) t148_1 rfl ?_
  refine zs_get (pc := 2) t148_2 (by decide) (zk1 fk_zMc_6) fv_zMc_6_0 ?_
  refine zs_iconst (pc := 5) t148_5 (v := 0) (by decide) ?_
  refine zs_invV (pc := 6) (k := 7) (as' := [.int (0 : Int32)]) (st := [.int a]) t148_6 mf96 rfl rfl (Or.inl ⟨by decide, (zk1 fk_zMc_7)⟩) ⟨by decide, by decide, Nat.le_of_ble_eq_true rfl, Nat.le_of_ble_eq_true rfl⟩ (zs_in (by decide) mf96 (Nat.le_of_ble_eq_true rfl) ?_) (fun _ _ q => q)
  show zGo X l 0 0 0 96 0 [(0, .ref 7), (1, .int (0 : Int32))] [] zMc _
  refine zs_iload_n (pc := 0) t96_0 rfl ?_
  refine zs_if_ltF (pc := 1) t96_1 li0 (by decide) ?_
  refine zs_iload_n (pc := 4) t96_4 rfl ?_
  refine zs_bipush (pc := 5) t96_5 (v := 9) (by decide) ?_
  refine zs_icmp_geF (pc := 7) t96_7 li0 li9 (by decide) ?_
  refine zs_aload_n (pc := 10) t96_10 rfl ?_
  refine zs_get (pc := 11) t96_11 (by decide) (zk1 fk_zMc_7) fv_zMc_7_12 ?_
  refine zs_iload_n (pc := 14) t96_14 rfl ?_
  refine zs_iald (pc := 15) t96_15 (j := 0) (by decide) (zk1 fk_zMc_17) (by decide) (zk2 fk_zMc_17 (by decide)) fa_zMc_17_0 ?_
  refine zs_goto (pc := 16) t96_16 ?_
  refine zs_iret (pc := 20) t96_20 mr96 (by decide) ?_
  show zGo X l 3 0 0 148 9 [(0, .ref 6), (1, .int a), (2, .int b), (3, .int c)] [.int (1 : Int32), .int a] zMc _
  refine zs_ineg (pc := 9) t148_9 (c := -1) (by decide) ?_
  refine zs_aload_n (pc := 10) t148_10 rfl ?_
  refine zs_get (pc := 11) t148_11 (by decide) (zk1 fk_zMc_6) fv_zMc_6_0 ?_
  refine zs_iconst (pc := 14) t148_14 (v := 0) (by decide) ?_
  refine zs_invV (pc := 15) (k := 7) (as' := [.int (0 : Int32)]) (st := [.int (-1 : Int32), .int a]) t148_15 mf96 rfl rfl (Or.inl ⟨by decide, (zk1 fk_zMc_7)⟩) ⟨by decide, by decide, Nat.le_of_ble_eq_true rfl, Nat.le_of_ble_eq_true rfl⟩ (zs_in (by decide) mf96 (Nat.le_of_ble_eq_true rfl) ?_) (fun _ _ q => q)
  show zGo X l 0 0 0 96 0 [(0, .ref 7), (1, .int (0 : Int32))] [] zMc _
  refine zs_iload_n (pc := 0) t96_0 rfl ?_
  refine zs_if_ltF (pc := 1) t96_1 li0 (by decide) ?_
  refine zs_iload_n (pc := 4) t96_4 rfl ?_
  refine zs_bipush (pc := 5) t96_5 (v := 9) (by decide) ?_
  refine zs_icmp_geF (pc := 7) t96_7 li0 li9 (by decide) ?_
  refine zs_aload_n (pc := 10) t96_10 rfl ?_
  refine zs_get (pc := 11) t96_11 (by decide) (zk1 fk_zMc_7) fv_zMc_7_12 ?_
  refine zs_iload_n (pc := 14) t96_14 rfl ?_
  refine zs_iald (pc := 15) t96_15 (j := 0) (by decide) (zk1 fk_zMc_17) (by decide) (zk2 fk_zMc_17 (by decide)) fa_zMc_17_0 ?_
  refine zs_goto (pc := 16) t96_16 ?_
  refine zs_iret (pc := 20) t96_20 mr96 (by decide) ?_
  show zGo X l 3 0 0 148 18 [(0, .ref 6), (1, .int a), (2, .int b), (3, .int c)] [.int (1 : Int32), .int (-1 : Int32), .int a] zMc _
  refine zs_invS (pc := 18) (as := [.int a, .int (-1 : Int32), .int (1 : Int32)]) (st := []) t148_18 (by decide) mf39 rfl rfl ⟨by decide, by decide, Nat.le_of_ble_eq_true rfl, Nat.le_of_ble_eq_true rfl⟩ (zs_in (by decide) mf39 (Nat.le_of_ble_eq_true rfl) ?_) (fun _ _ q => q)
  show zGo X l 0 0 0 39 0 [(0, .int a), (1, .int (-1 : Int32)), (2, .int (1 : Int32))] [] zMc _
  refine zs_iload_n (pc := 0) t39_0 rfl ?_
  refine zs_iload_n (pc := 1) t39_1 rfl ?_
  refine zs_icmp_ltF (pc := 2) t39_2 rfl lin1 (by omega) ?_
  refine zs_iload_n (pc := 5) t39_5 rfl ?_
  refine zs_iload_n (pc := 6) t39_6 rfl ?_
  refine zs_icmp_gtF (pc := 7) t39_7 rfl li1 (by omega) ?_
  refine zs_iconst (pc := 10) t39_10 (v := 1) (by decide) ?_
  refine zs_goto (pc := 11) t39_11 ?_
  refine zs_iret (pc := 15) t39_15 mr39 (by decide) ?_
  show zGo X l 3 0 0 148 21 [(0, .ref 6), (1, .int a), (2, .int b), (3, .int c)] [.int (1 : Int32)] zMc _
  refine zs_if_eqF (pc := 21) t148_21 li1 (by decide) ?_
  refine zs_iload_n (pc := 24) t148_24 rfl ?_
  refine zs_aload_n (pc := 25) t148_25 rfl ?_
  refine zs_get (pc := 26) t148_26 (by decide) (zk1 fk_zMc_6) fv_zMc_6_0 ?_
  refine zs_iconst (pc := 29) t148_29 (v := 1) (by decide) ?_
  refine zs_invV (pc := 30) (k := 7) (as' := [.int (1 : Int32)]) (st := [.int b]) t148_30 mf96 rfl rfl (Or.inl ⟨by decide, (zk1 fk_zMc_7)⟩) ⟨by decide, by decide, Nat.le_of_ble_eq_true rfl, Nat.le_of_ble_eq_true rfl⟩ (zs_in (by decide) mf96 (Nat.le_of_ble_eq_true rfl) ?_) (fun _ _ q => q)
  show zGo X l 0 0 0 96 0 [(0, .ref 7), (1, .int (1 : Int32))] [] zMc _
  refine zs_iload_n (pc := 0) t96_0 rfl ?_
  refine zs_if_ltF (pc := 1) t96_1 li1 (by decide) ?_
  refine zs_iload_n (pc := 4) t96_4 rfl ?_
  refine zs_bipush (pc := 5) t96_5 (v := 9) (by decide) ?_
  refine zs_icmp_geF (pc := 7) t96_7 li1 li9 (by decide) ?_
  refine zs_aload_n (pc := 10) t96_10 rfl ?_
  refine zs_get (pc := 11) t96_11 (by decide) (zk1 fk_zMc_7) fv_zMc_7_12 ?_
  refine zs_iload_n (pc := 14) t96_14 rfl ?_
  refine zs_iald (pc := 15) t96_15 (j := 1) (by decide) (zk1 fk_zMc_17) (by decide) (zk2 fk_zMc_17 (by decide)) fa_zMc_17_1 ?_
  refine zs_goto (pc := 16) t96_16 ?_
  refine zs_iret (pc := 20) t96_20 mr96 (by decide) ?_
  show zGo X l 3 0 0 148 33 [(0, .ref 6), (1, .int a), (2, .int b), (3, .int c)] [.int (10 : Int32), .int b] zMc _
  refine zs_ineg (pc := 33) t148_33 (c := -10) (by decide) ?_
  refine zs_aload_n (pc := 34) t148_34 rfl ?_
  refine zs_get (pc := 35) t148_35 (by decide) (zk1 fk_zMc_6) fv_zMc_6_0 ?_
  refine zs_iconst (pc := 38) t148_38 (v := 1) (by decide) ?_
  refine zs_invV (pc := 39) (k := 7) (as' := [.int (1 : Int32)]) (st := [.int (-10 : Int32), .int b]) t148_39 mf96 rfl rfl (Or.inl ⟨by decide, (zk1 fk_zMc_7)⟩) ⟨by decide, by decide, Nat.le_of_ble_eq_true rfl, Nat.le_of_ble_eq_true rfl⟩ (zs_in (by decide) mf96 (Nat.le_of_ble_eq_true rfl) ?_) (fun _ _ q => q)
  show zGo X l 0 0 0 96 0 [(0, .ref 7), (1, .int (1 : Int32))] [] zMc _
  refine zs_iload_n (pc := 0) t96_0 rfl ?_
  refine zs_if_ltF (pc := 1) t96_1 li1 (by decide) ?_
  refine zs_iload_n (pc := 4) t96_4 rfl ?_
  refine zs_bipush (pc := 5) t96_5 (v := 9) (by decide) ?_
  refine zs_icmp_geF (pc := 7) t96_7 li1 li9 (by decide) ?_
  refine zs_aload_n (pc := 10) t96_10 rfl ?_
  refine zs_get (pc := 11) t96_11 (by decide) (zk1 fk_zMc_7) fv_zMc_7_12 ?_
  refine zs_iload_n (pc := 14) t96_14 rfl ?_
  refine zs_iald (pc := 15) t96_15 (j := 1) (by decide) (zk1 fk_zMc_17) (by decide) (zk2 fk_zMc_17 (by decide)) fa_zMc_17_1 ?_
  refine zs_goto (pc := 16) t96_16 ?_
  refine zs_iret (pc := 20) t96_20 mr96 (by decide) ?_
  show zGo X l 3 0 0 148 42 [(0, .ref 6), (1, .int a), (2, .int b), (3, .int c)] [.int (10 : Int32), .int (-10 : Int32), .int b] zMc _
  refine zs_invS (pc := 42) (as := [.int b, .int (-10 : Int32), .int (10 : Int32)]) (st := []) t148_42 (by decide) mf39 rfl rfl ⟨by decide, by decide, Nat.le_of_ble_eq_true rfl, Nat.le_of_ble_eq_true rfl⟩ (zs_in (by decide) mf39 (Nat.le_of_ble_eq_true rfl) ?_) (fun _ _ q => q)
  show zGo X l 0 0 0 39 0 [(0, .int b), (1, .int (-10 : Int32)), (2, .int (10 : Int32))] [] zMc _
  refine zs_iload_n (pc := 0) t39_0 rfl ?_
  refine zs_iload_n (pc := 1) t39_1 rfl ?_
  refine zs_icmp_ltF (pc := 2) t39_2 rfl lin10 (by omega) ?_
  refine zs_iload_n (pc := 5) t39_5 rfl ?_
  refine zs_iload_n (pc := 6) t39_6 rfl ?_
  refine zs_icmp_gtF (pc := 7) t39_7 rfl li10 (by omega) ?_
  refine zs_iconst (pc := 10) t39_10 (v := 1) (by decide) ?_
  refine zs_goto (pc := 11) t39_11 ?_
  refine zs_iret (pc := 15) t39_15 mr39 (by decide) ?_
  show zGo X l 3 0 0 148 45 [(0, .ref 6), (1, .int a), (2, .int b), (3, .int c)] [.int (1 : Int32)] zMc _
  refine zs_if_neT (pc := 45) t148_45 li1 (by decide) ?_
  refine zs_aload_n (pc := 50) t148_50 rfl ?_
  refine zs_get (pc := 51) t148_51 (by decide) (zk1 fk_zMc_6) fv_zMc_6_0 ?_
  refine zs_iload_n (pc := 54) t148_54 rfl ?_
  refine zs_iload_n (pc := 55) t148_55 rfl ?_
  refine zs_iload_n (pc := 56) t148_56 rfl ?_
  refine zs_invV (pc := 57) (k := 7) (as' := [.int a, .int b, .int c]) (st := []) t148_57 mf149 rfl rfl (Or.inl ⟨by decide, (zk1 fk_zMc_7)⟩) ⟨by decide, by decide, Nat.le_of_ble_eq_true rfl, Nat.le_of_ble_eq_true rfl⟩ (zs_in (by decide) mf149 (Nat.le_of_ble_eq_true rfl) ?_) (fun _ _ q => q)
  show zGo X l 2 0 0 149 0 [(0, .ref 7), (1, .int a), (2, .int b), (3, .int c)] [] zMc _
  refine zs_iconst (pc := 0) t149_0 (v := 1) (by decide) ?_
  refine zs_aload_n (pc := 1) t149_1 rfl ?_
  refine zs_get (pc := 2) t149_2 (by decide) (zk1 fk_zMc_7) fv_zMc_7_12 ?_
  refine zs_iconst (pc := 5) t149_5 (v := 2) (by decide) ?_
  refine zs_iald (pc := 6) t149_6 (j := 2) (by decide) (zk1 fk_zMc_17) (by decide) (zk2 fk_zMc_17 (by decide)) fa_zMc_17_2 ?_
  refine zs_invS (pc := 7) (as := [.int (1 : Int32), .int (10 : Int32)]) (st := []) t149_7 (by decide) mf21 rfl rfl ⟨by decide, by decide, Nat.le_of_ble_eq_true rfl, Nat.le_of_ble_eq_true rfl⟩ (zs_in (by decide) mf21 (Nat.le_of_ble_eq_true rfl) ?_) (fun _ _ q => q)
  show zGo X l 0 0 0 21 0 [(0, .int (1 : Int32)), (1, .int (10 : Int32))] [] zMc _
  refine zs_iload_n (pc := 0) t21_0 rfl ?_
  refine zs_iload_n (pc := 1) t21_1 rfl ?_
  refine zs_icmp_ltT (pc := 2) t21_2 li1 li10 (by decide) ?_
  refine zs_iload_n (pc := 9) t21_9 rfl ?_
  refine zs_iret (pc := 10) t21_10 mr21 (by decide) ?_
  show zGo X l 2 0 0 149 10 [(0, .ref 7), (1, .int a), (2, .int b), (3, .int c)] [.int (10 : Int32)] zMc _
  refine zs_istore (pc := 10) t149_10 (ls' := [(4, .int (10 : Int32)), (0, .ref 7), (1, .int a), (2, .int b), (3, .int c)]) (zml mf149 (by decide)) rfl ?_
  refine zs_iconst (pc := 12) t149_12 (v := 0) (by decide) ?_
  refine zs_istore (pc := 13) t149_13 (ls' := [(5, .int (0 : Int32)), (4, .int (10 : Int32)), (0, .ref 7), (1, .int a), (2, .int b), (3, .int c)]) (zml mf149 (by decide)) rfl ?_
  refine zs_iconst (pc := 15) t149_15 (v := 0) (by decide) ?_
  refine zs_istore (pc := 16) t149_16 (ls' := [(6, .int (0 : Int32)), (5, .int (0 : Int32)), (4, .int (10 : Int32)), (0, .ref 7), (1, .int a), (2, .int b), (3, .int c)]) (zml mf149 (by decide)) rfl ?_
  refine zs_iload (pc := 18) t149_18 rfl ?_
  refine zs_aload_n (pc := 20) t149_20 rfl ?_
  refine zs_get (pc := 21) t149_21 (by decide) (zk1 fk_zMc_7) fv_zMc_7_3 ?_
  refine zs_icmp_geT (pc := 24) t149_24 li0 li0 (by decide) ?_
  refine zs_iload (pc := 96) t149_96 rfl ?_
  refine zs_invS (pc := 98) (as := [.int (0 : Int32)]) (st := []) t149_98 (by decide) mf113 rfl rfl ⟨by decide, by decide, Nat.le_of_ble_eq_true rfl, Nat.le_of_ble_eq_true rfl⟩ (zs_in (by decide) mf113 (Nat.le_of_ble_eq_true rfl) ?_) (fun _ _ q => q)
  show zGo X l 0 0 0 113 0 [(0, .int (0 : Int32))] [] zMc _
  refine zs_iload_n (pc := 0) t113_0 rfl ?_
  refine zs_iload_n (pc := 1) t113_1 rfl ?_
  refine zs_iconst (pc := 2) t113_2 (v := 1) (by decide) ?_
  refine zs_iushr (pc := 3) t113_3 (c := 0) (by decide) ?_
  refine zs_ldc_w (pc := 4) t113_4 (v := 1431655765) rfl (by decide) ?_
  refine zs_iand (pc := 7) t113_7 (c := 0) (by decide) ?_
  refine zs_isub (pc := 8) t113_8 (c := 0) (by decide) ?_
  refine zs_istore_n (pc := 9) t113_9 (ls' := [(0, .int (0 : Int32))]) (zml mf113 (by decide)) rfl ?_
  refine zs_iload_n (pc := 10) t113_10 rfl ?_
  refine zs_ldc_w (pc := 11) t113_11 (v := 858993459) rfl (by decide) ?_
  refine zs_iand (pc := 14) t113_14 (c := 0) (by decide) ?_
  refine zs_iload_n (pc := 15) t113_15 rfl ?_
  refine zs_iconst (pc := 16) t113_16 (v := 2) (by decide) ?_
  refine zs_iushr (pc := 17) t113_17 (c := 0) (by decide) ?_
  refine zs_ldc_w (pc := 18) t113_18 (v := 858993459) rfl (by decide) ?_
  refine zs_iand (pc := 21) t113_21 (c := 0) (by decide) ?_
  refine zs_iadd (pc := 22) t113_22 (c := 0) (by decide) ?_
  refine zs_istore_n (pc := 23) t113_23 (ls' := [(0, .int (0 : Int32))]) (zml mf113 (by decide)) rfl ?_
  refine zs_iload_n (pc := 24) t113_24 rfl ?_
  refine zs_iload_n (pc := 25) t113_25 rfl ?_
  refine zs_iconst (pc := 26) t113_26 (v := 4) (by decide) ?_
  refine zs_iushr (pc := 27) t113_27 (c := 0) (by decide) ?_
  refine zs_iadd (pc := 28) t113_28 (c := 0) (by decide) ?_
  refine zs_ldc_w (pc := 29) t113_29 (v := 252645135) rfl (by decide) ?_
  refine zs_iand (pc := 32) t113_32 (c := 0) (by decide) ?_
  refine zs_istore_n (pc := 33) t113_33 (ls' := [(0, .int (0 : Int32))]) (zml mf113 (by decide)) rfl ?_
  refine zs_iload_n (pc := 34) t113_34 rfl ?_
  refine zs_iload_n (pc := 35) t113_35 rfl ?_
  refine zs_bipush (pc := 36) t113_36 (v := 8) (by decide) ?_
  refine zs_iushr (pc := 38) t113_38 (c := 0) (by decide) ?_
  refine zs_iadd (pc := 39) t113_39 (c := 0) (by decide) ?_
  refine zs_istore_n (pc := 40) t113_40 (ls' := [(0, .int (0 : Int32))]) (zml mf113 (by decide)) rfl ?_
  refine zs_iload_n (pc := 41) t113_41 rfl ?_
  refine zs_iload_n (pc := 42) t113_42 rfl ?_
  refine zs_bipush (pc := 43) t113_43 (v := 16) (by decide) ?_
  refine zs_iushr (pc := 45) t113_45 (c := 0) (by decide) ?_
  refine zs_iadd (pc := 46) t113_46 (c := 0) (by decide) ?_
  refine zs_istore_n (pc := 47) t113_47 (ls' := [(0, .int (0 : Int32))]) (zml mf113 (by decide)) rfl ?_
  refine zs_iload_n (pc := 48) t113_48 rfl ?_
  refine zs_bipush (pc := 49) t113_49 (v := 63) (by decide) ?_
  refine zs_iand (pc := 51) t113_51 (c := 0) (by decide) ?_
  refine zs_iret (pc := 52) t113_52 mr113 (by decide) ?_
  show zGo X l 2 0 0 149 101 [(6, .int (0 : Int32)), (5, .int (0 : Int32)), (4, .int (10 : Int32)), (0, .ref 7), (1, .int a), (2, .int b), (3, .int c)] [.int (0 : Int32)] zMc _
  refine zs_iret (pc := 101) t149_101 mr149 (by decide) ?_
  show zGo X l 3 0 0 148 60 [(0, .ref 6), (1, .int a), (2, .int b), (3, .int c)] [.int (0 : Int32)] zMc _
  exact zs_iret (pc := 60) t148_60 mr148 (by decide) rfl
theorem m12_4 {X : zX} {l : Launch} {a b c : Int32} (la : (-1) ≤ a.toInt) (ua : a.toInt ≤ 1) (lb : (-10) ≤ b.toInt) (ub : b.toInt ≤ 10) : zCall X l 3 0 0 315 [.ref 336, .int a, .int b, .int c] zMm (fun r _ => r = some (.int (0 : Int32))) := by
  have ga := zrg a
  have gb := zrg b
  have gc := zrg c
  refine zs_in (by decide) mf315 (Nat.le_of_ble_eq_true rfl) ?_
  show zGo X l 3 0 0 315 0 [(0, .ref 336), (1, .int a), (2, .int b), (3, .int c)] [] zMm _
  refine zs_iload_n (pc := 0) t315_0 rfl ?_
  refine zs_i2l (pc := 1) t315_1 rfl ?_
  refine zs_aload_n (pc := 2) t315_2 rfl ?_
  refine zs_get (pc := 3) t315_3 (by decide) (zk1 fk_zMm_336) fv_zMm_336_0 ?_
  refine zs_iconst (pc := 6) t315_6 (v := 5) (by decide) ?_
  refine zs_iald (pc := 7) t315_7 (j := 5) (by decide) (zk1 fk_zMm_337) (by decide) (zk2 fk_zMm_337 (by decide)) fa_zMm_337_5 ?_
  refine zs_ineg (pc := 8) t315_8 (c := -1) (by decide) ?_
  refine zs_i2l (pc := 9) t315_9 (c := -1) (by decide) ?_
  refine zs_aload_n (pc := 10) t315_10 rfl ?_
  refine zs_get (pc := 11) t315_11 (by decide) (zk1 fk_zMm_336) fv_zMm_336_0 ?_
  refine zs_iconst (pc := 14) t315_14 (v := 5) (by decide) ?_
  refine zs_iald (pc := 15) t315_15 (j := 5) (by decide) (zk1 fk_zMm_337) (by decide) (zk2 fk_zMm_337 (by decide)) fa_zMm_337_5 ?_
  refine zs_i2l (pc := 16) t315_16 (c := 1) (by decide) ?_
  refine zs_invS (pc := 17) (as := [.long a.toInt64, .long (-1 : Int64), .long (1 : Int64)]) (st := []) t315_17 (by decide) mf228 rfl rfl ⟨by decide, by decide, Nat.le_of_ble_eq_true rfl, Nat.le_of_ble_eq_true rfl⟩ (zs_in (by decide) mf228 (Nat.le_of_ble_eq_true rfl) ?_) (fun _ _ q => q)
  show zGo X l 0 0 0 228 0 [(0, .long a.toInt64), (2, .long (-1 : Int64)), (4, .long (1 : Int64))] [] zMm _
  refine zs_lload_n (pc := 0) t228_0 rfl ?_
  refine zs_lload_n (pc := 1) t228_1 rfl ?_
  by_cases w1 : a.toInt = (-1)
  · refine zs_lcmp (pc := 2) t228_2 (c := 0) (zlcE (zi2l rfl) lln1 (by omega)) ?_
    refine zs_if_ltF (pc := 3) t228_3 li0 (by decide) ?_
    refine zs_lload_n (pc := 6) t228_6 rfl ?_
    refine zs_lload (pc := 7) t228_7 rfl ?_
    refine zs_lcmp (pc := 9) t228_9 (c := -1) (zlcL (zi2l rfl) ll1 (by omega)) ?_
    refine zs_if_gtF (pc := 10) t228_10 lin1 (by decide) ?_
    refine zs_iconst (pc := 13) t228_13 (v := 1) (by decide) ?_
    refine zs_goto (pc := 14) t228_14 ?_
    refine zs_iret (pc := 18) t228_18 mr228 (by decide) ?_
    show zGo X l 3 0 0 315 20 [(0, .ref 336), (1, .int a), (2, .int b), (3, .int c)] [.int (1 : Int32)] zMm _
    refine zs_if_eqF (pc := 20) t315_20 li1 (by decide) ?_
    refine zs_iload_n (pc := 23) t315_23 rfl ?_
    refine zs_i2l (pc := 24) t315_24 rfl ?_
    refine zs_aload_n (pc := 25) t315_25 rfl ?_
    refine zs_get (pc := 26) t315_26 (by decide) (zk1 fk_zMm_336) fv_zMm_336_0 ?_
    refine zs_bipush (pc := 29) t315_29 (v := 6) (by decide) ?_
    refine zs_iald (pc := 31) t315_31 (j := 6) (by decide) (zk1 fk_zMm_337) (by decide) (zk2 fk_zMm_337 (by decide)) fa_zMm_337_6 ?_
    refine zs_ineg (pc := 32) t315_32 (c := -10) (by decide) ?_
    refine zs_i2l (pc := 33) t315_33 (c := -10) (by decide) ?_
    refine zs_aload_n (pc := 34) t315_34 rfl ?_
    refine zs_get (pc := 35) t315_35 (by decide) (zk1 fk_zMm_336) fv_zMm_336_0 ?_
    refine zs_bipush (pc := 38) t315_38 (v := 6) (by decide) ?_
    refine zs_iald (pc := 40) t315_40 (j := 6) (by decide) (zk1 fk_zMm_337) (by decide) (zk2 fk_zMm_337 (by decide)) fa_zMm_337_6 ?_
    refine zs_i2l (pc := 41) t315_41 (c := 10) (by decide) ?_
    refine zs_invS (pc := 42) (as := [.long b.toInt64, .long (-10 : Int64), .long (10 : Int64)]) (st := []) t315_42 (by decide) mf228 rfl rfl ⟨by decide, by decide, Nat.le_of_ble_eq_true rfl, Nat.le_of_ble_eq_true rfl⟩ (zs_in (by decide) mf228 (Nat.le_of_ble_eq_true rfl) ?_) (fun _ _ q => q)
    show zGo X l 0 0 0 228 0 [(0, .long b.toInt64), (2, .long (-10 : Int64)), (4, .long (10 : Int64))] [] zMm _
    refine zs_lload_n (pc := 0) t228_0 rfl ?_
    refine zs_lload_n (pc := 1) t228_1 rfl ?_
    by_cases w2 : b.toInt = (-10)
    · refine zs_lcmp (pc := 2) t228_2 (c := 0) (zlcE (zi2l rfl) lln10 (by omega)) ?_
      refine zs_if_ltF (pc := 3) t228_3 li0 (by decide) ?_
      refine zs_lload_n (pc := 6) t228_6 rfl ?_
      refine zs_lload (pc := 7) t228_7 rfl ?_
      refine zs_lcmp (pc := 9) t228_9 (c := -1) (zlcL (zi2l rfl) ll10 (by omega)) ?_
      refine zs_if_gtF (pc := 10) t228_10 lin1 (by decide) ?_
      refine zs_iconst (pc := 13) t228_13 (v := 1) (by decide) ?_
      refine zs_goto (pc := 14) t228_14 ?_
      refine zs_iret (pc := 18) t228_18 mr228 (by decide) ?_
      show zGo X l 3 0 0 315 45 [(0, .ref 336), (1, .int a), (2, .int b), (3, .int c)] [.int (1 : Int32)] zMm _
      refine zs_if_neT (pc := 45) t315_45 li1 (by decide) ?_
      refine zs_iconst (pc := 50) t315_50 (v := 0) (by decide) ?_
      refine zs_istore (pc := 51) t315_51 (ls' := [(4, .int (0 : Int32)), (0, .ref 336), (1, .int a), (2, .int b), (3, .int c)]) (zml mf315 (by decide)) rfl ?_
      refine zs_iconst (pc := 53) t315_53 (v := 0) (by decide) ?_
      refine zs_istore (pc := 54) t315_54 (ls' := [(5, .int (0 : Int32)), (4, .int (0 : Int32)), (0, .ref 336), (1, .int a), (2, .int b), (3, .int c)]) (zml mf315 (by decide)) rfl ?_
      refine zs_iload (pc := 56) t315_56 rfl ?_
      refine zs_aload_n (pc := 58) t315_58 rfl ?_
      refine zs_get (pc := 59) t315_59 (by decide) (zk1 fk_zMm_336) fv_zMm_336_0 ?_
      refine zs_iconst (pc := 62) t315_62 (v := 1) (by decide) ?_
      refine zs_iald (pc := 63) t315_63 (j := 1) (by decide) (zk1 fk_zMm_337) (by decide) (zk2 fk_zMm_337 (by decide)) fa_zMm_337_1 ?_
      refine zs_icmp_geT (pc := 64) t315_64 li0 li0 (by decide) ?_
      refine zs_iload (pc := 133) t315_133 rfl ?_
      refine zs_invS (pc := 135) (as := [.int (0 : Int32)]) (st := []) t315_135 (by decide) mf278 rfl rfl ⟨by decide, by decide, Nat.le_of_ble_eq_true rfl, Nat.le_of_ble_eq_true rfl⟩ (zs_in (by decide) mf278 (Nat.le_of_ble_eq_true rfl) ?_) (fun _ _ q => q)
      show zGo X l 0 0 0 278 0 [(0, .int (0 : Int32))] [] zMm _
      refine zs_iconst (pc := 0) t278_0 (v := 0) (by decide) ?_
      refine zs_istore_n (pc := 1) t278_1 (ls' := [(1, .int (0 : Int32)), (0, .int (0 : Int32))]) (zml mf278 (by decide)) rfl ?_
      refine zs_iconst (pc := 2) t278_2 (v := 0) (by decide) ?_
      refine zs_istore_n (pc := 3) t278_3 (ls' := [(2, .int (0 : Int32)), (1, .int (0 : Int32)), (0, .int (0 : Int32))]) (zml mf278 (by decide)) rfl ?_
      refine zs_iload_n (pc := 4) t278_4 rfl ?_
      refine zs_bipush (pc := 5) t278_5 (v := 8) (by decide) ?_
      refine zs_icmp_geF (pc := 7) t278_7 li0 li8 (by decide) ?_
      refine zs_iload_n (pc := 10) t278_10 rfl ?_
      refine zs_iload_n (pc := 11) t278_11 rfl ?_
      refine zs_iload_n (pc := 12) t278_12 rfl ?_
      refine zs_ishr (pc := 13) t278_13 (c := 0) (by decide) ?_
      refine zs_iconst (pc := 14) t278_14 (v := 1) (by decide) ?_
      refine zs_iand (pc := 15) t278_15 (c := 0) (by decide) ?_
      refine zs_iadd (pc := 16) t278_16 (c := 0) (by decide) ?_
      refine zs_istore_n (pc := 17) t278_17 (ls' := [(1, .int (0 : Int32)), (2, .int (0 : Int32)), (0, .int (0 : Int32))]) (zml mf278 (by decide)) rfl ?_
      refine zs_iinc (pc := 18) t278_18 (ls' := [(2, .int (1 : Int32)), (1, .int (0 : Int32)), (0, .int (0 : Int32))]) (zml mf278 (by decide)) rfl (c := 1) (by decide) rfl ?_
      refine zs_goto (pc := 21) t278_21 ?_
      refine zs_iload_n (pc := 4) t278_4 rfl ?_
      refine zs_bipush (pc := 5) t278_5 (v := 8) (by decide) ?_
      refine zs_icmp_geF (pc := 7) t278_7 li1 li8 (by decide) ?_
      refine zs_iload_n (pc := 10) t278_10 rfl ?_
      refine zs_iload_n (pc := 11) t278_11 rfl ?_
      refine zs_iload_n (pc := 12) t278_12 rfl ?_
      refine zs_ishr (pc := 13) t278_13 (c := 0) (by decide) ?_
      refine zs_iconst (pc := 14) t278_14 (v := 1) (by decide) ?_
      refine zs_iand (pc := 15) t278_15 (c := 0) (by decide) ?_
      refine zs_iadd (pc := 16) t278_16 (c := 0) (by decide) ?_
      refine zs_istore_n (pc := 17) t278_17 (ls' := [(1, .int (0 : Int32)), (2, .int (1 : Int32)), (0, .int (0 : Int32))]) (zml mf278 (by decide)) rfl ?_
      refine zs_iinc (pc := 18) t278_18 (ls' := [(2, .int (2 : Int32)), (1, .int (0 : Int32)), (0, .int (0 : Int32))]) (zml mf278 (by decide)) rfl (c := 2) (by decide) rfl ?_
      refine zs_goto (pc := 21) t278_21 ?_
      refine zs_iload_n (pc := 4) t278_4 rfl ?_
      refine zs_bipush (pc := 5) t278_5 (v := 8) (by decide) ?_
      refine zs_icmp_geF (pc := 7) t278_7 li2 li8 (by decide) ?_
      refine zs_iload_n (pc := 10) t278_10 rfl ?_
      refine zs_iload_n (pc := 11) t278_11 rfl ?_
      refine zs_iload_n (pc := 12) t278_12 rfl ?_
      refine zs_ishr (pc := 13) t278_13 (c := 0) (by decide) ?_
      refine zs_iconst (pc := 14) t278_14 (v := 1) (by decide) ?_
      refine zs_iand (pc := 15) t278_15 (c := 0) (by decide) ?_
      refine zs_iadd (pc := 16) t278_16 (c := 0) (by decide) ?_
      refine zs_istore_n (pc := 17) t278_17 (ls' := [(1, .int (0 : Int32)), (2, .int (2 : Int32)), (0, .int (0 : Int32))]) (zml mf278 (by decide)) rfl ?_
      refine zs_iinc (pc := 18) t278_18 (ls' := [(2, .int (3 : Int32)), (1, .int (0 : Int32)), (0, .int (0 : Int32))]) (zml mf278 (by decide)) rfl (c := 3) (by decide) rfl ?_
      refine zs_goto (pc := 21) t278_21 ?_
      refine zs_iload_n (pc := 4) t278_4 rfl ?_
      refine zs_bipush (pc := 5) t278_5 (v := 8) (by decide) ?_
      refine zs_icmp_geF (pc := 7) t278_7 li3 li8 (by decide) ?_
      refine zs_iload_n (pc := 10) t278_10 rfl ?_
      refine zs_iload_n (pc := 11) t278_11 rfl ?_
      refine zs_iload_n (pc := 12) t278_12 rfl ?_
      refine zs_ishr (pc := 13) t278_13 (c := 0) (by decide) ?_
      refine zs_iconst (pc := 14) t278_14 (v := 1) (by decide) ?_
      refine zs_iand (pc := 15) t278_15 (c := 0) (by decide) ?_
      refine zs_iadd (pc := 16) t278_16 (c := 0) (by decide) ?_
      refine zs_istore_n (pc := 17) t278_17 (ls' := [(1, .int (0 : Int32)), (2, .int (3 : Int32)), (0, .int (0 : Int32))]) (zml mf278 (by decide)) rfl ?_
      refine zs_iinc (pc := 18) t278_18 (ls' := [(2, .int (4 : Int32)), (1, .int (0 : Int32)), (0, .int (0 : Int32))]) (zml mf278 (by decide)) rfl (c := 4) (by decide) rfl ?_
      refine zs_goto (pc := 21) t278_21 ?_
      refine zs_iload_n (pc := 4) t278_4 rfl ?_
      refine zs_bipush (pc := 5) t278_5 (v := 8) (by decide) ?_
      refine zs_icmp_geF (pc := 7) t278_7 li4 li8 (by decide) ?_
      refine zs_iload_n (pc := 10) t278_10 rfl ?_
      refine zs_iload_n (pc := 11) t278_11 rfl ?_
      refine zs_iload_n (pc := 12) t278_12 rfl ?_
      refine zs_ishr (pc := 13) t278_13 (c := 0) (by decide) ?_
      refine zs_iconst (pc := 14) t278_14 (v := 1) (by decide) ?_
      refine zs_iand (pc := 15) t278_15 (c := 0) (by decide) ?_
      refine zs_iadd (pc := 16) t278_16 (c := 0) (by decide) ?_
      refine zs_istore_n (pc := 17) t278_17 (ls' := [(1, .int (0 : Int32)), (2, .int (4 : Int32)), (0, .int (0 : Int32))]) (zml mf278 (by decide)) rfl ?_
      refine zs_iinc (pc := 18) t278_18 (ls' := [(2, .int (5 : Int32)), (1, .int (0 : Int32)), (0, .int (0 : Int32))]) (zml mf278 (by decide)) rfl (c := 5) (by decide) rfl ?_
      refine zs_goto (pc := 21) t278_21 ?_
      refine zs_iload_n (pc := 4) t278_4 rfl ?_
      refine zs_bipush (pc := 5) t278_5 (v := 8) (by decide) ?_
      refine zs_icmp_geF (pc := 7) t278_7 li5 li8 (by decide) ?_
      refine zs_iload_n (pc := 10) t278_10 rfl ?_
      refine zs_iload_n (pc := 11) t278_11 rfl ?_
      refine zs_iload_n (pc := 12) t278_12 rfl ?_
      refine zs_ishr (pc := 13) t278_13 (c := 0) (by decide) ?_
      refine zs_iconst (pc := 14) t278_14 (v := 1) (by decide) ?_
      refine zs_iand (pc := 15) t278_15 (c := 0) (by decide) ?_
      refine zs_iadd (pc := 16) t278_16 (c := 0) (by decide) ?_
      refine zs_istore_n (pc := 17) t278_17 (ls' := [(1, .int (0 : Int32)), (2, .int (5 : Int32)), (0, .int (0 : Int32))]) (zml mf278 (by decide)) rfl ?_
      refine zs_iinc (pc := 18) t278_18 (ls' := [(2, .int (6 : Int32)), (1, .int (0 : Int32)), (0, .int (0 : Int32))]) (zml mf278 (by decide)) rfl (c := 6) (by decide) rfl ?_
      refine zs_goto (pc := 21) t278_21 ?_
      refine zs_iload_n (pc := 4) t278_4 rfl ?_
      refine zs_bipush (pc := 5) t278_5 (v := 8) (by decide) ?_
      refine zs_icmp_geF (pc := 7) t278_7 li6 li8 (by decide) ?_
      refine zs_iload_n (pc := 10) t278_10 rfl ?_
      refine zs_iload_n (pc := 11) t278_11 rfl ?_
      refine zs_iload_n (pc := 12) t278_12 rfl ?_
      refine zs_ishr (pc := 13) t278_13 (c := 0) (by decide) ?_
      refine zs_iconst (pc := 14) t278_14 (v := 1) (by decide) ?_
      refine zs_iand (pc := 15) t278_15 (c := 0) (by decide) ?_
      refine zs_iadd (pc := 16) t278_16 (c := 0) (by decide) ?_
      refine zs_istore_n (pc := 17) t278_17 (ls' := [(1, .int (0 : Int32)), (2, .int (6 : Int32)), (0, .int (0 : Int32))]) (zml mf278 (by decide)) rfl ?_
      refine zs_iinc (pc := 18) t278_18 (ls' := [(2, .int (7 : Int32)), (1, .int (0 : Int32)), (0, .int (0 : Int32))]) (zml mf278 (by decide)) rfl (c := 7) (by decide) rfl ?_
      refine zs_goto (pc := 21) t278_21 ?_
      refine zs_iload_n (pc := 4) t278_4 rfl ?_
      refine zs_bipush (pc := 5) t278_5 (v := 8) (by decide) ?_
      refine zs_icmp_geF (pc := 7) t278_7 li7 li8 (by decide) ?_
      refine zs_iload_n (pc := 10) t278_10 rfl ?_
      refine zs_iload_n (pc := 11) t278_11 rfl ?_
      refine zs_iload_n (pc := 12) t278_12 rfl ?_
      refine zs_ishr (pc := 13) t278_13 (c := 0) (by decide) ?_
      refine zs_iconst (pc := 14) t278_14 (v := 1) (by decide) ?_
      refine zs_iand (pc := 15) t278_15 (c := 0) (by decide) ?_
      refine zs_iadd (pc := 16) t278_16 (c := 0) (by decide) ?_
      refine zs_istore_n (pc := 17) t278_17 (ls' := [(1, .int (0 : Int32)), (2, .int (7 : Int32)), (0, .int (0 : Int32))]) (zml mf278 (by decide)) rfl ?_
      refine zs_iinc (pc := 18) t278_18 (ls' := [(2, .int (8 : Int32)), (1, .int (0 : Int32)), (0, .int (0 : Int32))]) (zml mf278 (by decide)) rfl (c := 8) (by decide) rfl ?_
      refine zs_goto (pc := 21) t278_21 ?_
      refine zs_iload_n (pc := 4) t278_4 rfl ?_
      refine zs_bipush (pc := 5) t278_5 (v := 8) (by decide) ?_
      refine zs_icmp_geT (pc := 7) t278_7 li8 li8 (by decide) ?_
      refine zs_iload_n (pc := 24) t278_24 rfl ?_
      refine zs_iret (pc := 25) t278_25 mr278 (by decide) ?_
      show zGo X l 3 0 0 315 138 [(5, .int (0 : Int32)), (4, .int (0 : Int32)), (0, .ref 336), (1, .int a), (2, .int b), (3, .int c)] [.int (0 : Int32)] zMm _
      exact zs_iret (pc := 138) t315_138 mr315 (by decide) rfl
    refine zs_lcmp (pc := 2) t228_2 (c := 1) (zlcG (zi2l rfl) lln10 (by omega)) ?_
    refine zs_if_ltF (pc := 3) t228_3 li1 (by decide) ?_
    refine zs_lload_n (pc := 6) t228_6 rfl ?_
    refine zs_lload (pc := 7) t228_7 rfl ?_
    by_cases w4 : b.toInt < 10
    · refine zs_lcmp (pc := 9) t228_9 (c := -1) (zlcL (zi2l rfl) ll10 (by omega)) ?_
      refine zs_if_gtF (pc := 10) t228_10 lin1 (by decide) ?_
      refine zs_iconst (pc := 13) t228_13 (v := 1) (by decide) ?_
      refine zs_goto (pc := 14) t228_14 ?_
      refine zs_iret (pc := 18) t228_18 mr228 (by decide) ?_
      show zGo X l 3 0 0 315 45 [(0, .ref 336), (1, .int a), (2, .int b), (3, .int c)] [.int (1 : Int32)] zMm _
      refine zs_if_neT (pc := 45) t315_45 li1 (by decide) ?_
      refine zs_iconst (pc := 50) t315_50 (v := 0) (by decide) ?_
      refine zs_istore (pc := 51) t315_51 (ls' := [(4, .int (0 : Int32)), (0, .ref 336), (1, .int a), (2, .int b), (3, .int c)]) (zml mf315 (by decide)) rfl ?_
      refine zs_iconst (pc := 53) t315_53 (v := 0) (by decide) ?_
      refine zs_istore (pc := 54) t315_54 (ls' := [(5, .int (0 : Int32)), (4, .int (0 : Int32)), (0, .ref 336), (1, .int a), (2, .int b), (3, .int c)]) (zml mf315 (by decide)) rfl ?_
      refine zs_iload (pc := 56) t315_56 rfl ?_
      refine zs_aload_n (pc := 58) t315_58 rfl ?_
      refine zs_get (pc := 59) t315_59 (by decide) (zk1 fk_zMm_336) fv_zMm_336_0 ?_
      refine zs_iconst (pc := 62) t315_62 (v := 1) (by decide) ?_
      refine zs_iald (pc := 63) t315_63 (j := 1) (by decide) (zk1 fk_zMm_337) (by decide) (zk2 fk_zMm_337 (by decide)) fa_zMm_337_1 ?_
      refine zs_icmp_geT (pc := 64) t315_64 li0 li0 (by decide) ?_
      refine zs_iload (pc := 133) t315_133 rfl ?_
      refine zs_invS (pc := 135) (as := [.int (0 : Int32)]) (st := []) t315_135 (by decide) mf278 rfl rfl ⟨by decide, by decide, Nat.le_of_ble_eq_true rfl, Nat.le_of_ble_eq_true rfl⟩ (zs_in (by decide) mf278 (Nat.le_of_ble_eq_true rfl) ?_) (fun _ _ q => q)
      show zGo X l 0 0 0 278 0 [(0, .int (0 : Int32))] [] zMm _
      refine zs_iconst (pc := 0) t278_0 (v := 0) (by decide) ?_
      refine zs_istore_n (pc := 1) t278_1 (ls' := [(1, .int (0 : Int32)), (0, .int (0 : Int32))]) (zml mf278 (by decide)) rfl ?_
      refine zs_iconst (pc := 2) t278_2 (v := 0) (by decide) ?_
      refine zs_istore_n (pc := 3) t278_3 (ls' := [(2, .int (0 : Int32)), (1, .int (0 : Int32)), (0, .int (0 : Int32))]) (zml mf278 (by decide)) rfl ?_
      refine zs_iload_n (pc := 4) t278_4 rfl ?_
      refine zs_bipush (pc := 5) t278_5 (v := 8) (by decide) ?_
      refine zs_icmp_geF (pc := 7) t278_7 li0 li8 (by decide) ?_
      refine zs_iload_n (pc := 10) t278_10 rfl ?_
      refine zs_iload_n (pc := 11) t278_11 rfl ?_
      refine zs_iload_n (pc := 12) t278_12 rfl ?_
      refine zs_ishr (pc := 13) t278_13 (c := 0) (by decide) ?_
      refine zs_iconst (pc := 14) t278_14 (v := 1) (by decide) ?_
      refine zs_iand (pc := 15) t278_15 (c := 0) (by decide) ?_
      refine zs_iadd (pc := 16) t278_16 (c := 0) (by decide) ?_
      refine zs_istore_n (pc := 17) t278_17 (ls' := [(1, .int (0 : Int32)), (2, .int (0 : Int32)), (0, .int (0 : Int32))]) (zml mf278 (by decide)) rfl ?_
      refine zs_iinc (pc := 18) t278_18 (ls' := [(2, .int (1 : Int32)), (1, .int (0 : Int32)), (0, .int (0 : Int32))]) (zml mf278 (by decide)) rfl (c := 1) (by decide) rfl ?_
      refine zs_goto (pc := 21) t278_21 ?_
      refine zs_iload_n (pc := 4) t278_4 rfl ?_
      refine zs_bipush (pc := 5) t278_5 (v := 8) (by decide) ?_
      refine zs_icmp_geF (pc := 7) t278_7 li1 li8 (by decide) ?_
      refine zs_iload_n (pc := 10) t278_10 rfl ?_
      refine zs_iload_n (pc := 11) t278_11 rfl ?_
      refine zs_iload_n (pc := 12) t278_12 rfl ?_
      refine zs_ishr (pc := 13) t278_13 (c := 0) (by decide) ?_
      refine zs_iconst (pc := 14) t278_14 (v := 1) (by decide) ?_
      refine zs_iand (pc := 15) t278_15 (c := 0) (by decide) ?_
      refine zs_iadd (pc := 16) t278_16 (c := 0) (by decide) ?_
      refine zs_istore_n (pc := 17) t278_17 (ls' := [(1, .int (0 : Int32)), (2, .int (1 : Int32)), (0, .int (0 : Int32))]) (zml mf278 (by decide)) rfl ?_
      refine zs_iinc (pc := 18) t278_18 (ls' := [(2, .int (2 : Int32)), (1, .int (0 : Int32)), (0, .int (0 : Int32))]) (zml mf278 (by decide)) rfl (c := 2) (by decide) rfl ?_
      refine zs_goto (pc := 21) t278_21 ?_
      refine zs_iload_n (pc := 4) t278_4 rfl ?_
      refine zs_bipush (pc := 5) t278_5 (v := 8) (by decide) ?_
      refine zs_icmp_geF (pc := 7) t278_7 li2 li8 (by decide) ?_
      refine zs_iload_n (pc := 10) t278_10 rfl ?_
      refine zs_iload_n (pc := 11) t278_11 rfl ?_
      refine zs_iload_n (pc := 12) t278_12 rfl ?_
      refine zs_ishr (pc := 13) t278_13 (c := 0) (by decide) ?_
      refine zs_iconst (pc := 14) t278_14 (v := 1) (by decide) ?_
      refine zs_iand (pc := 15) t278_15 (c := 0) (by decide) ?_
      refine zs_iadd (pc := 16) t278_16 (c := 0) (by decide) ?_
      refine zs_istore_n (pc := 17) t278_17 (ls' := [(1, .int (0 : Int32)), (2, .int (2 : Int32)), (0, .int (0 : Int32))]) (zml mf278 (by decide)) rfl ?_
      refine zs_iinc (pc := 18) t278_18 (ls' := [(2, .int (3 : Int32)), (1, .int (0 : Int32)), (0, .int (0 : Int32))]) (zml mf278 (by decide)) rfl (c := 3) (by decide) rfl ?_
      refine zs_goto (pc := 21) t278_21 ?_
      refine zs_iload_n (pc := 4) t278_4 rfl ?_
      refine zs_bipush (pc := 5) t278_5 (v := 8) (by decide) ?_
      refine zs_icmp_geF (pc := 7) t278_7 li3 li8 (by decide) ?_
      refine zs_iload_n (pc := 10) t278_10 rfl ?_
      refine zs_iload_n (pc := 11) t278_11 rfl ?_
      refine zs_iload_n (pc := 12) t278_12 rfl ?_
      refine zs_ishr (pc := 13) t278_13 (c := 0) (by decide) ?_
      refine zs_iconst (pc := 14) t278_14 (v := 1) (by decide) ?_
      refine zs_iand (pc := 15) t278_15 (c := 0) (by decide) ?_
      refine zs_iadd (pc := 16) t278_16 (c := 0) (by decide) ?_
      refine zs_istore_n (pc := 17) t278_17 (ls' := [(1, .int (0 : Int32)), (2, .int (3 : Int32)), (0, .int (0 : Int32))]) (zml mf278 (by decide)) rfl ?_
      refine zs_iinc (pc := 18) t278_18 (ls' := [(2, .int (4 : Int32)), (1, .int (0 : Int32)), (0, .int (0 : Int32))]) (zml mf278 (by decide)) rfl (c := 4) (by decide) rfl ?_
      refine zs_goto (pc := 21) t278_21 ?_
      refine zs_iload_n (pc := 4) t278_4 rfl ?_
      refine zs_bipush (pc := 5) t278_5 (v := 8) (by decide) ?_
      refine zs_icmp_geF (pc := 7) t278_7 li4 li8 (by decide) ?_
      refine zs_iload_n (pc := 10) t278_10 rfl ?_
      refine zs_iload_n (pc := 11) t278_11 rfl ?_
      refine zs_iload_n (pc := 12) t278_12 rfl ?_
      refine zs_ishr (pc := 13) t278_13 (c := 0) (by decide) ?_
      refine zs_iconst (pc := 14) t278_14 (v := 1) (by decide) ?_
      refine zs_iand (pc := 15) t278_15 (c := 0) (by decide) ?_
      refine zs_iadd (pc := 16) t278_16 (c := 0) (by decide) ?_
      refine zs_istore_n (pc := 17) t278_17 (ls' := [(1, .int (0 : Int32)), (2, .int (4 : Int32)), (0, .int (0 : Int32))]) (zml mf278 (by decide)) rfl ?_
      refine zs_iinc (pc := 18) t278_18 (ls' := [(2, .int (5 : Int32)), (1, .int (0 : Int32)), (0, .int (0 : Int32))]) (zml mf278 (by decide)) rfl (c := 5) (by decide) rfl ?_
      refine zs_goto (pc := 21) t278_21 ?_
      refine zs_iload_n (pc := 4) t278_4 rfl ?_
      refine zs_bipush (pc := 5) t278_5 (v := 8) (by decide) ?_
      refine zs_icmp_geF (pc := 7) t278_7 li5 li8 (by decide) ?_
      refine zs_iload_n (pc := 10) t278_10 rfl ?_
      refine zs_iload_n (pc := 11) t278_11 rfl ?_
      refine zs_iload_n (pc := 12) t278_12 rfl ?_
      refine zs_ishr (pc := 13) t278_13 (c := 0) (by decide) ?_
      refine zs_iconst (pc := 14) t278_14 (v := 1) (by decide) ?_
      refine zs_iand (pc := 15) t278_15 (c := 0) (by decide) ?_
      refine zs_iadd (pc := 16) t278_16 (c := 0) (by decide) ?_
      refine zs_istore_n (pc := 17) t278_17 (ls' := [(1, .int (0 : Int32)), (2, .int (5 : Int32)), (0, .int (0 : Int32))]) (zml mf278 (by decide)) rfl ?_
      refine zs_iinc (pc := 18) t278_18 (ls' := [(2, .int (6 : Int32)), (1, .int (0 : Int32)), (0, .int (0 : Int32))]) (zml mf278 (by decide)) rfl (c := 6) (by decide) rfl ?_
      refine zs_goto (pc := 21) t278_21 ?_
      refine zs_iload_n (pc := 4) t278_4 rfl ?_
      refine zs_bipush (pc := 5) t278_5 (v := 8) (by decide) ?_
      refine zs_icmp_geF (pc := 7) t278_7 li6 li8 (by decide) ?_
      refine zs_iload_n (pc := 10) t278_10 rfl ?_
      refine zs_iload_n (pc := 11) t278_11 rfl ?_
      refine zs_iload_n (pc := 12) t278_12 rfl ?_
      refine zs_ishr (pc := 13) t278_13 (c := 0) (by decide) ?_
      refine zs_iconst (pc := 14) t278_14 (v := 1) (by decide) ?_
      refine zs_iand (pc := 15) t278_15 (c := 0) (by decide) ?_
      refine zs_iadd (pc := 16) t278_16 (c := 0) (by decide) ?_
      refine zs_istore_n (pc := 17) t278_17 (ls' := [(1, .int (0 : Int32)), (2, .int (6 : Int32)), (0, .int (0 : Int32))]) (zml mf278 (by decide)) rfl ?_
      refine zs_iinc (pc := 18) t278_18 (ls' := [(2, .int (7 : Int32)), (1, .int (0 : Int32)), (0, .int (0 : Int32))]) (zml mf278 (by decide)) rfl (c := 7) (by decide) rfl ?_
      refine zs_goto (pc := 21) t278_21 ?_
      refine zs_iload_n (pc := 4) t278_4 rfl ?_
      refine zs_bipush (pc := 5) t278_5 (v := 8) (by decide) ?_
      refine zs_icmp_geF (pc := 7) t278_7 li7 li8 (by decide) ?_
      refine zs_iload_n (pc := 10) t278_10 rfl ?_
      refine zs_iload_n (pc := 11) t278_11 rfl ?_
      refine zs_iload_n (pc := 12) t278_12 rfl ?_
      refine zs_ishr (pc := 13) t278_13 (c := 0) (by decide) ?_
      refine zs_iconst (pc := 14) t278_14 (v := 1) (by decide) ?_
      refine zs_iand (pc := 15) t278_15 (c := 0) (by decide) ?_
      refine zs_iadd (pc := 16) t278_16 (c := 0) (by decide) ?_
      refine zs_istore_n (pc := 17) t278_17 (ls' := [(1, .int (0 : Int32)), (2, .int (7 : Int32)), (0, .int (0 : Int32))]) (zml mf278 (by decide)) rfl ?_
      refine zs_iinc (pc := 18) t278_18 (ls' := [(2, .int (8 : Int32)), (1, .int (0 : Int32)), (0, .int (0 : Int32))]) (zml mf278 (by decide)) rfl (c := 8) (by decide) rfl ?_
      refine zs_goto (pc := 21) t278_21 ?_
      refine zs_iload_n (pc := 4) t278_4 rfl ?_
      refine zs_bipush (pc := 5) t278_5 (v := 8) (by decide) ?_
      refine zs_icmp_geT (pc := 7) t278_7 li8 li8 (by decide) ?_
      refine zs_iload_n (pc := 24) t278_24 rfl ?_
      refine zs_iret (pc := 25) t278_25 mr278 (by decide) ?_
      show zGo X l 3 0 0 315 138 [(5, .int (0 : Int32)), (4, .int (0 : Int32)), (0, .ref 336), (1, .int a), (2, .int b), (3, .int c)] [.int (0 : Int32)] zMm _
      exact zs_iret (pc := 138) t315_138 mr315 (by decide) rfl
    refine zs_lcmp (pc := 9) t228_9 (c := 0) (zlcE (zi2l rfl) ll10 (by omega)) ?_
    refine zs_if_gtF (pc := 10) t228_10 li0 (by decide) ?_
    refine zs_iconst (pc := 13) t228_13 (v := 1) (by decide) ?_
    refine zs_goto (pc := 14) t228_14 ?_
    refine zs_iret (pc := 18) t228_18 mr228 (by decide) ?_
    show zGo X l 3 0 0 315 45 [(0, .ref 336), (1, .int a), (2, .int b), (3, .int c)] [.int (1 : Int32)] zMm _
    refine zs_if_neT (pc := 45) t315_45 li1 (by decide) ?_
    refine zs_iconst (pc := 50) t315_50 (v := 0) (by decide) ?_
    refine zs_istore (pc := 51) t315_51 (ls' := [(4, .int (0 : Int32)), (0, .ref 336), (1, .int a), (2, .int b), (3, .int c)]) (zml mf315 (by decide)) rfl ?_
    refine zs_iconst (pc := 53) t315_53 (v := 0) (by decide) ?_
    refine zs_istore (pc := 54) t315_54 (ls' := [(5, .int (0 : Int32)), (4, .int (0 : Int32)), (0, .ref 336), (1, .int a), (2, .int b), (3, .int c)]) (zml mf315 (by decide)) rfl ?_
    refine zs_iload (pc := 56) t315_56 rfl ?_
    refine zs_aload_n (pc := 58) t315_58 rfl ?_
    refine zs_get (pc := 59) t315_59 (by decide) (zk1 fk_zMm_336) fv_zMm_336_0 ?_
    refine zs_iconst (pc := 62) t315_62 (v := 1) (by decide) ?_
    refine zs_iald (pc := 63) t315_63 (j := 1) (by decide) (zk1 fk_zMm_337) (by decide) (zk2 fk_zMm_337 (by decide)) fa_zMm_337_1 ?_
    refine zs_icmp_geT (pc := 64) t315_64 li0 li0 (by decide) ?_
    refine zs_iload (pc := 133) t315_133 rfl ?_
    refine zs_invS (pc := 135) (as := [.int (0 : Int32)]) (st := []) t315_135 (by decide) mf278 rfl rfl ⟨by decide, by decide, Nat.le_of_ble_eq_true rfl, Nat.le_of_ble_eq_true rfl⟩ (zs_in (by decide) mf278 (Nat.le_of_ble_eq_true rfl) ?_) (fun _ _ q => q)
    show zGo X l 0 0 0 278 0 [(0, .int (0 : Int32))] [] zMm _
    refine zs_iconst (pc := 0) t278_0 (v := 0) (by decide) ?_
    refine zs_istore_n (pc := 1) t278_1 (ls' := [(1, .int (0 : Int32)), (0, .int (0 : Int32))]) (zml mf278 (by decide)) rfl ?_
    refine zs_iconst (pc := 2) t278_2 (v := 0) (by decide) ?_
    refine zs_istore_n (pc := 3) t278_3 (ls' := [(2, .int (0 : Int32)), (1, .int (0 : Int32)), (0, .int (0 : Int32))]) (zml mf278 (by decide)) rfl ?_
    refine zs_iload_n (pc := 4) t278_4 rfl ?_
    refine zs_bipush (pc := 5) t278_5 (v := 8) (by decide) ?_
    refine zs_icmp_geF (pc := 7) t278_7 li0 li8 (by decide) ?_
    refine zs_iload_n (pc := 10) t278_10 rfl ?_
    refine zs_iload_n (pc := 11) t278_11 rfl ?_
    refine zs_iload_n (pc := 12) t278_12 rfl ?_
    refine zs_ishr (pc := 13) t278_13 (c := 0) (by decide) ?_
    refine zs_iconst (pc := 14) t278_14 (v := 1) (by decide) ?_
    refine zs_iand (pc := 15) t278_15 (c := 0) (by decide) ?_
    refine zs_iadd (pc := 16) t278_16 (c := 0) (by decide) ?_
    refine zs_istore_n (pc := 17) t278_17 (ls' := [(1, .int (0 : Int32)), (2, .int (0 : Int32)), (0, .int (0 : Int32))]) (zml mf278 (by decide)) rfl ?_
    refine zs_iinc (pc := 18) t278_18 (ls' := [(2, .int (1 : Int32)), (1, .int (0 : Int32)), (0, .int (0 : Int32))]) (zml mf278 (by decide)) rfl (c := 1) (by decide) rfl ?_
    refine zs_goto (pc := 21) t278_21 ?_
    refine zs_iload_n (pc := 4) t278_4 rfl ?_
    refine zs_bipush (pc := 5) t278_5 (v := 8) (by decide) ?_
    refine zs_icmp_geF (pc := 7) t278_7 li1 li8 (by decide) ?_
    refine zs_iload_n (pc := 10) t278_10 rfl ?_
    refine zs_iload_n (pc := 11) t278_11 rfl ?_
    refine zs_iload_n (pc := 12) t278_12 rfl ?_
    refine zs_ishr (pc := 13) t278_13 (c := 0) (by decide) ?_
    refine zs_iconst (pc := 14) t278_14 (v := 1) (by decide) ?_
    refine zs_iand (pc := 15) t278_15 (c := 0) (by decide) ?_
    refine zs_iadd (pc := 16) t278_16 (c := 0) (by decide) ?_
    refine zs_istore_n (pc := 17) t278_17 (ls' := [(1, .int (0 : Int32)), (2, .int (1 : Int32)), (0, .int (0 : Int32))]) (zml mf278 (by decide)) rfl ?_
    refine zs_iinc (pc := 18) t278_18 (ls' := [(2, .int (2 : Int32)), (1, .int (0 : Int32)), (0, .int (0 : Int32))]) (zml mf278 (by decide)) rfl (c := 2) (by decide) rfl ?_
    refine zs_goto (pc := 21) t278_21 ?_
    refine zs_iload_n (pc := 4) t278_4 rfl ?_
    refine zs_bipush (pc := 5) t278_5 (v := 8) (by decide) ?_
    refine zs_icmp_geF (pc := 7) t278_7 li2 li8 (by decide) ?_
    refine zs_iload_n (pc := 10) t278_10 rfl ?_
    refine zs_iload_n (pc := 11) t278_11 rfl ?_
    refine zs_iload_n (pc := 12) t278_12 rfl ?_
    refine zs_ishr (pc := 13) t278_13 (c := 0) (by decide) ?_
    refine zs_iconst (pc := 14) t278_14 (v := 1) (by decide) ?_
    refine zs_iand (pc := 15) t278_15 (c := 0) (by decide) ?_
    refine zs_iadd (pc := 16) t278_16 (c := 0) (by decide) ?_
    refine zs_istore_n (pc := 17) t278_17 (ls' := [(1, .int (0 : Int32)), (2, .int (2 : Int32)), (0, .int (0 : Int32))]) (zml mf278 (by decide)) rfl ?_
    refine zs_iinc (pc := 18) t278_18 (ls' := [(2, .int (3 : Int32)), (1, .int (0 : Int32)), (0, .int (0 : Int32))]) (zml mf278 (by decide)) rfl (c := 3) (by decide) rfl ?_
    refine zs_goto (pc := 21) t278_21 ?_
    refine zs_iload_n (pc := 4) t278_4 rfl ?_
    refine zs_bipush (pc := 5) t278_5 (v := 8) (by decide) ?_
    refine zs_icmp_geF (pc := 7) t278_7 li3 li8 (by decide) ?_
    refine zs_iload_n (pc := 10) t278_10 rfl ?_
    refine zs_iload_n (pc := 11) t278_11 rfl ?_
    refine zs_iload_n (pc := 12) t278_12 rfl ?_
    refine zs_ishr (pc := 13) t278_13 (c := 0) (by decide) ?_
    refine zs_iconst (pc := 14) t278_14 (v := 1) (by decide) ?_
    refine zs_iand (pc := 15) t278_15 (c := 0) (by decide) ?_
    refine zs_iadd (pc := 16) t278_16 (c := 0) (by decide) ?_
    refine zs_istore_n (pc := 17) t278_17 (ls' := [(1, .int (0 : Int32)), (2, .int (3 : Int32)), (0, .int (0 : Int32))]) (zml mf278 (by decide)) rfl ?_
    refine zs_iinc (pc := 18) t278_18 (ls' := [(2, .int (4 : Int32)), (1, .int (0 : Int32)), (0, .int (0 : Int32))]) (zml mf278 (by decide)) rfl (c := 4) (by decide) rfl ?_
    refine zs_goto (pc := 21) t278_21 ?_
    refine zs_iload_n (pc := 4) t278_4 rfl ?_
    refine zs_bipush (pc := 5) t278_5 (v := 8) (by decide) ?_
    refine zs_icmp_geF (pc := 7) t278_7 li4 li8 (by decide) ?_
    refine zs_iload_n (pc := 10) t278_10 rfl ?_
    refine zs_iload_n (pc := 11) t278_11 rfl ?_
    refine zs_iload_n (pc := 12) t278_12 rfl ?_
    refine zs_ishr (pc := 13) t278_13 (c := 0) (by decide) ?_
    refine zs_iconst (pc := 14) t278_14 (v := 1) (by decide) ?_
    refine zs_iand (pc := 15) t278_15 (c := 0) (by decide) ?_
    refine zs_iadd (pc := 16) t278_16 (c := 0) (by decide) ?_
    refine zs_istore_n (pc := 17) t278_17 (ls' := [(1, .int (0 : Int32)), (2, .int (4 : Int32)), (0, .int (0 : Int32))]) (zml mf278 (by decide)) rfl ?_
    refine zs_iinc (pc := 18) t278_18 (ls' := [(2, .int (5 : Int32)), (1, .int (0 : Int32)), (0, .int (0 : Int32))]) (zml mf278 (by decide)) rfl (c := 5) (by decide) rfl ?_
    refine zs_goto (pc := 21) t278_21 ?_
    refine zs_iload_n (pc := 4) t278_4 rfl ?_
    refine zs_bipush (pc := 5) t278_5 (v := 8) (by decide) ?_
    refine zs_icmp_geF (pc := 7) t278_7 li5 li8 (by decide) ?_
    refine zs_iload_n (pc := 10) t278_10 rfl ?_
    refine zs_iload_n (pc := 11) t278_11 rfl ?_
    refine zs_iload_n (pc := 12) t278_12 rfl ?_
    refine zs_ishr (pc := 13) t278_13 (c := 0) (by decide) ?_
    refine zs_iconst (pc := 14) t278_14 (v := 1) (by decide) ?_
    refine zs_iand (pc := 15) t278_15 (c := 0) (by decide) ?_
    refine zs_iadd (pc := 16) t278_16 (c := 0) (by decide) ?_
    refine zs_istore_n (pc := 17) t278_17 (ls' := [(1, .int (0 : Int32)), (2, .int (5 : Int32)), (0, .int (0 : Int32))]) (zml mf278 (by decide)) rfl ?_
    refine zs_iinc (pc := 18) t278_18 (ls' := [(2, .int (6 : Int32)), (1, .int (0 : Int32)), (0, .int (0 : Int32))]) (zml mf278 (by decide)) rfl (c := 6) (by decide) rfl ?_
    refine zs_goto (pc := 21) t278_21 ?_
    refine zs_iload_n (pc := 4) t278_4 rfl ?_
    refine zs_bipush (pc := 5) t278_5 (v := 8) (by decide) ?_
    refine zs_icmp_geF (pc := 7) t278_7 li6 li8 (by decide) ?_
    refine zs_iload_n (pc := 10) t278_10 rfl ?_
    refine zs_iload_n (pc := 11) t278_11 rfl ?_
    refine zs_iload_n (pc := 12) t278_12 rfl ?_
    refine zs_ishr (pc := 13) t278_13 (c := 0) (by decide) ?_
    refine zs_iconst (pc := 14) t278_14 (v := 1) (by decide) ?_
    refine zs_iand (pc := 15) t278_15 (c := 0) (by decide) ?_
    refine zs_iadd (pc := 16) t278_16 (c := 0) (by decide) ?_
    refine zs_istore_n (pc := 17) t278_17 (ls' := [(1, .int (0 : Int32)), (2, .int (6 : Int32)), (0, .int (0 : Int32))]) (zml mf278 (by decide)) rfl ?_
    refine zs_iinc (pc := 18) t278_18 (ls' := [(2, .int (7 : Int32)), (1, .int (0 : Int32)), (0, .int (0 : Int32))]) (zml mf278 (by decide)) rfl (c := 7) (by decide) rfl ?_
    refine zs_goto (pc := 21) t278_21 ?_
    refine zs_iload_n (pc := 4) t278_4 rfl ?_
    refine zs_bipush (pc := 5) t278_5 (v := 8) (by decide) ?_
    refine zs_icmp_geF (pc := 7) t278_7 li7 li8 (by decide) ?_
    refine zs_iload_n (pc := 10) t278_10 rfl ?_
    refine zs_iload_n (pc := 11) t278_11 rfl ?_
    refine zs_iload_n (pc := 12) t278_12 rfl ?_
    refine zs_ishr (pc := 13) t278_13 (c := 0) (by decide) ?_
    refine zs_iconst (pc := 14) t278_14 (v := 1) (by decide) ?_
    refine zs_iand (pc := 15) t278_15 (c := 0) (by decide) ?_
    refine zs_iadd (pc := 16) t278_16 (c := 0) (by decide) ?_
    refine zs_istore_n (pc := 17) t278_17 (ls' := [(1, .int (0 : Int32)), (2, .int (7 : Int32)), (0, .int (0 : Int32))]) (zml mf278 (by decide)) rfl ?_
    refine zs_iinc (pc := 18) t278_18 (ls' := [(2, .int (8 : Int32)), (1, .int (0 : Int32)), (0, .int (0 : Int32))]) (zml mf278 (by decide)) rfl (c := 8) (by decide) rfl ?_
    refine zs_goto (pc := 21) t278_21 ?_
    refine zs_iload_n (pc := 4) t278_4 rfl ?_
    refine zs_bipush (pc := 5) t278_5 (v := 8) (by decide) ?_
    refine zs_icmp_geT (pc := 7) t278_7 li8 li8 (by decide) ?_
    refine zs_iload_n (pc := 24) t278_24 rfl ?_
    refine zs_iret (pc := 25) t278_25 mr278 (by decide) ?_
    show zGo X l 3 0 0 315 138 [(5, .int (0 : Int32)), (4, .int (0 : Int32)), (0, .ref 336), (1, .int a), (2, .int b), (3, .int c)] [.int (0 : Int32)] zMm _
    exact zs_iret (pc := 138) t315_138 mr315 (by decide) rfl
  refine zs_lcmp (pc := 2) t228_2 (c := 1) (zlcG (zi2l rfl) lln1 (by omega)) ?_
  refine zs_if_ltF (pc := 3) t228_3 li1 (by decide) ?_
  refine zs_lload_n (pc := 6) t228_6 rfl ?_
  refine zs_lload (pc := 7) t228_7 rfl ?_
  by_cases w7 : a.toInt < 1
  · refine zs_lcmp (pc := 9) t228_9 (c := -1) (zlcL (zi2l rfl) ll1 (by omega)) ?_
    refine zs_if_gtF (pc := 10) t228_10 lin1 (by decide) ?_
    refine zs_iconst (pc := 13) t228_13 (v := 1) (by decide) ?_
    refine zs_goto (pc := 14) t228_14 ?_
    refine zs_iret (pc := 18) t228_18 mr228 (by decide) ?_
    show zGo X l 3 0 0 315 20 [(0, .ref 336), (1, .int a), (2, .int b), (3, .int c)] [.int (1 : Int32)] zMm _
    refine zs_if_eqF (pc := 20) t315_20 li1 (by decide) ?_
    refine zs_iload_n (pc := 23) t315_23 rfl ?_
    refine zs_i2l (pc := 24) t315_24 rfl ?_
    refine zs_aload_n (pc := 25) t315_25 rfl ?_
    refine zs_get (pc := 26) t315_26 (by decide) (zk1 fk_zMm_336) fv_zMm_336_0 ?_
    refine zs_bipush (pc := 29) t315_29 (v := 6) (by decide) ?_
    refine zs_iald (pc := 31) t315_31 (j := 6) (by decide) (zk1 fk_zMm_337) (by decide) (zk2 fk_zMm_337 (by decide)) fa_zMm_337_6 ?_
    refine zs_ineg (pc := 32) t315_32 (c := -10) (by decide) ?_
    refine zs_i2l (pc := 33) t315_33 (c := -10) (by decide) ?_
    refine zs_aload_n (pc := 34) t315_34 rfl ?_
    refine zs_get (pc := 35) t315_35 (by decide) (zk1 fk_zMm_336) fv_zMm_336_0 ?_
    refine zs_bipush (pc := 38) t315_38 (v := 6) (by decide) ?_
    refine zs_iald (pc := 40) t315_40 (j := 6) (by decide) (zk1 fk_zMm_337) (by decide) (zk2 fk_zMm_337 (by decide)) fa_zMm_337_6 ?_
    refine zs_i2l (pc := 41) t315_41 (c := 10) (by decide) ?_
    refine zs_invS (pc := 42) (as := [.long b.toInt64, .long (-10 : Int64), .long (10 : Int64)]) (st := []) t315_42 (by decide) mf228 rfl rfl ⟨by decide, by decide, Nat.le_of_ble_eq_true rfl, Nat.le_of_ble_eq_true rfl⟩ (zs_in (by decide) mf228 (Nat.le_of_ble_eq_true rfl) ?_) (fun _ _ q => q)
    show zGo X l 0 0 0 228 0 [(0, .long b.toInt64), (2, .long (-10 : Int64)), (4, .long (10 : Int64))] [] zMm _
    refine zs_lload_n (pc := 0) t228_0 rfl ?_
    refine zs_lload_n (pc := 1) t228_1 rfl ?_
    by_cases w8 : b.toInt = (-10)
    · refine zs_lcmp (pc := 2) t228_2 (c := 0) (zlcE (zi2l rfl) lln10 (by omega)) ?_
      refine zs_if_ltF (pc := 3) t228_3 li0 (by decide) ?_
      refine zs_lload_n (pc := 6) t228_6 rfl ?_
      refine zs_lload (pc := 7) t228_7 rfl ?_
      refine zs_lcmp (pc := 9) t228_9 (c := -1) (zlcL (zi2l rfl) ll10 (by omega)) ?_
      refine zs_if_gtF (pc := 10) t228_10 lin1 (by decide) ?_
      refine zs_iconst (pc := 13) t228_13 (v := 1) (by decide) ?_
      refine zs_goto (pc := 14) t228_14 ?_
      refine zs_iret (pc := 18) t228_18 mr228 (by decide) ?_
      show zGo X l 3 0 0 315 45 [(0, .ref 336), (1, .int a), (2, .int b), (3, .int c)] [.int (1 : Int32)] zMm _
      refine zs_if_neT (pc := 45) t315_45 li1 (by decide) ?_
      refine zs_iconst (pc := 50) t315_50 (v := 0) (by decide) ?_
      refine zs_istore (pc := 51) t315_51 (ls' := [(4, .int (0 : Int32)), (0, .ref 336), (1, .int a), (2, .int b), (3, .int c)]) (zml mf315 (by decide)) rfl ?_
      refine zs_iconst (pc := 53) t315_53 (v := 0) (by decide) ?_
      refine zs_istore (pc := 54) t315_54 (ls' := [(5, .int (0 : Int32)), (4, .int (0 : Int32)), (0, .ref 336), (1, .int a), (2, .int b), (3, .int c)]) (zml mf315 (by decide)) rfl ?_
      refine zs_iload (pc := 56) t315_56 rfl ?_
      refine zs_aload_n (pc := 58) t315_58 rfl ?_
      refine zs_get (pc := 59) t315_59 (by decide) (zk1 fk_zMm_336) fv_zMm_336_0 ?_
      refine zs_iconst (pc := 62) t315_62 (v := 1) (by decide) ?_
      refine zs_iald (pc := 63) t315_63 (j := 1) (by decide) (zk1 fk_zMm_337) (by decide) (zk2 fk_zMm_337 (by decide)) fa_zMm_337_1 ?_
      refine zs_icmp_geT (pc := 64) t315_64 li0 li0 (by decide) ?_
      refine zs_iload (pc := 133) t315_133 rfl ?_
      refine zs_invS (pc := 135) (as := [.int (0 : Int32)]) (st := []) t315_135 (by decide) mf278 rfl rfl ⟨by decide, by decide, Nat.le_of_ble_eq_true rfl, Nat.le_of_ble_eq_true rfl⟩ (zs_in (by decide) mf278 (Nat.le_of_ble_eq_true rfl) ?_) (fun _ _ q => q)
      show zGo X l 0 0 0 278 0 [(0, .int (0 : Int32))] [] zMm _
      refine zs_iconst (pc := 0) t278_0 (v := 0) (by decide) ?_
      refine zs_istore_n (pc := 1) t278_1 (ls' := [(1, .int (0 : Int32)), (0, .int (0 : Int32))]) (zml mf278 (by decide)) rfl ?_
      refine zs_iconst (pc := 2) t278_2 (v := 0) (by decide) ?_
      refine zs_istore_n (pc := 3) t278_3 (ls' := [(2, .int (0 : Int32)), (1, .int (0 : Int32)), (0, .int (0 : Int32))]) (zml mf278 (by decide)) rfl ?_
      refine zs_iload_n (pc := 4) t278_4 rfl ?_
      refine zs_bipush (pc := 5) t278_5 (v := 8) (by decide) ?_
      refine zs_icmp_geF (pc := 7) t278_7 li0 li8 (by decide) ?_
      refine zs_iload_n (pc := 10) t278_10 rfl ?_
      refine zs_iload_n (pc := 11) t278_11 rfl ?_
      refine zs_iload_n (pc := 12) t278_12 rfl ?_
      refine zs_ishr (pc := 13) t278_13 (c := 0) (by decide) ?_
      refine zs_iconst (pc := 14) t278_14 (v := 1) (by decide) ?_
      refine zs_iand (pc := 15) t278_15 (c := 0) (by decide) ?_
      refine zs_iadd (pc := 16) t278_16 (c := 0) (by decide) ?_
      refine zs_istore_n (pc := 17) t278_17 (ls' := [(1, .int (0 : Int32)), (2, .int (0 : Int32)), (0, .int (0 : Int32))]) (zml mf278 (by decide)) rfl ?_
      refine zs_iinc (pc := 18) t278_18 (ls' := [(2, .int (1 : Int32)), (1, .int (0 : Int32)), (0, .int (0 : Int32))]) (zml mf278 (by decide)) rfl (c := 1) (by decide) rfl ?_
      refine zs_goto (pc := 21) t278_21 ?_
      refine zs_iload_n (pc := 4) t278_4 rfl ?_
      refine zs_bipush (pc := 5) t278_5 (v := 8) (by decide) ?_
      refine zs_icmp_geF (pc := 7) t278_7 li1 li8 (by decide) ?_
      refine zs_iload_n (pc := 10) t278_10 rfl ?_
      refine zs_iload_n (pc := 11) t278_11 rfl ?_
      refine zs_iload_n (pc := 12) t278_12 rfl ?_
      refine zs_ishr (pc := 13) t278_13 (c := 0) (by decide) ?_
      refine zs_iconst (pc := 14) t278_14 (v := 1) (by decide) ?_
      refine zs_iand (pc := 15) t278_15 (c := 0) (by decide) ?_
      refine zs_iadd (pc := 16) t278_16 (c := 0) (by decide) ?_
      refine zs_istore_n (pc := 17) t278_17 (ls' := [(1, .int (0 : Int32)), (2, .int (1 : Int32)), (0, .int (0 : Int32))]) (zml mf278 (by decide)) rfl ?_
      refine zs_iinc (pc := 18) t278_18 (ls' := [(2, .int (2 : Int32)), (1, .int (0 : Int32)), (0, .int (0 : Int32))]) (zml mf278 (by decide)) rfl (c := 2) (by decide) rfl ?_
      refine zs_goto (pc := 21) t278_21 ?_
      refine zs_iload_n (pc := 4) t278_4 rfl ?_
      refine zs_bipush (pc := 5) t278_5 (v := 8) (by decide) ?_
      refine zs_icmp_geF (pc := 7) t278_7 li2 li8 (by decide) ?_
      refine zs_iload_n (pc := 10) t278_10 rfl ?_
      refine zs_iload_n (pc := 11) t278_11 rfl ?_
      refine zs_iload_n (pc := 12) t278_12 rfl ?_
      refine zs_ishr (pc := 13) t278_13 (c := 0) (by decide) ?_
      refine zs_iconst (pc := 14) t278_14 (v := 1) (by decide) ?_
      refine zs_iand (pc := 15) t278_15 (c := 0) (by decide) ?_
      refine zs_iadd (pc := 16) t278_16 (c := 0) (by decide) ?_
      refine zs_istore_n (pc := 17) t278_17 (ls' := [(1, .int (0 : Int32)), (2, .int (2 : Int32)), (0, .int (0 : Int32))]) (zml mf278 (by decide)) rfl ?_
      refine zs_iinc (pc := 18) t278_18 (ls' := [(2, .int (3 : Int32)), (1, .int (0 : Int32)), (0, .int (0 : Int32))]) (zml mf278 (by decide)) rfl (c := 3) (by decide) rfl ?_
      refine zs_goto (pc := 21) t278_21 ?_
      refine zs_iload_n (pc := 4) t278_4 rfl ?_
      refine zs_bipush (pc := 5) t278_5 (v := 8) (by decide) ?_
      refine zs_icmp_geF (pc := 7) t278_7 li3 li8 (by decide) ?_
      refine zs_iload_n (pc := 10) t278_10 rfl ?_
      refine zs_iload_n (pc := 11) t278_11 rfl ?_
      refine zs_iload_n (pc := 12) t278_12 rfl ?_
      refine zs_ishr (pc := 13) t278_13 (c := 0) (by decide) ?_
      refine zs_iconst (pc := 14) t278_14 (v := 1) (by decide) ?_
      refine zs_iand (pc := 15) t278_15 (c := 0) (by decide) ?_
      refine zs_iadd (pc := 16) t278_16 (c := 0) (by decide) ?_
      refine zs_istore_n (pc := 17) t278_17 (ls' := [(1, .int (0 : Int32)), (2, .int (3 : Int32)), (0, .int (0 : Int32))]) (zml mf278 (by decide)) rfl ?_
      refine zs_iinc (pc := 18) t278_18 (ls' := [(2, .int (4 : Int32)), (1, .int (0 : Int32)), (0, .int (0 : Int32))]) (zml mf278 (by decide)) rfl (c := 4) (by decide) rfl ?_
      refine zs_goto (pc := 21) t278_21 ?_
      refine zs_iload_n (pc := 4) t278_4 rfl ?_
      refine zs_bipush (pc := 5) t278_5 (v := 8) (by decide) ?_
      refine zs_icmp_geF (pc := 7) t278_7 li4 li8 (by decide) ?_
      refine zs_iload_n (pc := 10) t278_10 rfl ?_
      refine zs_iload_n (pc := 11) t278_11 rfl ?_
      refine zs_iload_n (pc := 12) t278_12 rfl ?_
      refine zs_ishr (pc := 13) t278_13 (c := 0) (by decide) ?_
      refine zs_iconst (pc := 14) t278_14 (v := 1) (by decide) ?_
      refine zs_iand (pc := 15) t278_15 (c := 0) (by decide) ?_
      refine zs_iadd (pc := 16) t278_16 (c := 0) (by decide) ?_
      refine zs_istore_n (pc := 17) t278_17 (ls' := [(1, .int (0 : Int32)), (2, .int (4 : Int32)), (0, .int (0 : Int32))]) (zml mf278 (by decide)) rfl ?_
      refine zs_iinc (pc := 18) t278_18 (ls' := [(2, .int (5 : Int32)), (1, .int (0 : Int32)), (0, .int (0 : Int32))]) (zml mf278 (by decide)) rfl (c := 5) (by decide) rfl ?_
      refine zs_goto (pc := 21) t278_21 ?_
      refine zs_iload_n (pc := 4) t278_4 rfl ?_
      refine zs_bipush (pc := 5) t278_5 (v := 8) (by decide) ?_
      refine zs_icmp_geF (pc := 7) t278_7 li5 li8 (by decide) ?_
      refine zs_iload_n (pc := 10) t278_10 rfl ?_
      refine zs_iload_n (pc := 11) t278_11 rfl ?_
      refine zs_iload_n (pc := 12) t278_12 rfl ?_
      refine zs_ishr (pc := 13) t278_13 (c := 0) (by decide) ?_
      refine zs_iconst (pc := 14) t278_14 (v := 1) (by decide) ?_
      refine zs_iand (pc := 15) t278_15 (c := 0) (by decide) ?_
      refine zs_iadd (pc := 16) t278_16 (c := 0) (by decide) ?_
      refine zs_istore_n (pc := 17) t278_17 (ls' := [(1, .int (0 : Int32)), (2, .int (5 : Int32)), (0, .int (0 : Int32))]) (zml mf278 (by decide)) rfl ?_
      refine zs_iinc (pc := 18) t278_18 (ls' := [(2, .int (6 : Int32)), (1, .int (0 : Int32)), (0, .int (0 : Int32))]) (zml mf278 (by decide)) rfl (c := 6) (by decide) rfl ?_
      refine zs_goto (pc := 21) t278_21 ?_
      refine zs_iload_n (pc := 4) t278_4 rfl ?_
      refine zs_bipush (pc := 5) t278_5 (v := 8) (by decide) ?_
      refine zs_icmp_geF (pc := 7) t278_7 li6 li8 (by decide) ?_
      refine zs_iload_n (pc := 10) t278_10 rfl ?_
      refine zs_iload_n (pc := 11) t278_11 rfl ?_
      refine zs_iload_n (pc := 12) t278_12 rfl ?_
      refine zs_ishr (pc := 13) t278_13 (c := 0) (by decide) ?_
      refine zs_iconst (pc := 14) t278_14 (v := 1) (by decide) ?_
      refine zs_iand (pc := 15) t278_15 (c := 0) (by decide) ?_
      refine zs_iadd (pc := 16) t278_16 (c := 0) (by decide) ?_
      refine zs_istore_n (pc := 17) t278_17 (ls' := [(1, .int (0 : Int32)), (2, .int (6 : Int32)), (0, .int (0 : Int32))]) (zml mf278 (by decide)) rfl ?_
      refine zs_iinc (pc := 18) t278_18 (ls' := [(2, .int (7 : Int32)), (1, .int (0 : Int32)), (0, .int (0 : Int32))]) (zml mf278 (by decide)) rfl (c := 7) (by decide) rfl ?_
      refine zs_goto (pc := 21) t278_21 ?_
      refine zs_iload_n (pc := 4) t278_4 rfl ?_
      refine zs_bipush (pc := 5) t278_5 (v := 8) (by decide) ?_
      refine zs_icmp_geF (pc := 7) t278_7 li7 li8 (by decide) ?_
      refine zs_iload_n (pc := 10) t278_10 rfl ?_
      refine zs_iload_n (pc := 11) t278_11 rfl ?_
      refine zs_iload_n (pc := 12) t278_12 rfl ?_
      refine zs_ishr (pc := 13) t278_13 (c := 0) (by decide) ?_
      refine zs_iconst (pc := 14) t278_14 (v := 1) (by decide) ?_
      refine zs_iand (pc := 15) t278_15 (c := 0) (by decide) ?_
      refine zs_iadd (pc := 16) t278_16 (c := 0) (by decide) ?_
      refine zs_istore_n (pc := 17) t278_17 (ls' := [(1, .int (0 : Int32)), (2, .int (7 : Int32)), (0, .int (0 : Int32))]) (zml mf278 (by decide)) rfl ?_
      refine zs_iinc (pc := 18) t278_18 (ls' := [(2, .int (8 : Int32)), (1, .int (0 : Int32)), (0, .int (0 : Int32))]) (zml mf278 (by decide)) rfl (c := 8) (by decide) rfl ?_
      refine zs_goto (pc := 21) t278_21 ?_
      refine zs_iload_n (pc := 4) t278_4 rfl ?_
      refine zs_bipush (pc := 5) t278_5 (v := 8) (by decide) ?_
      refine zs_icmp_geT (pc := 7) t278_7 li8 li8 (by decide) ?_
      refine zs_iload_n (pc := 24) t278_24 rfl ?_
      refine zs_iret (pc := 25) t278_25 mr278 (by decide) ?_
      show zGo X l 3 0 0 315 138 [(5, .int (0 : Int32)), (4, .int (0 : Int32)), (0, .ref 336), (1, .int a), (2, .int b), (3, .int c)] [.int (0 : Int32)] zMm _
      exact zs_iret (pc := 138) t315_138 mr315 (by decide) rfl
    refine zs_lcmp (pc := 2) t228_2 (c := 1) (zlcG (zi2l rfl) lln10 (by omega)) ?_
    refine zs_if_ltF (pc := 3) t228_3 li1 (by decide) ?_
    refine zs_lload_n (pc := 6) t228_6 rfl ?_
    refine zs_lload (pc := 7) t228_7 rfl ?_
    by_cases w10 : b.toInt < 10
    · refine zs_lcmp (pc := 9) t228_9 (c := -1) (zlcL (zi2l rfl) ll10 (by omega)) ?_
      refine zs_if_gtF (pc := 10) t228_10 lin1 (by decide) ?_
      refine zs_iconst (pc := 13) t228_13 (v := 1) (by decide) ?_
      refine zs_goto (pc := 14) t228_14 ?_
      refine zs_iret (pc := 18) t228_18 mr228 (by decide) ?_
      show zGo X l 3 0 0 315 45 [(0, .ref 336), (1, .int a), (2, .int b), (3, .int c)] [.int (1 : Int32)] zMm _
      refine zs_if_neT (pc := 45) t315_45 li1 (by decide) ?_
      refine zs_iconst (pc := 50) t315_50 (v := 0) (by decide) ?_
      refine zs_istore (pc := 51) t315_51 (ls' := [(4, .int (0 : Int32)), (0, .ref 336), (1, .int a), (2, .int b), (3, .int c)]) (zml mf315 (by decide)) rfl ?_
      refine zs_iconst (pc := 53) t315_53 (v := 0) (by decide) ?_
      refine zs_istore (pc := 54) t315_54 (ls' := [(5, .int (0 : Int32)), (4, .int (0 : Int32)), (0, .ref 336), (1, .int a), (2, .int b), (3, .int c)]) (zml mf315 (by decide)) rfl ?_
      refine zs_iload (pc := 56) t315_56 rfl ?_
      refine zs_aload_n (pc := 58) t315_58 rfl ?_
      refine zs_get (pc := 59) t315_59 (by decide) (zk1 fk_zMm_336) fv_zMm_336_0 ?_
      refine zs_iconst (pc := 62) t315_62 (v := 1) (by decide) ?_
      refine zs_iald (pc := 63) t315_63 (j := 1) (by decide) (zk1 fk_zMm_337) (by decide) (zk2 fk_zMm_337 (by decide)) fa_zMm_337_1 ?_
      refine zs_icmp_geT (pc := 64) t315_64 li0 li0 (by decide) ?_
      refine zs_iload (pc := 133) t315_133 rfl ?_
      refine zs_invS (pc := 135) (as := [.int (0 : Int32)]) (st := []) t315_135 (by decide) mf278 rfl rfl ⟨by decide, by decide, Nat.le_of_ble_eq_true rfl, Nat.le_of_ble_eq_true rfl⟩ (zs_in (by decide) mf278 (Nat.le_of_ble_eq_true rfl) ?_) (fun _ _ q => q)
      show zGo X l 0 0 0 278 0 [(0, .int (0 : Int32))] [] zMm _
      refine zs_iconst (pc := 0) t278_0 (v := 0) (by decide) ?_
      refine zs_istore_n (pc := 1) t278_1 (ls' := [(1, .int (0 : Int32)), (0, .int (0 : Int32))]) (zml mf278 (by decide)) rfl ?_
      refine zs_iconst (pc := 2) t278_2 (v := 0) (by decide) ?_
      refine zs_istore_n (pc := 3) t278_3 (ls' := [(2, .int (0 : Int32)), (1, .int (0 : Int32)), (0, .int (0 : Int32))]) (zml mf278 (by decide)) rfl ?_
      refine zs_iload_n (pc := 4) t278_4 rfl ?_
      refine zs_bipush (pc := 5) t278_5 (v := 8) (by decide) ?_
      refine zs_icmp_geF (pc := 7) t278_7 li0 li8 (by decide) ?_
      refine zs_iload_n (pc := 10) t278_10 rfl ?_
      refine zs_iload_n (pc := 11) t278_11 rfl ?_
      refine zs_iload_n (pc := 12) t278_12 rfl ?_
      refine zs_ishr (pc := 13) t278_13 (c := 0) (by decide) ?_
      refine zs_iconst (pc := 14) t278_14 (v := 1) (by decide) ?_
      refine zs_iand (pc := 15) t278_15 (c := 0) (by decide) ?_
      refine zs_iadd (pc := 16) t278_16 (c := 0) (by decide) ?_
      refine zs_istore_n (pc := 17) t278_17 (ls' := [(1, .int (0 : Int32)), (2, .int (0 : Int32)), (0, .int (0 : Int32))]) (zml mf278 (by decide)) rfl ?_
      refine zs_iinc (pc := 18) t278_18 (ls' := [(2, .int (1 : Int32)), (1, .int (0 : Int32)), (0, .int (0 : Int32))]) (zml mf278 (by decide)) rfl (c := 1) (by decide) rfl ?_
      refine zs_goto (pc := 21) t278_21 ?_
      refine zs_iload_n (pc := 4) t278_4 rfl ?_
      refine zs_bipush (pc := 5) t278_5 (v := 8) (by decide) ?_
      refine zs_icmp_geF (pc := 7) t278_7 li1 li8 (by decide) ?_
      refine zs_iload_n (pc := 10) t278_10 rfl ?_
      refine zs_iload_n (pc := 11) t278_11 rfl ?_
      refine zs_iload_n (pc := 12) t278_12 rfl ?_
      refine zs_ishr (pc := 13) t278_13 (c := 0) (by decide) ?_
      refine zs_iconst (pc := 14) t278_14 (v := 1) (by decide) ?_
      refine zs_iand (pc := 15) t278_15 (c := 0) (by decide) ?_
      refine zs_iadd (pc := 16) t278_16 (c := 0) (by decide) ?_
      refine zs_istore_n (pc := 17) t278_17 (ls' := [(1, .int (0 : Int32)), (2, .int (1 : Int32)), (0, .int (0 : Int32))]) (zml mf278 (by decide)) rfl ?_
      refine zs_iinc (pc := 18) t278_18 (ls' := [(2, .int (2 : Int32)), (1, .int (0 : Int32)), (0, .int (0 : Int32))]) (zml mf278 (by decide)) rfl (c := 2) (by decide) rfl ?_
      refine zs_goto (pc := 21) t278_21 ?_
      refine zs_iload_n (pc := 4) t278_4 rfl ?_
      refine zs_bipush (pc := 5) t278_5 (v := 8) (by decide) ?_
      refine zs_icmp_geF (pc := 7) t278_7 li2 li8 (by decide) ?_
      refine zs_iload_n (pc := 10) t278_10 rfl ?_
      refine zs_iload_n (pc := 11) t278_11 rfl ?_
      refine zs_iload_n (pc := 12) t278_12 rfl ?_
      refine zs_ishr (pc := 13) t278_13 (c := 0) (by decide) ?_
      refine zs_iconst (pc := 14) t278_14 (v := 1) (by decide) ?_
      refine zs_iand (pc := 15) t278_15 (c := 0) (by decide) ?_
      refine zs_iadd (pc := 16) t278_16 (c := 0) (by decide) ?_
      refine zs_istore_n (pc := 17) t278_17 (ls' := [(1, .int (0 : Int32)), (2, .int (2 : Int32)), (0, .int (0 : Int32))]) (zml mf278 (by decide)) rfl ?_
      refine zs_iinc (pc := 18) t278_18 (ls' := [(2, .int (3 : Int32)), (1, .int (0 : Int32)), (0, .int (0 : Int32))]) (zml mf278 (by decide)) rfl (c := 3) (by decide) rfl ?_
      refine zs_goto (pc := 21) t278_21 ?_
      refine zs_iload_n (pc := 4) t278_4 rfl ?_
      refine zs_bipush (pc := 5) t278_5 (v := 8) (by decide) ?_
      refine zs_icmp_geF (pc := 7) t278_7 li3 li8 (by decide) ?_
      refine zs_iload_n (pc := 10) t278_10 rfl ?_
      refine zs_iload_n (pc := 11) t278_11 rfl ?_
      refine zs_iload_n (pc := 12) t278_12 rfl ?_
      refine zs_ishr (pc := 13) t278_13 (c := 0) (by decide) ?_
      refine zs_iconst (pc := 14) t278_14 (v := 1) (by decide) ?_
      refine zs_iand (pc := 15) t278_15 (c := 0) (by decide) ?_
      refine zs_iadd (pc := 16) t278_16 (c := 0) (by decide) ?_
      refine zs_istore_n (pc := 17) t278_17 (ls' := [(1, .int (0 : Int32)), (2, .int (3 : Int32)), (0, .int (0 : Int32))]) (zml mf278 (by decide)) rfl ?_
      refine zs_iinc (pc := 18) t278_18 (ls' := [(2, .int (4 : Int32)), (1, .int (0 : Int32)), (0, .int (0 : Int32))]) (zml mf278 (by decide)) rfl (c := 4) (by decide) rfl ?_
      refine zs_goto (pc := 21) t278_21 ?_
      refine zs_iload_n (pc := 4) t278_4 rfl ?_
      refine zs_bipush (pc := 5) t278_5 (v := 8) (by decide) ?_
      refine zs_icmp_geF (pc := 7) t278_7 li4 li8 (by decide) ?_
      refine zs_iload_n (pc := 10) t278_10 rfl ?_
      refine zs_iload_n (pc := 11) t278_11 rfl ?_
      refine zs_iload_n (pc := 12) t278_12 rfl ?_
      refine zs_ishr (pc := 13) t278_13 (c := 0) (by decide) ?_
      refine zs_iconst (pc := 14) t278_14 (v := 1) (by decide) ?_
      refine zs_iand (pc := 15) t278_15 (c := 0) (by decide) ?_
      refine zs_iadd (pc := 16) t278_16 (c := 0) (by decide) ?_
      refine zs_istore_n (pc := 17) t278_17 (ls' := [(1, .int (0 : Int32)), (2, .int (4 : Int32)), (0, .int (0 : Int32))]) (zml mf278 (by decide)) rfl ?_
      refine zs_iinc (pc := 18) t278_18 (ls' := [(2, .int (5 : Int32)), (1, .int (0 : Int32)), (0, .int (0 : Int32))]) (zml mf278 (by decide)) rfl (c := 5) (by decide) rfl ?_
      refine zs_goto (pc := 21) t278_21 ?_
      refine zs_iload_n (pc := 4) t278_4 rfl ?_
      refine zs_bipush (pc := 5) t278_5 (v := 8) (by decide) ?_
      refine zs_icmp_geF (pc := 7) t278_7 li5 li8 (by decide) ?_
      refine zs_iload_n (pc := 10) t278_10 rfl ?_
      refine zs_iload_n (pc := 11) t278_11 rfl ?_
      refine zs_iload_n (pc := 12) t278_12 rfl ?_
      refine zs_ishr (pc := 13) t278_13 (c := 0) (by decide) ?_
      refine zs_iconst (pc := 14) t278_14 (v := 1) (by decide) ?_
      refine zs_iand (pc := 15) t278_15 (c := 0) (by decide) ?_
      refine zs_iadd (pc := 16) t278_16 (c := 0) (by decide) ?_
      refine zs_istore_n (pc := 17) t278_17 (ls' := [(1, .int (0 : Int32)), (2, .int (5 : Int32)), (0, .int (0 : Int32))]) (zml mf278 (by decide)) rfl ?_
      refine zs_iinc (pc := 18) t278_18 (ls' := [(2, .int (6 : Int32)), (1, .int (0 : Int32)), (0, .int (0 : Int32))]) (zml mf278 (by decide)) rfl (c := 6) (by decide) rfl ?_
      refine zs_goto (pc := 21) t278_21 ?_
      refine zs_iload_n (pc := 4) t278_4 rfl ?_
      refine zs_bipush (pc := 5) t278_5 (v := 8) (by decide) ?_
      refine zs_icmp_geF (pc := 7) t278_7 li6 li8 (by decide) ?_
      refine zs_iload_n (pc := 10) t278_10 rfl ?_
      refine zs_iload_n (pc := 11) t278_11 rfl ?_
      refine zs_iload_n (pc := 12) t278_12 rfl ?_
      refine zs_ishr (pc := 13) t278_13 (c := 0) (by decide) ?_
      refine zs_iconst (pc := 14) t278_14 (v := 1) (by decide) ?_
      refine zs_iand (pc := 15) t278_15 (c := 0) (by decide) ?_
      refine zs_iadd (pc := 16) t278_16 (c := 0) (by decide) ?_
      refine zs_istore_n (pc := 17) t278_17 (ls' := [(1, .int (0 : Int32)), (2, .int (6 : Int32)), (0, .int (0 : Int32))]) (zml mf278 (by decide)) rfl ?_
      refine zs_iinc (pc := 18) t278_18 (ls' := [(2, .int (7 : Int32)), (1, .int (0 : Int32)), (0, .int (0 : Int32))]) (zml mf278 (by decide)) rfl (c := 7) (by decide) rfl ?_
      refine zs_goto (pc := 21) t278_21 ?_
      refine zs_iload_n (pc := 4) t278_4 rfl ?_
      refine zs_bipush (pc := 5) t278_5 (v := 8) (by decide) ?_
      refine zs_icmp_geF (pc := 7) t278_7 li7 li8 (by decide) ?_
      refine zs_iload_n (pc := 10) t278_10 rfl ?_
      refine zs_iload_n (pc := 11) t278_11 rfl ?_
      refine zs_iload_n (pc := 12) t278_12 rfl ?_
      refine zs_ishr (pc := 13) t278_13 (c := 0) (by decide) ?_
      refine zs_iconst (pc := 14) t278_14 (v := 1) (by decide) ?_
      refine zs_iand (pc := 15) t278_15 (c := 0) (by decide) ?_
      refine zs_iadd (pc := 16) t278_16 (c := 0) (by decide) ?_
      refine zs_istore_n (pc := 17) t278_17 (ls' := [(1, .int (0 : Int32)), (2, .int (7 : Int32)), (0, .int (0 : Int32))]) (zml mf278 (by decide)) rfl ?_
      refine zs_iinc (pc := 18) t278_18 (ls' := [(2, .int (8 : Int32)), (1, .int (0 : Int32)), (0, .int (0 : Int32))]) (zml mf278 (by decide)) rfl (c := 8) (by decide) rfl ?_
      refine zs_goto (pc := 21) t278_21 ?_
      refine zs_iload_n (pc := 4) t278_4 rfl ?_
      refine zs_bipush (pc := 5) t278_5 (v := 8) (by decide) ?_
      refine zs_icmp_geT (pc := 7) t278_7 li8 li8 (by decide) ?_
      refine zs_iload_n (pc := 24) t278_24 rfl ?_
      refine zs_iret (pc := 25) t278_25 mr278 (by decide) ?_
      show zGo X l 3 0 0 315 138 [(5, .int (0 : Int32)), (4, .int (0 : Int32)), (0, .ref 336), (1, .int a), (2, .int b), (3, .int c)] [.int (0 : Int32)] zMm _
      exact zs_iret (pc := 138) t315_138 mr315 (by decide) rfl
    refine zs_lcmp (pc := 9) t228_9 (c := 0) (zlcE (zi2l rfl) ll10 (by omega)) ?_
    refine zs_if_gtF (pc := 10) t228_10 li0 (by decide) ?_
    refine zs_iconst (pc := 13) t228_13 (v := 1) (by decide) ?_
    refine zs_goto (pc := 14) t228_14 ?_
    refine zs_iret (pc := 18) t228_18 mr228 (by decide) ?_
    show zGo X l 3 0 0 315 45 [(0, .ref 336), (1, .int a), (2, .int b), (3, .int c)] [.int (1 : Int32)] zMm _
    refine zs_if_neT (pc := 45) t315_45 li1 (by decide) ?_
    refine zs_iconst (pc := 50) t315_50 (v := 0) (by decide) ?_
    refine zs_istore (pc := 51) t315_51 (ls' := [(4, .int (0 : Int32)), (0, .ref 336), (1, .int a), (2, .int b), (3, .int c)]) (zml mf315 (by decide)) rfl ?_
    refine zs_iconst (pc := 53) t315_53 (v := 0) (by decide) ?_
    refine zs_istore (pc := 54) t315_54 (ls' := [(5, .int (0 : Int32)), (4, .int (0 : Int32)), (0, .ref 336), (1, .int a), (2, .int b), (3, .int c)]) (zml mf315 (by decide)) rfl ?_
    refine zs_iload (pc := 56) t315_56 rfl ?_
    refine zs_aload_n (pc := 58) t315_58 rfl ?_
    refine zs_get (pc := 59) t315_59 (by decide) (zk1 fk_zMm_336) fv_zMm_336_0 ?_
    refine zs_iconst (pc := 62) t315_62 (v := 1) (by decide) ?_
    refine zs_iald (pc := 63) t315_63 (j := 1) (by decide) (zk1 fk_zMm_337) (by decide) (zk2 fk_zMm_337 (by decide)) fa_zMm_337_1 ?_
    refine zs_icmp_geT (pc := 64) t315_64 li0 li0 (by decide) ?_
    refine zs_iload (pc := 133) t315_133 rfl ?_
    refine zs_invS (pc := 135) (as := [.int (0 : Int32)]) (st := []) t315_135 (by decide) mf278 rfl rfl ⟨by decide, by decide, Nat.le_of_ble_eq_true rfl, Nat.le_of_ble_eq_true rfl⟩ (zs_in (by decide) mf278 (Nat.le_of_ble_eq_true rfl) ?_) (fun _ _ q => q)
    show zGo X l 0 0 0 278 0 [(0, .int (0 : Int32))] [] zMm _
    refine zs_iconst (pc := 0) t278_0 (v := 0) (by decide) ?_
    refine zs_istore_n (pc := 1) t278_1 (ls' := [(1, .int (0 : Int32)), (0, .int (0 : Int32))]) (zml mf278 (by decide)) rfl ?_
    refine zs_iconst (pc := 2) t278_2 (v := 0) (by decide) ?_
    refine zs_istore_n (pc := 3) t278_3 (ls' := [(2, .int (0 : Int32)), (1, .int (0 : Int32)), (0, .int (0 : Int32))]) (zml mf278 (by decide)) rfl ?_
    refine zs_iload_n (pc := 4) t278_4 rfl ?_
    refine zs_bipush (pc := 5) t278_5 (v := 8) (by decide) ?_
    refine zs_icmp_geF (pc := 7) t278_7 li0 li8 (by decide) ?_
    refine zs_iload_n (pc := 10) t278_10 rfl ?_
    refine zs_iload_n (pc := 11) t278_11 rfl ?_
    refine zs_iload_n (pc := 12) t278_12 rfl ?_
    refine zs_ishr (pc := 13) t278_13 (c := 0) (by decide) ?_
    refine zs_iconst (pc := 14) t278_14 (v := 1) (by decide) ?_
    refine zs_iand (pc := 15) t278_15 (c := 0) (by decide) ?_
    refine zs_iadd (pc := 16) t278_16 (c := 0) (by decide) ?_
    refine zs_istore_n (pc := 17) t278_17 (ls' := [(1, .int (0 : Int32)), (2, .int (0 : Int32)), (0, .int (0 : Int32))]) (zml mf278 (by decide)) rfl ?_
    refine zs_iinc (pc := 18) t278_18 (ls' := [(2, .int (1 : Int32)), (1, .int (0 : Int32)), (0, .int (0 : Int32))]) (zml mf278 (by decide)) rfl (c := 1) (by decide) rfl ?_
    refine zs_goto (pc := 21) t278_21 ?_
    refine zs_iload_n (pc := 4) t278_4 rfl ?_
    refine zs_bipush (pc := 5) t278_5 (v := 8) (by decide) ?_
    refine zs_icmp_geF (pc := 7) t278_7 li1 li8 (by decide) ?_
    refine zs_iload_n (pc := 10) t278_10 rfl ?_
    refine zs_iload_n (pc := 11) t278_11 rfl ?_
    refine zs_iload_n (pc := 12) t278_12 rfl ?_
    refine zs_ishr (pc := 13) t278_13 (c := 0) (by decide) ?_
    refine zs_iconst (pc := 14) t278_14 (v := 1) (by decide) ?_
    refine zs_iand (pc := 15) t278_15 (c := 0) (by decide) ?_
    refine zs_iadd (pc := 16) t278_16 (c := 0) (by decide) ?_
    refine zs_istore_n (pc := 17) t278_17 (ls' := [(1, .int (0 : Int32)), (2, .int (1 : Int32)), (0, .int (0 : Int32))]) (zml mf278 (by decide)) rfl ?_
    refine zs_iinc (pc := 18) t278_18 (ls' := [(2, .int (2 : Int32)), (1, .int (0 : Int32)), (0, .int (0 : Int32))]) (zml mf278 (by decide)) rfl (c := 2) (by decide) rfl ?_
    refine zs_goto (pc := 21) t278_21 ?_
    refine zs_iload_n (pc := 4) t278_4 rfl ?_
    refine zs_bipush (pc := 5) t278_5 (v := 8) (by decide) ?_
    refine zs_icmp_geF (pc := 7) t278_7 li2 li8 (by decide) ?_
    refine zs_iload_n (pc := 10) t278_10 rfl ?_
    refine zs_iload_n (pc := 11) t278_11 rfl ?_
    refine zs_iload_n (pc := 12) t278_12 rfl ?_
    refine zs_ishr (pc := 13) t278_13 (c := 0) (by decide) ?_
    refine zs_iconst (pc := 14) t278_14 (v := 1) (by decide) ?_
    refine zs_iand (pc := 15) t278_15 (c := 0) (by decide) ?_
    refine zs_iadd (pc := 16) t278_16 (c := 0) (by decide) ?_
    refine zs_istore_n (pc := 17) t278_17 (ls' := [(1, .int (0 : Int32)), (2, .int (2 : Int32)), (0, .int (0 : Int32))]) (zml mf278 (by decide)) rfl ?_
    refine zs_iinc (pc := 18) t278_18 (ls' := [(2, .int (3 : Int32)), (1, .int (0 : Int32)), (0, .int (0 : Int32))]) (zml mf278 (by decide)) rfl (c := 3) (by decide) rfl ?_
    refine zs_goto (pc := 21) t278_21 ?_
    refine zs_iload_n (pc := 4) t278_4 rfl ?_
    refine zs_bipush (pc := 5) t278_5 (v := 8) (by decide) ?_
    refine zs_icmp_geF (pc := 7) t278_7 li3 li8 (by decide) ?_
    refine zs_iload_n (pc := 10) t278_10 rfl ?_
    refine zs_iload_n (pc := 11) t278_11 rfl ?_
    refine zs_iload_n (pc := 12) t278_12 rfl ?_
    refine zs_ishr (pc := 13) t278_13 (c := 0) (by decide) ?_
    refine zs_iconst (pc := 14) t278_14 (v := 1) (by decide) ?_
    refine zs_iand (pc := 15) t278_15 (c := 0) (by decide) ?_
    refine zs_iadd (pc := 16) t278_16 (c := 0) (by decide) ?_
    refine zs_istore_n (pc := 17) t278_17 (ls' := [(1, .int (0 : Int32)), (2, .int (3 : Int32)), (0, .int (0 : Int32))]) (zml mf278 (by decide)) rfl ?_
    refine zs_iinc (pc := 18) t278_18 (ls' := [(2, .int (4 : Int32)), (1, .int (0 : Int32)), (0, .int (0 : Int32))]) (zml mf278 (by decide)) rfl (c := 4) (by decide) rfl ?_
    refine zs_goto (pc := 21) t278_21 ?_
    refine zs_iload_n (pc := 4) t278_4 rfl ?_
    refine zs_bipush (pc := 5) t278_5 (v := 8) (by decide) ?_
    refine zs_icmp_geF (pc := 7) t278_7 li4 li8 (by decide) ?_
    refine zs_iload_n (pc := 10) t278_10 rfl ?_
    refine zs_iload_n (pc := 11) t278_11 rfl ?_
    refine zs_iload_n (pc := 12) t278_12 rfl ?_
    refine zs_ishr (pc := 13) t278_13 (c := 0) (by decide) ?_
    refine zs_iconst (pc := 14) t278_14 (v := 1) (by decide) ?_
    refine zs_iand (pc := 15) t278_15 (c := 0) (by decide) ?_
    refine zs_iadd (pc := 16) t278_16 (c := 0) (by decide) ?_
    refine zs_istore_n (pc := 17) t278_17 (ls' := [(1, .int (0 : Int32)), (2, .int (4 : Int32)), (0, .int (0 : Int32))]) (zml mf278 (by decide)) rfl ?_
    refine zs_iinc (pc := 18) t278_18 (ls' := [(2, .int (5 : Int32)), (1, .int (0 : Int32)), (0, .int (0 : Int32))]) (zml mf278 (by decide)) rfl (c := 5) (by decide) rfl ?_
    refine zs_goto (pc := 21) t278_21 ?_
    refine zs_iload_n (pc := 4) t278_4 rfl ?_
    refine zs_bipush (pc := 5) t278_5 (v := 8) (by decide) ?_
    refine zs_icmp_geF (pc := 7) t278_7 li5 li8 (by decide) ?_
    refine zs_iload_n (pc := 10) t278_10 rfl ?_
    refine zs_iload_n (pc := 11) t278_11 rfl ?_
    refine zs_iload_n (pc := 12) t278_12 rfl ?_
    refine zs_ishr (pc := 13) t278_13 (c := 0) (by decide) ?_
    refine zs_iconst (pc := 14) t278_14 (v := 1) (by decide) ?_
    refine zs_iand (pc := 15) t278_15 (c := 0) (by decide) ?_
    refine zs_iadd (pc := 16) t278_16 (c := 0) (by decide) ?_
    refine zs_istore_n (pc := 17) t278_17 (ls' := [(1, .int (0 : Int32)), (2, .int (5 : Int32)), (0, .int (0 : Int32))]) (zml mf278 (by decide)) rfl ?_
    refine zs_iinc (pc := 18) t278_18 (ls' := [(2, .int (6 : Int32)), (1, .int (0 : Int32)), (0, .int (0 : Int32))]) (zml mf278 (by decide)) rfl (c := 6) (by decide) rfl ?_
    refine zs_goto (pc := 21) t278_21 ?_
    refine zs_iload_n (pc := 4) t278_4 rfl ?_
    refine zs_bipush (pc := 5) t278_5 (v := 8) (by decide) ?_
    refine zs_icmp_geF (pc := 7) t278_7 li6 li8 (by decide) ?_
    refine zs_iload_n (pc := 10) t278_10 rfl ?_
    refine zs_iload_n (pc := 11) t278_11 rfl ?_
    refine zs_iload_n (pc := 12) t278_12 rfl ?_
    refine zs_ishr (pc := 13) t278_13 (c := 0) (by decide) ?_
    refine zs_iconst (pc := 14) t278_14 (v := 1) (by decide) ?_
    refine zs_iand (pc := 15) t278_15 (c := 0) (by decide) ?_
    refine zs_iadd (pc := 16) t278_16 (c := 0) (by decide) ?_
    refine zs_istore_n (pc := 17) t278_17 (ls' := [(1, .int (0 : Int32)), (2, .int (6 : Int32)), (0, .int (0 : Int32))]) (zml mf278 (by decide)) rfl ?_
    refine zs_iinc (pc := 18) t278_18 (ls' := [(2, .int (7 : Int32)), (1, .int (0 : Int32)), (0, .int (0 : Int32))]) (zml mf278 (by decide)) rfl (c := 7) (by decide) rfl ?_
    refine zs_goto (pc := 21) t278_21 ?_
    refine zs_iload_n (pc := 4) t278_4 rfl ?_
    refine zs_bipush (pc := 5) t278_5 (v := 8) (by decide) ?_
    refine zs_icmp_geF (pc := 7) t278_7 li7 li8 (by decide) ?_
    refine zs_iload_n (pc := 10) t278_10 rfl ?_
    refine zs_iload_n (pc := 11) t278_11 rfl ?_
    refine zs_iload_n (pc := 12) t278_12 rfl ?_
    refine zs_ishr (pc := 13) t278_13 (c := 0) (by decide) ?_
    refine zs_iconst (pc := 14) t278_14 (v := 1) (by decide) ?_
    refine zs_iand (pc := 15) t278_15 (c := 0) (by decide) ?_
    refine zs_iadd (pc := 16) t278_16 (c := 0) (by decide) ?_
    refine zs_istore_n (pc := 17) t278_17 (ls' := [(1, .int (0 : Int32)), (2, .int (7 : Int32)), (0, .int (0 : Int32))]) (zml mf278 (by decide)) rfl ?_
    refine zs_iinc (pc := 18) t278_18 (ls' := [(2, .int (8 : Int32)), (1, .int (0 : Int32)), (0, .int (0 : Int32))]) (zml mf278 (by decide)) rfl (c := 8) (by decide) rfl ?_
    refine zs_goto (pc := 21) t278_21 ?_
    refine zs_iload_n (pc := 4) t278_4 rfl ?_
    refine zs_bipush (pc := 5) t278_5 (v := 8) (by decide) ?_
    refine zs_icmp_geT (pc := 7) t278_7 li8 li8 (by decide) ?_
    refine zs_iload_n (pc := 24) t278_24 rfl ?_
    refine zs_iret (pc := 25) t278_25 mr278 (by decide) ?_
    show zGo X l 3 0 0 315 138 [(5, .int (0 : Int32)), (4, .int (0 : Int32)), (0, .ref 336), (1, .int a), (2, .int b), (3, .int c)] [.int (0 : Int32)] zMm _
    exact zs_iret (pc := 138) t315_138 mr315 (by decide) rfl
  refine zs_lcmp (pc := 9) t228_9 (c := 0) (zlcE (zi2l rfl) ll1 (by omega)) ?_
  refine zs_if_gtF (pc := 10) t228_10 li0 (by decide) ?_
  refine zs_iconst (pc := 13) t228_13 (v := 1) (by decide) ?_
  refine zs_goto (pc := 14) t228_14 ?_
  refine zs_iret (pc := 18) t228_18 mr228 (by decide) ?_
  show zGo X l 3 0 0 315 20 [(0, .ref 336), (1, .int a), (2, .int b), (3, .int c)] [.int (1 : Int32)] zMm _
  refine zs_if_eqF (pc := 20) t315_20 li1 (by decide) ?_
  refine zs_iload_n (pc := 23) t315_23 rfl ?_
  refine zs_i2l (pc := 24) t315_24 rfl ?_
  refine zs_aload_n (pc := 25) t315_25 rfl ?_
  refine zs_get (pc := 26) t315_26 (by decide) (zk1 fk_zMm_336) fv_zMm_336_0 ?_
  refine zs_bipush (pc := 29) t315_29 (v := 6) (by decide) ?_
  refine zs_iald (pc := 31) t315_31 (j := 6) (by decide) (zk1 fk_zMm_337) (by decide) (zk2 fk_zMm_337 (by decide)) fa_zMm_337_6 ?_
  refine zs_ineg (pc := 32) t315_32 (c := -10) (by decide) ?_
  refine zs_i2l (pc := 33) t315_33 (c := -10) (by decide) ?_
  refine zs_aload_n (pc := 34) t315_34 rfl ?_
  refine zs_get (pc := 35) t315_35 (by decide) (zk1 fk_zMm_336) fv_zMm_336_0 ?_
  refine zs_bipush (pc := 38) t315_38 (v := 6) (by decide) ?_
  refine zs_iald (pc := 40) t315_40 (j := 6) (by decide) (zk1 fk_zMm_337) (by decide) (zk2 fk_zMm_337 (by decide)) fa_zMm_337_6 ?_
  refine zs_i2l (pc := 41) t315_41 (c := 10) (by decide) ?_
  refine zs_invS (pc := 42) (as := [.long b.toInt64, .long (-10 : Int64), .long (10 : Int64)]) (st := []) t315_42 (by decide) mf228 rfl rfl ⟨by decide, by decide, Nat.le_of_ble_eq_true rfl, Nat.le_of_ble_eq_true rfl⟩ (zs_in (by decide) mf228 (Nat.le_of_ble_eq_true rfl) ?_) (fun _ _ q => q)
  show zGo X l 0 0 0 228 0 [(0, .long b.toInt64), (2, .long (-10 : Int64)), (4, .long (10 : Int64))] [] zMm _
  refine zs_lload_n (pc := 0) t228_0 rfl ?_
  refine zs_lload_n (pc := 1) t228_1 rfl ?_
  by_cases w13 : b.toInt = (-10)
  · refine zs_lcmp (pc := 2) t228_2 (c := 0) (zlcE (zi2l rfl) lln10 (by omega)) ?_
    refine zs_if_ltF (pc := 3) t228_3 li0 (by decide) ?_
    refine zs_lload_n (pc := 6) t228_6 rfl ?_
    refine zs_lload (pc := 7) t228_7 rfl ?_
    refine zs_lcmp (pc := 9) t228_9 (c := -1) (zlcL (zi2l rfl) ll10 (by omega)) ?_
    refine zs_if_gtF (pc := 10) t228_10 lin1 (by decide) ?_
    refine zs_iconst (pc := 13) t228_13 (v := 1) (by decide) ?_
    refine zs_goto (pc := 14) t228_14 ?_
    refine zs_iret (pc := 18) t228_18 mr228 (by decide) ?_
    show zGo X l 3 0 0 315 45 [(0, .ref 336), (1, .int a), (2, .int b), (3, .int c)] [.int (1 : Int32)] zMm _
    refine zs_if_neT (pc := 45) t315_45 li1 (by decide) ?_
    refine zs_iconst (pc := 50) t315_50 (v := 0) (by decide) ?_
    refine zs_istore (pc := 51) t315_51 (ls' := [(4, .int (0 : Int32)), (0, .ref 336), (1, .int a), (2, .int b), (3, .int c)]) (zml mf315 (by decide)) rfl ?_
    refine zs_iconst (pc := 53) t315_53 (v := 0) (by decide) ?_
    refine zs_istore (pc := 54) t315_54 (ls' := [(5, .int (0 : Int32)), (4, .int (0 : Int32)), (0, .ref 336), (1, .int a), (2, .int b), (3, .int c)]) (zml mf315 (by decide)) rfl ?_
    refine zs_iload (pc := 56) t315_56 rfl ?_
    refine zs_aload_n (pc := 58) t315_58 rfl ?_
    refine zs_get (pc := 59) t315_59 (by decide) (zk1 fk_zMm_336) fv_zMm_336_0 ?_
    refine zs_iconst (pc := 62) t315_62 (v := 1) (by decide) ?_
    refine zs_iald (pc := 63) t315_63 (j := 1) (by decide) (zk1 fk_zMm_337) (by decide) (zk2 fk_zMm_337 (by decide)) fa_zMm_337_1 ?_
    refine zs_icmp_geT (pc := 64) t315_64 li0 li0 (by decide) ?_
    refine zs_iload (pc := 133) t315_133 rfl ?_
    refine zs_invS (pc := 135) (as := [.int (0 : Int32)]) (st := []) t315_135 (by decide) mf278 rfl rfl ⟨by decide, by decide, Nat.le_of_ble_eq_true rfl, Nat.le_of_ble_eq_true rfl⟩ (zs_in (by decide) mf278 (Nat.le_of_ble_eq_true rfl) ?_) (fun _ _ q => q)
    show zGo X l 0 0 0 278 0 [(0, .int (0 : Int32))] [] zMm _
    refine zs_iconst (pc := 0) t278_0 (v := 0) (by decide) ?_
    refine zs_istore_n (pc := 1) t278_1 (ls' := [(1, .int (0 : Int32)), (0, .int (0 : Int32))]) (zml mf278 (by decide)) rfl ?_
    refine zs_iconst (pc := 2) t278_2 (v := 0) (by decide) ?_
    refine zs_istore_n (pc := 3) t278_3 (ls' := [(2, .int (0 : Int32)), (1, .int (0 : Int32)), (0, .int (0 : Int32))]) (zml mf278 (by decide)) rfl ?_
    refine zs_iload_n (pc := 4) t278_4 rfl ?_
    refine zs_bipush (pc := 5) t278_5 (v := 8) (by decide) ?_
    refine zs_icmp_geF (pc := 7) t278_7 li0 li8 (by decide) ?_
    refine zs_iload_n (pc := 10) t278_10 rfl ?_
    refine zs_iload_n (pc := 11) t278_11 rfl ?_
    refine zs_iload_n (pc := 12) t278_12 rfl ?_
    refine zs_ishr (pc := 13) t278_13 (c := 0) (by decide) ?_
    refine zs_iconst (pc := 14) t278_14 (v := 1) (by decide) ?_
    refine zs_iand (pc := 15) t278_15 (c := 0) (by decide) ?_
    refine zs_iadd (pc := 16) t278_16 (c := 0) (by decide) ?_
    refine zs_istore_n (pc := 17) t278_17 (ls' := [(1, .int (0 : Int32)), (2, .int (0 : Int32)), (0, .int (0 : Int32))]) (zml mf278 (by decide)) rfl ?_
    refine zs_iinc (pc := 18) t278_18 (ls' := [(2, .int (1 : Int32)), (1, .int (0 : Int32)), (0, .int (0 : Int32))]) (zml mf278 (by decide)) rfl (c := 1) (by decide) rfl ?_
    refine zs_goto (pc := 21) t278_21 ?_
    refine zs_iload_n (pc := 4) t278_4 rfl ?_
    refine zs_bipush (pc := 5) t278_5 (v := 8) (by decide) ?_
    refine zs_icmp_geF (pc := 7) t278_7 li1 li8 (by decide) ?_
    refine zs_iload_n (pc := 10) t278_10 rfl ?_
    refine zs_iload_n (pc := 11) t278_11 rfl ?_
    refine zs_iload_n (pc := 12) t278_12 rfl ?_
    refine zs_ishr (pc := 13) t278_13 (c := 0) (by decide) ?_
    refine zs_iconst (pc := 14) t278_14 (v := 1) (by decide) ?_
    refine zs_iand (pc := 15) t278_15 (c := 0) (by decide) ?_
    refine zs_iadd (pc := 16) t278_16 (c := 0) (by decide) ?_
    refine zs_istore_n (pc := 17) t278_17 (ls' := [(1, .int (0 : Int32)), (2, .int (1 : Int32)), (0, .int (0 : Int32))]) (zml mf278 (by decide)) rfl ?_
    refine zs_iinc (pc := 18) t278_18 (ls' := [(2, .int (2 : Int32)), (1, .int (0 : Int32)), (0, .int (0 : Int32))]) (zml mf278 (by decide)) rfl (c := 2) (by decide) rfl ?_
    refine zs_goto (pc := 21) t278_21 ?_
    refine zs_iload_n (pc := 4) t278_4 rfl ?_
    refine zs_bipush (pc := 5) t278_5 (v := 8) (by decide) ?_
    refine zs_icmp_geF (pc := 7) t278_7 li2 li8 (by decide) ?_
    refine zs_iload_n (pc := 10) t278_10 rfl ?_
    refine zs_iload_n (pc := 11) t278_11 rfl ?_
    refine zs_iload_n (pc := 12) t278_12 rfl ?_
    refine zs_ishr (pc := 13) t278_13 (c := 0) (by decide) ?_
    refine zs_iconst (pc := 14) t278_14 (v := 1) (by decide) ?_
    refine zs_iand (pc := 15) t278_15 (c := 0) (by decide) ?_
    refine zs_iadd (pc := 16) t278_16 (c := 0) (by decide) ?_
    refine zs_istore_n (pc := 17) t278_17 (ls' := [(1, .int (0 : Int32)), (2, .int (2 : Int32)), (0, .int (0 : Int32))]) (zml mf278 (by decide)) rfl ?_
    refine zs_iinc (pc := 18) t278_18 (ls' := [(2, .int (3 : Int32)), (1, .int (0 : Int32)), (0, .int (0 : Int32))]) (zml mf278 (by decide)) rfl (c := 3) (by decide) rfl ?_
    refine zs_goto (pc := 21) t278_21 ?_
    refine zs_iload_n (pc := 4) t278_4 rfl ?_
    refine zs_bipush (pc := 5) t278_5 (v := 8) (by decide) ?_
    refine zs_icmp_geF (pc := 7) t278_7 li3 li8 (by decide) ?_
    refine zs_iload_n (pc := 10) t278_10 rfl ?_
    refine zs_iload_n (pc := 11) t278_11 rfl ?_
    refine zs_iload_n (pc := 12) t278_12 rfl ?_
    refine zs_ishr (pc := 13) t278_13 (c := 0) (by decide) ?_
    refine zs_iconst (pc := 14) t278_14 (v := 1) (by decide) ?_
    refine zs_iand (pc := 15) t278_15 (c := 0) (by decide) ?_
    refine zs_iadd (pc := 16) t278_16 (c := 0) (by decide) ?_
    refine zs_istore_n (pc := 17) t278_17 (ls' := [(1, .int (0 : Int32)), (2, .int (3 : Int32)), (0, .int (0 : Int32))]) (zml mf278 (by decide)) rfl ?_
    refine zs_iinc (pc := 18) t278_18 (ls' := [(2, .int (4 : Int32)), (1, .int (0 : Int32)), (0, .int (0 : Int32))]) (zml mf278 (by decide)) rfl (c := 4) (by decide) rfl ?_
    refine zs_goto (pc := 21) t278_21 ?_
    refine zs_iload_n (pc := 4) t278_4 rfl ?_
    refine zs_bipush (pc := 5) t278_5 (v := 8) (by decide) ?_
    refine zs_icmp_geF (pc := 7) t278_7 li4 li8 (by decide) ?_
    refine zs_iload_n (pc := 10) t278_10 rfl ?_
    refine zs_iload_n (pc := 11) t278_11 rfl ?_
    refine zs_iload_n (pc := 12) t278_12 rfl ?_
    refine zs_ishr (pc := 13) t278_13 (c := 0) (by decide) ?_
    refine zs_iconst (pc := 14) t278_14 (v := 1) (by decide) ?_
    refine zs_iand (pc := 15) t278_15 (c := 0) (by decide) ?_
    refine zs_iadd (pc := 16) t278_16 (c := 0) (by decide) ?_
    refine zs_istore_n (pc := 17) t278_17 (ls' := [(1, .int (0 : Int32)), (2, .int (4 : Int32)), (0, .int (0 : Int32))]) (zml mf278 (by decide)) rfl ?_
    refine zs_iinc (pc := 18) t278_18 (ls' := [(2, .int (5 : Int32)), (1, .int (0 : Int32)), (0, .int (0 : Int32))]) (zml mf278 (by decide)) rfl (c := 5) (by decide) rfl ?_
    refine zs_goto (pc := 21) t278_21 ?_
    refine zs_iload_n (pc := 4) t278_4 rfl ?_
    refine zs_bipush (pc := 5) t278_5 (v := 8) (by decide) ?_
    refine zs_icmp_geF (pc := 7) t278_7 li5 li8 (by decide) ?_
    refine zs_iload_n (pc := 10) t278_10 rfl ?_
    refine zs_iload_n (pc := 11) t278_11 rfl ?_
    refine zs_iload_n (pc := 12) t278_12 rfl ?_
    refine zs_ishr (pc := 13) t278_13 (c := 0) (by decide) ?_
    refine zs_iconst (pc := 14) t278_14 (v := 1) (by decide) ?_
    refine zs_iand (pc := 15) t278_15 (c := 0) (by decide) ?_
    refine zs_iadd (pc := 16) t278_16 (c := 0) (by decide) ?_
    refine zs_istore_n (pc := 17) t278_17 (ls' := [(1, .int (0 : Int32)), (2, .int (5 : Int32)), (0, .int (0 : Int32))]) (zml mf278 (by decide)) rfl ?_
    refine zs_iinc (pc := 18) t278_18 (ls' := [(2, .int (6 : Int32)), (1, .int (0 : Int32)), (0, .int (0 : Int32))]) (zml mf278 (by decide)) rfl (c := 6) (by decide) rfl ?_
    refine zs_goto (pc := 21) t278_21 ?_
    refine zs_iload_n (pc := 4) t278_4 rfl ?_
    refine zs_bipush (pc := 5) t278_5 (v := 8) (by decide) ?_
    refine zs_icmp_geF (pc := 7) t278_7 li6 li8 (by decide) ?_
    refine zs_iload_n (pc := 10) t278_10 rfl ?_
    refine zs_iload_n (pc := 11) t278_11 rfl ?_
    refine zs_iload_n (pc := 12) t278_12 rfl ?_
    refine zs_ishr (pc := 13) t278_13 (c := 0) (by decide) ?_
    refine zs_iconst (pc := 14) t278_14 (v := 1) (by decide) ?_
    refine zs_iand (pc := 15) t278_15 (c := 0) (by decide) ?_
    refine zs_iadd (pc := 16) t278_16 (c := 0) (by decide) ?_
    refine zs_istore_n (pc := 17) t278_17 (ls' := [(1, .int (0 : Int32)), (2, .int (6 : Int32)), (0, .int (0 : Int32))]) (zml mf278 (by decide)) rfl ?_
    refine zs_iinc (pc := 18) t278_18 (ls' := [(2, .int (7 : Int32)), (1, .int (0 : Int32)), (0, .int (0 : Int32))]) (zml mf278 (by decide)) rfl (c := 7) (by decide) rfl ?_
    refine zs_goto (pc := 21) t278_21 ?_
    refine zs_iload_n (pc := 4) t278_4 rfl ?_
    refine zs_bipush (pc := 5) t278_5 (v := 8) (by decide) ?_
    refine zs_icmp_geF (pc := 7) t278_7 li7 li8 (by decide) ?_
    refine zs_iload_n (pc := 10) t278_10 rfl ?_
    refine zs_iload_n (pc := 11) t278_11 rfl ?_
    refine zs_iload_n (pc := 12) t278_12 rfl ?_
    refine zs_ishr (pc := 13) t278_13 (c := 0) (by decide) ?_
    refine zs_iconst (pc := 14) t278_14 (v := 1) (by decide) ?_
    refine zs_iand (pc := 15) t278_15 (c := 0) (by decide) ?_
    refine zs_iadd (pc := 16) t278_16 (c := 0) (by decide) ?_
    refine zs_istore_n (pc := 17) t278_17 (ls' := [(1, .int (0 : Int32)), (2, .int (7 : Int32)), (0, .int (0 : Int32))]) (zml mf278 (by decide)) rfl ?_
    refine zs_iinc (pc := 18) t278_18 (ls' := [(2, .int (8 : Int32)), (1, .int (0 : Int32)), (0, .int (0 : Int32))]) (zml mf278 (by decide)) rfl (c := 8) (by decide) rfl ?_
    refine zs_goto (pc := 21) t278_21 ?_
    refine zs_iload_n (pc := 4) t278_4 rfl ?_
    refine zs_bipush (pc := 5) t278_5 (v := 8) (by decide) ?_
    refine zs_icmp_geT (pc := 7) t278_7 li8 li8 (by decide) ?_
    refine zs_iload_n (pc := 24) t278_24 rfl ?_
    refine zs_iret (pc := 25) t278_25 mr278 (by decide) ?_
    show zGo X l 3 0 0 315 138 [(5, .int (0 : Int32)), (4, .int (0 : Int32)), (0, .ref 336), (1, .int a), (2, .int b), (3, .int c)] [.int (0 : Int32)] zMm _
    exact zs_iret (pc := 138) t315_138 mr315 (by decide) rfl
  refine zs_lcmp (pc := 2) t228_2 (c := 1) (zlcG (zi2l rfl) lln10 (by omega)) ?_
  refine zs_if_ltF (pc := 3) t228_3 li1 (by decide) ?_
  refine zs_lload_n (pc := 6) t228_6 rfl ?_
  refine zs_lload (pc := 7) t228_7 rfl ?_
  by_cases w15 : b.toInt < 10
  · refine zs_lcmp (pc := 9) t228_9 (c := -1) (zlcL (zi2l rfl) ll10 (by omega)) ?_
    refine zs_if_gtF (pc := 10) t228_10 lin1 (by decide) ?_
    refine zs_iconst (pc := 13) t228_13 (v := 1) (by decide) ?_
    refine zs_goto (pc := 14) t228_14 ?_
    refine zs_iret (pc := 18) t228_18 mr228 (by decide) ?_
    show zGo X l 3 0 0 315 45 [(0, .ref 336), (1, .int a), (2, .int b), (3, .int c)] [.int (1 : Int32)] zMm _
    refine zs_if_neT (pc := 45) t315_45 li1 (by decide) ?_
    refine zs_iconst (pc := 50) t315_50 (v := 0) (by decide) ?_
    refine zs_istore (pc := 51) t315_51 (ls' := [(4, .int (0 : Int32)), (0, .ref 336), (1, .int a), (2, .int b), (3, .int c)]) (zml mf315 (by decide)) rfl ?_
    refine zs_iconst (pc := 53) t315_53 (v := 0) (by decide) ?_
    refine zs_istore (pc := 54) t315_54 (ls' := [(5, .int (0 : Int32)), (4, .int (0 : Int32)), (0, .ref 336), (1, .int a), (2, .int b), (3, .int c)]) (zml mf315 (by decide)) rfl ?_
    refine zs_iload (pc := 56) t315_56 rfl ?_
    refine zs_aload_n (pc := 58) t315_58 rfl ?_
    refine zs_get (pc := 59) t315_59 (by decide) (zk1 fk_zMm_336) fv_zMm_336_0 ?_
    refine zs_iconst (pc := 62) t315_62 (v := 1) (by decide) ?_
    refine zs_iald (pc := 63) t315_63 (j := 1) (by decide) (zk1 fk_zMm_337) (by decide) (zk2 fk_zMm_337 (by decide)) fa_zMm_337_1 ?_
    refine zs_icmp_geT (pc := 64) t315_64 li0 li0 (by decide) ?_
    refine zs_iload (pc := 133) t315_133 rfl ?_
    refine zs_invS (pc := 135) (as := [.int (0 : Int32)]) (st := []) t315_135 (by decide) mf278 rfl rfl ⟨by decide, by decide, Nat.le_of_ble_eq_true rfl, Nat.le_of_ble_eq_true rfl⟩ (zs_in (by decide) mf278 (Nat.le_of_ble_eq_true rfl) ?_) (fun _ _ q => q)
    show zGo X l 0 0 0 278 0 [(0, .int (0 : Int32))] [] zMm _
    refine zs_iconst (pc := 0) t278_0 (v := 0) (by decide) ?_
    refine zs_istore_n (pc := 1) t278_1 (ls' := [(1, .int (0 : Int32)), (0, .int (0 : Int32))]) (zml mf278 (by decide)) rfl ?_
    refine zs_iconst (pc := 2) t278_2 (v := 0) (by decide) ?_
    refine zs_istore_n (pc := 3) t278_3 (ls' := [(2, .int (0 : Int32)), (1, .int (0 : Int32)), (0, .int (0 : Int32))]) (zml mf278 (by decide)) rfl ?_
    refine zs_iload_n (pc := 4) t278_4 rfl ?_
    refine zs_bipush (pc := 5) t278_5 (v := 8) (by decide) ?_
    refine zs_icmp_geF (pc := 7) t278_7 li0 li8 (by decide) ?_
    refine zs_iload_n (pc := 10) t278_10 rfl ?_
    refine zs_iload_n (pc := 11) t278_11 rfl ?_
    refine zs_iload_n (pc := 12) t278_12 rfl ?_
    refine zs_ishr (pc := 13) t278_13 (c := 0) (by decide) ?_
    refine zs_iconst (pc := 14) t278_14 (v := 1) (by decide) ?_
    refine zs_iand (pc := 15) t278_15 (c := 0) (by decide) ?_
    refine zs_iadd (pc := 16) t278_16 (c := 0) (by decide) ?_
    refine zs_istore_n (pc := 17) t278_17 (ls' := [(1, .int (0 : Int32)), (2, .int (0 : Int32)), (0, .int (0 : Int32))]) (zml mf278 (by decide)) rfl ?_
    refine zs_iinc (pc := 18) t278_18 (ls' := [(2, .int (1 : Int32)), (1, .int (0 : Int32)), (0, .int (0 : Int32))]) (zml mf278 (by decide)) rfl (c := 1) (by decide) rfl ?_
    refine zs_goto (pc := 21) t278_21 ?_
    refine zs_iload_n (pc := 4) t278_4 rfl ?_
    refine zs_bipush (pc := 5) t278_5 (v := 8) (by decide) ?_
    refine zs_icmp_geF (pc := 7) t278_7 li1 li8 (by decide) ?_
    refine zs_iload_n (pc := 10) t278_10 rfl ?_
    refine zs_iload_n (pc := 11) t278_11 rfl ?_
    refine zs_iload_n (pc := 12) t278_12 rfl ?_
    refine zs_ishr (pc := 13) t278_13 (c := 0) (by decide) ?_
    refine zs_iconst (pc := 14) t278_14 (v := 1) (by decide) ?_
    refine zs_iand (pc := 15) t278_15 (c := 0) (by decide) ?_
    refine zs_iadd (pc := 16) t278_16 (c := 0) (by decide) ?_
    refine zs_istore_n (pc := 17) t278_17 (ls' := [(1, .int (0 : Int32)), (2, .int (1 : Int32)), (0, .int (0 : Int32))]) (zml mf278 (by decide)) rfl ?_
    refine zs_iinc (pc := 18) t278_18 (ls' := [(2, .int (2 : Int32)), (1, .int (0 : Int32)), (0, .int (0 : Int32))]) (zml mf278 (by decide)) rfl (c := 2) (by decide) rfl ?_
    refine zs_goto (pc := 21) t278_21 ?_
    refine zs_iload_n (pc := 4) t278_4 rfl ?_
    refine zs_bipush (pc := 5) t278_5 (v := 8) (by decide) ?_
    refine zs_icmp_geF (pc := 7) t278_7 li2 li8 (by decide) ?_
    refine zs_iload_n (pc := 10) t278_10 rfl ?_
    refine zs_iload_n (pc := 11) t278_11 rfl ?_
    refine zs_iload_n (pc := 12) t278_12 rfl ?_
    refine zs_ishr (pc := 13) t278_13 (c := 0) (by decide) ?_
    refine zs_iconst (pc := 14) t278_14 (v := 1) (by decide) ?_
    refine zs_iand (pc := 15) t278_15 (c := 0) (by decide) ?_
    refine zs_iadd (pc := 16) t278_16 (c := 0) (by decide) ?_
    refine zs_istore_n (pc := 17) t278_17 (ls' := [(1, .int (0 : Int32)), (2, .int (2 : Int32)), (0, .int (0 : Int32))]) (zml mf278 (by decide)) rfl ?_
    refine zs_iinc (pc := 18) t278_18 (ls' := [(2, .int (3 : Int32)), (1, .int (0 : Int32)), (0, .int (0 : Int32))]) (zml mf278 (by decide)) rfl (c := 3) (by decide) rfl ?_
    refine zs_goto (pc := 21) t278_21 ?_
    refine zs_iload_n (pc := 4) t278_4 rfl ?_
    refine zs_bipush (pc := 5) t278_5 (v := 8) (by decide) ?_
    refine zs_icmp_geF (pc := 7) t278_7 li3 li8 (by decide) ?_
    refine zs_iload_n (pc := 10) t278_10 rfl ?_
    refine zs_iload_n (pc := 11) t278_11 rfl ?_
    refine zs_iload_n (pc := 12) t278_12 rfl ?_
    refine zs_ishr (pc := 13) t278_13 (c := 0) (by decide) ?_
    refine zs_iconst (pc := 14) t278_14 (v := 1) (by decide) ?_
    refine zs_iand (pc := 15) t278_15 (c := 0) (by decide) ?_
    refine zs_iadd (pc := 16) t278_16 (c := 0) (by decide) ?_
    refine zs_istore_n (pc := 17) t278_17 (ls' := [(1, .int (0 : Int32)), (2, .int (3 : Int32)), (0, .int (0 : Int32))]) (zml mf278 (by decide)) rfl ?_
    refine zs_iinc (pc := 18) t278_18 (ls' := [(2, .int (4 : Int32)), (1, .int (0 : Int32)), (0, .int (0 : Int32))]) (zml mf278 (by decide)) rfl (c := 4) (by decide) rfl ?_
    refine zs_goto (pc := 21) t278_21 ?_
    refine zs_iload_n (pc := 4) t278_4 rfl ?_
    refine zs_bipush (pc := 5) t278_5 (v := 8) (by decide) ?_
    refine zs_icmp_geF (pc := 7) t278_7 li4 li8 (by decide) ?_
    refine zs_iload_n (pc := 10) t278_10 rfl ?_
    refine zs_iload_n (pc := 11) t278_11 rfl ?_
    refine zs_iload_n (pc := 12) t278_12 rfl ?_
    refine zs_ishr (pc := 13) t278_13 (c := 0) (by decide) ?_
    refine zs_iconst (pc := 14) t278_14 (v := 1) (by decide) ?_
    refine zs_iand (pc := 15) t278_15 (c := 0) (by decide) ?_
    refine zs_iadd (pc := 16) t278_16 (c := 0) (by decide) ?_
    refine zs_istore_n (pc := 17) t278_17 (ls' := [(1, .int (0 : Int32)), (2, .int (4 : Int32)), (0, .int (0 : Int32))]) (zml mf278 (by decide)) rfl ?_
    refine zs_iinc (pc := 18) t278_18 (ls' := [(2, .int (5 : Int32)), (1, .int (0 : Int32)), (0, .int (0 : Int32))]) (zml mf278 (by decide)) rfl (c := 5) (by decide) rfl ?_
    refine zs_goto (pc := 21) t278_21 ?_
    refine zs_iload_n (pc := 4) t278_4 rfl ?_
    refine zs_bipush (pc := 5) t278_5 (v := 8) (by decide) ?_
    refine zs_icmp_geF (pc := 7) t278_7 li5 li8 (by decide) ?_
    refine zs_iload_n (pc := 10) t278_10 rfl ?_
    refine zs_iload_n (pc := 11) t278_11 rfl ?_
    refine zs_iload_n (pc := 12) t278_12 rfl ?_
    refine zs_ishr (pc := 13) t278_13 (c := 0) (by decide) ?_
    refine zs_iconst (pc := 14) t278_14 (v := 1) (by decide) ?_
    refine zs_iand (pc := 15) t278_15 (c := 0) (by decide) ?_
    refine zs_iadd (pc := 16) t278_16 (c := 0) (by decide) ?_
    refine zs_istore_n (pc := 17) t278_17 (ls' := [(1, .int (0 : Int32)), (2, .int (5 : Int32)), (0, .int (0 : Int32))]) (zml mf278 (by decide)) rfl ?_
    refine zs_iinc (pc := 18) t278_18 (ls' := [(2, .int (6 : Int32)), (1, .int (0 : Int32)), (0, .int (0 : Int32))]) (zml mf278 (by decide)) rfl (c := 6) (by decide) rfl ?_
    refine zs_goto (pc := 21) t278_21 ?_
    refine zs_iload_n (pc := 4) t278_4 rfl ?_
    refine zs_bipush (pc := 5) t278_5 (v := 8) (by decide) ?_
    refine zs_icmp_geF (pc := 7) t278_7 li6 li8 (by decide) ?_
    refine zs_iload_n (pc := 10) t278_10 rfl ?_
    refine zs_iload_n (pc := 11) t278_11 rfl ?_
    refine zs_iload_n (pc := 12) t278_12 rfl ?_
    refine zs_ishr (pc := 13) t278_13 (c := 0) (by decide) ?_
    refine zs_iconst (pc := 14) t278_14 (v := 1) (by decide) ?_
    refine zs_iand (pc := 15) t278_15 (c := 0) (by decide) ?_
    refine zs_iadd (pc := 16) t278_16 (c := 0) (by decide) ?_
    refine zs_istore_n (pc := 17) t278_17 (ls' := [(1, .int (0 : Int32)), (2, .int (6 : Int32)), (0, .int (0 : Int32))]) (zml mf278 (by decide)) rfl ?_
    refine zs_iinc (pc := 18) t278_18 (ls' := [(2, .int (7 : Int32)), (1, .int (0 : Int32)), (0, .int (0 : Int32))]) (zml mf278 (by decide)) rfl (c := 7) (by decide) rfl ?_
    refine zs_goto (pc := 21) t278_21 ?_
    refine zs_iload_n (pc := 4) t278_4 rfl ?_
    refine zs_bipush (pc := 5) t278_5 (v := 8) (by decide) ?_
    refine zs_icmp_geF (pc := 7) t278_7 li7 li8 (by decide) ?_
    refine zs_iload_n (pc := 10) t278_10 rfl ?_
    refine zs_iload_n (pc := 11) t278_11 rfl ?_
    refine zs_iload_n (pc := 12) t278_12 rfl ?_
    refine zs_ishr (pc := 13) t278_13 (c := 0) (by decide) ?_
    refine zs_iconst (pc := 14) t278_14 (v := 1) (by decide) ?_
    refine zs_iand (pc := 15) t278_15 (c := 0) (by decide) ?_
    refine zs_iadd (pc := 16) t278_16 (c := 0) (by decide) ?_
    refine zs_istore_n (pc := 17) t278_17 (ls' := [(1, .int (0 : Int32)), (2, .int (7 : Int32)), (0, .int (0 : Int32))]) (zml mf278 (by decide)) rfl ?_
    refine zs_iinc (pc := 18) t278_18 (ls' := [(2, .int (8 : Int32)), (1, .int (0 : Int32)), (0, .int (0 : Int32))]) (zml mf278 (by decide)) rfl (c := 8) (by decide) rfl ?_
    refine zs_goto (pc := 21) t278_21 ?_
    refine zs_iload_n (pc := 4) t278_4 rfl ?_
    refine zs_bipush (pc := 5) t278_5 (v := 8) (by decide) ?_
    refine zs_icmp_geT (pc := 7) t278_7 li8 li8 (by decide) ?_
    refine zs_iload_n (pc := 24) t278_24 rfl ?_
    refine zs_iret (pc := 25) t278_25 mr278 (by decide) ?_
    show zGo X l 3 0 0 315 138 [(5, .int (0 : Int32)), (4, .int (0 : Int32)), (0, .ref 336), (1, .int a), (2, .int b), (3, .int c)] [.int (0 : Int32)] zMm _
    exact zs_iret (pc := 138) t315_138 mr315 (by decide) rfl
  refine zs_lcmp (pc := 9) t228_9 (c := 0) (zlcE (zi2l rfl) ll10 (by omega)) ?_
  refine zs_if_gtF (pc := 10) t228_10 li0 (by decide) ?_
  refine zs_iconst (pc := 13) t228_13 (v := 1) (by decide) ?_
  refine zs_goto (pc := 14) t228_14 ?_
  refine zs_iret (pc := 18) t228_18 mr228 (by decide) ?_
  show zGo X l 3 0 0 315 45 [(0, .ref 336), (1, .int a), (2, .int b), (3, .int c)] [.int (1 : Int32)] zMm _
  refine zs_if_neT (pc := 45) t315_45 li1 (by decide) ?_
  refine zs_iconst (pc := 50) t315_50 (v := 0) (by decide) ?_
  refine zs_istore (pc := 51) t315_51 (ls' := [(4, .int (0 : Int32)), (0, .ref 336), (1, .int a), (2, .int b), (3, .int c)]) (zml mf315 (by decide)) rfl ?_
  refine zs_iconst (pc := 53) t315_53 (v := 0) (by decide) ?_
  refine zs_istore (pc := 54) t315_54 (ls' := [(5, .int (0 : Int32)), (4, .int (0 : Int32)), (0, .ref 336), (1, .int a), (2, .int b), (3, .int c)]) (zml mf315 (by decide)) rfl ?_
  refine zs_iload (pc := 56) t315_56 rfl ?_
  refine zs_aload_n (pc := 58) t315_58 rfl ?_
  refine zs_get (pc := 59) t315_59 (by decide) (zk1 fk_zMm_336) fv_zMm_336_0 ?_
  refine zs_iconst (pc := 62) t315_62 (v := 1) (by decide) ?_
  refine zs_iald (pc := 63) t315_63 (j := 1) (by decide) (zk1 fk_zMm_337) (by decide) (zk2 fk_zMm_337 (by decide)) fa_zMm_337_1 ?_
  refine zs_icmp_geT (pc := 64) t315_64 li0 li0 (by decide) ?_
  refine zs_iload (pc := 133) t315_133 rfl ?_
  refine zs_invS (pc := 135) (as := [.int (0 : Int32)]) (st := []) t315_135 (by decide) mf278 rfl rfl ⟨by decide, by decide, Nat.le_of_ble_eq_true rfl, Nat.le_of_ble_eq_true rfl⟩ (zs_in (by decide) mf278 (Nat.le_of_ble_eq_true rfl) ?_) (fun _ _ q => q)
  show zGo X l 0 0 0 278 0 [(0, .int (0 : Int32))] [] zMm _
  refine zs_iconst (pc := 0) t278_0 (v := 0) (by decide) ?_
  refine zs_istore_n (pc := 1) t278_1 (ls' := [(1, .int (0 : Int32)), (0, .int (0 : Int32))]) (zml mf278 (by decide)) rfl ?_
  refine zs_iconst (pc := 2) t278_2 (v := 0) (by decide) ?_
  refine zs_istore_n (pc := 3) t278_3 (ls' := [(2, .int (0 : Int32)), (1, .int (0 : Int32)), (0, .int (0 : Int32))]) (zml mf278 (by decide)) rfl ?_
  refine zs_iload_n (pc := 4) t278_4 rfl ?_
  refine zs_bipush (pc := 5) t278_5 (v := 8) (by decide) ?_
  refine zs_icmp_geF (pc := 7) t278_7 li0 li8 (by decide) ?_
  refine zs_iload_n (pc := 10) t278_10 rfl ?_
  refine zs_iload_n (pc := 11) t278_11 rfl ?_
  refine zs_iload_n (pc := 12) t278_12 rfl ?_
  refine zs_ishr (pc := 13) t278_13 (c := 0) (by decide) ?_
  refine zs_iconst (pc := 14) t278_14 (v := 1) (by decide) ?_
  refine zs_iand (pc := 15) t278_15 (c := 0) (by decide) ?_
  refine zs_iadd (pc := 16) t278_16 (c := 0) (by decide) ?_
  refine zs_istore_n (pc := 17) t278_17 (ls' := [(1, .int (0 : Int32)), (2, .int (0 : Int32)), (0, .int (0 : Int32))]) (zml mf278 (by decide)) rfl ?_
  refine zs_iinc (pc := 18) t278_18 (ls' := [(2, .int (1 : Int32)), (1, .int (0 : Int32)), (0, .int (0 : Int32))]) (zml mf278 (by decide)) rfl (c := 1) (by decide) rfl ?_
  refine zs_goto (pc := 21) t278_21 ?_
  refine zs_iload_n (pc := 4) t278_4 rfl ?_
  refine zs_bipush (pc := 5) t278_5 (v := 8) (by decide) ?_
  refine zs_icmp_geF (pc := 7) t278_7 li1 li8 (by decide) ?_
  refine zs_iload_n (pc := 10) t278_10 rfl ?_
  refine zs_iload_n (pc := 11) t278_11 rfl ?_
  refine zs_iload_n (pc := 12) t278_12 rfl ?_
  refine zs_ishr (pc := 13) t278_13 (c := 0) (by decide) ?_
  refine zs_iconst (pc := 14) t278_14 (v := 1) (by decide) ?_
  refine zs_iand (pc := 15) t278_15 (c := 0) (by decide) ?_
  refine zs_iadd (pc := 16) t278_16 (c := 0) (by decide) ?_
  refine zs_istore_n (pc := 17) t278_17 (ls' := [(1, .int (0 : Int32)), (2, .int (1 : Int32)), (0, .int (0 : Int32))]) (zml mf278 (by decide)) rfl ?_
  refine zs_iinc (pc := 18) t278_18 (ls' := [(2, .int (2 : Int32)), (1, .int (0 : Int32)), (0, .int (0 : Int32))]) (zml mf278 (by decide)) rfl (c := 2) (by decide) rfl ?_
  refine zs_goto (pc := 21) t278_21 ?_
  refine zs_iload_n (pc := 4) t278_4 rfl ?_
  refine zs_bipush (pc := 5) t278_5 (v := 8) (by decide) ?_
  refine zs_icmp_geF (pc := 7) t278_7 li2 li8 (by decide) ?_
  refine zs_iload_n (pc := 10) t278_10 rfl ?_
  refine zs_iload_n (pc := 11) t278_11 rfl ?_
  refine zs_iload_n (pc := 12) t278_12 rfl ?_
  refine zs_ishr (pc := 13) t278_13 (c := 0) (by decide) ?_
  refine zs_iconst (pc := 14) t278_14 (v := 1) (by decide) ?_
  refine zs_iand (pc := 15) t278_15 (c := 0) (by decide) ?_
  refine zs_iadd (pc := 16) t278_16 (c := 0) (by decide) ?_
  refine zs_istore_n (pc := 17) t278_17 (ls' := [(1, .int (0 : Int32)), (2, .int (2 : Int32)), (0, .int (0 : Int32))]) (zml mf278 (by decide)) rfl ?_
  refine zs_iinc (pc := 18) t278_18 (ls' := [(2, .int (3 : Int32)), (1, .int (0 : Int32)), (0, .int (0 : Int32))]) (zml mf278 (by decide)) rfl (c := 3) (by decide) rfl ?_
  refine zs_goto (pc := 21) t278_21 ?_
  refine zs_iload_n (pc := 4) t278_4 rfl ?_
  refine zs_bipush (pc := 5) t278_5 (v := 8) (by decide) ?_
  refine zs_icmp_geF (pc := 7) t278_7 li3 li8 (by decide) ?_
  refine zs_iload_n (pc := 10) t278_10 rfl ?_
  refine zs_iload_n (pc := 11) t278_11 rfl ?_
  refine zs_iload_n (pc := 12) t278_12 rfl ?_
  refine zs_ishr (pc := 13) t278_13 (c := 0) (by decide) ?_
  refine zs_iconst (pc := 14) t278_14 (v := 1) (by decide) ?_
  refine zs_iand (pc := 15) t278_15 (c := 0) (by decide) ?_
  refine zs_iadd (pc := 16) t278_16 (c := 0) (by decide) ?_
  refine zs_istore_n (pc := 17) t278_17 (ls' := [(1, .int (0 : Int32)), (2, .int (3 : Int32)), (0, .int (0 : Int32))]) (zml mf278 (by decide)) rfl ?_
  refine zs_iinc (pc := 18) t278_18 (ls' := [(2, .int (4 : Int32)), (1, .int (0 : Int32)), (0, .int (0 : Int32))]) (zml mf278 (by decide)) rfl (c := 4) (by decide) rfl ?_
  refine zs_goto (pc := 21) t278_21 ?_
  refine zs_iload_n (pc := 4) t278_4 rfl ?_
  refine zs_bipush (pc := 5) t278_5 (v := 8) (by decide) ?_
  refine zs_icmp_geF (pc := 7) t278_7 li4 li8 (by decide) ?_
  refine zs_iload_n (pc := 10) t278_10 rfl ?_
  refine zs_iload_n (pc := 11) t278_11 rfl ?_
  refine zs_iload_n (pc := 12) t278_12 rfl ?_
  refine zs_ishr (pc := 13) t278_13 (c := 0) (by decide) ?_
  refine zs_iconst (pc := 14) t278_14 (v := 1) (by decide) ?_
  refine zs_iand (pc := 15) t278_15 (c := 0) (by decide) ?_
  refine zs_iadd (pc := 16) t278_16 (c := 0) (by decide) ?_
  refine zs_istore_n (pc := 17) t278_17 (ls' := [(1, .int (0 : Int32)), (2, .int (4 : Int32)), (0, .int (0 : Int32))]) (zml mf278 (by decide)) rfl ?_
  refine zs_iinc (pc := 18) t278_18 (ls' := [(2, .int (5 : Int32)), (1, .int (0 : Int32)), (0, .int (0 : Int32))]) (zml mf278 (by decide)) rfl (c := 5) (by decide) rfl ?_
  refine zs_goto (pc := 21) t278_21 ?_
  refine zs_iload_n (pc := 4) t278_4 rfl ?_
  refine zs_bipush (pc := 5) t278_5 (v := 8) (by decide) ?_
  refine zs_icmp_geF (pc := 7) t278_7 li5 li8 (by decide) ?_
  refine zs_iload_n (pc := 10) t278_10 rfl ?_
  refine zs_iload_n (pc := 11) t278_11 rfl ?_
  refine zs_iload_n (pc := 12) t278_12 rfl ?_
  refine zs_ishr (pc := 13) t278_13 (c := 0) (by decide) ?_
  refine zs_iconst (pc := 14) t278_14 (v := 1) (by decide) ?_
  refine zs_iand (pc := 15) t278_15 (c := 0) (by decide) ?_
  refine zs_iadd (pc := 16) t278_16 (c := 0) (by decide) ?_
  refine zs_istore_n (pc := 17) t278_17 (ls' := [(1, .int (0 : Int32)), (2, .int (5 : Int32)), (0, .int (0 : Int32))]) (zml mf278 (by decide)) rfl ?_
  refine zs_iinc (pc := 18) t278_18 (ls' := [(2, .int (6 : Int32)), (1, .int (0 : Int32)), (0, .int (0 : Int32))]) (zml mf278 (by decide)) rfl (c := 6) (by decide) rfl ?_
  refine zs_goto (pc := 21) t278_21 ?_
  refine zs_iload_n (pc := 4) t278_4 rfl ?_
  refine zs_bipush (pc := 5) t278_5 (v := 8) (by decide) ?_
  refine zs_icmp_geF (pc := 7) t278_7 li6 li8 (by decide) ?_
  refine zs_iload_n (pc := 10) t278_10 rfl ?_
  refine zs_iload_n (pc := 11) t278_11 rfl ?_
  refine zs_iload_n (pc := 12) t278_12 rfl ?_
  refine zs_ishr (pc := 13) t278_13 (c := 0) (by decide) ?_
  refine zs_iconst (pc := 14) t278_14 (v := 1) (by decide) ?_
  refine zs_iand (pc := 15) t278_15 (c := 0) (by decide) ?_
  refine zs_iadd (pc := 16) t278_16 (c := 0) (by decide) ?_
  refine zs_istore_n (pc := 17) t278_17 (ls' := [(1, .int (0 : Int32)), (2, .int (6 : Int32)), (0, .int (0 : Int32))]) (zml mf278 (by decide)) rfl ?_
  refine zs_iinc (pc := 18) t278_18 (ls' := [(2, .int (7 : Int32)), (1, .int (0 : Int32)), (0, .int (0 : Int32))]) (zml mf278 (by decide)) rfl (c := 7) (by decide) rfl ?_
  refine zs_goto (pc := 21) t278_21 ?_
  refine zs_iload_n (pc := 4) t278_4 rfl ?_
  refine zs_bipush (pc := 5) t278_5 (v := 8) (by decide) ?_
  refine zs_icmp_geF (pc := 7) t278_7 li7 li8 (by decide) ?_
  refine zs_iload_n (pc := 10) t278_10 rfl ?_
  refine zs_iload_n (pc := 11) t278_11 rfl ?_
  refine zs_iload_n (pc := 12) t278_12 rfl ?_
  refine zs_ishr (pc := 13) t278_13 (c := 0) (by decide) ?_
  refine zs_iconst (pc := 14) t278_14 (v := 1) (by decide) ?_
  refine zs_iand (pc := 15) t278_15 (c := 0) (by decide) ?_
  refine zs_iadd (pc := 16) t278_16 (c := 0) (by decide) ?_
  refine zs_istore_n (pc := 17) t278_17 (ls' := [(1, .int (0 : Int32)), (2, .int (7 : Int32)), (0, .int (0 : Int32))]) (zml mf278 (by decide)) rfl ?_
  refine zs_iinc (pc := 18) t278_18 (ls' := [(2, .int (8 : Int32)), (1, .int (0 : Int32)), (0, .int (0 : Int32))]) (zml mf278 (by decide)) rfl (c := 8) (by decide) rfl ?_
  refine zs_goto (pc := 21) t278_21 ?_
  refine zs_iload_n (pc := 4) t278_4 rfl ?_
  refine zs_bipush (pc := 5) t278_5 (v := 8) (by decide) ?_
  refine zs_icmp_geT (pc := 7) t278_7 li8 li8 (by decide) ?_
  refine zs_iload_n (pc := 24) t278_24 rfl ?_
  refine zs_iret (pc := 25) t278_25 mr278 (by decide) ?_
  show zGo X l 3 0 0 315 138 [(5, .int (0 : Int32)), (4, .int (0 : Int32)), (0, .ref 336), (1, .int a), (2, .int b), (3, .int c)] [.int (0 : Int32)] zMm _
  exact zs_iret (pc := 138) t315_138 mr315 (by decide) rfl
