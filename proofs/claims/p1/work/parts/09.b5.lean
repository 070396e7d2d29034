theorem m28_1 {X : zX} {l : Launch} {a : Int32} (la : 2 ≤ a.toInt) (ua : a.toInt ≤ 8) : zCall X l 2 0 0 334 [.ref 336, .int a] zMm (fun r _ => r = some (.int (3 : Int32))) := by
  have ga := zrg a
  refine zs_in (by decide) mf334 (Nat.le_of_ble_eq_true rfl) ?_
  show zGo X l 2 0 0 334 0 [(0, .ref 336), (1, .int a)] [] zMm _
  refine zs_iload_n (pc := 0) t334_0 rfl ?_
  refine zs_i2l (pc := 1) t334_1 rfl ?_
  refine zs_ldc2_w (pc := 2) t334_2 (v := 2) (by decide) ?_
  refine zs_ldc2_w (pc := 5) t334_5 (v := 8) (by decide) ?_
  refine zs_invS (pc := 8) (as := [.long a.toInt64, .long (2 : Int64), .long (8 : Int64)]) (st := []) t334_8 (by decide) mf228 rfl rfl ⟨by decide, by decide, Nat.le_of_ble_eq_true rfl, Nat.le_of_ble_eq_true rfl⟩ (zs_in (by decide) mf228 (Nat.le_of_ble_eq_true rfl) ?_) (fun _ _ q => q)
  show zGo X l 0 0 0 228 0 [(0, .long a.toInt64), (2, .long (2 : Int64)), (4, .long (8 : Int64))] [] zMm _
  refine zs_lload_n (pc := 0) t228_0 rfl ?_
  refine zs_lload_n (pc := 1) t228_1 rfl ?_
  by_cases w1 : a.toInt = 2
  · refine zs_lcmp (pc := 2) t228_2 (c := 0) (zlcE (zi2l rfl) ll2 (by omega)) ?_
    refine zs_if_ltF (pc := 3) t228_3 li0 (by decide) ?_
    refine zs_lload_n (pc := 6) t228_6 rfl ?_
    refine zs_lload (pc := 7) t228_7 rfl ?_
    refine zs_lcmp (pc := 9) t228_9 (c := -1) (zlcL (zi2l rfl) ll8 (by omega)) ?_
    refine zs_if_gtF (pc := 10) t228_10 lin1 (by decide) ?_
    refine zs_iconst (pc := 13) t228_13 (v := 1) (by decide) ?_
    refine zs_goto (pc := 14) t228_14 ?_
    refine zs_iret (pc := 18) t228_18 mr228 (by decide) ?_
    show zGo X l 2 0 0 334 11 [(0, .ref 336), (1, .int a)] [.int (1 : Int32)] zMm _
    refine zs_if_neT (pc := 11) t334_11 li1 (by decide) ?_
    refine zs_aload_n (pc := 16) t334_16 rfl ?_
    refine zs_iconst (pc := 17) t334_17 (v := 0) (by decide) ?_
    refine zs_invV (pc := 18) (k := 336) (as' := [.int (0 : Int32)]) (st := []) t334_18 mf230 rfl rfl (Or.inl ⟨by decide, (zk1 fk_zMm_336)⟩) ⟨by decide, by decide, Nat.le_of_ble_eq_true rfl, Nat.le_of_ble_eq_true rfl⟩ (cc4 (X := X) (l := l)) ?_
    rintro r M9 ⟨rfl, M9k336, M9v336_0, M9k337, M9a337_8, -⟩
    show zGo X l 2 0 0 334 21 [(0, .ref 336), (1, .int a)] [] M9 _
    refine zs_aload_n (pc := 21) t334_21 rfl ?_
    refine zs_get (pc := 22) t334_22 (by decide) (zk1 M9k336) M9v336_0 ?_
    refine zs_bipush (pc := 25) t334_25 (v := 8) (by decide) ?_
    refine zs_iald (pc := 27) t334_27 (j := 8) (by decide) (zk1 M9k337) (by decide) (zk2 M9k337 (by decide)) M9a337_8 ?_
    refine zs_istore_n (pc := 28) t334_28 (ls' := [(2, .int (3 : Int32)), (0, .ref 336), (1, .int a)]) (zml mf334 (by decide)) rfl ?_
    refine zs_aload_n (pc := 29) t334_29 rfl ?_
    refine zs_get (pc := 30) t334_30 (by decide) (zk1 M9k336) M9v336_0 ?_
    refine zs_bipush (pc := 33) t334_33 (v := 8) (by decide) ?_
    refine zs_iload_n (pc := 35) t334_35 rfl ?_
    refine zs_iast (pc := 36) t334_36 (j := 8) (by decide) (zk1 M9k337) (by decide) (zk2 M9k337 (by decide)) ?_
    refine zs_iload_n (pc := 37) t334_37 rfl ?_
    exact zs_iret (pc := 38) t334_38 mr334 (by decide) rfl
  refine zs_lcmp (pc := 2) t228_2 (c := 1) (zlcG (zi2l rfl) ll2 (by omega)) ?_
  refine zs_if_ltF (pc := 3) t228_3 li1 (by decide) ?_
  refine zs_lload_n (pc := 6) t228_6 rfl ?_
  refine zs_lload (pc := 7) t228_7 rfl ?_
  by_cases w3 : a.toInt < 8
  · refine zs_lcmp (pc := 9) t228_9 (c := -1) (zlcL (zi2l rfl) ll8 (by omega)) ?_
    refine zs_if_gtF (pc := 10) t228_10 lin1 (by decide) ?_
    refine zs_iconst (pc := 13) t228_13 (v := 1) (by decide) ?_
    refine zs_goto (pc := 14) t228_14 ?_
    refine zs_iret (pc := 18) t228_18 mr228 (by decide) ?_
    show zGo X l 2 0 0 334 11 [(0, .ref 336), (1, .int a)] [.int (1 : Int32)] zMm _
    refine zs_if_neT (pc := 11) t334_11 li1 (by decide) ?_
    refine zs_aload_n (pc := 16) t334_16 rfl ?_
    refine zs_iconst (pc := 17) t334_17 (v := 0) (by decide) ?_
    refine zs_invV (pc := 18) (k := 336) (as' := [.int (0 : Int32)]) (st := []) t334_18 mf230 rfl rfl (Or.inl ⟨by decide, (zk1 fk_zMm_336)⟩) ⟨by decide, by decide, Nat.le_of_ble_eq_true rfl, Nat.le_of_ble_eq_true rfl⟩ (cc4 (X := X) (l := l)) ?_
    rintro r M9 ⟨rfl, M9k336, M9v336_0, M9k337, M9a337_8, -⟩
    show zGo X l 2 0 0 334 21 [(0, .ref 336), (1, .int a)] [] M9 _
    refine zs_aload_n (pc := 21) t334_21 rfl ?_
    refine zs_get (pc := 22) t334_22 (by decide) (zk1 M9k336) M9v336_0 ?_
    refine zs_bipush (pc := 25) t334_25 (v := 8) (by decide) ?_
    refine zs_iald (pc := 27) t334_27 (j := 8) (by decide) (zk1 M9k337) (by decide) (zk2 M9k337 (by decide)) M9a337_8 ?_
    refine zs_istore_n (pc := 28) t334_28 (ls' := [(2, .int (3 : Int32)), (0, .ref 336), (1, .int a)]) (zml mf334 (by decide)) rfl ?_
    refine zs_aload_n (pc := 29) t334_29 rfl ?_
    refine zs_get (pc := 30) t334_30 (by decide) (zk1 M9k336) M9v336_0 ?_
    refine zs_bipush (pc := 33) t334_33 (v := 8) (by decide) ?_
    refine zs_iload_n (pc := 35) t334_35 rfl ?_
    refine zs_iast (pc := 36) t334_36 (j := 8) (by decide) (zk1 M9k337) (by decide) (zk2 M9k337 (by decide)) ?_
    refine zs_iload_n (pc := 37) t334_37 rfl ?_
    exact zs_iret (pc := 38) t334_38 mr334 (by decide) rfl
  refine zs_lcmp (pc := 9) t228_9 (c := 0) (zlcE (zi2l rfl) ll8 (by omega)) ?_
  refine zs_if_gtF (pc := 10) t228_10 li0 (by decide) ?_
  refine zs_iconst (pc := 13) t228_13 (v := 1) (by decide) ?_
  refine zs_goto (pc := 14) t228_14 ?_
  refine zs_iret (pc := 18) t228_18 mr228 (by decide) ?_
  show zGo X l 2 0 0 334 11 [(0, .ref 336), (1, .int a)] [.int (1 : Int32)] zMm _
  refine zs_if_neT (pc := 11) t334_11 li1 (by decide) ?_
  refine zs_aload_n (pc := 16) t334_16 rfl ?_
  refine zs_iconst (pc := 17) t334_17 (v := 0) (by decide) ?_
  refine zs_invV (pc := 18) (k := 336) (as' := [.int (0 : Int32)]) (st := []) t334_18 mf230 rfl rfl (Or.inl ⟨by decide, (zk1 fk_zMm_336)⟩) ⟨by decide, by decide, Nat.le_of_ble_eq_true rfl, Nat.le_of_ble_eq_true rfl⟩ (cc4 (X := X) (l := l)) ?_
  rintro r M9 ⟨rfl, M9k336, M9v336_0, M9k337, M9a337_8, -⟩
  show zGo X l 2 0 0 334 21 [(0, .ref 336), (1, .int a)] [] M9 _
  refine zs_aload_n (pc := 21) t334_21 rfl ?_
  refine zs_get (pc := 22) t334_22 (by decide) (zk1 M9k336) M9v336_0 ?_
  refine zs_bipush (pc := 25) t334_25 (v := 8) (by decide) ?_
  refine zs_iald (pc := 27) t334_27 (j := 8) (by decide) (zk1 M9k337) (by decide) (zk2 M9k337 (by decide)) M9a337_8 ?_
  refine zs_istore_n (pc := 28) t334_28 (ls' := [(2, .int (3 : Int32)), (0, .ref 336), (1, .int a)]) (zml mf334 (by decide)) rfl ?_
  refine zs_aload_n (pc := 29) t334_29 rfl ?_
  refine zs_get (pc := 30) t334_30 (by decide) (zk1 M9k336) M9v336_0 ?_
  refine zs_bipush (pc := 33) t334_33 (v := 8) (by decide) ?_
  refine zs_iload_n (pc := 35) t334_35 rfl ?_
  refine zs_iast (pc := 36) t334_36 (j := 8) (by decide) (zk1 M9k337) (by decide) (zk2 M9k337 (by decide)) ?_
  refine zs_iload_n (pc := 37) t334_37 rfl ?_
  exact zs_iret (pc := 38) t334_38 mr334 (by decide) rfl
theorem c28_2 {X : zX} {l : Launch} {a : Int32} (la : 9 ≤ a.toInt) (ua : a.toInt ≤ 2147483647) : zCall X l 4 0 0 95 [.ref 6, .int a] zMc (fun r _ => r = some (.int (-1 : Int32))) := by
  have ga := zrg a
  refine zs_in (by decide) mf95 (Nat.le_of_ble_eq_true rfl) ?_
  show zGo X l 4 0 0 95 0 [(0, .ref 6), (1, .int a)] [] zMc _
  refine zs_iload_n (pc := 0) t95_0 rfl ?_
  refine zs_iconst (pc := 1) t95_1 (v := 2) (by decide) ?_
  refine zs_bipush (pc := 2) t95_2 (v := 8) (by decide) ?_
  refine zs_invS (pc := 4) (as := [.int a, .int (2 : Int32), .int (8 : Int32)]) (st := []) t95_4 (by decide) mf39 rfl rfl ⟨by decide, by decide, Nat.le_of_ble_eq_true rfl, Nat.le_of_ble_eq_true rfl⟩ (zs_in (by decide) mf39 (Nat.le_of_ble_eq_true rfl) ?_) (fun _ _ q => q)
  show zGo X l 0 0 0 39 0 [(0, .int a), (1, .int (2 : Int32)), (2, .int (8 : Int32))] [] zMc _
  refine zs_iload_n (pc := 0) t39_0 rfl ?_
  refine zs_iload_n (pc := 1) t39_1 rfl ?_
  refine zs_icmp_ltF (pc := 2) t39_2 rfl li2 (by omega) ?_
  refine zs_iload_n (pc := 5) t39_5 rfl ?_
  refine zs_iload_n (pc := 6) t39_6 rfl ?_
  refine zs_icmp_gtT (pc := 7) t39_7 rfl li8 (by omega) ?_
  refine zs_iconst (pc := 14) t39_14 (v := 0) (by decide) ?_
  refine zs_iret (pc := 15) t39_15 mr39 (by decide) ?_
  show zGo X l 4 0 0 95 7 [(0, .ref 6), (1, .int a)] [.int (0 : Int32)] zMc _
  refine zs_if_neF (pc := 7) t95_7 li0 (by decide) ?_
  refine zs_iconst (pc := 10) t95_10 (v := -1) (by decide) ?_
  exact zs_iret (pc := 11) t95_11 mr95 (by decide) rfl
theorem m28_2 {X : zX} {l : Launch} {a : Int32} (la : 9 ≤ a.toInt) (ua : a.toInt ≤ 2147483647) : zCall X l 2 0 0 334 [.ref 336, .int a] zMm (fun r _ => r = some (.int (-1 : Int32))) := by
  have ga := zrg a
  refine zs_in (by decide) mf334 (Nat.le_of_ble_eq_true rfl) ?_
  show zGo X l 2 0 0 334 0 [(0, .ref 336), (1, .int a)] [] zMm _
  refine zs_iload_n (pc := 0) t334_0 rfl ?_
  refine zs_i2l (pc := 1) t334_1 rfl ?_
  refine zs_ldc2_w (pc := 2) t334_2 (v := 2) (by decide) ?_
  refine zs_ldc2_w (pc := 5) t334_5 (v := 8) (by decide) ?_
  refine zs_invS (pc := 8) (as := [.long a.toInt64, .long (2 : Int64), .long (8 : Int64)]) (st := []) t334_8 (by decide) mf228 rfl rfl ⟨by decide, by decide, Nat.le_of_ble_eq_true rfl, Nat.le_of_ble_eq_true rfl⟩ (zs_in (by decide) mf228 (Nat.le_of_ble_eq_true rfl) ?_) (fun _ _ q => q)
  show zGo X l 0 0 0 228 0 [(0, .long a.toInt64), (2, .long (2 : Int64)), (4, .long (8 : Int64))] [] zMm _
  refine zs_lload_n (pc := 0) t228_0 rfl ?_
  refine zs_lload_n (pc := 1) t228_1 rfl ?_
  refine zs_lcmp (pc := 2) t228_2 (c := 1) (zlcG (zi2l rfl) ll2 (by omega)) ?_
  refine zs_if_ltF (pc := 3) t228_3 li1 (by decide) ?_
  refine zs_lload_n (pc := 6) t228_6 rfl ?_
  refine zs_lload (pc := 7) t228_7 rfl ?_
  refine zs_lcmp (pc := 9) t228_9 (c := 1) (zlcG (zi2l rfl) ll8 (by omega)) ?_
  refine zs_if_gtT (pc := 10) t228_10 li1 (by decide) ?_
  refine zs_iconst (pc := 17) t228_17 (v := 0) (by decide) ?_
  refine zs_iret (pc := 18) t228_18 mr228 (by decide) ?_
  show zGo X l 2 0 0 334 11 [(0, .ref 336), (1, .int a)] [.int (0 : Int32)] zMm _
  refine zs_if_neF (pc := 11) t334_11 li0 (by decide) ?_
  refine zs_iconst (pc := 14) t334_14 (v := -1) (by decide) ?_
  exact zs_iret (pc := 15) t334_15 mr334 (by decide) rfl
theorem c29_0 {X : zX} {l : Launch} {a b c : Int32} : zCall X l 6 0 0 200 [.ref 6, .int a, .int b, .int c] zMc (fun r _ => r = some (.long (-1000000000000 : Int64))) := by
  have ga := zrg a
  have gb := zrg b
  have gc := zrg c
  refine zs_in (by decide) mf200 (Nat.le_of_ble_eq_true rfl) ?_
  show zGo X l 6 0 0 200 0 [(0, .ref 6), (1, .int a), (2, .int b), (3, .int c)] [] zMc _
  refine zs_aload_n (pc := 0) t200_0 rfl ?_
  refine zs_get (pc := 1) t200_1 (by decide) (zk1 fk_zMc_6) fv_zMc_6_6 ?_
  refine zs_aload_n (pc := 4) t200_4 rfl ?_
  refine zs_get (pc := 5) t200_5 (by decide) (zk1 fk_zMc_6) fv_zMc_6_0 ?_
  refine zs_invV (pc := 8) (k := 164) (as' := [.ref 7]) (st := []) t200_8 mf105 rfl rfl (Or.inl ⟨by decide, (zk1 fk_zMc_164)⟩) ⟨by decide, by decide, Nat.le_of_ble_eq_true rfl, Nat.le_of_ble_eq_true rfl⟩ (cc1 (X := X) (l := l)) ?_
  rintro r M1 ⟨rfl, M1k164, M1v164_4, M1k325, M1rM3, M1v164_9, M1v164_1, M1k165, M1rM4, M1k6, M1v6_6, -⟩
  show zGo X l 6 0 0 200 11 [(0, .ref 6), (1, .int a), (2, .int b), (3, .int c)] [.ref 164] M1 _
  refine zs_iload_n (pc := 11) t200_11 rfl ?_
  refine zs_invV (pc := 12) (k := 164) (as' := [.int a]) (st := []) t200_12 mf163 rfl rfl (Or.inl ⟨by decide, (zk1 M1k164)⟩) ⟨by decide, by decide, Nat.le_of_ble_eq_true rfl, Nat.le_of_ble_eq_true rfl⟩ (zs_in (by decide) mf163 (Nat.le_of_ble_eq_true rfl) ?_) (fun _ _ q => q)
  show zGo X l 1 0 0 163 0 [(0, .ref 164), (1, .int a)] [] M1 _
  refine zs_iload_n (pc := 0) t163_0 rfl ?_
  refine zs_aload_n (pc := 1) t163_1 rfl ?_
  refine zs_get (pc := 2) t163_2 (by decide) (zk1 M1k164) M1v164_4 ?_
  by_cases w1 : 0 ≤ a.toInt
  · refine zs_icmp_geT (pc := 5) t163_5 rfl li0 (by omega) ?_
    refine zs_aconst_null (pc := 19) t163_19 ?_
    refine zs_aret0 (pc := 20) t163_20 (by rw [mr163]; rfl) ?_
    show zGo X l 6 0 0 200 15 [(0, .ref 6), (1, .int a), (2, .int b), (3, .int c)] [.null] M1 _
    refine zs_astore0 (pc := 15) t200_15 (ls' := [(4, .null), (0, .ref 6), (1, .int a), (2, .int b), (3, .int c)]) (zml mf200 (by decide)) rfl ?_
    refine zs_aload_n (pc := 17) t200_17 rfl ?_
    refine zs_get (pc := 18) t200_18 (by decide) (zk1 M1k6) M1v6_6 ?_
    refine zs_iload_n (pc := 21) t200_21 rfl ?_
    refine zs_invV (pc := 22) (k := 164) (as' := [.int b]) (st := []) t200_22 mf163 rfl rfl (Or.inl ⟨by decide, (zk1 M1k164)⟩) ⟨by decide, by decide, Nat.le_of_ble_eq_true rfl, Nat.le_of_ble_eq_true rfl⟩ (zs_in (by decide) mf163 (Nat.le_of_ble_eq_true rfl) ?_) (fun _ _ q => q)
    show zGo X l 1 0 0 163 0 [(0, .ref 164), (1, .int b)] [] M1 _
    refine zs_iload_n (pc := 0) t163_0 rfl ?_
    refine zs_aload_n (pc := 1) t163_1 rfl ?_
    refine zs_get (pc := 2) t163_2 (by decide) (zk1 M1k164) M1v164_4 ?_
    by_cases w2 : 0 ≤ b.toInt
    · refine zs_icmp_geT (pc := 5) t163_5 rfl li0 (by omega) ?_
      refine zs_aconst_null (pc := 19) t163_19 ?_
      refine zs_aret0 (pc := 20) t163_20 (by rw [mr163]; rfl) ?_
      show zGo X l 6 0 0 200 25 [(4, .null), (0, .ref 6), (1, .int a), (2, .int b), (3, .int c)] [.null] M1 _
      refine zs_astore0 (pc := 25) t200_25 (ls' := [(5, .null), (4, .null), (0, .ref 6), (1, .int a), (2, .int b), (3, .int c)]) (zml mf200 (by decide)) rfl ?_
      refine zs_aload0 (pc := 27) t200_27 rfl ?_
      refine zs_ifnullT (pc := 29) t200_29 ?_
      refine zs_ldc2_w (pc := 51) t200_51 (v := -1000000000000) (by decide) ?_
      exact zs_lret (pc := 54) t200_54 mr200 rfl
    · refine zs_icmp_geF (pc := 5) t163_5 rfl li0 (by omega) ?_
      refine zs_aload_n (pc := 8) t163_8 rfl ?_
      refine zs_get (pc := 9) t163_9 (by decide) (zk1 M1k164) M1v164_1 ?_
      refine zs_iload_n (pc := 12) t163_12 rfl ?_
      refine zs_invV (pc := 13) (k := 165) (as' := [.int b]) (st := []) t163_13 mf126 rfl rfl (Or.inl ⟨by decide, (zk1 M1k165)⟩) ⟨by decide, by decide, Nat.le_of_ble_eq_true rfl, Nat.le_of_ble_eq_true rfl⟩ (zs_in (by decide) mf126 (Nat.le_of_ble_eq_true rfl) ?_) (fun _ _ q => q)
      show zGo X l 0 0 0 126 0 [(0, .ref 165), (1, .int b)] [] M1 _
      refine zs_iload_n (pc := 0) t126_0 rfl ?_
      refine zs_if_ltT (pc := 1) t126_1 rfl (by omega) ?_
      refine zs_aconst_null (pc := 21) t126_21 ?_
      refine zs_aret0 (pc := 22) t126_22 (by rw [mr126]; rfl) ?_
      show zGo X l 1 0 0 163 16 [(0, .ref 164), (1, .int b)] [.null] M1 _
      refine zs_goto (pc := 16) t163_16 ?_
      refine zs_aret0 (pc := 20) t163_20 (by rw [mr163]; rfl) ?_
      show zGo X l 6 0 0 200 25 [(4, .null), (0, .ref 6), (1, .int a), (2, .int b), (3, .int c)] [.null] M1 _
      refine zs_astore0 (pc := 25) t200_25 (ls' := [(5, .null), (4, .null), (0, .ref 6), (1, .int a), (2, .int b), (3, .int c)]) (zml mf200 (by decide)) rfl ?_
      refine zs_aload0 (pc := 27) t200_27 rfl ?_
      refine zs_ifnullT (pc := 29) t200_29 ?_
      refine zs_ldc2_w (pc := 51) t200_51 (v := -1000000000000) (by decide) ?_
      exact zs_lret (pc := 54) t200_54 mr200 rfl
  · refine zs_icmp_geF (pc := 5) t163_5 rfl li0 (by omega) ?_
    refine zs_aload_n (pc := 8) t163_8 rfl ?_
    refine zs_get (pc := 9) t163_9 (by decide) (zk1 M1k164) M1v164_1 ?_
    refine zs_iload_n (pc := 12) t163_12 rfl ?_
    refine zs_invV (pc := 13) (k := 165) (as' := [.int a]) (st := []) t163_13 mf126 rfl rfl (Or.inl ⟨by decide, (zk1 M1k165)⟩) ⟨by decide, by decide, Nat.le_of_ble_eq_true rfl, Nat.le_of_ble_eq_true rfl⟩ (zs_in (by decide) mf126 (Nat.le_of_ble_eq_true rfl) ?_) (fun _ _ q => q)
    show zGo X l 0 0 0 126 0 [(0, .ref 165), (1, .int a)] [] M1 _
    refine zs_iload_n (pc := 0) t126_0 rfl ?_
    refine zs_if_ltT (pc := 1) t126_1 rfl (by omega) ?_
    refine zs_aconst_null (pc := 21) t126_21 ?_
    refine zs_aret0 (pc := 22) t126_22 (by rw [mr126]; rfl) ?_
    show zGo X l 1 0 0 163 16 [(0, .ref 164), (1, .int a)] [.null] M1 _
    refine zs_goto (pc := 16) t163_16 ?_
    refine zs_aret0 (pc := 20) t163_20 (by rw [mr163]; rfl) ?_
    show zGo X l 6 0 0 200 15 [(0, .ref 6), (1, .int a), (2, .int b), (3, .int c)] [.null] M1 _
    refine zs_astore0 (pc := 15) t200_15 (ls' := [(4, .null), (0, .ref 6), (1, .int a), (2, .int b), (3, .int c)]) (zml mf200 (by decide)) rfl ?_
    refine zs_aload_n (pc := 17) t200_17 rfl ?_
    refine zs_get (pc := 18) t200_18 (by decide) (zk1 M1k6) M1v6_6 ?_
    refine zs_iload_n (pc := 21) t200_21 rfl ?_
    refine zs_invV (pc := 22) (k := 164) (as' := [.int b]) (st := []) t200_22 mf163 rfl rfl (Or.inl ⟨by decide, (zk1 M1k164)⟩) ⟨by decide, by decide, Nat.le_of_ble_eq_true rfl, Nat.le_of_ble_eq_true rfl⟩ (zs_in (by decide) mf163 (Nat.le_of_ble_eq_true rfl) ?_) (fun _ _ q => q)
    show zGo X l 1 0 0 163 0 [(0, .ref 164), (1, .int b)] [] M1 _
    refine zs_iload_n (pc := 0) t163_0 rfl ?_
    refine zs_aload_n (pc := 1) t163_1 rfl ?_
    refine zs_get (pc := 2) t163_2 (by decide) (zk1 M1k164) M1v164_4 ?_
    by_cases w3 : 0 ≤ b.toInt
    · refine zs_icmp_geT (pc := 5) t163_5 rfl li0 (by omega) ?_
      refine zs_aconst_null (pc := 19) t163_19 ?_
      refine zs_aret0 (pc := 20) t163_20 (by rw [mr163]; rfl) ?_
      show zGo X l 6 0 0 200 25 [(4, .null), (0, .ref 6), (1, .int a), (2, .int b), (3, .int c)] [.null] M1 _
      refine zs_astore0 (pc := 25) t200_25 (ls' := [(5, .null), (4, .null), (0, .ref 6), (1, .int a), (2, .int b), (3, .int c)]) (zml mf200 (by decide)) rfl ?_
      refine zs_aload0 (pc := 27) t200_27 rfl ?_
      refine zs_ifnullT (pc := 29) t200_29 ?_
      refine zs_ldc2_w (pc := 51) t200_51 (v := -1000000000000) (by decide) ?_
      exact zs_lret (pc := 54) t200_54 mr200 rfl
    · refine zs_icmp_geF (pc := 5) t163_5 rfl li0 (by omega) ?_
      refine zs_aload_n (pc := 8) t163_8 rfl ?_
      refine zs_get (pc := 9) t163_9 (by decide) (zk1 M1k164) M1v164_1 ?_
      refine zs_iload_n (pc := 12) t163_12 rfl ?_
      refine zs_invV (pc := 13) (k := 165) (as' := [.int b]) (st := []) t163_13 mf126 rfl rfl (Or.inl ⟨by decide, (zk1 M1k165)⟩) ⟨by decide, by decide, Nat.le_of_ble_eq_true rfl, Nat.le_of_ble_eq_true rfl⟩ (zs_in (by decide) mf126 (Nat.le_of_ble_eq_true rfl) ?_) (fun _ _ q => q)
      show zGo X l 0 0 0 126 0 [(0, .ref 165), (1, .int b)] [] M1 _
      refine zs_iload_n (pc := 0) t126_0 rfl ?_
      refine zs_if_ltT (pc := 1) t126_1 rfl (by omega) ?_
      refine zs_aconst_null (pc := 21) t126_21 ?_
      refine zs_aret0 (pc := 22) t126_22 (by rw [mr126]; rfl) ?_
      show zGo X l 1 0 0 163 16 [(0, .ref 164), (1, .int b)] [.null] M1 _
      refine zs_goto (pc := 16) t163_16 ?_
      refine zs_aret0 (pc := 20) t163_20 (by rw [mr163]; rfl) ?_
      show zGo X l 6 0 0 200 25 [(4, .null), (0, .ref 6), (1, .int a), (2, .int b), (3, .int c)] [.null] M1 _
      refine zs_astore0 (pc := 25) t200_25 (ls' := [(5, .null), (4, .null), (0, .ref 6), (1, .int a), (2, .int b), (3, .int c)]) (zml mf200 (by decide)) rfl ?_
      refine zs_aload0 (pc := 27) t200_27 rfl ?_
      refine zs_ifnullT (pc := 29) t200_29 ?_
      refine zs_ldc2_w (pc := 51) t200_51 (v := -1000000000000) (by decide) ?_
      exact zs_lret (pc := 54) t200_54 mr200 rfl
theorem m29_0 {X : zX} {l : Launch} {a b c : Int32} : zCall X l 7 0 0 300 [.ref 336, .int a, .int b, .int c] zMm (fun r _ => r = some (.long (-1000000000000 : Int64))) := by
  have ga := zrg a
  have gb := zrg b
  have gc := zrg c
  refine zs_in (by decide) mf300 (Nat.le_of_ble_eq_true rfl) ?_
  show zGo X l 7 0 0 300 0 [(0, .ref 336), (1, .int a), (2, .int b), (3, .int c)] [] zMm _
  refine zs_aload_n (pc := 0) t300_0 rfl ?_
  refine zs_invV (pc := 1) (k := 336) (as' := []) (st := []) t300_1 mf268 rfl rfl (Or.inl ⟨by decide, (zk1 fk_zMm_336)⟩) ⟨by decide, by decide, Nat.le_of_ble_eq_true rfl, Nat.le_of_ble_eq_true rfl⟩ (cc2 (X := X) (l := l)) ?_
  rintro r M2 ⟨rfl, M2k336, M2v336_22, M2v336_39, M2v336_37, M2v336_0, M2k337, M2a337_1, M2v336_26, M2v336_34, M2a337_0, -⟩
  show zGo X l 7 0 0 300 4 [(0, .ref 336), (1, .int a), (2, .int b), (3, .int c)] [] M2 _
  refine zs_aload_n (pc := 4) t300_4 rfl ?_
  refine zs_iload_n (pc := 5) t300_5 rfl ?_
  refine zs_invV (pc := 6) (k := 336) (as' := [.int a]) (st := []) t300_6 mf297 rfl rfl (Or.inl ⟨by decide, (zk1 M2k336)⟩) ⟨by decide, by decide, Nat.le_of_ble_eq_true rfl, Nat.le_of_ble_eq_true rfl⟩ (zs_in (by decide) mf297 (Nat.le_of_ble_eq_true rfl) ?_) (fun _ _ q => q)
  show zGo X l 1 0 0 297 0 [(0, .ref 336), (1, .int a)] [] M2 _
  refine zs_iload_n (pc := 0) t297_0 rfl ?_
  refine zs_i2l (pc := 1) t297_1 rfl ?_
  refine zs_lconst (pc := 2) t297_2 (v := 0) (by decide) ?_
  refine zs_aload_n (pc := 3) t297_3 rfl ?_
  refine zs_get (pc := 4) t297_4 (by decide) (zk1 M2k336) M2v336_22 ?_
  refine zs_iconst (pc := 7) t297_7 (v := 1) (by decide) ?_
  refine zs_isub (pc := 8) t297_8 (c := -1) (by decide) ?_
  refine zs_i2l (pc := 9) t297_9 (c := -1) (by decide) ?_
  refine zs_invS (pc := 10) (as := [.long a.toInt64, .long (0 : Int64), .long (-1 : Int64)]) (st := []) t297_10 (by decide) mf228 rfl rfl ⟨by decide, by decide, Nat.le_of_ble_eq_true rfl, Nat.le_of_ble_eq_true rfl⟩ (zs_in (by decide) mf228 (Nat.le_of_ble_eq_true rfl) ?_) (fun _ _ q => q)
  show zGo X l 0 0 0 228 0 [(0, .long a.toInt64), (2, .long (0 : Int64)), (4, .long (-1 : Int64))] [] M2 _
  refine zs_lload_n (pc := 0) t228_0 rfl ?_
  refine zs_lload_n (pc := 1) t228_1 rfl ?_
  by_cases w1 : a.toInt < 0
  · refine zs_lcmp (pc := 2) t228_2 (c := -1) (zlcL (zi2l rfl) ll0 (by omega)) ?_
    refine zs_if_ltT (pc := 3) t228_3 lin1 (by decide) ?_
    refine zs_iconst (pc := 17) t228_17 (v := 0) (by decide) ?_
    refine zs_iret (pc := 18) t228_18 mr228 (by decide) ?_
    show zGo X l 1 0 0 297 13 [(0, .ref 336), (1, .int a)] [.int (0 : Int32)] M2 _
    refine zs_iret (pc := 13) t297_13 mr297 (by decide) ?_
    show zGo X l 7 0 0 300 9 [(0, .ref 336), (1, .int a), (2, .int b), (3, .int c)] [.int (0 : Int32)] M2 _
    refine zs_if_eqT (pc := 9) t300_9 li0 (by decide) ?_
    refine zs_ldc2_w (pc := 35) t300_35 (v := -1000000000000) (by decide) ?_
    exact zs_lret (pc := 38) t300_38 mr300 rfl
  by_cases w2 : a.toInt = 0
  · refine zs_lcmp (pc := 2) t228_2 (c := 0) (zlcE (zi2l rfl) ll0 (by omega)) ?_
    refine zs_if_ltF (pc := 3) t228_3 li0 (by decide) ?_
    refine zs_lload_n (pc := 6) t228_6 rfl ?_
    refine zs_lload (pc := 7) t228_7 rfl ?_
    refine zs_lcmp (pc := 9) t228_9 (c := 1) (zlcG (zi2l rfl) lln1 (by omega)) ?_
    refine zs_if_gtT (pc := 10) t228_10 li1 (by decide) ?_
    refine zs_iconst (pc := 17) t228_17 (v := 0) (by decide) ?_
    refine zs_iret (pc := 18) t228_18 mr228 (by decide) ?_
    show zGo X l 1 0 0 297 13 [(0, .ref 336), (1, .int a)] [.int (0 : Int32)] M2 _
    refine zs_iret (pc := 13) t297_13 mr297 (by decide) ?_
    show zGo X l 7 0 0 300 9 [(0, .ref 336), (1, .int a), (2, .int b), (3, .int c)] [.int (0 : Int32)] M2 _
    refine zs_if_eqT (pc := 9) t300_9 li0 (by decide) ?_
    refine zs_ldc2_w (pc := 35) t300_35 (v := -1000000000000) (by decide) ?_
    exact zs_lret (pc := 38) t300_38 mr300 rfl
  refine zs_lcmp (pc := 2) t228_2 (c := 1) (zlcG (zi2l rfl) ll0 (by omega)) ?_
  refine zs_if_ltF (pc := 3) t228_3 li1 (by decide) ?_
  refine zs_lload_n (pc := 6) t228_6 rfl ?_
  refine zs_lload (pc := 7) t228_7 rfl ?_
  refine zs_lcmp (pc := 9) t228_9 (c := 1) (zlcG (zi2l rfl) lln1 (by omega)) ?_
  refine zs_if_gtT (pc := 10) t228_10 li1 (by decide) ?_
  refine zs_iconst (pc := 17) t228_17 (v := 0) (by decide) ?_
  refine zs_iret (pc := 18) t228_18 mr228 (by decide) ?_
  show zGo X l 1 0 0 297 13 [(0, .ref 336), (1, .int a)] [.int (0 : Int32)] M2 _
  refine zs_iret (pc := 13) t297_13 mr297 (by decide) ?_
  show zGo X l 7 0 0 300 9 [(0, .ref 336), (1, .int a), (2, .int b), (3, .int c)] [.int (0 : Int32)] M2 _
  refine zs_if_eqT (pc := 9) t300_9 li0 (by decide) ?_
  refine zs_ldc2_w (pc := 35) t300_35 (v := -1000000000000) (by decide) ?_
  exact zs_lret (pc := 38) t300_38 mr300 rfl
theorem c30_0 {X : zX} {l : Launch} {a b : Int32} : zCall X l 6 0 0 201 [.ref 6, .int a, .int b] zMc (fun r _ => r = some (.int (-100000 : Int32))) := by
  have ga := zrg a
  have gb := zrg b
  refine zs_in (by decide) mf201 (Nat.le_of_ble_eq_true rfl) ?_
  show zGo X l 6 0 0 201 0 [(0, .ref 6), (1, .int a), (2, .int b)] [] zMc _
  refine zs_aload_n (pc := 0) t201_0 rfl ?_
  refine zs_get (pc := 1) t201_1 (by decide) (zk1 fk_zMc_6) fv_zMc_6_6 ?_
  refine zs_aload_n (pc := 4) t201_4 rfl ?_
  refine zs_get (pc := 5) t201_5 (by decide) (zk1 fk_zMc_6) fv_zMc_6_0 ?_
  refine zs_invV (pc := 8) (k := 164) (as' := [.ref 7]) (st := []) t201_8 mf105 rfl rfl (Or.inl ⟨by decide, (zk1 fk_zMc_164)⟩) ⟨by decide, by decide, Nat.le_of_ble_eq_true rfl, Nat.le_of_ble_eq_true rfl⟩ (cc1 (X := X) (l := l)) ?_
  rintro r M1 ⟨rfl, M1k164, M1v164_4, M1k325, M1rM3, M1v164_9, M1v164_1, M1k165, M1rM4, M1k6, M1v6_6, -⟩
  show zGo X l 6 0 0 201 11 [(0, .ref 6), (1, .int a), (2, .int b)] [.ref 164] M1 _
  refine zs_iload_n (pc := 11) t201_11 rfl ?_
  refine zs_invV (pc := 12) (k := 164) (as' := [.int a]) (st := []) t201_12 mf163 rfl rfl (Or.inl ⟨by decide, (zk1 M1k164)⟩) ⟨by decide, by decide, Nat.le_of_ble_eq_true rfl, Nat.le_of_ble_eq_true rfl⟩ (zs_in (by decide) mf163 (Nat.le_of_ble_eq_true rfl) ?_) (fun _ _ q => q)
  show zGo X l 1 0 0 163 0 [(0, .ref 164), (1, .int a)] [] M1 _
  refine zs_iload_n (pc := 0) t163_0 rfl ?_
  refine zs_aload_n (pc := 1) t163_1 rfl ?_
  refine zs_get (pc := 2) t163_2 (by decide) (zk1 M1k164) M1v164_4 ?_
  by_cases w1 : 0 ≤ a.toInt
  · refine zs_icmp_geT (pc := 5) t163_5 rfl li0 (by omega) ?_
    refine zs_aconst_null (pc := 19) t163_19 ?_
    refine zs_aret0 (pc := 20) t163_20 (by rw [mr163]; rfl) ?_
    show zGo X l 6 0 0 201 15 [(0, .ref 6), (1, .int a), (2, .int b)] [.null] M1 _
    refine zs_astore_n0 (pc := 15) t201_15 (ls' := [(3, .null), (0, .ref 6), (1, .int a), (2, .int b)]) (zml mf201 (by decide)) rfl ?_
    refine zs_aload_n0 (pc := 16) t201_16 rfl ?_
    refine zs_ifnullT (pc := 17) t201_17 ?_
    refine zs_ldc (pc := 31) t201_31 (v := -100000) rfl (by decide) ?_
    refine zs_goto (pc := 33) t201_33 ?_
    exact zs_iret (pc := 45) t201_45 mr201 (by decide) rfl
  · refine zs_icmp_geF (pc := 5) t163_5 rfl li0 (by omega) ?_
    refine zs_aload_n (pc := 8) t163_8 rfl ?_
    refine zs_get (pc := 9) t163_9 (by decide) (zk1 M1k164) M1v164_1 ?_
    refine zs_iload_n (pc := 12) t163_12 rfl ?_
    refine zs_invV (pc := 13) (k := 165) (as' := [.int a]) (st := []) t163_13 mf126 rfl rfl (Or.inl ⟨by decide, (zk1 M1k165)⟩) ⟨by decide, by decide, Nat.le_of_ble_eq_true rfl, Nat.le_of_ble_eq_true rfl⟩ (zs_in (by decide) mf126 (Nat.le_of_ble_eq_true rfl) ?_) (fun _ _ q => q)
    show zGo X l 0 0 0 126 0 [(0, .ref 165), (1, .int a)] [] M1 _
    refine zs_iload_n (pc := 0) t126_0 rfl ?_
    refine zs_if_ltT (pc := 1) t126_1 rfl (by omega) ?_
    refine zs_aconst_null (pc := 21) t126_21 ?_
    refine zs_aret0 (pc := 22) t126_22 (by rw [mr126]; rfl) ?_
    show zGo X l 1 0 0 163 16 [(0, .ref 164), (1, .int a)] [.null] M1 _
    refine zs_goto (pc := 16) t163_16 ?_
    refine zs_aret0 (pc := 20) t163_20 (by rw [mr163]; rfl) ?_
    show zGo X l 6 0 0 201 15 [(0, .ref 6), (1, .int a), (2, .int b)] [.null] M1 _
    refine zs_astore_n0 (pc := 15) t201_15 (ls' := [(3, .null), (0, .ref 6), (1, .int a), (2, .int b)]) (zml mf201 (by decide)) rfl ?_
    refine zs_aload_n0 (pc := 16) t201_16 rfl ?_
    refine zs_ifnullT (pc := 17) t201_17 ?_
    refine zs_ldc (pc := 31) t201_31 (v := -100000) rfl (by decide) ?_
    refine zs_goto (pc := 33) t201_33 ?_
    exact zs_iret (pc := 45) t201_45 mr201 (by decide) rfl
theorem m30_0 {X : zX} {l : Launch} {a b : Int32} : zCall X l 7 0 0 336 [.ref 336, .int a, .int b] zMm (fun r _ => r = some (.int (-100000 : Int32))) := by
  have ga := zrg a
  have gb := zrg b
  refine zs_in (by decide) mf336 (Nat.le_of_ble_eq_true rfl) ?_
  show zGo X l 7 0 0 336 0 [(0, .ref 336), (1, .int a), (2, .int b)] [] zMm _
  refine zs_aload_n (pc := 0) t336_0 rfl ?_
  refine zs_invV (pc := 1) (k := 336) (as' := []) (st := []) t336_1 mf268 rfl rfl (Or.inl ⟨by decide, (zk1 fk_zMm_336)⟩) ⟨by decide, by decide, Nat.le_of_ble_eq_true rfl, Nat.le_of_ble_eq_true rfl⟩ (cc2 (X := X) (l := l)) ?_
  rintro r M2 ⟨rfl, M2k336, M2v336_22, M2v336_39, M2v336_37, M2v336_0, M2k337, M2a337_1, M2v336_26, M2v336_34, M2a337_0, -⟩
  show zGo X l 7 0 0 336 4 [(0, .ref 336), (1, .int a), (2, .int b)] [] M2 _
  refine zs_aload_n (pc := 4) t336_4 rfl ?_
  refine zs_iload_n (pc := 5) t336_5 rfl ?_
  refine zs_invV (pc := 6) (k := 336) (as' := [.int a]) (st := []) t336_6 mf297 rfl rfl (Or.inl ⟨by decide, (zk1 M2k336)⟩) ⟨by decide, by decide, Nat.le_of_ble_eq_true rfl, Nat.le_of_ble_eq_true rfl⟩ (zs_in (by decide) mf297 (Nat.le_of_ble_eq_true rfl) ?_) (fun _ _ q => q)
  show zGo X l 1 0 0 297 0 [(0, .ref 336), (1, .int a)] [] M2 _
  refine zs_iload_n (pc := 0) t297_0 rfl ?_
  refine zs_i2l (pc := 1) t297_1 rfl ?_
  refine zs_lconst (pc := 2) t297_2 (v := 0) (by decide) ?_
  refine zs_aload_n (pc := 3) t297_3 rfl ?_
  refine zs_get (pc := 4) t297_4 (by decide) (zk1 M2k336) M2v336_22 ?_
  refine zs_iconst (pc := 7) t297_7 (v := 1) (by decide) ?_
  refine zs_isub (pc := 8) t297_8 (c := -1) (by decide) ?_
  refine zs_i2l (pc := 9) t297_9 (c := -1) (by decide) ?_
  refine zs_invS (pc := 10) (as := [.long a.toInt64, .long (0 : Int64), .long (-1 : Int64)]) (st := []) t297_10 (by decide) mf228 rfl rfl ⟨by decide, by decide, Nat.le_of_ble_eq_true rfl, Nat.le_of_ble_eq_true rfl⟩ (zs_in (by decide) mf228 (Nat.le_of_ble_eq_true rfl) ?_) (fun _ _ q => q)
  show zGo X l 0 0 0 228 0 [(0, .long a.toInt64), (2, .long (0 : Int64)), (4, .long (-1 : Int64))] [] M2 _
  refine zs_lload_n (pc := 0) t228_0 rfl ?_
  refine zs_lload_n (pc := 1) t228_1 rfl ?_
  by_cases w1 : a.toInt < 0
  · refine zs_lcmp (pc := 2) t228_2 (c := -1) (zlcL (zi2l rfl) ll0 (by omega)) ?_
    refine zs_if_ltT (pc := 3) t228_3 lin1 (by decide) ?_
    refine zs_iconst (pc := 17) t228_17 (v := 0) (by decide) ?_
    refine zs_iret (pc := 18) t228_18 mr228 (by decide) ?_
    show zGo X l 1 0 0 297 13 [(0, .ref 336), (1, .int a)] [.int (0 : Int32)] M2 _
    refine zs_iret (pc := 13) t297_13 mr297 (by decide) ?_
    show zGo X l 7 0 0 336 9 [(0, .ref 336), (1, .int a), (2, .int b)] [.int (0 : Int32)] M2 _
    refine zs_if_eqT (pc := 9) t336_9 li0 (by decide) ?_
    refine zs_ldc_w (pc := 29) t336_29 (v := -100000) rfl (by decide) ?_
    exact zs_iret (pc := 32) t336_32 mr336 (by decide) rfl
  by_cases w2 : a.toInt = 0
  · refine zs_lcmp (pc := 2) t228_2 (c := 0) (zlcE (zi2l rfl) ll0 (by omega)) ?_
    refine zs_if_ltF (pc := 3) t228_3 li0 (by decide) ?_
    refine zs_lload_n (pc := 6) t228_6 rfl ?_
    refine zs_lload (pc := 7) t228_7 rfl ?_
    refine zs_lcmp (pc := 9) t228_9 (c := 1) (zlcG (zi2l rfl) lln1 (by omega)) ?_
    refine zs_if_gtT (pc := 10) t228_10 li1 (by decide) ?_
    refine zs_iconst (pc := 17) t228_17 (v := 0) (by decide) ?_
    refine zs_iret (pc := 18) t228_18 mr228 (by decide) ?_
    show zGo X l 1 0 0 297 13 [(0, .ref 336), (1, .int a)] [.int (0 : Int32)] M2 _
    refine zs_iret (pc := 13) t297_13 mr297 (by decide) ?_
    show zGo X l 7 0 0 336 9 [(0, .ref 336), (1, .int a), (2, .int b)] [.int (0 : Int32)] M2 _
    refine zs_if_eqT (pc := 9) t336_9 li0 (by decide) ?_
    refine zs_ldc_w (pc := 29) t336_29 (v := -100000) rfl (by decide) ?_
    exact zs_iret (pc := 32) t336_32 mr336 (by decide) rfl
  refine zs_lcmp (pc := 2) t228_2 (c := 1) (zlcG (zi2l rfl) ll0 (by omega)) ?_
  refine zs_if_ltF (pc := 3) t228_3 li1 (by decide) ?_
  refine zs_lload_n (pc := 6) t228_6 rfl ?_
  refine zs_lload (pc := 7) t228_7 rfl ?_
  refine zs_lcmp (pc := 9) t228_9 (c := 1) (zlcG (zi2l rfl) lln1 (by omega)) ?_
  refine zs_if_gtT (pc := 10) t228_10 li1 (by decide) ?_
  refine zs_iconst (pc := 17) t228_17 (v := 0) (by decide) ?_
  refine zs_iret (pc := 18) t228_18 mr228 (by decide) ?_
  show zGo X l 1 0 0 297 13 [(0, .ref 336), (1, .int a)] [.int (0 : Int32)] M2 _
  refine zs_iret (pc := 13) t297_13 mr297 (by decide) ?_
  show zGo X l 7 0 0 336 9 [(0, .ref 336), (1, .int a), (2, .int b)] [.int (0 : Int32)] M2 _
  refine zs_if_eqT (pc := 9) t336_9 li0 (by decide) ?_
  refine zs_ldc_w (pc := 29) t336_29 (v := -100000) rfl (by decide) ?_
  exact zs_iret (pc := 32) t336_32 mr336 (by decide) rfl
theorem c31_0 {X : zX} {l : Launch} {a : Int32} : zCall X l 6 0 0 203 [.ref 6, .int a] zMc (fun r _ => r = some (.int (-1 : Int32))) := by
  have ga := zrg a
  refine zs_in (by decide) mf203 (Nat.le_of_ble_eq_true rfl) ?_
  show zGo X l 6 0 0 203 0 [(0, .ref 6), (1, .int a)] [] zMc _
  refine zs_aload_n (pc := 0) t203_0 rfl ?_
  refine zs_get (pc := 1) t203_1 (by decide) (zk1 fk_zMc_6) fv_zMc_6_6 ?_
  refine zs_aload_n (pc := 4) t203_4 rfl ?_
  refine zs_get (pc := 5) t203_5 (by decide) (zk1 fk_zMc_6) fv_zMc_6_0 ?_
  refine zs_invV (pc := 8) (k := 164) (as' := [.ref 7]) (st := []) t203_8 mf105 rfl rfl (Or.inl ⟨by decide, (zk1 fk_zMc_164)⟩) ⟨by decide, by decide, Nat.le_of_ble_eq_true rfl, Nat.le_of_ble_eq_true rfl⟩ (cc1 (X := X) (l := l)) ?_
  rintro r M1 ⟨rfl, M1k164, M1v164_4, M1k325, M1rM3, M1v164_9, M1v164_1, M1k165, M1rM4, M1k6, M1v6_6, -⟩
  show zGo X l 6 0 0 203 11 [(0, .ref 6), (1, .int a)] [.ref 164] M1 _
  refine zs_iload_n (pc := 11) t203_11 rfl ?_
  refine zs_invV (pc := 12) (k := 164) (as' := [.int a]) (st := []) t203_12 mf163 rfl rfl (Or.inl ⟨by decide, (zk1 M1k164)⟩) ⟨by decide, by decide, Nat.le_of_ble_eq_true rfl, Nat.le_of_ble_eq_true rfl⟩ (zs_in (by decide) mf163 (Nat.le_of_ble_eq_true rfl) ?_) (fun _ _ q => q)
  show zGo X l 1 0 0 163 0 [(0, .ref 164), (1, .int a)] [] M1 _
  refine zs_iload_n (pc := 0) t163_0 rfl ?_
  refine zs_aload_n (pc := 1) t163_1 rfl ?_
  refine zs_get (pc := 2) t163_2 (by decide) (zk1 M1k164) M1v164_4 ?_
  by_cases w1 : 0 ≤ a.toInt
  · refine zs_icmp_geT (pc := 5) t163_5 rfl li0 (by omega) ?_
    refine zs_aconst_null (pc := 19) t163_19 ?_
    refine zs_aret0 (pc := 20) t163_20 (by rw [mr163]; rfl) ?_
    show zGo X l 6 0 0 203 15 [(0, .ref 6), (1, .int a)] [.null] M1 _
    refine zs_astore_n0 (pc := 15) t203_15 (ls' := [(2, .null), (0, .ref 6), (1, .int a)]) (zml mf203 (by decide)) rfl ?_
    refine zs_aload_n0 (pc := 16) t203_16 rfl ?_
    refine zs_ifnonnullF (pc := 17) t203_17 ?_
    refine zs_iconst (pc := 20) t203_20 (v := -1) (by decide) ?_
    exact zs_iret (pc := 21) t203_21 mr203 (by decide) rfl
  · refine zs_icmp_geF (pc := 5) t163_5 rfl li0 (by omega) ?_
    refine zs_aload_n (pc := 8) t163_8 rfl ?_
    refine zs_get (pc := 9) t163_9 (by decide) (zk1 M1k164) M1v164_1 ?_
    refine zs_iload_n (pc := 12) t163_12 rfl ?_
    refine zs_invV (pc := 13) (k := 165) (as' := [.int a]) (st := []) t163_13 mf126 rfl rfl (Or.inl ⟨by decide, (zk1 M1k165)⟩) ⟨by decide, by decide, Nat.le_of_ble_eq_true rfl, Nat.le_of_ble_eq_true rfl⟩ (zs_in (by decide) mf126 (Nat.le_of_ble_eq_true rfl) ?_) (fun _ _ q => q)
    show zGo X l 0 0 0 126 0 [(0, .ref 165), (1, .int a)] [] M1 _
    refine zs_iload_n (pc := 0) t126_0 rfl ?_
    refine zs_if_ltT (pc := 1) t126_1 rfl (by omega) ?_
    refine zs_aconst_null (pc := 21) t126_21 ?_
    refine zs_aret0 (pc := 22) t126_22 (by rw [mr126]; rfl) ?_
    show zGo X l 1 0 0 163 16 [(0, .ref 164), (1, .int a)] [.null] M1 _
    refine zs_goto (pc := 16) t163_16 ?_
    refine zs_aret0 (pc := 20) t163_20 (by rw [mr163]; rfl) ?_
    show zGo X l 6 0 0 203 15 [(0, .ref 6), (1, .int a)] [.null] M1 _
    refine zs_astore_n0 (pc := 15) t203_15 (ls' := [(2, .null), (0, .ref 6), (1, .int a)]) (zml mf203 (by decide)) rfl ?_
    refine zs_aload_n0 (pc := 16) t203_16 rfl ?_
    refine zs_ifnonnullF (pc := 17) t203_17 ?_
    refine zs_iconst (pc := 20) t203_20 (v := -1) (by decide) ?_
    exact zs_iret (pc := 21) t203_21 mr203 (by decide) rfl
theorem m31_0 {X : zX} {l : Launch} {a : Int32} : zCall X l 7 0 0 338 [.ref 336, .int a] zMm (fun r _ => r = some (.int (-1 : Int32))) := by
  have ga := zrg a
  refine zs_in (by decide) mf338 (Nat.le_of_ble_eq_true rfl) ?_
  show zGo X l 7 0 0 338 0 [(0, .ref 336), (1, .int a)] [] zMm _
  refine zs_aload_n (pc := 0) t338_0 rfl ?_
  refine zs_invV (pc := 1) (k := 336) (as' := []) (st := []) t338_1 mf268 rfl rfl (Or.inl ⟨by decide, (zk1 fk_zMm_336)⟩) ⟨by decide, by decide, Nat.le_of_ble_eq_true rfl, Nat.le_of_ble_eq_true rfl⟩ (cc2 (X := X) (l := l)) ?_
  rintro r M2 ⟨rfl, M2k336, M2v336_22, M2v336_39, M2v336_37, M2v336_0, M2k337, M2a337_1, M2v336_26, M2v336_34, M2a337_0, -⟩
  show zGo X l 7 0 0 338 4 [(0, .ref 336), (1, .int a)] [] M2 _
  refine zs_aload_n (pc := 4) t338_4 rfl ?_
  refine zs_iload_n (pc := 5) t338_5 rfl ?_
  refine zs_invV (pc := 6) (k := 336) (as' := [.int a]) (st := []) t338_6 mf297 rfl rfl (Or.inl ⟨by decide, (zk1 M2k336)⟩) ⟨by decide, by decide, Nat.le_of_ble_eq_true rfl, Nat.le_of_ble_eq_true rfl⟩ (zs_in (by decide) mf297 (Nat.le_of_ble_eq_true rfl) ?_) (fun _ _ q => q)
  show zGo X l 1 0 0 297 0 [(0, .ref 336), (1, .int a)] [] M2 _
  refine zs_iload_n (pc := 0) t297_0 rfl ?_
  refine zs_i2l (pc := 1) t297_1 rfl ?_
  refine zs_lconst (pc := 2) t297_2 (v := 0) (by decide) ?_
  refine zs_aload_n (pc := 3) t297_3 rfl ?_
  refine zs_get (pc := 4) t297_4 (by decide) (zk1 M2k336) M2v336_22 ?_
  refine zs_iconst (pc := 7) t297_7 (v := 1) (by decide) ?_
  refine zs_isub (pc := 8) t297_8 (c := -1) (by decide) ?_
  refine zs_i2l (pc := 9) t297_9 (c := -1) (by decide) ?_
  refine zs_invS (pc := 10) (as := [.long a.toInt64, .long (0 : Int64), .long (-1 : Int64)]) (st := []) t297_10 (by decide) mf228 rfl rfl ⟨by decide, by decide, Nat.le_of_ble_eq_true rfl, Nat.le_of_ble_eq_true rfl⟩ (zs_in (by decide) mf228 (Nat.le_of_ble_eq_true rfl) ?_) (fun _ _ q => q)
  show zGo X l 0 0 0 228 0 [(0, .long a.toInt64), (2, .long (0 : Int64)), (4, .long (-1 : Int64))] [] M2 _
  refine zs_lload_n (pc := 0) t228_0 rfl ?_
  refine zs_lload_n (pc := 1) t228_1 rfl ?_
  by_cases w1 : a.toInt < 0
  · refine zs_lcmp (pc := 2) t228_2 (c := -1) (zlcL (zi2l rfl) ll0 (by omega)) ?_
    refine zs_if_ltT (pc := 3) t228_3 lin1 (by decide) ?_
    refine zs_iconst (pc := 17) t228_17 (v := 0) (by decide) ?_
    refine zs_iret (pc := 18) t228_18 mr228 (by decide) ?_
    show zGo X l 1 0 0 297 13 [(0, .ref 336), (1, .int a)] [.int (0 : Int32)] M2 _
    refine zs_iret (pc := 13) t297_13 mr297 (by decide) ?_
    show zGo X l 7 0 0 338 9 [(0, .ref 336), (1, .int a)] [.int (0 : Int32)] M2 _
    refine zs_if_neF (pc := 9) t338_9 li0 (by decide) ?_
    refine zs_iconst (pc := 12) t338_12 (v := -1) (by decide) ?_
    exact zs_iret (pc := 13) t338_13 mr338 (by decide) rfl
  by_cases w2 : a.toInt = 0
  · refine zs_lcmp (pc := 2) t228_2 (c := 0) (zlcE (zi2l rfl) ll0 (by omega)) ?_
    refine zs_if_ltF (pc := 3) t228_3 li0 (by decide) ?_
    refine zs_lload_n (pc := 6) t228_6 rfl ?_
    refine zs_lload (pc := 7) t228_7 rfl ?_
    refine zs_lcmp (pc := 9) t228_9 (c := 1) (zlcG (zi2l rfl) lln1 (by omega)) ?_
    refine zs_if_gtT (pc := 10) t228_10 li1 (by decide) ?_
    refine zs_iconst (pc := 17) t228_17 (v := 0) (by decide) ?_
    refine zs_iret (pc := 18) t228_18 mr228 (by decide) ?_
    show zGo X l 1 0 0 297 13 [(0, .ref 336), (1, .int a)] [.int (0 : Int32)] M2 _
    refine zs_iret (pc := 13) t297_13 mr297 (by decide) ?_
    show zGo X l 7 0 0 338 9 [(0, .ref 336), (1, .int a)] [.int (0 : Int32)] M2 _
    refine zs_if_neF (pc := 9) t338_9 li0 (by decide) ?_
    refine zs_iconst (pc := 12) t338_12 (v := -1) (by decide) ?_
    exact zs_iret (pc := 13) t338_13 mr338 (by decide) rfl
  refine zs_lcmp (pc := 2) t228_2 (c := 1) (zlcG (zi2l rfl) ll0 (by omega)) ?_
  refine zs_if_ltF (pc := 3) t228_3 li1 (by decide) ?_
  refine zs_lload_n (pc := 6) t228_6 rfl ?_
  refine zs_lload (pc := 7) t228_7 rfl ?_
  refine zs_lcmp (pc := 9) t228_9 (c := 1) (zlcG (zi2l rfl) lln1 (by omega)) ?_
  refine zs_if_gtT (pc := 10) t228_10 li1 (by decide) ?_
  refine zs_iconst (pc := 17) t228_17 (v := 0) (by decide) ?_
  refine zs_iret (pc := 18) t228_18 mr228 (by decide) ?_
  show zGo X l 1 0 0 297 13 [(0, .ref 336), (1, .int a)] [.int (0 : Int32)] M2 _
  refine zs_iret (pc := 13) t297_13 mr297 (by decide) ?_
  show zGo X l 7 0 0 338 9 [(0, .ref 336), (1, .int a)] [.int (0 : Int32)] M2 _
  refine zs_if_neF (pc := 9) t338_9 li0 (by decide) ?_
  refine zs_iconst (pc := 12) t338_12 (v := -1) (by decide) ?_
  exact zs_iret (pc := 13) t338_13 mr338 (by decide) rfl
theorem c32_0 {X : zX} {l : Launch} {a b : Int32} : zCall X l 6 0 0 204 [.ref 6, .int a, .int b] zMc (fun r _ => r = some (.int (-1 : Int32))) := by
  have ga := zrg a
  have gb := zrg b
  refine zs_in (by decide) mf204 (Nat.le_of_ble_eq_true rfl) ?_
  show zGo X l 6 0 0 204 0 [(0, .ref 6), (1, .int a), (2, .int b)] [] zMc _
  refine zs_aload_n (pc := 0) t204_0 rfl ?_
  refine zs_get (pc := 1) t204_1 (by decide) (zk1 fk_zMc_6) fv_zMc_6_6 ?_
  refine zs_aload_n (pc := 4) t204_4 rfl ?_
  refine zs_get (pc := 5) t204_5 (by decide) (zk1 fk_zMc_6) fv_zMc_6_0 ?_
  refine zs_invV (pc := 8) (k := 164) (as' := [.ref 7]) (st := []) t204_8 mf105 rfl rfl (Or.inl ⟨by decide, (zk1 fk_zMc_164)⟩) ⟨by decide, by decide, Nat.le_of_ble_eq_true rfl, Nat.le_of_ble_eq_true rfl⟩ (cc1 (X := X) (l := l)) ?_
  rintro r M1 ⟨rfl, M1k164, M1v164_4, M1k325, M1rM3, M1v164_9, M1v164_1, M1k165, M1rM4, M1k6, M1v6_6, -⟩
  show zGo X l 6 0 0 204 11 [(0, .ref 6), (1, .int a), (2, .int b)] [.ref 164] M1 _
  refine zs_iload_n (pc := 11) t204_11 rfl ?_
  refine zs_invV (pc := 12) (k := 164) (as' := [.int a]) (st := []) t204_12 mf163 rfl rfl (Or.inl ⟨by decide, (zk1 M1k164)⟩) ⟨by decide, by decide, Nat.le_of_ble_eq_true rfl, Nat.le_of_ble_eq_true rfl⟩ (zs_in (by decide) mf163 (Nat.le_of_ble_eq_true rfl) ?_) (fun _ _ q => q)
  show zGo X l 1 0 0 163 0 [(0, .ref 164), (1, .int a)] [] M1 _
  refine zs_iload_n (pc := 0) t163_0 rfl ?_
  refine zs_aload_n (pc := 1) t163_1 rfl ?_
  refine zs_get (pc := 2) t163_2 (by decide) (zk1 M1k164) M1v164_4 ?_
  by_cases w1 : 0 ≤ a.toInt
  · refine zs_icmp_geT (pc := 5) t163_5 rfl li0 (by omega) ?_
    refine zs_aconst_null (pc := 19) t163_19 ?_
    refine zs_aret0 (pc := 20) t163_20 (by rw [mr163]; rfl) ?_
    show zGo X l 6 0 0 204 15 [(0, .ref 6), (1, .int a), (2, .int b)] [.null] M1 _
    refine zs_astore_n0 (pc := 15) t204_15 (ls' := [(3, .null), (0, .ref 6), (1, .int a), (2, .int b)]) (zml mf204 (by decide)) rfl ?_
    refine zs_aload_n0 (pc := 16) t204_16 rfl ?_
    refine zs_ifnullT (pc := 17) t204_17 ?_
    refine zs_iconst (pc := 31) t204_31 (v := -1) (by decide) ?_
    exact zs_iret (pc := 32) t204_32 mr204 (by decide) rfl
  · refine zs_icmp_geF (pc := 5) t163_5 rfl li0 (by omega) ?_
    refine zs_aload_n (pc := 8) t163_8 rfl ?_
    refine zs_get (pc := 9) t163_9 (by decide) (zk1 M1k164) M1v164_1 ?_
    refine zs_iload_n (pc := 12) t163_12 rfl ?_
    refine zs_invV (pc := 13) (k := 165) (as' := [.int a]) (st := []) t163_13 mf126 rfl rfl (Or.inl ⟨by decide, (zk1 M1k165)⟩) ⟨by decide, by decide, Nat.le_of_ble_eq_true rfl, Nat.le_of_ble_eq_true rfl⟩ (zs_in (by decide) mf126 (Nat.le_of_ble_eq_true rfl) ?_) (fun _ _ q => q)
    show zGo X l 0 0 0 126 0 [(0, .ref 165), (1, .int a)] [] M1 _
    refine zs_iload_n (pc := 0) t126_0 rfl ?_
    refine zs_if_ltT (pc := 1) t126_1 rfl (by omega) ?_
    refine zs_aconst_null (pc := 21) t126_21 ?_
    refine zs_aret0 (pc := 22) t126_22 (by rw [mr126]; rfl) ?_
    show zGo X l 1 0 0 163 16 [(0, .ref 164), (1, .int a)] [.null] M1 _
    refine zs_goto (pc := 16) t163_16 ?_
    refine zs_aret0 (pc := 20) t163_20 (by rw [mr163]; rfl) ?_
    show zGo X l 6 0 0 204 15 [(0, .ref 6), (1, .int a), (2, .int b)] [.null] M1 _
    refine zs_astore_n0 (pc := 15) t204_15 (ls' := [(3, .null), (0, .ref 6), (1, .int a), (2, .int b)]) (zml mf204 (by decide)) rfl ?_
    refine zs_aload_n0 (pc := 16) t204_16 rfl ?_
    refine zs_ifnullT (pc := 17) t204_17 ?_
    refine zs_iconst (pc := 31) t204_31 (v := -1) (by decide) ?_
    exact zs_iret (pc := 32) t204_32 mr204 (by decide) rfl
theorem m32_0 {X : zX} {l : Launch} {a b : Int32} : zCall X l 7 0 0 339 [.ref 336, .int a, .int b] zMm (fun r _ => r = some (.int (-1 : Int32))) := by
  have ga := zrg a
  have gb := zrg b
  refine zs_in (by decide) mf339 (Nat.le_of_ble_eq_true rfl) ?_
  show zGo X l 7 0 0 339 0 [(0, .ref 336), (1, .int a), (2, .int b)] [] zMm _
  refine zs_aload_n (pc := 0) t339_0 rfl ?_
  refine zs_invV (pc := 1) (k := 336) (as' := []) (st := []) t339_1 mf268 rfl rfl (Or.inl ⟨by decide, (zk1 fk_zMm_336)⟩) ⟨by decide, by decide, Nat.le_of_ble_eq_true rfl, Nat.le_of_ble_eq_true rfl⟩ (cc2 (X := X) (l := l)) ?_
  rintro r M2 ⟨rfl, M2k336, M2v336_22, M2v336_39, M2v336_37, M2v336_0, M2k337, M2a337_1, M2v336_26, M2v336_34, M2a337_0, -⟩
  show zGo X l 7 0 0 339 4 [(0, .ref 336), (1, .int a), (2, .int b)] [] M2 _
  refine zs_aload_n (pc := 4) t339_4 rfl ?_
  refine zs_iload_n (pc := 5) t339_5 rfl ?_
  refine zs_invV (pc := 6) (k := 336) (as' := [.int a]) (st := []) t339_6 mf297 rfl rfl (Or.inl ⟨by decide, (zk1 M2k336)⟩) ⟨by decide, by decide, Nat.le_of_ble_eq_true rfl, Nat.le_of_ble_eq_true rfl⟩ (zs_in (by decide) mf297 (Nat.le_of_ble_eq_true rfl) ?_) (fun _ _ q => q)
  show zGo X l 1 0 0 297 0 [(0, .ref 336), (1, .int a)] [] M2 _
  refine zs_iload_n (pc := 0) t297_0 rfl ?_
  refine zs_i2l (pc := 1) t297_1 rfl ?_
  refine zs_lconst (pc := 2) t297_2 (v := 0) (by decide) ?_
  refine zs_aload_n (pc := 3) t297_3 rfl ?_
  refine zs_get (pc := 4) t297_4 (by decide) (zk1 M2k336) M2v336_22 ?_
  refine zs_iconst (pc := 7) t297_7 (v := 1) (by decide) ?_
  refine zs_isub (pc := 8) t297_8 (c := -1) (by decide) ?_
  refine zs_i2l (pc := 9) t297_9 (c := -1) (by decide) ?_
  refine zs_invS (pc := 10) (as := [.long a.toInt64, .long (0 : Int64), .long (-1 : Int64)]) (st := []) t297_10 (by decide) mf228 rfl rfl ⟨by decide, by decide, Nat.le_of_ble_eq_true rfl, Nat.le_of_ble_eq_true rfl⟩ (zs_in (by decide) mf228 (Nat.le_of_ble_eq_true rfl) ?_) (fun _ _ q => q)
  show zGo X l 0 0 0 228 0 [(0, .long a.toInt64), (2, .long (0 : Int64)), (4, .long (-1 : Int64))] [] M2 _
  refine zs_lload_n (pc := 0) t228_0 rfl ?_
  refine zs_lload_n (pc := 1) t228_1 rfl ?_
  by_cases w1 : a.toInt < 0
  · refine zs_lcmp (pc := 2) t228_2 (c := -1) (zlcL (zi2l rfl) ll0 (by omega)) ?_
    refine zs_if_ltT (pc := 3) t228_3 lin1 (by decide) ?_
    refine zs_iconst (pc := 17) t228_17 (v := 0) (by decide) ?_
    refine zs_iret (pc := 18) t228_18 mr228 (by decide) ?_
    show zGo X l 1 0 0 297 13 [(0, .ref 336), (1, .int a)] [.int (0 : Int32)] M2 _
    refine zs_iret (pc := 13) t297_13 mr297 (by decide) ?_
    show zGo X l 7 0 0 339 9 [(0, .ref 336), (1, .int a), (2, .int b)] [.int (0 : Int32)] M2 _
    refine zs_if_eqT (pc := 9) t339_9 li0 (by decide) ?_
    refine zs_iconst (pc := 20) t339_20 (v := -1) (by decide) ?_
    exact zs_iret (pc := 21) t339_21 mr339 (by decide) rfl
  by_cases w2 : a.toInt = 0
  · refine zs_lcmp (pc := 2) t228_2 (c := 0) (zlcE (zi2l rfl) ll0 (by omega)) ?_
    refine zs_if_ltF (pc := 3) t228_3 li0 (by decide) ?_
    refine zs_lload_n (pc := 6) t228_6 rfl ?_
    refine zs_lload (pc := 7) t228_7 rfl ?_
    refine zs_lcmp (pc := 9) t228_9 (c := 1) (zlcG (zi2l rfl) lln1 (by omega)) ?_
    refine zs_if_gtT (pc := 10) t228_10 li1 (by decide) ?_
    refine zs_iconst (pc := 17) t228_17 (v := 0) (by decide) ?_
    refine zs_iret (pc := 18) t228_18 mr228 (by decide) ?_
    show zGo X l 1 0 0 297 13 [(0, .ref 336), (1, .int a)] [.int (0 : Int32)] M2 _
    refine zs_iret (pc := 13) t297_13 mr297 (by decide) ?_
    show zGo X l 7 0 0 339 9 [(0, .ref 336), (1, .int a), (2, .int b)] [.int (0 : Int32)] M2 _
    refine zs_if_eqT (pc := 9) t339_9 li0 (by decide) ?_
    refine zs_iconst (pc := 20) t339_20 (v := -1) (by decide) ?_
    exact zs_iret (pc := 21) t339_21 mr339 (by decide) rfl
  refine zs_lcmp (pc := 2) t228_2 (c := 1) (zlcG (zi2l rfl) ll0 (by omega)) ?_
  refine zs_if_ltF (pc := 3) t228_3 li1 (by decide) ?_
  refine zs_lload_n (pc := 6) t228_6 rfl ?_
  refine zs_lload (pc := 7) t228_7 rfl ?_
  refine zs_lcmp (pc := 9) t228_9 (c := 1) (zlcG (zi2l rfl) lln1 (by omega)) ?_
  refine zs_if_gtT (pc := 10) t228_10 li1 (by decide) ?_
  refine zs_iconst (pc := 17) t228_17 (v := 0) (by decide) ?_
  refine zs_iret (pc := 18) t228_18 mr228 (by decide) ?_
  show zGo X l 1 0 0 297 13 [(0, .ref 336), (1, .int a)] [.int (0 : Int32)] M2 _
  refine zs_iret (pc := 13) t297_13 mr297 (by decide) ?_
  show zGo X l 7 0 0 339 9 [(0, .ref 336), (1, .int a), (2, .int b)] [.int (0 : Int32)] M2 _
  refine zs_if_eqT (pc := 9) t339_9 li0 (by decide) ?_
  refine zs_iconst (pc := 20) t339_20 (v := -1) (by decide) ?_
  exact zs_iret (pc := 21) t339_21 mr339 (by decide) rfl
theorem c33_0 {X : zX} {l : Launch} {a b : Int32} : zCall X l 6 0 0 205 [.ref 6, .int a, .int b] zMc (fun r _ => r = some (.int (-100000 : Int32))) := by
  have ga := zrg a
  have gb := zrg b
  refine zs_in (by decide) mf205 (Nat.le_of_ble_eq_true rfl) ?_
  show zGo X l 6 0 0 205 0 [(0, .ref 6), (1, .int a), (2, .int b)] [] zMc _
  refine zs_aload_n (pc := 0) t205_0 rfl ?_
  refine zs_get (pc := 1) t205_1 (by decide) (zk1 fk_zMc_6) fv_zMc_6_0 ?_
  refine zs_iload_n (pc := 4) t205_4 rfl ?_
  refine zs_invV (pc := 5) (k := 7) (as' := [.int a]) (st := []) t205_5 mf41 rfl rfl (Or.inl ⟨by decide, (zk1 fk_zMc_7)⟩) ⟨by decide, by decide, Nat.le_of_ble_eq_true rfl, Nat.le_of_ble_eq_true rfl⟩ (zs_in (by decide) mf41 (Nat.le_of_ble_eq_true rfl) ?_) (fun _ _ q => q)
  show zGo X l 0 0 0 41 0 [(0, .ref 7), (1, .int a)] [] zMc _
  refine zs_iload_n (pc := 0) t41_0 rfl ?_
  by_cases w1 : a.toInt < 0
  · refine zs_if_ltT (pc := 1) t41_1 rfl (by omega) ?_
    refine zs_iconst (pc := 16) t41_16 (v := 0) (by decide) ?_
    refine zs_iret (pc := 17) t41_17 mr41 (by decide) ?_
    show zGo X l 6 0 0 205 8 [(0, .ref 6), (1, .int a), (2, .int b)] [.int (0 : Int32)] zMc _
    refine zs_if_eqT (pc := 8) t205_8 li0 (by decide) ?_
    refine zs_ldc (pc := 20) t205_20 (v := -100000) rfl (by decide) ?_
    exact zs_iret (pc := 22) t205_22 mr205 (by decide) rfl
  · refine zs_if_ltF (pc := 1) t41_1 rfl (by omega) ?_
    refine zs_iload_n (pc := 4) t41_4 rfl ?_
    refine zs_aload_n (pc := 5) t41_5 rfl ?_
    refine zs_get (pc := 6) t41_6 (by decide) (zk1 fk_zMc_7) fv_zMc_7_0 ?_
    refine zs_icmp_geT (pc := 9) t41_9 rfl li0 (by omega) ?_
    refine zs_iconst (pc := 16) t41_16 (v := 0) (by decide) ?_
    refine zs_iret (pc := 17) t41_17 mr41 (by decide) ?_
    show zGo X l 6 0 0 205 8 [(0, .ref 6), (1, .int a), (2, .int b)] [.int (0 : Int32)] zMc _
    refine zs_if_eqT (pc := 8) t205_8 li0 (by decide) ?_
    refine zs_ldc (pc := 20) t205_20 (v := -100000) rfl (by decide) ?_
    exact zs_iret (pc := 22) t205_22 mr205 (by decide) rfl
theorem m33_0 {X : zX} {l : Launch} {a b : Int32} : zCall X l 7 0 0 340 [.ref 336, .int a, .int b] zMm (fun r _ => r = some (.int (-100000 : Int32))) := by
  have ga := zrg a
  have gb := zrg b
  refine zs_in (by decide) mf340 (Nat.le_of_ble_eq_true rfl) ?_
  show zGo X l 7 0 0 340 0 [(0, .ref 336), (1, .int a), (2, .int b)] [] zMm _
  refine zs_aload_n (pc := 0) t340_0 rfl ?_
  refine zs_iload_n (pc := 1) t340_1 rfl ?_
  refine zs_invV (pc := 2) (k := 336) (as' := [.int a]) (st := []) t340_2 mf306 rfl rfl (Or.inl ⟨by decide, (zk1 fk_zMm_336)⟩) ⟨by decide, by decide, Nat.le_of_ble_eq_true rfl, Nat.le_of_ble_eq_true rfl⟩ (zs_in (by decide) mf306 (Nat.le_of_ble_eq_true rfl) ?_) (fun _ _ q => q)
  show zGo X l 1 0 0 306 0 [(0, .ref 336), (1, .int a)] [] zMm _
  refine zs_iload_n (pc := 0) t306_0 rfl ?_
  refine zs_i2l (pc := 1) t306_1 rfl ?_
  refine zs_lconst (pc := 2) t306_2 (v := 0) (by decide) ?_
  refine zs_aload_n (pc := 3) t306_3 rfl ?_
  refine zs_get (pc := 4) t306_4 (by decide) (zk1 fk_zMm_336) fv_zMm_336_0 ?_
  refine zs_iconst (pc := 7) t306_7 (v := 0) (by decide) ?_
  refine zs_iald (pc := 8) t306_8 (j := 0) (by decide) (zk1 fk_zMm_337) (by decide) (zk2 fk_zMm_337 (by decide)) fa_zMm_337_0 ?_
  refine zs_iconst (pc := 9) t306_9 (v := 1) (by decide) ?_
  refine zs_isub (pc := 10) t306_10 (c := -1) (by decide) ?_
  refine zs_i2l (pc := 11) t306_11 (c := -1) (by decide) ?_
  refine zs_invS (pc := 12) (as := [.long a.toInt64, .long (0 : Int64), .long (-1 : Int64)]) (st := []) t306_12 (by decide) mf228 rfl rfl ⟨by decide, by decide, Nat.le_of_ble_eq_true rfl, Nat.le_of_ble_eq_true rfl⟩ (zs_in (by decide) mf228 (Nat.le_of_ble_eq_true rfl) ?_) (fun _ _ q => q)
  show zGo X l 0 0 0 228 0 [(0, .long a.toInt64), (2, .long (0 : Int64)), (4, .long (-1 : Int64))] [] zMm _
  refine zs_lload_n (pc := 0) t228_0 rfl ?_
  refine zs_lload_n (pc := 1) t228_1 rfl ?_
  by_cases w1 : a.toInt < 0
  · refine zs_lcmp (pc := 2) t228_2 (c := -1) (zlcL (zi2l rfl) ll0 (by omega)) ?_
    refine zs_if_ltT (pc := 3) t228_3 lin1 (by decide) ?_
    refine zs_iconst (pc := 17) t228_17 (v := 0) (by decide) ?_
    refine zs_iret (pc := 18) t228_18 mr228 (by decide) ?_
    show zGo X l 1 0 0 306 15 [(0, .ref 336), (1, .int a)] [.int (0 : Int32)] zMm _
    refine zs_iret (pc := 15) t306_15 mr306 (by decide) ?_
    show zGo X l 7 0 0 340 5 [(0, .ref 336), (1, .int a), (2, .int b)] [.int (0 : Int32)] zMm _
    refine zs_if_eqT (pc := 5) t340_5 li0 (by decide) ?_
    refine zs_ldc_w (pc := 18) t340_18 (v := -100000) rfl (by decide) ?_
    exact zs_iret (pc := 21) t340_21 mr340 (by decide) rfl
  by_cases w2 : a.toInt = 0
  · refine zs_lcmp (pc := 2) t228_2 (c := 0) (zlcE (zi2l rfl) ll0 (by omega)) ?_
    refine zs_if_ltF (pc := 3) t228_3 li0 (by decide) ?_
    refine zs_lload_n (pc := 6) t228_6 rfl ?_
    refine zs_lload (pc := 7) t228_7 rfl ?_
    refine zs_lcmp (pc := 9) t228_9 (c := 1) (zlcG (zi2l rfl) lln1 (by omega)) ?_
    refine zs_if_gtT (pc := 10) t228_10 li1 (by decide) ?_
    refine zs_iconst (pc := 17) t228_17 (v := 0) (by decide) ?_
    refine zs_iret (pc := 18) t228_18 mr228 (by decide) ?_
    show zGo X l 1 0 0 306 15 [(0, .ref 336), (1, .int a)] [.int (0 : Int32)] zMm _
    refine zs_iret (pc := 15) t306_15 mr306 (by decide) ?_
    show zGo X l 7 0 0 340 5 [(0, .ref 336), (1, .int a), (2, .int b)] [.int (0 : Int32)] zMm _
    refine zs_if_eqT (pc := 5) t340_5 li0 (by decide) ?_
    refine zs_ldc_w (pc := 18) t340_18 (v := -100000) rfl (by decide) ?_
    exact zs_iret (pc := 21) t340_21 mr340 (by decide) rfl
  refine zs_lcmp (pc := 2) t228_2 (c := 1) (zlcG (zi2l rfl) ll0 (by omega)) ?_
  refine zs_if_ltF (pc := 3) t228_3 li1 (by decide) ?_
  refine zs_lload_n (pc := 6) t228_6 rfl ?_
  refine zs_lload (pc := 7) t228_7 rfl ?_
  refine zs_lcmp (pc := 9) t228_9 (c := 1) (zlcG (zi2l rfl) lln1 (by omega)) ?_
  refine zs_if_gtT (pc := 10) t228_10 li1 (by decide) ?_
  refine zs_iconst (pc := 17) t228_17 (v := 0) (by decide) ?_
  refine zs_iret (pc := 18) t228_18 mr228 (by decide) ?_
  show zGo X l 1 0 0 306 15 [(0, .ref 336), (1, .int a)] [.int (0 : Int32)] zMm _
  refine zs_iret (pc := 15) t306_15 mr306 (by decide) ?_
  show zGo X l 7 0 0 340 5 [(0, .ref 336), (1, .int a), (2, .int b)] [.int (0 : Int32)] zMm _
  refine zs_if_eqT (pc := 5) t340_5 li0 (by decide) ?_
  refine zs_ldc_w (pc := 18) t340_18 (v := -100000) rfl (by decide) ?_
  exact zs_iret (pc := 21) t340_21 mr340 (by decide) rfl
theorem c34_0 {X : zX} {l : Launch} {a b : Int32} : zCall X l 4 0 0 206 [.ref 6, .int a, .int b] zMc (fun r _ => r = some (.int (-1 : Int32))) := by
  have ga := zrg a
  have gb := zrg b
  refine zs_in (by decide) mf206 (Nat.le_of_ble_eq_true rfl) ?_
  show zGo X l 4 0 0 206 0 [(0, .ref 6), (1, .int a), (2, .int b)] [] zMc _
  refine zs_aload_n (pc := 0) t206_0 rfl ?_
  refine zs_get (pc := 1) t206_1 (by decide) (zk1 fk_zMc_6) fv_zMc_6_0 ?_
  refine zs_iload_n (pc := 4) t206_4 rfl ?_
  refine zs_invV (pc := 5) (k := 7) (as' := [.int a]) (st := []) t206_5 mf41 rfl rfl (Or.inl ⟨by decide, (zk1 fk_zMc_7)⟩) ⟨by decide, by decide, Nat.le_of_ble_eq_true rfl, Nat.le_of_ble_eq_true rfl⟩ (zs_in (by decide) mf41 (Nat.le_of_ble_eq_true rfl) ?_) (fun _ _ q => q)
  show zGo X l 0 0 0 41 0 [(0, .ref 7), (1, .int a)] [] zMc _
  refine zs_iload_n (pc := 0) t41_0 rfl ?_
  by_cases w1 : a.toInt < 0
  · refine zs_if_ltT (pc := 1) t41_1 rfl (by omega) ?_
    refine zs_iconst (pc := 16) t41_16 (v := 0) (by decide) ?_
    refine zs_iret (pc := 17) t41_17 mr41 (by decide) ?_
    show zGo X l 4 0 0 206 8 [(0, .ref 6), (1, .int a), (2, .int b)] [.int (0 : Int32)] zMc _
    refine zs_if_eqT (pc := 8) t206_8 li0 (by decide) ?_
    refine zs_iconst (pc := 24) t206_24 (v := -1) (by decide) ?_
    exact zs_iret (pc := 25) t206_25 mr206 (by decide) rfl
  · refine zs_if_ltF (pc := 1) t41_1 rfl (by omega) ?_
    refine zs_iload_n (pc := 4) t41_4 rfl ?_
    refine zs_aload_n (pc := 5) t41_5 rfl ?_
    refine zs_get (pc := 6) t41_6 (by decide) (zk1 fk_zMc_7) fv_zMc_7_0 ?_
    refine zs_icmp_geT (pc := 9) t41_9 rfl li0 (by omega) ?_
    refine zs_iconst (pc := 16) t41_16 (v := 0) (by decide) ?_
    refine zs_iret (pc := 17) t41_17 mr41 (by decide) ?_
    show zGo X l 4 0 0 206 8 [(0, .ref 6), (1, .int a), (2, .int b)] [.int (0 : Int32)] zMc _
    refine zs_if_eqT (pc := 8) t206_8 li0 (by decide) ?_
    refine zs_iconst (pc := 24) t206_24 (v := -1) (by decide) ?_
    exact zs_iret (pc := 25) t206_25 mr206 (by decide) rfl
theorem m34_0 {X : zX} {l : Launch} {a b : Int32} : zCall X l 2 0 0 335 [.ref 336, .int a, .int b] zMm (fun r _ => r = some (.int (-1 : Int32))) := by
  have ga := zrg a
  have gb := zrg b
  refine zs_in (by decide) mf335 (Nat.le_of_ble_eq_true rfl) ?_
  show zGo X l 2 0 0 335 0 [(0, .ref 336), (1, .int a), (2, .int b)] [] zMm _
  refine zs_aload_n (pc := 0) t335_0 rfl ?_
  refine zs_iload_n (pc := 1) t335_1 rfl ?_
  refine zs_invV (pc := 2) (k := 336) (as' := [.int a]) (st := []) t335_2 mf306 rfl rfl (Or.inl ⟨by decide, (zk1 fk_zMm_336)⟩) ⟨by decide, by decide, Nat.le_of_ble_eq_true rfl, Nat.le_of_ble_eq_true rfl⟩ (zs_in (by decide) mf306 (Nat.le_of_ble_eq_true rfl) ?_) (fun _ _ q => q)
  show zGo X l 1 0 0 306 0 [(0, .ref 336), (1, .int a)] [] zMm _
  refine zs_iload_n (pc := 0) t306_0 rfl ?_
  refine zs_i2l (pc := 1) t306_1 rfl ?_
  refine zs_lconst (pc := 2) t306_2 (v := 0) (by decide) ?_
  refine zs_aload_n (pc := 3) t306_3 rfl ?_
  refine zs_get (pc := 4) t306_4 (by decide) (zk1 fk_zMm_336) fv_zMm_336_0 ?_
  refine zs_iconst (pc := 7) t306_7 (v := 0) (by decide) ?_
  refine zs_iald (pc := 8) t306_8 (j := 0) (by decide) (zk1 fk_zMm_337) (by decide) (zk2 fk_zMm_337 (by decide)) fa_zMm_337_0 ?_
  refine zs_iconst (pc := 9) t306_9 (v := 1) (by decide) ?_
  refine zs_isub (pc := 10) t306_10 (c := -1) (by decide) ?_
  refine zs_i2l (pc := 11) t306_11 (c := -1) (by decide) ?_
  refine zs_invS (pc := 12) (as := [.long a.toInt64, .long (0 : Int64), .long (-1 : Int64)]) (st := []) t306_12 (by decide) mf228 rfl rfl ⟨by decide, by decide, Nat.le_of_ble_eq_true rfl, Nat.le_of_ble_eq_true rfl⟩ (zs_in (by decide) mf228 (Nat.le_of_ble_eq_true rfl) ?_) (fun _ _ q => q)
  show zGo X l 0 0 0 228 0 [(0, .long a.toInt64), (2, .long (0 : Int64)), (4, .long (-1 : Int64))] [] zMm _
  refine zs_lload_n (pc := 0) t228_0 rfl ?_
  refine zs_lload_n (pc := 1) t228_1 rfl ?_
  by_cases w1 : a.toInt < 0
  · refine zs_lcmp (pc := 2) t228_2 (c := -1) (zlcL (zi2l rfl) ll0 (by omega)) ?_
    refine zs_if_ltT (pc := 3) t228_3 lin1 (by decide) ?_
    refine zs_iconst (pc := 17) t228_17 (v := 0) (by decide) ?_
    refine zs_iret (pc := 18) t228_18 mr228 (by decide) ?_
    show zGo X l 1 0 0 306 15 [(0, .ref 336), (1, .int a)] [.int (0 : Int32)] zMm _
    refine zs_iret (pc := 15) t306_15 mr306 (by decide) ?_
    show zGo X l 2 0 0 335 5 [(0, .ref 336), (1, .int a), (2, .int b)] [.int (0 : Int32)] zMm _
    refine zs_if_eqT (pc := 5) t335_5 li0 (by decide) ?_
    refine zs_iconst (pc := 22) t335_22 (v := -1) (by decide) ?_
    exact zs_iret (pc := 23) t335_23 mr335 (by decide) rfl
  by_cases w2 : a.toInt = 0
  · refine zs_lcmp (pc := 2) t228_2 (c := 0) (zlcE (zi2l rfl) ll0 (by omega)) ?_
    refine zs_if_ltF (pc := 3) t228_3 li0 (by decide) ?_
    refine zs_lload_n (pc := 6) t228_6 rfl ?_
    refine zs_lload (pc := 7) t228_7 rfl ?_
    refine zs_lcmp (pc := 9) t228_9 (c := 1) (zlcG (zi2l rfl) lln1 (by omega)) ?_
    refine zs_if_gtT (pc := 10) t228_10 li1 (by decide) ?_
    refine zs_iconst (pc := 17) t228_17 (v := 0) (by decide) ?_
    refine zs_iret (pc := 18) t228_18 mr228 (by decide) ?_
    show zGo X l 1 0 0 306 15 [(0, .ref 336), (1, .int a)] [.int (0 : Int32)] zMm _
    refine zs_iret (pc := 15) t306_15 mr306 (by decide) ?_
    show zGo X l 2 0 0 335 5 [(0, .ref 336), (1, .int a), (2, .int b)] [.int (0 : Int32)] zMm _
    refine zs_if_eqT (pc := 5) t335_5 li0 (by decide) ?_
    refine zs_iconst (pc := 22) t335_22 (v := -1) (by decide) ?_
    exact zs_iret (pc := 23) t335_23 mr335 (by decide) rfl
  refine zs_lcmp (pc := 2) t228_2 (c := 1) (zlcG (zi2l rfl) ll0 (by omega)) ?_
  refine zs_if_ltF (pc := 3) t228_3 li1 (by decide) ?_
  refine zs_lload_n (pc := 6) t228_6 rfl ?_
  refine zs_lload (pc := 7) t228_7 rfl ?_
  refine zs_lcmp (pc := 9) t228_9 (c := 1) (zlcG (zi2l rfl) lln1 (by omega)) ?_
  refine zs_if_gtT (pc := 10) t228_10 li1 (by decide) ?_
  refine zs_iconst (pc := 17) t228_17 (v := 0) (by decide) ?_
  refine zs_iret (pc := 18) t228_18 mr228 (by decide) ?_
  show zGo X l 1 0 0 306 15 [(0, .ref 336), (1, .int a)] [.int (0 : Int32)] zMm _
  refine zs_iret (pc := 15) t306_15 mr306 (by decide) ?_
  show zGo X l 2 0 0 335 5 [(0, .ref 336), (1, .int a), (2, .int b)] [.int (0 : Int32)] zMm _
  refine zs_if_eqT (pc := 5) t335_5 li0 (by decide) ?_
  refine zs_iconst (pc := 22) t335_22 (v := -1) (by decide) ?_
  exact zs_iret (pc := 23) t335_23 mr335 (by decide) rfl
theorem c35_0 {X : zX} {l : Launch} {a b : Int32} (la : (-2147483648) ≤ a.toInt) (ua : a.toInt ≤ (-1)) : zCall X l 6 0 0 207 [.ref 6, .int a, .int b] zMc (fun r _ => r = some (.int (-100000 : Int32))) := by
  have ga := zrg a
  have gb := zrg b
  refine zs_in (by decide) mf207 (Nat.le_of_ble_eq_true rfl) ?_
  show zGo X l 6 0 0 207 0 [(0, .ref 6), (1, .int a), (2, .int b)] [] zMc _
  refine zs_iload_n (pc := 0) t207_0 rfl ?_
  refine zs_iconst (pc := 1) t207_1 (v := 0) (by decide) ?_
  refine zs_bipush (pc := 2) t207_2 (v := 19) (by decide) ?_
  refine zs_invS (pc := 4) (as := [.int a, .int (0 : Int32), .int (19 : Int32)]) (st := []) t207_4 (by decide) mf39 rfl rfl ⟨by decide, by decide, Nat.le_of_ble_eq_true rfl, Nat.le_of_ble_eq_true rfl⟩ (zs_in (by decide) mf39 (Nat.le_of_ble_eq_true rfl) ?_) (fun _ _ q => q)
  show zGo X l 0 0 0 39 0 [(0, .int a), (1, .int (0 : Int32)), (2, .int (19 : Int32))] [] zMc _
  refine zs_iload_n (pc := 0) t39_0 rfl ?_
  refine zs_iload_n (pc := 1) t39_1 rfl ?_
  refine zs_icmp_ltT (pc := 2) t39_2 rfl li0 (by omega) ?_
  refine zs_iconst (pc := 14) t39_14 (v := 0) (by decide) ?_
  refine zs_iret (pc := 15) t39_15 mr39 (by decide) ?_
  show zGo X l 6 0 0 207 7 [(0, .ref 6), (1, .int a), (2, .int b)] [.int (0 : Int32)] zMc _
  refine zs_if_eqT (pc := 7) t207_7 li0 (by decide) ?_
  refine zs_ldc (pc := 19) t207_19 (v := -100000) rfl (by decide) ?_
  exact zs_iret (pc := 21) t207_21 mr207 (by decide) rfl
theorem m35_0 {X : zX} {l : Launch} {a b : Int32} (la : (-2147483648) ≤ a.toInt) (ua : a.toInt ≤ (-1)) : zCall X l 7 0 0 302 [.ref 336, .int a, .int b] zMm (fun r _ => r = some (.int (-100000 : Int32))) := by
  have ga := zrg a
  have gb := zrg b
  refine zs_in (by decide) mf302 (Nat.le_of_ble_eq_true rfl) ?_
  show zGo X l 7 0 0 302 0 [(0, .ref 336), (1, .int a), (2, .int b)] [] zMm _
  refine zs_aload_n (pc := 0) t302_0 rfl ?_
  refine zs_invV (pc := 1) (k := 336) (as' := []) (st := []) t302_1 mf268 rfl rfl (Or.inl ⟨by decide, (zk1 fk_zMm_336)⟩) ⟨by decide, by decide, Nat.le_of_ble_eq_true rfl, Nat.le_of_ble_eq_true rfl⟩ (cc2 (X := X) (l := l)) ?_
  rintro r M2 ⟨rfl, M2k336, M2v336_22, M2v336_39, M2v336_37, M2v336_0, M2k337, M2a337_1, M2v336_26, M2v336_34, M2a337_0, -⟩
  show zGo X l 7 0 0 302 4 [(0, .ref 336), (1, .int a), (2, .int b)] [] M2 _
  refine zs_iload_n (pc := 4) t302_4 rfl ?_
  refine zs_i2l (pc := 5) t302_5 rfl ?_
  refine zs_lconst (pc := 6) t302_6 (v := 0) (by decide) ?_
  refine zs_aload_n (pc := 7) t302_7 rfl ?_
  refine zs_get (pc := 8) t302_8 (by decide) (zk1 M2k336) M2v336_39 ?_
  refine zs_bipush (pc := 11) t302_11 (v := 20) (by decide) ?_
  refine zs_invS (pc := 13) (as := [.int (0 : Int32), .int (20 : Int32)]) (st := [.long (0 : Int64), .long a.toInt64]) t302_13 (by decide) mf303 rfl rfl ⟨by decide, by decide, Nat.le_of_ble_eq_true rfl, Nat.le_of_ble_eq_true rfl⟩ (zs_in (by decide) mf303 (Nat.le_of_ble_eq_true rfl) ?_) (fun _ _ q => q)
  show zGo X l 0 0 0 303 0 [(0, .int (0 : Int32)), (1, .int (20 : Int32))] [] M2 _
  refine zs_iload_n (pc := 0) t303_0 rfl ?_
  refine zs_iload_n (pc := 1) t303_1 rfl ?_
  refine zs_icmp_geF (pc := 2) t303_2 li0 li20 (by decide) ?_
  refine zs_iload_n (pc := 5) t303_5 rfl ?_
  refine zs_goto (pc := 6) t303_6 ?_
  refine zs_iret (pc := 10) t303_10 mr303 (by decide) ?_
  show zGo X l 7 0 0 302 16 [(0, .ref 336), (1, .int a), (2, .int b)] [.int (0 : Int32), .long (0 : Int64), .long a.toInt64] M2 _
  refine zs_iconst (pc := 16) t302_16 (v := 1) (by decide) ?_
  refine zs_isub (pc := 17) t302_17 (c := -1) (by decide) ?_
  refine zs_i2l (pc := 18) t302_18 (c := -1) (by decide) ?_
  refine zs_invS (pc := 19) (as := [.long a.toInt64, .long (0 : Int64), .long (-1 : Int64)]) (st := []) t302_19 (by decide) mf228 rfl rfl ⟨by decide, by decide, Nat.le_of_ble_eq_true rfl, Nat.le_of_ble_eq_true rfl⟩ (zs_in (by decide) mf228 (Nat.le_of_ble_eq_true rfl) ?_) (fun _ _ q => q)
  show zGo X l 0 0 0 228 0 [(0, .long a.toInt64), (2, .long (0 : Int64)), (4, .long (-1 : Int64))] [] M2 _
  refine zs_lload_n (pc := 0) t228_0 rfl ?_
  refine zs_lload_n (pc := 1) t228_1 rfl ?_
  refine zs_lcmp (pc := 2) t228_2 (c := -1) (zlcL (zi2l rfl) ll0 (by omega)) ?_
  refine zs_if_ltT (pc := 3) t228_3 lin1 (by decide) ?_
  refine zs_iconst (pc := 17) t228_17 (v := 0) (by decide) ?_
  refine zs_iret (pc := 18) t228_18 mr228 (by decide) ?_
  show zGo X l 7 0 0 302 22 [(0, .ref 336), (1, .int a), (2, .int b)] [.int (0 : Int32)] M2 _
  refine zs_if_eqT (pc := 22) t302_22 li0 (by decide) ?_
  refine zs_ldc_w (pc := 50) t302_50 (v := -100000) rfl (by decide) ?_
  exact zs_iret (pc := 53) t302_53 mr302 (by decide) rfl
theorem c35_1 {X : zX} {l : Launch} {a b : Int32} (la : 20 ≤ a.toInt) (ua : a.toInt ≤ 2147483647) : zCall X l 6 0 0 207 [.ref 6, .int a, .int b] zMc (fun r _ => r = some (.int (-100000 : Int32))) := by
  have ga := zrg a
  have gb := zrg b
  refine zs_in (by decide) mf207 (Nat.le_of_ble_eq_true rfl) ?_
  show zGo X l 6 0 0 207 0 [(0, .ref 6), (1, .int a), (2, .int b)] [] zMc _
  refine zs_iload_n (pc := 0) t207_0 rfl ?_
  refine zs_iconst (pc := 1) t207_1 (v := 0) (by decide) ?_
  refine zs_bipush (pc := 2) t207_2 (v := 19) (by decide) ?_
  refine zs_invS (pc := 4) (as := [.int a, .int (0 : Int32), .int (19 : Int32)]) (st := []) t207_4 (by decide) mf39 rfl rfl ⟨by decide, by decide, Nat.le_of_ble_eq_true rfl, Nat.le_of_ble_eq_true rfl⟩ (zs_in (by decide) mf39 (Nat.le_of_ble_eq_true rfl) ?_) (fun _ _ q => q)
  show zGo X l 0 0 0 39 0 [(0, .int a), (1, .int (0 : Int32)), (2, .int (19 : Int32))] [] zMc _
  refine zs_iload_n (pc := 0) t39_0 rfl ?_
  refine zs_iload_n (pc := 1) t39_1 rfl ?_
  refine zs_icmp_ltF (pc := 2) t39_2 rfl li0 (by omega) ?_
  refine zs_iload_n (pc := 5) t39_5 rfl ?_
  refine zs_iload_n (pc := 6) t39_6 rfl ?_
  refine zs_icmp_gtT (pc := 7) t39_7 rfl li19 (by omega) ?_
  refine zs_iconst (pc := 14) t39_14 (v := 0) (by decide) ?_
  refine zs_iret (pc := 15) t39_15 mr39 (by decide) ?_
  show zGo X l 6 0 0 207 7 [(0, .ref 6), (1, .int a), (2, .int b)] [.int (0 : Int32)] zMc _
  refine zs_if_eqT (pc := 7) t207_7 li0 (by decide) ?_
  refine zs_ldc (pc := 19) t207_19 (v := -100000) rfl (by decide) ?_
  exact zs_iret (pc := 21) t207_21 mr207 (by decide) rfl
theorem m35_1 {X : zX} {l : Launch} {a b : Int32} (la : 20 ≤ a.toInt) (ua : a.toInt ≤ 2147483647) : zCall X l 7 0 0 302 [.ref 336, .int a, .int b] zMm (fun r _ => r = some (.int (-100000 : Int32))) := by
  have ga := zrg a
  have gb := zrg b
  refine zs_in (by decide) mf302 (Nat.le_of_ble_eq_true rfl) ?_
  show zGo X l 7 0 0 302 0 [(0, .ref 336), (1, .int a), (2, .int b)] [] zMm _
  refine zs_aload_n (pc := 0) t302_0 rfl ?_
  refine zs_invV (pc := 1) (k := 336) (as' := []) (st := []) t302_1 mf268 rfl rfl (Or.inl ⟨by decide, (zk1 fk_zMm_336)⟩) ⟨by decide, by decide, Nat.le_of_ble_eq_true rfl, Nat.le_of_ble_eq_true rfl⟩ (cc2 (X := X) (l := l)) ?_
  rintro r M2 ⟨rfl, M2k336, M2v336_22, M2v336_39, M2v336_37, M2v336_0, M2k337, M2a337_1, M2v336_26, M2v336_34, M2a337_0, -⟩
  show zGo X l 7 0 0 302 4 [(0, .ref 336), (1, .int a), (2, .int b)] [] M2 _
  refine zs_iload_n (pc := 4) t302_4 rfl ?_
  refine zs_i2l (pc := 5) t302_5 rfl ?_
  refine zs_lconst (pc := 6) t302_6 (v := 0) (by decide) ?_
  refine zs_aload_n (pc := 7) t302_7 rfl ?_
  refine zs_get (pc := 8) t302_8 (by decide) (zk1 M2k336) M2v336_39 ?_
  refine zs_bipush (pc := 11) t302_11 (v := 20) (by decide) ?_
  refine zs_invS (pc := 13) (as := [.int (0 : Int32), .int (20 : Int32)]) (st := [.long (0 : Int64), .long a.toInt64]) t302_13 (by decide) mf303 rfl rfl ⟨by decide, by decide, Nat.le_of_ble_eq_true rfl, Nat.le_of_ble_eq_true rfl⟩ (zs_in (by decide) mf303 (Nat.le_of_ble_eq_true rfl) ?_) (fun _ _ q => q)
  show zGo X l 0 0 0 303 0 [(0, .int (0 : Int32)), (1, .int (20 : Int32))] [] M2 _
  refine zs_iload_n (pc := 0) t303_0 rfl ?_
  refine zs_iload_n (pc := 1) t303_1 rfl ?_
  refine zs_icmp_geF (pc := 2) t303_2 li0 li20 (by decide) ?_
  refine zs_iload_n (pc := 5) t303_5 rfl ?_
  refine zs_goto (pc := 6) t303_6 ?_
  refine zs_iret (pc := 10) t303_10 mr303 (by decide) ?_
  show zGo X l 7 0 0 302 16 [(0, .ref 336), (1, .int a), (2, .int b)] [.int (0 : Int32), .long (0 : Int64), .long a.toInt64] M2 _
  refine zs_iconst (pc := 16) t302_16 (v := 1) (by decide) ?_
  refine zs_isub (pc := 17) t302_17 (c := -1) (by decide) ?_
  refine zs_i2l (pc := 18) t302_18 (c := -1) (by decide) ?_
  refine zs_invS (pc := 19) (as := [.long a.toInt64, .long (0 : Int64), .long (-1 : Int64)]) (st := []) t302_19 (by decide) mf228 rfl rfl ⟨by decide, by decide, Nat.le_of_ble_eq_true rfl, Nat.le_of_ble_eq_true rfl⟩ (zs_in (by decide) mf228 (Nat.le_of_ble_eq_true rfl) ?_) (fun _ _ q => q)
  show zGo X l 0 0 0 228 0 [(0, .long a.toInt64), (2, .long (0 : Int64)), (4, .long (-1 : Int64))] [] M2 _
  refine zs_lload_n (pc := 0) t228_0 rfl ?_
  refine zs_lload_n (pc := 1) t228_1 rfl ?_
  refine zs_lcmp (pc := 2) t228_2 (c := 1) (zlcG (zi2l rfl) ll0 (by omega)) ?_
  refine zs_if_ltF (pc := 3) t228_3 li1 (by decide) ?_
  refine zs_lload_n (pc := 6) t228_6 rfl ?_
  refine zs_lload (pc := 7) t228_7 rfl ?_
  refine zs_lcmp (pc := 9) t228_9 (c := 1) (zlcG (zi2l rfl) lln1 (by omega)) ?_
  refine zs_if_gtT (pc := 10) t228_10 li1 (by decide) ?_
  refine zs_iconst (pc := 17) t228_17 (v := 0) (by decide) ?_
  refine zs_iret (pc := 18) t228_18 mr228 (by decide) ?_
  show zGo X l 7 0 0 302 22 [(0, .ref 336), (1, .int a), (2, .int b)] [.int (0 : Int32)] M2 _
  refine zs_if_eqT (pc := 22) t302_22 li0 (by decide) ?_
  refine zs_ldc_w (pc := 50) t302_50 (v := -100000) rfl (by decide) ?_
  exact zs_iret (pc := 53) t302_53 mr302 (by decide) rfl
theorem c35_2 {X : zX} {l : Launch} {a b : Int32} (la : 0 ≤ a.toInt) (ua : a.toInt ≤ 19) (lb : (-2147483648) ≤ b.toInt) (ub : b.toInt ≤ (-1)) : zCall X l 6 0 0 207 [.ref 6, .int a, .int b] zMc (fun r _ => r = some (.int (-100000 : Int32))) := by
  have ga := zrg a
  have gb := zrg b
  refine zs_in (by decide) mf207 (Nat.le_of_ble_eq_true rfl) ?_
  show zGo X l 6 0 0 207 0 [(0, .ref 6), (1, .int a), (2, .int b)] [] zMc _
  refine zs_iload_n (pc := 0) t207_0 rfl ?_
  refine zs_iconst (pc := 1) t207_1 (v := 0) (by decide) ?_
  refine zs_bipush (pc := 2) t207_2 (v := 19) (by decide) ?_
  refine zs_invS (pc := 4) (as := [.int a, .int (0 : Int32), .int (19 : Int32)]) (st := []) t207_4 (by decide) mf39 rfl rfl ⟨by decide, by decide, Nat.le_of_ble_eq_true rfl, Nat.le_of_ble_eq_true rfl⟩ (zs_in (by decide) mf39 (Nat.le_of_ble_eq_true rfl) ?_) (fun _ _ q => q)
  show zGo X l 0 0 0 39 0 [(0, .int a), (1, .int (0 : Int32)), (2, .int (19 : Int32))] [] zMc _
  refine zs_iload_n (pc := 0) t39_0 rfl ?_
  refine zs_iload_n (pc := 1) t39_1 rfl ?_
  refine zs_icmp_ltF (pc := 2) t39_2 rfl li0 (by omega) ?_
  refine zs_iload_n (pc := 5) t39_5 rfl ?_
  refine zs_iload_n (pc := 6) t39_6 rfl ?_
  refine zs_icmp_gtF (pc := 7) t39_7 rfl li19 (by omega) ?_
  refine zs_iconst (pc := 10) t39_10 (v := 1) (by decide) ?_
  refine zs_goto (pc := 11) t39_11 ?_
  refine zs_iret (pc := 15) t39_15 mr39 (by decide) ?_
  show zGo X l 6 0 0 207 7 [(0, .ref 6), (1, .int a), (2, .int b)] [.int (1 : Int32)] zMc _
  refine zs_if_eqF (pc := 7) t207_7 li1 (by decide) ?_
  refine zs_iload_n (pc := 10) t207_10 rfl ?_
  refine zs_iconst (pc := 11) t207_11 (v := 0) (by decide) ?_
  refine zs_iconst (pc := 12) t207_12 (v := 3) (by decide) ?_
  refine zs_invS (pc := 13) (as := [.int b, .int (0 : Int32), .int (3 : Int32)]) (st := []) t207_13 (by decide) mf39 rfl rfl ⟨by decide, by decide, Nat.le_of_ble_eq_true rfl, Nat.le_of_ble_eq_true rfl⟩ (zs_in (by decide) mf39 (Nat.le_of_ble_eq_true rfl) ?_) (fun _ _ q => q)
  show zGo X l 0 0 0 39 0 [(0, .int b), (1, .int (0 : Int32)), (2, .int (3 : Int32))] [] zMc _
  refine zs_iload_n (pc := 0) t39_0 rfl ?_
  refine zs_iload_n (pc := 1) t39_1 rfl ?_
  refine zs_icmp_ltT (pc := 2) t39_2 rfl li0 (by omega) ?_
  refine zs_iconst (pc := 14) t39_14 (v := 0) (by decide) ?_
  refine zs_iret (pc := 15) t39_15 mr39 (by decide) ?_
  show zGo X l 6 0 0 207 16 [(0, .ref 6), (1, .int a), (2, .int b)] [.int (0 : Int32)] zMc _
  refine zs_if_neF (pc := 16) t207_16 li0 (by decide) ?_
  refine zs_ldc (pc := 19) t207_19 (v := -100000) rfl (by decide) ?_
  exact zs_iret (pc := 21) t207_21 mr207 (by decide) rfl
theorem m35_2 {X : zX} {l : Launch} {a b : Int32} (la : 0 ≤ a.toInt) (ua : a.toInt ≤ 19) (lb : (-2147483648) ≤ b.toInt) (ub : b.toInt ≤ (-1)) : zCall X l 7 0 0 302 [.ref 336, .int a, .int b] zMm (fun r _ => r = some (.int (-100000 : Int32))) := by
  have ga := zrg a
  have gb := zrg b
  refine zs_in (by decide) mf302 (Nat.le_of_ble_eq_true rfl) ?_
  show zGo X l 7 0 0 302 0 [(0, .ref 336), (1, .int a), (2, .int b)] [] zMm _
  refine zs_aload_n (pc := 0) t302_0 rfl ?_
  refine zs_invV (pc := 1) (k := 336) (as' := []) (st := []) t302_1 mf268 rfl rfl (Or.inl ⟨by decide, (zk1 fk_zMm_336)⟩) ⟨by decide, by decide, Nat.le_of_ble_eq_true rfl, Nat.le_of_ble_eq_true rfl⟩ (cc2 (X := X) (l := l)) ?_
  rintro r M2 ⟨rfl, M2k336, M2v336_22, M2v336_39, M2v336_37, M2v336_0, M2k337, M2a337_1, M2v336_26, M2v336_34, M2a337_0, -⟩
  show zGo X l 7 0 0 302 4 [(0, .ref 336), (1, .int a), (2, .int b)] [] M2 _
  refine zs_iload_n (pc := 4) t302_4 rfl ?_
  refine zs_i2l (pc := 5) t302_5 rfl ?_
  refine zs_lconst (pc := 6) t302_6 (v := 0) (by decide) ?_
  refine zs_aload_n (pc := 7) t302_7 rfl ?_
  refine zs_get (pc := 8) t302_8 (by decide) (zk1 M2k336) M2v336_39 ?_
  refine zs_bipush (pc := 11) t302_11 (v := 20) (by decide) ?_
  refine zs_invS (pc := 13) (as := [.int (0 : Int32), .int (20 : Int32)]) (st := [.long (0 : Int64), .long a.toInt64]) t302_13 (by decide) mf303 rfl rfl ⟨by decide, by decide, Nat.le_of_ble_eq_true rfl, Nat.le_of_ble_eq_true rfl⟩ (zs_in (by decide) mf303 (Nat.le_of_ble_eq_true rfl) ?_) (fun _ _ q => q)
  show zGo X l 0 0 0 303 0 [(0, .int (0 : Int32)), (1, .int (20 : Int32))] [] M2 _
  refine zs_iload_n (pc := 0) t303_0 rfl ?_
  refine zs_iload_n (pc := 1) t303_1 rfl ?_
  refine zs_icmp_geF (pc := 2) t303_2 li0 li20 (by decide) ?_
  refine zs_iload_n (pc := 5) t303_5 rfl ?_
  refine zs_goto (pc := 6) t303_6 ?_
  refine zs_iret (pc := 10) t303_10 mr303 (by decide) ?_
  show zGo X l 7 0 0 302 16 [(0, .ref 336), (1, .int a), (2, .int b)] [.int (0 : Int32), .long (0 : Int64), .long a.toInt64] M2 _
  refine zs_iconst (pc := 16) t302_16 (v := 1) (by decide) ?_
  refine zs_isub (pc := 17) t302_17 (c := -1) (by decide) ?_
  refine zs_i2l (pc := 18) t302_18 (c := -1) (by decide) ?_
  refine zs_invS (pc := 19) (as := [.long a.toInt64, .long (0 : Int64), .long (-1 : Int64)]) (st := []) t302_19 (by decide) mf228 rfl rfl ⟨by decide, by decide, Nat.le_of_ble_eq_true rfl, Nat.le_of_ble_eq_true rfl⟩ (zs_in (by decide) mf228 (Nat.le_of_ble_eq_true rfl) ?_) (fun _ _ q => q)
  show zGo X l 0 0 0 228 0 [(0, .long a.toInt64), (2, .long (0 : Int64)), (4, .long (-1 : Int64))] [] M2 _
  refine zs_lload_n (pc := 0) t228_0 rfl ?_
  refine zs_lload_n (pc := 1) t228_1 rfl ?_
  by_cases w1 : a.toInt = 0
  · refine zs_lcmp (pc := 2) t228_2 (c := 0) (zlcE (zi2l rfl) ll0 (by omega)) ?_
    refine zs_if_ltF (pc := 3) t228_3 li0 (by decide) ?_
    refine zs_lload_n (pc := 6) t228_6 rfl ?_
    refine zs_lload (pc := 7) t228_7 rfl ?_
    refine zs_lcmp (pc := 9) t228_9 (c := 1) (zlcG (zi2l rfl) lln1 (by omega)) ?_
    refine zs_if_gtT (pc := 10) t228_10 li1 (by decide) ?_
    refine zs_iconst (pc := 17) t228_17 (v := 0) (by decide) ?_
    refine zs_iret (pc := 18) t228_18 mr228 (by decide) ?_
    show zGo X l 7 0 0 302 22 [(0, .ref 336), (1, .int a), (2, .int b)] [.int (0 : Int32)] M2 _
    refine zs_if_eqT (pc := 22) t302_22 li0 (by decide) ?_
    refine zs_ldc_w (pc := 50) t302_50 (v := -100000) rfl (by decide) ?_
    exact zs_iret (pc := 53) t302_53 mr302 (by decide) rfl
  refine zs_lcmp (pc := 2) t228_2 (c := 1) (zlcG (zi2l rfl) ll0 (by omega)) ?_
  refine zs_if_ltF (pc := 3) t228_3 li1 (by decide) ?_
  refine zs_lload_n (pc := 6) t228_6 rfl ?_
  refine zs_lload (pc := 7) t228_7 rfl ?_
  refine zs_lcmp (pc := 9) t228_9 (c := 1) (zlcG (zi2l rfl) lln1 (by omega)) ?_
  refine zs_if_gtT (pc := 10) t228_10 li1 (by decide) ?_
  refine zs_iconst (pc := 17) t228_17 (v := 0) (by decide) ?_
  refine zs_iret (pc := 18) t228_18 mr228 (by decide) ?_
  show zGo X l 7 0 0 302 22 [(0, .ref 336), (1, .int a), (2, .int b)] [.int (0 : Int32)] M2 _
  refine zs_if_eqT (pc := 22) t302_22 li0 (by decide) ?_
  refine zs_ldc_w (pc := 50) t302_50 (v := -100000) rfl (by decide) ?_
  exact zs_iret (pc := 53) t302_53 mr302 (by decide) rfl
theorem c35_3 {X : zX} {l : Launch} {a b : Int32} (la : 0 ≤ a.toInt) (ua : a.toInt ≤ 19) (lb : 4 ≤ b.toInt) (ub : b.toInt ≤ 2147483647) : zCall X l 6 0 0 207 [.ref 6, .int a, .int b] zMc (fun r _ => r = some (.int (-100000 : Int32))) := by
  have ga := zrg a
  have gb := zrg b
  refine zs_in (by decide) mf207 (Nat.le_of_ble_eq_true rfl) ?_
  show zGo X l 6 0 0 207 0 [(0, .ref 6), (1, .int a), (2, .int b)] [] zMc _
  refine zs_iload_n (pc := 0) t207_0 rfl ?_
  refine zs_iconst (pc := 1) t207_1 (v := 0) (by decide) ?_
  refine zs_bipush (pc := 2) t207_2 (v := 19) (by decide) ?_
  refine zs_invS (pc := 4) (as := [.int a, .int (0 : Int32), .int (19 : Int32)]) (st := []) t207_4 (by decide) mf39 rfl rfl ⟨by decide, by decide, Nat.le_of_ble_eq_true rfl, Nat.le_of_ble_eq_true rfl⟩ (zs_in (by decide) mf39 (Nat.le_of_ble_eq_true rfl) ?_) (fun _ _ q => q)
  show zGo X l 0 0 0 39 0 [(0, .int a), (1, .int (0 : Int32)), (2, .int (19 : Int32))] [] zMc _
  refine zs_iload_n (pc := 0) t39_0 rfl ?_
  refine zs_iload_n (pc := 1) t39_1 rfl ?_
  refine zs_icmp_ltF (pc := 2) t39_2 rfl li0 (by omega) ?_
  refine zs_iload_n (pc := 5) t39_5 rfl ?_
  refine zs_iload_n (pc := 6) t39_6 rfl ?_
  refine zs_icmp_gtF (pc := 7) t39_7 rfl li19 (by omega) ?_
  refine zs_iconst (pc := 10) t39_10 (v := 1) (by decide) ?_
  refine zs_goto (pc := 11) t39_11 ?_
  refine zs_iret (pc := 15) t39_15 mr39 (by decide) ?_
  show zGo X l 6 0 0 207 7 [(0, .ref 6), (1, .int a), (2, .int b)] [.int (1 : Int32)] zMc _
  refine zs_if_eqF (pc := 7) t207_7 li1 (by decide) ?_
  refine zs_iload_n (pc := 10) t207_10 rfl ?_
  refine zs_iconst (pc := 11) t207_11 (v := 0) (by decide) ?_
  refine zs_iconst (pc := 12) t207_12 (v := 3) (by decide) ?_
  refine zs_invS (pc := 13) (as := [.int b, .int (0 : Int32), .int (3 : Int32)]) (st := []) t207_13 (by decide) mf39 rfl rfl ⟨by decide, by decide, Nat.le_of_ble_eq_true rfl, Nat.le_of_ble_eq_true rfl⟩ (zs_in (by decide) mf39 (Nat.le_of_ble_eq_true rfl) ?_) (fun _ _ q => q)
  show zGo X l 0 0 0 39 0 [(0, .int b), (1, .int (0 : Int32)), (2, .int (3 : Int32))] [] zMc _
  refine zs_iload_n (pc := 0) t39_0 rfl ?_
  refine zs_iload_n (pc := 1) t39_1 rfl ?_
  refine zs_icmp_ltF (pc := 2) t39_2 rfl li0 (by omega) ?_
  refine zs_iload_n (pc := 5) t39_5 rfl ?_
  refine zs_iload_n (pc := 6) t39_6 rfl ?_
  refine zs_icmp_gtT (pc := 7) t39_7 rfl li3 (by omega) ?_
  refine zs_iconst (pc := 14) t39_14 (v := 0) (by decide) ?_
  refine zs_iret (pc := 15) t39_15 mr39 (by decide) ?_
  show zGo X l 6 0 0 207 16 [(0, .ref 6), (1, .int a), (2, .int b)] [.int (0 : Int32)] zMc _
  refine zs_if_neF (pc := 16) t207_16 li0 (by decide) ?_
  refine zs_ldc (pc := 19) t207_19 (v := -100000) rfl (by decide) ?_
  exact zs_iret (pc := 21) t207_21 mr207 (by decide) rfl
theorem m35_3 {X : zX} {l : Launch} {a b : Int32} (la : 0 ≤ a.toInt) (ua : a.toInt ≤ 19) (lb : 4 ≤ b.toInt) (ub : b.toInt ≤ 2147483647) : zCall X l 7 0 0 302 [.ref 336, .int a, .int b] zMm (fun r _ => r = some (.int (-100000 : Int32))) := by
  have ga := zrg a
  have gb := zrg b
  refine zs_in (by decide) mf302 (Nat.le_of_ble_eq_true rfl) ?_
  show zGo X l 7 0 0 302 0 [(0, .ref 336), (1, .int a), (2, .int b)] [] zMm _
  refine zs_aload_n (pc := 0) t302_0 rfl ?_
  refine zs_invV (pc := 1) (k := 336) (as' := []) (st := []) t302_1 mf268 rfl rfl (Or.inl ⟨by decide, (zk1 fk_zMm_336)⟩) ⟨by decide, by decide, Nat.le_of_ble_eq_true rfl, Nat.le_of_ble_eq_true rfl⟩ (cc2 (X := X) (l := l)) ?_
  rintro r M2 ⟨rfl, M2k336, M2v336_22, M2v336_39, M2v336_37, M2v336_0, M2k337, M2a337_1, M2v336_26, M2v336_34, M2a337_0, -⟩
  show zGo X l 7 0 0 302 4 [(0, .ref 336), (1, .int a), (2, .int b)] [] M2 _
  refine zs_iload_n (pc := 4) t302_4 rfl ?_
  refine zs_i2l (pc := 5) t302_5 rfl ?_
  refine zs_lconst (pc := 6) t302_6 (v := 0) (by decide) ?_
  refine zs_aload_n (pc := 7) t302_7 rfl ?_
  refine zs_get (pc := 8) t302_8 (by decide) (zk1 M2k336) M2v336_39 ?_
  refine zs_bipush (pc := 11) t302_11 (v := 20) (by decide) ?_
  refine zs_invS (pc := 13) (as := [.int (0 : Int32), .int (20 : Int32)]) (st := [.long (0 : Int64), .long a.toInt64]) t302_13 (by decide) mf303 rfl rfl ⟨by decide, by decide, Nat.le_of_ble_eq_true rfl, Nat.le_of_ble_eq_true rfl⟩ (zs_in (by decide) mf303 (Nat.le_of_ble_eq_true rfl) ?_) (fun _ _ q => q)
  show zGo X l 0 0 0 303 0 [(0, .int (0 : Int32)), (1, .int (20 : Int32))] [] M2 _
  refine zs_iload_n (pc := 0) t303_0 rfl ?_
  refine zs_iload_n (pc := 1) t303_1 rfl ?_
  refine zs_icmp_geF (pc := 2) t303_2 li0 li20 (by decide) ?_
  refine zs_iload_n (pc := 5) t303_5 rfl ?_
  refine zs_goto (pc := 6) t303_6 ?_
  refine zs_iret (pc := 10) t303_10 mr303 (by decide) ?_
  show zGo X l 7 0 0 302 16 [(0, .ref 336), (1, .int a), (2, .int b)] [.int (0 : Int32), .long (0 : Int64), .long a.toInt64] M2 _
  refine zs_iconst (pc := 16) t302_16 (v := 1) (by decide) ?_
  refine zs_isub (pc := 17) t302_17 (c := -1) (by decide) ?_
  refine zs_i2l (pc := 18) t302_18 (c := -1) (by decide) ?_
  refine zs_invS (pc := 19) (as := [.long a.toInt64, .long (0 : Int64), .long (-1 : Int64)]) (st := []) t302_19 (by decide) mf228 rfl rfl ⟨by decide, by decide, Nat.le_of_ble_eq_true rfl, Nat.le_of_ble_eq_true rfl⟩ (zs_in (by decide) mf228 (Nat.le_of_ble_eq_true rfl) ?_) (fun _ _ q => q)
  show zGo X l 0 0 0 228 0 [(0, .long a.toInt64), (2, .long (0 : Int64)), (4, .long (-1 : Int64))] [] M2 _
  refine zs_lload_n (pc := 0) t228_0 rfl ?_
  refine zs_lload_n (pc := 1) t228_1 rfl ?_
  by_cases w1 : a.toInt = 0
  · refine zs_lcmp (pc := 2) t228_2 (c := 0) (zlcE (zi2l rfl) ll0 (by omega)) ?_
    refine zs_if_ltF (pc := 3) t228_3 li0 (by decide) ?_
    refine zs_lload_n (pc := 6) t228_6 rfl ?_
    refine zs_lload (pc := 7) t228_7 rfl ?_
    refine zs_lcmp (pc := 9) t228_9 (c := 1) (zlcG (zi2l rfl) lln1 (by omega)) ?_
    refine zs_if_gtT (pc := 10) t228_10 li1 (by decide) ?_
    refine zs_iconst (pc := 17) t228_17 (v := 0) (by decide) ?_
    refine zs_iret (pc := 18) t228_18 mr228 (by decide) ?_
    show zGo X l 7 0 0 302 22 [(0, .ref 336), (1, .int a), (2, .int b)] [.int (0 : Int32)] M2 _
    refine zs_if_eqT (pc := 22) t302_22 li0 (by decide) ?_
    refine zs_ldc_w (pc := 50) t302_50 (v := -100000) rfl (by decide) ?_
    exact zs_iret (pc := 53) t302_53 mr302 (by decide) rfl
  refine zs_lcmp (pc := 2) t228_2 (c := 1) (zlcG (zi2l rfl) ll0 (by omega)) ?_
  refine zs_if_ltF (pc := 3) t228_3 li1 (by decide) ?_
  refine zs_lload_n (pc := 6) t228_6 rfl ?_
  refine zs_lload (pc := 7) t228_7 rfl ?_
  refine zs_lcmp (pc := 9) t228_9 (c := 1) (zlcG (zi2l rfl) lln1 (by omega)) ?_
  refine zs_if_gtT (pc := 10) t228_10 li1 (by decide) ?_
  refine zs_iconst (pc := 17) t228_17 (v := 0) (by decide) ?_
  refine zs_iret (pc := 18) t228_18 mr228 (by decide) ?_
  show zGo X l 7 0 0 302 22 [(0, .ref 336), (1, .int a), (2, .int b)] [.int (0 : Int32)] M2 _
  refine zs_if_eqT (pc := 22) t302_22 li0 (by decide) ?_
  refine zs_ldc_w (pc := 50) t302_50 (v := -100000) rfl (by decide) ?_
  exact zs_iret (pc := 53) t302_53 mr302 (by decide) rfl
theorem c35_4 {X : zX} {l : Launch} {a b : Int32} (la : 0 ≤ a.toInt) (ua : a.toInt ≤ 19) (lb : 0 ≤ b.toInt) (ub : b.toInt ≤ 3) : zCall X l 6 0 0 207 [.ref 6, .int a, .int b] zMc (fun r _ => r = some (.int (-100000 : Int32))) := by
  have ga := zrg a
  have gb := zrg b
  refine zs_in (by decide) mf207 (Nat.le_of_ble_eq_true rfl) ?_
  show zGo X l 6 0 0 207 0 [(0, .ref 6), (1, .int a), (2, .int b)] [] zMc _
  refine zs_iload_n (pc := 0) t207_0 rfl ?_
  refine zs_iconst (pc := 1) t207_1 (v := 0) (by decide) ?_
  refine zs_bipush (pc := 2) t207_2 (v := 19) (by decide) ?_
  refine zs_invS (pc := 4) (as := [.int a, .int (0 : Int32), .int (19 : Int32)]) (st := []) t207_4 (by decide) mf39 rfl rfl ⟨by decide, by decide, Nat.le_of_ble_eq_true rfl, Nat.le_of_ble_eq_true rfl⟩ (zs_in (by decide) mf39 (Nat.le_of_ble_eq_true rfl) ?_) (fun _ _ q => q)
  show zGo X l 0 0 0 39 0 [(0, .int a), (1, .int (0 : Int32)), (2, .int (19 : Int32))] [] zMc _
  refine zs_iload_n (pc := 0) t39_0 rfl ?_
  refine zs_iload_n (pc := 1) t39_1 rfl ?_
  refine zs_icmp_ltF (pc := 2) t39_2 rfl li0 (by omega) ?_
  refine zs_iload_n (pc := 5) t39_5 rfl ?_
  refine zs_iload_n (pc := 6) t39_6 rfl ?_
  refine zs_icmp_gtF (pc := 7) t39_7 rfl li19 (by omega) ?_
  refine zs_iconst (pc := 10) t39_10 (v := 1) (by decide) ?_
  refine zs_goto (pc := 11) t39_11 ?_
  refine zs_iret (pc := 15) t39_15 mr39 (by decide) ?_
  show zGo X l 6 0 0 207 7 [(0, .ref 6), (1, .int a), (2, .int b)] [.int (1 : Int32)] zMc _
  refine zs_if_eqF (pc := 7) t207_7 li1 (by decide) ?_
  refine zs_iload_n (pc := 10) t207_10 rfl ?_
  refine zs_iconst (pc := 11) t207_11 (v := 0) (by decide) ?_
  refine zs_iconst (pc := 12) t207_12 (v := 3) (by decide) ?_
  refine zs_invS (pc := 13) (as := [.int b, .int (0 : Int32), .int (3 : Int32)]) (st := []) t207_13 (by decide) mf39 rfl rfl ⟨by decide, by decide, Nat.le_of_ble_eq_true rfl, Nat.le_of_ble_eq_true rfl⟩ (zs_in (by decide) mf39 (Nat.le_of_ble_eq_true rfl) ?_) (fun _ _ q => q)
  show zGo X l 0 0 0 39 0 [(0, .int b), (1, .int (0 : Int32)), (2, .int (3 : Int32))] [] zMc _
  refine zs_iload_n (pc := 0) t39_0 rfl ?_
  refine zs_iload_n (pc := 1) t39_1 rfl ?_
  refine zs_icmp_ltF (pc := 2) t39_2 rfl li0 (by omega) ?_
  refine zs_iload_n (pc := 5) t39_5 rfl ?_
  refine zs_iload_n (pc := 6) t39_6 rfl ?_
  refine zs_icmp_gtF (pc := 7) t39_7 rfl li3 (by omega) ?_
  refine zs_iconst (pc := 10) t39_10 (v := 1) (by decide) ?_
  refine zs_goto (pc := 11) t39_11 ?_
  refine zs_iret (pc := 15) t39_15 mr39 (by decide) ?_
  show zGo X l 6 0 0 207 16 [(0, .ref 6), (1, .int a), (2, .int b)] [.int (1 : Int32)] zMc _
  refine zs_if_neT (pc := 16) t207_16 li1 (by decide) ?_
  refine zs_aload_n (pc := 22) t207_22 rfl ?_
  refine zs_get (pc := 23) t207_23 (by decide) (zk1 fk_zMc_6) fv_zMc_6_7 ?_
  refine zs_aload_n (pc := 26) t207_26 rfl ?_
  refine zs_get (pc := 27) t207_27 (by decide) (zk1 fk_zMc_6) fv_zMc_6_0 ?_
  refine zs_aload_n (pc := 30) t207_30 rfl ?_
  refine zs_get (pc := 31) t207_31 (by decide) (zk1 fk_zMc_6) fv_zMc_6_6 ?_
  refine zs_aload_n (pc := 34) t207_34 rfl ?_
  refine zs_get (pc := 35) t207_35 (by decide) (zk1 fk_zMc_6) fv_zMc_6_0 ?_
  refine zs_invV (pc := 38) (k := 164) (as' := [.ref 7]) (st := [.ref 7, .ref 325]) t207_38 mf105 rfl rfl (Or.inl ⟨by decide, (zk1 fk_zMc_164)⟩) ⟨by decide, by decide, Nat.le_of_ble_eq_true rfl, Nat.le_of_ble_eq_true rfl⟩ (cc1 (X := X) (l := l)) ?_
  rintro r M1 ⟨rfl, M1k164, M1v164_4, M1k325, M1rM3, M1v164_9, M1v164_1, M1k165, M1rM4, M1k6, M1v6_6, -⟩
  show zGo X l 6 0 0 207 41 [(0, .ref 6), (1, .int a), (2, .int b)] [.ref 164, .ref 7, .ref 325] M1 _
  refine zs_invV (pc := 41) (k := 325) (as' := [.ref 7, .ref 164]) (st := []) t207_41 mf153 rfl rfl (Or.inl ⟨by decide, (zk1 M1k325)⟩) ⟨by decide, by decide, Nat.le_of_ble_eq_true rfl, Nat.le_of_ble_eq_true rfl⟩ (zs_run mf153 (by decide) M1rM3 (fun _ _ q => of_decide_eq_true q)) ?_
  rintro r M3 ⟨rfl, M3k325, M3v325_1, M3v325_2, M3k326, M3a326_8, M3a326_7, M3a326_6, M3a326_5, M3a326_4, M3a326_3, M3a326_2, M3a326_1, M3a326_0, -⟩
  show zGo X l 6 0 0 207 44 [(0, .ref 6), (1, .int a), (2, .int b)] [.ref 325] M3 _
  refine zs_iload_n (pc := 44) t207_44 rfl ?_
  refine zs_iload_n (pc := 45) t207_45 rfl ?_
  refine zs_invV (pc := 46) (k := 325) (as' := [.int a, .int b]) (st := []) t207_46 mf208 rfl rfl (Or.inl ⟨by decide, (zk1 M3k325)⟩) ⟨by decide, by decide, Nat.le_of_ble_eq_true rfl, Nat.le_of_ble_eq_true rfl⟩ (zs_in (by decide) mf208 (Nat.le_of_ble_eq_true rfl) ?_) (fun _ _ q => q)
  show zGo X l 1 0 0 208 0 [(0, .ref 325), (1, .int a), (2, .int b)] [] M3 _
  refine zs_iload_n (pc := 0) t208_0 rfl ?_
  refine zs_istore_n (pc := 1) t208_1 (ls' := [(3, .int a), (0, .ref 325), (1, .int a), (2, .int b)]) (zml mf208 (by decide)) rfl ?_
  refine zs_bipush (pc := 2) t208_2 (v := 8) (by decide) ?_
  refine zs_istore (pc := 4) t208_4 (ls' := [(4, .int (8 : Int32)), (3, .int a), (0, .ref 325), (1, .int a), (2, .int b)]) (zml mf208 (by decide)) rfl ?_
  refine zs_iload (pc := 6) t208_6 rfl ?_
  refine zs_if_ltF (pc := 8) t208_8 li8 (by decide) ?_
  refine zs_iload_n (pc := 11) t208_11 rfl ?_
  refine zs_if_ltF (pc := 12) t208_12 rfl (by omega) ?_
  refine zs_iload_n (pc := 15) t208_15 rfl ?_
  refine zs_aload_n (pc := 16) t208_16 rfl ?_
  refine zs_get (pc := 17) t208_17 (by decide) (zk1 M3k325) M3v325_2 ?_
  refine zs_iload (pc := 20) t208_20 rfl ?_
  refine zs_iald (pc := 22) t208_22 (j := 8) (by decide) (zk1 M3k326) (by decide) (zk2 M3k326 (by decide)) M3a326_8 ?_
  refine zs_icmp_geT (pc := 23) t208_23 rfl li0 (by omega) ?_
  refine zs_iload_n (pc := 41) t208_41 rfl ?_
  refine zs_aload_n (pc := 42) t208_42 rfl ?_
  refine zs_get (pc := 43) t208_43 (by decide) (zk1 M3k325) M3v325_2 ?_
  refine zs_iload (pc := 46) t208_46 rfl ?_
  refine zs_iald (pc := 48) t208_48 (j := 8) (by decide) (zk1 M3k326) (by decide) (zk2 M3k326 (by decide)) M3a326_8 ?_
  refine zs_isub (pc := 49) t208_49 (c := a) (zsub0 _) ?_
  refine zs_istore_n (pc := 50) t208_50 (ls' := [(3, .int a), (4, .int (8 : Int32)), (0, .ref 325), (1, .int a), (2, .int b)]) (zml mf208 (by decide)) rfl ?_
  refine zs_iinc (pc := 51) t208_51 (ls' := [(4, .int (7 : Int32)), (3, .int a), (0, .ref 325), (1, .int a), (2, .int b)]) (zml mf208 (by decide)) rfl (c := 7) (by decide) rfl ?_
  refine zs_goto (pc := 54) t208_54 ?_
  refine zs_iload (pc := 6) t208_6 rfl ?_
  refine zs_if_ltF (pc := 8) t208_8 li7 (by decide) ?_
  refine zs_iload_n (pc := 11) t208_11 rfl ?_
  refine zs_if_ltF (pc := 12) t208_12 rfl (by omega) ?_
  refine zs_iload_n (pc := 15) t208_15 rfl ?_
  refine zs_aload_n (pc := 16) t208_16 rfl ?_
  refine zs_get (pc := 17) t208_17 (by decide) (zk1 M3k325) M3v325_2 ?_
  refine zs_iload (pc := 20) t208_20 rfl ?_
  refine zs_iald (pc := 22) t208_22 (j := 7) (by decide) (zk1 M3k326) (by decide) (zk2 M3k326 (by decide)) M3a326_7 ?_
  refine zs_icmp_geT (pc := 23) t208_23 rfl li0 (by omega) ?_
  refine zs_iload_n (pc := 41) t208_41 rfl ?_
  refine zs_aload_n (pc := 42) t208_42 rfl ?_
  refine zs_get (pc := 43) t208_43 (by decide) (zk1 M3k325) M3v325_2 ?_
  refine zs_iload (pc := 46) t208_46 rfl ?_
  refine zs_iald (pc := 48) t208_48 (j := 7) (by decide) (zk1 M3k326) (by decide) (zk2 M3k326 (by decide)) M3a326_7 ?_
  refine zs_isub (pc := 49) t208_49 (c := a) (zsub0 _) ?_
  refine zs_istore_n (pc := 50) t208_50 (ls' := [(3, .int a), (4, .int (7 : Int32)), (0, .ref 325), (1, .int a), (2, .int b)]) (zml mf208 (by decide)) rfl ?_
  refine zs_iinc (pc := 51) t208_51 (ls' := [(4, .int (6 : Int32)), (3, .int a), (0, .ref 325), (1, .int a), (2, .int b)]) (zml mf208 (by decide)) rfl (c := 6) (by decide) rfl ?_
  refine zs_goto (pc := 54) t208_54 ?_
  refine zs_iload (pc := 6) t208_6 rfl ?_
  refine zs_if_ltF (pc := 8) t208_8 li6 (by decide) ?_
  refine zs_iload_n (pc := 11) t208_11 rfl ?_
  refine zs_if_ltF (pc := 12) t208_12 rfl (by omega) ?_
  refine zs_iload_n (pc := 15) t208_15 rfl ?_
  refine zs_aload_n (pc := 16) t208_16 rfl ?_
  refine zs_get (pc := 17) t208_17 (by decide) (zk1 M3k325) M3v325_2 ?_
  refine zs_iload (pc := 20) t208_20 rfl ?_
  refine zs_iald (pc := 22) t208_22 (j := 6) (by decide) (zk1 M3k326) (by decide) (zk2 M3k326 (by decide)) M3a326_6 ?_
  refine zs_icmp_geT (pc := 23) t208_23 rfl li0 (by omega) ?_
  refine zs_iload_n (pc := 41) t208_41 rfl ?_
  refine zs_aload_n (pc := 42) t208_42 rfl ?_
  refine zs_get (pc := 43) t208_43 (by decide) (zk1 M3k325) M3v325_2 ?_
  refine zs_iload (pc := 46) t208_46 rfl ?_
  refine zs_iald (pc := 48) t208_48 (j := 6) (by decide) (zk1 M3k326) (by decide) (zk2 M3k326 (by decide)) M3a326_6 ?_
  refine zs_isub (pc := 49) t208_49 (c := a) (zsub0 _) ?_
  refine zs_istore_n (pc := 50) t208_50 (ls' := [(3, .int a), (4, .int (6 : Int32)), (0, .ref 325), (1, .int a), (2, .int b)]) (zml mf208 (by decide)) rfl ?_
  refine zs_iinc (pc := 51) t208_51 (ls' := [(4, .int (5 : Int32)), (3, .int a), (0, .ref 325), (1, .int a), (2, .int b)]) (zml mf208 (by decide)) rfl (c := 5) (by decide) rfl ?_
  refine zs_goto (pc := 54) t208_54 ?_
  refine zs_iload (pc := 6) t208_6 rfl ?_
  refine zs_if_ltF (pc := 8) t208_8 li5 (by decide) ?_
  refine zs_iload_n (pc := 11) t208_11 rfl ?_
  refine zs_if_ltF (pc := 12) t208_12 rfl (by omega) ?_
  refine zs_iload_n (pc := 15) t208_15 rfl ?_
  refine zs_aload_n (pc := 16) t208_16 rfl ?_
  refine zs_get (pc := 17) t208_17 (by decide) (zk1 M3k325) M3v325_2 ?_
  refine zs_iload (pc := 20) t208_20 rfl ?_
  refine zs_iald (pc := 22) t208_22 (j := 5) (by decide) (zk1 M3k326) (by decide) (zk2 M3k326 (by decide)) M3a326_5 ?_
  refine zs_icmp_geT (pc := 23) t208_23 rfl li0 (by omega) ?_
  refine zs_iload_n (pc := 41) t208_41 rfl ?_
  refine zs_aload_n (pc := 42) t208_42 rfl ?_
  refine zs_get (pc := 43) t208_43 (by decide) (zk1 M3k325) M3v325_2 ?_
  refine zs_iload (pc := 46) t208_46 rfl ?_
  refine zs_iald (pc := 48) t208_48 (j := 5) (by decide) (zk1 M3k326) (by decide) (zk2 M3k326 (by decide)) M3a326_5 ?_
  refine zs_isub (pc := 49) t208_49 (c := a) (zsub0 _) ?_
  refine zs_istore_n (pc := 50) t208_50 (ls' := [(3, .int a), (4, .int (5 : Int32)), (0, .ref 325), (1, .int a), (2, .int b)]) (zml mf208 (by decide)) rfl ?_
  refine zs_iinc (pc := 51) t208_51 (ls' := [(4, .int (4 : Int32)), (3, .int a), (0, .ref 325), (1, .int a), (2, .int b)]) (zml mf208 (by decide)) rfl (c := 4) (by decide) rfl ?_
  refine zs_goto (pc := 54) t208_54 ?_
  refine zs_iload (pc := 6) t208_6 rfl ?_
  refine zs_if_ltF (pc := 8) t208_8 li4 (by decide) ?_
  refine zs_iload_n (pc := 11) t208_11 rfl ?_
  refine zs_if_ltF (pc := 12) t208_12 rfl (by omega) ?_
  refine zs_iload_n (pc := 15) t208_15 rfl ?_
  refine zs_aload_n (pc := 16) t208_16 rfl ?_
  refine zs_get (pc := 17) t208_17 (by decide) (zk1 M3k325) M3v325_2 ?_
  refine zs_iload (pc := 20) t208_20 rfl ?_
  refine zs_iald (pc := 22) t208_22 (j := 4) (by decide) (zk1 M3k326) (by decide) (zk2 M3k326 (by decide)) M3a326_4 ?_
  refine zs_icmp_geT (pc := 23) t208_23 rfl li0 (by omega) ?_
  refine zs_iload_n (pc := 41) t208_41 rfl ?_
  refine zs_aload_n (pc := 42) t208_42 rfl ?_
  refine zs_get (pc := 43) t208_43 (by decide) (zk1 M3k325) M3v325_2 ?_
  refine zs_iload (pc := 46) t208_46 rfl ?_
  refine zs_iald (pc := 48) t208_48 (j := 4) (by decide) (zk1 M3k326) (by decide) (zk2 M3k326 (by decide)) M3a326_4 ?_
  refine zs_isub (pc := 49) t208_49 (c := a) (zsub0 _) ?_
  refine zs_istore_n (pc := 50) t208_50 (ls' := [(3, .int a), (4, .int (4 : Int32)), (0, .ref 325), (1, .int a), (2, .int b)]) (zml mf208 (by decide)) rfl ?_
  refine zs_iinc (pc := 51) t208_51 (ls' := [(4, .int (3 : Int32)), (3, .int a), (0, .ref 325), (1, .int a), (2, .int b)]) (zml mf208 (by decide)) rfl (c := 3) (by decide) rfl ?_
  refine zs_goto (pc := 54) t208_54 ?_
  refine zs_iload (pc := 6) t208_6 rfl ?_
  refine zs_if_ltF (pc := 8) t208_8 li3 (by decide) ?_
  refine zs_iload_n (pc := 11) t208_11 rfl ?_
  refine zs_if_ltF (pc := 12) t208_12 rfl (by omega) ?_
  refine zs_iload_n (pc := 15) t208_15 rfl ?_
  refine zs_aload_n (pc := 16) t208_16 rfl ?_
  refine zs_get (pc := 17) t208_17 (by decide) (zk1 M3k325) M3v325_2 ?_
  refine zs_iload (pc := 20) t208_20 rfl ?_
  refine zs_iald (pc := 22) t208_22 (j := 3) (by decide) (zk1 M3k326) (by decide) (zk2 M3k326 (by decide)) M3a326_3 ?_
  refine zs_icmp_geT (pc := 23) t208_23 rfl li0 (by omega) ?_
  refine zs_iload_n (pc := 41) t208_41 rfl ?_
  refine zs_aload_n (pc := 42) t208_42 rfl ?_
  refine zs_get (pc := 43) t208_43 (by decide) (zk1 M3k325) M3v325_2 ?_
  refine zs_iload (pc := 46) t208_46 rfl ?_
  refine zs_iald (pc := 48) t208_48 (j := 3) (by decide) (zk1 M3k326) (by decide) (zk2 M3k326 (by decide)) M3a326_3 ?_
  refine zs_isub (pc := 49) t208_49 (c := a) (zsub0 _) ?_
  refine zs_istore_n (pc := 50) t208_50 (ls' := [(3, .int a), (4, .int (3 : Int32)), (0, .ref 325), (1, .int a), (2, .int b)]) (zml mf208 (by decide)) rfl ?_
  refine zs_iinc (pc := 51) t208_51 (ls' := [(4, .int (2 : Int32)), (3, .int a), (0, .ref 325), (1, .int a), (2, .int b)]) (zml mf208 (by decide)) rfl (c := 2) (by decide) rfl ?_
  refine zs_goto (pc := 54) t208_54 ?_
  refine zs_iload (pc := 6) t208_6 rfl ?_
  refine zs_if_ltF (pc := 8) t208_8 li2 (by decide) ?_
  refine zs_iload_n (pc := 11) t208_11 rfl ?_
  refine zs_if_ltF (pc := 12) t208_12 rfl (by omega) ?_
  refine zs_iload_n (pc := 15) t208_15 rfl ?_
  refine zs_aload_n (pc := 16) t208_16 rfl ?_
  refine zs_get (pc := 17) t208_17 (by decide) (zk1 M3k325) M3v325_2 ?_
  refine zs_iload (pc := 20) t208_20 rfl ?_
  refine zs_iald (pc := 22) t208_22 (j := 2) (by decide) (zk1 M3k326) (by decide) (zk2 M3k326 (by decide)) M3a326_2 ?_
  refine zs_icmp_geT (pc := 23) t208_23 rfl li0 (by omega) ?_
  refine zs_iload_n (pc := 41) t208_41 rfl ?_
  refine zs_aload_n (pc := 42) t208_42 rfl ?_
  refine zs_get (pc := 43) t208_43 (by decide) (zk1 M3k325) M3v325_2 ?_
  refine zs_iload (pc := 46) t208_46 rfl ?_
  refine zs_iald (pc := 48) t208_48 (j := 2) (by decide) (zk1 M3k326) (by decide) (zk2 M3k326 (by decide)) M3a326_2 ?_
  refine zs_isub (pc := 49) t208_49 (c := a) (zsub0 _) ?_
  refine zs_istore_n (pc := 50) t208_50 (ls' := [(3, .int a), (4, .int (2 : Int32)), (0, .ref 325), (1, .int a), (2, .int b)]) (zml mf208 (by decide)) rfl ?_
  refine zs_iinc (pc := 51) t208_51 (ls' := [(4, .int (1 : Int32)), (3, .int a), (0, .ref 325), (1, .int a), (2, .int b)]) (zml mf208 (by decide)) rfl (c := 1) (by decide) rfl ?_
  refine zs_goto (pc := 54) t208_54 ?_
  refine zs_iload (pc := 6) t208_6 rfl ?_
  refine zs_if_ltF (pc := 8) t208_8 li1 (by decide) ?_
  refine zs_iload_n (pc := 11) t208_11 rfl ?_
  refine zs_if_ltF (pc := 12) t208_12 rfl (by omega) ?_
  refine zs_iload_n (pc := 15) t208_15 rfl ?_
  refine zs_aload_n (pc := 16) t208_16 rfl ?_
  refine zs_get (pc := 17) t208_17 (by decide) (zk1 M3k325) M3v325_2 ?_
  refine zs_iload (pc := 20) t208_20 rfl ?_
  refine zs_iald (pc := 22) t208_22 (j := 1) (by decide) (zk1 M3k326) (by decide) (zk2 M3k326 (by decide)) M3a326_1 ?_
  refine zs_icmp_geT (pc := 23) t208_23 rfl li0 (by omega) ?_
  refine zs_iload_n (pc := 41) t208_41 rfl ?_
  refine zs_aload_n (pc := 42) t208_42 rfl ?_
  refine zs_get (pc := 43) t208_43 (by decide) (zk1 M3k325) M3v325_2 ?_
  refine zs_iload (pc := 46) t208_46 rfl ?_
  refine zs_iald (pc := 48) t208_48 (j := 1) (by decide) (zk1 M3k326) (by decide) (zk2 M3k326 (by decide)) M3a326_1 ?_
  refine zs_isub (pc := 49) t208_49 (c := a) (zsub0 _) ?_
  refine zs_istore_n (pc := 50) t208_50 (ls' := [(3, .int a), (4, .int (1 : Int32)), (0, .ref 325), (1, .int a), (2, .int b)]) (zml mf208 (by decide)) rfl ?_
  refine zs_iinc (pc := 51) t208_51 (ls' := [(4, .int (0 : Int32)), (3, .int a), (0, .ref 325), (1, .int a), (2, .int b)]) (zml mf208 (by decide)) rfl (c := 0) (by decide) rfl ?_
  refine zs_goto (pc := 54) t208_54 ?_
  refine zs_iload (pc := 6) t208_6 rfl ?_
  refine zs_if_ltF (pc := 8) t208_8 li0 (by decide) ?_
  refine zs_iload_n (pc := 11) t208_11 rfl ?_
  refine zs_if_ltF (pc := 12) t208_12 rfl (by omega) ?_
  refine zs_iload_n (pc := 15) t208_15 rfl ?_
  refine zs_aload_n (pc := 16) t208_16 rfl ?_
  refine zs_get (pc := 17) t208_17 (by decide) (zk1 M3k325) M3v325_2 ?_
  refine zs_iload (pc := 20) t208_20 rfl ?_
  refine zs_iald (pc := 22) t208_22 (j := 0) (by decide) (zk1 M3k326) (by decide) (zk2 M3k326 (by decide)) M3a326_0 ?_
  refine zs_icmp_geT (pc := 23) t208_23 rfl li0 (by omega) ?_
  refine zs_iload_n (pc := 41) t208_41 rfl ?_
  refine zs_aload_n (pc := 42) t208_42 rfl ?_
  refine zs_get (pc := 43) t208_43 (by decide) (zk1 M3k325) M3v325_2 ?_
  refine zs_iload (pc := 46) t208_46 rfl ?_
  refine zs_iald (pc := 48) t208_48 (j := 0) (by decide) (zk1 M3k326) (by decide) (zk2 M3k326 (by decide)) M3a326_0 ?_
  refine zs_isub (pc := 49) t208_49 (c := a) (zsub0 _) ?_
  refine zs_istore_n (pc := 50) t208_50 (ls' := [(3, .int a), (4, .int (0 : Int32)), (0, .ref 325), (1, .int a), (2, .int b)]) (zml mf208 (by decide)) rfl ?_
  refine zs_iinc (pc := 51) t208_51 (ls' := [(4, .int (-1 : Int32)), (3, .int a), (0, .ref 325), (1, .int a), (2, .int b)]) (zml mf208 (by decide)) rfl (c := -1) (by decide) rfl ?_
  refine zs_goto (pc := 54) t208_54 ?_
  refine zs_iload (pc := 6) t208_6 rfl ?_
  refine zs_if_ltT (pc := 8) t208_8 lin1 (by decide) ?_
  refine zs_ldc (pc := 57) t208_57 (v := -100000) rfl (by decide) ?_
  refine zs_iret (pc := 59) t208_59 mr208 (by decide) ?_
  show zGo X l 6 0 0 207 49 [(0, .ref 6), (1, .int a), (2, .int b)] [.int (-100000 : Int32)] M3 _
  exact zs_iret (pc := 49) t207_49 mr207 (by decide) rfl
