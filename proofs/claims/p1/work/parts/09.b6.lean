theorem m35_4 {X : zX} {l : Launch} {a b : Int32} (la : 0 ≤ a.toInt) (ua : a.toInt ≤ 19) (lb : 0 ≤ b.toInt) (ub : b.toInt ≤ 3) : zCall X l 7 0 0 302 [.ref 336, .int a, .int b] zMm (fun r _ => r = some (.int (-100000 : Int32))) := by
  have ga := zrg a
  have gb := zrg b
  refine zs_in (by decide) mf302 (Nat.le_of_ble_eq_true rfl) ?_
  show zGo X l 7 0 0 302 0 [(0, .ref 336), (1, .int a), (2, .int b)] [] zMm _
  refine zs_aload_n (pc := 0) t302_0 rfl ?_
  refine zs_invV (pc := 1) (k := 336) (as' := []) (st := []) t302_1 mf268 rfl rfl (Or.inl ⟨by decide, (zk1 fk_zMm_336)⟩) ⟨by decide, by decide, Nat.le_of_ble_eq_true rfl, Nat.le_of_ble_eq_true rfl⟩ (cc2 (X := X) (l := l)) ?_
  rintro r M2 ⟨rfl, M2k336, M2v336_22, M2v336_39, M2v336_37, M2v336_0, M2k337, M2a337_1, M2v336_26, M2v336_34, M2a337_0, -⟩
  show zGo X l 7 0 0 302 4 [(0, .ref 336), (1, .int a), (2, .int b)] [] M2 _
  refine zs_iload_n (pc := 4) t302_4 rfl ?_
  refine zs_i2l (pc := 5) t302_5 rfl ?_
  refine zs_lconst (pc := 6) t302_6 (v := 0) (by decide) ?_
  refine zs_aload_n (pc := 7) t302_7 rfl ?_
  refine zs_get (pc := 8) t302_8 (by decide) (zk1 M2k336) M2v336_39 ?_
  refine zs_bipush (pc := 11) t302_11 (v := 20) (by decide) ?_
  refine zs_invS (pc := 13) (as := [.int (0 : Int32), .int (20 : Int32)]) (st := [.long (0 : Int64), .long a.toInt64]) t302_13 (by decide) mf303 rfl rfl ⟨by decide, by decide, Nat.le_of_ble_eq_true rfl, Nat.le_of_ble_eq_true rfl⟩ (zs_in (by decide) mf303 (Nat.le_of_ble_eq_true rfl) ?_) (fun _ _ q => q)
  show zGo X l 0 0 0 303 0 [(0, .int (0 : Int32)), (1, .int (20 : Int32))] [] M2 _
  refine zs_iload_n (pc := 0) t303_0 rfl ?_
  refine zs_iload_n (pc := 1) t303_1 rfl ?_
  refine zs_icmp_geF (pc := 2) t303_2 li0 li20 (by decide) ?_
  refine zs_iload_n (pc := 5) t303_5 rfl ?_
  refine zs_goto (pc := 6) t303_6 ?_
  refine zs_iret (pc := 10) t303_10 mr303 (by decide) ?_
  show zGo X l 7 0 0 302 16 [(0, .ref 336), (1, .int a), (2, .int b)] [.int (0 : Int32), .long (0 : Int64), .long a.toInt64] M2 _
  refine zs_iconst (pc := 16) t302_16 (v := 1) (by decide) ?_
  refine zs_isub (pc := 17) t302_17 (c := -1) (by decide) ?_
  refine zs_i2l (pc := 18) t302_18 (c := -1) (by decide) ?_
  refine zs_invS (pc := 19) (as := [.long a.toInt64, .long (0 : Int64), .long (-1 : Int64)]) (st := []) t302_19 (by decide) mf228 rfl rfl ⟨by decide, by decide, Nat.le_of_ble_eq_true rfl, Nat.le_of_ble_eq_true rfl⟩ (zs_in (by decide) mf228 (Nat.le_of_ble_eq_true rfl) ?_) (fun _ _ q => q)
  show zGo X l 0 0 0 228 0 [(0, .long a.toInt64), (2, .long (0 : Int64)), (4, .long (-1 : Int64))] [] M2 _
  refine zs_lload_n (pc := 0) t228_0 rfl ?_
  refine zs_lload_n (pc := 1) t228_1 rfl ?_
  by_cases w1 : a.toInt = 0
  · refine zs_lcmp (pc := 2) t228_2 (c := 0) (zlcE (zi2l rfl) ll0 (by omega)) ?_
    refine zs_if_ltF (pc := 3) t228_3 li0 (by decide) ?_
    refine zs_lload_n (pc := 6) t228_6 rfl ?_
    refine zs_lload (pc := 7) t228_7 rfl ?_
    refine zs_lcmp (pc := 9) t228_9 (c := 1) (zlcG (zi2l rfl) lln1 (by omega)) ?_
    refine zs_if_gtT (pc := 10) t228_10 li1 (by decide) ?_
    refine zs_iconst (pc := 17) t228_17 (v := 0) (by decide) ?_
    refine zs_iret (pc := 18) t228_18 mr228 (by decide) ?_
    show zGo X l 7 0 0 302 22 [(0, .ref 336), (1, .int a), (2, .int b)] [.int (0 : Int32)] M2 _
    refine zs_if_eqT (pc := 22) t302_22 li0 (by decide) ?_
    refine zs_ldc_w (pc := 50) t302_50 (v := -100000) rfl (by decide) ?_
    exact zs_iret (pc := 53) t302_53 mr302 (by decide) rfl
  refine zs_lcmp (pc := 2) t228_2 (c := 1) (zlcG (zi2l rfl) ll0 (by omega)) ?_
  refine zs_if_ltF (pc := 3) t228_3 li1 (by decide) ?_
  refine zs_lload_n (pc := 6) t228_6 rfl ?_
  refine zs_lload (pc := 7) t228_7 rfl ?_
  refine zs_lcmp (pc := 9) t228_9 (c := 1) (zlcG (zi2l rfl) lln1 (by omega)) ?_
  refine zs_if_gtT (pc := 10) t228_10 li1 (by decide) ?_
  refine zs_iconst (pc := 17) t228_17 (v := 0) (by decide) ?_
  refine zs_iret (pc := 18) t228_18 mr228 (by decide) ?_
  show zGo X l 7 0 0 302 22 [(0, .ref 336), (1, .int a), (2, .int b)] [.int (0 : Int32)] M2 _
  refine zs_if_eqT (pc := 22) t302_22 li0 (by decide) ?_
  refine zs_ldc_w (pc := 50) t302_50 (v := -100000) rfl (by decide) ?_
  exact zs_iret (pc := 53) t302_53 mr302 (by decide) rfl
theorem c36_0 {X : zX} {l : Launch} {a b : Int32} (la : (-2147483648) ≤ a.toInt) (ua : a.toInt ≤ 0) : zCall X l 2 0 0 210 [.ref 6, .int a, .int b] zMc (fun r _ => r = some (.int (-1 : Int32))) := by
  have ga := zrg a
  have gb := zrg b
  refine zs_in (by decide) mf210 (Nat.le_of_ble_eq_true rfl) ?_
  show zGo X l 2 0 0 210 0 [(0, .ref 6), (1, .int a), (2, .int b)] [] zMc _
  refine zs_iload_n (pc := 0) t210_0 rfl ?_
  refine zs_iconst (pc := 1) t210_1 (v := 1) (by decide) ?_
  refine zs_sipush (pc := 2) t210_2 (v := 1000) (by decide) ?_
  refine zs_invS (pc := 5) (as := [.int a, .int (1 : Int32), .int (1000 : Int32)]) (st := []) t210_5 (by decide) mf39 rfl rfl ⟨by decide, by decide, Nat.le_of_ble_eq_true rfl, Nat.le_of_ble_eq_true rfl⟩ (zs_in (by decide) mf39 (Nat.le_of_ble_eq_true rfl) ?_) (fun _ _ q => q)
  show zGo X l 0 0 0 39 0 [(0, .int a), (1, .int (1 : Int32)), (2, .int (1000 : Int32))] [] zMc _
  refine zs_iload_n (pc := 0) t39_0 rfl ?_
  refine zs_iload_n (pc := 1) t39_1 rfl ?_
  refine zs_icmp_ltT (pc := 2) t39_2 rfl li1 (by omega) ?_
  refine zs_iconst (pc := 14) t39_14 (v := 0) (by decide) ?_
  refine zs_iret (pc := 15) t39_15 mr39 (by decide) ?_
  show zGo X l 2 0 0 210 8 [(0, .ref 6), (1, .int a), (2, .int b)] [.int (0 : Int32)] zMc _
  refine zs_if_eqT (pc := 8) t210_8 li0 (by decide) ?_
  refine zs_iconst (pc := 20) t210_20 (v := -1) (by decide) ?_
  exact zs_iret (pc := 21) t210_21 mr210 (by decide) rfl
theorem c36_1 {X : zX} {l : Launch} {a b : Int32} (la : 1001 ≤ a.toInt) (ua : a.toInt ≤ 2147483647) : zCall X l 2 0 0 210 [.ref 6, .int a, .int b] zMc (fun r _ => r = some (.int (-1 : Int32))) := by
  have ga := zrg a
  have gb := zrg b
  refine zs_in (by decide) mf210 (Nat.le_of_ble_eq_true rfl) ?_
  show zGo X l 2 0 0 210 0 [(0, .ref 6), (1, .int a), (2, .int b)] [] zMc _
  refine zs_iload_n (pc := 0) t210_0 rfl ?_
  refine zs_iconst (pc := 1) t210_1 (v := 1) (by decide) ?_
  refine zs_sipush (pc := 2) t210_2 (v := 1000) (by decide) ?_
  refine zs_invS (pc := 5) (as := [.int a, .int (1 : Int32), .int (1000 : Int32)]) (st := []) t210_5 (by decide) mf39 rfl rfl ⟨by decide, by decide, Nat.le_of_ble_eq_true rfl, Nat.le_of_ble_eq_true rfl⟩ (zs_in (by decide) mf39 (Nat.le_of_ble_eq_true rfl) ?_) (fun _ _ q => q)
  show zGo X l 0 0 0 39 0 [(0, .int a), (1, .int (1 : Int32)), (2, .int (1000 : Int32))] [] zMc _
  refine zs_iload_n (pc := 0) t39_0 rfl ?_
  refine zs_iload_n (pc := 1) t39_1 rfl ?_
  refine zs_icmp_ltF (pc := 2) t39_2 rfl li1 (by omega) ?_
  refine zs_iload_n (pc := 5) t39_5 rfl ?_
  refine zs_iload_n (pc := 6) t39_6 rfl ?_
  refine zs_icmp_gtT (pc := 7) t39_7 rfl li1000 (by omega) ?_
  refine zs_iconst (pc := 14) t39_14 (v := 0) (by decide) ?_
  refine zs_iret (pc := 15) t39_15 mr39 (by decide) ?_
  show zGo X l 2 0 0 210 8 [(0, .ref 6), (1, .int a), (2, .int b)] [.int (0 : Int32)] zMc _
  refine zs_if_eqT (pc := 8) t210_8 li0 (by decide) ?_
  refine zs_iconst (pc := 20) t210_20 (v := -1) (by decide) ?_
  exact zs_iret (pc := 21) t210_21 mr210 (by decide) rfl
theorem c36_2 {X : zX} {l : Launch} {a b : Int32} (la : 1 ≤ a.toInt) (ua : a.toInt ≤ 1000) (lb : (-2147483648) ≤ b.toInt) (ub : b.toInt ≤ (-1)) : zCall X l 2 0 0 210 [.ref 6, .int a, .int b] zMc (fun r _ => r = some (.int (-1 : Int32))) := by
  have ga := zrg a
  have gb := zrg b
  refine zs_in (by decide) mf210 (Nat.le_of_ble_eq_true rfl) ?_
  show zGo X l 2 0 0 210 0 [(0, .ref 6), (1, .int a), (2, .int b)] [] zMc _
  refine zs_iload_n (pc := 0) t210_0 rfl ?_
  refine zs_iconst (pc := 1) t210_1 (v := 1) (by decide) ?_
  refine zs_sipush (pc := 2) t210_2 (v := 1000) (by decide) ?_
  refine zs_invS (pc := 5) (as := [.int a, .int (1 : Int32), .int (1000 : Int32)]) (st := []) t210_5 (by decide) mf39 rfl rfl ⟨by decide, by decide, Nat.le_of_ble_eq_true rfl, Nat.le_of_ble_eq_true rfl⟩ (zs_in (by decide) mf39 (Nat.le_of_ble_eq_true rfl) ?_) (fun _ _ q => q)
  show zGo X l 0 0 0 39 0 [(0, .int a), (1, .int (1 : Int32)), (2, .int (1000 : Int32))] [] zMc _
  refine zs_iload_n (pc := 0) t39_0 rfl ?_
  refine zs_iload_n (pc := 1) t39_1 rfl ?_
  refine zs_icmp_ltF (pc := 2) t39_2 rfl li1 (by omega) ?_
  refine zs_iload_n (pc := 5) t39_5 rfl ?_
  refine zs_iload_n (pc := 6) t39_6 rfl ?_
  refine zs_icmp_gtF (pc := 7) t39_7 rfl li1000 (by omega) ?_
  refine zs_iconst (pc := 10) t39_10 (v := 1) (by decide) ?_
  refine zs_goto (pc := 11) t39_11 ?_
  refine zs_iret (pc := 15) t39_15 mr39 (by decide) ?_
  show zGo X l 2 0 0 210 8 [(0, .ref 6), (1, .int a), (2, .int b)] [.int (1 : Int32)] zMc _
  refine zs_if_eqF (pc := 8) t210_8 li1 (by decide) ?_
  refine zs_iload_n (pc := 11) t210_11 rfl ?_
  refine zs_iconst (pc := 12) t210_12 (v := 0) (by decide) ?_
  refine zs_iconst (pc := 13) t210_13 (v := 1) (by decide) ?_
  refine zs_invS (pc := 14) (as := [.int b, .int (0 : Int32), .int (1 : Int32)]) (st := []) t210_14 (by decide) mf39 rfl rfl ⟨by decide, by decide, Nat.le_of_ble_eq_true rfl, Nat.le_of_ble_eq_true rfl⟩ (zs_in (by decide) mf39 (Nat.le_of_ble_eq_true rfl) ?_) (fun _ _ q => q)
  show zGo X l 0 0 0 39 0 [(0, .int b), (1, .int (0 : Int32)), (2, .int (1 : Int32))] [] zMc _
  refine zs_iload_n (pc := 0) t39_0 rfl ?_
  refine zs_iload_n (pc := 1) t39_1 rfl ?_
  refine zs_icmp_ltT (pc := 2) t39_2 rfl li0 (by omega) ?_
  refine zs_iconst (pc := 14) t39_14 (v := 0) (by decide) ?_
  refine zs_iret (pc := 15) t39_15 mr39 (by decide) ?_
  show zGo X l 2 0 0 210 17 [(0, .ref 6), (1, .int a), (2, .int b)] [.int (0 : Int32)] zMc _
  refine zs_if_neF (pc := 17) t210_17 li0 (by decide) ?_
  refine zs_iconst (pc := 20) t210_20 (v := -1) (by decide) ?_
  exact zs_iret (pc := 21) t210_21 mr210 (by decide) rfl
theorem c36_3 {X : zX} {l : Launch} {a b : Int32} (la : 1 ≤ a.toInt) (ua : a.toInt ≤ 1000) (lb : 2 ≤ b.toInt) (ub : b.toInt ≤ 2147483647) : zCall X l 2 0 0 210 [.ref 6, .int a, .int b] zMc (fun r _ => r = some (.int (-1 : Int32))) := by
  have ga := zrg a
  have gb := zrg b
  refine zs_in (by decide) mf210 (Nat.le_of_ble_eq_true rfl) ?_
  show zGo X l 2 0 0 210 0 [(0, .ref 6), (1, .int a), (2, .int b)] [] zMc _
  refine zs_iload_n (pc := 0) t210_0 rfl ?_
  refine zs_iconst (pc := 1) t210_1 (v := 1) (by decide) ?_
  refine zs_sipush (pc := 2) t210_2 (v := 1000) (by decide) ?_
  refine zs_invS (pc := 5) (as := [.int a, .int (1 : Int32), .int (1000 : Int32)]) (st := []) t210_5 (by decide) mf39 rfl rfl ⟨by decide, by decide, Nat.le_of_ble_eq_true rfl, Nat.le_of_ble_eq_true rfl⟩ (zs_in (by decide) mf39 (Nat.le_of_ble_eq_true rfl) ?_) (fun _ _ q => q)
  show zGo X l 0 0 0 39 0 [(0, .int a), (1, .int (1 : Int32)), (2, .int (1000 : Int32))] [] zMc _
  refine zs_iload_n (pc := 0) t39_0 rfl ?_
  refine zs_iload_n (pc := 1) t39_1 rfl ?_
  refine zs_icmp_ltF (pc := 2) t39_2 rfl li1 (by omega) ?_
  refine zs_iload_n (pc := 5) t39_5 rfl ?_
  refine zs_iload_n (pc := 6) t39_6 rfl ?_
  refine zs_icmp_gtF (pc := 7) t39_7 rfl li1000 (by omega) ?_
  refine zs_iconst (pc := 10) t39_10 (v := 1) (by decide) ?_
  refine zs_goto (pc := 11) t39_11 ?_
  refine zs_iret (pc := 15) t39_15 mr39 (by decide) ?_
  show zGo X l 2 0 0 210 8 [(0, .ref 6), (1, .int a), (2, .int b)] [.int (1 : Int32)] zMc _
  refine zs_if_eqF (pc := 8) t210_8 li1 (by decide) ?_
  refine zs_iload_n (pc := 11) t210_11 rfl ?_
  refine zs_iconst (pc := 12) t210_12 (v := 0) (by decide) ?_
  refine zs_iconst (pc := 13) t210_13 (v := 1) (by decide) ?_
  refine zs_invS (pc := 14) (as := [.int b, .int (0 : Int32), .int (1 : Int32)]) (st := []) t210_14 (by decide) mf39 rfl rfl ⟨by decide, by decide, Nat.le_of_ble_eq_true rfl, Nat.le_of_ble_eq_true rfl⟩ (zs_in (by decide) mf39 (Nat.le_of_ble_eq_true rfl) ?_) (fun _ _ q => q)
  show zGo X l 0 0 0 39 0 [(0, .int b), (1, .int (0 : Int32)), (2, .int (1 : Int32))] [] zMc _
  refine zs_iload_n (pc := 0) t39_0 rfl ?_
  refine zs_iload_n (pc := 1) t39_1 rfl ?_
  refine zs_icmp_ltF (pc := 2) t39_2 rfl li0 (by omega) ?_
  refine zs_iload_n (pc := 5) t39_5 rfl ?_
  refine zs_iload_n (pc := 6) t39_6 rfl ?_
  refine zs_icmp_gtT (pc := 7) t39_7 rfl li1 (by omega) ?_
  refine zs_iconst (pc := 14) t39_14 (v := 0) (by decide) ?_
  refine zs_iret (pc := 15) t39_15 mr39 (by decide) ?_
  show zGo X l 2 0 0 210 17 [(0, .ref 6), (1, .int a), (2, .int b)] [.int (0 : Int32)] zMc _
  refine zs_if_neF (pc := 17) t210_17 li0 (by decide) ?_
  refine zs_iconst (pc := 20) t210_20 (v := -1) (by decide) ?_
  exact zs_iret (pc := 21) t210_21 mr210 (by decide) rfl
theorem c36_4 {X : zX} {l : Launch} {a b : Int32} (la : 1 ≤ a.toInt) (ua : a.toInt ≤ 1000) (lb : 0 ≤ b.toInt) (ub : b.toInt ≤ 1) : zCall X l 2 0 0 210 [.ref 6, .int a, .int b] zMc (fun r _ => r = some (.int (0 : Int32))) := by
  have ga := zrg a
  have gb := zrg b
  refine zs_in (by decide) mf210 (Nat.le_of_ble_eq_true rfl) ?_
  show zGo X l 2 0 0 210 0 [(0, .ref 6), (1, .int a), (2, .int b)] [] zMc _
  refine zs_iload_n (pc := 0) t210_0 rfl ?_
  refine zs_iconst (pc := 1) t210_1 (v := 1) (by decide) ?_
  refine zs_sipush (pc := 2) t210_2 (v := 1000) (by decide) ?_
  refine zs_invS (pc := 5) (as := [.int a, .int (1 : Int32), .int (1000 : Int32)]) (st := []) t210_5 (by decide) mf39 rfl rfl ⟨by decide, by decide, Nat.le_of_ble_eq_true rfl, Nat.le_of_ble_eq_true rfl⟩ (zs_in (by decide) mf39 (Nat.le_of_ble_eq_true rfl) ?_) (fun _ _ q => q)
  show zGo X l 0 0 0 39 0 [(0, .int a), (1, .int (1 : Int32)), (2, .int (1000 : Int32))] [] zMc _
  refine zs_iload_n (pc := 0) t39_0 rfl ?_
  refine zs_iload_n (pc := 1) t39_1 rfl ?_
  refine zs_icmp_ltF (pc := 2) t39_2 rfl li1 (by omega) ?_
  refine zs_iload_n (pc := 5) t39_5 rfl ?_
  refine zs_iload_n (pc := 6) t39_6 rfl ?_
  refine zs_icmp_gtF (pc := 7) t39_7 rfl li1000 (by omega) ?_
  refine zs_iconst (pc := 10) t39_10 (v := 1) (by decide) ?_
  refine zs_goto (pc := 11) t39_11 ?_
  refine zs_iret (pc := 15) t39_15 mr39 (by decide) ?_
  show zGo X l 2 0 0 210 8 [(0, .ref 6), (1, .int a), (2, .int b)] [.int (1 : Int32)] zMc _
  refine zs_if_eqF (pc := 8) t210_8 li1 (by decide) ?_
  refine zs_iload_n (pc := 11) t210_11 rfl ?_
  refine zs_iconst (pc := 12) t210_12 (v := 0) (by decide) ?_
  refine zs_iconst (pc := 13) t210_13 (v := 1) (by decide) ?_
  refine zs_invS (pc := 14) (as := [.int b, .int (0 : Int32), .int (1 : Int32)]) (st := []) t210_14 (by decide) mf39 rfl rfl ⟨by decide, by decide, Nat.le_of_ble_eq_true rfl, Nat.le_of_ble_eq_true rfl⟩ (zs_in (by decide) mf39 (Nat.le_of_ble_eq_true rfl) ?_) (fun _ _ q => q)
  show zGo X l 0 0 0 39 0 [(0, .int b), (1, .int (0 : Int32)), (2, .int (1 : Int32))] [] zMc _
  refine zs_iload_n (pc := 0) t39_0 rfl ?_
  refine zs_iload_n (pc := 1) t39_1 rfl ?_
  refine zs_icmp_ltF (pc := 2) t39_2 rfl li0 (by omega) ?_
  refine zs_iload_n (pc := 5) t39_5 rfl ?_
  refine zs_iload_n (pc := 6) t39_6 rfl ?_
  refine zs_icmp_gtF (pc := 7) t39_7 rfl li1 (by omega) ?_
  refine zs_iconst (pc := 10) t39_10 (v := 1) (by decide) ?_
  refine zs_goto (pc := 11) t39_11 ?_
  refine zs_iret (pc := 15) t39_15 mr39 (by decide) ?_
  show zGo X l 2 0 0 210 17 [(0, .ref 6), (1, .int a), (2, .int b)] [.int (1 : Int32)] zMc _
  refine zs_if_neT (pc := 17) t210_17 li1 (by decide) ?_
  refine zs_iconst (pc := 22) t210_22 (v := 0) (by decide) ?_
  refine zs_istore_n (pc := 23) t210_23 (ls' := [(3, .int (0 : Int32)), (0, .ref 6), (1, .int a), (2, .int b)]) (zml mf210 (by decide)) rfl ?_
  refine zs_aload_n (pc := 24) t210_24 rfl ?_
  refine zs_get (pc := 25) t210_25 (by decide) (zk1 fk_zMc_6) fv_zMc_6_0 ?_
  refine zs_iconst (pc := 28) t210_28 (v := 0) (by decide) ?_
  refine zs_iload_n (pc := 29) t210_29 rfl ?_
  refine zs_iconst (pc := 30) t210_30 (v := 1) (by decide) ?_
  obtain ⟨w1v, w1e, w1⟩ := zisub (a := a) (b := (1 : Int32)) rfl li1 (by omega) (by omega)
  refine zs_isub (pc := 31) t210_31 (c := w1v) w1e ?_
  refine zs_invV (pc := 32) (k := 7) (as' := [.int (0 : Int32), .int w1v]) (st := []) t210_32 mf211 rfl rfl (Or.inl ⟨by decide, (zk1 fk_zMc_7)⟩) ⟨by decide, by decide, Nat.le_of_ble_eq_true rfl, Nat.le_of_ble_eq_true rfl⟩ (zs_in (by decide) mf211 (Nat.le_of_ble_eq_true rfl) ?_) (fun _ _ q => q)
  show zGo X l 1 0 0 211 0 [(0, .ref 7), (1, .int (0 : Int32)), (2, .int w1v)] [] zMc _
  refine zs_iconst (pc := 0) t211_0 (v := 0) (by decide) ?_
  refine zs_istore_n (pc := 1) t211_1 (ls' := [(3, .int (0 : Int32)), (0, .ref 7), (1, .int (0 : Int32)), (2, .int w1v)]) (zml mf211 (by decide)) rfl ?_
  refine zs_iconst (pc := 2) t211_2 (v := 0) (by decide) ?_
  refine zs_istore (pc := 3) t211_3 (ls' := [(4, .int (0 : Int32)), (3, .int (0 : Int32)), (0, .ref 7), (1, .int (0 : Int32)), (2, .int w1v)]) (zml mf211 (by decide)) rfl ?_
  refine zs_iload (pc := 5) t211_5 rfl ?_
  refine zs_aload_n (pc := 7) t211_7 rfl ?_
  refine zs_get (pc := 8) t211_8 (by decide) (zk1 fk_zMc_7) fv_zMc_7_3 ?_
  refine zs_icmp_geT (pc := 11) t211_11 li0 li0 (by decide) ?_
  refine zs_iload_n (pc := 53) t211_53 rfl ?_
  refine zs_iret (pc := 54) t211_54 mr211 (by decide) ?_
  show zGo X l 2 0 0 210 35 [(3, .int (0 : Int32)), (0, .ref 6), (1, .int a), (2, .int b)] [.int (0 : Int32)] zMc _
  refine zs_istore (pc := 35) t210_35 (ls' := [(4, .int (0 : Int32)), (3, .int (0 : Int32)), (0, .ref 6), (1, .int a), (2, .int b)]) (zml mf210 (by decide)) rfl ?_
  refine zs_iconst (pc := 37) t210_37 (v := 0) (by decide) ?_
  refine zs_istore (pc := 38) t210_38 (ls' := [(5, .int (0 : Int32)), (4, .int (0 : Int32)), (3, .int (0 : Int32)), (0, .ref 6), (1, .int a), (2, .int b)]) (zml mf210 (by decide)) rfl ?_
  refine zs_iload (pc := 40) t210_40 rfl ?_
  refine zs_aload_n (pc := 42) t210_42 rfl ?_
  refine zs_get (pc := 43) t210_43 (by decide) (zk1 fk_zMc_6) fv_zMc_6_0 ?_
  refine zs_get (pc := 46) t210_46 (by decide) (zk1 fk_zMc_7) fv_zMc_7_3 ?_
  refine zs_icmp_geT (pc := 49) t210_49 li0 li0 (by decide) ?_
  refine zs_iload_n (pc := 126) t210_126 rfl ?_
  by_cases w2 : b.toInt ≠ 0
  · refine zs_if_neT (pc := 127) t210_127 rfl (by omega) ?_
    refine zs_iload (pc := 134) t210_134 rfl ?_
    exact zs_iret (pc := 136) t210_136 mr210 (by decide) rfl
  · refine zs_if_neF (pc := 127) t210_127 rfl (by omega) ?_
    refine zs_iload_n (pc := 130) t210_130 rfl ?_
    refine zs_goto (pc := 131) t210_131 ?_
    exact zs_iret (pc := 136) t210_136 mr210 (by decide) rfl
theorem c37_0 {X : zX} {l : Launch} : zCall X l 4 0 0 212 [.ref 6] zMc (fun r _ => r = some (.int (-1 : Int32))) := zs_run (q := 33) (Qb := fun r _ => decide (r = some (.int (-1 : Int32)))) mf212 (by decide) (by decide +kernel) (fun _ _ q => of_decide_eq_true q)
theorem m37_0 {X : zX} {l : Launch} : zCall X l 1 0 0 225 [.ref 336] zMm (fun r _ => r = some (.int (-1 : Int32))) := zs_run (q := 25) (Qb := fun r _ => decide (r = some (.int (-1 : Int32)))) mf225 (by decide) (by decide +kernel) (fun _ _ q => of_decide_eq_true q)
theorem c38_0 {X : zX} {l : Launch} {a : Int32} (la : (-2147483648) ≤ a.toInt) (ua : a.toInt ≤ (-1)) : zCall X l 4 0 0 214 [.ref 6, .int a] zMc (fun r _ => r = some (.int (0 : Int32))) := by
  have ga := zrg a
  refine zs_in (by decide) mf214 (Nat.le_of_ble_eq_true rfl) ?_
  show zGo X l 4 0 0 214 0 [(0, .ref 6), (1, .int a)] [] zMc _
  refine zs_aload_n (pc := 0) t214_0 rfl ?_
  refine zs_get (pc := 1) t214_1 (by decide) (zk1 fk_zMc_6) fv_zMc_6_2 ?_
  refine zs_iload_n (pc := 4) t214_4 rfl ?_
  refine zs_aload_n (pc := 5) t214_5 rfl ?_
  refine zs_get (pc := 6) t214_6 (by decide) (zk1 fk_zMc_6) fv_zMc_6_0 ?_
  refine zs_invV (pc := 9) (k := 31) (as' := [.int a, .ref 7]) (st := []) t214_9 mf215 rfl rfl (Or.inl ⟨by decide, (zk1 fk_zMc_31)⟩) ⟨by decide, by decide, Nat.le_of_ble_eq_true rfl, Nat.le_of_ble_eq_true rfl⟩ (zs_in (by decide) mf215 (Nat.le_of_ble_eq_true rfl) ?_) (fun _ _ q => q)
  show zGo X l 3 0 0 215 0 [(0, .ref 31), (1, .int a), (2, .ref 7)] [] zMc _
  refine zs_iload_n (pc := 0) t215_0 rfl ?_
  refine zs_if_eqF (pc := 1) t215_1 rfl (by omega) ?_
  refine zs_iload_n (pc := 4) t215_4 rfl ?_
  refine zs_iconst (pc := 5) t215_5 (v := 1) (by decide) ?_
  refine zs_icmp_eqF (pc := 6) t215_6 rfl li1 (by omega) ?_
  refine zs_iconst (pc := 9) t215_9 (v := 0) (by decide) ?_
  refine zs_iret (pc := 10) t215_10 mr215 (by decide) ?_
  show zGo X l 4 0 0 214 12 [(0, .ref 6), (1, .int a)] [.int (0 : Int32)] zMc _
  exact zs_iret (pc := 12) t214_12 mr214 (by decide) rfl
theorem m38_0 {X : zX} {l : Launch} {a : Int32} (la : (-2147483648) ≤ a.toInt) (ua : a.toInt ≤ (-1)) : zCall X l 1 0 0 227 [.ref 336, .int a] zMm (fun r _ => r = some (.int (0 : Int32))) := by
  have ga := zrg a
  refine zs_in (by decide) mf227 (Nat.le_of_ble_eq_true rfl) ?_
  show zGo X l 1 0 0 227 0 [(0, .ref 336), (1, .int a)] [] zMm _
  refine zs_iload_n (pc := 0) t227_0 rfl ?_
  refine zs_i2l (pc := 1) t227_1 rfl ?_
  refine zs_lconst (pc := 2) t227_2 (v := 0) (by decide) ?_
  refine zs_lconst (pc := 3) t227_3 (v := 1) (by decide) ?_
  refine zs_invS (pc := 4) (as := [.long a.toInt64, .long (0 : Int64), .long (1 : Int64)]) (st := []) t227_4 (by decide) mf228 rfl rfl ⟨by decide, by decide, Nat.le_of_ble_eq_true rfl, Nat.le_of_ble_eq_true rfl⟩ (zs_in (by decide) mf228 (Nat.le_of_ble_eq_true rfl) ?_) (fun _ _ q => q)
  show zGo X l 0 0 0 228 0 [(0, .long a.toInt64), (2, .long (0 : Int64)), (4, .long (1 : Int64))] [] zMm _
  refine zs_lload_n (pc := 0) t228_0 rfl ?_
  refine zs_lload_n (pc := 1) t228_1 rfl ?_
  refine zs_lcmp (pc := 2) t228_2 (c := -1) (zlcL (zi2l rfl) ll0 (by omega)) ?_
  refine zs_if_ltT (pc := 3) t228_3 lin1 (by decide) ?_
  refine zs_iconst (pc := 17) t228_17 (v := 0) (by decide) ?_
  refine zs_iret (pc := 18) t228_18 mr228 (by decide) ?_
  show zGo X l 1 0 0 227 7 [(0, .ref 336), (1, .int a)] [.int (0 : Int32)] zMm _
  refine zs_if_neF (pc := 7) t227_7 li0 (by decide) ?_
  refine zs_iconst (pc := 10) t227_10 (v := 0) (by decide) ?_
  exact zs_iret (pc := 11) t227_11 mr227 (by decide) rfl
theorem c38_1 {X : zX} {l : Launch} : zCall X l 4 0 0 214 [.ref 6, .int (0 : Int32)] zMc (fun r _ => r = some (.int (1 : Int32))) := zs_run (q := 178) (Qb := fun r _ => decide (r = some (.int (1 : Int32)))) mf214 (by decide) (by decide +kernel) (fun _ _ q => of_decide_eq_true q)
theorem m38_1 {X : zX} {l : Launch} : zCall X l 1 0 0 227 [.ref 336, .int (0 : Int32)] zMm (fun r _ => r = some (.int (1 : Int32))) := zs_run (q := 10682) (Qb := fun r _ => decide (r = some (.int (1 : Int32)))) mf227 (by decide) (by decide +kernel) (fun _ _ q => of_decide_eq_true q)
theorem c38_2 {X : zX} {l : Launch} : zCall X l 4 0 0 214 [.ref 6, .int (1 : Int32)] zMc (fun r _ => r = some (.int (1 : Int32))) := zs_run (q := 181) (Qb := fun r _ => decide (r = some (.int (1 : Int32)))) mf214 (by decide) (by decide +kernel) (fun _ _ q => of_decide_eq_true q)
theorem m38_2 {X : zX} {l : Launch} : zCall X l 1 0 0 227 [.ref 336, .int (1 : Int32)] zMm (fun r _ => r = some (.int (1 : Int32))) := zs_run (q := 10682) (Qb := fun r _ => decide (r = some (.int (1 : Int32)))) mf227 (by decide) (by decide +kernel) (fun _ _ q => of_decide_eq_true q)
theorem c38_3 {X : zX} {l : Launch} {a : Int32} (la : 2 ≤ a.toInt) (ua : a.toInt ≤ 2147483647) : zCall X l 4 0 0 214 [.ref 6, .int a] zMc (fun r _ => r = some (.int (0 : Int32))) := by
  have ga := zrg a
  refine zs_in (by decide) mf214 (Nat.le_of_ble_eq_true rfl) ?_
  show zGo X l 4 0 0 214 0 [(0, .ref 6), (1, .int a)] [] zMc _
  refine zs_aload_n (pc := 0) t214_0 rfl ?_
  refine zs_get (pc := 1) t214_1 (by decide) (zk1 fk_zMc_6) fv_zMc_6_2 ?_
  refine zs_iload_n (pc := 4) t214_4 rfl ?_
  refine zs_aload_n (pc := 5) t214_5 rfl ?_
  refine zs_get (pc := 6) t214_6 (by decide) (zk1 fk_zMc_6) fv_zMc_6_0 ?_
  refine zs_invV (pc := 9) (k := 31) (as' := [.int a, .ref 7]) (st := []) t214_9 mf215 rfl rfl (Or.inl ⟨by decide, (zk1 fk_zMc_31)⟩) ⟨by decide, by decide, Nat.le_of_ble_eq_true rfl, Nat.le_of_ble_eq_true rfl⟩ (zs_in (by decide) mf215 (Nat.le_of_ble_eq_true rfl) ?_) (fun _ _ q => q)
  show zGo X l 3 0 0 215 0 [(0, .ref 31), (1, .int a), (2, .ref 7)] [] zMc _
  refine zs_iload_n (pc := 0) t215_0 rfl ?_
  refine zs_if_eqF (pc := 1) t215_1 rfl (by omega) ?_
  refine zs_iload_n (pc := 4) t215_4 rfl ?_
  refine zs_iconst (pc := 5) t215_5 (v := 1) (by decide) ?_
  refine zs_icmp_eqF (pc := 6) t215_6 rfl li1 (by omega) ?_
  refine zs_iconst (pc := 9) t215_9 (v := 0) (by decide) ?_
  refine zs_iret (pc := 10) t215_10 mr215 (by decide) ?_
  show zGo X l 4 0 0 214 12 [(0, .ref 6), (1, .int a)] [.int (0 : Int32)] zMc _
  exact zs_iret (pc := 12) t214_12 mr214 (by decide) rfl
theorem m38_3 {X : zX} {l : Launch} {a : Int32} (la : 2 ≤ a.toInt) (ua : a.toInt ≤ 2147483647) : zCall X l 1 0 0 227 [.ref 336, .int a] zMm (fun r _ => r = some (.int (0 : Int32))) := by
  have ga := zrg a
  refine zs_in (by decide) mf227 (Nat.le_of_ble_eq_true rfl) ?_
  show zGo X l 1 0 0 227 0 [(0, .ref 336), (1, .int a)] [] zMm _
  refine zs_iload_n (pc := 0) t227_0 rfl ?_
  refine zs_i2l (pc := 1) t227_1 rfl ?_
  refine zs_lconst (pc := 2) t227_2 (v := 0) (by decide) ?_
  refine zs_lconst (pc := 3) t227_3 (v := 1) (by decide) ?_
  refine zs_invS (pc := 4) (as := [.long a.toInt64, .long (0 : Int64), .long (1 : Int64)]) (st := []) t227_4 (by decide) mf228 rfl rfl ⟨by decide, by decide, Nat.le_of_ble_eq_true rfl, Nat.le_of_ble_eq_true rfl⟩ (zs_in (by decide) mf228 (Nat.le_of_ble_eq_true rfl) ?_) (fun _ _ q => q)
  show zGo X l 0 0 0 228 0 [(0, .long a.toInt64), (2, .long (0 : Int64)), (4, .long (1 : Int64))] [] zMm _
  refine zs_lload_n (pc := 0) t228_0 rfl ?_
  refine zs_lload_n (pc := 1) t228_1 rfl ?_
  refine zs_lcmp (pc := 2) t228_2 (c := 1) (zlcG (zi2l rfl) ll0 (by omega)) ?_
  refine zs_if_ltF (pc := 3) t228_3 li1 (by decide) ?_
  refine zs_lload_n (pc := 6) t228_6 rfl ?_
  refine zs_lload (pc := 7) t228_7 rfl ?_
  refine zs_lcmp (pc := 9) t228_9 (c := 1) (zlcG (zi2l rfl) ll1 (by omega)) ?_
  refine zs_if_gtT (pc := 10) t228_10 li1 (by decide) ?_
  refine zs_iconst (pc := 17) t228_17 (v := 0) (by decide) ?_
  refine zs_iret (pc := 18) t228_18 mr228 (by decide) ?_
  show zGo X l 1 0 0 227 7 [(0, .ref 336), (1, .int a)] [.int (0 : Int32)] zMm _
  refine zs_if_neF (pc := 7) t227_7 li0 (by decide) ?_
  refine zs_iconst (pc := 10) t227_10 (v := 0) (by decide) ?_
  exact zs_iret (pc := 11) t227_11 mr227 (by decide) rfl
theorem c39_0 {X : zX} {l : Launch} {a : Int32} (la : (-2147483648) ≤ a.toInt) (ua : a.toInt ≤ (-1)) : zCall X l 4 0 0 216 [.ref 6, .int a] zMc (fun r _ => r = some (.int (0 : Int32))) := by
  have ga := zrg a
  refine zs_in (by decide) mf216 (Nat.le_of_ble_eq_true rfl) ?_
  show zGo X l 4 0 0 216 0 [(0, .ref 6), (1, .int a)] [] zMc _
  refine zs_aload_n (pc := 0) t216_0 rfl ?_
  refine zs_get (pc := 1) t216_1 (by decide) (zk1 fk_zMc_6) fv_zMc_6_2 ?_
  refine zs_iload_n (pc := 4) t216_4 rfl ?_
  refine zs_invV (pc := 5) (k := 31) (as' := [.int a]) (st := []) t216_5 mf217 rfl rfl (Or.inl ⟨by decide, (zk1 fk_zMc_31)⟩) ⟨by decide, by decide, Nat.le_of_ble_eq_true rfl, Nat.le_of_ble_eq_true rfl⟩ (zs_in (by decide) mf217 (Nat.le_of_ble_eq_true rfl) ?_) (fun _ _ q => q)
  show zGo X l 0 0 0 217 0 [(0, .ref 31), (1, .int a)] [] zMc _
  refine zs_iload_n (pc := 0) t217_0 rfl ?_
  refine zs_if_eqF (pc := 1) t217_1 rfl (by omega) ?_
  refine zs_iload_n (pc := 4) t217_4 rfl ?_
  refine zs_iconst (pc := 5) t217_5 (v := 1) (by decide) ?_
  refine zs_icmp_neT (pc := 6) t217_6 rfl li1 (by omega) ?_
  refine zs_iconst (pc := 22) t217_22 (v := 0) (by decide) ?_
  refine zs_iret (pc := 23) t217_23 mr217 (by decide) ?_
  show zGo X l 4 0 0 216 8 [(0, .ref 6), (1, .int a)] [.int (0 : Int32)] zMc _
  refine zs_if_neF (pc := 8) t216_8 li0 (by decide) ?_
  refine zs_iconst (pc := 11) t216_11 (v := 0) (by decide) ?_
  exact zs_iret (pc := 12) t216_12 mr216 (by decide) rfl
theorem m39_0 {X : zX} {l : Launch} {a : Int32} (la : (-2147483648) ≤ a.toInt) (ua : a.toInt ≤ (-1)) : zCall X l 2 0 0 229 [.ref 336, .int a] zMm (fun r _ => r = some (.int (0 : Int32))) := by
  have ga := zrg a
  refine zs_in (by decide) mf229 (Nat.le_of_ble_eq_true rfl) ?_
  show zGo X l 2 0 0 229 0 [(0, .ref 336), (1, .int a)] [] zMm _
  refine zs_iload_n (pc := 0) t229_0 rfl ?_
  refine zs_i2l (pc := 1) t229_1 rfl ?_
  refine zs_lconst (pc := 2) t229_2 (v := 0) (by decide) ?_
  refine zs_lconst (pc := 3) t229_3 (v := 1) (by decide) ?_
  refine zs_invS (pc := 4) (as := [.long a.toInt64, .long (0 : Int64), .long (1 : Int64)]) (st := []) t229_4 (by decide) mf228 rfl rfl ⟨by decide, by decide, Nat.le_of_ble_eq_true rfl, Nat.le_of_ble_eq_true rfl⟩ (zs_in (by decide) mf228 (Nat.le_of_ble_eq_true rfl) ?_) (fun _ _ q => q)
  show zGo X l 0 0 0 228 0 [(0, .long a.toInt64), (2, .long (0 : Int64)), (4, .long (1 : Int64))] [] zMm _
  refine zs_lload_n (pc := 0) t228_0 rfl ?_
  refine zs_lload_n (pc := 1) t228_1 rfl ?_
  refine zs_lcmp (pc := 2) t228_2 (c := -1) (zlcL (zi2l rfl) ll0 (by omega)) ?_
  refine zs_if_ltT (pc := 3) t228_3 lin1 (by decide) ?_
  refine zs_iconst (pc := 17) t228_17 (v := 0) (by decide) ?_
  refine zs_iret (pc := 18) t228_18 mr228 (by decide) ?_
  show zGo X l 2 0 0 229 7 [(0, .ref 336), (1, .int a)] [.int (0 : Int32)] zMm _
  refine zs_if_eqT (pc := 7) t229_7 li0 (by decide) ?_
  refine zs_iconst (pc := 19) t229_19 (v := 0) (by decide) ?_
  exact zs_iret (pc := 20) t229_20 mr229 (by decide) rfl
theorem c39_1 {X : zX} {l : Launch} : zCall X l 4 0 0 216 [.ref 6, .int (0 : Int32)] zMc (fun r _ => r = some (.int (0 : Int32))) := zs_run (q := 36) (Qb := fun r _ => decide (r = some (.int (0 : Int32)))) mf216 (by decide) (by decide +kernel) (fun _ _ q => of_decide_eq_true q)
theorem m39_1 {X : zX} {l : Launch} : zCall X l 2 0 0 229 [.ref 336, .int (0 : Int32)] zMm (fun r _ => r = some (.int (0 : Int32))) := zs_run (q := 44) (Qb := fun r _ => decide (r = some (.int (0 : Int32)))) mf229 (by decide) (by decide +kernel) (fun _ _ q => of_decide_eq_true q)
theorem c39_2 {X : zX} {l : Launch} : zCall X l 4 0 0 216 [.ref 6, .int (1 : Int32)] zMc (fun r _ => r = some (.int (0 : Int32))) := zs_run (q := 39) (Qb := fun r _ => decide (r = some (.int (0 : Int32)))) mf216 (by decide) (by decide +kernel) (fun _ _ q => of_decide_eq_true q)
theorem m39_2 {X : zX} {l : Launch} : zCall X l 2 0 0 229 [.ref 336, .int (1 : Int32)] zMm (fun r _ => r = some (.int (0 : Int32))) := zs_run (q := 44) (Qb := fun r _ => decide (r = some (.int (0 : Int32)))) mf229 (by decide) (by decide +kernel) (fun _ _ q => of_decide_eq_true q)
theorem c39_3 {X : zX} {l : Launch} {a : Int32} (la : 2 ≤ a.toInt) (ua : a.toInt ≤ 2147483647) : zCall X l 4 0 0 216 [.ref 6, .int a] zMc (fun r _ => r = some (.int (0 : Int32))) := by
  have ga := zrg a
  refine zs_in (by decide) mf216 (Nat.le_of_ble_eq_true rfl) ?_
  show zGo X l 4 0 0 216 0 [(0, .ref 6), (1, .int a)] [] zMc _
  refine zs_aload_n (pc := 0) t216_0 rfl ?_
  refine zs_get (pc := 1) t216_1 (by decide) (zk1 fk_zMc_6) fv_zMc_6_2 ?_
  refine zs_iload_n (pc := 4) t216_4 rfl ?_
  refine zs_invV (pc := 5) (k := 31) (as' := [.int a]) (st := []) t216_5 mf217 rfl rfl (Or.inl ⟨by decide, (zk1 fk_zMc_31)⟩) ⟨by decide, by decide, Nat.le_of_ble_eq_true rfl, Nat.le_of_ble_eq_true rfl⟩ (zs_in (by decide) mf217 (Nat.le_of_ble_eq_true rfl) ?_) (fun _ _ q => q)
  show zGo X l 0 0 0 217 0 [(0, .ref 31), (1, .int a)] [] zMc _
  refine zs_iload_n (pc := 0) t217_0 rfl ?_
  refine zs_if_eqF (pc := 1) t217_1 rfl (by omega) ?_
  refine zs_iload_n (pc := 4) t217_4 rfl ?_
  refine zs_iconst (pc := 5) t217_5 (v := 1) (by decide) ?_
  refine zs_icmp_neT (pc := 6) t217_6 rfl li1 (by omega) ?_
  refine zs_iconst (pc := 22) t217_22 (v := 0) (by decide) ?_
  refine zs_iret (pc := 23) t217_23 mr217 (by decide) ?_
  show zGo X l 4 0 0 216 8 [(0, .ref 6), (1, .int a)] [.int (0 : Int32)] zMc _
  refine zs_if_neF (pc := 8) t216_8 li0 (by decide) ?_
  refine zs_iconst (pc := 11) t216_11 (v := 0) (by decide) ?_
  exact zs_iret (pc := 12) t216_12 mr216 (by decide) rfl
theorem m39_3 {X : zX} {l : Launch} {a : Int32} (la : 2 ≤ a.toInt) (ua : a.toInt ≤ 2147483647) : zCall X l 2 0 0 229 [.ref 336, .int a] zMm (fun r _ => r = some (.int (0 : Int32))) := by
  have ga := zrg a
  refine zs_in (by decide) mf229 (Nat.le_of_ble_eq_true rfl) ?_
  show zGo X l 2 0 0 229 0 [(0, .ref 336), (1, .int a)] [] zMm _
  refine zs_iload_n (pc := 0) t229_0 rfl ?_
  refine zs_i2l (pc := 1) t229_1 rfl ?_
  refine zs_lconst (pc := 2) t229_2 (v := 0) (by decide) ?_
  refine zs_lconst (pc := 3) t229_3 (v := 1) (by decide) ?_
  refine zs_invS (pc := 4) (as := [.long a.toInt64, .long (0 : Int64), .long (1 : Int64)]) (st := []) t229_4 (by decide) mf228 rfl rfl ⟨by decide, by decide, Nat.le_of_ble_eq_true rfl, Nat.le_of_ble_eq_true rfl⟩ (zs_in (by decide) mf228 (Nat.le_of_ble_eq_true rfl) ?_) (fun _ _ q => q)
  show zGo X l 0 0 0 228 0 [(0, .long a.toInt64), (2, .long (0 : Int64)), (4, .long (1 : Int64))] [] zMm _
  refine zs_lload_n (pc := 0) t228_0 rfl ?_
  refine zs_lload_n (pc := 1) t228_1 rfl ?_
  refine zs_lcmp (pc := 2) t228_2 (c := 1) (zlcG (zi2l rfl) ll0 (by omega)) ?_
  refine zs_if_ltF (pc := 3) t228_3 li1 (by decide) ?_
  refine zs_lload_n (pc := 6) t228_6 rfl ?_
  refine zs_lload (pc := 7) t228_7 rfl ?_
  refine zs_lcmp (pc := 9) t228_9 (c := 1) (zlcG (zi2l rfl) ll1 (by omega)) ?_
  refine zs_if_gtT (pc := 10) t228_10 li1 (by decide) ?_
  refine zs_iconst (pc := 17) t228_17 (v := 0) (by decide) ?_
  refine zs_iret (pc := 18) t228_18 mr228 (by decide) ?_
  show zGo X l 2 0 0 229 7 [(0, .ref 336), (1, .int a)] [.int (0 : Int32)] zMm _
  refine zs_if_eqT (pc := 7) t229_7 li0 (by decide) ?_
  refine zs_iconst (pc := 19) t229_19 (v := 0) (by decide) ?_
  exact zs_iret (pc := 20) t229_20 mr229 (by decide) rfl
theorem c40_0 {X : zX} {l : Launch} : zCall X l 3 0 0 219 [.ref 6] zMc (fun r _ => r = some (.int (30 : Int32))) := zs_run (q := 1566) (Qb := fun r _ => decide (r = some (.int (30 : Int32)))) mf219 (by decide) (by decide +kernel) (fun _ _ q => of_decide_eq_true q)
theorem m40_0 {X : zX} {l : Launch} : zCall X l 2 0 0 346 [.ref 336] zMm (fun r _ => r = some (.int (30 : Int32))) := zs_run (q := 1036) (Qb := fun r _ => decide (r = some (.int (30 : Int32)))) mf346 (by decide) (by decide +kernel) (fun _ _ q => of_decide_eq_true q)
theorem c41_0 {X : zX} {l : Launch} {a : Int32} : zCall X l 0 0 0 223 [.ref 6, .int a] zMc (fun r _ => r = some (.int (-1 : Int32))) := by
  have ga := zrg a
  refine zs_in (by decide) mf223 (Nat.le_of_ble_eq_true rfl) ?_
  show zGo X l 0 0 0 223 0 [(0, .ref 6), (1, .int a)] [] zMc _
  refine zs_iload_n (pc := 0) t223_0 rfl ?_
  by_cases w1 : a.toInt < 0
  · refine zs_if_ltT (pc := 1) t223_1 rfl (by omega) ?_
    refine zs_iconst (pc := 12) t223_12 (v := -1) (by decide) ?_
    refine zs_goto (pc := 13) t223_13 ?_
    exact zs_iret (pc := 26) t223_26 mr223 (by decide) rfl
  · refine zs_if_ltF (pc := 1) t223_1 rfl (by omega) ?_
    refine zs_iload_n (pc := 4) t223_4 rfl ?_
    refine zs_aload_n (pc := 5) t223_5 rfl ?_
    refine zs_get (pc := 6) t223_6 (by decide) (zk1 fk_zMc_6) fv_zMc_6_10 ?_
    refine zs_icmp_ltF (pc := 9) t223_9 rfl li0 (by omega) ?_
    refine zs_iconst (pc := 12) t223_12 (v := -1) (by decide) ?_
    refine zs_goto (pc := 13) t223_13 ?_
    exact zs_iret (pc := 26) t223_26 mr223 (by decide) rfl
theorem m41_0 {X : zX} {l : Launch} {a : Int32} : zCall X l 1 0 0 349 [.ref 336, .int a] zMm (fun r _ => r = some (.int (-1 : Int32))) := by
  have ga := zrg a
  refine zs_in (by decide) mf349 (Nat.le_of_ble_eq_true rfl) ?_
  show zGo X l 1 0 0 349 0 [(0, .ref 336), (1, .int a)] [] zMm _
  refine zs_iload_n (pc := 0) t349_0 rfl ?_
  refine zs_i2l (pc := 1) t349_1 rfl ?_
  refine zs_lconst (pc := 2) t349_2 (v := 0) (by decide) ?_
  refine zs_aload_n (pc := 3) t349_3 rfl ?_
  refine zs_get (pc := 4) t349_4 (by decide) (zk1 fk_zMm_336) fv_zMm_336_50 ?_
  refine zs_iconst (pc := 7) t349_7 (v := 1) (by decide) ?_
  refine zs_isub (pc := 8) t349_8 (c := -1) (by decide) ?_
  refine zs_i2l (pc := 9) t349_9 (c := -1) (by decide) ?_
  refine zs_invS (pc := 10) (as := [.long a.toInt64, .long (0 : Int64), .long (-1 : Int64)]) (st := []) t349_10 (by decide) mf228 rfl rfl ⟨by decide, by decide, Nat.le_of_ble_eq_true rfl, Nat.le_of_ble_eq_true rfl⟩ (zs_in (by decide) mf228 (Nat.le_of_ble_eq_true rfl) ?_) (fun _ _ q => q)
  show zGo X l 0 0 0 228 0 [(0, .long a.toInt64), (2, .long (0 : Int64)), (4, .long (-1 : Int64))] [] zMm _
  refine zs_lload_n (pc := 0) t228_0 rfl ?_
  refine zs_lload_n (pc := 1) t228_1 rfl ?_
  by_cases w1 : a.toInt < 0
  · refine zs_lcmp (pc := 2) t228_2 (c := -1) (zlcL (zi2l rfl) ll0 (by omega)) ?_
    refine zs_if_ltT (pc := 3) t228_3 lin1 (by decide) ?_
    refine zs_iconst (pc := 17) t228_17 (v := 0) (by decide) ?_
    refine zs_iret (pc := 18) t228_18 mr228 (by decide) ?_
    show zGo X l 1 0 0 349 13 [(0, .ref 336), (1, .int a)] [.int (0 : Int32)] zMm _
    refine zs_if_eqT (pc := 13) t349_13 li0 (by decide) ?_
    refine zs_iconst (pc := 25) t349_25 (v := -1) (by decide) ?_
    exact zs_iret (pc := 26) t349_26 mr349 (by decide) rfl
  by_cases w2 : a.toInt = 0
  · refine zs_lcmp (pc := 2) t228_2 (c := 0) (zlcE (zi2l rfl) ll0 (by omega)) ?_
    refine zs_if_ltF (pc := 3) t228_3 li0 (by decide) ?_
    refine zs_lload_n (pc := 6) t228_6 rfl ?_
    refine zs_lload (pc := 7) t228_7 rfl ?_
    refine zs_lcmp (pc := 9) t228_9 (c := 1) (zlcG (zi2l rfl) lln1 (by omega)) ?_
    refine zs_if_gtT (pc := 10) t228_10 li1 (by decide) ?_
    refine zs_iconst (pc := 17) t228_17 (v := 0) (by decide) ?_
    refine zs_iret (pc := 18) t228_18 mr228 (by decide) ?_
    show zGo X l 1 0 0 349 13 [(0, .ref 336), (1, .int a)] [.int (0 : Int32)] zMm _
    refine zs_if_eqT (pc := 13) t349_13 li0 (by decide) ?_
    refine zs_iconst (pc := 25) t349_25 (v := -1) (by decide) ?_
    exact zs_iret (pc := 26) t349_26 mr349 (by decide) rfl
  refine zs_lcmp (pc := 2) t228_2 (c := 1) (zlcG (zi2l rfl) ll0 (by omega)) ?_
  refine zs_if_ltF (pc := 3) t228_3 li1 (by decide) ?_
  refine zs_lload_n (pc := 6) t228_6 rfl ?_
  refine zs_lload (pc := 7) t228_7 rfl ?_
  refine zs_lcmp (pc := 9) t228_9 (c := 1) (zlcG (zi2l rfl) lln1 (by omega)) ?_
  refine zs_if_gtT (pc := 10) t228_10 li1 (by decide) ?_
  refine zs_iconst (pc := 17) t228_17 (v := 0) (by decide) ?_
  refine zs_iret (pc := 18) t228_18 mr228 (by decide) ?_
  show zGo X l 1 0 0 349 13 [(0, .ref 336), (1, .int a)] [.int (0 : Int32)] zMm _
  refine zs_if_eqT (pc := 13) t349_13 li0 (by decide) ?_
  refine zs_iconst (pc := 25) t349_25 (v := -1) (by decide) ?_
  exact zs_iret (pc := 26) t349_26 mr349 (by decide) rfl
