theorem c1_0 {X : zX} {l : Launch} {a : Int32} (la : (-2147483648) ≤ a.toInt) (ua : a.toInt ≤ (-1)) : zCall X l 2 0 0 18 [.ref 6, .int a] zMc (fun r _ => r = some (.int (-1 : Int32))) := by
  have ga := zrg a
  refine zs_in (by decide) mf18 (Nat.le_of_ble_eq_true rfl) ?_
  show zGo X l 2 0 0 18 0 [(0, .ref 6), (1, .int a)] [] zMc _
  refine zs_iload_n (pc := 0) t18_0 rfl ?_
  refine zs_if_ltT (pc := 1) t18_1 rfl (by omega) ?_
  refine zs_iconst (pc := 15) t18_15 (v := -1) (by decide) ?_
  exact zs_iret (pc := 16) t18_16 mr18 (by decide) rfl
theorem m1_0 {X : zX} {l : Launch} {a : Int32} (la : (-2147483648) ≤ a.toInt) (ua : a.toInt ≤ (-1)) : zCall X l 1 0 0 233 [.ref 336, .int a] zMm (fun r _ => r = some (.int (-1 : Int32))) := by
  have ga := zrg a
  refine zs_in (by decide) mf233 (Nat.le_of_ble_eq_true rfl) ?_
  show zGo X l 1 0 0 233 0 [(0, .ref 336), (1, .int a)] [] zMm _
  refine zs_iload_n (pc := 0) t233_0 rfl ?_
  refine zs_i2l (pc := 1) t233_1 rfl ?_
  refine zs_lconst (pc := 2) t233_2 (v := 0) (by decide) ?_
  refine zs_aload_n (pc := 3) t233_3 rfl ?_
  refine zs_get (pc := 4) t233_4 (by decide) (zk1 fk_zMm_336) fv_zMm_336_5 ?_
  refine zs_i2l (pc := 7) t233_7 (c := 0) (by decide) ?_
  refine zs_invS (pc := 8) (as := [.long a.toInt64, .long (0 : Int64), .long (0 : Int64)]) (st := []) t233_8 (by decide) mf228 rfl rfl ⟨by decide, by decide, Nat.le_of_ble_eq_true rfl, Nat.le_of_ble_eq_true rfl⟩ (zs_in (by decide) mf228 (Nat.le_of_ble_eq_true rfl) ?_) (fun _ _ q => q)
  show zGo X l 0 0 0 228 0 [(0, .long a.toInt64), (2, .long (0 : Int64)), (4, .long (0 : Int64))] [] zMm _
  refine zs_lload_n (pc := 0) t228_0 rfl ?_
  refine zs_lload_n (pc := 1) t228_1 rfl ?_
  refine zs_lcmp (pc := 2) t228_2 (c := -1) (zlcL (zi2l rfl) ll0 (by omega)) ?_
  refine zs_if_ltT (pc := 3) t228_3 lin1 (by decide) ?_
  refine zs_iconst (pc := 17) t228_17 (v := 0) (by decide) ?_
  refine zs_iret (pc := 18) t228_18 mr228 (by decide) ?_
  show zGo X l 1 0 0 233 11 [(0, .ref 336), (1, .int a)] [.int (0 : Int32)] zMm _
  refine zs_if_neF (pc := 11) t233_11 li0 (by decide) ?_
  refine zs_iconst (pc := 14) t233_14 (v := -1) (by decide) ?_
  exact zs_iret (pc := 15) t233_15 mr233 (by decide) rfl
theorem c1_1 {X : zX} {l : Launch} : zCall X l 2 0 0 18 [.ref 6, .int (0 : Int32)] zMc (fun r _ => r = some (.int (0 : Int32))) := zs_run (q := 57) (Qb := fun r _ => decide (r = some (.int (0 : Int32)))) mf18 (by decide) (by decide +kernel) (fun _ _ q => of_decide_eq_true q)
theorem m1_1 {X : zX} {l : Launch} : zCall X l 1 0 0 233 [.ref 336, .int (0 : Int32)] zMm (fun r _ => r = some (.int (0 : Int32))) := zs_run (q := 44) (Qb := fun r _ => decide (r = some (.int (0 : Int32)))) mf233 (by decide) (by decide +kernel) (fun _ _ q => of_decide_eq_true q)
theorem c1_2 {X : zX} {l : Launch} {a : Int32} (la : 1 ≤ a.toInt) (ua : a.toInt ≤ 2147483647) : zCall X l 2 0 0 18 [.ref 6, .int a] zMc (fun r _ => r = some (.int (-1 : Int32))) := by
  have ga := zrg a
  refine zs_in (by decide) mf18 (Nat.le_of_ble_eq_true rfl) ?_
  show zGo X l 2 0 0 18 0 [(0, .ref 6), (1, .int a)] [] zMc _
  refine zs_iload_n (pc := 0) t18_0 rfl ?_
  refine zs_if_ltF (pc := 1) t18_1 rfl (by omega) ?_
  refine zs_iload_n (pc := 4) t18_4 rfl ?_
  refine zs_aload_n (pc := 5) t18_5 rfl ?_
  refine zs_get (pc := 6) t18_6 (by decide) (zk1 fk_zMc_6) fv_zMc_6_3 ?_
  refine zs_invV (pc := 9) (k := 155) (as' := []) (st := [.int a]) t18_9 mf17 rfl rfl (Or.inl ⟨by decide, (zk1 fk_zMc_155)⟩) ⟨by decide, by decide, Nat.le_of_ble_eq_true rfl, Nat.le_of_ble_eq_true rfl⟩ (zs_in (by decide) mf17 (Nat.le_of_ble_eq_true rfl) ?_) (fun _ _ q => q)
  show zGo X l 0 0 0 17 0 [(0, .ref 155)] [] zMc _
  refine zs_aload_n (pc := 0) t17_0 rfl ?_
  refine zs_get (pc := 1) t17_1 (by decide) (zk1 fk_zMc_155) fv_zMc_155_1 ?_
  refine zs_iret (pc := 4) t17_4 mr17 (by decide) ?_
  show zGo X l 2 0 0 18 12 [(0, .ref 6), (1, .int a)] [.int (0 : Int32), .int a] zMc _
  refine zs_icmp_leF (pc := 12) t18_12 rfl li0 (by omega) ?_
  refine zs_iconst (pc := 15) t18_15 (v := -1) (by decide) ?_
  exact zs_iret (pc := 16) t18_16 mr18 (by decide) rfl
theorem m1_2 {X : zX} {l : Launch} {a : Int32} (la : 1 ≤ a.toInt) (ua : a.toInt ≤ 2147483647) : zCall X l 1 0 0 233 [.ref 336, .int a] zMm (fun r _ => r = some (.int (-1 : Int32))) := by
  have ga := zrg a
  refine zs_in (by decide) mf233 (Nat.le_of_ble_eq_true rfl) ?_
  show zGo X l 1 0 0 233 0 [(0, .ref 336), (1, .int a)] [] zMm _
  refine zs_iload_n (pc := 0) t233_0 rfl ?_
  refine zs_i2l (pc := 1) t233_1 rfl ?_
  refine zs_lconst (pc := 2) t233_2 (v := 0) (by decide) ?_
  refine zs_aload_n (pc := 3) t233_3 rfl ?_
  refine zs_get (pc := 4) t233_4 (by decide) (zk1 fk_zMm_336) fv_zMm_336_5 ?_
  refine zs_i2l (pc := 7) t233_7 (c := 0) (by decide) ?_
  refine zs_invS (pc := 8) (as := [.long a.toInt64, .long (0 : Int64), .long (0 : Int64)]) (st := []) t233_8 (by decide) mf228 rfl rfl ⟨by decide, by decide, Nat.le_of_ble_eq_true rfl, Nat.le_of_ble_eq_true rfl⟩ (zs_in (by decide) mf228 (Nat.le_of_ble_eq_true rfl) ?_) (fun _ _ q => q)
  show zGo X l 0 0 0 228 0 [(0, .long a.toInt64), (2, .long (0 : Int64)), (4, .long (0 : Int64))] [] zMm _
  refine zs_lload_n (pc := 0) t228_0 rfl ?_
  refine zs_lload_n (pc := 1) t228_1 rfl ?_
  refine zs_lcmp (pc := 2) t228_2 (c := 1) (zlcG (zi2l rfl) ll0 (by omega)) ?_
  refine zs_if_ltF (pc := 3) t228_3 li1 (by decide) ?_
  refine zs_lload_n (pc := 6) t228_6 rfl ?_
  refine zs_lload (pc := 7) t228_7 rfl ?_
  refine zs_lcmp (pc := 9) t228_9 (c := 1) (zlcG (zi2l rfl) ll0 (by omega)) ?_
  refine zs_if_gtT (pc := 10) t228_10 li1 (by decide) ?_
  refine zs_iconst (pc := 17) t228_17 (v := 0) (by decide) ?_
  refine zs_iret (pc := 18) t228_18 mr228 (by decide) ?_
  show zGo X l 1 0 0 233 11 [(0, .ref 336), (1, .int a)] [.int (0 : Int32)] zMm _
  refine zs_if_neF (pc := 11) t233_11 li0 (by decide) ?_
  refine zs_iconst (pc := 14) t233_14 (v := -1) (by decide) ?_
  exact zs_iret (pc := 15) t233_15 mr233 (by decide) rfl
theorem c2_0 {X : zX} {l : Launch} : zCall X l 7 0 0 22 [.ref 6] zMc (fun r _ => r = some (.int (0 : Int32))) := zs_run (q := 563) (Qb := fun r _ => decide (r = some (.int (0 : Int32)))) mf22 (by decide) (by decide +kernel) (fun _ _ q => of_decide_eq_true q)
theorem m2_0 {X : zX} {l : Launch} : zCall X l 6 0 0 235 [.ref 336] zMm (fun r _ => r = some (.int (0 : Int32))) := zs_run (q := 21347) (Qb := fun r _ => decide (r = some (.int (0 : Int32)))) mf235 (by decide) (by decide +kernel) (fun _ _ q => of_decide_eq_true q)
theorem c3_0 {X : zX} {l : Launch} : zCall X l 99 0 0 62 [.ref 6] zMc (fun r _ => r = some (.int (0 : Int32))) := zs_runD (q := 282) (D := 99) (Qb := fun r _ => decide (r = some (.int (0 : Int32)))) (by decide) mf62 (by decide) (by decide +kernel) (fun _ _ q => of_decide_eq_true q)
theorem m3_0 {X : zX} {l : Launch} : zCall X l 7 0 0 254 [.ref 336] zMm (fun r _ => r = some (.int (0 : Int32))) := zs_run (q := 10729) (Qb := fun r _ => decide (r = some (.int (0 : Int32)))) mf254 (by decide) (by decide +kernel) (fun _ _ q => of_decide_eq_true q)
theorem c4_0 {X : zX} {l : Launch} : zCall X l 6 0 0 82 [.ref 6] zMc (fun r _ => r = some (.int (0 : Int32))) := zs_run (q := 112) (Qb := fun r _ => decide (r = some (.int (0 : Int32)))) mf82 (by decide) (by decide +kernel) (fun _ _ q => of_decide_eq_true q)
theorem m4_0 {X : zX} {l : Launch} : zCall X l 5 0 0 342 [.ref 336] zMm (fun r _ => r = some (.int (0 : Int32))) := zs_run (q := 69) (Qb := fun r _ => decide (r = some (.int (0 : Int32)))) mf342 (by decide) (by decide +kernel) (fun _ _ q => of_decide_eq_true q)
theorem c5_0 {X : zX} {l : Launch} : zCall X l 0 0 0 97 [.ref 6] zMc (fun r _ => r = some (.int (-1 : Int32))) := zs_run (q := 23) (Qb := fun r _ => decide (r = some (.int (-1 : Int32)))) mf97 (by decide) (by decide +kernel) (fun _ _ q => of_decide_eq_true q)
theorem m5_0 {X : zX} {l : Launch} : zCall X l 0 0 0 234 [.ref 336] zMm (fun r _ => r = some (.int (-1 : Int32))) := zs_run (q := 23) (Qb := fun r _ => decide (r = some (.int (-1 : Int32)))) mf234 (by decide) (by decide +kernel) (fun _ _ q => of_decide_eq_true q)
theorem c6_0 {X : zX} {l : Launch} : zCall X l 0 0 0 98 [.ref 6] zMc (fun r _ => r = some (.int (-1 : Int32))) := zs_run (q := 23) (Qb := fun r _ => decide (r = some (.int (-1 : Int32)))) mf98 (by decide) (by decide +kernel) (fun _ _ q => of_decide_eq_true q)
theorem m6_0 {X : zX} {l : Launch} : zCall X l 0 0 0 345 [.ref 336] zMm (fun r _ => r = some (.int (-1 : Int32))) := zs_run (q := 23) (Qb := fun r _ => decide (r = some (.int (-1 : Int32)))) mf345 (by decide) (by decide +kernel) (fun _ _ q => of_decide_eq_true q)
theorem c7_0 {X : zX} {l : Launch} {a : Int32} (la : (-2147483648) ≤ a.toInt) (ua : a.toInt ≤ (-1)) : zCall X l 3 0 0 99 [.ref 6, .int a] zMc (fun r _ => r = some (.int (-1 : Int32))) := by
  have ga := zrg a
  refine zs_in (by decide) mf99 (Nat.le_of_ble_eq_true rfl) ?_
  show zGo X l 3 0 0 99 0 [(0, .ref 6), (1, .int a)] [] zMc _
  refine zs_iload_n (pc := 0) t99_0 rfl ?_
  refine zs_iconst (pc := 1) t99_1 (v := 5) (by decide) ?_
  refine zs_icmp_ltT (pc := 2) t99_2 rfl li5 (by omega) ?_
  refine zs_iload_n (pc := 22) t99_22 rfl ?_
  refine zs_tswD (pc := 23) t99_23 rfl (by omega) (pc2 := 156) rfl ?_
  refine zs_iconst (pc := 156) t99_156 (v := -1) (by decide) ?_
  exact zs_iret (pc := 157) t99_157 mr99 (by decide) rfl
theorem m7_0 {X : zX} {l : Launch} {a : Int32} (la : (-2147483648) ≤ a.toInt) (ua : a.toInt ≤ (-1)) : zCall X l 3 0 0 304 [.ref 336, .int a] zMm (fun r _ => r = some (.int (-1 : Int32))) := by
  have ga := zrg a
  refine zs_in (by decide) mf304 (Nat.le_of_ble_eq_true rfl) ?_
  show zGo X l 3 0 0 304 0 [(0, .ref 336), (1, .int a)] [] zMm _
  refine zs_iload_n (pc := 0) t304_0 rfl ?_
  refine zs_tswD (pc := 1) t304_1 rfl (by omega) (pc2 := 122) rfl ?_
  refine zs_iload_n (pc := 122) t304_122 rfl ?_
  refine zs_i2l (pc := 123) t304_123 rfl ?_
  refine zs_ldc2_w (pc := 124) t304_124 (v := 5) (by decide) ?_
  refine zs_ldc2_w (pc := 127) t304_127 (v := 13) (by decide) ?_
  refine zs_invS (pc := 130) (as := [.long a.toInt64, .long (5 : Int64), .long (13 : Int64)]) (st := []) t304_130 (by decide) mf228 rfl rfl ⟨by decide, by decide, Nat.le_of_ble_eq_true rfl, Nat.le_of_ble_eq_true rfl⟩ (zs_in (by decide) mf228 (Nat.le_of_ble_eq_true rfl) ?_) (fun _ _ q => q)
  show zGo X l 0 0 0 228 0 [(0, .long a.toInt64), (2, .long (5 : Int64)), (4, .long (13 : Int64))] [] zMm _
  refine zs_lload_n (pc := 0) t228_0 rfl ?_
  refine zs_lload_n (pc := 1) t228_1 rfl ?_
  refine zs_lcmp (pc := 2) t228_2 (c := -1) (zlcL (zi2l rfl) ll5 (by omega)) ?_
  refine zs_if_ltT (pc := 3) t228_3 lin1 (by decide) ?_
  refine zs_iconst (pc := 17) t228_17 (v := 0) (by decide) ?_
  refine zs_iret (pc := 18) t228_18 mr228 (by decide) ?_
  show zGo X l 3 0 0 304 133 [(0, .ref 336), (1, .int a)] [.int (0 : Int32)] zMm _
  refine zs_if_eqT (pc := 133) t304_133 li0 (by decide) ?_
  refine zs_iconst (pc := 149) t304_149 (v := -1) (by decide) ?_
  exact zs_iret (pc := 150) t304_150 mr304 (by decide) rfl
theorem c7_1 {X : zX} {l : Launch} : zCall X l 3 0 0 99 [.ref 6, .int (0 : Int32)] zMc (fun r _ => r = some (.int (0 : Int32))) := zs_run (q := 29) (Qb := fun r _ => decide (r = some (.int (0 : Int32)))) mf99 (by decide) (by decide +kernel) (fun _ _ q => of_decide_eq_true q)
theorem m7_1 {X : zX} {l : Launch} : zCall X l 3 0 0 304 [.ref 336, .int (0 : Int32)] zMm (fun r _ => r = some (.int (0 : Int32))) := zs_run (q := 27) (Qb := fun r _ => decide (r = some (.int (0 : Int32)))) mf304 (by decide) (by decide +kernel) (fun _ _ q => of_decide_eq_true q)
theorem c7_2 {X : zX} {l : Launch} : zCall X l 3 0 0 99 [.ref 6, .int (1 : Int32)] zMc (fun r _ => r = some (.int (0 : Int32))) := zs_run (q := 39) (Qb := fun r _ => decide (r = some (.int (0 : Int32)))) mf99 (by decide) (by decide +kernel) (fun _ _ q => of_decide_eq_true q)
theorem m7_2 {X : zX} {l : Launch} : zCall X l 3 0 0 304 [.ref 336, .int (1 : Int32)] zMm (fun r _ => r = some (.int (0 : Int32))) := zs_run (q := 37) (Qb := fun r _ => decide (r = some (.int (0 : Int32)))) mf304 (by decide) (by decide +kernel) (fun _ _ q => of_decide_eq_true q)
theorem c7_3 {X : zX} {l : Launch} : zCall X l 3 0 0 99 [.ref 6, .int (2 : Int32)] zMc (fun r _ => r = some (.int (0 : Int32))) := zs_run (q := 29) (Qb := fun r _ => decide (r = some (.int (0 : Int32)))) mf99 (by decide) (by decide +kernel) (fun _ _ q => of_decide_eq_true q)
theorem m7_3 {X : zX} {l : Launch} : zCall X l 3 0 0 304 [.ref 336, .int (2 : Int32)] zMm (fun r _ => r = some (.int (0 : Int32))) := zs_run (q := 27) (Qb := fun r _ => decide (r = some (.int (0 : Int32)))) mf304 (by decide) (by decide +kernel) (fun _ _ q => of_decide_eq_true q)
theorem c7_4 {X : zX} {l : Launch} : zCall X l 3 0 0 99 [.ref 6, .int (3 : Int32)] zMc (fun r _ => r = some (.int (0 : Int32))) := zs_run (q := 39) (Qb := fun r _ => decide (r = some (.int (0 : Int32)))) mf99 (by decide) (by decide +kernel) (fun _ _ q => of_decide_eq_true q)
theorem m7_4 {X : zX} {l : Launch} : zCall X l 3 0 0 304 [.ref 336, .int (3 : Int32)] zMm (fun r _ => r = some (.int (0 : Int32))) := zs_run (q := 38) (Qb := fun r _ => decide (r = some (.int (0 : Int32)))) mf304 (by decide) (by decide +kernel) (fun _ _ q => of_decide_eq_true q)
theorem c7_5 {X : zX} {l : Launch} : zCall X l 3 0 0 99 [.ref 6, .int (4 : Int32)] zMc (fun r _ => r = some (.int (0 : Int32))) := zs_run (q := 29) (Qb := fun r _ => decide (r = some (.int (0 : Int32)))) mf99 (by decide) (by decide +kernel) (fun _ _ q => of_decide_eq_true q)
theorem m7_5 {X : zX} {l : Launch} : zCall X l 3 0 0 304 [.ref 336, .int (4 : Int32)] zMm (fun r _ => r = some (.int (0 : Int32))) := zs_run (q := 27) (Qb := fun r _ => decide (r = some (.int (0 : Int32)))) mf304 (by decide) (by decide +kernel) (fun _ _ q => of_decide_eq_true q)
theorem c7_6 {X : zX} {l : Launch} : zCall X l 3 0 0 99 [.ref 6, .int (5 : Int32)] zMc (fun r _ => r = some (.int (1 : Int32))) := zs_run (q := 44) (Qb := fun r _ => decide (r = some (.int (1 : Int32)))) mf99 (by decide) (by decide +kernel) (fun _ _ q => of_decide_eq_true q)
theorem m7_6 {X : zX} {l : Launch} : zCall X l 3 0 0 304 [.ref 336, .int (5 : Int32)] zMm (fun r _ => r = some (.int (1 : Int32))) := zs_run (q := 49) (Qb := fun r _ => decide (r = some (.int (1 : Int32)))) mf304 (by decide) (by decide +kernel) (fun _ _ q => of_decide_eq_true q)
theorem c7_7 {X : zX} {l : Launch} : zCall X l 3 0 0 99 [.ref 6, .int (6 : Int32)] zMc (fun r _ => r = some (.int (10 : Int32))) := zs_run (q := 44) (Qb := fun r _ => decide (r = some (.int (10 : Int32)))) mf99 (by decide) (by decide +kernel) (fun _ _ q => of_decide_eq_true q)
theorem m7_7 {X : zX} {l : Launch} : zCall X l 3 0 0 304 [.ref 336, .int (6 : Int32)] zMm (fun r _ => r = some (.int (10 : Int32))) := zs_run (q := 49) (Qb := fun r _ => decide (r = some (.int (10 : Int32)))) mf304 (by decide) (by decide +kernel) (fun _ _ q => of_decide_eq_true q)
theorem c7_8 {X : zX} {l : Launch} : zCall X l 3 0 0 99 [.ref 6, .int (7 : Int32)] zMc (fun r _ => r = some (.int (10 : Int32))) := zs_run (q := 44) (Qb := fun r _ => decide (r = some (.int (10 : Int32)))) mf99 (by decide) (by decide +kernel) (fun _ _ q => of_decide_eq_true q)
theorem m7_8 {X : zX} {l : Launch} : zCall X l 3 0 0 304 [.ref 336, .int (7 : Int32)] zMm (fun r _ => r = some (.int (10 : Int32))) := zs_run (q := 49) (Qb := fun r _ => decide (r = some (.int (10 : Int32)))) mf304 (by decide) (by decide +kernel) (fun _ _ q => of_decide_eq_true q)
theorem c7_9 {X : zX} {l : Launch} : zCall X l 3 0 0 99 [.ref 6, .int (8 : Int32)] zMc (fun r _ => r = some (.int (3 : Int32))) := zs_run (q := 44) (Qb := fun r _ => decide (r = some (.int (3 : Int32)))) mf99 (by decide) (by decide +kernel) (fun _ _ q => of_decide_eq_true q)
theorem m7_9 {X : zX} {l : Launch} : zCall X l 3 0 0 304 [.ref 336, .int (8 : Int32)] zMm (fun r _ => r = some (.int (3 : Int32))) := zs_run (q := 49) (Qb := fun r _ => decide (r = some (.int (3 : Int32)))) mf304 (by decide) (by decide +kernel) (fun _ _ q => of_decide_eq_true q)
theorem c7_10 {X : zX} {l : Launch} : zCall X l 3 0 0 99 [.ref 6, .int (9 : Int32)] zMc (fun r _ => r = some (.int (20 : Int32))) := zs_run (q := 44) (Qb := fun r _ => decide (r = some (.int (20 : Int32)))) mf99 (by decide) (by decide +kernel) (fun _ _ q => of_decide_eq_true q)
theorem m7_10 {X : zX} {l : Launch} : zCall X l 3 0 0 304 [.ref 336, .int (9 : Int32)] zMm (fun r _ => r = some (.int (20 : Int32))) := zs_run (q := 49) (Qb := fun r _ => decide (r = some (.int (20 : Int32)))) mf304 (by decide) (by decide +kernel) (fun _ _ q => of_decide_eq_true q)
theorem c7_11 {X : zX} {l : Launch} : zCall X l 3 0 0 99 [.ref 6, .int (10 : Int32)] zMc (fun r _ => r = some (.int (0 : Int32))) := zs_run (q := 44) (Qb := fun r _ => decide (r = some (.int (0 : Int32)))) mf99 (by decide) (by decide +kernel) (fun _ _ q => of_decide_eq_true q)
theorem m7_11 {X : zX} {l : Launch} : zCall X l 3 0 0 304 [.ref 336, .int (10 : Int32)] zMm (fun r _ => r = some (.int (0 : Int32))) := zs_run (q := 49) (Qb := fun r _ => decide (r = some (.int (0 : Int32)))) mf304 (by decide) (by decide +kernel) (fun _ _ q => of_decide_eq_true q)
theorem c7_12 {X : zX} {l : Launch} : zCall X l 3 0 0 99 [.ref 6, .int (11 : Int32)] zMc (fun r _ => r = some (.int (999 : Int32))) := zs_run (q := 44) (Qb := fun r _ => decide (r = some (.int (999 : Int32)))) mf99 (by decide) (by decide +kernel) (fun _ _ q => of_decide_eq_true q)
theorem m7_12 {X : zX} {l : Launch} : zCall X l 3 0 0 304 [.ref 336, .int (11 : Int32)] zMm (fun r _ => r = some (.int (999 : Int32))) := zs_run (q := 49) (Qb := fun r _ => decide (r = some (.int (999 : Int32)))) mf304 (by decide) (by decide +kernel) (fun _ _ q => of_decide_eq_true q)
theorem c7_13 {X : zX} {l : Launch} : zCall X l 3 0 0 99 [.ref 6, .int (12 : Int32)] zMc (fun r _ => r = some (.int (100 : Int32))) := zs_run (q := 44) (Qb := fun r _ => decide (r = some (.int (100 : Int32)))) mf99 (by decide) (by decide +kernel) (fun _ _ q => of_decide_eq_true q)
theorem m7_13 {X : zX} {l : Launch} : zCall X l 3 0 0 304 [.ref 336, .int (12 : Int32)] zMm (fun r _ => r = some (.int (100 : Int32))) := zs_run (q := 49) (Qb := fun r _ => decide (r = some (.int (100 : Int32)))) mf304 (by decide) (by decide +kernel) (fun _ _ q => of_decide_eq_true q)
theorem c7_14 {X : zX} {l : Launch} : zCall X l 3 0 0 99 [.ref 6, .int (13 : Int32)] zMc (fun r _ => r = some (.int (50 : Int32))) := zs_run (q := 44) (Qb := fun r _ => decide (r = some (.int (50 : Int32)))) mf99 (by decide) (by decide +kernel) (fun _ _ q => of_decide_eq_true q)
theorem m7_14 {X : zX} {l : Launch} : zCall X l 3 0 0 304 [.ref 336, .int (13 : Int32)] zMm (fun r _ => r = some (.int (50 : Int32))) := zs_run (q := 49) (Qb := fun r _ => decide (r = some (.int (50 : Int32)))) mf304 (by decide) (by decide +kernel) (fun _ _ q => of_decide_eq_true q)
theorem c7_15 {X : zX} {l : Launch} : zCall X l 3 0 0 99 [.ref 6, .int (14 : Int32)] zMc (fun r _ => r = some (.int (0 : Int32))) := zs_run (q := 35) (Qb := fun r _ => decide (r = some (.int (0 : Int32)))) mf99 (by decide) (by decide +kernel) (fun _ _ q => of_decide_eq_true q)
theorem m7_15 {X : zX} {l : Launch} : zCall X l 3 0 0 304 [.ref 336, .int (14 : Int32)] zMm (fun r _ => r = some (.int (0 : Int32))) := zs_run (q := 25) (Qb := fun r _ => decide (r = some (.int (0 : Int32)))) mf304 (by decide) (by decide +kernel) (fun _ _ q => of_decide_eq_true q)
theorem c7_16 {X : zX} {l : Launch} : zCall X l 3 0 0 99 [.ref 6, .int (15 : Int32)] zMc (fun r _ => r = some (.int (0 : Int32))) := zs_run (q := 35) (Qb := fun r _ => decide (r = some (.int (0 : Int32)))) mf99 (by decide) (by decide +kernel) (fun _ _ q => of_decide_eq_true q)
theorem m7_16 {X : zX} {l : Launch} : zCall X l 3 0 0 304 [.ref 336, .int (15 : Int32)] zMm (fun r _ => r = some (.int (0 : Int32))) := zs_run (q := 25) (Qb := fun r _ => decide (r = some (.int (0 : Int32)))) mf304 (by decide) (by decide +kernel) (fun _ _ q => of_decide_eq_true q)
theorem c7_17 {X : zX} {l : Launch} {a : Int32} (la : 16 ≤ a.toInt) (ua : a.toInt ≤ 2147483647) : zCall X l 3 0 0 99 [.ref 6, .int a] zMc (fun r _ => r = some (.int (-1 : Int32))) := by
  have ga := zrg a
  refine zs_in (by decide) mf99 (Nat.le_of_ble_eq_true rfl) ?_
  show zGo X l 3 0 0 99 0 [(0, .ref 6), (1, .int a)] [] zMc _
  refine zs_iload_n (pc := 0) t99_0 rfl ?_
  refine zs_iconst (pc := 1) t99_1 (v := 5) (by decide) ?_
  refine zs_icmp_ltF (pc := 2) t99_2 rfl li5 (by omega) ?_
  refine zs_iload_n (pc := 5) t99_5 rfl ?_
  refine zs_bipush (pc := 6) t99_6 (v := 14) (by decide) ?_
  refine zs_icmp_geT (pc := 8) t99_8 rfl li14 (by omega) ?_
  refine zs_iload_n (pc := 22) t99_22 rfl ?_
  refine zs_tswD (pc := 23) t99_23 rfl (by omega) (pc2 := 156) rfl ?_
  refine zs_iconst (pc := 156) t99_156 (v := -1) (by decide) ?_
  exact zs_iret (pc := 157) t99_157 mr99 (by decide) rfl
theorem m7_17 {X : zX} {l : Launch} {a : Int32} (la : 16 ≤ a.toInt) (ua : a.toInt ≤ 2147483647) : zCall X l 3 0 0 304 [.ref 336, .int a] zMm (fun r _ => r = some (.int (-1 : Int32))) := by
  have ga := zrg a
  refine zs_in (by decide) mf304 (Nat.le_of_ble_eq_true rfl) ?_
  show zGo X l 3 0 0 304 0 [(0, .ref 336), (1, .int a)] [] zMm _
  refine zs_iload_n (pc := 0) t304_0 rfl ?_
  refine zs_tswD (pc := 1) t304_1 rfl (by omega) (pc2 := 122) rfl ?_
  refine zs_iload_n (pc := 122) t304_122 rfl ?_
  refine zs_i2l (pc := 123) t304_123 rfl ?_
  refine zs_ldc2_w (pc := 124) t304_124 (v := 5) (by decide) ?_
  refine zs_ldc2_w (pc := 127) t304_127 (v := 13) (by decide) ?_
  refine zs_invS (pc := 130) (as := [.long a.toInt64, .long (5 : Int64), .long (13 : Int64)]) (st := []) t304_130 (by decide) mf228 rfl rfl ⟨by decide, by decide, Nat.le_of_ble_eq_true rfl, Nat.le_of_ble_eq_true rfl⟩ (zs_in (by decide) mf228 (Nat.le_of_ble_eq_true rfl) ?_) (fun _ _ q => q)
  show zGo X l 0 0 0 228 0 [(0, .long a.toInt64), (2, .long (5 : Int64)), (4, .long (13 : Int64))] [] zMm _
  refine zs_lload_n (pc := 0) t228_0 rfl ?_
  refine zs_lload_n (pc := 1) t228_1 rfl ?_
  refine zs_lcmp (pc := 2) t228_2 (c := 1) (zlcG (zi2l rfl) ll5 (by omega)) ?_
  refine zs_if_ltF (pc := 3) t228_3 li1 (by decide) ?_
  refine zs_lload_n (pc := 6) t228_6 rfl ?_
  refine zs_lload (pc := 7) t228_7 rfl ?_
  refine zs_lcmp (pc := 9) t228_9 (c := 1) (zlcG (zi2l rfl) ll13 (by omega)) ?_
  refine zs_if_gtT (pc := 10) t228_10 li1 (by decide) ?_
  refine zs_iconst (pc := 17) t228_17 (v := 0) (by decide) ?_
  refine zs_iret (pc := 18) t228_18 mr228 (by decide) ?_
  show zGo X l 3 0 0 304 133 [(0, .ref 336), (1, .int a)] [.int (0 : Int32)] zMm _
  refine zs_if_eqT (pc := 133) t304_133 li0 (by decide) ?_
  refine zs_iconst (pc := 149) t304_149 (v := -1) (by decide) ?_
  exact zs_iret (pc := 150) t304_150 mr304 (by decide) rfl
theorem c8_0 {X : zX} {l : Launch} {a b : Int32} : zCall X l 3 0 0 102 [.ref 6, .int a, .int b] zMc (fun r _ => r = some (.int (-1 : Int32))) := by
  have ga := zrg a
  have gb := zrg b
  refine zs_in (by decide) mf102 (Nat.le_of_ble_eq_true rfl) ?_
  show zGo X l 3 0 0 102 0 [(0, .ref 6), (1, .int a), (2, .int b)] [] zMc _
  refine zs_aload_n (pc := 0) t102_0 rfl ?_
  refine zs_get (pc := 1) t102_1 (by decide) (zk1 fk_zMc_6) fv_zMc_6_0 ?_
  refine zs_iload_n (pc := 4) t102_4 rfl ?_
  refine zs_invV (pc := 5) (k := 7) (as' := [.int a]) (st := []) t102_5 mf41 rfl rfl (Or.inl ⟨by decide, (zk1 fk_zMc_7)⟩) ⟨by decide, by decide, Nat.le_of_ble_eq_true rfl, Nat.le_of_ble_eq_true rfl⟩ (zs_in (by decide) mf41 (Nat.le_of_ble_eq_true rfl) ?_) (fun _ _ q => q)
  show zGo X l 0 0 0 41 0 [(0, .ref 7), (1, .int a)] [] zMc _
  refine zs_iload_n (pc := 0) t41_0 rfl ?_
  by_cases w1 : a.toInt < 0
  · refine zs_if_ltT (pc := 1) t41_1 rfl (by omega) ?_
    refine zs_iconst (pc := 16) t41_16 (v := 0) (by decide) ?_
    refine zs_iret (pc := 17) t41_17 mr41 (by decide) ?_
    show zGo X l 3 0 0 102 8 [(0, .ref 6), (1, .int a), (2, .int b)] [.int (0 : Int32)] zMc _
    refine zs_if_neF (pc := 8) t102_8 li0 (by decide) ?_
    refine zs_iconst (pc := 11) t102_11 (v := -1) (by decide) ?_
    exact zs_iret (pc := 12) t102_12 mr102 (by decide) rfl
  · refine zs_if_ltF (pc := 1) t41_1 rfl (by omega) ?_
    refine zs_iload_n (pc := 4) t41_4 rfl ?_
    refine zs_aload_n (pc := 5) t41_5 rfl ?_
    refine zs_get (pc := 6) t41_6 (by decide) (zk1 fk_zMc_7) fv_zMc_7_0 ?_
    refine zs_icmp_geT (pc := 9) t41_9 rfl li0 (by omega) ?_
    refine zs_iconst (pc := 16) t41_16 (v := 0) (by decide) ?_
    refine zs_iret (pc := 17) t41_17 mr41 (by decide) ?_
    show zGo X l 3 0 0 102 8 [(0, .ref 6), (1, .int a), (2, .int b)] [.int (0 : Int32)] zMc _
    refine zs_if_neF (pc := 8) t102_8 li0 (by decide) ?_
    refine zs_iconst (pc := 11) t102_11 (v := -1) (by decide) ?_
    exact zs_iret (pc := 12) t102_12 mr102 (by decide) rfl
theorem m8_0 {X : zX} {l : Launch} {a b : Int32} : zCall X l 3 0 0 305 [.ref 336, .int a, .int b] zMm (fun r _ => r = some (.int (-1 : Int32))) := by
  have ga := zrg a
  have gb := zrg b
  refine zs_in (by decide) mf305 (Nat.le_of_ble_eq_true rfl) ?_
  show zGo X l 3 0 0 305 0 [(0, .ref 336), (1, .int a), (2, .int b)] [] zMm _
  refine zs_aload_n (pc := 0) t305_0 rfl ?_
  refine zs_iload_n (pc := 1) t305_1 rfl ?_
  refine zs_invV (pc := 2) (k := 336) (as' := [.int a]) (st := []) t305_2 mf306 rfl rfl (Or.inl ⟨by decide, (zk1 fk_zMm_336)⟩) ⟨by decide, by decide, Nat.le_of_ble_eq_true rfl, Nat.le_of_ble_eq_true rfl⟩ (zs_in (by decide) mf306 (Nat.le_of_ble_eq_true rfl) ?_) (fun _ _ q => q)
  show zGo X l 1 0 0 306 0 [(0, .ref 336), (1, .int a)] [] zMm _
  refine zs_iload_n (pc := 0) t306_0 rfl ?_
  refine zs_i2l (pc := 1) t306_1 rfl ?_
  refine zs_lconst (pc := 2) t306_2 (v := 0) (by decide) ?_
  refine zs_aload_n (pc := 3) t306_3 rfl ?_
  refine zs_get (pc := 4) t306_4 (by decide) (zk1 fk_zMm_336) fv_zMm_336_0 ?_
  refine zs_iconst (pc := 7) t306_7 (v := 0) (by decide) ?_
  refine zs_iald (pc := 8) t306_8 (j := 0) (by decide) (zk1 fk_zMm_337) (by decide) (zk2 fk_zMm_337 (by decide)) fa_zMm_337_0 ?_
  refine zs_iconst (pc := 9) t306_9 (v := 1) (by decide) ?_
  refine zs_isub (pc := 10) t306_10 (c := -1) (by decide) ?_
  refine zs_i2l (pc := 11) t306_11 (c := -1) (by decide) ?_
  refine zs_invS (pc := 12) (as := [.long a.toInt64, .long (0 : Int64), .long (-1 : Int64)]) (st := []) t306_12 (by decide) mf228 rfl rfl ⟨by decide, by decide, Nat.le_of_ble_eq_true rfl, Nat.le_of_ble_eq_true rfl⟩ (zs_in (by decide) mf228 (Nat.le_of_ble_eq_true rfl) ?_) (fun _ _ q => q)
  show zGo X l 0 0 0 228 0 [(0, .long a.toInt64), (2, .long (0 : Int64)), (4, .long (-1 : Int64))] [] zMm _
  refine zs_lload_n (pc := 0) t228_0 rfl ?_
  refine zs_lload_n (pc := 1) t228_1 rfl ?_
  by_cases w1 : a.toInt < 0
  · refine zs_lcmp (pc := 2) t228_2 (c := -1) (zlcL (zi2l rfl) ll0 (by omega)) ?_
    refine zs_if_ltT (pc := 3) t228_3 lin1 (by decide) ?_
    refine zs_iconst (pc := 17) t228_17 (v := 0) (by decide) ?_
    refine zs_iret (pc := 18) t228_18 mr228 (by decide) ?_
    show zGo X l 1 0 0 306 15 [(0, .ref 336), (1, .int a)] [.int (0 : Int32)] zMm _
    refine zs_iret (pc := 15) t306_15 mr306 (by decide) ?_
    show zGo X l 3 0 0 305 5 [(0, .ref 336), (1, .int a), (2, .int b)] [.int (0 : Int32)] zMm _
    refine zs_if_neF (pc := 5) t305_5 li0 (by decide) ?_
    refine zs_iconst (pc := 8) t305_8 (v := -1) (by decide) ?_
    exact zs_iret (pc := 9) t305_9 mr305 (by decide) rfl
  by_cases w2 : a.toInt = 0
  · refine zs_lcmp (pc := 2) t228_2 (c := 0) (zlcE (zi2l rfl) ll0 (by omega)) ?_
    refine zs_if_ltF (pc := 3) t228_3 li0 (by decide) ?_
    refine zs_lload_n (pc := 6) t228_6 rfl ?_
    refine zs_lload (pc := 7) t228_7 rfl ?_
    refine zs_lcmp (pc := 9) t228_9 (c := 1) (zlcG (zi2l rfl) lln1 (by omega)) ?_
    refine zs_if_gtT (pc := 10) t228_10 li1 (by decide) ?_
    refine zs_iconst (pc := 17) t228_17 (v := 0) (by decide) ?_
    refine zs_iret (pc := 18) t228_18 mr228 (by decide) ?_
    show zGo X l 1 0 0 306 15 [(0, .ref 336), (1, .int a)] [.int (0 : Int32)] zMm _
    refine zs_iret (pc := 15) t306_15 mr306 (by decide) ?_
    show zGo X l 3 0 0 305 5 [(0, .ref 336), (1, .int a), (2, .int b)] [.int (0 : Int32)] zMm _
    refine zs_if_neF (pc := 5) t305_5 li0 (by decide) ?_
    refine zs_iconst (pc := 8) t305_8 (v := -1) (by decide) ?_
    exact zs_iret (pc := 9) t305_9 mr305 (by decide) rfl
  refine zs_lcmp (pc := 2) t228_2 (c := 1) (zlcG (zi2l rfl) ll0 (by omega)) ?_
  refine zs_if_ltF (pc := 3) t228_3 li1 (by decide) ?_
  refine zs_lload_n (pc := 6) t228_6 rfl ?_
  refine zs_lload (pc := 7) t228_7 rfl ?_
  refine zs_lcmp (pc := 9) t228_9 (c := 1) (zlcG (zi2l rfl) lln1 (by omega)) ?_
  refine zs_if_gtT (pc := 10) t228_10 li1 (by decide) ?_
  refine zs_iconst (pc := 17) t228_17 (v := 0) (by decide) ?_
  refine zs_iret (pc := 18) t228_18 mr228 (by decide) ?_
  show zGo X l 1 0 0 306 15 [(0, .ref 336), (1, .int a)] [.int (0 : Int32)] zMm _
  refine zs_iret (pc := 15) t306_15 mr306 (by decide) ?_
  show zGo X l 3 0 0 305 5 [(0, .ref 336), (1, .int a), (2, .int b)] [.int (0 : Int32)] zMm _
  refine zs_if_neF (pc := 5) t305_5 li0 (by decide) ?_
  refine zs_iconst (pc := 8) t305_8 (v := -1) (by decide) ?_
  exact zs_iret (pc := 9) t305_9 mr305 (by decide) rfl
theorem c9_0 {X : zX} {l : Launch} {a b : Int32} : zCall X l 6 0 0 104 [.ref 6, .int a, .int b] zMc (fun r _ => r = some (.int (-100000 : Int32))) := by
  have ga := zrg a
  have gb := zrg b
  refine zs_in (by decide) mf104 (Nat.le_of_ble_eq_true rfl) ?_
  show zGo X l 6 0 0 104 0 [(0, .ref 6), (1, .int a), (2, .int b)] [] zMc _
  refine zs_aload_n (pc := 0) t104_0 rfl ?_
  refine zs_get (pc := 1) t104_1 (by decide) (zk1 fk_zMc_6) fv_zMc_6_0 ?_
  refine zs_iload_n (pc := 4) t104_4 rfl ?_
  refine zs_invV (pc := 5) (k := 7) (as' := [.int a]) (st := []) t104_5 mf91 rfl rfl (Or.inl ⟨by decide, (zk1 fk_zMc_7)⟩) ⟨by decide, by decide, Nat.le_of_ble_eq_true rfl, Nat.le_of_ble_eq_true rfl⟩ (zs_in (by decide) mf91 (Nat.le_of_ble_eq_true rfl) ?_) (fun _ _ q => q)
  show zGo X l 0 0 0 91 0 [(0, .ref 7), (1, .int a)] [] zMc _
  refine zs_iload_n (pc := 0) t91_0 rfl ?_
  by_cases w1 : a.toInt < 0
  · refine zs_if_ltT (pc := 1) t91_1 rfl (by omega) ?_
    refine zs_iconst (pc := 16) t91_16 (v := 0) (by decide) ?_
    refine zs_iret (pc := 17) t91_17 mr91 (by decide) ?_
    show zGo X l 6 0 0 104 8 [(0, .ref 6), (1, .int a), (2, .int b)] [.int (0 : Int32)] zMc _
    refine zs_if_neF (pc := 8) t104_8 li0 (by decide) ?_
    refine zs_ldc (pc := 11) t104_11 (v := -100000) rfl (by decide) ?_
    exact zs_iret (pc := 13) t104_13 mr104 (by decide) rfl
  · refine zs_if_ltF (pc := 1) t91_1 rfl (by omega) ?_
    refine zs_iload_n (pc := 4) t91_4 rfl ?_
    refine zs_aload_n (pc := 5) t91_5 rfl ?_
    refine zs_get (pc := 6) t91_6 (by decide) (zk1 fk_zMc_7) fv_zMc_7_3 ?_
    refine zs_icmp_geT (pc := 9) t91_9 rfl li0 (by omega) ?_
    refine zs_iconst (pc := 16) t91_16 (v := 0) (by decide) ?_
    refine zs_iret (pc := 17) t91_17 mr91 (by decide) ?_
    show zGo X l 6 0 0 104 8 [(0, .ref 6), (1, .int a), (2, .int b)] [.int (0 : Int32)] zMc _
    refine zs_if_neF (pc := 8) t104_8 li0 (by decide) ?_
    refine zs_ldc (pc := 11) t104_11 (v := -100000) rfl (by decide) ?_
    exact zs_iret (pc := 13) t104_13 mr104 (by decide) rfl
theorem m9_0 {X : zX} {l : Launch} {a b : Int32} : zCall X l 7 0 0 307 [.ref 336, .int a, .int b] zMm (fun r _ => r = some (.int (-100000 : Int32))) := by
  have ga := zrg a
  have gb := zrg b
  refine zs_in (by decide) mf307 (Nat.le_of_ble_eq_true rfl) ?_
  show zGo X l 7 0 0 307 0 [(0, .ref 336), (1, .int a), (2, .int b)] [] zMm _
  refine zs_aload_n (pc := 0) t307_0 rfl ?_
  refine zs_iload_n (pc := 1) t307_1 rfl ?_
  refine zs_invV (pc := 2) (k := 336) (as' := [.int a]) (st := []) t307_2 mf308 rfl rfl (Or.inl ⟨by decide, (zk1 fk_zMm_336)⟩) ⟨by decide, by decide, Nat.le_of_ble_eq_true rfl, Nat.le_of_ble_eq_true rfl⟩ (zs_in (by decide) mf308 (Nat.le_of_ble_eq_true rfl) ?_) (fun _ _ q => q)
  show zGo X l 1 0 0 308 0 [(0, .ref 336), (1, .int a)] [] zMm _
  refine zs_iload_n (pc := 0) t308_0 rfl ?_
  refine zs_i2l (pc := 1) t308_1 rfl ?_
  refine zs_lconst (pc := 2) t308_2 (v := 0) (by decide) ?_
  refine zs_aload_n (pc := 3) t308_3 rfl ?_
  refine zs_get (pc := 4) t308_4 (by decide) (zk1 fk_zMm_336) fv_zMm_336_0 ?_
  refine zs_iconst (pc := 7) t308_7 (v := 1) (by decide) ?_
  refine zs_iald (pc := 8) t308_8 (j := 1) (by decide) (zk1 fk_zMm_337) (by decide) (zk2 fk_zMm_337 (by decide)) fa_zMm_337_1 ?_
  refine zs_iconst (pc := 9) t308_9 (v := 1) (by decide) ?_
  refine zs_isub (pc := 10) t308_10 (c := -1) (by decide) ?_
  refine zs_i2l (pc := 11) t308_11 (c := -1) (by decide) ?_
  refine zs_invS (pc := 12) (as := [.long a.toInt64, .long (0 : Int64), .long (-1 : Int64)]) (st := []) t308_12 (by decide) mf228 rfl rfl ⟨by decide, by decide, Nat.le_of_ble_eq_true rfl, Nat.le_of_ble_eq_true rfl⟩ (zs_in (by decide) mf228 (Nat.le_of_ble_eq_true rfl) ?_) (fun _ _ q => q)
  show zGo X l 0 0 0 228 0 [(0, .long a.toInt64), (2, .long (0 : Int64)), (4, .long (-1 : Int64))] [] zMm _
  refine zs_lload_n (pc := 0) t228_0 rfl ?_
  refine zs_lload_n (pc := 1) t228_1 rfl ?_
  by_cases w1 : a.toInt < 0
  · refine zs_lcmp (pc := 2) t228_2 (c := -1) (zlcL (zi2l rfl) ll0 (by omega)) ?_
    refine zs_if_ltT (pc := 3) t228_3 lin1 (by decide) ?_
    refine zs_iconst (pc := 17) t228_17 (v := 0) (by decide) ?_
    refine zs_iret (pc := 18) t228_18 mr228 (by decide) ?_
    show zGo X l 1 0 0 308 15 [(0, .ref 336), (1, .int a)] [.int (0 : Int32)] zMm _
    refine zs_iret (pc := 15) t308_15 mr308 (by decide) ?_
    show zGo X l 7 0 0 307 5 [(0, .ref 336), (1, .int a), (2, .int b)] [.int (0 : Int32)] zMm _
    refine zs_if_eqT (pc := 5) t307_5 li0 (by decide) ?_
    refine zs_ldc_w (pc := 20) t307_20 (v := -100000) rfl (by decide) ?_
    exact zs_iret (pc := 23) t307_23 mr307 (by decide) rfl
  by_cases w2 : a.toInt = 0
  · refine zs_lcmp (pc := 2) t228_2 (c := 0) (zlcE (zi2l rfl) ll0 (by omega)) ?_
    refine zs_if_ltF (pc := 3) t228_3 li0 (by decide) ?_
    refine zs_lload_n (pc := 6) t228_6 rfl ?_
    refine zs_lload (pc := 7) t228_7 rfl ?_
    refine zs_lcmp (pc := 9) t228_9 (c := 1) (zlcG (zi2l rfl) lln1 (by omega)) ?_
    refine zs_if_gtT (pc := 10) t228_10 li1 (by decide) ?_
    refine zs_iconst (pc := 17) t228_17 (v := 0) (by decide) ?_
    refine zs_iret (pc := 18) t228_18 mr228 (by decide) ?_
    show zGo X l 1 0 0 308 15 [(0, .ref 336), (1, .int a)] [.int (0 : Int32)] zMm _
    refine zs_iret (pc := 15) t308_15 mr308 (by decide) ?_
    show zGo X l 7 0 0 307 5 [(0, .ref 336), (1, .int a), (2, .int b)] [.int (0 : Int32)] zMm _
    refine zs_if_eqT (pc := 5) t307_5 li0 (by decide) ?_
    refine zs_ldc_w (pc := 20) t307_20 (v := -100000) rfl (by decide) ?_
    exact zs_iret (pc := 23) t307_23 mr307 (by decide) rfl
  refine zs_lcmp (pc := 2) t228_2 (c := 1) (zlcG (zi2l rfl) ll0 (by omega)) ?_
  refine zs_if_ltF (pc := 3) t228_3 li1 (by decide) ?_
  refine zs_lload_n (pc := 6) t228_6 rfl ?_
  refine zs_lload (pc := 7) t228_7 rfl ?_
  refine zs_lcmp (pc := 9) t228_9 (c := 1) (zlcG (zi2l rfl) lln1 (by omega)) ?_
  refine zs_if_gtT (pc := 10) t228_10 li1 (by decide) ?_
  refine zs_iconst (pc := 17) t228_17 (v := 0) (by decide) ?_
  refine zs_iret (pc := 18) t228_18 mr228 (by decide) ?_
  show zGo X l 1 0 0 308 15 [(0, .ref 336), (1, .int a)] [.int (0 : Int32)] zMm _
  refine zs_iret (pc := 15) t308_15 mr308 (by decide) ?_
  show zGo X l 7 0 0 307 5 [(0, .ref 336), (1, .int a), (2, .int b)] [.int (0 : Int32)] zMm _
  refine zs_if_eqT (pc := 5) t307_5 li0 (by decide) ?_
  refine zs_ldc_w (pc := 20) t307_20 (v := -100000) rfl (by decide) ?_
  exact zs_iret (pc := 23) t307_23 mr307 (by decide) rfl
theorem c10_0 {X : zX} {l : Launch} {a b : Int32} : zCall X l 6 0 0 143 [.ref 6, .int a, .int b] zMc (fun r _ => r = some (.int (-100000 : Int32))) := by
  have ga := zrg a
  have gb := zrg b
  refine zs_in (by decide) mf143 (Nat.le_of_ble_eq_true rfl) ?_
  show zGo X l 6 0 0 143 0 [(0, .ref 6), (1, .int a), (2, .int b)] [] zMc _
  refine zs_aload_n (pc := 0) t143_0 rfl ?_
  refine zs_get (pc := 1) t143_1 (by decide) (zk1 fk_zMc_6) fv_zMc_6_0 ?_
  refine zs_iload_n (pc := 4) t143_4 rfl ?_
  refine zs_invV (pc := 5) (k := 7) (as' := [.int a]) (st := []) t143_5 mf130 rfl rfl (Or.inl ⟨by decide, (zk1 fk_zMc_7)⟩) ⟨by decide, by decide, Nat.le_of_ble_eq_true rfl, Nat.le_of_ble_eq_true rfl⟩ (zs_in (by decide) mf130 (Nat.le_of_ble_eq_true rfl) ?_) (fun _ _ q => q)
  show zGo X l 0 0 0 130 0 [(0, .ref 7), (1, .int a)] [] zMc _
  refine zs_iload_n (pc := 0) t130_0 rfl ?_
  by_cases w1 : a.toInt < 0
  · refine zs_if_ltT (pc := 1) t130_1 rfl (by omega) ?_
    refine zs_iconst (pc := 16) t130_16 (v := 0) (by decide) ?_
    refine zs_iret (pc := 17) t130_17 mr130 (by decide) ?_
    show zGo X l 6 0 0 143 8 [(0, .ref 6), (1, .int a), (2, .int b)] [.int (0 : Int32)] zMc _
    refine zs_if_neF (pc := 8) t143_8 li0 (by decide) ?_
    refine zs_ldc (pc := 11) t143_11 (v := -100000) rfl (by decide) ?_
    exact zs_iret (pc := 13) t143_13 mr143 (by decide) rfl
  · refine zs_if_ltF (pc := 1) t130_1 rfl (by omega) ?_
    refine zs_iload_n (pc := 4) t130_4 rfl ?_
    refine zs_aload_n (pc := 5) t130_5 rfl ?_
    refine zs_get (pc := 6) t130_6 (by decide) (zk1 fk_zMc_7) fv_zMc_7_8 ?_
    refine zs_icmp_geT (pc := 9) t130_9 rfl li0 (by omega) ?_
    refine zs_iconst (pc := 16) t130_16 (v := 0) (by decide) ?_
    refine zs_iret (pc := 17) t130_17 mr130 (by decide) ?_
    show zGo X l 6 0 0 143 8 [(0, .ref 6), (1, .int a), (2, .int b)] [.int (0 : Int32)] zMc _
    refine zs_if_neF (pc := 8) t143_8 li0 (by decide) ?_
    refine zs_ldc (pc := 11) t143_11 (v := -100000) rfl (by decide) ?_
    exact zs_iret (pc := 13) t143_13 mr143 (by decide) rfl
theorem m10_0 {X : zX} {l : Launch} {a b : Int32} : zCall X l 7 0 0 309 [.ref 336, .int a, .int b] zMm (fun r _ => r = some (.int (-100000 : Int32))) := by
  have ga := zrg a
  have gb := zrg b
  refine zs_in (by decide) mf309 (Nat.le_of_ble_eq_true rfl) ?_
  show zGo X l 7 0 0 309 0 [(0, .ref 336), (1, .int a), (2, .int b)] [] zMm _
  refine zs_aload_n (pc := 0) t309_0 rfl ?_
  refine zs_iload_n (pc := 1) t309_1 rfl ?_
  refine zs_invV (pc := 2) (k := 336) (as' := [.int a]) (st := []) t309_2 mf310 rfl rfl (Or.inl ⟨by decide, (zk1 fk_zMm_336)⟩) ⟨by decide, by decide, Nat.le_of_ble_eq_true rfl, Nat.le_of_ble_eq_true rfl⟩ (zs_in (by decide) mf310 (Nat.le_of_ble_eq_true rfl) ?_) (fun _ _ q => q)
  show zGo X l 1 0 0 310 0 [(0, .ref 336), (1, .int a)] [] zMm _
  refine zs_iload_n (pc := 0) t310_0 rfl ?_
  refine zs_i2l (pc := 1) t310_1 rfl ?_
  refine zs_lconst (pc := 2) t310_2 (v := 0) (by decide) ?_
  refine zs_aload_n (pc := 3) t310_3 rfl ?_
  refine zs_get (pc := 4) t310_4 (by decide) (zk1 fk_zMm_336) fv_zMm_336_0 ?_
  refine zs_iconst (pc := 7) t310_7 (v := 2) (by decide) ?_
  refine zs_iald (pc := 8) t310_8 (j := 2) (by decide) (zk1 fk_zMm_337) (by decide) (zk2 fk_zMm_337 (by decide)) fa_zMm_337_2 ?_
  refine zs_iconst (pc := 9) t310_9 (v := 1) (by decide) ?_
  refine zs_isub (pc := 10) t310_10 (c := -1) (by decide) ?_
  refine zs_i2l (pc := 11) t310_11 (c := -1) (by decide) ?_
  refine zs_invS (pc := 12) (as := [.long a.toInt64, .long (0 : Int64), .long (-1 : Int64)]) (st := []) t310_12 (by decide) mf228 rfl rfl ⟨by decide, by decide, Nat.le_of_ble_eq_true rfl, Nat.le_of_ble_eq_true rfl⟩ (zs_in (by decide) mf228 (Nat.le_of_ble_eq_true rfl) ?_) (fun _ _ q => q)
  show zGo X l 0 0 0 228 0 [(0, .long a.toInt64), (2, .long (0 : Int64)), (4, .long (-1 : Int64))] [] zMm _
  refine zs_lload_n (pc := 0) t228_0 rfl ?_
  refine zs_lload_n (pc := 1) t228_1 rfl ?_
  by_cases w1 : a.toInt < 0
  · refine zs_lcmp (pc := 2) t228_2 (c := -1) (zlcL (zi2l rfl) ll0 (by omega)) ?_
    refine zs_if_ltT (pc := 3) t228_3 lin1 (by decide) ?_
    refine zs_iconst (pc := 17) t228_17 (v := 0) (by decide) ?_
    refine zs_iret (pc := 18) t228_18 mr228 (by decide) ?_
    show zGo X l 1 0 0 310 15 [(0, .ref 336), (1, .int a)] [.int (0 : Int32)] zMm _
    refine zs_iret (pc := 15) t310_15 mr310 (by decide) ?_
    show zGo X l 7 0 0 309 5 [(0, .ref 336), (1, .int a), (2, .int b)] [.int (0 : Int32)] zMm _
    refine zs_if_eqT (pc := 5) t309_5 li0 (by decide) ?_
    refine zs_ldc_w (pc := 20) t309_20 (v := -100000) rfl (by decide) ?_
    exact zs_iret (pc := 23) t309_23 mr309 (by decide) rfl
  by_cases w2 : a.toInt = 0
  · refine zs_lcmp (pc := 2) t228_2 (c := 0) (zlcE (zi2l rfl) ll0 (by omega)) ?_
    refine zs_if_ltF (pc := 3) t228_3 li0 (by decide) ?_
    refine zs_lload_n (pc := 6) t228_6 rfl ?_
    refine zs_lload (pc := 7) t228_7 rfl ?_
    refine zs_lcmp (pc := 9) t228_9 (c := 1) (zlcG (zi2l rfl) lln1 (by omega)) ?_
    refine zs_if_gtT (pc := 10) t228_10 li1 (by decide) ?_
    refine zs_iconst (pc := 17) t228_17 (v := 0) (by decide) ?_
    refine zs_iret (pc := 18) t228_18 mr228 (by decide) ?_
    show zGo X l 1 0 0 310 15 [(0, .ref 336), (1, .int a)] [.int (0 : Int32)] zMm _
    refine zs_iret (pc := 15) t310_15 mr310 (by decide) ?_
    show zGo X l 7 0 0 309 5 [(0, .ref 336), (1, .int a), (2, .int b)] [.int (0 : Int32)] zMm _
    refine zs_if_eqT (pc := 5) t309_5 li0 (by decide) ?_
    refine zs_ldc_w (pc := 20) t309_20 (v := -100000) rfl (by decide) ?_
    exact zs_iret (pc := 23) t309_23 mr309 (by decide) rfl
  refine zs_lcmp (pc := 2) t228_2 (c := 1) (zlcG (zi2l rfl) ll0 (by omega)) ?_
  refine zs_if_ltF (pc := 3) t228_3 li1 (by decide) ?_
  refine zs_lload_n (pc := 6) t228_6 rfl ?_
  refine zs_lload (pc := 7) t228_7 rfl ?_
  refine zs_lcmp (pc := 9) t228_9 (c := 1) (zlcG (zi2l rfl) lln1 (by omega)) ?_
  refine zs_if_gtT (pc := 10) t228_10 li1 (by decide) ?_
  refine zs_iconst (pc := 17) t228_17 (v := 0) (by decide) ?_
  refine zs_iret (pc := 18) t228_18 mr228 (by decide) ?_
  show zGo X l 1 0 0 310 15 [(0, .ref 336), (1, .int a)] [.int (0 : Int32)] zMm _
  refine zs_iret (pc := 15) t310_15 mr310 (by decide) ?_
  show zGo X l 7 0 0 309 5 [(0, .ref 336), (1, .int a), (2, .int b)] [.int (0 : Int32)] zMm _
  refine zs_if_eqT (pc := 5) t309_5 li0 (by decide) ?_
  refine zs_ldc_w (pc := 20) t309_20 (v := -100000) rfl (by decide) ?_
  exact zs_iret (pc := 23) t309_23 mr309 (by decide) rfl
theorem c11_0 {X : zX} {l : Launch} {a b c : Int32} : zCall X l 2 0 0 147 [.ref 6, .int a, .int b, .int c] zMc (fun r _ => r = some (.int (-100000 : Int32))) := by
  have ga := zrg a
  have gb := zrg b
  have gc := zrg c
  refine zs_in (by decide) mf147 (Nat.le_of_ble_eq_true rfl) ?_
  show zGo X l 2 0 0 147 0 [(0, .ref 6), (1, .int a), (2, .int b), (3, .int c)] [] zMc _
  refine zs_aload_n (pc := 0) t147_0 rfl ?_
  refine zs_get (pc := 1) t147_1 (by decide) (zk1 fk_zMc_6) fv_zMc_6_0 ?_
  refine zs_iload_n (pc := 4) t147_4 rfl ?_
  refine zs_invV (pc := 5) (k := 7) (as' := [.int a]) (st := []) t147_5 mf41 rfl rfl (Or.inl ⟨by decide, (zk1 fk_zMc_7)⟩) ⟨by decide, by decide, Nat.le_of_ble_eq_true rfl, Nat.le_of_ble_eq_true rfl⟩ (zs_in (by decide) mf41 (Nat.le_of_ble_eq_true rfl) ?_) (fun _ _ q => q)
  show zGo X l 0 0 0 41 0 [(0, .ref 7), (1, .int a)] [] zMc _
  refine zs_iload_n (pc := 0) t41_0 rfl ?_
  by_cases w1 : a.toInt < 0
  · refine zs_if_ltT (pc := 1) t41_1 rfl (by omega) ?_
    refine zs_iconst (pc := 16) t41_16 (v := 0) (by decide) ?_
    refine zs_iret (pc := 17) t41_17 mr41 (by decide) ?_
    show zGo X l 2 0 0 147 8 [(0, .ref 6), (1, .int a), (2, .int b), (3, .int c)] [.int (0 : Int32)] zMc _
    refine zs_if_eqT (pc := 8) t147_8 li0 (by decide) ?_
    refine zs_ldc (pc := 35) t147_35 (v := -100000) rfl (by decide) ?_
    exact zs_iret (pc := 37) t147_37 mr147 (by decide) rfl
  · refine zs_if_ltF (pc := 1) t41_1 rfl (by omega) ?_
    refine zs_iload_n (pc := 4) t41_4 rfl ?_
    refine zs_aload_n (pc := 5) t41_5 rfl ?_
    refine zs_get (pc := 6) t41_6 (by decide) (zk1 fk_zMc_7) fv_zMc_7_0 ?_
    refine zs_icmp_geT (pc := 9) t41_9 rfl li0 (by omega) ?_
    refine zs_iconst (pc := 16) t41_16 (v := 0) (by decide) ?_
    refine zs_iret (pc := 17) t41_17 mr41 (by decide) ?_
    show zGo X l 2 0 0 147 8 [(0, .ref 6), (1, .int a), (2, .int b), (3, .int c)] [.int (0 : Int32)] zMc _
    refine zs_if_eqT (pc := 8) t147_8 li0 (by decide) ?_
    refine zs_ldc (pc := 35) t147_35 (v := -100000) rfl (by decide) ?_
    exact zs_iret (pc := 37) t147_37 mr147 (by decide) rfl
theorem m11_0 {X : zX} {l : Launch} {a b c : Int32} : zCall X l 3 0 0 314 [.ref 336, .int a, .int b, .int c] zMm (fun r _ => r = some (.int (-100000 : Int32))) := by
  have ga := zrg a
  have gb := zrg b
  have gc := zrg c
  refine zs_in (by decide) mf314 (Nat.le_of_ble_eq_true rfl) ?_
  show zGo X l 3 0 0 314 0 [(0, .ref 336), (1, .int a), (2, .int b), (3, .int c)] [] zMm _
  refine zs_aload_n (pc := 0) t314_0 rfl ?_
  refine zs_iload_n (pc := 1) t314_1 rfl ?_
  refine zs_invV (pc := 2) (k := 336) (as' := [.int a]) (st := []) t314_2 mf306 rfl rfl (Or.inl ⟨by decide, (zk1 fk_zMm_336)⟩) ⟨by decide, by decide, Nat.le_of_ble_eq_true rfl, Nat.le_of_ble_eq_true rfl⟩ (zs_in (by decide) mf306 (Nat.le_of_ble_eq_true rfl) ?_) (fun _ _ q => q)
  show zGo X l 1 0 0 306 0 [(0, .ref 336), (1, .int a)] [] zMm _
  refine zs_iload_n (pc := 0) t306_0 rfl ?_
  refine zs_i2l (pc := 1) t306_1 rfl ?_
  refine zs_lconst (pc := 2) t306_2 (v := 0) (by decide) ?_
  refine zs_aload_n (pc := 3) t306_3 rfl ?_
  refine zs_get (pc := 4) t306_4 (by decide) (zk1 fk_zMm_336) fv_zMm_336_0 ?_
  refine zs_iconst (pc := 7) t306_7 (v := 0) (by decide) ?_
  refine zs_iald (pc := 8) t306_8 (j := 0) (by decide) (zk1 fk_zMm_337) (by decide) (zk2 fk_zMm_337 (by decide)) fa_zMm_337_0 ?_
  refine zs_iconst (pc := 9) t306_9 (v := 1) (by decide) ?_
  refine zs_isub (pc := 10) t306_10 (c := -1) (by decide) ?_
  refine zs_i2l (pc := 11) t306_11 (c := -1) (by decide) ?_
  refine zs_invS (pc := 12) (as := [.long a.toInt64, .long (0 : Int64), .long (-1 : Int64)]) (st := []) t306_12 (by decide) mf228 rfl rfl ⟨by decide, by decide, Nat.le_of_ble_eq_true rfl, Nat.le_of_ble_eq_true rfl⟩ (zs_in (by decide) mf228 (Nat.le_of_ble_eq_true rfl) ?_) (fun _ _ q => q)
  show zGo X l 0 0 0 228 0 [(0, .long a.toInt64), (2, .long (0 : Int64)), (4, .long (-1 : Int64))] [] zMm _
  refine zs_lload_n (pc := 0) t228_0 rfl ?_
  refine zs_lload_n (pc := 1) t228_1 rfl ?_
  by_cases w1 : a.toInt < 0
  · refine zs_lcmp (pc := 2) t228_2 (c := -1) (zlcL (zi2l rfl) ll0 (by omega)) ?_
    refine zs_if_ltT (pc := 3) t228_3 lin1 (by decide) ?_
    refine zs_iconst (pc := 17) t228_17 (v := 0) (by decide) ?_
    refine zs_iret (pc := 18) t228_18 mr228 (by decide) ?_
    show zGo X l 1 0 0 306 15 [(0, .ref 336), (1, .int a)] [.int (0 : Int32)] zMm _
    refine zs_iret (pc := 15) t306_15 mr306 (by decide) ?_
    show zGo X l 3 0 0 314 5 [(0, .ref 336), (1, .int a), (2, .int b), (3, .int c)] [.int (0 : Int32)] zMm _
    refine zs_if_eqT (pc := 5) t314_5 li0 (by decide) ?_
    refine zs_ldc_w (pc := 46) t314_46 (v := -100000) rfl (by decide) ?_
    exact zs_iret (pc := 49) t314_49 mr314 (by decide) rfl
  by_cases w2 : a.toInt = 0
  · refine zs_lcmp (pc := 2) t228_2 (c := 0) (zlcE (zi2l rfl) ll0 (by omega)) ?_
    refine zs_if_ltF (pc := 3) t228_3 li0 (by decide) ?_
    refine zs_lload_n (pc := 6) t228_6 rfl ?_
    refine zs_lload (pc := 7) t228_7 rfl ?_
    refine zs_lcmp (pc := 9) t228_9 (c := 1) (zlcG (zi2l rfl) lln1 (by omega)) ?_
    refine zs_if_gtT (pc := 10) t228_10 li1 (by decide) ?_
    refine zs_iconst (pc := 17) t228_17 (v := 0) (by decide) ?_
    refine zs_iret (pc := 18) t228_18 mr228 (by decide) ?_
    show zGo X l 1 0 0 306 15 [(0, .ref 336), (1, .int a)] [.int (0 : Int32)] zMm _
    refine zs_iret (pc := 15) t306_15 mr306 (by decide) ?_
    show zGo X l 3 0 0 314 5 [(0, .ref 336), (1, .int a), (2, .int b), (3, .int c)] [.int (0 : Int32)] zMm _
    refine zs_if_eqT (pc := 5) t314_5 li0 (by decide) ?_
    refine zs_ldc_w (pc := 46) t314_46 (v := -100000) rfl (by decide) ?_
    exact zs_iret (pc := 49) t314_49 mr314 (by decide) rfl
  refine zs_lcmp (pc := 2) t228_2 (c := 1) (zlcG (zi2l rfl) ll0 (by omega)) ?_
  refine zs_if_ltF (pc := 3) t228_3 li1 (by decide) ?_
  refine zs_lload_n (pc := 6) t228_6 rfl ?_
  refine zs_lload (pc := 7) t228_7 rfl ?_
  refine zs_lcmp (pc := 9) t228_9 (c := 1) (zlcG (zi2l rfl) lln1 (by omega)) ?_
  refine zs_if_gtT (pc := 10) t228_10 li1 (by decide) ?_
  refine zs_iconst (pc := 17) t228_17 (v := 0) (by decide) ?_
  refine zs_iret (pc := 18) t228_18 mr228 (by decide) ?_
  show zGo X l 1 0 0 306 15 [(0, .ref 336), (1, .int a)] [.int (0 : Int32)] zMm _
  refine zs_iret (pc := 15) t306_15 mr306 (by decide) ?_
  show zGo X l 3 0 0 314 5 [(0, .ref 336), (1, .int a), (2, .int b), (3, .int c)] [.int (0 : Int32)] zMm _
  refine zs_if_eqT (pc := 5) t314_5 li0 (by decide) ?_
  refine zs_ldc_w (pc := 46) t314_46 (v := -100000) rfl (by decide) ?_
  exact zs_iret (pc := 49) t314_49 mr314 (by decide) rfl
theorem c12_0 {X : zX} {l : Launch} {a b c : Int32} (la : (-2147483648) ≤ a.toInt) (ua : a.toInt ≤ (-2)) : zCall X l 3 0 0 148 [.ref 6, .int a, .int b, .int c] zMc (fun r _ => r = some (.int (-1 : Int32))) := by
  have ga := zrg a
  have gb := zrg b
  have gc := zrg c
  refine zs_in (by decide) mf148 (Nat.le_of_ble_eq_true rfl) ?_
  show zGo X l 3 0 0 148 0 [(0, .ref 6), (1, .int a), (2, .int b), (3, .int c)] [] zMc _
  refine zs_iload_n (pc := 0) t148_0 rfl ?_
  refine zs_aload_n (pc := 1) t148_1 rfl ?_
  refine zs_get (pc := 2) t148_2 (by decide) (zk1 fk_zMc_6) fv_zMc_6_0 ?_
  refine zs_iconst (pc := 5) t148_5 (v := 0) (by decide) ?_
  refine zs_invV (pc := 6) (k := 7) (as' := [.int (0 : Int32)]) (st := [.int a]) t148_6 mf96 rfl rfl (Or.inl ⟨by decide, (zk1 fk_zMc_7)⟩) ⟨by decide, by decide, Nat.le_of_ble_eq_true rfl, Nat.le_of_ble_eq_true rfl⟩ (zs_in (by decide) mf96 (Nat.le_of_ble_eq_true rfl) ?_) (fun _ _ q => q)
  show zGo X l 0 0 0 96 0 [(0, .ref 7), (1, .int (0 : Int32))] [] zMc _
  refine zs_iload_n (pc := 0) t96_0 rfl ?_
  refine zs_if_ltF (pc := 1) t96_1 li0 (by decide) ?_
  refine zs_iload_n (pc := 4) t96_4 rfl ?_
  refine zs_bipush (pc := 5) t96_5 (v := 9) (by decide) ?_
  refine zs_icmp_geF (pc := 7) t96_7 li0 li9 (by decide) ?_
  refine zs_aload_n (pc := 10) t96_10 rfl ?_
  refine zs_get (pc := 11) t96_11 (by decide) (zk1 fk_zMc_7) fv_zMc_7_12 ?_
  refine zs_iload_n (pc := 14) t96_14 rfl ?_
  refine zs_iald (pc := 15) t96_15 (j := 0) (by decide) (zk1 fk_zMc_17) (by decide) (zk2 fk_zMc_17 (by decide)) fa_zMc_17_0 ?_
  refine zs_goto (pc := 16) t96_16 ?_
  refine zs_iret (pc := 20) t96_20 mr96 (by decide) ?_
  show zGo X l 3 0 0 148 9 [(0, .ref 6), (1, .int a), (2, .int b), (3, .int c)] [.int (1 : Int32), .int a] zMc _
  refine zs_ineg (pc := 9) t148_9 (c := -1) (by decide) ?_
  refine zs_aload_n (pc := 10) t148_10 rfl ?_
  refine zs_get (pc := 11) t148_11 (by decide) (zk1 fk_zMc_6) fv_zMc_6_0 ?_
  refine zs_iconst (pc := 14) t148_14 (v := 0) (by decide) ?_
  refine zs_invV (pc := 15) (k := 7) (as' := [.int (0 : Int32)]) (st := [.int (-1 : Int32), .int a]) t148_15 mf96 rfl rfl (Or.inl ⟨by decide, (zk1 fk_zMc_7)⟩) ⟨by decide, by decide, Nat.le_of_ble_eq_true rfl, Nat.le_of_ble_eq_true rfl⟩ (zs_in (by decide) mf96 (Nat.le_of_ble_eq_true rfl) ?_) (fun _ _ q => q)
  show zGo X l 0 0 0 96 0 [(0, .ref 7), (1, .int (0 : Int32))] [] zMc _
  refine zs_iload_n (pc := 0) t96_0 rfl ?_
  refine zs_if_ltF (pc := 1) t96_1 li0 (by decide) ?_
  refine zs_iload_n (pc := 4) t96_4 rfl ?_
  refine zs_bipush (pc := 5) t96_5 (v := 9) (by decide) ?_
  refine zs_icmp_geF (pc := 7) t96_7 li0 li9 (by decide) ?_
  refine zs_aload_n (pc := 10) t96_10 rfl ?_
  refine zs_get (pc := 11) t96_11 (by decide) (zk1 fk_zMc_7) fv_zMc_7_12 ?_
  refine zs_iload_n (pc := 14) t96_14 rfl ?_
  refine zs_iald (pc := 15) t96_15 (j := 0) (by decide) (zk1 fk_zMc_17) (by decide) (zk2 fk_zMc_17 (by decide)) fa_zMc_17_0 ?_
  refine zs_goto (pc := 16) t96_16 ?_
  refine zs_iret (pc := 20) t96_20 mr96 (by decide) ?_
  show zGo X l 3 0 0 148 18 [(0, .ref 6), (1, .int a), (2, .int b), (3, .int c)] [.int (1 : Int32), .int (-1 : Int32), .int a] zMc _
  refine zs_invS (pc := 18) (as := [.int a, .int (-1 : Int32), .int (1 : Int32)]) (st := []) t148_18 (by decide) mf39 rfl rfl ⟨by decide, by decide, Nat.le_of_ble_eq_true rfl, Nat.le_of_ble_eq_true rfl⟩ (zs_in (by decide) mf39 (Nat.le_of_ble_eq_true rfl) ?_) (fun _ _ q => q)
  show zGo X l 0 0 0 39 0 [(0, .int a), (1, .int (-1 : Int32)), (2, .int (1 : Int32))] [] zMc _
  refine zs_iload_n (pc := 0) t39_0 rfl ?_
  refine zs_iload_n (pc := 1) t39_1 rfl ?_
  refine zs_icmp_ltT (pc := 2) t39_2 rfl lin1 (by omega) ?_
  refine zs_iconst (pc := 14) t39_14 (v := 0) (by decide) ?_
  refine zs_iret (pc := 15) t39_15 mr39 (by decide) ?_
  show zGo X l 3 0 0 148 21 [(0, .ref 6), (1, .int a), (2, .int b), (3, .int c)] [.int (0 : Int32)] zMc _
  refine zs_if_eqT (pc := 21) t148_21 li0 (by decide) ?_
  refine zs_iconst (pc := 48) t148_48 (v := -1) (by decide) ?_
  exact zs_iret (pc := 49) t148_49 mr148 (by decide) rfl
theorem m12_0 {X : zX} {l : Launch} {a b c : Int32} (la : (-2147483648) ≤ a.toInt) (ua : a.toInt ≤ (-2)) : zCall X l 3 0 0 315 [.ref 336, .int a, .int b, .int c] zMm (fun r _ => r = some (.int (-1 : Int32))) := by
  have ga := zrg a
  have gb := zrg b
  have gc := zrg c
  refine zs_in (by decide) mf315 (Nat.le_of_ble_eq_true rfl) ?_
  show zGo X l 3 0 0 315 0 [(0, .ref 336), (1, .int a), (2, .int b), (3, .int c)] [] zMm _
  refine zs_iload_n (pc := 0) t315_0 rfl ?_
  refine zs_i2l (pc := 1) t315_1 rfl ?_
  refine zs_aload_n (pc := 2) t315_2 rfl ?_
  refine zs_get (pc := 3) t315_3 (by decide) (zk1 fk_zMm_336) fv_zMm_336_0 ?_
  refine zs_iconst (pc := 6) t315_6 (v := 5) (by decide) ?_
  refine zs_iald (pc := 7) t315_7 (j := 5) (by decide) (zk1 fk_zMm_337) (by decide) (zk2 fk_zMm_337 (by decide)) fa_zMm_337_5 ?_
  refine zs_ineg (pc := 8) t315_8 (c := -1) (by decide) ?_
  refine zs_i2l (pc := 9) t315_9 (c := -1) (by decide) ?_
  refine zs_aload_n (pc := 10) t315_10 rfl ?_
  refine zs_get (pc := 11) t315_11 (by decide) (zk1 fk_zMm_336) fv_zMm_336_0 ?_
  refine zs_iconst (pc := 14) t315_14 (v := 5) (by decide) ?_
  refine zs_iald (pc := 15) t315_15 (j := 5) (by decide) (zk1 fk_zMm_337) (by decide) (zk2 fk_zMm_337 (by decide)) fa_zMm_337_5 ?_
  refine zs_i2l (pc := 16) t315_16 (c := 1) (by decide) ?_
  refine zs_invS (pc := 17) (as := [.long a.toInt64, .long (-1 : Int64), .long (1 : Int64)]) (st := []) t315_17 (by decide) mf228 rfl rfl ⟨by decide, by decide, Nat.le_of_ble_eq_true rfl, Nat.le_of_ble_eq_true rfl⟩ (zs_in (by decide) mf228 (Nat.le_of_ble_eq_true rfl) ?_) (fun _ _ q => q)
  show zGo X l 0 0 0 228 0 [(0, .long a.toInt64), (2, .long (-1 : Int64)), (4, .long (1 : Int64))] [] zMm _
  refine zs_lload_n (pc := 0) t228_0 rfl ?_
  refine zs_lload_n (pc := 1) t228_1 rfl ?_
  refine zs_lcmp (pc := 2) t228_2 (c := -1) (zlcL (zi2l rfl) lln1 (by omega)) ?_
  refine zs_if_ltT (pc := 3) t228_3 lin1 (by decide) ?_
  refine zs_iconst (pc := 17) t228_17 (v := 0) (by decide) ?_
  refine zs_iret (pc := 18) t228_18 mr228 (by decide) ?_
  show zGo X l 3 0 0 315 20 [(0, .ref 336), (1, .int a), (2, .int b), (3, .int c)] [.int (0 : Int32)] zMm _
  refine zs_if_eqT (pc := 20) t315_20 li0 (by decide) ?_
  refine zs_iconst (pc := 48) t315_48 (v := -1) (by decide) ?_
  exact zs_iret (pc := 49) t315_49 mr315 (by decide) rfl
theorem c12_1 {X : zX} {l : Launch} {a b c : Int32} (la : 2 ≤ a.toInt) (ua : a.toInt ≤ 2147483647) : zCall X l 3 0 0 148 [.ref 6, .int a, .int b, .int c] zMc (fun r _ => r = some (.int (-1 : Int32))) := by
  have ga := zrg a
  have gb := zrg b
  have gc := zrg c
  refine zs_in (by decide) mf148 (Nat.le_of_ble_eq_true rfl) ?_
  show zGo X l 3 0 0 148 0 [(0, .ref 6), (1, .int a), (2, .int b), (3, .int c)] [] zMc _
  refine zs_iload_n (pc := 0) t148_0 rfl ?_
  refine zs_aload_n (pc := 1) t148_1 rfl ?_
  refine zs_get (pc := 2) t148_2 (by decide) (zk1 fk_zMc_6) fv_zMc_6_0 ?_
  refine zs_iconst (pc := 5) t148_5 (v := 0) (by decide) ?_
  refine zs_invV (pc := 6) (k := 7) (as' := [.int (0 : Int32)]) (st := [.int a]) t148_6 mf96 rfl rfl (Or.inl ⟨by decide, (zk1 fk_zMc_7)⟩) ⟨by decide, by decide, Nat.le_of_ble_eq_true rfl, Nat.le_of_ble_eq_true rfl⟩ (zs_in (by decide) mf96 (Nat.le_of_ble_eq_true rfl) ?_) (fun _ _ q => q)
  show zGo X l 0 0 0 96 0 [(0, .ref 7), (1, .int (0 : Int32))] [] zMc _
  refine zs_iload_n (pc := 0) t96_0 rfl ?_
  refine zs_if_ltF (pc := 1) t96_1 li0 (by decide) ?_
  refine zs_iload_n (pc := 4) t96_4 rfl ?_
  refine zs_bipush (pc := 5) t96_5 (v := 9) (by decide) ?_
  refine zs_icmp_geF (pc := 7) t96_7 li0 li9 (by decide) ?_
  refine zs_aload_n (pc := 10) t96_10 rfl ?_
  refine zs_get (pc := 11) t96_11 (by decide) (zk1 fk_zMc_7) fv_zMc_7_12 ?_
  refine zs_iload_n (pc := 14) t96_14 rfl ?_
  refine zs_iald (pc := 15) t96_15 (j := 0) (by decide) (zk1 fk_zMc_17) (by decide) (zk2 fk_zMc_17 (by decide)) fa_zMc_17_0 ?_
  refine zs_goto (pc := 16) t96_16 ?_
  refine zs_iret (pc := 20) t96_20 mr96 (by decide) ?_
  show zGo X l 3 0 0 148 9 [(0, .ref 6), (1, .int a), (2, .int b), (3, .int c)] [.int (1 : Int32), .int a] zMc _
  refine zs_ineg (pc := 9) t148_9 (c := -1) (by decide) ?_
  refine zs_aload_n (pc := 10) t148_10 rfl ?_
  refine zs_get (pc := 11) t148_11 (by decide) (zk1 fk_zMc_6) fv_zMc_6_0 ?_
  refine zs_iconst (pc := 14) t148_14 (v := 0) (by decide) ?_
  refine zs_invV (pc := 15) (k := 7) (as' := [.int (0 : Int32)]) (st := [.int (-1 : Int32), .int a]) t148_15 mf96 rfl rfl (Or.inl ⟨by decide, (zk1 fk_zMc_7)⟩) ⟨by decide, by decide, Nat.le_of_ble_eq_true rfl, Nat.le_of_ble_eq_true rfl⟩ (zs_in (by decide) mf96 (Nat.le_of_ble_eq_true rfl) ?_) (fun _ _ q => q)
  show zGo X l 0 0 0 96 0 [(0, .ref 7), (1, .int (0 : Int32))] [] zMc _
  refine zs_iload_n (pc := 0) t96_0 rfl ?_
  refine zs_if_ltF (pc := 1) t96_1 li0 (by decide) ?_
  refine zs_iload_n (pc := 4) t96_4 rfl ?_
  refine zs_bipush (pc := 5) t96_5 (v := 9) (by decide) ?_
  refine zs_icmp_geF (pc := 7) t96_7 li0 li9 (by decide) ?_
  refine zs_aload_n (pc := 10) t96_10 rfl ?_
  refine zs_get (pc := 11) t96_11 (by decide) (zk1 fk_zMc_7) fv_zMc_7_12 ?_
  refine zs_iload_n (pc := 14) t96_14 rfl ?_
  refine zs_iald (pc := 15) t96_15 (j := 0) (by decide) (zk1 fk_zMc_17) (by decide) (zk2 fk_zMc_17 (by decide)) fa_zMc_17_0 ?_
  refine zs_goto (pc := 16) t96_16 ?_
  refine zs_iret (pc := 20) t96_20 mr96 (by decide) ?_
  show zGo X l 3 0 0 148 18 [(0, .ref 6), (1, .int a), (2, .int b), (3, .int c)] [.int (1 : Int32), .int (-1 : Int32), .int a] zMc _
  refine zs_invS (pc := 18) (as := [.int a, .int (-1 : Int32), .int (1 : Int32)]) (st := []) t148_18 (by decide) mf39 rfl rfl ⟨by decide, by decide, Nat.le_of_ble_eq_true rfl, Nat.le_of_ble_eq_true rfl⟩ (zs_in (by decide) mf39 (Nat.le_of_ble_eq_true rfl) ?_) (fun _ _ q => q)
  show zGo X l 0 0 0 39 0 [(0, .int a), (1, .int (-1 : Int32)), (2, .int (1 : Int32))] [] zMc _
  refine zs_iload_n (pc := 0) t39_0 rfl ?_
  refine zs_iload_n (pc := 1) t39_1 rfl ?_
  refine zs_icmp_ltF (pc := 2) t39_2 rfl lin1 (by omega) ?_
  refine zs_iload_n (pc := 5) t39_5 rfl ?_
  refine zs_iload_n (pc := 6) t39_6 rfl ?_
  refine zs_icmp_gtT (pc := 7) t39_7 rfl li1 (by omega) ?_
  refine zs_iconst (pc := 14) t39_14 (v := 0) (by decide) ?_
  refine zs_iret (pc := 15) t39_15 mr39 (by decide) ?_
  show zGo X l 3 0 0 148 21 [(0, .ref 6), (1, .int a), (2, .int b), (3, .int c)] [.int (0 : Int32)] zMc _
  refine zs_if_eqT (pc := 21) t148_21 li0 (by decide) ?_
  refine zs_iconst (pc := 48) t148_48 (v := -1) (by decide) ?_
  exact zs_iret (pc := 49) t148_49 mr148 (by decide) rfl
theorem m12_1 {X : zX} {l : Launch} {a b c : Int32} (la : 2 ≤ a.toInt) (ua : a.toInt ≤ 2147483647) : zCall X l 3 0 0 315 [.ref 336, .int a, .int b, .int c] zMm (fun r _ => r = some (.int (-1 : Int32))) := by
  have ga := zrg a
  have gb := zrg b
  have gc := zrg c
  refine zs_in (by decide) mf315 (Nat.le_of_ble_eq_true rfl) ?_
  show zGo X l 3 0 0 315 0 [(0, .ref 336), (1, .int a), (2, .int b), (3, .int c)] [] zMm _
  refine zs_iload_n (pc := 0) t315_0 rfl ?_
  refine zs_i2l (pc := 1) t315_1 rfl ?_
  refine zs_aload_n (pc := 2) t315_2 rfl ?_
  refine zs_get (pc := 3) t315_3 (by decide) (zk1 fk_zMm_336) fv_zMm_336_0 ?_
  refine zs_iconst (pc := 6) t315_6 (v := 5) (by decide) ?_
  refine zs_iald (pc := 7) t315_7 (j := 5) (by decide) (zk1 fk_zMm_337) (by decide) (zk2 fk_zMm_337 (by decide)) fa_zMm_337_5 ?_
  refine zs_ineg (pc := 8) t315_8 (c := -1) (by decide) ?_
  refine zs_i2l (pc := 9) t315_9 (c := -1) (by decide) ?_
  refine zs_aload_n (pc := 10) t315_10 rfl ?_
  refine zs_get (pc := 11) t315_11 (by decide) (zk1 fk_zMm_336) fv_zMm_336_0 ?_
  refine zs_iconst (pc := 14) t315_14 (v := 5) (by decide) ?_
  refine zs_iald (pc := 15) t315_15 (j := 5) (by decide) (zk1 fk_zMm_337) (by decide) (zk2 fk_zMm_337 (by decide)) fa_zMm_337_5 ?_
  refine zs_i2l (pc := 16) t315_16 (c := 1) (by decide) ?_
  refine zs_invS (pc := 17) (as := [.long a.toInt64, .long (-1 : Int64), .long (1 : Int64)]) (st := []) t315_17 (by decide) mf228 rfl rfl ⟨by decide, by decide, Nat.le_of_ble_eq_true rfl, Nat.le_of_ble_eq_true rfl⟩ (zs_in (by decide) mf228 (Nat.le_of_ble_eq_true rfl) ?_) (fun _ _ q => q)
  show zGo X l 0 0 0 228 0 [(0, .long a.toInt64), (2, .long (-1 : Int64)), (4, .long (1 : Int64))] [] zMm _
  refine zs_lload_n (pc := 0) t228_0 rfl ?_
  refine zs_lload_n (pc := 1) t228_1 rfl ?_
  refine zs_lcmp (pc := 2) t228_2 (c := 1) (zlcG (zi2l rfl) lln1 (by omega)) ?_
  refine zs_if_ltF (pc := 3) t228_3 li1 (by decide) ?_
  refine zs_lload_n (pc := 6) t228_6 rfl ?_
  refine zs_lload (pc := 7) t228_7 rfl ?_
  refine zs_lcmp (pc := 9) t228_9 (c := 1) (zlcG (zi2l rfl) ll1 (by omega)) ?_
  refine zs_if_gtT (pc := 10) t228_10 li1 (by decide) ?_
  refine zs_iconst (pc := 17) t228_17 (v := 0) (by decide) ?_
  refine zs_iret (pc := 18) t228_18 mr228 (by decide) ?_
  show zGo X l 3 0 0 315 20 [(0, .ref 336), (1, .int a), (2, .int b), (3, .int c)] [.int (0 : Int32)] zMm _
  refine zs_if_eqT (pc := 20) t315_20 li0 (by decide) ?_
  refine zs_iconst (pc := 48) t315_48 (v := -1) (by decide) ?_
  exact zs_iret (pc := 49) t315_49 mr315 (by decide) rfl
theorem c12_2 {X : zX} {l : Launch} {a b c : Int32} (la : (-1) ≤ a.toInt) (ua : a.toInt ≤ 1) (lb : (-2147483648) ≤ b.toInt) (ub : b.toInt ≤ (-11)) : zCall X l 3 0 0 148 [.ref 6, .int a, .int b, .int c] zMc (fun r _ => r = some (.int (-1 : Int32))) := by
  have ga := zrg a
  have gb := zrg b
  have gc := zrg c
  refine zs_in (by decide) mf148 (Nat.le_of_ble_eq_true rfl) ?_
  show zGo X l 3 0 0 148 0 [(0, .ref 6), (1, .int a), (2, .int b), (3, .int c)] [] zMc _
  refine zs_iload_n (pc := 0) t148_0 rfl ?_
  refine zs_aload_n (pc := 1) t148_1 rfl ?_
  refine zs_get (pc := 2) t148_2 (by decide) (zk1 fk_zMc_6) fv_zMc_6_0 ?_
  refine zs_iconst (pc := 5) t148_5 (v := 0) (by decide) ?_
  refine zs_invV (pc := 6) (k := 7) (as' := [.int (0 : Int32)]) (st := [.int a]) t148_6 mf96 rfl rfl (Or.inl ⟨by decide, (zk1 fk_zMc_7)⟩) ⟨by decide, by decide, Nat.le_of_ble_eq_true rfl, Nat.le_of_ble_eq_true rfl⟩ (zs_in (by decide) mf96 (Nat.le_of_ble_eq_true rfl) ?_) (fun _ _ q => q)
  show zGo X l 0 0 0 96 0 [(0, .ref 7), (1, .int (0 : Int32))] [] zMc _
  refine zs_iload_n (pc := 0) t96_0 rfl ?_
  refine zs_if_ltF (pc := 1) t96_1 li0 (by decide) ?_
  refine zs_iload_n (pc := 4) t96_4 rfl ?_
  refine zs_bipush (pc := 5) t96_5 (v := 9) (by decide) ?_
  refine zs_icmp_geF (pc := 7) t96_7 li0 li9 (by decide) ?_
  refine zs_aload_n (pc := 10) t96_10 rfl ?_
  refine zs_get (pc := 11) t96_11 (by decide) (zk1 fk_zMc_7) fv_zMc_7_12 ?_
  refine zs_iload_n (pc := 14) t96_14 rfl ?_
  refine zs_iald (pc := 15) t96_15 (j := 0) (by decide) (zk1 fk_zMc_17) (by decide) (zk2 fk_zMc_17 (by decide)) fa_zMc_17_0 ?_
  refine zs_goto (pc := 16) t96_16 ?_
  refine zs_iret (pc := 20) t96_20 mr96 (by decide) ?_
  show zGo X l 3 0 0 148 9 [(0, .ref 6), (1, .int a), (2, .int b), (3, .int c)] [.int (1 : Int32), .int a] zMc _
  refine zs_ineg (pc := 9) t148_9 (c := -1) (by decide) ?_
  refine zs_aload_n (pc := 10) t148_10 rfl ?_
  refine zs_get (pc := 11) t148_11 (by decide) (zk1 fk_zMc_6) fv_zMc_6_0 ?_
  refine zs_iconst (pc := 14) t148_14 (v := 0) (by decide) ?_
  refine zs_invV (pc := 15) (k := 7) (as' := [.int (0 : Int32)]) (st := [.int (-1 : Int32), .int a]) t148_15 mf96 rfl rfl (Or.inl ⟨by decide, (zk1 fk_zMc_7)⟩) ⟨by decide, by decide, Nat.le_of_ble_eq_true rfl, Nat.le_of_ble_eq_true rfl⟩ (zs_in (by decide) mf96 (Nat.le_of_ble_eq_true rfl) ?_) (fun _ _ q => q)
  show zGo X l 0 0 0 96 0 [(0, .ref 7), (1, .int (0 : Int32))] [] zMc _
  refine zs_iload_n (pc := 0) t96_0 rfl ?_
  refine zs_if_ltF (pc := 1) t96_1 li0 (by decide) ?_
  refine zs_iload_n (pc := 4) t96_4 rfl ?_
  refine zs_bipush (pc := 5) t96_5 (v := 9) (by decide) ?_
  refine zs_icmp_geF (pc := 7) t96_7 li0 li9 (by decide) ?_
  refine zs_aload_n (pc := 10) t96_10 rfl ?_
  refine zs_get (pc := 11) t96_11 (by decide) (zk1 fk_zMc_7) fv_zMc_7_12 ?_
  refine zs_iload_n (pc := 14) t96_14 rfl ?_
  refine zs_iald (pc := 15) t96_15 (j := 0) (by decide) (zk1 fk_zMc_17) (by decide) (zk2 fk_zMc_17 (by decide)) fa_zMc_17_0 ?_
  refine zs_goto (pc := 16) t96_16 ?_
  refine zs_iret (pc := 20) t96_20 mr96 (by decide) ?_
  show zGo X l 3 0 0 148 18 [(0, .ref 6), (1, .int a), (2, .int b), (3, .int c)] [.int (1 : Int32), .int (-1 : Int32), .int a] zMc _
  refine zs_invS (pc := 18) (as := [.int a, .int (-1 : Int32), .int (1 : Int32)]) (st := []) t148_18 (by decide) mf39 rfl rfl ⟨by decide, by decide, Nat.le_of_ble_eq_true rfl, Nat.le_of_ble_eq_true rfl⟩ (zs_in (by decide) mf39 (Nat.le_of_ble_eq_true rfl) ?_) (fun _ _ q => q)
  show zGo X l 0 0 0 39 0 [(0, .int a), (1, .int (-1 : Int32)), (2, .int (1 : Int32))] [] zMc _
  refine zs_iload_n (pc := 0) t39_0 rfl ?_
  refine zs_iload_n (pc := 1) t39_1 rfl ?_
  refine zs_icmp_ltF (pc := 2) t39_2 rfl lin1 (by omega) ?_
  refine zs_iload_n (pc := 5) t39_5 rfl ?_
  refine zs_iload_n (pc := 6) t39_6 rfl ?_
  refine zs_icmp_gtF (pc := 7) t39_7 rfl li1 (by omega) ?_
  refine zs_iconst (pc := 10) t39_10 (v := 1) (by decide) ?_
  refine zs_goto (pc := 11) t39_11 ?_
  refine zs_iret (pc := 15) t39_15 mr39 (by decide) ?_
  show zGo X l 3 0 0 148 21 [(0, .ref 6), (1, .int a), (2, .int b), (3, .int c)] [.int (1 : Int32)] zMc _
  refine zs_if_eqF (pc := 21) t148_21 li1 (by decide) ?_
  refine zs_iload_n (pc := 24) t148_24 rfl ?_
  refine zs_aload_n (pc := 25) t148_25 rfl ?_
  refine zs_get (pc := 26) t148_26 (by decide) (zk1 fk_zMc_6) fv_zMc_6_0 ?_
  refine zs_iconst (pc := 29) t148_29 (v := 1) (by decide) ?_
  refine zs_invV (pc := 30) (k := 7) (as' := [.int (1 : Int32)]) (st := [.int b]) t148_30 mf96 rfl rfl (Or.inl ⟨by decide, (zk1 fk_zMc_7)⟩) ⟨by decide, by decide, Nat.le_of_ble_eq_true rfl, Nat.le_of_ble_eq_true rfl⟩ (zs_in (by decide) mf96 (Nat.le_of_ble_eq_true rfl) ?_) (fun _ _ q => q)
  show zGo X l 0 0 0 96 0 [(0, .ref 7), (1, .int (1 : Int32))] [] zMc _
  refine zs_iload_n (pc := 0) t96_0 rfl ?_
  refine zs_if_ltF (pc := 1) t96_1 li1 (by decide) ?_
  refine zs_iload_n (pc := 4) t96_4 rfl ?_
  refine zs_bipush (pc := 5) t96_5 (v := 9) (by decide) ?_
  refine zs_icmp_geF (pc := 7) t96_7 li1 li9 (by decide) ?_
  refine zs_aload_n (pc := 10) t96_10 rfl ?_
  refine zs_get (pc := 11) t96_11 (by decide) (zk1 fk_zMc_7) fv_zMc_7_12 ?_
  refine zs_iload_n (pc := 14) t96_14 rfl ?_
  refine zs_iald (pc := 15) t96_15 (j := 1) (by decide) (zk1 fk_zMc_17) (by decide) (zk2 fk_zMc_17 (by decide)) fa_zMc_17_1 ?_
  refine zs_goto (pc := 16) t96_16 ?_
  refine zs_iret (pc := 20) t96_20 mr96 (by decide) ?_
  show zGo X l 3 0 0 148 33 [(0, .ref 6), (1, .int a), (2, .int b), (3, .int c)] [.int (10 : Int32), .int b] zMc _
  refine zs_ineg (pc := 33) t148_33 (c := -10) (by decide) ?_
  refine zs_aload_n (pc := 34) t148_34 rfl ?_
  refine zs_get (pc := 35) t148_35 (by decide) (zk1 fk_zMc_6) fv_zMc_6_0 ?_
  refine zs_iconst (pc := 38) t148_38 (v := 1) (by decide) ?_
  refine zs_invV (pc := 39) (k := 7) (as' := [.int (1 : Int32)]) (st := [.int (-10 : Int32), .int b]) t148_39 mf96 rfl rfl (Or.inl ⟨by decide, (zk1 fk_zMc_7)⟩) ⟨by decide, by decide, Nat.le_of_ble_eq_true rfl, Nat.le_of_ble_eq_true rfl⟩ (zs_in (by decide) mf96 (Nat.le_of_ble_eq_true rfl) ?_) (fun _ _ q => q)
  show zGo X l 0 0 0 96 0 [(0, .ref 7), (1, .int (1 : Int32))] [] zMc _
  refine zs_iload_n (pc := 0) t96_0 rfl ?_
  refine zs_if_ltF (pc := 1) t96_1 li1 (by decide) ?_
  refine zs_iload_n (pc := 4) t96_4 rfl ?_
  refine zs_bipush (pc := 5) t96_5 (v := 9) (by decide) ?_
  refine zs_icmp_geF (pc := 7) t96_7 li1 li9 (by decide) ?_
  refine zs_aload_n (pc := 10) t96_10 rfl ?_
  refine zs_get (pc := 11) t96_11 (by decide) (zk1 fk_zMc_7) fv_zMc_7_12 ?_
  refine zs_iload_n (pc := 14) t96_14 rfl ?_
  refine zs_iald (pc := 15) t96_15 (j := 1) (by decide) (zk1 fk_zMc_17) (by decide) (zk2 fk_zMc_17 (by decide)) fa_zMc_17_1 ?_
  refine zs_goto (pc := 16) t96_16 ?_
  refine zs_iret (pc := 20) t96_20 mr96 (by decide) ?_
  show zGo X l 3 0 0 148 42 [(0, .ref 6), (1, .int a), (2, .int b), (3, .int c)] [.int (10 : Int32), .int (-10 : Int32), .int b] zMc _
  refine zs_invS (pc := 42) (as := [.int b, .int (-10 : Int32), .int (10 : Int32)]) (st := []) t148_42 (by decide) mf39 rfl rfl ⟨by decide, by decide, Nat.le_of_ble_eq_true rfl, Nat.le_of_ble_eq_true rfl⟩ (zs_in (by decide) mf39 (Nat.le_of_ble_eq_true rfl) ?_) (fun _ _ q => q)
  show zGo X l 0 0 0 39 0 [(0, .int b), (1, .int (-10 : Int32)), (2, .int (10 : Int32))] [] zMc _
  refine zs_iload_n (pc := 0) t39_0 rfl ?_
  refine zs_iload_n (pc := 1) t39_1 rfl ?_
  refine zs_icmp_ltT (pc := 2) t39_2 rfl lin10 (by omega) ?_
  refine zs_iconst (pc := 14) t39_14 (v := 0) (by decide) ?_
  refine zs_iret (pc := 15) t39_15 mr39 (by decide) ?_
  show zGo X l 3 0 0 148 45 [(0, .ref 6), (1, .int a), (2, .int b), (3, .int c)] [.int (0 : Int32)] zMc _
  refine zs_if_neF (pc := 45) t148_45 li0 (by decide) ?_
  refine zs_iconst (pc := 48) t148_48 (v := -1) (by decide) ?_
  exact zs_iret (pc := 49) t148_49 mr148 (by decide) rfl
theorem m12_2 {X : zX} {l : Launch} {a b c : Int32} (la : (-1) ≤ a.toInt) (ua : a.toInt ≤ 1) (lb : (-2147483648) ≤ b.toInt) (ub : b.toInt ≤ (-11)) : zCall X l 3 0 0 315 [.ref 336, .int a, .int b, .int c] zMm (fun r _ => r = some (.int (-1 : Int32))) := by
  have ga := zrg a
  have gb := zrg b
  have gc := zrg c
  refine zs_in (by decide) mf315 (Nat.le_of_ble_eq_true rfl) ?_
  show zGo X l 3 0 0 315 0 [(0, .ref 336), (1, .int a), (2, .int b), (3, .int c)] [] zMm _
  refine zs_iload_n (pc := 0) t315_0 rfl ?_
  refine zs_i2l (pc := 1) t315_1 rfl ?_
  refine zs_aload_n (pc := 2) t315_2 rfl ?_
  refine zs_get (pc := 3) t315_3 (by decide) (zk1 fk_zMm_336) fv_zMm_336_0 ?_
  refine zs_iconst (pc := 6) t315_6 (v := 5) (by decide) ?_
  refine zs_iald (pc := 7) t315_7 (j := 5) (by decide) (zk1 fk_zMm_337) (by decide) (zk2 fk_zMm_337 (by decide)) fa_zMm_337_5 ?_
  refine zs_ineg (pc := 8) t315_8 (c := -1) (by decide) ?_
  refine zs_i2l (pc := 9) t315_9 (c := -1) (by decide) ?_
  refine zs_aload_n (pc := 10) t315_10 rfl ?_
  refine zs_get (pc := 11) t315_11 (by decide) (zk1 fk_zMm_336) fv_zMm_336_0 ?_
  refine zs_iconst (pc := 14) t315_14 (v := 5) (by decide) ?_
  refine zs_iald (pc := 15) t315_15 (j := 5) (by decide) (zk1 fk_zMm_337) (by decide) (zk2 fk_zMm_337 (by decide)) fa_zMm_337_5 ?_
  refine zs_i2l (pc := 16) t315_16 (c := 1) (by decide) ?_
  refine zs_invS (pc := 17) (as := [.long a.toInt64, .long (-1 : Int64), .long (1 : Int64)]) (st := []) t315_17 (by decide) mf228 rfl rfl ⟨by decide, by decide, Nat.le_of_ble_eq_true rfl, Nat.le_of_ble_eq_true rfl⟩ (zs_in (by decide) mf228 (Nat.le_of_ble_eq_true rfl) ?_) (fun _ _ q => q)
  show zGo X l 0 0 0 228 0 [(0, .long a.toInt64), (2, .long (-1 : Int64)), (4, .long (1 : Int64))] [] zMm _
  refine zs_lload_n (pc := 0) t228_0 rfl ?_
  refine zs_lload_n (pc := 1) t228_1 rfl ?_
  by_cases w1 : a.toInt = (-1)
  · refine zs_lcmp (pc := 2) t228_2 (c := 0) (zlcE (zi2l rfl) lln1 (by omega)) ?_
    refine zs_if_ltF (pc := 3) t228_3 li0 (by decide) ?_
    refine zs_lload_n (pc := 6) t228_6 rfl ?_
    refine zs_lload (pc := 7) t228_7 rfl ?_
    refine zs_lcmp (pc := 9) t228_9 (c := -1) (zlcL (zi2l rfl) ll1 (by omega)) ?_
    refine zs_if_gtF (pc := 10) t228_10 lin1 (by decide) ?_
    refine zs_iconst (pc := 13) t228_13 (v := 1) (by decide) ?_
    refine zs_goto (pc := 14) t228_14 ?_
    refine zs_iret (pc := 18) t228_18 mr228 (by decide) ?_
    show zGo X l 3 0 0 315 20 [(0, .ref 336), (1, .int a), (2, .int b), (3, .int c)] [.int (1 : Int32)] zMm _
    refine zs_if_eqF (pc := 20) t315_20 li1 (by decide) ?_
    refine zs_iload_n (pc := 23) t315_23 rfl ?_
    refine zs_i2l (pc := 24) t315_24 rfl ?_
    refine zs_aload_n (pc := 25) t315_25 rfl ?_
    refine zs_get (pc := 26) t315_26 (by decide) (zk1 fk_zMm_336) fv_zMm_336_0 ?_
    refine zs_bipush (pc := 29) t315_29 (v := 6) (by decide) ?_
    refine zs_iald (pc := 31) t315_31 (j := 6) (by decide) (zk1 fk_zMm_337) (by decide) (zk2 fk_zMm_337 (by decide)) fa_zMm_337_6 ?_
    refine zs_ineg (pc := 32) t315_32 (c := -10) (by decide) ?_
    refine zs_i2l (pc := 33) t315_33 (c := -10) (by decide) ?_
    refine zs_aload_n (pc := 34) t315_34 rfl ?_
    refine zs_get (pc := 35) t315_35 (by decide) (zk1 fk_zMm_336) fv_zMm_336_0 ?_
    refine zs_bipush (pc := 38) t315_38 (v := 6) (by decide) ?_
    refine zs_iald (pc := 40) t315_40 (j := 6) (by decide) (zk1 fk_zMm_337) (by decide) (zk2 fk_zMm_337 (by decide)) fa_zMm_337_6 ?_
    refine zs_i2l (pc := 41) t315_41 (c := 10) (by decide) ?_
    refine zs_invS (pc := 42) (as := [.long b.toInt64, .long (-10 : Int64), .long (10 : Int64)]) (st := []) t315_42 (by decide) mf228 rfl rfl ⟨by decide, by decide, Nat.le_of_ble_eq_true rfl, Nat.le_of_ble_eq_true rfl⟩ (zs_in (by decide) mf228 (Nat.le_of_ble_eq_true rfl) ?_) (fun _ _ q => q)
    show zGo X l 0 0 0 228 0 [(0, .long b.toInt64), (2, .long (-10 : Int64)), (4, .long (10 : Int64))] [] zMm _
    refine zs_lload_n (pc := 0) t228_0 rfl ?_
    refine zs_lload_n (pc := 1) t228_1 rfl ?_
    refine zs_lcmp (pc := 2) t228_2 (c := -1) (zlcL (zi2l rfl) lln10 (by omega)) ?_
    refine zs_if_ltT (pc := 3) t228_3 lin1 (by decide) ?_
    refine zs_iconst (pc := 17) t228_17 (v := 0) (by decide) ?_
    refine zs_iret (pc := 18) t228_18 mr228 (by decide) ?_
    show zGo X l 3 0 0 315 45 [(0, .ref 336), (1, .int a), (2, .int b), (3, .int c)] [.int (0 : Int32)] zMm _
    refine zs_if_neF (pc := 45) t315_45 li0 (by decide) ?_
    refine zs_iconst (pc := 48) t315_48 (v := -1) (by decide) ?_
    exact zs_iret (pc := 49) t315_49 mr315 (by decide) rfl
  refine zs_lcmp (pc := 2) t228_2 (c := 1) (zlcG (zi2l rfl) lln1 (by omega)) ?_
  refine zs_if_ltF (pc := 3) t228_3 li1 (by decide) ?_
  refine zs_lload_n (pc := 6) t228_6 rfl ?_
  refine zs_lload (pc := 7) t228_7 rfl ?_
  by_cases w3 : a.toInt < 1
  · refine zs_lcmp (pc := 9) t228_9 (c := -1) (zlcL (zi2l rfl) ll1 (by omega)) ?_
    refine zs_if_gtF (pc := 10) t228_10 lin1 (by decide) ?_
    refine zs_iconst (pc := 13) t228_13 (v := 1) (by decide) ?_
    refine zs_goto (pc := 14) t228_14 ?_
    refine zs_iret (pc := 18) t228_18 mr228 (by decide) ?_
    show zGo X l 3 0 0 315 20 [(0, .ref 336), (1, .int a), (2, .int b), (3, .int c)] [.int (1 : Int32)] zMm _
    refine zs_if_eqF (pc := 20) t315_20 li1 (by decide) ?_
    refine zs_iload_n (pc := 23) t315_23 rfl ?_
    refine zs_i2l (pc := 24) t315_24 rfl ?_
    refine zs_aload_n (pc := 25) t315_25 rfl ?_
    refine zs_get (pc := 26) t315_26 (by decide) (zk1 fk_zMm_336) fv_zMm_336_0 ?_
    refine zs_bipush (pc := 29) t315_29 (v := 6) (by decide) ?_
    refine zs_iald (pc := 31) t315_31 (j := 6) (by decide) (zk1 fk_zMm_337) (by decide) (zk2 fk_zMm_337 (by decide)) fa_zMm_337_6 ?_
    refine zs_ineg (pc := 32) t315_32 (c := -10) (by decide) ?_
    refine zs_i2l (pc := 33) t315_33 (c := -10) (by decide) ?_
    refine zs_aload_n (pc := 34) t315_34 rfl ?_
    refine zs_get (pc := 35) t315_35 (by decide) (zk1 fk_zMm_336) fv_zMm_336_0 ?_
    refine zs_bipush (pc := 38) t315_38 (v := 6) (by decide) ?_
    refine zs_iald (pc := 40) t315_40 (j := 6) (by decide) (zk1 fk_zMm_337) (by decide) (zk2 fk_zMm_337 (by decide)) fa_zMm_337_6 ?_
    refine zs_i2l (pc := 41) t315_41 (c := 10) (by decide) ?_
    refine zs_invS (pc := 42) (as := [.long b.toInt64, .long (-10 : Int64), .long (10 : Int64)]) (st := []) t315_42 (by decide) mf228 rfl rfl ⟨by decide, by decide, Nat.le_of_ble_eq_true rfl, Nat.le_of_ble_eq_true rfl⟩ (zs_in (by decide) mf228 (Nat.le_of_ble_eq_true rfl) ?_) (fun _ _ q => q)
    show zGo X l 0 0 0 228 0 [(0, .long b.toInt64), (2, .long (-10 : Int64)), (4, .long (10 : Int64))] [] zMm _
    refine zs_lload_n (pc := 0) t228_0 rfl ?_
    refine zs_lload_n (pc := 1) t228_1 rfl ?_
    refine zs_lcmp (pc := 2) t228_2 (c := -1) (zlcL (zi2l rfl) lln10 (by omega)) ?_
    refine zs_if_ltT (pc := 3) t228_3 lin1 (by decide) ?_
    refine zs_iconst (pc := 17) t228_17 (v := 0) (by decide) ?_
    refine zs_iret (pc := 18) t228_18 mr228 (by decide) ?_
    show zGo X l 3 0 0 315 45 [(0, .ref 336), (1, .int a), (2, .int b), (3, .int c)] [.int (0 : Int32)] zMm _
    refine zs_if_neF (pc := 45) t315_45 li0 (by decide) ?_
    refine zs_iconst (pc := 48) t315_48 (v := -1) (by decide) ?_
    exact zs_iret (pc := 49) t315_49 mr315 (by decide) rfl
  refine zs_lcmp (pc := 9) t228_9 (c := 0) (zlcE (zi2l rfl) ll1 (by omega)) ?_
  refine zs_if_gtF (pc := 10) t228_10 li0 (by decide) ?_
  refine zs_iconst (pc := 13) t228_13 (v := 1) (by decide) ?_
  refine zs_goto (pc := 14) t228_14 ?_
  refine zs_iret (pc := 18) t228_18 mr228 (by decide) ?_
  show zGo X l 3 0 0 315 20 [(0, .ref 336), (1, .int a), (2, .int b), (3, .int c)] [.int (1 : Int32)] zMm _
  refine zs_if_eqF (pc := 20) t315_20 li1 (by decide) ?_
  refine zs_iload_n (pc := 23) t315_23 rfl ?_
  refine zs_i2l (pc := 24) t315_24 rfl ?_
  refine zs_aload_n (pc := 25) t315_25 rfl ?_
  refine zs_get (pc := 26) t315_26 (by decide) (zk1 fk_zMm_336) fv_zMm_336_0 ?_
  refine zs_bipush (pc := 29) t315_29 (v := 6) (by decide) ?_
  refine zs_iald (pc := 31) t315_31 (j := 6) (by decide) (zk1 fk_zMm_337) (by decide) (zk2 fk_zMm_337 (by decide)) fa_zMm_337_6 ?_
  refine zs_ineg (pc := 32) t315_32 (c := -10) (by decide) ?_
  refine zs_i2l (pc := 33) t315_33 (c := -10) (by decide) ?_
  refine zs_aload_n (pc := 34) t315_34 rfl ?_
  refine zs_get (pc := 35) t315_35 (by decide) (zk1 fk_zMm_336) fv_zMm_336_0 ?_
  refine zs_bipush (pc := 38) t315_38 (v := 6) (by decide) ?_
  refine zs_iald (pc := 40) t315_40 (j := 6) (by decide) (zk1 fk_zMm_337) (by decide) (zk2 fk_zMm_337 (by decide)) fa_zMm_337_6 ?_
  refine zs_i2l (pc := 41) t315_41 (c := 10) (by decide) ?_
  refine zs_invS (pc := 42) (as := [.long b.toInt64, .long (-10 : Int64), .long (10 : Int64)]) (st := []) t315_42 (by decide) mf228 rfl rfl ⟨by decide, by decide, Nat.le_of_ble_eq_true rfl, Nat.le_of_ble_eq_true rfl⟩ (zs_in (by decide) mf228 (Nat.le_of_ble_eq_true rfl) ?_) (fun _ _ q => q)
  show zGo X l 0 0 0 228 0 [(0, .long b.toInt64), (2, .long (-10 : Int64)), (4, .long (10 : Int64))] [] zMm _
  refine zs_lload_n (pc := 0) t228_0 rfl ?_
  refine zs_lload_n (pc := 1) t228_1 rfl ?_
  refine zs_lcmp (pc := 2) t228_2 (c := -1) (zlcL (zi2l rfl) lln10 (by omega)) ?_
  refine zs_if_ltT (pc := 3) t228_3 lin1 (by decide) ?_
  refine zs_iconst (pc := 17) t228_17 (v := 0) (by decide) ?_
  refine zs_iret (pc := 18) t228_18 mr228 (by decide) ?_
  show zGo X l 3 0 0 315 45 [(0, .ref 336), (1, .int a), (2, .int b), (3, .int c)] [.int (0 : Int32)] zMm _
  refine zs_if_neF (pc := 45) t315_45 li0 (by decide) ?_
  refine zs_iconst (pc := 48) t315_48 (v := -1) (by decide) ?_
  exact zs_iret (pc := 49) t315_49 mr315 (by decide) rfl
theorem c12_3 {X : zX} {l : Launch} {a b c : Int32} (la : (-1) ≤ a.toInt) (ua : a.toInt ≤ 1) (lb : 11 ≤ b.toInt) (ub : b.toInt ≤ 2147483647) : zCall X l 3 0 0 148 [.ref 6, .int a, .int b, .int c] zMc (fun r _ => r = some (.int (-1 : Int32))) := by
  have ga := zrg a
  have gb := zrg b
  have gc := zrg c
  refine zs_in (by decide) mf148 (Nat.le_of_ble_eq_true rfl) ?_
  show zGo X l 3 0 0 148 0 [(0, .ref 6), (1, .int a), (2, .int b), (3, .int c)] [] zMc _
  refine zs_iload_n (pc := 0) t148_0 rfl ?_
  refine zs_aload_n (pc := 1) t148_1 rfl ?_
  refine zs_get (pc := 2) t148_2 (by decide) (zk1 fk_zMc_6) fv_zMc_6_0 ?_
  refine zs_iconst (pc := 5) t148_5 (v := 0) (by decide) ?_
  refine zs_invV (pc := 6) (k := 7) (as' := [.int (0 : Int32)]) (st := [.int a]) t148_6 mf96 rfl rfl (Or.inl ⟨by decide, (zk1 fk_zMc_7)⟩) ⟨by decide, by decide, Nat.le_of_ble_eq_true rfl, Nat.le_of_ble_eq_true rfl⟩ (zs_in (by decide) mf96 (Nat.le_of_ble_eq_true rfl) ?_) (fun _ _ q => q)
  show zGo X l 0 0 0 96 0 [(0, .ref 7), (1, .int (0 : Int32))] [] zMc _
  refine zs_iload_n (pc := 0) t96_0 rfl ?_
  refine zs_if_ltF (pc := 1) t96_1 li0 (by decide) ?_
  refine zs_iload_n (pc := 4) t96_4 rfl ?_
  refine zs_bipush (pc := 5) t96_5 (v := 9) (by decide) ?_
  refine zs_icmp_geF (pc := 7) t96_7 li0 li9 (by decide) ?_
  refine zs_aload_n (pc := 10) t96_10 rfl ?_
  refine zs_get (pc := 11) t96_11 (by decide) (zk1 fk_zMc_7) fv_zMc_7_12 ?_
  refine zs_iload_n (pc := 14) t96_14 rfl ?_
  refine zs_iald (pc := 15) t96_15 (j := 0) (by decide) (zk1 fk_zMc_17) (by decide) (zk2 fk_zMc_17 (by decide)) fa_zMc_17_0 ?_
  refine zs_goto (pc := 16) t96_16 ?_
  refine zs_iret (pc := 20) t96_20 mr96 (by decide) ?_
  show zGo X l 3 0 0 148 9 [(0, .ref 6), (1, .int a), (2, .int b), (3, .int c)] [.int (1 : Int32), .int a] zMc _
  refine zs_ineg (pc := 9) t148_9 (c := -1) (by decide) ?_
  refine zs_aload_n (pc := 10) t148_10 rfl ?_
  refine zs_get (pc := 11) t148_11 (by decide) (zk1 fk_zMc_6) fv_zMc_6_0 ?_
  refine zs_iconst (pc := 14) t148_14 (v := 0) (by decide) ?_
  refine zs_invV (pc := 15) (k := 7) (as' := [.int (0 : Int32)]) (st := [.int (-1 : Int32), .int a]) t148_15 mf96 rfl rfl (Or.inl ⟨by decide, (zk1 fk_zMc_7)⟩) ⟨by decide, by decide, Nat.le_of_ble_eq_true rfl, Nat.le_of_ble_eq_true rfl⟩ (zs_in (by decide) mf96 (Nat.le_of_ble_eq_true rfl) ?_) (fun _ _ q => q)
  show zGo X l 0 0 0 96 0 [(0, .ref 7), (1, .int (0 : Int32))] [] zMc _
  refine zs_iload_n (pc := 0) t96_0 rfl ?_
  refine zs_if_ltF (pc := 1) t96_1 li0 (by decide) ?_
  refine zs_iload_n (pc := 4) t96_4 rfl ?_
  refine zs_bipush (pc := 5) t96_5 (v := 9) (by decide) ?_
  refine zs_icmp_geF (pc := 7) t96_7 li0 li9 (by decide) ?_
  refine zs_aload_n (pc := 10) t96_10 rfl ?_
  refine zs_get (pc := 11) t96_11 (by decide) (zk1 fk_zMc_7) fv_zMc_7_12 ?_
  refine zs_iload_n (pc := 14) t96_14 rfl ?_
  refine zs_iald (pc := 15) t96_15 (j := 0) (by decide) (zk1 fk_zMc_17) (by decide) (zk2 fk_zMc_17 (by decide)) fa_zMc_17_0 ?_
  refine zs_goto (pc := 16) t96_16 ?_
  refine zs_iret (pc := 20) t96_20 mr96 (by decide) ?_
  show zGo X l 3 0 0 148 18 [(0, .ref 6), (1, .int a), (2, .int b), (3, .int c)] [.int (1 : Int32), .int (-1 : Int32), .int a] zMc _
  refine zs_invS (pc := 18) (as := [.int a, .int (-1 : Int32), .int (1 : Int32)]) (st := []) t148_18 (by decide) mf39 rfl rfl ⟨by decide, by decide, Nat.le_of_ble_eq_true rfl, Nat.le_of_ble_eq_true rfl⟩ (zs_in (by decide) mf39 (Nat.le_of_ble_eq_true rfl) ?_) (fun _ _ q => q)
  show zGo X l 0 0 0 39 0 [(0, .int a), (1, .int (-1 : Int32)), (2, .int (1 : Int32))] [] zMc _
  refine zs_iload_n (pc := 0) t39_0 rfl ?_
  refine zs_iload_n (pc := 1) t39_1 rfl ?_
  refine zs_icmp_ltF (pc := 2) t39_2 rfl lin1 (by omega) ?_
  refine zs_iload_n (pc := 5) t39_5 rfl ?_
  refine zs_iload_n (pc := 6) t39_6 rfl ?_
  refine zs_icmp_gtF (pc := 7) t39_7 rfl li1 (by omega) ?_
  refine zs_iconst (pc := 10) t39_10 (v := 1) (by decide) ?_
  refine zs_goto (pc := 11) t39_11 ?_
  refine zs_iret (pc := 15) t39_15 mr39 (by decide) ?_
  show zGo X l 3 0 0 148 21 [(0, .ref 6), (1, .int a), (2, .int b), (3, .int c)] [.int (1 : Int32)] zMc _
  refine zs_if_eqF (pc := 21) t148_21 li1 (by decide) ?_
  refine zs_iload_n (pc := 24) t148_24 rfl ?_
  refine zs_aload_n (pc := 25) t148_25 rfl ?_
  refine zs_get (pc := 26) t148_26 (by decide) (zk1 fk_zMc_6) fv_zMc_6_0 ?_
  refine zs_iconst (pc := 29) t148_29 (v := 1) (by decide) ?_
  refine zs_invV (pc := 30) (k := 7) (as' := [.int (1 : Int32)]) (st := [.int b]) t148_30 mf96 rfl rfl (Or.inl ⟨by decide, (zk1 fk_zMc_7)⟩) ⟨by decide, by decide, Nat.le_of_ble_eq_true rfl, Nat.le_of_ble_eq_true rfl⟩ (zs_in (by decide) mf96 (Nat.le_of_ble_eq_true rfl) ?_) (fun _ _ q => q)
  show zGo X l 0 0 0 96 0 [(0, .ref 7), (1, .int (1 : Int32))] [] zMc _
  refine zs_iload_n (pc := 0) t96_0 rfl ?_
  refine zs_if_ltF (pc := 1) t96_1 li1 (by decide) ?_
  refine zs_iload_n (pc := 4) t96_4 rfl ?_
  refine zs_bipush (pc := 5) t96_5 (v := 9) (by decide) ?_
  refine zs_icmp_geF (pc := 7) t96_7 li1 li9 (by decide) ?_
  refine zs_aload_n (pc := 10) t96_10 rfl ?_
  refine zs_get (pc := 11) t96_11 (by decide) (zk1 fk_zMc_7) fv_zMc_7_12 ?_
  refine zs_iload_n (pc := 14) t96_14 rfl ?_
  refine zs_iald (pc := 15) t96_15 (j := 1) (by decide) (zk1 fk_zMc_17) (by decide) (zk2 fk_zMc_17 (by decide)) fa_zMc_17_1 ?_
  refine zs_goto (pc := 16) t96_16 ?_
  refine zs_iret (pc := 20) t96_20 mr96 (by decide) ?_
  show zGo X l 3 0 0 148 33 [(0, .ref 6), (1, .int a), (2, .int b), (3, .int c)] [.int (10 : Int32), .int b] zMc _
  refine zs_ineg (pc := 33) t148_33 (c := -10) (by decide) ?_
  refine zs_aload_n (pc := 34) t148_34 rfl ?_
  refine zs_get (pc := 35) t148_35 (by decide) (zk1 fk_zMc_6) fv_zMc_6_0 ?_
  refine zs_iconst (pc := 38) t148_38 (v := 1) (by decide) ?_
  refine zs_invV (pc := 39) (k := 7) (as' := [.int (1 : Int32)]) (st := [.int (-10 : Int32), .int b]) t148_39 mf96 rfl rfl (Or.inl ⟨by decide, (zk1 fk_zMc_7)⟩) ⟨by decide, by decide, Nat.le_of_ble_eq_true rfl, Nat.le_of_ble_eq_true rfl⟩ (zs_in (by decide) mf96 (Nat.le_of_ble_eq_true rfl) ?_) (fun _ _ q => q)
  show zGo X l 0 0 0 96 0 [(0, .ref 7), (1, .int (1 : Int32))] [] zMc _
  refine zs_iload_n (pc := 0) t96_0 rfl ?_
  refine zs_if_ltF (pc := 1) t96_1 li1 (by decide) ?_
  refine zs_iload_n (pc := 4) t96_4 rfl ?_
  refine zs_bipush (pc := 5) t96_5 (v := 9) (by decide) ?_
  refine zs_icmp_geF (pc := 7) t96_7 li1 li9 (by decide) ?_
  refine zs_aload_n (pc := 10) t96_10 rfl ?_
  refine zs_get (pc := 11) t96_11 (by decide) (zk1 fk_zMc_7) fv_zMc_7_12 ?_
  refine zs_iload_n (pc := 14) t96_14 rfl ?_
  refine zs_iald (pc := 15) t96_15 (j := 1) (by decide) (zk1 fk_zMc_17) (by decide) (zk2 fk_zMc_17 (by decide)) fa_zMc_17_1 ?_
  refine zs_goto (pc := 16) t96_16 ?_
  refine zs_iret (pc := 20) t96_20 mr96 (by decide) ?_
  show zGo X l 3 0 0 148 42 [(0, .ref 6), (1, .int a), (2, .int b), (3, .int c)] [.int (10 : Int32), .int (-10 : Int32), .int b] zMc _
  refine zs_invS (pc := 42) (as := [.int b, .int (-10 : Int32), .int (10 : Int32)]) (st := []) t148_42 (by decide) mf39 rfl rfl ⟨by decide, by decide, Nat.le_of_ble_eq_true rfl, Nat.le_of_ble_eq_true rfl⟩ (zs_in (by decide) mf39 (Nat.le_of_ble_eq_true rfl) ?_) (fun _ _ q => q)
  show zGo X l 0 0 0 39 0 [(0, .int b), (1, .int (-10 : Int32)), (2, .int (10 : Int32))] [] zMc _
  refine zs_iload_n (pc := 0) t39_0 rfl ?_
  refine zs_iload_n (pc := 1) t39_1 rfl ?_
  refine zs_icmp_ltF (pc := 2) t39_2 rfl lin10 (by omega) ?_
  refine zs_iload_n (pc := 5) t39_5 rfl ?_
  refine zs_iload_n (pc := 6) t39_6 rfl ?_
  refine zs_icmp_gtT (pc := 7) t39_7 rfl li10 (by omega) ?_
  refine zs_iconst (pc := 14) t39_14 (v := 0) (by decide) ?_
  refine zs_iret (pc := 15) t39_15 mr39 (by decide) ?_
  show zGo X l 3 0 0 148 45 [(0, .ref 6), (1, .int a), (2, .int b), (3, .int c)] [.int (0 : Int32)] zMc _
  refine zs_if_neF (pc := 45) t148_45 li0 (by decide) ?_
  refine zs_iconst (pc := 48) t148_48 (v := -1) (by decide) ?_
  exact zs_iret (pc := 49) t148_49 mr148 (by decide) rfl
theorem m12_3 {X : zX} {l : Launch} {a b c : Int32} (la : (-1) ≤ a.toInt) (ua : a.toInt ≤ 1) (lb : 11 ≤ b.toInt) (ub : b.toInt ≤ 2147483647) : zCall X l 3 0 0 315 [.ref 336, .int a, .int b, .int c] zMm (fun r _ => r = some (.int (-1 : Int32))) := by
  have ga := zrg a
  have gb := zrg b
  have gc := zrg c
  refine zs_in (by decide) mf315 (Nat.le_of_ble_eq_true rfl) ?_
  show zGo X l 3 0 0 315 0 [(0, .ref 336), (1, .int a), (2, .int b), (3, .int c)] [] zMm _
  refine zs_iload_n (pc := 0) t315_0 rfl ?_
  refine zs_i2l (pc := 1) t315_1 rfl ?_
  refine zs_aload_n (pc := 2) t315_2 rfl ?_
  refine zs_get (pc := 3) t315_3 (by decide) (zk1 fk_zMm_336) fv_zMm_336_0 ?_
  refine zs_iconst (pc := 6) t315_6 (v := 5) (by decide) ?_
  refine zs_iald (pc := 7) t315_7 (j := 5) (by decide) (zk1 fk_zMm_337) (by decide) (zk2 fk_zMm_337 (by decide)) fa_zMm_337_5 ?_
  refine zs_ineg (pc := 8) t315_8 (c := -1) (by decide) ?_
  refine zs_i2l (pc := 9) t315_9 (c := -1) (by decide) ?_
  refine zs_aload_n (pc := 10) t315_10 rfl ?_
  refine zs_get (pc := 11) t315_11 (by decide) (zk1 fk_zMm_336) fv_zMm_336_0 ?_
  refine zs_iconst (pc := 14) t315_14 (v := 5) (by decide) ?_
  refine zs_iald (pc := 15) t315_15 (j := 5) (by decide) (zk1 fk_zMm_337) (by decide) (zk2 fk_zMm_337 (by decide)) fa_zMm_337_5 ?_
  refine zs_i2l (pc := 16) t315_16 (c := 1) (by decide) ?_
  refine zs_invS (pc := 17) (as := [.long a.toInt64, .long (-1 : Int64), .long (1 : Int64)]) (st := []) t315_17 (by decide) mf228 rfl rfl ⟨by decide, by decide, Nat.le_of_ble_eq_true rfl, Nat.le_of_ble_eq_true rfl⟩ (zs_in (by decide) mf228 (Nat.le_of_ble_eq_true rfl) ?_) (fun _ _ q => q)
  show zGo X l 0 0 0 228 0 [(0, .long a.toInt64), (2, .long (-1 : Int64)), (4, .long (1 : Int64))] [] zMm _
  refine zs_lload_n (pc := 0) t228_0 rfl ?_
  refine zs_lload_n (pc := 1) t228_1 rfl ?_
  by_cases w1 : a.toInt = (-1)
  · refine zs_lcmp (pc := 2) t228_2 (c := 0) (zlcE (zi2l rfl) lln1 (by omega)) ?_
    refine zs_if_ltF (pc := 3) t228_3 li0 (by decide) ?_
    refine zs_lload_n (pc := 6) t228_6 rfl ?_
    refine zs_lload (pc := 7) t228_7 rfl ?_
    refine zs_lcmp (pc := 9) t228_9 (c := -1) (zlcL (zi2l rfl) ll1 (by omega)) ?_
    refine zs_if_gtF (pc := 10) t228_10 lin1 (by decide) ?_
    refine zs_iconst (pc := 13) t228_13 (v := 1) (by decide) ?_
    refine zs_goto (pc := 14) t228_14 ?_
    refine zs_iret (pc := 18) t228_18 mr228 (by decide) ?_
    show zGo X l 3 0 0 315 20 [(0, .ref 336), (1, .int a), (2, .int b), (3, .int c)] [.int (1 : Int32)] zMm _
    refine zs_if_eqF (pc := 20) t315_20 li1 (by decide) ?_
    refine zs_iload_n (pc := 23) t315_23 rfl ?_
    refine zs_i2l (pc := 24) t315_24 rfl ?_
    refine zs_aload_n (pc := 25) t315_25 rfl ?_
    refine zs_get (pc := 26) t315_26 (by decide) (zk1 fk_zMm_336) fv_zMm_336_0 ?_
    refine zs_bipush (pc := 29) t315_29 (v := 6) (by decide) ?_
    refine zs_iald (pc := 31) t315_31 (j := 6) (by decide) (zk1 fk_zMm_337) (by decide) (zk2 fk_zMm_337 (by decide)) fa_zMm_337_6 ?_
    refine zs_ineg (pc := 32) t315_32 (c := -10) (by decide) ?_
    refine zs_i2l (pc := 33) t315_33 (c := -10) (by decide) ?_
    refine zs_aload_n (pc := 34) t315_34 rfl ?_
    refine zs_get (pc := 35) t315_35 (by decide) (zk1 fk_zMm_336) fv_zMm_336_0 ?_
    refine zs_bipush (pc := 38) t315_38 (v := 6) (by decide) ?_
    refine zs_iald (pc := 40) t315_40 (j := 6) (by decide) (zk1 fk_zMm_337) (by decide) (zk2 fk_zMm_337 (by decide)) fa_zMm_337_6 ?_
    refine zs_i2l (pc := 41) t315_41 (c := 10) (by decide) ?_
    refine zs_invS (pc := 42) (as := [.long b.toInt64, .long (-10 : Int64), .long (10 : Int64)]) (st := []) t315_42 (by decide) mf228 rfl rfl ⟨by decide, by decide, Nat.le_of_ble_eq_true rfl, Nat.le_of_ble_eq_true rfl⟩ (zs_in (by decide) mf228 (Nat.le_of_ble_eq_true rfl) ?_) (fun _ _ q => q)
    show zGo X l 0 0 0 228 0 [(0, .long b.toInt64), (2, .long (-10 : Int64)), (4, .long (10 : Int64))] [] zMm _
    refine zs_lload_n (pc := 0) t228_0 rfl ?_
    refine zs_lload_n (pc := 1) t228_1 rfl ?_
    refine zs_lcmp (pc := 2) t228_2 (c := 1) (zlcG (zi2l rfl) lln10 (by omega)) ?_
    refine zs_if_ltF (pc := 3) t228_3 li1 (by decide) ?_
    refine zs_lload_n (pc := 6) t228_6 rfl ?_
    refine zs_lload (pc := 7) t228_7 rfl ?_
    refine zs_lcmp (pc := 9) t228_9 (c := 1) (zlcG (zi2l rfl) ll10 (by omega)) ?_
    refine zs_if_gtT (pc := 10) t228_10 li1 (by decide) ?_
    refine zs_iconst (pc := 17) t228_17 (v := 0) (by decide) ?_
    refine zs_iret (pc := 18) t228_18 mr228 (by decide) ?_
    show zGo X l 3 0 0 315 45 [(0, .ref 336), (1, .int a), (2, .int b), (3, .int c)] [.int (0 : Int32)] zMm _
    refine zs_if_neF (pc := 45) t315_45 li0 (by decide) ?_
    refine zs_iconst (pc := 48) t315_48 (v := -1) (by decide) ?_
    exact zs_iret (pc := 49) t315_49 mr315 (by decide) rfl
  refine zs_lcmp (pc := 2) t228_2 (c := 1) (zlcG (zi2l rfl) lln1 (by omega)) ?_
  refine zs_if_ltF (pc := 3) t228_3 li1 (by decide) ?_
  refine zs_lload_n (pc := 6) t228_6 rfl ?_
  refine zs_lload (pc := 7) t228_7 rfl ?_
  by_cases w3 : a.toInt < 1
  · refine zs_lcmp (pc := 9) t228_9 (c := -1) (zlcL (zi2l rfl) ll1 (by omega)) ?_
    refine zs_if_gtF (pc := 10) t228_10 lin1 (by decide) ?_
    refine zs_iconst (pc := 13) t228_13 (v := 1) (by decide) ?_
    refine zs_goto (pc := 14) t228_14 ?_
    refine zs_iret (pc := 18) t228_18 mr228 (by decide) ?_
    show zGo X l 3 0 0 315 20 [(0, .ref 336), (1, .int a), (2, .int b), (3, .int c)] [.int (1 : Int32)] zMm _
    refine zs_if_eqF (pc := 20) t315_20 li1 (by decide) ?_
    refine zs_iload_n (pc := 23) t315_23 rfl ?_
    refine zs_i2l (pc := 24) t315_24 rfl ?_
    refine zs_aload_n (pc := 25) t315_25 rfl ?_
    refine zs_get (pc := 26) t315_26 (by decide) (zk1 fk_zMm_336) fv_zMm_336_0 ?_
    refine zs_bipush (pc := 29) t315_29 (v := 6) (by decide) ?_
    refine zs_iald (pc := 31) t315_31 (j := 6) (by decide) (zk1 fk_zMm_337) (by decide) (zk2 fk_zMm_337 (by decide)) fa_zMm_337_6 ?_
    refine zs_ineg (pc := 32) t315_32 (c := -10) (by decide) ?_
    refine zs_i2l (pc := 33) t315_33 (c := -10) (by decide) ?_
    refine zs_aload_n (pc := 34) t315_34 rfl ?_
    refine zs_get (pc := 35) t315_35 (by decide) (zk1 fk_zMm_336) fv_zMm_336_0 ?_
    refine zs_bipush (pc := 38) t315_38 (v := 6) (by decide) ?_
    refine zs_iald (pc := 40) t315_40 (j := 6) (by decide) (zk1 fk_zMm_337) (by decide) (zk2 fk_zMm_337 (by decide)) fa_zMm_337_6 ?_
    refine zs_i2l (pc := 41) t315_41 (c := 10) (by decide) ?_
    refine zs_invS (pc := 42) (as := [.long b.toInt64, .long (-10 : Int64), .long (10 : Int64)]) (st := []) t315_42 (by decide) mf228 rfl rfl ⟨by decide, by decide, Nat.le_of_ble_eq_true rfl, Nat.le_of_ble_eq_true rfl⟩ (zs_in (by decide) mf228 (Nat.le_of_ble_eq_true rfl) ?_) (fun _ _ q => q)
    show zGo X l 0 0 0 228 0 [(0, .long b.toInt64), (2, .long (-10 : Int64)), (4, .long (10 : Int64))] [] zMm _
    refine zs_lload_n (pc := 0) t228_0 rfl ?_
    refine zs_lload_n (pc := 1) t228_1 rfl ?_
    refine zs_lcmp (pc := 2) t228_2 (c := 1) (zlcG (zi2l rfl) lln10 (by omega)) ?_
    refine zs_if_ltF (pc := 3) t228_3 li1 (by decide) ?_
    refine zs_lload_n (pc := 6) t228_6 rfl ?_
    refine zs_lload (pc := 7) t228_7 rfl ?_
    refine zs_lcmp (pc := 9) t228_9 (c := 1) (zlcG (zi2l rfl) ll10 (by omega)) ?_
    refine zs_if_gtT (pc := 10) t228_10 li1 (by decide) ?_
    refine zs_iconst (pc := 17) t228_17 (v := 0) (by decide) ?_
    refine zs_iret (pc := 18) t228_18 mr228 (by decide) ?_
    show zGo X l 3 0 0 315 45 [(0, .ref 336), (1, .int a), (2, .int b), (3, .int c)] [.int (0 : Int32)] zMm _
    refine zs_if_neF (pc := 45) t315_45 li0 (by decide) ?_
    refine zs_iconst (pc := 48) t315_48 (v := -1) (by decide) ?_
    exact zs_iret (pc := 49) t315_49 mr315 (by decide) rfl
  refine zs_lcmp (pc := 9) t228_9 (c := 0) (zlcE (zi2l rfl) ll1 (by omega)) ?_
  refine zs_if_gtF (pc := 10) t228_10 li0 (by decide) ?_
  refine zs_iconst (pc := 13) t228_13 (v := 1) (by decide) ?_
  refine zs_goto (pc := 14) t228_14 ?_
  refine zs_iret (pc := 18) t228_18 mr228 (by decide) ?_
  show zGo X l 3 0 0 315 20 [(0, .ref 336), (1, .int a), (2, .int b), (3, .int c)] [.int (1 : Int32)] zMm _
  refine zs_if_eqF (pc := 20) t315_20 li1 (by decide) ?_
  refine zs_iload_n (pc := 23) t315_23 rfl ?_
  refine zs_i2l (pc := 24) t315_24 rfl ?_
  refine zs_aload_n (pc := 25) t315_25 rfl ?_
  refine zs_get (pc := 26) t315_26 (by decide) (zk1 fk_zMm_336) fv_zMm_336_0 ?_
  refine zs_bipush (pc := 29) t315_29 (v := 6) (by decide) ?_
  refine zs_iald (pc := 31) t315_31 (j := 6) (by decide) (zk1 fk_zMm_337) (by decide) (zk2 fk_zMm_337 (by decide)) fa_zMm_337_6 ?_
  refine zs_ineg (pc := 32) t315_32 (c := -10) (by decide) ?_
  refine zs_i2l (pc := 33) t315_33 (c := -10) (by decide) ?_
  refine zs_aload_n (pc := 34) t315_34 rfl ?_
  refine zs_get (pc := 35) t315_35 (by decide) (zk1 fk_zMm_336) fv_zMm_336_0 ?_
  refine zs_bipush (pc := 38) t315_38 (v := 6) (by decide) ?_
  refine zs_iald (pc := 40) t315_40 (j := 6) (by decide) (zk1 fk_zMm_337) (by decide) (zk2 fk_zMm_337 (by decide)) fa_zMm_337_6 ?_
  refine zs_i2l (pc := 41) t315_41 (c := 10) (by decide) ?_
  refine zs_invS (pc := 42) (as := [.long b.toInt64, .long (-10 : Int64), .long (10 : Int64)]) (st := []) t315_42 (by decide) mf228 rfl rfl ⟨by decide, by decide, Nat.le_of_ble_eq_true rfl, Nat.le_of_ble_eq_true rfl⟩ (zs_in (by decide) mf228 (Nat.le_of_ble_eq_true rfl) ?_) (fun _ _ q => q)
  show zGo X l 0 0 0 228 0 [(0, .long b.toInt64), (2, .long (-10 : Int64)), (4, .long (10 : Int64))] [] zMm _
  refine zs_lload_n (pc := 0) t228_0 rfl ?_
  refine zs_lload_n (pc := 1) t228_1 rfl ?_
  refine zs_lcmp (pc := 2) t228_2 (c := 1) (zlcG (zi2l rfl) lln10 (by omega)) ?_
  refine zs_if_ltF (pc := 3) t228_3 li1 (by decide) ?_
  refine zs_lload_n (pc := 6) t228_6 rfl ?_
  refine zs_lload (pc := 7) t228_7 rfl ?_
  refine zs_lcmp (pc := 9) t228_9 (c := 1) (zlcG (zi2l rfl) ll10 (by omega)) ?_
  refine zs_if_gtT (pc := 10) t228_10 li1 (by decide) ?_
  refine zs_iconst (pc := 17) t228_17 (v := 0) (by decide) ?_
  refine zs_iret (pc := 18) t228_18 mr228 (by decide) ?_
  show zGo X l 3 0 0 315 45 [(0, .ref 336), (1, .int a), (2, .int b), (3, .int c)] [.int (0 : Int32)] zMm _
  refine zs_if_neF (pc := 45) t315_45 li0 (by decide) ?_
  refine zs_iconst (pc := 48) t315_48 (v := -1) (by decide) ?_
  exact zs_iret (pc := 49) t315_49 mr315 (by decide) rfl
