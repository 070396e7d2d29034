theorem c13_0 {X : zX} {l : Launch} {a : Int32} (la : (-2147483648) ≤ a.toInt) (ua : a.toInt ≤ (-1)) : zCall X l 7 0 0 150 [.ref 6, .int a] zMc (fun r _ => r = some (.int (-1 : Int32))) := by
  have ga := zrg a
  refine zs_in (by decide) mf150 (Nat.le_of_ble_eq_true rfl) ?_
  show zGo X l 7 0 0 150 0 [(0, .ref 6), (1, .int a)] [] zMc _
  refine zs_iload_n (pc := 0) t150_0 rfl ?_
  refine zs_tswD (pc := 1) t150_1 rfl (by omega) (pc2 := 82) rfl ?_
  refine zs_iconst (pc := 82) t150_82 (v := -1) (by decide) ?_
  exact zs_iret (pc := 83) t150_83 mr150 (by decide) rfl
theorem m13_0 {X : zX} {l : Launch} {a : Int32} (la : (-2147483648) ≤ a.toInt) (ua : a.toInt ≤ (-1)) : zCall X l 8 0 0 316 [.ref 336, .int a] zMm (fun r _ => r = some (.int (-1 : Int32))) := by
  have ga := zrg a
  refine zs_in (by decide) mf316 (Nat.le_of_ble_eq_true rfl) ?_
  show zGo X l 8 0 0 316 0 [(0, .ref 336), (1, .int a)] [] zMm _
  refine zs_iload_n (pc := 0) t316_0 rfl ?_
  refine zs_tswD (pc := 1) t316_1 rfl (by omega) (pc2 := 78) rfl ?_
  refine zs_iconst (pc := 78) t316_78 (v := -1) (by decide) ?_
  exact zs_iret (pc := 79) t316_79 mr316 (by decide) rfl
theorem c13_1 {X : zX} {l : Launch} : zCall X l 7 0 0 150 [.ref 6, .int (0 : Int32)] zMc (fun r _ => r = some (.int (0 : Int32))) := by
  refine zs_in (by decide) mf150 (Nat.le_of_ble_eq_true rfl) ?_
  show zGo X l 7 0 0 150 0 [(0, .ref 6), (1, .int (0 : Int32))] [] zMc _
  refine zs_iload_n (pc := 0) t150_0 rfl ?_
  refine zs_tswI (pc := 1) t150_1 li0 (by decide) rfl (pc2 := 40) rfl ?_
  refine zs_aload_n (pc := 40) t150_40 rfl ?_
  refine zs_bipush (pc := 41) t150_41 (v := 110) (by decide) ?_
  refine zs_invV (pc := 43) (k := 6) (as' := [.int (110 : Int32)]) (st := []) t150_43 mf151 rfl rfl (Or.inl ⟨by decide, (zk1 fk_zMc_6)⟩) ⟨by decide, by decide, Nat.le_of_ble_eq_true rfl, Nat.le_of_ble_eq_true rfl⟩ (zs_in (by decide) mf151 (Nat.le_of_ble_eq_true rfl) ?_) (fun _ _ q => q)
  show zGo X l 6 0 0 151 0 [(0, .ref 6), (1, .int (110 : Int32))] [] zMc _
  refine zs_iload_n (pc := 0) t151_0 rfl ?_
  refine zs_tswI (pc := 1) t151_1 li110 (by decide) rfl (pc2 := 80) rfl ?_
  refine zs_aload_n (pc := 80) t151_80 rfl ?_
  refine zs_get (pc := 81) t151_81 (by decide) (zk1 fk_zMc_6) fv_zMc_6_6 ?_
  refine zs_aload_n (pc := 84) t151_84 rfl ?_
  refine zs_get (pc := 85) t151_85 (by decide) (zk1 fk_zMc_6) fv_zMc_6_0 ?_
  refine zs_invV (pc := 88) (k := 164) (as' := [.ref 7]) (st := []) t151_88 mf105 rfl rfl (Or.inl ⟨by decide, (zk1 fk_zMc_164)⟩) ⟨by decide, by decide, Nat.le_of_ble_eq_true rfl, Nat.le_of_ble_eq_true rfl⟩ (cc1 (X := X) (l := l)) ?_
  rintro r M1 ⟨rfl, M1k164, M1v164_4, M1k325, M1rM3, M1v164_9, M1v164_1, M1k165, M1rM4, M1k6, M1v6_6, -⟩
  show zGo X l 6 0 0 151 91 [(0, .ref 6), (1, .int (110 : Int32))] [.ref 164] M1 _
  refine zs_invV (pc := 91) (k := 164) (as' := []) (st := []) t151_91 mf144 rfl rfl (Or.inl ⟨by decide, (zk1 M1k164)⟩) ⟨by decide, by decide, Nat.le_of_ble_eq_true rfl, Nat.le_of_ble_eq_true rfl⟩ (zs_in (by decide) mf144 (Nat.le_of_ble_eq_true rfl) ?_) (fun _ _ q => q)
  show zGo X l 0 0 0 144 0 [(0, .ref 164)] [] M1 _
  refine zs_aload_n (pc := 0) t144_0 rfl ?_
  refine zs_get (pc := 1) t144_1 (by decide) (zk1 M1k164) M1v164_4 ?_
  refine zs_iret (pc := 4) t144_4 mr144 (by decide) ?_
  show zGo X l 6 0 0 151 94 [(0, .ref 6), (1, .int (110 : Int32))] [.int (0 : Int32)] M1 _
  refine zs_iret (pc := 94) t151_94 mr151 (by decide) ?_
  show zGo X l 7 0 0 150 46 [(0, .ref 6), (1, .int (0 : Int32))] [.int (0 : Int32)] M1 _
  exact zs_iret (pc := 46) t150_46 mr150 (by decide) rfl
theorem m13_1 {X : zX} {l : Launch} : zCall X l 8 0 0 316 [.ref 336, .int (0 : Int32)] zMm (fun r _ => r = some (.int (0 : Int32))) := by
  refine zs_in (by decide) mf316 (Nat.le_of_ble_eq_true rfl) ?_
  show zGo X l 8 0 0 316 0 [(0, .ref 336), (1, .int (0 : Int32))] [] zMm _
  refine zs_iload_n (pc := 0) t316_0 rfl ?_
  refine zs_tswI (pc := 1) t316_1 li0 (by decide) rfl (pc2 := 40) rfl ?_
  refine zs_aload_n (pc := 40) t316_40 rfl ?_
  refine zs_iconst (pc := 41) t316_41 (v := 0) (by decide) ?_
  refine zs_invV (pc := 42) (k := 336) (as' := [.int (0 : Int32)]) (st := []) t316_42 mf267 rfl rfl (Or.inl ⟨by decide, (zk1 fk_zMm_336)⟩) ⟨by decide, by decide, Nat.le_of_ble_eq_true rfl, Nat.le_of_ble_eq_true rfl⟩ (zs_in (by decide) mf267 (Nat.le_of_ble_eq_true rfl) ?_) (fun _ _ q => q)
  show zGo X l 7 0 0 267 0 [(0, .ref 336), (1, .int (0 : Int32))] [] zMm _
  refine zs_aload_n (pc := 0) t267_0 rfl ?_
  refine zs_invV (pc := 1) (k := 336) (as' := []) (st := []) t267_1 mf268 rfl rfl (Or.inl ⟨by decide, (zk1 fk_zMm_336)⟩) ⟨by decide, by decide, Nat.le_of_ble_eq_true rfl, Nat.le_of_ble_eq_true rfl⟩ (cc2 (X := X) (l := l)) ?_
  rintro r M2 ⟨rfl, M2k336, M2v336_22, M2v336_39, M2v336_37, M2v336_0, M2k337, M2a337_1, M2v336_26, M2v336_34, M2a337_0, -⟩
  show zGo X l 7 0 0 267 4 [(0, .ref 336), (1, .int (0 : Int32))] [] M2 _
  refine zs_iload_n (pc := 4) t267_4 rfl ?_
  refine zs_tswI (pc := 5) t267_5 li0 (by decide) rfl (pc2 := 48) rfl ?_
  refine zs_aload_n (pc := 48) t267_48 rfl ?_
  refine zs_get (pc := 49) t267_49 (by decide) (zk1 M2k336) M2v336_22 ?_
  refine zs_iret (pc := 52) t267_52 mr267 (by decide) ?_
  show zGo X l 8 0 0 316 45 [(0, .ref 336), (1, .int (0 : Int32))] [.int (0 : Int32)] M2 _
  exact zs_iret (pc := 45) t316_45 mr316 (by decide) rfl
theorem c13_2 {X : zX} {l : Launch} : zCall X l 7 0 0 150 [.ref 6, .int (1 : Int32)] zMc (fun r _ => r = some (.int (0 : Int32))) := by
  refine zs_in (by decide) mf150 (Nat.le_of_ble_eq_true rfl) ?_
  show zGo X l 7 0 0 150 0 [(0, .ref 6), (1, .int (1 : Int32))] [] zMc _
  refine zs_iload_n (pc := 0) t150_0 rfl ?_
  refine zs_tswI (pc := 1) t150_1 li1 (by decide) rfl (pc2 := 47) rfl ?_
  refine zs_aload_n (pc := 47) t150_47 rfl ?_
  refine zs_bipush (pc := 48) t150_48 (v := 103) (by decide) ?_
  refine zs_invV (pc := 50) (k := 6) (as' := [.int (103 : Int32)]) (st := []) t150_50 mf151 rfl rfl (Or.inl ⟨by decide, (zk1 fk_zMc_6)⟩) ⟨by decide, by decide, Nat.le_of_ble_eq_true rfl, Nat.le_of_ble_eq_true rfl⟩ (zs_in (by decide) mf151 (Nat.le_of_ble_eq_true rfl) ?_) (fun _ _ q => q)
  show zGo X l 6 0 0 151 0 [(0, .ref 6), (1, .int (103 : Int32))] [] zMc _
  refine zs_iload_n (pc := 0) t151_0 rfl ?_
  refine zs_tswI (pc := 1) t151_1 li103 (by decide) rfl (pc2 := 118) rfl ?_
  refine zs_aload_n (pc := 118) t151_118 rfl ?_
  refine zs_get (pc := 119) t151_119 (by decide) (zk1 fk_zMc_6) fv_zMc_6_7 ?_
  refine zs_aload_n (pc := 122) t151_122 rfl ?_
  refine zs_get (pc := 123) t151_123 (by decide) (zk1 fk_zMc_6) fv_zMc_6_0 ?_
  refine zs_aload_n (pc := 126) t151_126 rfl ?_
  refine zs_get (pc := 127) t151_127 (by decide) (zk1 fk_zMc_6) fv_zMc_6_6 ?_
  refine zs_aload_n (pc := 130) t151_130 rfl ?_
  refine zs_get (pc := 131) t151_131 (by decide) (zk1 fk_zMc_6) fv_zMc_6_0 ?_
  refine zs_invV (pc := 134) (k := 164) (as' := [.ref 7]) (st := [.ref 7, .ref 325]) t151_134 mf105 rfl rfl (Or.inl ⟨by decide, (zk1 fk_zMc_164)⟩) ⟨by decide, by decide, Nat.le_of_ble_eq_true rfl, Nat.le_of_ble_eq_true rfl⟩ (cc1 (X := X) (l := l)) ?_
  rintro r M1 ⟨rfl, M1k164, M1v164_4, M1k325, M1rM3, M1v164_9, M1v164_1, M1k165, M1rM4, M1k6, M1v6_6, -⟩
  show zGo X l 6 0 0 151 137 [(0, .ref 6), (1, .int (103 : Int32))] [.ref 164, .ref 7, .ref 325] M1 _
  refine zs_invV (pc := 137) (k := 325) (as' := [.ref 7, .ref 164]) (st := []) t151_137 mf153 rfl rfl (Or.inl ⟨by decide, (zk1 M1k325)⟩) ⟨by decide, by decide, Nat.le_of_ble_eq_true rfl, Nat.le_of_ble_eq_true rfl⟩ (zs_run mf153 (by decide) M1rM3 (fun _ _ q => of_decide_eq_true q)) ?_
  rintro r M3 ⟨rfl, M3k325, M3v325_1, M3v325_2, M3k326, M3a326_8, M3a326_7, M3a326_6, M3a326_5, M3a326_4, M3a326_3, M3a326_2, M3a326_1, M3a326_0, -⟩
  show zGo X l 6 0 0 151 140 [(0, .ref 6), (1, .int (103 : Int32))] [.ref 325] M3 _
  refine zs_invV (pc := 140) (k := 325) (as' := []) (st := []) t151_140 mf165 rfl rfl (Or.inl ⟨by decide, (zk1 M3k325)⟩) ⟨by decide, by decide, Nat.le_of_ble_eq_true rfl, Nat.le_of_ble_eq_true rfl⟩ (zs_in (by decide) mf165 (Nat.le_of_ble_eq_true rfl) ?_) (fun _ _ q => q)
  show zGo X l 0 0 0 165 0 [(0, .ref 325)] [] M3 _
  refine zs_aload_n (pc := 0) t165_0 rfl ?_
  refine zs_get (pc := 1) t165_1 (by decide) (zk1 M3k325) M3v325_1 ?_
  refine zs_iret (pc := 4) t165_4 mr165 (by decide) ?_
  show zGo X l 6 0 0 151 143 [(0, .ref 6), (1, .int (103 : Int32))] [.int (0 : Int32)] M3 _
  refine zs_iret (pc := 143) t151_143 mr151 (by decide) ?_
  show zGo X l 7 0 0 150 53 [(0, .ref 6), (1, .int (1 : Int32))] [.int (0 : Int32)] M3 _
  exact zs_iret (pc := 53) t150_53 mr150 (by decide) rfl
theorem m13_2 {X : zX} {l : Launch} : zCall X l 8 0 0 316 [.ref 336, .int (1 : Int32)] zMm (fun r _ => r = some (.int (0 : Int32))) := by
  refine zs_in (by decide) mf316 (Nat.le_of_ble_eq_true rfl) ?_
  show zGo X l 8 0 0 316 0 [(0, .ref 336), (1, .int (1 : Int32))] [] zMm _
  refine zs_iload_n (pc := 0) t316_0 rfl ?_
  refine zs_tswI (pc := 1) t316_1 li1 (by decide) rfl (pc2 := 46) rfl ?_
  refine zs_aload_n (pc := 46) t316_46 rfl ?_
  refine zs_iconst (pc := 47) t316_47 (v := 3) (by decide) ?_
  refine zs_invV (pc := 48) (k := 336) (as' := [.int (3 : Int32)]) (st := []) t316_48 mf267 rfl rfl (Or.inl ⟨by decide, (zk1 fk_zMm_336)⟩) ⟨by decide, by decide, Nat.le_of_ble_eq_true rfl, Nat.le_of_ble_eq_true rfl⟩ (zs_in (by decide) mf267 (Nat.le_of_ble_eq_true rfl) ?_) (fun _ _ q => q)
  show zGo X l 7 0 0 267 0 [(0, .ref 336), (1, .int (3 : Int32))] [] zMm _
  refine zs_aload_n (pc := 0) t267_0 rfl ?_
  refine zs_invV (pc := 1) (k := 336) (as' := []) (st := []) t267_1 mf268 rfl rfl (Or.inl ⟨by decide, (zk1 fk_zMm_336)⟩) ⟨by decide, by decide, Nat.le_of_ble_eq_true rfl, Nat.le_of_ble_eq_true rfl⟩ (cc2 (X := X) (l := l)) ?_
  rintro r M2 ⟨rfl, M2k336, M2v336_22, M2v336_39, M2v336_37, M2v336_0, M2k337, M2a337_1, M2v336_26, M2v336_34, M2a337_0, -⟩
  show zGo X l 7 0 0 267 4 [(0, .ref 336), (1, .int (3 : Int32))] [] M2 _
  refine zs_iload_n (pc := 4) t267_4 rfl ?_
  refine zs_tswI (pc := 5) t267_5 li3 (by decide) rfl (pc2 := 64) rfl ?_
  refine zs_aload_n (pc := 64) t267_64 rfl ?_
  refine zs_get (pc := 65) t267_65 (by decide) (zk1 M2k336) M2v336_39 ?_
  refine zs_iret (pc := 68) t267_68 mr267 (by decide) ?_
  show zGo X l 8 0 0 316 51 [(0, .ref 336), (1, .int (1 : Int32))] [.int (0 : Int32)] M2 _
  exact zs_iret (pc := 51) t316_51 mr316 (by decide) rfl
theorem c13_3 {X : zX} {l : Launch} : zCall X l 7 0 0 150 [.ref 6, .int (2 : Int32)] zMc (fun r _ => r = some (.int (0 : Int32))) := by
  refine zs_in (by decide) mf150 (Nat.le_of_ble_eq_true rfl) ?_
  show zGo X l 7 0 0 150 0 [(0, .ref 6), (1, .int (2 : Int32))] [] zMc _
  refine zs_iload_n (pc := 0) t150_0 rfl ?_
  refine zs_tswI (pc := 1) t150_1 li2 (by decide) rfl (pc2 := 54) rfl ?_
  refine zs_aload_n (pc := 54) t150_54 rfl ?_
  refine zs_bipush (pc := 55) t150_55 (v := 118) (by decide) ?_
  refine zs_invV (pc := 57) (k := 6) (as' := [.int (118 : Int32)]) (st := []) t150_57 mf151 rfl rfl (Or.inl ⟨by decide, (zk1 fk_zMc_6)⟩) ⟨by decide, by decide, Nat.le_of_ble_eq_true rfl, Nat.le_of_ble_eq_true rfl⟩ (zs_in (by decide) mf151 (Nat.le_of_ble_eq_true rfl) ?_) (fun _ _ q => q)
  show zGo X l 6 0 0 151 0 [(0, .ref 6), (1, .int (118 : Int32))] [] zMc _
  refine zs_iload_n (pc := 0) t151_0 rfl ?_
  refine zs_tswI (pc := 1) t151_1 li118 (by decide) rfl (pc2 := 103) rfl ?_
  refine zs_aload_n (pc := 103) t151_103 rfl ?_
  refine zs_get (pc := 104) t151_104 (by decide) (zk1 fk_zMc_6) fv_zMc_6_6 ?_
  refine zs_aload_n (pc := 107) t151_107 rfl ?_
  refine zs_get (pc := 108) t151_108 (by decide) (zk1 fk_zMc_6) fv_zMc_6_0 ?_
  refine zs_invV (pc := 111) (k := 164) (as' := [.ref 7]) (st := []) t151_111 mf105 rfl rfl (Or.inl ⟨by decide, (zk1 fk_zMc_164)⟩) ⟨by decide, by decide, Nat.le_of_ble_eq_true rfl, Nat.le_of_ble_eq_true rfl⟩ (cc1 (X := X) (l := l)) ?_
  rintro r M1 ⟨rfl, M1k164, M1v164_4, M1k325, M1rM3, M1v164_9, M1v164_1, M1k165, M1rM4, M1k6, M1v6_6, -⟩
  show zGo X l 6 0 0 151 114 [(0, .ref 6), (1, .int (118 : Int32))] [.ref 164] M1 _
  refine zs_invV (pc := 114) (k := 164) (as' := []) (st := []) t151_114 mf152 rfl rfl (Or.inl ⟨by decide, (zk1 M1k164)⟩) ⟨by decide, by decide, Nat.le_of_ble_eq_true rfl, Nat.le_of_ble_eq_true rfl⟩ (zs_in (by decide) mf152 (Nat.le_of_ble_eq_true rfl) ?_) (fun _ _ q => q)
  show zGo X l 0 0 0 152 0 [(0, .ref 164)] [] M1 _
  refine zs_aload_n (pc := 0) t152_0 rfl ?_
  refine zs_get (pc := 1) t152_1 (by decide) (zk1 M1k164) M1v164_9 ?_
  refine zs_iret (pc := 4) t152_4 mr152 (by decide) ?_
  show zGo X l 6 0 0 151 117 [(0, .ref 6), (1, .int (118 : Int32))] [.int (0 : Int32)] M1 _
  refine zs_iret (pc := 117) t151_117 mr151 (by decide) ?_
  show zGo X l 7 0 0 150 60 [(0, .ref 6), (1, .int (2 : Int32))] [.int (0 : Int32)] M1 _
  exact zs_iret (pc := 60) t150_60 mr150 (by decide) rfl
theorem m13_3 {X : zX} {l : Launch} : zCall X l 8 0 0 316 [.ref 336, .int (2 : Int32)] zMm (fun r _ => r = some (.int (0 : Int32))) := by
  refine zs_in (by decide) mf316 (Nat.le_of_ble_eq_true rfl) ?_
  show zGo X l 8 0 0 316 0 [(0, .ref 336), (1, .int (2 : Int32))] [] zMm _
  refine zs_iload_n (pc := 0) t316_0 rfl ?_
  refine zs_tswI (pc := 1) t316_1 li2 (by decide) rfl (pc2 := 52) rfl ?_
  refine zs_aload_n (pc := 52) t316_52 rfl ?_
  refine zs_iconst (pc := 53) t316_53 (v := 2) (by decide) ?_
  refine zs_invV (pc := 54) (k := 336) (as' := [.int (2 : Int32)]) (st := []) t316_54 mf267 rfl rfl (Or.inl ⟨by decide, (zk1 fk_zMm_336)⟩) ⟨by decide, by decide, Nat.le_of_ble_eq_true rfl, Nat.le_of_ble_eq_true rfl⟩ (zs_in (by decide) mf267 (Nat.le_of_ble_eq_true rfl) ?_) (fun _ _ q => q)
  show zGo X l 7 0 0 267 0 [(0, .ref 336), (1, .int (2 : Int32))] [] zMm _
  refine zs_aload_n (pc := 0) t267_0 rfl ?_
  refine zs_invV (pc := 1) (k := 336) (as' := []) (st := []) t267_1 mf268 rfl rfl (Or.inl ⟨by decide, (zk1 fk_zMm_336)⟩) ⟨by decide, by decide, Nat.le_of_ble_eq_true rfl, Nat.le_of_ble_eq_true rfl⟩ (cc2 (X := X) (l := l)) ?_
  rintro r M2 ⟨rfl, M2k336, M2v336_22, M2v336_39, M2v336_37, M2v336_0, M2k337, M2a337_1, M2v336_26, M2v336_34, M2a337_0, -⟩
  show zGo X l 7 0 0 267 4 [(0, .ref 336), (1, .int (2 : Int32))] [] M2 _
  refine zs_iload_n (pc := 4) t267_4 rfl ?_
  refine zs_tswI (pc := 5) t267_5 li2 (by decide) rfl (pc2 := 59) rfl ?_
  refine zs_aload_n (pc := 59) t267_59 rfl ?_
  refine zs_get (pc := 60) t267_60 (by decide) (zk1 M2k336) M2v336_37 ?_
  refine zs_iret (pc := 63) t267_63 mr267 (by decide) ?_
  show zGo X l 8 0 0 316 57 [(0, .ref 336), (1, .int (2 : Int32))] [.int (0 : Int32)] M2 _
  exact zs_iret (pc := 57) t316_57 mr316 (by decide) rfl
theorem c13_4 {X : zX} {l : Launch} : zCall X l 7 0 0 150 [.ref 6, .int (3 : Int32)] zMc (fun r _ => r = some (.int (0 : Int32))) := by
  refine zs_in (by decide) mf150 (Nat.le_of_ble_eq_true rfl) ?_
  show zGo X l 7 0 0 150 0 [(0, .ref 6), (1, .int (3 : Int32))] [] zMc _
  refine zs_iload_n (pc := 0) t150_0 rfl ?_
  refine zs_tswI (pc := 1) t150_1 li3 (by decide) rfl (pc2 := 61) rfl ?_
  refine zs_aload_n (pc := 61) t150_61 rfl ?_
  refine zs_bipush (pc := 62) t150_62 (v := 117) (by decide) ?_
  refine zs_invV (pc := 64) (k := 6) (as' := [.int (117 : Int32)]) (st := []) t150_64 mf151 rfl rfl (Or.inl ⟨by decide, (zk1 fk_zMc_6)⟩) ⟨by decide, by decide, Nat.le_of_ble_eq_true rfl, Nat.le_of_ble_eq_true rfl⟩ (zs_in (by decide) mf151 (Nat.le_of_ble_eq_true rfl) ?_) (fun _ _ q => q)
  show zGo X l 6 0 0 151 0 [(0, .ref 6), (1, .int (117 : Int32))] [] zMc _
  refine zs_iload_n (pc := 0) t151_0 rfl ?_
  refine zs_tswI (pc := 1) t151_1 li117 (by decide) rfl (pc2 := 167) rfl ?_
  refine zs_aload_n (pc := 167) t151_167 rfl ?_
  refine zs_get (pc := 168) t151_168 (by decide) (zk1 fk_zMc_6) fv_zMc_6_0 ?_
  refine zs_invV (pc := 171) (k := 7) (as' := []) (st := []) t151_171 mf92 rfl rfl (Or.inl ⟨by decide, (zk1 fk_zMc_7)⟩) ⟨by decide, by decide, Nat.le_of_ble_eq_true rfl, Nat.le_of_ble_eq_true rfl⟩ (zs_in (by decide) mf92 (Nat.le_of_ble_eq_true rfl) ?_) (fun _ _ q => q)
  show zGo X l 2 0 0 92 0 [(0, .ref 7)] [] zMc _
  refine zs_iconst (pc := 0) t92_0 (v := 0) (by decide) ?_
  refine zs_istore_n (pc := 1) t92_1 (ls' := [(1, .int (0 : Int32)), (0, .ref 7)]) (zml mf92 (by decide)) rfl ?_
  refine zs_iconst (pc := 2) t92_2 (v := 0) (by decide) ?_
  refine zs_istore_n (pc := 3) t92_3 (ls' := [(2, .int (0 : Int32)), (1, .int (0 : Int32)), (0, .ref 7)]) (zml mf92 (by decide)) rfl ?_
  refine zs_iload_n (pc := 4) t92_4 rfl ?_
  refine zs_aload_n (pc := 5) t92_5 rfl ?_
  refine zs_get (pc := 6) t92_6 (by decide) (zk1 fk_zMc_7) fv_zMc_7_3 ?_
  refine zs_icmp_geT (pc := 9) t92_9 li0 li0 (by decide) ?_
  refine zs_iload_n (pc := 29) t92_29 rfl ?_
  refine zs_iret (pc := 30) t92_30 mr92 (by decide) ?_
  show zGo X l 6 0 0 151 174 [(0, .ref 6), (1, .int (117 : Int32))] [.int (0 : Int32)] zMc _
  refine zs_aload_n (pc := 174) t151_174 rfl ?_
  refine zs_get (pc := 175) t151_175 (by decide) (zk1 fk_zMc_6) fv_zMc_6_6 ?_
  refine zs_aload_n (pc := 178) t151_178 rfl ?_
  refine zs_get (pc := 179) t151_179 (by decide) (zk1 fk_zMc_6) fv_zMc_6_0 ?_
  refine zs_invV (pc := 182) (k := 164) (as' := [.ref 7]) (st := [.int (0 : Int32)]) t151_182 mf105 rfl rfl (Or.inl ⟨by decide, (zk1 fk_zMc_164)⟩) ⟨by decide, by decide, Nat.le_of_ble_eq_true rfl, Nat.le_of_ble_eq_true rfl⟩ (cc1 (X := X) (l := l)) ?_
  rintro r M1 ⟨rfl, M1k164, M1v164_4, M1k325, M1rM3, M1v164_9, M1v164_1, M1k165, M1rM4, M1k6, M1v6_6, -⟩
  show zGo X l 6 0 0 151 185 [(0, .ref 6), (1, .int (117 : Int32))] [.ref 164, .int (0 : Int32)] M1 _
  refine zs_invV (pc := 185) (k := 164) (as' := []) (st := [.int (0 : Int32)]) t151_185 mf167 rfl rfl (Or.inl ⟨by decide, (zk1 M1k164)⟩) ⟨by decide, by decide, Nat.le_of_ble_eq_true rfl, Nat.le_of_ble_eq_true rfl⟩ (zs_in (by decide) mf167 (Nat.le_of_ble_eq_true rfl) ?_) (fun _ _ q => q)
  show zGo X l 1 0 0 167 0 [(0, .ref 164)] [] M1 _
  refine zs_iconst (pc := 0) t167_0 (v := 0) (by decide) ?_
  refine zs_istore_n (pc := 1) t167_1 (ls' := [(1, .int (0 : Int32)), (0, .ref 164)]) (zml mf167 (by decide)) rfl ?_
  refine zs_iconst (pc := 2) t167_2 (v := 0) (by decide) ?_
  refine zs_istore_n (pc := 3) t167_3 (ls' := [(2, .int (0 : Int32)), (1, .int (0 : Int32)), (0, .ref 164)]) (zml mf167 (by decide)) rfl ?_
  refine zs_iload_n (pc := 4) t167_4 rfl ?_
  refine zs_aload_n (pc := 5) t167_5 rfl ?_
  refine zs_get (pc := 6) t167_6 (by decide) (zk1 M1k164) M1v164_4 ?_
  refine zs_icmp_geT (pc := 9) t167_9 li0 li0 (by decide) ?_
  refine zs_iload_n (pc := 42) t167_42 rfl ?_
  refine zs_iret (pc := 43) t167_43 mr167 (by decide) ?_
  show zGo X l 6 0 0 151 188 [(0, .ref 6), (1, .int (117 : Int32))] [.int (0 : Int32), .int (0 : Int32)] M1 _
  refine zs_isub (pc := 188) t151_188 (c := 0) (by decide) ?_
  refine zs_iret (pc := 189) t151_189 mr151 (by decide) ?_
  show zGo X l 7 0 0 150 67 [(0, .ref 6), (1, .int (3 : Int32))] [.int (0 : Int32)] M1 _
  exact zs_iret (pc := 67) t150_67 mr150 (by decide) rfl
theorem m13_4 {X : zX} {l : Launch} : zCall X l 8 0 0 316 [.ref 336, .int (3 : Int32)] zMm (fun r _ => r = some (.int (0 : Int32))) := by
  refine zs_in (by decide) mf316 (Nat.le_of_ble_eq_true rfl) ?_
  show zGo X l 8 0 0 316 0 [(0, .ref 336), (1, .int (3 : Int32))] [] zMm _
  refine zs_iload_n (pc := 0) t316_0 rfl ?_
  refine zs_tswI (pc := 1) t316_1 li3 (by decide) rfl (pc2 := 58) rfl ?_
  refine zs_aload_n (pc := 58) t316_58 rfl ?_
  refine zs_bipush (pc := 59) t316_59 (v := 6) (by decide) ?_
  refine zs_invV (pc := 61) (k := 336) (as' := [.int (6 : Int32)]) (st := []) t316_61 mf267 rfl rfl (Or.inl ⟨by decide, (zk1 fk_zMm_336)⟩) ⟨by decide, by decide, Nat.le_of_ble_eq_true rfl, Nat.le_of_ble_eq_true rfl⟩ (zs_in (by decide) mf267 (Nat.le_of_ble_eq_true rfl) ?_) (fun _ _ q => q)
  show zGo X l 7 0 0 267 0 [(0, .ref 336), (1, .int (6 : Int32))] [] zMm _
  refine zs_aload_n (pc := 0) t267_0 rfl ?_
  refine zs_invV (pc := 1) (k := 336) (as' := []) (st := []) t267_1 mf268 rfl rfl (Or.inl ⟨by decide, (zk1 fk_zMm_336)⟩) ⟨by decide, by decide, Nat.le_of_ble_eq_true rfl, Nat.le_of_ble_eq_true rfl⟩ (cc2 (X := X) (l := l)) ?_
  rintro r M2 ⟨rfl, M2k336, M2v336_22, M2v336_39, M2v336_37, M2v336_0, M2k337, M2a337_1, M2v336_26, M2v336_34, M2a337_0, -⟩
  show zGo X l 7 0 0 267 4 [(0, .ref 336), (1, .int (6 : Int32))] [] M2 _
  refine zs_iload_n (pc := 4) t267_4 rfl ?_
  refine zs_tswI (pc := 5) t267_5 li6 (by decide) rfl (pc2 := 87) rfl ?_
  refine zs_aload_n (pc := 87) t267_87 rfl ?_
  refine zs_invV (pc := 88) (k := 336) (as' := []) (st := []) t267_88 mf293 rfl rfl (Or.inl ⟨by decide, (zk1 M2k336)⟩) ⟨by decide, by decide, Nat.le_of_ble_eq_true rfl, Nat.le_of_ble_eq_true rfl⟩ (zs_in (by decide) mf293 (Nat.le_of_ble_eq_true rfl) ?_) (fun _ _ q => q)
  show zGo X l 2 0 0 293 0 [(0, .ref 336)] [] M2 _
  refine zs_iconst (pc := 0) t293_0 (v := 0) (by decide) ?_
  refine zs_istore_n (pc := 1) t293_1 (ls' := [(1, .int (0 : Int32)), (0, .ref 336)]) (zml mf293 (by decide)) rfl ?_
  refine zs_iconst (pc := 2) t293_2 (v := 0) (by decide) ?_
  refine zs_istore_n (pc := 3) t293_3 (ls' := [(2, .int (0 : Int32)), (1, .int (0 : Int32)), (0, .ref 336)]) (zml mf293 (by decide)) rfl ?_
  refine zs_iload_n (pc := 4) t293_4 rfl ?_
  refine zs_aload_n (pc := 5) t293_5 rfl ?_
  refine zs_get (pc := 6) t293_6 (by decide) (zk1 M2k336) M2v336_0 ?_
  refine zs_iconst (pc := 9) t293_9 (v := 1) (by decide) ?_
  refine zs_iald (pc := 10) t293_10 (j := 1) (by decide) (zk1 M2k337) (by decide) (zk2 M2k337 (by decide)) M2a337_1 ?_
  refine zs_icmp_geT (pc := 11) t293_11 li0 li0 (by decide) ?_
  refine zs_iload_n (pc := 48) t293_48 rfl ?_
  refine zs_iret (pc := 49) t293_49 mr293 (by decide) ?_
  show zGo X l 7 0 0 267 91 [(0, .ref 336), (1, .int (6 : Int32))] [.int (0 : Int32)] M2 _
  refine zs_iret (pc := 91) t267_91 mr267 (by decide) ?_
  show zGo X l 8 0 0 316 64 [(0, .ref 336), (1, .int (3 : Int32))] [.int (0 : Int32)] M2 _
  exact zs_iret (pc := 64) t316_64 mr316 (by decide) rfl
theorem c13_5 {X : zX} {l : Launch} : zCall X l 7 0 0 150 [.ref 6, .int (4 : Int32)] zMc (fun r _ => r = some (.int (0 : Int32))) := by
  refine zs_in (by decide) mf150 (Nat.le_of_ble_eq_true rfl) ?_
  show zGo X l 7 0 0 150 0 [(0, .ref 6), (1, .int (4 : Int32))] [] zMc _
  refine zs_iload_n (pc := 0) t150_0 rfl ?_
  refine zs_tswI (pc := 1) t150_1 li4 (by decide) rfl (pc2 := 68) rfl ?_
  refine zs_aload_n (pc := 68) t150_68 rfl ?_
  refine zs_bipush (pc := 69) t150_69 (v := 109) (by decide) ?_
  refine zs_invV (pc := 71) (k := 6) (as' := [.int (109 : Int32)]) (st := []) t150_71 mf151 rfl rfl (Or.inl ⟨by decide, (zk1 fk_zMc_6)⟩) ⟨by decide, by decide, Nat.le_of_ble_eq_true rfl, Nat.le_of_ble_eq_true rfl⟩ (zs_in (by decide) mf151 (Nat.le_of_ble_eq_true rfl) ?_) (fun _ _ q => q)
  show zGo X l 6 0 0 151 0 [(0, .ref 6), (1, .int (109 : Int32))] [] zMc _
  refine zs_iload_n (pc := 0) t151_0 rfl ?_
  refine zs_tswI (pc := 1) t151_1 li109 (by decide) rfl (pc2 := 144) rfl ?_
  refine zs_aload_n (pc := 144) t151_144 rfl ?_
  refine zs_get (pc := 145) t151_145 (by decide) (zk1 fk_zMc_6) fv_zMc_6_6 ?_
  refine zs_aload_n (pc := 148) t151_148 rfl ?_
  refine zs_get (pc := 149) t151_149 (by decide) (zk1 fk_zMc_6) fv_zMc_6_0 ?_
  refine zs_invV (pc := 152) (k := 164) (as' := [.ref 7]) (st := []) t151_152 mf105 rfl rfl (Or.inl ⟨by decide, (zk1 fk_zMc_164)⟩) ⟨by decide, by decide, Nat.le_of_ble_eq_true rfl, Nat.le_of_ble_eq_true rfl⟩ (cc1 (X := X) (l := l)) ?_
  rintro r M1 ⟨rfl, M1k164, M1v164_4, M1k325, M1rM3, M1v164_9, M1v164_1, M1k165, M1rM4, M1k6, M1v6_6, -⟩
  show zGo X l 6 0 0 151 155 [(0, .ref 6), (1, .int (109 : Int32))] [.ref 164] M1 _
  refine zs_invV (pc := 155) (k := 164) (as' := []) (st := []) t151_155 mf166 rfl rfl (Or.inl ⟨by decide, (zk1 M1k164)⟩) ⟨by decide, by decide, Nat.le_of_ble_eq_true rfl, Nat.le_of_ble_eq_true rfl⟩ (zs_in (by decide) mf166 (Nat.le_of_ble_eq_true rfl) ?_) (fun _ _ q => q)
  show zGo X l 2 0 0 166 0 [(0, .ref 164)] [] M1 _
  refine zs_aload_n (pc := 0) t166_0 rfl ?_
  refine zs_iconst (pc := 1) t166_1 (v := 0) (by decide) ?_
  refine zs_invV (pc := 2) (k := 164) (as' := [.int (0 : Int32)]) (st := []) t166_2 mf163 rfl rfl (Or.inl ⟨by decide, (zk1 M1k164)⟩) ⟨by decide, by decide, Nat.le_of_ble_eq_true rfl, Nat.le_of_ble_eq_true rfl⟩ (zs_in (by decide) mf163 (Nat.le_of_ble_eq_true rfl) ?_) (fun _ _ q => q)
  show zGo X l 1 0 0 163 0 [(0, .ref 164), (1, .int (0 : Int32))] [] M1 _
  refine zs_iload_n (pc := 0) t163_0 rfl ?_
  refine zs_aload_n (pc := 1) t163_1 rfl ?_
  refine zs_get (pc := 2) t163_2 (by decide) (zk1 M1k164) M1v164_4 ?_
  refine zs_icmp_geT (pc := 5) t163_5 li0 li0 (by decide) ?_
  refine zs_aconst_null (pc := 19) t163_19 ?_
  refine zs_aret0 (pc := 20) t163_20 (by rw [mr163]; rfl) ?_
  show zGo X l 2 0 0 166 5 [(0, .ref 164)] [.null] M1 _
  refine zs_astore_n0 (pc := 5) t166_5 (ls' := [(1, .null), (0, .ref 164)]) (zml mf166 (by decide)) rfl ?_
  refine zs_aload_n0 (pc := 6) t166_6 rfl ?_
  refine zs_ifnonnullF (pc := 7) t166_7 ?_
  refine zs_iconst (pc := 10) t166_10 (v := 0) (by decide) ?_
  refine zs_goto (pc := 11) t166_11 ?_
  refine zs_iret (pc := 18) t166_18 mr166 (by decide) ?_
  show zGo X l 6 0 0 151 158 [(0, .ref 6), (1, .int (109 : Int32))] [.int (0 : Int32)] M1 _
  refine zs_iret (pc := 158) t151_158 mr151 (by decide) ?_
  show zGo X l 7 0 0 150 74 [(0, .ref 6), (1, .int (4 : Int32))] [.int (0 : Int32)] M1 _
  exact zs_iret (pc := 74) t150_74 mr150 (by decide) rfl
theorem m13_5 {X : zX} {l : Launch} : zCall X l 8 0 0 316 [.ref 336, .int (4 : Int32)] zMm (fun r _ => r = some (.int (0 : Int32))) := by
  refine zs_in (by decide) mf316 (Nat.le_of_ble_eq_true rfl) ?_
  show zGo X l 8 0 0 316 0 [(0, .ref 336), (1, .int (4 : Int32))] [] zMm _
  refine zs_iload_n (pc := 0) t316_0 rfl ?_
  refine zs_tswI (pc := 1) t316_1 li4 (by decide) rfl (pc2 := 65) rfl ?_
  refine zs_aload_n (pc := 65) t316_65 rfl ?_
  refine zs_iconst (pc := 66) t316_66 (v := 4) (by decide) ?_
  refine zs_invV (pc := 67) (k := 336) (as' := [.int (4 : Int32)]) (st := []) t316_67 mf267 rfl rfl (Or.inl ⟨by decide, (zk1 fk_zMm_336)⟩) ⟨by decide, by decide, Nat.le_of_ble_eq_true rfl, Nat.le_of_ble_eq_true rfl⟩ (zs_in (by decide) mf267 (Nat.le_of_ble_eq_true rfl) ?_) (fun _ _ q => q)
  show zGo X l 7 0 0 267 0 [(0, .ref 336), (1, .int (4 : Int32))] [] zMm _
  refine zs_aload_n (pc := 0) t267_0 rfl ?_
  refine zs_invV (pc := 1) (k := 336) (as' := []) (st := []) t267_1 mf268 rfl rfl (Or.inl ⟨by decide, (zk1 fk_zMm_336)⟩) ⟨by decide, by decide, Nat.le_of_ble_eq_true rfl, Nat.le_of_ble_eq_true rfl⟩ (cc2 (X := X) (l := l)) ?_
  rintro r M2 ⟨rfl, M2k336, M2v336_22, M2v336_39, M2v336_37, M2v336_0, M2k337, M2a337_1, M2v336_26, M2v336_34, M2a337_0, -⟩
  show zGo X l 7 0 0 267 4 [(0, .ref 336), (1, .int (4 : Int32))] [] M2 _
  refine zs_iload_n (pc := 4) t267_4 rfl ?_
  refine zs_tswI (pc := 5) t267_5 li4 (by decide) rfl (pc2 := 69) rfl ?_
  refine zs_aload_n (pc := 69) t267_69 rfl ?_
  refine zs_aload_n (pc := 70) t267_70 rfl ?_
  refine zs_get (pc := 71) t267_71 (by decide) (zk1 M2k336) M2v336_26 ?_
  refine zs_aload_n (pc := 74) t267_74 rfl ?_
  refine zs_get (pc := 75) t267_75 (by decide) (zk1 M2k336) M2v336_22 ?_
  refine zs_invV (pc := 78) (k := 336) (as' := [.ref 348, .int (0 : Int32)]) (st := []) t267_78 mf291 rfl rfl (Or.inl ⟨by decide, (zk1 M2k336)⟩) ⟨by decide, by decide, Nat.le_of_ble_eq_true rfl, Nat.le_of_ble_eq_true rfl⟩ (zs_in (by decide) mf291 (Nat.le_of_ble_eq_true rfl) ?_) (fun _ _ q => q)
  show zGo X l 0 0 0 291 0 [(0, .ref 336), (1, .ref 348), (2, .int (0 : Int32))] [] M2 _
  refine zs_iconst (pc := 0) t291_0 (v := 0) (by decide) ?_
  refine zs_istore_n (pc := 1) t291_1 (ls' := [(3, .int (0 : Int32)), (0, .ref 336), (1, .ref 348), (2, .int (0 : Int32))]) (zml mf291 (by decide)) rfl ?_
  refine zs_iconst (pc := 2) t291_2 (v := 0) (by decide) ?_
  refine zs_istore (pc := 3) t291_3 (ls' := [(4, .int (0 : Int32)), (3, .int (0 : Int32)), (0, .ref 336), (1, .ref 348), (2, .int (0 : Int32))]) (zml mf291 (by decide)) rfl ?_
  refine zs_iload (pc := 5) t291_5 rfl ?_
  refine zs_iload_n (pc := 7) t291_7 rfl ?_
  refine zs_icmp_geT (pc := 8) t291_8 li0 li0 (by decide) ?_
  refine zs_iload_n (pc := 34) t291_34 rfl ?_
  refine zs_iret (pc := 35) t291_35 mr291 (by decide) ?_
  show zGo X l 7 0 0 267 81 [(0, .ref 336), (1, .int (4 : Int32))] [.int (0 : Int32)] M2 _
  refine zs_iret (pc := 81) t267_81 mr267 (by decide) ?_
  show zGo X l 8 0 0 316 70 [(0, .ref 336), (1, .int (4 : Int32))] [.int (0 : Int32)] M2 _
  exact zs_iret (pc := 70) t316_70 mr316 (by decide) rfl
theorem c13_6 {X : zX} {l : Launch} : zCall X l 7 0 0 150 [.ref 6, .int (5 : Int32)] zMc (fun r _ => r = some (.int (0 : Int32))) := by
  refine zs_in (by decide) mf150 (Nat.le_of_ble_eq_true rfl) ?_
  show zGo X l 7 0 0 150 0 [(0, .ref 6), (1, .int (5 : Int32))] [] zMc _
  refine zs_iload_n (pc := 0) t150_0 rfl ?_
  refine zs_tswI (pc := 1) t150_1 li5 (by decide) rfl (pc2 := 75) rfl ?_
  refine zs_aload_n (pc := 75) t150_75 rfl ?_
  refine zs_bipush (pc := 76) t150_76 (v := 111) (by decide) ?_
  refine zs_invV (pc := 78) (k := 6) (as' := [.int (111 : Int32)]) (st := []) t150_78 mf151 rfl rfl (Or.inl ⟨by decide, (zk1 fk_zMc_6)⟩) ⟨by decide, by decide, Nat.le_of_ble_eq_true rfl, Nat.le_of_ble_eq_true rfl⟩ (zs_in (by decide) mf151 (Nat.le_of_ble_eq_true rfl) ?_) (fun _ _ q => q)
  show zGo X l 6 0 0 151 0 [(0, .ref 6), (1, .int (111 : Int32))] [] zMc _
  refine zs_iload_n (pc := 0) t151_0 rfl ?_
  refine zs_tswI (pc := 1) t151_1 li111 (by decide) rfl (pc2 := 190) rfl ?_
  refine zs_aload_n (pc := 190) t151_190 rfl ?_
  refine zs_get (pc := 191) t151_191 (by decide) (zk1 fk_zMc_6) fv_zMc_6_6 ?_
  refine zs_aload_n (pc := 194) t151_194 rfl ?_
  refine zs_get (pc := 195) t151_195 (by decide) (zk1 fk_zMc_6) fv_zMc_6_0 ?_
  refine zs_invV (pc := 198) (k := 164) (as' := [.ref 7]) (st := []) t151_198 mf105 rfl rfl (Or.inl ⟨by decide, (zk1 fk_zMc_164)⟩) ⟨by decide, by decide, Nat.le_of_ble_eq_true rfl, Nat.le_of_ble_eq_true rfl⟩ (cc1 (X := X) (l := l)) ?_
  rintro r M1 ⟨rfl, M1k164, M1v164_4, M1k325, M1rM3, M1v164_9, M1v164_1, M1k165, M1rM4, M1k6, M1v6_6, -⟩
  show zGo X l 6 0 0 151 201 [(0, .ref 6), (1, .int (111 : Int32))] [.ref 164] M1 _
  refine zs_invV (pc := 201) (k := 164) (as' := []) (st := []) t151_201 mf168 rfl rfl (Or.inl ⟨by decide, (zk1 M1k164)⟩) ⟨by decide, by decide, Nat.le_of_ble_eq_true rfl, Nat.le_of_ble_eq_true rfl⟩ (zs_in (by decide) mf168 (Nat.le_of_ble_eq_true rfl) ?_) (fun _ _ q => q)
  show zGo X l 1 0 0 168 0 [(0, .ref 164)] [] M1 _
  refine zs_iconst (pc := 0) t168_0 (v := 0) (by decide) ?_
  refine zs_istore_n (pc := 1) t168_1 (ls' := [(1, .int (0 : Int32)), (0, .ref 164)]) (zml mf168 (by decide)) rfl ?_
  refine zs_iconst (pc := 2) t168_2 (v := 0) (by decide) ?_
  refine zs_istore_n (pc := 3) t168_3 (ls' := [(2, .int (0 : Int32)), (1, .int (0 : Int32)), (0, .ref 164)]) (zml mf168 (by decide)) rfl ?_
  refine zs_iload_n (pc := 4) t168_4 rfl ?_
  refine zs_aload_n (pc := 5) t168_5 rfl ?_
  refine zs_get (pc := 6) t168_6 (by decide) (zk1 M1k164) M1v164_9 ?_
  refine zs_icmp_geT (pc := 9) t168_9 li0 li0 (by decide) ?_
  refine zs_iload_n (pc := 29) t168_29 rfl ?_
  refine zs_iret (pc := 30) t168_30 mr168 (by decide) ?_
  show zGo X l 6 0 0 151 204 [(0, .ref 6), (1, .int (111 : Int32))] [.int (0 : Int32)] M1 _
  refine zs_iret (pc := 204) t151_204 mr151 (by decide) ?_
  show zGo X l 7 0 0 150 81 [(0, .ref 6), (1, .int (5 : Int32))] [.int (0 : Int32)] M1 _
  exact zs_iret (pc := 81) t150_81 mr150 (by decide) rfl
theorem m13_6 {X : zX} {l : Launch} : zCall X l 8 0 0 316 [.ref 336, .int (5 : Int32)] zMm (fun r _ => r = some (.int (0 : Int32))) := by
  refine zs_in (by decide) mf316 (Nat.le_of_ble_eq_true rfl) ?_
  show zGo X l 8 0 0 316 0 [(0, .ref 336), (1, .int (5 : Int32))] [] zMm _
  refine zs_iload_n (pc := 0) t316_0 rfl ?_
  refine zs_tswI (pc := 1) t316_1 li5 (by decide) rfl (pc2 := 71) rfl ?_
  refine zs_aload_n (pc := 71) t316_71 rfl ?_
  refine zs_bipush (pc := 72) t316_72 (v := 7) (by decide) ?_
  refine zs_invV (pc := 74) (k := 336) (as' := [.int (7 : Int32)]) (st := []) t316_74 mf267 rfl rfl (Or.inl ⟨by decide, (zk1 fk_zMm_336)⟩) ⟨by decide, by decide, Nat.le_of_ble_eq_true rfl, Nat.le_of_ble_eq_true rfl⟩ (zs_in (by decide) mf267 (Nat.le_of_ble_eq_true rfl) ?_) (fun _ _ q => q)
  show zGo X l 7 0 0 267 0 [(0, .ref 336), (1, .int (7 : Int32))] [] zMm _
  refine zs_aload_n (pc := 0) t267_0 rfl ?_
  refine zs_invV (pc := 1) (k := 336) (as' := []) (st := []) t267_1 mf268 rfl rfl (Or.inl ⟨by decide, (zk1 fk_zMm_336)⟩) ⟨by decide, by decide, Nat.le_of_ble_eq_true rfl, Nat.le_of_ble_eq_true rfl⟩ (cc2 (X := X) (l := l)) ?_
  rintro r M2 ⟨rfl, M2k336, M2v336_22, M2v336_39, M2v336_37, M2v336_0, M2k337, M2a337_1, M2v336_26, M2v336_34, M2a337_0, -⟩
  show zGo X l 7 0 0 267 4 [(0, .ref 336), (1, .int (7 : Int32))] [] M2 _
  refine zs_iload_n (pc := 4) t267_4 rfl ?_
  refine zs_tswD (pc := 5) t267_5 li7 (by decide) (pc2 := 92) rfl ?_
  refine zs_aload_n (pc := 92) t267_92 rfl ?_
  refine zs_aload_n (pc := 93) t267_93 rfl ?_
  refine zs_get (pc := 94) t267_94 (by decide) (zk1 M2k336) M2v336_34 ?_
  refine zs_aload_n (pc := 97) t267_97 rfl ?_
  refine zs_get (pc := 98) t267_98 (by decide) (zk1 M2k336) M2v336_37 ?_
  refine zs_invV (pc := 101) (k := 336) (as' := [.ref 356, .int (0 : Int32)]) (st := []) t267_101 mf291 rfl rfl (Or.inl ⟨by decide, (zk1 M2k336)⟩) ⟨by decide, by decide, Nat.le_of_ble_eq_true rfl, Nat.le_of_ble_eq_true rfl⟩ (zs_in (by decide) mf291 (Nat.le_of_ble_eq_true rfl) ?_) (fun _ _ q => q)
  show zGo X l 0 0 0 291 0 [(0, .ref 336), (1, .ref 356), (2, .int (0 : Int32))] [] M2 _
  refine zs_iconst (pc := 0) t291_0 (v := 0) (by decide) ?_
  refine zs_istore_n (pc := 1) t291_1 (ls' := [(3, .int (0 : Int32)), (0, .ref 336), (1, .ref 356), (2, .int (0 : Int32))]) (zml mf291 (by decide)) rfl ?_
  refine zs_iconst (pc := 2) t291_2 (v := 0) (by decide) ?_
  refine zs_istore (pc := 3) t291_3 (ls' := [(4, .int (0 : Int32)), (3, .int (0 : Int32)), (0, .ref 336), (1, .ref 356), (2, .int (0 : Int32))]) (zml mf291 (by decide)) rfl ?_
  refine zs_iload (pc := 5) t291_5 rfl ?_
  refine zs_iload_n (pc := 7) t291_7 rfl ?_
  refine zs_icmp_geT (pc := 8) t291_8 li0 li0 (by decide) ?_
  refine zs_iload_n (pc := 34) t291_34 rfl ?_
  refine zs_iret (pc := 35) t291_35 mr291 (by decide) ?_
  show zGo X l 7 0 0 267 104 [(0, .ref 336), (1, .int (7 : Int32))] [.int (0 : Int32)] M2 _
  refine zs_iret (pc := 104) t267_104 mr267 (by decide) ?_
  show zGo X l 8 0 0 316 77 [(0, .ref 336), (1, .int (5 : Int32))] [.int (0 : Int32)] M2 _
  exact zs_iret (pc := 77) t316_77 mr316 (by decide) rfl
theorem c13_7 {X : zX} {l : Launch} {a : Int32} (la : 6 ≤ a.toInt) (ua : a.toInt ≤ 2147483647) : zCall X l 7 0 0 150 [.ref 6, .int a] zMc (fun r _ => r = some (.int (-1 : Int32))) := by
  have ga := zrg a
  refine zs_in (by decide) mf150 (Nat.le_of_ble_eq_true rfl) ?_
  show zGo X l 7 0 0 150 0 [(0, .ref 6), (1, .int a)] [] zMc _
  refine zs_iload_n (pc := 0) t150_0 rfl ?_
  refine zs_tswD (pc := 1) t150_1 rfl (by omega) (pc2 := 82) rfl ?_
  refine zs_iconst (pc := 82) t150_82 (v := -1) (by decide) ?_
  exact zs_iret (pc := 83) t150_83 mr150 (by decide) rfl
theorem m13_7 {X : zX} {l : Launch} {a : Int32} (la : 6 ≤ a.toInt) (ua : a.toInt ≤ 2147483647) : zCall X l 8 0 0 316 [.ref 336, .int a] zMm (fun r _ => r = some (.int (-1 : Int32))) := by
  have ga := zrg a
  refine zs_in (by decide) mf316 (Nat.le_of_ble_eq_true rfl) ?_
  show zGo X l 8 0 0 316 0 [(0, .ref 336), (1, .int a)] [] zMm _
  refine zs_iload_n (pc := 0) t316_0 rfl ?_
  refine zs_tswD (pc := 1) t316_1 rfl (by omega) (pc2 := 78) rfl ?_
  refine zs_iconst (pc := 78) t316_78 (v := -1) (by decide) ?_
  exact zs_iret (pc := 79) t316_79 mr316 (by decide) rfl
theorem c14_0 {X : zX} {l : Launch} {a b : Int32} : zCall X l 6 0 0 169 [.ref 6, .int a, .int b] zMc (fun r _ => r = some (.int (-100000 : Int32))) := by
  have ga := zrg a
  have gb := zrg b
  refine zs_in (by decide) mf169 (Nat.le_of_ble_eq_true rfl) ?_
  show zGo X l 6 0 0 169 0 [(0, .ref 6), (1, .int a), (2, .int b)] [] zMc _
  refine zs_aload_n (pc := 0) t169_0 rfl ?_
  refine zs_get (pc := 1) t169_1 (by decide) (zk1 fk_zMc_6) fv_zMc_6_6 ?_
  refine zs_aload_n (pc := 4) t169_4 rfl ?_
  refine zs_get (pc := 5) t169_5 (by decide) (zk1 fk_zMc_6) fv_zMc_6_0 ?_
  refine zs_invV (pc := 8) (k := 164) (as' := [.ref 7]) (st := []) t169_8 mf105 rfl rfl (Or.inl ⟨by decide, (zk1 fk_zMc_164)⟩) ⟨by decide, by decide, Nat.le_of_ble_eq_true rfl, Nat.le_of_ble_eq_true rfl⟩ (cc1 (X := X) (l := l)) ?_
  rintro r M1 ⟨rfl, M1k164, M1v164_4, M1k325, M1rM3, M1v164_9, M1v164_1, M1k165, M1rM4, M1k6, M1v6_6, -⟩
  show zGo X l 6 0 0 169 11 [(0, .ref 6), (1, .int a), (2, .int b)] [.ref 164] M1 _
  refine zs_iload_n (pc := 11) t169_11 rfl ?_
  refine zs_invV (pc := 12) (k := 164) (as' := [.int a]) (st := []) t169_12 mf163 rfl rfl (Or.inl ⟨by decide, (zk1 M1k164)⟩) ⟨by decide, by decide, Nat.le_of_ble_eq_true rfl, Nat.le_of_ble_eq_true rfl⟩ (zs_in (by decide) mf163 (Nat.le_of_ble_eq_true rfl) ?_) (fun _ _ q => q)
  show zGo X l 1 0 0 163 0 [(0, .ref 164), (1, .int a)] [] M1 _
  refine zs_iload_n (pc := 0) t163_0 rfl ?_
  refine zs_aload_n (pc := 1) t163_1 rfl ?_
  refine zs_get (pc := 2) t163_2 (by decide) (zk1 M1k164) M1v164_4 ?_
  by_cases w1 : 0 ≤ a.toInt
  · refine zs_icmp_geT (pc := 5) t163_5 rfl li0 (by omega) ?_
    refine zs_aconst_null (pc := 19) t163_19 ?_
    refine zs_aret0 (pc := 20) t163_20 (by rw [mr163]; rfl) ?_
    show zGo X l 6 0 0 169 15 [(0, .ref 6), (1, .int a), (2, .int b)] [.null] M1 _
    refine zs_astore_n0 (pc := 15) t169_15 (ls' := [(3, .null), (0, .ref 6), (1, .int a), (2, .int b)]) (zml mf169 (by decide)) rfl ?_
    refine zs_aload_n0 (pc := 16) t169_16 rfl ?_
    refine zs_ifnonnullF (pc := 17) t169_17 ?_
    refine zs_ldc (pc := 20) t169_20 (v := -100000) rfl (by decide) ?_
    exact zs_iret (pc := 22) t169_22 mr169 (by decide) rfl
  · refine zs_icmp_geF (pc := 5) t163_5 rfl li0 (by omega) ?_
    refine zs_aload_n (pc := 8) t163_8 rfl ?_
    refine zs_get (pc := 9) t163_9 (by decide) (zk1 M1k164) M1v164_1 ?_
    refine zs_iload_n (pc := 12) t163_12 rfl ?_
    refine zs_invV (pc := 13) (k := 165) (as' := [.int a]) (st := []) t163_13 mf126 rfl rfl (Or.inl ⟨by decide, (zk1 M1k165)⟩) ⟨by decide, by decide, Nat.le_of_ble_eq_true rfl, Nat.le_of_ble_eq_true rfl⟩ (zs_in (by decide) mf126 (Nat.le_of_ble_eq_true rfl) ?_) (fun _ _ q => q)
    show zGo X l 0 0 0 126 0 [(0, .ref 165), (1, .int a)] [] M1 _
    refine zs_iload_n (pc := 0) t126_0 rfl ?_
    refine zs_if_ltT (pc := 1) t126_1 rfl (by omega) ?_
    refine zs_aconst_null (pc := 21) t126_21 ?_
    refine zs_aret0 (pc := 22) t126_22 (by rw [mr126]; rfl) ?_
    show zGo X l 1 0 0 163 16 [(0, .ref 164), (1, .int a)] [.null] M1 _
    refine zs_goto (pc := 16) t163_16 ?_
    refine zs_aret0 (pc := 20) t163_20 (by rw [mr163]; rfl) ?_
    show zGo X l 6 0 0 169 15 [(0, .ref 6), (1, .int a), (2, .int b)] [.null] M1 _
    refine zs_astore_n0 (pc := 15) t169_15 (ls' := [(3, .null), (0, .ref 6), (1, .int a), (2, .int b)]) (zml mf169 (by decide)) rfl ?_
    refine zs_aload_n0 (pc := 16) t169_16 rfl ?_
    refine zs_ifnonnullF (pc := 17) t169_17 ?_
    refine zs_ldc (pc := 20) t169_20 (v := -100000) rfl (by decide) ?_
    exact zs_iret (pc := 22) t169_22 mr169 (by decide) rfl
theorem m14_0 {X : zX} {l : Launch} {a b : Int32} : zCall X l 7 0 0 317 [.ref 336, .int a, .int b] zMm (fun r _ => r = some (.int (-100000 : Int32))) := by
  have ga := zrg a
  have gb := zrg b
  refine zs_in (by decide) mf317 (Nat.le_of_ble_eq_true rfl) ?_
  show zGo X l 7 0 0 317 0 [(0, .ref 336), (1, .int a), (2, .int b)] [] zMm _
  refine zs_aload_n (pc := 0) t317_0 rfl ?_
  refine zs_invV (pc := 1) (k := 336) (as' := []) (st := []) t317_1 mf268 rfl rfl (Or.inl ⟨by decide, (zk1 fk_zMm_336)⟩) ⟨by decide, by decide, Nat.le_of_ble_eq_true rfl, Nat.le_of_ble_eq_true rfl⟩ (cc2 (X := X) (l := l)) ?_
  rintro r M2 ⟨rfl, M2k336, M2v336_22, M2v336_39, M2v336_37, M2v336_0, M2k337, M2a337_1, M2v336_26, M2v336_34, M2a337_0, -⟩
  show zGo X l 7 0 0 317 4 [(0, .ref 336), (1, .int a), (2, .int b)] [] M2 _
  refine zs_aload_n (pc := 4) t317_4 rfl ?_
  refine zs_iload_n (pc := 5) t317_5 rfl ?_
  refine zs_invV (pc := 6) (k := 336) (as' := [.int a]) (st := []) t317_6 mf297 rfl rfl (Or.inl ⟨by decide, (zk1 M2k336)⟩) ⟨by decide, by decide, Nat.le_of_ble_eq_true rfl, Nat.le_of_ble_eq_true rfl⟩ (zs_in (by decide) mf297 (Nat.le_of_ble_eq_true rfl) ?_) (fun _ _ q => q)
  show zGo X l 1 0 0 297 0 [(0, .ref 336), (1, .int a)] [] M2 _
  refine zs_iload_n (pc := 0) t297_0 rfl ?_
  refine zs_i2l (pc := 1) t297_1 rfl ?_
  refine zs_lconst (pc := 2) t297_2 (v := 0) (by decide) ?_
  refine zs_aload_n (pc := 3) t297_3 rfl ?_
  refine zs_get (pc := 4) t297_4 (by decide) (zk1 M2k336) M2v336_22 ?_
  refine zs_iconst (pc := 7) t297_7 (v := 1) (by decide) ?_
  refine zs_isub (pc := 8) t297_8 (c := -1) (by decide) ?_
  refine zs_i2l (pc := 9) t297_9 (c := -1) (by decide) ?_
  refine zs_invS (pc := 10) (as := [.long a.toInt64, .long (0 : Int64), .long (-1 : Int64)]) (st := []) t297_10 (by decide) mf228 rfl rfl ⟨by decide, by decide, Nat.le_of_ble_eq_true rfl, Nat.le_of_ble_eq_true rfl⟩ (zs_in (by decide) mf228 (Nat.le_of_ble_eq_true rfl) ?_) (fun _ _ q => q)
  show zGo X l 0 0 0 228 0 [(0, .long a.toInt64), (2, .long (0 : Int64)), (4, .long (-1 : Int64))] [] M2 _
  refine zs_lload_n (pc := 0) t228_0 rfl ?_
  refine zs_lload_n (pc := 1) t228_1 rfl ?_
  by_cases w1 : a.toInt < 0
  · refine zs_lcmp (pc := 2) t228_2 (c := -1) (zlcL (zi2l rfl) ll0 (by omega)) ?_
    refine zs_if_ltT (pc := 3) t228_3 lin1 (by decide) ?_
    refine zs_iconst (pc := 17) t228_17 (v := 0) (by decide) ?_
    refine zs_iret (pc := 18) t228_18 mr228 (by decide) ?_
    show zGo X l 1 0 0 297 13 [(0, .ref 336), (1, .int a)] [.int (0 : Int32)] M2 _
    refine zs_iret (pc := 13) t297_13 mr297 (by decide) ?_
    show zGo X l 7 0 0 317 9 [(0, .ref 336), (1, .int a), (2, .int b)] [.int (0 : Int32)] M2 _
    refine zs_if_neF (pc := 9) t317_9 li0 (by decide) ?_
    refine zs_ldc_w (pc := 12) t317_12 (v := -100000) rfl (by decide) ?_
    exact zs_iret (pc := 15) t317_15 mr317 (by decide) rfl
  by_cases w2 : a.toInt = 0
  · refine zs_lcmp (pc := 2) t228_2 (c := 0) (zlcE (zi2l rfl) ll0 (by omega)) ?_
    refine zs_if_ltF (pc := 3) t228_3 li0 (by decide) ?_
    refine zs_lload_n (pc := 6) t228_6 rfl ?_
    refine zs_lload (pc := 7) t228_7 rfl ?_
    refine zs_lcmp (pc := 9) t228_9 (c := 1) (zlcG (zi2l rfl) lln1 (by omega)) ?_
    refine zs_if_gtT (pc := 10) t228_10 li1 (by decide) ?_
    refine zs_iconst (pc := 17) t228_17 (v := 0) (by decide) ?_
    refine zs_iret (pc := 18) t228_18 mr228 (by decide) ?_
    show zGo X l 1 0 0 297 13 [(0, .ref 336), (1, .int a)] [.int (0 : Int32)] M2 _
    refine zs_iret (pc := 13) t297_13 mr297 (by decide) ?_
    show zGo X l 7 0 0 317 9 [(0, .ref 336), (1, .int a), (2, .int b)] [.int (0 : Int32)] M2 _
    refine zs_if_neF (pc := 9) t317_9 li0 (by decide) ?_
    refine zs_ldc_w (pc := 12) t317_12 (v := -100000) rfl (by decide) ?_
    exact zs_iret (pc := 15) t317_15 mr317 (by decide) rfl
  refine zs_lcmp (pc := 2) t228_2 (c := 1) (zlcG (zi2l rfl) ll0 (by omega)) ?_
  refine zs_if_ltF (pc := 3) t228_3 li1 (by decide) ?_
  refine zs_lload_n (pc := 6) t228_6 rfl ?_
  refine zs_lload (pc := 7) t228_7 rfl ?_
  refine zs_lcmp (pc := 9) t228_9 (c := 1) (zlcG (zi2l rfl) lln1 (by omega)) ?_
  refine zs_if_gtT (pc := 10) t228_10 li1 (by decide) ?_
  refine zs_iconst (pc := 17) t228_17 (v := 0) (by decide) ?_
  refine zs_iret (pc := 18) t228_18 mr228 (by decide) ?_
  show zGo X l 1 0 0 297 13 [(0, .ref 336), (1, .int a)] [.int (0 : Int32)] M2 _
  refine zs_iret (pc := 13) t297_13 mr297 (by decide) ?_
  show zGo X l 7 0 0 317 9 [(0, .ref 336), (1, .int a), (2, .int b)] [.int (0 : Int32)] M2 _
  refine zs_if_neF (pc := 9) t317_9 li0 (by decide) ?_
  refine zs_ldc_w (pc := 12) t317_12 (v := -100000) rfl (by decide) ?_
  exact zs_iret (pc := 15) t317_15 mr317 (by decide) rfl
theorem c15_0 {X : zX} {l : Launch} {a b : Int32} : zCall X l 6 0 0 172 [.ref 6, .int a, .int b] zMc (fun r _ => r = some (.int (-1 : Int32))) := by
  have ga := zrg a
  have gb := zrg b
  refine zs_in (by decide) mf172 (Nat.le_of_ble_eq_true rfl) ?_
  show zGo X l 6 0 0 172 0 [(0, .ref 6), (1, .int a), (2, .int b)] [] zMc _
  refine zs_aload_n (pc := 0) t172_0 rfl ?_
  refine zs_get (pc := 1) t172_1 (by decide) (zk1 fk_zMc_6) fv_zMc_6_6 ?_
  refine zs_aload_n (pc := 4) t172_4 rfl ?_
  refine zs_get (pc := 5) t172_5 (by decide) (zk1 fk_zMc_6) fv_zMc_6_0 ?_
  refine zs_invV (pc := 8) (k := 164) (as' := [.ref 7]) (st := []) t172_8 mf105 rfl rfl (Or.inl ⟨by decide, (zk1 fk_zMc_164)⟩) ⟨by decide, by decide, Nat.le_of_ble_eq_true rfl, Nat.le_of_ble_eq_true rfl⟩ (cc1 (X := X) (l := l)) ?_
  rintro r M1 ⟨rfl, M1k164, M1v164_4, M1k325, M1rM3, M1v164_9, M1v164_1, M1k165, M1rM4, M1k6, M1v6_6, -⟩
  show zGo X l 6 0 0 172 11 [(0, .ref 6), (1, .int a), (2, .int b)] [.ref 164] M1 _
  refine zs_iload_n (pc := 11) t172_11 rfl ?_
  refine zs_invV (pc := 12) (k := 164) (as' := [.int a]) (st := []) t172_12 mf163 rfl rfl (Or.inl ⟨by decide, (zk1 M1k164)⟩) ⟨by decide, by decide, Nat.le_of_ble_eq_true rfl, Nat.le_of_ble_eq_true rfl⟩ (zs_in (by decide) mf163 (Nat.le_of_ble_eq_true rfl) ?_) (fun _ _ q => q)
  show zGo X l 1 0 0 163 0 [(0, .ref 164), (1, .int a)] [] M1 _
  refine zs_iload_n (pc := 0) t163_0 rfl ?_
  refine zs_aload_n (pc := 1) t163_1 rfl ?_
  refine zs_get (pc := 2) t163_2 (by decide) (zk1 M1k164) M1v164_4 ?_
  by_cases w1 : 0 ≤ a.toInt
  · refine zs_icmp_geT (pc := 5) t163_5 rfl li0 (by omega) ?_
    refine zs_aconst_null (pc := 19) t163_19 ?_
    refine zs_aret0 (pc := 20) t163_20 (by rw [mr163]; rfl) ?_
    show zGo X l 6 0 0 172 15 [(0, .ref 6), (1, .int a), (2, .int b)] [.null] M1 _
    refine zs_astore_n0 (pc := 15) t172_15 (ls' := [(3, .null), (0, .ref 6), (1, .int a), (2, .int b)]) (zml mf172 (by decide)) rfl ?_
    refine zs_aload_n0 (pc := 16) t172_16 rfl ?_
    refine zs_ifnullT (pc := 17) t172_17 ?_
    refine zs_iconst (pc := 31) t172_31 (v := -1) (by decide) ?_
    refine zs_goto (pc := 32) t172_32 ?_
    exact zs_iret (pc := 41) t172_41 mr172 (by decide) rfl
  · refine zs_icmp_geF (pc := 5) t163_5 rfl li0 (by omega) ?_
    refine zs_aload_n (pc := 8) t163_8 rfl ?_
    refine zs_get (pc := 9) t163_9 (by decide) (zk1 M1k164) M1v164_1 ?_
    refine zs_iload_n (pc := 12) t163_12 rfl ?_
    refine zs_invV (pc := 13) (k := 165) (as' := [.int a]) (st := []) t163_13 mf126 rfl rfl (Or.inl ⟨by decide, (zk1 M1k165)⟩) ⟨by decide, by decide, Nat.le_of_ble_eq_true rfl, Nat.le_of_ble_eq_true rfl⟩ (zs_in (by decide) mf126 (Nat.le_of_ble_eq_true rfl) ?_) (fun _ _ q => q)
    show zGo X l 0 0 0 126 0 [(0, .ref 165), (1, .int a)] [] M1 _
    refine zs_iload_n (pc := 0) t126_0 rfl ?_
    refine zs_if_ltT (pc := 1) t126_1 rfl (by omega) ?_
    refine zs_aconst_null (pc := 21) t126_21 ?_
    refine zs_aret0 (pc := 22) t126_22 (by rw [mr126]; rfl) ?_
    show zGo X l 1 0 0 163 16 [(0, .ref 164), (1, .int a)] [.null] M1 _
    refine zs_goto (pc := 16) t163_16 ?_
    refine zs_aret0 (pc := 20) t163_20 (by rw [mr163]; rfl) ?_
    show zGo X l 6 0 0 172 15 [(0, .ref 6), (1, .int a), (2, .int b)] [.null] M1 _
    refine zs_astore_n0 (pc := 15) t172_15 (ls' := [(3, .null), (0, .ref 6), (1, .int a), (2, .int b)]) (zml mf172 (by decide)) rfl ?_
    refine zs_aload_n0 (pc := 16) t172_16 rfl ?_
    refine zs_ifnullT (pc := 17) t172_17 ?_
    refine zs_iconst (pc := 31) t172_31 (v := -1) (by decide) ?_
    refine zs_goto (pc := 32) t172_32 ?_
    exact zs_iret (pc := 41) t172_41 mr172 (by decide) rfl
theorem m15_0 {X : zX} {l : Launch} {a b : Int32} : zCall X l 7 0 0 321 [.ref 336, .int a, .int b] zMm (fun r _ => r = some (.int (-1 : Int32))) := by
  have ga := zrg a
  have gb := zrg b
  refine zs_in (by decide) mf321 (Nat.le_of_ble_eq_true rfl) ?_
  show zGo X l 7 0 0 321 0 [(0, .ref 336), (1, .int a), (2, .int b)] [] zMm _
  refine zs_aload_n (pc := 0) t321_0 rfl ?_
  refine zs_invV (pc := 1) (k := 336) (as' := []) (st := []) t321_1 mf268 rfl rfl (Or.inl ⟨by decide, (zk1 fk_zMm_336)⟩) ⟨by decide, by decide, Nat.le_of_ble_eq_true rfl, Nat.le_of_ble_eq_true rfl⟩ (cc2 (X := X) (l := l)) ?_
  rintro r M2 ⟨rfl, M2k336, M2v336_22, M2v336_39, M2v336_37, M2v336_0, M2k337, M2a337_1, M2v336_26, M2v336_34, M2a337_0, -⟩
  show zGo X l 7 0 0 321 4 [(0, .ref 336), (1, .int a), (2, .int b)] [] M2 _
  refine zs_aload_n (pc := 4) t321_4 rfl ?_
  refine zs_iload_n (pc := 5) t321_5 rfl ?_
  refine zs_invV (pc := 6) (k := 336) (as' := [.int a]) (st := []) t321_6 mf297 rfl rfl (Or.inl ⟨by decide, (zk1 M2k336)⟩) ⟨by decide, by decide, Nat.le_of_ble_eq_true rfl, Nat.le_of_ble_eq_true rfl⟩ (zs_in (by decide) mf297 (Nat.le_of_ble_eq_true rfl) ?_) (fun _ _ q => q)
  show zGo X l 1 0 0 297 0 [(0, .ref 336), (1, .int a)] [] M2 _
  refine zs_iload_n (pc := 0) t297_0 rfl ?_
  refine zs_i2l (pc := 1) t297_1 rfl ?_
  refine zs_lconst (pc := 2) t297_2 (v := 0) (by decide) ?_
  refine zs_aload_n (pc := 3) t297_3 rfl ?_
  refine zs_get (pc := 4) t297_4 (by decide) (zk1 M2k336) M2v336_22 ?_
  refine zs_iconst (pc := 7) t297_7 (v := 1) (by decide) ?_
  refine zs_isub (pc := 8) t297_8 (c := -1) (by decide) ?_
  refine zs_i2l (pc := 9) t297_9 (c := -1) (by decide) ?_
  refine zs_invS (pc := 10) (as := [.long a.toInt64, .long (0 : Int64), .long (-1 : Int64)]) (st := []) t297_10 (by decide) mf228 rfl rfl ⟨by decide, by decide, Nat.le_of_ble_eq_true rfl, Nat.le_of_ble_eq_true rfl⟩ (zs_in (by decide) mf228 (Nat.le_of_ble_eq_true rfl) ?_) (fun _ _ q => q)
  show zGo X l 0 0 0 228 0 [(0, .long a.toInt64), (2, .long (0 : Int64)), (4, .long (-1 : Int64))] [] M2 _
  refine zs_lload_n (pc := 0) t228_0 rfl ?_
  refine zs_lload_n (pc := 1) t228_1 rfl ?_
  by_cases w1 : a.toInt < 0
  · refine zs_lcmp (pc := 2) t228_2 (c := -1) (zlcL (zi2l rfl) ll0 (by omega)) ?_
    refine zs_if_ltT (pc := 3) t228_3 lin1 (by decide) ?_
    refine zs_iconst (pc := 17) t228_17 (v := 0) (by decide) ?_
    refine zs_iret (pc := 18) t228_18 mr228 (by decide) ?_
    show zGo X l 1 0 0 297 13 [(0, .ref 336), (1, .int a)] [.int (0 : Int32)] M2 _
    refine zs_iret (pc := 13) t297_13 mr297 (by decide) ?_
    show zGo X l 7 0 0 321 9 [(0, .ref 336), (1, .int a), (2, .int b)] [.int (0 : Int32)] M2 _
    refine zs_if_eqT (pc := 9) t321_9 li0 (by decide) ?_
    refine zs_iconst (pc := 34) t321_34 (v := -1) (by decide) ?_
    exact zs_iret (pc := 35) t321_35 mr321 (by decide) rfl
  by_cases w2 : a.toInt = 0
  · refine zs_lcmp (pc := 2) t228_2 (c := 0) (zlcE (zi2l rfl) ll0 (by omega)) ?_
    refine zs_if_ltF (pc := 3) t228_3 li0 (by decide) ?_
    refine zs_lload_n (pc := 6) t228_6 rfl ?_
    refine zs_lload (pc := 7) t228_7 rfl ?_
    refine zs_lcmp (pc := 9) t228_9 (c := 1) (zlcG (zi2l rfl) lln1 (by omega)) ?_
    refine zs_if_gtT (pc := 10) t228_10 li1 (by decide) ?_
    refine zs_iconst (pc := 17) t228_17 (v := 0) (by decide) ?_
    refine zs_iret (pc := 18) t228_18 mr228 (by decide) ?_
    show zGo X l 1 0 0 297 13 [(0, .ref 336), (1, .int a)] [.int (0 : Int32)] M2 _
    refine zs_iret (pc := 13) t297_13 mr297 (by decide) ?_
    show zGo X l 7 0 0 321 9 [(0, .ref 336), (1, .int a), (2, .int b)] [.int (0 : Int32)] M2 _
    refine zs_if_eqT (pc := 9) t321_9 li0 (by decide) ?_
    refine zs_iconst (pc := 34) t321_34 (v := -1) (by decide) ?_
    exact zs_iret (pc := 35) t321_35 mr321 (by decide) rfl
  refine zs_lcmp (pc := 2) t228_2 (c := 1) (zlcG (zi2l rfl) ll0 (by omega)) ?_
  refine zs_if_ltF (pc := 3) t228_3 li1 (by decide) ?_
  refine zs_lload_n (pc := 6) t228_6 rfl ?_
  refine zs_lload (pc := 7) t228_7 rfl ?_
  refine zs_lcmp (pc := 9) t228_9 (c := 1) (zlcG (zi2l rfl) lln1 (by omega)) ?_
  refine zs_if_gtT (pc := 10) t228_10 li1 (by decide) ?_
  refine zs_iconst (pc := 17) t228_17 (v := 0) (by decide) ?_
  refine zs_iret (pc := 18) t228_18 mr228 (by decide) ?_
  show zGo X l 1 0 0 297 13 [(0, .ref 336), (1, .int a)] [.int (0 : Int32)] M2 _
  refine zs_iret (pc := 13) t297_13 mr297 (by decide) ?_
  show zGo X l 7 0 0 321 9 [(0, .ref 336), (1, .int a), (2, .int b)] [.int (0 : Int32)] M2 _
  refine zs_if_eqT (pc := 9) t321_9 li0 (by decide) ?_
  refine zs_iconst (pc := 34) t321_34 (v := -1) (by decide) ?_
  exact zs_iret (pc := 35) t321_35 mr321 (by decide) rfl
theorem c16_0 {X : zX} {l : Launch} {a b : Int32} : zCall X l 6 0 0 173 [.ref 6, .int a, .int b] zMc (fun r _ => r = some (.long (-1000000000000 : Int64))) := by
  have ga := zrg a
  have gb := zrg b
  refine zs_in (by decide) mf173 (Nat.le_of_ble_eq_true rfl) ?_
  show zGo X l 6 0 0 173 0 [(0, .ref 6), (1, .int a), (2, .int b)] [] zMc _
  refine zs_aload_n (pc := 0) t173_0 rfl ?_
  refine zs_get (pc := 1) t173_1 (by decide) (zk1 fk_zMc_6) fv_zMc_6_6 ?_
  refine zs_aload_n (pc := 4) t173_4 rfl ?_
  refine zs_get (pc := 5) t173_5 (by decide) (zk1 fk_zMc_6) fv_zMc_6_0 ?_
  refine zs_invV (pc := 8) (k := 164) (as' := [.ref 7]) (st := []) t173_8 mf105 rfl rfl (Or.inl ⟨by decide, (zk1 fk_zMc_164)⟩) ⟨by decide, by decide, Nat.le_of_ble_eq_true rfl, Nat.le_of_ble_eq_true rfl⟩ (cc1 (X := X) (l := l)) ?_
  rintro r M1 ⟨rfl, M1k164, M1v164_4, M1k325, M1rM3, M1v164_9, M1v164_1, M1k165, M1rM4, M1k6, M1v6_6, -⟩
  show zGo X l 6 0 0 173 11 [(0, .ref 6), (1, .int a), (2, .int b)] [.ref 164] M1 _
  refine zs_iload_n (pc := 11) t173_11 rfl ?_
  refine zs_invV (pc := 12) (k := 164) (as' := [.int a]) (st := []) t173_12 mf163 rfl rfl (Or.inl ⟨by decide, (zk1 M1k164)⟩) ⟨by decide, by decide, Nat.le_of_ble_eq_true rfl, Nat.le_of_ble_eq_true rfl⟩ (zs_in (by decide) mf163 (Nat.le_of_ble_eq_true rfl) ?_) (fun _ _ q => q)
  show zGo X l 1 0 0 163 0 [(0, .ref 164), (1, .int a)] [] M1 _
  refine zs_iload_n (pc := 0) t163_0 rfl ?_
  refine zs_aload_n (pc := 1) t163_1 rfl ?_
  refine zs_get (pc := 2) t163_2 (by decide) (zk1 M1k164) M1v164_4 ?_
  by_cases w1 : 0 ≤ a.toInt
  · refine zs_icmp_geT (pc := 5) t163_5 rfl li0 (by omega) ?_
    refine zs_aconst_null (pc := 19) t163_19 ?_
    refine zs_aret0 (pc := 20) t163_20 (by rw [mr163]; rfl) ?_
    show zGo X l 6 0 0 173 15 [(0, .ref 6), (1, .int a), (2, .int b)] [.null] M1 _
    refine zs_astore_n0 (pc := 15) t173_15 (ls' := [(3, .null), (0, .ref 6), (1, .int a), (2, .int b)]) (zml mf173 (by decide)) rfl ?_
    refine zs_aload_n0 (pc := 16) t173_16 rfl ?_
    refine zs_ifnonnullF (pc := 17) t173_17 ?_
    refine zs_ldc2_w (pc := 20) t173_20 (v := -1000000000000) (by decide) ?_
    exact zs_lret (pc := 23) t173_23 mr173 rfl
  · refine zs_icmp_geF (pc := 5) t163_5 rfl li0 (by omega) ?_
    refine zs_aload_n (pc := 8) t163_8 rfl ?_
    refine zs_get (pc := 9) t163_9 (by decide) (zk1 M1k164) M1v164_1 ?_
    refine zs_iload_n (pc := 12) t163_12 rfl ?_
    refine zs_invV (pc := 13) (k := 165) (as' := [.int a]) (st := []) t163_13 mf126 rfl rfl (Or.inl ⟨by decide, (zk1 M1k165)⟩) ⟨by decide, by decide, Nat.le_of_ble_eq_true rfl, Nat.le_of_ble_eq_true rfl⟩ (zs_in (by decide) mf126 (Nat.le_of_ble_eq_true rfl) ?_) (fun _ _ q => q)
    show zGo X l 0 0 0 126 0 [(0, .ref 165), (1, .int a)] [] M1 _
    refine zs_iload_n (pc := 0) t126_0 rfl ?_
    refine zs_if_ltT (pc := 1) t126_1 rfl (by omega) ?_
    refine zs_aconst_null (pc := 21) t126_21 ?_
    refine zs_aret0 (pc := 22) t126_22 (by rw [mr126]; rfl) ?_
    show zGo X l 1 0 0 163 16 [(0, .ref 164), (1, .int a)] [.null] M1 _
    refine zs_goto (pc := 16) t163_16 ?_
    refine zs_aret0 (pc := 20) t163_20 (by rw [mr163]; rfl) ?_
    show zGo X l 6 0 0 173 15 [(0, .ref 6), (1, .int a), (2, .int b)] [.null] M1 _
    refine zs_astore_n0 (pc := 15) t173_15 (ls' := [(3, .null), (0, .ref 6), (1, .int a), (2, .int b)]) (zml mf173 (by decide)) rfl ?_
    refine zs_aload_n0 (pc := 16) t173_16 rfl ?_
    refine zs_ifnonnullF (pc := 17) t173_17 ?_
    refine zs_ldc2_w (pc := 20) t173_20 (v := -1000000000000) (by decide) ?_
    exact zs_lret (pc := 23) t173_23 mr173 rfl
theorem m16_0 {X : zX} {l : Launch} {a b : Int32} : zCall X l 7 0 0 296 [.ref 336, .int a, .int b] zMm (fun r _ => r = some (.long (-1000000000000 : Int64))) := by
  have ga := zrg a
  have gb := zrg b
  refine zs_in (by decide) mf296 (Nat.le_of_ble_eq_true rfl) ?_
  show zGo X l 7 0 0 296 0 [(0, .ref 336), (1, .int a), (2, .int b)] [] zMm _
  refine zs_aload_n (pc := 0) t296_0 rfl ?_
  refine zs_invV (pc := 1) (k := 336) (as' := []) (st := []) t296_1 mf268 rfl rfl (Or.inl ⟨by decide, (zk1 fk_zMm_336)⟩) ⟨by decide, by decide, Nat.le_of_ble_eq_true rfl, Nat.le_of_ble_eq_true rfl⟩ (cc2 (X := X) (l := l)) ?_
  rintro r M2 ⟨rfl, M2k336, M2v336_22, M2v336_39, M2v336_37, M2v336_0, M2k337, M2a337_1, M2v336_26, M2v336_34, M2a337_0, -⟩
  show zGo X l 7 0 0 296 4 [(0, .ref 336), (1, .int a), (2, .int b)] [] M2 _
  refine zs_aload_n (pc := 4) t296_4 rfl ?_
  refine zs_iload_n (pc := 5) t296_5 rfl ?_
  refine zs_invV (pc := 6) (k := 336) (as' := [.int a]) (st := []) t296_6 mf297 rfl rfl (Or.inl ⟨by decide, (zk1 M2k336)⟩) ⟨by decide, by decide, Nat.le_of_ble_eq_true rfl, Nat.le_of_ble_eq_true rfl⟩ (zs_in (by decide) mf297 (Nat.le_of_ble_eq_true rfl) ?_) (fun _ _ q => q)
  show zGo X l 1 0 0 297 0 [(0, .ref 336), (1, .int a)] [] M2 _
  refine zs_iload_n (pc := 0) t297_0 rfl ?_
  refine zs_i2l (pc := 1) t297_1 rfl ?_
  refine zs_lconst (pc := 2) t297_2 (v := 0) (by decide) ?_
  refine zs_aload_n (pc := 3) t297_3 rfl ?_
  refine zs_get (pc := 4) t297_4 (by decide) (zk1 M2k336) M2v336_22 ?_
  refine zs_iconst (pc := 7) t297_7 (v := 1) (by decide) ?_
  refine zs_isub (pc := 8) t297_8 (c := -1) (by decide) ?_
  refine zs_i2l (pc := 9) t297_9 (c := -1) (by decide) ?_
  refine zs_invS (pc := 10) (as := [.long a.toInt64, .long (0 : Int64), .long (-1 : Int64)]) (st := []) t297_10 (by decide) mf228 rfl rfl ⟨by decide, by decide, Nat.le_of_ble_eq_true rfl, Nat.le_of_ble_eq_true rfl⟩ (zs_in (by decide) mf228 (Nat.le_of_ble_eq_true rfl) ?_) (fun _ _ q => q)
  show zGo X l 0 0 0 228 0 [(0, .long a.toInt64), (2, .long (0 : Int64)), (4, .long (-1 : Int64))] [] M2 _
  refine zs_lload_n (pc := 0) t228_0 rfl ?_
  refine zs_lload_n (pc := 1) t228_1 rfl ?_
  by_cases w1 : a.toInt < 0
  · refine zs_lcmp (pc := 2) t228_2 (c := -1) (zlcL (zi2l rfl) ll0 (by omega)) ?_
    refine zs_if_ltT (pc := 3) t228_3 lin1 (by decide) ?_
    refine zs_iconst (pc := 17) t228_17 (v := 0) (by decide) ?_
    refine zs_iret (pc := 18) t228_18 mr228 (by decide) ?_
    show zGo X l 1 0 0 297 13 [(0, .ref 336), (1, .int a)] [.int (0 : Int32)] M2 _
    refine zs_iret (pc := 13) t297_13 mr297 (by decide) ?_
    show zGo X l 7 0 0 296 9 [(0, .ref 336), (1, .int a), (2, .int b)] [.int (0 : Int32)] M2 _
    refine zs_if_eqT (pc := 9) t296_9 li0 (by decide) ?_
    refine zs_ldc2_w (pc := 24) t296_24 (v := -1000000000000) (by decide) ?_
    exact zs_lret (pc := 27) t296_27 mr296 rfl
  by_cases w2 : a.toInt = 0
  · refine zs_lcmp (pc := 2) t228_2 (c := 0) (zlcE (zi2l rfl) ll0 (by omega)) ?_
    refine zs_if_ltF (pc := 3) t228_3 li0 (by decide) ?_
    refine zs_lload_n (pc := 6) t228_6 rfl ?_
    refine zs_lload (pc := 7) t228_7 rfl ?_
    refine zs_lcmp (pc := 9) t228_9 (c := 1) (zlcG (zi2l rfl) lln1 (by omega)) ?_
    refine zs_if_gtT (pc := 10) t228_10 li1 (by decide) ?_
    refine zs_iconst (pc := 17) t228_17 (v := 0) (by decide) ?_
    refine zs_iret (pc := 18) t228_18 mr228 (by decide) ?_
    show zGo X l 1 0 0 297 13 [(0, .ref 336), (1, .int a)] [.int (0 : Int32)] M2 _
    refine zs_iret (pc := 13) t297_13 mr297 (by decide) ?_
    show zGo X l 7 0 0 296 9 [(0, .ref 336), (1, .int a), (2, .int b)] [.int (0 : Int32)] M2 _
    refine zs_if_eqT (pc := 9) t296_9 li0 (by decide) ?_
    refine zs_ldc2_w (pc := 24) t296_24 (v := -1000000000000) (by decide) ?_
    exact zs_lret (pc := 27) t296_27 mr296 rfl
  refine zs_lcmp (pc := 2) t228_2 (c := 1) (zlcG (zi2l rfl) ll0 (by omega)) ?_
  refine zs_if_ltF (pc := 3) t228_3 li1 (by decide) ?_
  refine zs_lload_n (pc := 6) t228_6 rfl ?_
  refine zs_lload (pc := 7) t228_7 rfl ?_
  refine zs_lcmp (pc := 9) t228_9 (c := 1) (zlcG (zi2l rfl) lln1 (by omega)) ?_
  refine zs_if_gtT (pc := 10) t228_10 li1 (by decide) ?_
  refine zs_iconst (pc := 17) t228_17 (v := 0) (by decide) ?_
  refine zs_iret (pc := 18) t228_18 mr228 (by decide) ?_
  show zGo X l 1 0 0 297 13 [(0, .ref 336), (1, .int a)] [.int (0 : Int32)] M2 _
  refine zs_iret (pc := 13) t297_13 mr297 (by decide) ?_
  show zGo X l 7 0 0 296 9 [(0, .ref 336), (1, .int a), (2, .int b)] [.int (0 : Int32)] M2 _
  refine zs_if_eqT (pc := 9) t296_9 li0 (by decide) ?_
  refine zs_ldc2_w (pc := 24) t296_24 (v := -1000000000000) (by decide) ?_
  exact zs_lret (pc := 27) t296_27 mr296 rfl
theorem c17_0 {X : zX} {l : Launch} {a b : Int32} : zCall X l 6 0 0 177 [.ref 6, .int a, .int b] zMc (fun r _ => r = some (.int (-100000 : Int32))) := by
  have ga := zrg a
  have gb := zrg b
  refine zs_in (by decide) mf177 (Nat.le_of_ble_eq_true rfl) ?_
  show zGo X l 6 0 0 177 0 [(0, .ref 6), (1, .int a), (2, .int b)] [] zMc _
  refine zs_iload_n (pc := 0) t177_0 rfl ?_
  by_cases w1 : a.toInt < 0
  · refine zs_if_ltT (pc := 1) t177_1 rfl (by omega) ?_
    refine zs_ldc (pc := 22) t177_22 (v := -100000) rfl (by decide) ?_
    exact zs_iret (pc := 24) t177_24 mr177 (by decide) rfl
  · refine zs_if_ltF (pc := 1) t177_1 rfl (by omega) ?_
    refine zs_iload_n (pc := 4) t177_4 rfl ?_
    refine zs_aload_n (pc := 5) t177_5 rfl ?_
    refine zs_get (pc := 6) t177_6 (by decide) (zk1 fk_zMc_6) fv_zMc_6_6 ?_
    refine zs_aload_n (pc := 9) t177_9 rfl ?_
    refine zs_get (pc := 10) t177_10 (by decide) (zk1 fk_zMc_6) fv_zMc_6_0 ?_
    refine zs_invV (pc := 13) (k := 164) (as' := [.ref 7]) (st := [.int a]) t177_13 mf105 rfl rfl (Or.inl ⟨by decide, (zk1 fk_zMc_164)⟩) ⟨by decide, by decide, Nat.le_of_ble_eq_true rfl, Nat.le_of_ble_eq_true rfl⟩ (cc1 (X := X) (l := l)) ?_
    rintro r M1 ⟨rfl, M1k164, M1v164_4, M1k325, M1rM3, M1v164_9, M1v164_1, M1k165, M1rM4, M1k6, M1v6_6, -⟩
    show zGo X l 6 0 0 177 16 [(0, .ref 6), (1, .int a), (2, .int b)] [.ref 164, .int a] M1 _
    refine zs_invV (pc := 16) (k := 164) (as' := []) (st := [.int a]) t177_16 mf152 rfl rfl (Or.inl ⟨by decide, (zk1 M1k164)⟩) ⟨by decide, by decide, Nat.le_of_ble_eq_true rfl, Nat.le_of_ble_eq_true rfl⟩ (zs_in (by decide) mf152 (Nat.le_of_ble_eq_true rfl) ?_) (fun _ _ q => q)
    show zGo X l 0 0 0 152 0 [(0, .ref 164)] [] M1 _
    refine zs_aload_n (pc := 0) t152_0 rfl ?_
    refine zs_get (pc := 1) t152_1 (by decide) (zk1 M1k164) M1v164_9 ?_
    refine zs_iret (pc := 4) t152_4 mr152 (by decide) ?_
    show zGo X l 6 0 0 177 19 [(0, .ref 6), (1, .int a), (2, .int b)] [.int (0 : Int32), .int a] M1 _
    refine zs_icmp_ltF (pc := 19) t177_19 rfl li0 (by omega) ?_
    refine zs_ldc (pc := 22) t177_22 (v := -100000) rfl (by decide) ?_
    exact zs_iret (pc := 24) t177_24 mr177 (by decide) rfl
theorem m17_0 {X : zX} {l : Launch} {a b : Int32} : zCall X l 7 0 0 301 [.ref 336, .int a, .int b] zMm (fun r _ => r = some (.int (-100000 : Int32))) := by
  have ga := zrg a
  have gb := zrg b
  refine zs_in (by decide) mf301 (Nat.le_of_ble_eq_true rfl) ?_
  show zGo X l 7 0 0 301 0 [(0, .ref 336), (1, .int a), (2, .int b)] [] zMm _
  refine zs_aload_n (pc := 0) t301_0 rfl ?_
  refine zs_invV (pc := 1) (k := 336) (as' := []) (st := []) t301_1 mf268 rfl rfl (Or.inl ⟨by decide, (zk1 fk_zMm_336)⟩) ⟨by decide, by decide, Nat.le_of_ble_eq_true rfl, Nat.le_of_ble_eq_true rfl⟩ (cc2 (X := X) (l := l)) ?_
  rintro r M2 ⟨rfl, M2k336, M2v336_22, M2v336_39, M2v336_37, M2v336_0, M2k337, M2a337_1, M2v336_26, M2v336_34, M2a337_0, -⟩
  show zGo X l 7 0 0 301 4 [(0, .ref 336), (1, .int a), (2, .int b)] [] M2 _
  refine zs_iload_n (pc := 4) t301_4 rfl ?_
  refine zs_i2l (pc := 5) t301_5 rfl ?_
  refine zs_lconst (pc := 6) t301_6 (v := 0) (by decide) ?_
  refine zs_aload_n (pc := 7) t301_7 rfl ?_
  refine zs_get (pc := 8) t301_8 (by decide) (zk1 M2k336) M2v336_37 ?_
  refine zs_iconst (pc := 11) t301_11 (v := 1) (by decide) ?_
  refine zs_isub (pc := 12) t301_12 (c := -1) (by decide) ?_
  refine zs_i2l (pc := 13) t301_13 (c := -1) (by decide) ?_
  refine zs_invS (pc := 14) (as := [.long a.toInt64, .long (0 : Int64), .long (-1 : Int64)]) (st := []) t301_14 (by decide) mf228 rfl rfl ⟨by decide, by decide, Nat.le_of_ble_eq_true rfl, Nat.le_of_ble_eq_true rfl⟩ (zs_in (by decide) mf228 (Nat.le_of_ble_eq_true rfl) ?_) (fun _ _ q => q)
  show zGo X l 0 0 0 228 0 [(0, .long a.toInt64), (2, .long (0 : Int64)), (4, .long (-1 : Int64))] [] M2 _
  refine zs_lload_n (pc := 0) t228_0 rfl ?_
  refine zs_lload_n (pc := 1) t228_1 rfl ?_
  by_cases w1 : a.toInt < 0
  · refine zs_lcmp (pc := 2) t228_2 (c := -1) (zlcL (zi2l rfl) ll0 (by omega)) ?_
    refine zs_if_ltT (pc := 3) t228_3 lin1 (by decide) ?_
    refine zs_iconst (pc := 17) t228_17 (v := 0) (by decide) ?_
    refine zs_iret (pc := 18) t228_18 mr228 (by decide) ?_
    show zGo X l 7 0 0 301 17 [(0, .ref 336), (1, .int a), (2, .int b)] [.int (0 : Int32)] M2 _
    refine zs_if_eqT (pc := 17) t301_17 li0 (by decide) ?_
    refine zs_ldc_w (pc := 30) t301_30 (v := -100000) rfl (by decide) ?_
    exact zs_iret (pc := 33) t301_33 mr301 (by decide) rfl
  by_cases w2 : a.toInt = 0
  · refine zs_lcmp (pc := 2) t228_2 (c := 0) (zlcE (zi2l rfl) ll0 (by omega)) ?_
    refine zs_if_ltF (pc := 3) t228_3 li0 (by decide) ?_
    refine zs_lload_n (pc := 6) t228_6 rfl ?_
    refine zs_lload (pc := 7) t228_7 rfl ?_
    refine zs_lcmp (pc := 9) t228_9 (c := 1) (zlcG (zi2l rfl) lln1 (by omega)) ?_
    refine zs_if_gtT (pc := 10) t228_10 li1 (by decide) ?_
    refine zs_iconst (pc := 17) t228_17 (v := 0) (by decide) ?_
    refine zs_iret (pc := 18) t228_18 mr228 (by decide) ?_
    show zGo X l 7 0 0 301 17 [(0, .ref 336), (1, .int a), (2, .int b)] [.int (0 : Int32)] M2 _
    refine zs_if_eqT (pc := 17) t301_17 li0 (by decide) ?_
    refine zs_ldc_w (pc := 30) t301_30 (v := -100000) rfl (by decide) ?_
    exact zs_iret (pc := 33) t301_33 mr301 (by decide) rfl
  refine zs_lcmp (pc := 2) t228_2 (c := 1) (zlcG (zi2l rfl) ll0 (by omega)) ?_
  refine zs_if_ltF (pc := 3) t228_3 li1 (by decide) ?_
  refine zs_lload_n (pc := 6) t228_6 rfl ?_
  refine zs_lload (pc := 7) t228_7 rfl ?_
  refine zs_lcmp (pc := 9) t228_9 (c := 1) (zlcG (zi2l rfl) lln1 (by omega)) ?_
  refine zs_if_gtT (pc := 10) t228_10 li1 (by decide) ?_
  refine zs_iconst (pc := 17) t228_17 (v := 0) (by decide) ?_
  refine zs_iret (pc := 18) t228_18 mr228 (by decide) ?_
  show zGo X l 7 0 0 301 17 [(0, .ref 336), (1, .int a), (2, .int b)] [.int (0 : Int32)] M2 _
  refine zs_if_eqT (pc := 17) t301_17 li0 (by decide) ?_
  refine zs_ldc_w (pc := 30) t301_30 (v := -100000) rfl (by decide) ?_
  exact zs_iret (pc := 33) t301_33 mr301 (by decide) rfl
theorem c18_0 {X : zX} {l : Launch} : zCall X l 99 0 0 180 [.ref 6] zMc (fun r _ => r = some (.int (0 : Int32))) := zs_runD (q := 26) (D := 99) (Qb := fun r _ => decide (r = some (.int (0 : Int32)))) (by decide) mf180 (by decide) (by decide +kernel) (fun _ _ q => of_decide_eq_true q)
theorem m18_0 {X : zX} {l : Launch} : zCall X l 8 0 0 266 [.ref 336] zMm (fun r _ => r = some (.int (0 : Int32))) := zs_run (q := 27) (Qb := fun r _ => decide (r = some (.int (0 : Int32)))) mf266 (by decide) (by decide +kernel) (fun _ _ q => of_decide_eq_true q)
theorem c19_0 {X : zX} {l : Launch} {a : Int32} (la : (-2147483648) ≤ a.toInt) (ua : a.toInt ≤ 102) : zCall X l 6 0 0 151 [.ref 6, .int a] zMc (fun r _ => r = some (.int (-1 : Int32))) := by
  have ga := zrg a
  refine zs_in (by decide) mf151 (Nat.le_of_ble_eq_true rfl) ?_
  show zGo X l 6 0 0 151 0 [(0, .ref 6), (1, .int a)] [] zMc _
  refine zs_iload_n (pc := 0) t151_0 rfl ?_
  refine zs_tswD (pc := 1) t151_1 rfl (by omega) (pc2 := 205) rfl ?_
  refine zs_iconst (pc := 205) t151_205 (v := -1) (by decide) ?_
  exact zs_iret (pc := 206) t151_206 mr151 (by decide) rfl
theorem m19_0 {X : zX} {l : Launch} {a : Int32} (la : (-2147483648) ≤ a.toInt) (ua : a.toInt ≤ 102) : zCall X l 8 0 0 295 [.ref 336, .int a] zMm (fun r _ => r = some (.int (-1 : Int32))) := by
  have ga := zrg a
  refine zs_in (by decide) mf295 (Nat.le_of_ble_eq_true rfl) ?_
  show zGo X l 8 0 0 295 0 [(0, .ref 336), (1, .int a)] [] zMm _
  refine zs_iload_n (pc := 0) t295_0 rfl ?_
  refine zs_invS (pc := 1) (as := [.int a]) (st := []) t295_1 (by decide) mf260 rfl rfl ⟨by decide, by decide, Nat.le_of_ble_eq_true rfl, Nat.le_of_ble_eq_true rfl⟩ (zs_in (by decide) mf260 (Nat.le_of_ble_eq_true rfl) ?_) (fun _ _ q => q)
  show zGo X l 0 0 0 260 0 [(0, .int a)] [] zMm _
  refine zs_iload_n (pc := 0) t260_0 rfl ?_
  refine zs_tswD (pc := 1) t260_1 rfl (by omega) (pc2 := 98) rfl ?_
  refine zs_iconst (pc := 98) t260_98 (v := -1) (by decide) ?_
  refine zs_iret (pc := 99) t260_99 mr260 (by decide) ?_
  show zGo X l 8 0 0 295 4 [(0, .ref 336), (1, .int a)] [.int (-1 : Int32)] zMm _
  refine zs_iconst (pc := 4) t295_4 (v := -1) (by decide) ?_
  refine zs_icmp_neF (pc := 5) t295_5 lin1 lin1 (by decide) ?_
  refine zs_iconst (pc := 8) t295_8 (v := -1) (by decide) ?_
  refine zs_goto (pc := 9) t295_9 ?_
  exact zs_iret (pc := 20) t295_20 mr295 (by decide) rfl
theorem c19_1 {X : zX} {l : Launch} : zCall X l 6 0 0 151 [.ref 6, .int (103 : Int32)] zMc (fun r _ => r = some (.int (0 : Int32))) := by
  refine zs_in (by decide) mf151 (Nat.le_of_ble_eq_true rfl) ?_
  show zGo X l 6 0 0 151 0 [(0, .ref 6), (1, .int (103 : Int32))] [] zMc _
  refine zs_iload_n (pc := 0) t151_0 rfl ?_
  refine zs_tswI (pc := 1) t151_1 li103 (by decide) rfl (pc2 := 118) rfl ?_
  refine zs_aload_n (pc := 118) t151_118 rfl ?_
  refine zs_get (pc := 119) t151_119 (by decide) (zk1 fk_zMc_6) fv_zMc_6_7 ?_
  refine zs_aload_n (pc := 122) t151_122 rfl ?_
  refine zs_get (pc := 123) t151_123 (by decide) (zk1 fk_zMc_6) fv_zMc_6_0 ?_
  refine zs_aload_n (pc := 126) t151_126 rfl ?_
  refine zs_get (pc := 127) t151_127 (by decide) (zk1 fk_zMc_6) fv_zMc_6_6 ?_
  refine zs_aload_n (pc := 130) t151_130 rfl ?_
  refine zs_get (pc := 131) t151_131 (by decide) (zk1 fk_zMc_6) fv_zMc_6_0 ?_
  refine zs_invV (pc := 134) (k := 164) (as' := [.ref 7]) (st := [.ref 7, .ref 325]) t151_134 mf105 rfl rfl (Or.inl ⟨by decide, (zk1 fk_zMc_164)⟩) ⟨by decide, by decide, Nat.le_of_ble_eq_true rfl, Nat.le_of_ble_eq_true rfl⟩ (cc1 (X := X) (l := l)) ?_
  rintro r M1 ⟨rfl, M1k164, M1v164_4, M1k325, M1rM3, M1v164_9, M1v164_1, M1k165, M1rM4, M1k6, M1v6_6, -⟩
  show zGo X l 6 0 0 151 137 [(0, .ref 6), (1, .int (103 : Int32))] [.ref 164, .ref 7, .ref 325] M1 _
  refine zs_invV (pc := 137) (k := 325) (as' := [.ref 7, .ref 164]) (st := []) t151_137 mf153 rfl rfl (Or.inl ⟨by decide, (zk1 M1k325)⟩) ⟨by decide, by decide, Nat.le_of_ble_eq_true rfl, Nat.le_of_ble_eq_true rfl⟩ (zs_run mf153 (by decide) M1rM3 (fun _ _ q => of_decide_eq_true q)) ?_
  rintro r M3 ⟨rfl, M3k325, M3v325_1, M3v325_2, M3k326, M3a326_8, M3a326_7, M3a326_6, M3a326_5, M3a326_4, M3a326_3, M3a326_2, M3a326_1, M3a326_0, -⟩
  show zGo X l 6 0 0 151 140 [(0, .ref 6), (1, .int (103 : Int32))] [.ref 325] M3 _
  refine zs_invV (pc := 140) (k := 325) (as' := []) (st := []) t151_140 mf165 rfl rfl (Or.inl ⟨by decide, (zk1 M3k325)⟩) ⟨by decide, by decide, Nat.le_of_ble_eq_true rfl, Nat.le_of_ble_eq_true rfl⟩ (zs_in (by decide) mf165 (Nat.le_of_ble_eq_true rfl) ?_) (fun _ _ q => q)
  show zGo X l 0 0 0 165 0 [(0, .ref 325)] [] M3 _
  refine zs_aload_n (pc := 0) t165_0 rfl ?_
  refine zs_get (pc := 1) t165_1 (by decide) (zk1 M3k325) M3v325_1 ?_
  refine zs_iret (pc := 4) t165_4 mr165 (by decide) ?_
  show zGo X l 6 0 0 151 143 [(0, .ref 6), (1, .int (103 : Int32))] [.int (0 : Int32)] M3 _
  exact zs_iret (pc := 143) t151_143 mr151 (by decide) rfl
theorem m19_1 {X : zX} {l : Launch} : zCall X l 8 0 0 295 [.ref 336, .int (103 : Int32)] zMm (fun r _ => r = some (.int (0 : Int32))) := by
  refine zs_in (by decide) mf295 (Nat.le_of_ble_eq_true rfl) ?_
  show zGo X l 8 0 0 295 0 [(0, .ref 336), (1, .int (103 : Int32))] [] zMm _
  refine zs_iload_n (pc := 0) t295_0 rfl ?_
  refine zs_invS (pc := 1) (as := [.int (103 : Int32)]) (st := []) t295_1 (by decide) mf260 rfl rfl ⟨by decide, by decide, Nat.le_of_ble_eq_true rfl, Nat.le_of_ble_eq_true rfl⟩ (zs_in (by decide) mf260 (Nat.le_of_ble_eq_true rfl) ?_) (fun _ _ q => q)
  show zGo X l 0 0 0 260 0 [(0, .int (103 : Int32))] [] zMm _
  refine zs_iload_n (pc := 0) t260_0 rfl ?_
  refine zs_tswI (pc := 1) t260_1 li103 (by decide) rfl (pc2 := 86) rfl ?_
  refine zs_iconst (pc := 86) t260_86 (v := 3) (by decide) ?_
  refine zs_iret (pc := 87) t260_87 mr260 (by decide) ?_
  show zGo X l 8 0 0 295 4 [(0, .ref 336), (1, .int (103 : Int32))] [.int (3 : Int32)] zMm _
  refine zs_iconst (pc := 4) t295_4 (v := -1) (by decide) ?_
  refine zs_icmp_neT (pc := 5) t295_5 li3 lin1 (by decide) ?_
  refine zs_aload_n (pc := 12) t295_12 rfl ?_
  refine zs_iload_n (pc := 13) t295_13 rfl ?_
  refine zs_invS (pc := 14) (as := [.int (103 : Int32)]) (st := [.ref 336]) t295_14 (by decide) mf260 rfl rfl ⟨by decide, by decide, Nat.le_of_ble_eq_true rfl, Nat.le_of_ble_eq_true rfl⟩ (zs_in (by decide) mf260 (Nat.le_of_ble_eq_true rfl) ?_) (fun _ _ q => q)
  show zGo X l 0 0 0 260 0 [(0, .int (103 : Int32))] [] zMm _
  refine zs_iload_n (pc := 0) t260_0 rfl ?_
  refine zs_tswI (pc := 1) t260_1 li103 (by decide) rfl (pc2 := 86) rfl ?_
  refine zs_iconst (pc := 86) t260_86 (v := 3) (by decide) ?_
  refine zs_iret (pc := 87) t260_87 mr260 (by decide) ?_
  show zGo X l 8 0 0 295 17 [(0, .ref 336), (1, .int (103 : Int32))] [.int (3 : Int32), .ref 336] zMm _
  refine zs_invV (pc := 17) (k := 336) (as' := [.int (3 : Int32)]) (st := []) t295_17 mf267 rfl rfl (Or.inl ⟨by decide, (zk1 fk_zMm_336)⟩) ⟨by decide, by decide, Nat.le_of_ble_eq_true rfl, Nat.le_of_ble_eq_true rfl⟩ (zs_in (by decide) mf267 (Nat.le_of_ble_eq_true rfl) ?_) (fun _ _ q => q)
  show zGo X l 7 0 0 267 0 [(0, .ref 336), (1, .int (3 : Int32))] [] zMm _
  refine zs_aload_n (pc := 0) t267_0 rfl ?_
  refine zs_invV (pc := 1) (k := 336) (as' := []) (st := []) t267_1 mf268 rfl rfl (Or.inl ⟨by decide, (zk1 fk_zMm_336)⟩) ⟨by decide, by decide, Nat.le_of_ble_eq_true rfl, Nat.le_of_ble_eq_true rfl⟩ (cc2 (X := X) (l := l)) ?_
  rintro r M2 ⟨rfl, M2k336, M2v336_22, M2v336_39, M2v336_37, M2v336_0, M2k337, M2a337_1, M2v336_26, M2v336_34, M2a337_0, -⟩
  show zGo X l 7 0 0 267 4 [(0, .ref 336), (1, .int (3 : Int32))] [] M2 _
  refine zs_iload_n (pc := 4) t267_4 rfl ?_
  refine zs_tswI (pc := 5) t267_5 li3 (by decide) rfl (pc2 := 64) rfl ?_
  refine zs_aload_n (pc := 64) t267_64 rfl ?_
  refine zs_get (pc := 65) t267_65 (by decide) (zk1 M2k336) M2v336_39 ?_
  refine zs_iret (pc := 68) t267_68 mr267 (by decide) ?_
  show zGo X l 8 0 0 295 20 [(0, .ref 336), (1, .int (103 : Int32))] [.int (0 : Int32)] M2 _
  exact zs_iret (pc := 20) t295_20 mr295 (by decide) rfl
theorem c19_2 {X : zX} {l : Launch} : zCall X l 6 0 0 151 [.ref 6, .int (104 : Int32)] zMc (fun r _ => r = some (.int (0 : Int32))) := by
  refine zs_in (by decide) mf151 (Nat.le_of_ble_eq_true rfl) ?_
  show zGo X l 6 0 0 151 0 [(0, .ref 6), (1, .int (104 : Int32))] [] zMc _
  refine zs_iload_n (pc := 0) t151_0 rfl ?_
  refine zs_tswI (pc := 1) t151_1 li104 (by decide) rfl (pc2 := 95) rfl ?_
  refine zs_aload_n (pc := 95) t151_95 rfl ?_
  refine zs_get (pc := 96) t151_96 (by decide) (zk1 fk_zMc_6) fv_zMc_6_0 ?_
  refine zs_invV (pc := 99) (k := 7) (as' := []) (st := []) t151_99 mf92 rfl rfl (Or.inl ⟨by decide, (zk1 fk_zMc_7)⟩) ⟨by decide, by decide, Nat.le_of_ble_eq_true rfl, Nat.le_of_ble_eq_true rfl⟩ (zs_in (by decide) mf92 (Nat.le_of_ble_eq_true rfl) ?_) (fun _ _ q => q)
  show zGo X l 2 0 0 92 0 [(0, .ref 7)] [] zMc _
  refine zs_iconst (pc := 0) t92_0 (v := 0) (by decide) ?_
  refine zs_istore_n (pc := 1) t92_1 (ls' := [(1, .int (0 : Int32)), (0, .ref 7)]) (zml mf92 (by decide)) rfl ?_
  refine zs_iconst (pc := 2) t92_2 (v := 0) (by decide) ?_
  refine zs_istore_n (pc := 3) t92_3 (ls' := [(2, .int (0 : Int32)), (1, .int (0 : Int32)), (0, .ref 7)]) (zml mf92 (by decide)) rfl ?_
  refine zs_iload_n (pc := 4) t92_4 rfl ?_
  refine zs_aload_n (pc := 5) t92_5 rfl ?_
  refine zs_get (pc := 6) t92_6 (by decide) (zk1 fk_zMc_7) fv_zMc_7_3 ?_
  refine zs_icmp_geT (pc := 9) t92_9 li0 li0 (by decide) ?_
  refine zs_iload_n (pc := 29) t92_29 rfl ?_
  refine zs_iret (pc := 30) t92_30 mr92 (by decide) ?_
  show zGo X l 6 0 0 151 102 [(0, .ref 6), (1, .int (104 : Int32))] [.int (0 : Int32)] zMc _
  exact zs_iret (pc := 102) t151_102 mr151 (by decide) rfl
theorem m19_2 {X : zX} {l : Launch} : zCall X l 8 0 0 295 [.ref 336, .int (104 : Int32)] zMm (fun r _ => r = some (.int (0 : Int32))) := by
  refine zs_in (by decide) mf295 (Nat.le_of_ble_eq_true rfl) ?_
  show zGo X l 8 0 0 295 0 [(0, .ref 336), (1, .int (104 : Int32))] [] zMm _
  refine zs_iload_n (pc := 0) t295_0 rfl ?_
  refine zs_invS (pc := 1) (as := [.int (104 : Int32)]) (st := []) t295_1 (by decide) mf260 rfl rfl ⟨by decide, by decide, Nat.le_of_ble_eq_true rfl, Nat.le_of_ble_eq_true rfl⟩ (zs_in (by decide) mf260 (Nat.le_of_ble_eq_true rfl) ?_) (fun _ _ q => q)
  show zGo X l 0 0 0 260 0 [(0, .int (104 : Int32))] [] zMm _
  refine zs_iload_n (pc := 0) t260_0 rfl ?_
  refine zs_tswI (pc := 1) t260_1 li104 (by decide) rfl (pc2 := 82) rfl ?_
  refine zs_iconst (pc := 82) t260_82 (v := 1) (by decide) ?_
  refine zs_iret (pc := 83) t260_83 mr260 (by decide) ?_
  show zGo X l 8 0 0 295 4 [(0, .ref 336), (1, .int (104 : Int32))] [.int (1 : Int32)] zMm _
  refine zs_iconst (pc := 4) t295_4 (v := -1) (by decide) ?_
  refine zs_icmp_neT (pc := 5) t295_5 li1 lin1 (by decide) ?_
  refine zs_aload_n (pc := 12) t295_12 rfl ?_
  refine zs_iload_n (pc := 13) t295_13 rfl ?_
  refine zs_invS (pc := 14) (as := [.int (104 : Int32)]) (st := [.ref 336]) t295_14 (by decide) mf260 rfl rfl ⟨by decide, by decide, Nat.le_of_ble_eq_true rfl, Nat.le_of_ble_eq_true rfl⟩ (zs_in (by decide) mf260 (Nat.le_of_ble_eq_true rfl) ?_) (fun _ _ q => q)
  show zGo X l 0 0 0 260 0 [(0, .int (104 : Int32))] [] zMm _
  refine zs_iload_n (pc := 0) t260_0 rfl ?_
  refine zs_tswI (pc := 1) t260_1 li104 (by decide) rfl (pc2 := 82) rfl ?_
  refine zs_iconst (pc := 82) t260_82 (v := 1) (by decide) ?_
  refine zs_iret (pc := 83) t260_83 mr260 (by decide) ?_
  show zGo X l 8 0 0 295 17 [(0, .ref 336), (1, .int (104 : Int32))] [.int (1 : Int32), .ref 336] zMm _
  refine zs_invV (pc := 17) (k := 336) (as' := [.int (1 : Int32)]) (st := []) t295_17 mf267 rfl rfl (Or.inl ⟨by decide, (zk1 fk_zMm_336)⟩) ⟨by decide, by decide, Nat.le_of_ble_eq_true rfl, Nat.le_of_ble_eq_true rfl⟩ (zs_in (by decide) mf267 (Nat.le_of_ble_eq_true rfl) ?_) (fun _ _ q => q)
  show zGo X l 7 0 0 267 0 [(0, .ref 336), (1, .int (1 : Int32))] [] zMm _
  refine zs_aload_n (pc := 0) t267_0 rfl ?_
  refine zs_invV (pc := 1) (k := 336) (as' := []) (st := []) t267_1 mf268 rfl rfl (Or.inl ⟨by decide, (zk1 fk_zMm_336)⟩) ⟨by decide, by decide, Nat.le_of_ble_eq_true rfl, Nat.le_of_ble_eq_true rfl⟩ (cc2 (X := X) (l := l)) ?_
  rintro r M2 ⟨rfl, M2k336, M2v336_22, M2v336_39, M2v336_37, M2v336_0, M2k337, M2a337_1, M2v336_26, M2v336_34, M2a337_0, -⟩
  show zGo X l 7 0 0 267 4 [(0, .ref 336), (1, .int (1 : Int32))] [] M2 _
  refine zs_iload_n (pc := 4) t267_4 rfl ?_
  refine zs_tswI (pc := 5) t267_5 li1 (by decide) rfl (pc2 := 53) rfl ?_
  refine zs_aload_n (pc := 53) t267_53 rfl ?_
  refine zs_iconst (pc := 54) t267_54 (v := -1) (by decide) ?_
  refine zs_invV (pc := 55) (k := 336) (as' := [.int (-1 : Int32)]) (st := []) t267_55 mf290 rfl rfl (Or.inl ⟨by decide, (zk1 M2k336)⟩) ⟨by decide, by decide, Nat.le_of_ble_eq_true rfl, Nat.le_of_ble_eq_true rfl⟩ (zs_in (by decide) mf290 (Nat.le_of_ble_eq_true rfl) ?_) (fun _ _ q => q)
  show zGo X l 2 0 0 290 0 [(0, .ref 336), (1, .int (-1 : Int32))] [] M2 _
  refine zs_iconst (pc := 0) t290_0 (v := 0) (by decide) ?_
  refine zs_istore_n (pc := 1) t290_1 (ls' := [(2, .int (0 : Int32)), (0, .ref 336), (1, .int (-1 : Int32))]) (zml mf290 (by decide)) rfl ?_
  refine zs_iconst (pc := 2) t290_2 (v := 0) (by decide) ?_
  refine zs_istore_n (pc := 3) t290_3 (ls' := [(3, .int (0 : Int32)), (2, .int (0 : Int32)), (0, .ref 336), (1, .int (-1 : Int32))]) (zml mf290 (by decide)) rfl ?_
  refine zs_iload_n (pc := 4) t290_4 rfl ?_
  refine zs_aload_n (pc := 5) t290_5 rfl ?_
  refine zs_get (pc := 6) t290_6 (by decide) (zk1 M2k336) M2v336_0 ?_
  refine zs_iconst (pc := 9) t290_9 (v := 1) (by decide) ?_
  refine zs_iald (pc := 10) t290_10 (j := 1) (by decide) (zk1 M2k337) (by decide) (zk2 M2k337 (by decide)) M2a337_1 ?_
  refine zs_icmp_geT (pc := 11) t290_11 li0 li0 (by decide) ?_
  refine zs_iload_n (pc := 52) t290_52 rfl ?_
  refine zs_iret (pc := 53) t290_53 mr290 (by decide) ?_
  show zGo X l 7 0 0 267 58 [(0, .ref 336), (1, .int (1 : Int32))] [.int (0 : Int32)] M2 _
  refine zs_iret (pc := 58) t267_58 mr267 (by decide) ?_
  show zGo X l 8 0 0 295 20 [(0, .ref 336), (1, .int (104 : Int32))] [.int (0 : Int32)] M2 _
  exact zs_iret (pc := 20) t295_20 mr295 (by decide) rfl
theorem c19_3 {X : zX} {l : Launch} : zCall X l 6 0 0 151 [.ref 6, .int (105 : Int32)] zMc (fun r _ => r = some (.int (-1 : Int32))) := by
  refine zs_in (by decide) mf151 (Nat.le_of_ble_eq_true rfl) ?_
  show zGo X l 6 0 0 151 0 [(0, .ref 6), (1, .int (105 : Int32))] [] zMc _
  refine zs_iload_n (pc := 0) t151_0 rfl ?_
  refine zs_tswI (pc := 1) t151_1 li105 (by decide) rfl (pc2 := 205) rfl ?_
  refine zs_iconst (pc := 205) t151_205 (v := -1) (by decide) ?_
  exact zs_iret (pc := 206) t151_206 mr151 (by decide) rfl
theorem m19_3 {X : zX} {l : Launch} : zCall X l 8 0 0 295 [.ref 336, .int (105 : Int32)] zMm (fun r _ => r = some (.int (-1 : Int32))) := by
  refine zs_in (by decide) mf295 (Nat.le_of_ble_eq_true rfl) ?_
  show zGo X l 8 0 0 295 0 [(0, .ref 336), (1, .int (105 : Int32))] [] zMm _
  refine zs_iload_n (pc := 0) t295_0 rfl ?_
  refine zs_invS (pc := 1) (as := [.int (105 : Int32)]) (st := []) t295_1 (by decide) mf260 rfl rfl ⟨by decide, by decide, Nat.le_of_ble_eq_true rfl, Nat.le_of_ble_eq_true rfl⟩ (zs_in (by decide) mf260 (Nat.le_of_ble_eq_true rfl) ?_) (fun _ _ q => q)
  show zGo X l 0 0 0 260 0 [(0, .int (105 : Int32))] [] zMm _
  refine zs_iload_n (pc := 0) t260_0 rfl ?_
  refine zs_tswI (pc := 1) t260_1 li105 (by decide) rfl (pc2 := 98) rfl ?_
  refine zs_iconst (pc := 98) t260_98 (v := -1) (by decide) ?_
  refine zs_iret (pc := 99) t260_99 mr260 (by decide) ?_
  show zGo X l 8 0 0 295 4 [(0, .ref 336), (1, .int (105 : Int32))] [.int (-1 : Int32)] zMm _
  refine zs_iconst (pc := 4) t295_4 (v := -1) (by decide) ?_
  refine zs_icmp_neF (pc := 5) t295_5 lin1 lin1 (by decide) ?_
  refine zs_iconst (pc := 8) t295_8 (v := -1) (by decide) ?_
  refine zs_goto (pc := 9) t295_9 ?_
  exact zs_iret (pc := 20) t295_20 mr295 (by decide) rfl
theorem c19_4 {X : zX} {l : Launch} : zCall X l 6 0 0 151 [.ref 6, .int (106 : Int32)] zMc (fun r _ => r = some (.int (-1 : Int32))) := by
  refine zs_in (by decide) mf151 (Nat.le_of_ble_eq_true rfl) ?_
  show zGo X l 6 0 0 151 0 [(0, .ref 6), (1, .int (106 : Int32))] [] zMc _
  refine zs_iload_n (pc := 0) t151_0 rfl ?_
  refine zs_tswI (pc := 1) t151_1 li106 (by decide) rfl (pc2 := 205) rfl ?_
  refine zs_iconst (pc := 205) t151_205 (v := -1) (by decide) ?_
  exact zs_iret (pc := 206) t151_206 mr151 (by decide) rfl
theorem m19_4 {X : zX} {l : Launch} : zCall X l 8 0 0 295 [.ref 336, .int (106 : Int32)] zMm (fun r _ => r = some (.int (-1 : Int32))) := by
  refine zs_in (by decide) mf295 (Nat.le_of_ble_eq_true rfl) ?_
  show zGo X l 8 0 0 295 0 [(0, .ref 336), (1, .int (106 : Int32))] [] zMm _
  refine zs_iload_n (pc := 0) t295_0 rfl ?_
  refine zs_invS (pc := 1) (as := [.int (106 : Int32)]) (st := []) t295_1 (by decide) mf260 rfl rfl ⟨by decide, by decide, Nat.le_of_ble_eq_true rfl, Nat.le_of_ble_eq_true rfl⟩ (zs_in (by decide) mf260 (Nat.le_of_ble_eq_true rfl) ?_) (fun _ _ q => q)
  show zGo X l 0 0 0 260 0 [(0, .int (106 : Int32))] [] zMm _
  refine zs_iload_n (pc := 0) t260_0 rfl ?_
  refine zs_tswI (pc := 1) t260_1 li106 (by decide) rfl (pc2 := 98) rfl ?_
  refine zs_iconst (pc := 98) t260_98 (v := -1) (by decide) ?_
  refine zs_iret (pc := 99) t260_99 mr260 (by decide) ?_
  show zGo X l 8 0 0 295 4 [(0, .ref 336), (1, .int (106 : Int32))] [.int (-1 : Int32)] zMm _
  refine zs_iconst (pc := 4) t295_4 (v := -1) (by decide) ?_
  refine zs_icmp_neF (pc := 5) t295_5 lin1 lin1 (by decide) ?_
  refine zs_iconst (pc := 8) t295_8 (v := -1) (by decide) ?_
  refine zs_goto (pc := 9) t295_9 ?_
  exact zs_iret (pc := 20) t295_20 mr295 (by decide) rfl
theorem c19_5 {X : zX} {l : Launch} : zCall X l 6 0 0 151 [.ref 6, .int (107 : Int32)] zMc (fun r _ => r = some (.int (-1 : Int32))) := by
  refine zs_in (by decide) mf151 (Nat.le_of_ble_eq_true rfl) ?_
  show zGo X l 6 0 0 151 0 [(0, .ref 6), (1, .int (107 : Int32))] [] zMc _
  refine zs_iload_n (pc := 0) t151_0 rfl ?_
  refine zs_tswI (pc := 1) t151_1 li107 (by decide) rfl (pc2 := 205) rfl ?_
  refine zs_iconst (pc := 205) t151_205 (v := -1) (by decide) ?_
  exact zs_iret (pc := 206) t151_206 mr151 (by decide) rfl
theorem m19_5 {X : zX} {l : Launch} : zCall X l 8 0 0 295 [.ref 336, .int (107 : Int32)] zMm (fun r _ => r = some (.int (-1 : Int32))) := by
  refine zs_in (by decide) mf295 (Nat.le_of_ble_eq_true rfl) ?_
  show zGo X l 8 0 0 295 0 [(0, .ref 336), (1, .int (107 : Int32))] [] zMm _
  refine zs_iload_n (pc := 0) t295_0 rfl ?_
  refine zs_invS (pc := 1) (as := [.int (107 : Int32)]) (st := []) t295_1 (by decide) mf260 rfl rfl ⟨by decide, by decide, Nat.le_of_ble_eq_true rfl, Nat.le_of_ble_eq_true rfl⟩ (zs_in (by decide) mf260 (Nat.le_of_ble_eq_true rfl) ?_) (fun _ _ q => q)
  show zGo X l 0 0 0 260 0 [(0, .int (107 : Int32))] [] zMm _
  refine zs_iload_n (pc := 0) t260_0 rfl ?_
  refine zs_tswI (pc := 1) t260_1 li107 (by decide) rfl (pc2 := 98) rfl ?_
  refine zs_iconst (pc := 98) t260_98 (v := -1) (by decide) ?_
  refine zs_iret (pc := 99) t260_99 mr260 (by decide) ?_
  show zGo X l 8 0 0 295 4 [(0, .ref 336), (1, .int (107 : Int32))] [.int (-1 : Int32)] zMm _
  refine zs_iconst (pc := 4) t295_4 (v := -1) (by decide) ?_
  refine zs_icmp_neF (pc := 5) t295_5 lin1 lin1 (by decide) ?_
  refine zs_iconst (pc := 8) t295_8 (v := -1) (by decide) ?_
  refine zs_goto (pc := 9) t295_9 ?_
  exact zs_iret (pc := 20) t295_20 mr295 (by decide) rfl
theorem c19_6 {X : zX} {l : Launch} : zCall X l 6 0 0 151 [.ref 6, .int (108 : Int32)] zMc (fun r _ => r = some (.int (0 : Int32))) := by
  refine zs_in (by decide) mf151 (Nat.le_of_ble_eq_true rfl) ?_
  show zGo X l 6 0 0 151 0 [(0, .ref 6), (1, .int (108 : Int32))] [] zMc _
  refine zs_iload_n (pc := 0) t151_0 rfl ?_
  refine zs_tswI (pc := 1) t151_1 li108 (by decide) rfl (pc2 := 159) rfl ?_
  refine zs_aload_n (pc := 159) t151_159 rfl ?_
  refine zs_get (pc := 160) t151_160 (by decide) (zk1 fk_zMc_6) fv_zMc_6_0 ?_
  refine zs_invV (pc := 163) (k := 7) (as' := []) (st := []) t151_163 mf100 rfl rfl (Or.inl ⟨by decide, (zk1 fk_zMc_7)⟩) ⟨by decide, by decide, Nat.le_of_ble_eq_true rfl, Nat.le_of_ble_eq_true rfl⟩ (zs_in (by decide) mf100 (Nat.le_of_ble_eq_true rfl) ?_) (fun _ _ q => q)
  show zGo X l 0 0 0 100 0 [(0, .ref 7)] [] zMc _
  refine zs_iconst (pc := 0) t100_0 (v := 0) (by decide) ?_
  refine zs_istore_n (pc := 1) t100_1 (ls' := [(1, .int (0 : Int32)), (0, .ref 7)]) (zml mf100 (by decide)) rfl ?_
  refine zs_iconst (pc := 2) t100_2 (v := 0) (by decide) ?_
  refine zs_istore_n (pc := 3) t100_3 (ls' := [(2, .int (0 : Int32)), (1, .int (0 : Int32)), (0, .ref 7)]) (zml mf100 (by decide)) rfl ?_
  refine zs_iload_n (pc := 4) t100_4 rfl ?_
  refine zs_aload_n (pc := 5) t100_5 rfl ?_
  refine zs_get (pc := 6) t100_6 (by decide) (zk1 fk_zMc_7) fv_zMc_7_0 ?_
  refine zs_icmp_geT (pc := 9) t100_9 li0 li0 (by decide) ?_
  refine zs_iload_n (pc := 30) t100_30 rfl ?_
  refine zs_iret (pc := 31) t100_31 mr100 (by decide) ?_
  show zGo X l 6 0 0 151 166 [(0, .ref 6), (1, .int (108 : Int32))] [.int (0 : Int32)] zMc _
  exact zs_iret (pc := 166) t151_166 mr151 (by decide) rfl
theorem m19_6 {X : zX} {l : Launch} : zCall X l 8 0 0 295 [.ref 336, .int (108 : Int32)] zMm (fun r _ => r = some (.int (0 : Int32))) := by
  refine zs_in (by decide) mf295 (Nat.le_of_ble_eq_true rfl) ?_
  show zGo X l 8 0 0 295 0 [(0, .ref 336), (1, .int (108 : Int32))] [] zMm _
  refine zs_iload_n (pc := 0) t295_0 rfl ?_
  refine zs_invS (pc := 1) (as := [.int (108 : Int32)]) (st := []) t295_1 (by decide) mf260 rfl rfl ⟨by decide, by decide, Nat.le_of_ble_eq_true rfl, Nat.le_of_ble_eq_true rfl⟩ (zs_in (by decide) mf260 (Nat.le_of_ble_eq_true rfl) ?_) (fun _ _ q => q)
  show zGo X l 0 0 0 260 0 [(0, .int (108 : Int32))] [] zMm _
  refine zs_iload_n (pc := 0) t260_0 rfl ?_
  refine zs_tswI (pc := 1) t260_1 li108 (by decide) rfl (pc2 := 90) rfl ?_
  refine zs_iconst (pc := 90) t260_90 (v := 5) (by decide) ?_
  refine zs_iret (pc := 91) t260_91 mr260 (by decide) ?_
  show zGo X l 8 0 0 295 4 [(0, .ref 336), (1, .int (108 : Int32))] [.int (5 : Int32)] zMm _
  refine zs_iconst (pc := 4) t295_4 (v := -1) (by decide) ?_
  refine zs_icmp_neT (pc := 5) t295_5 li5 lin1 (by decide) ?_
  refine zs_aload_n (pc := 12) t295_12 rfl ?_
  refine zs_iload_n (pc := 13) t295_13 rfl ?_
  refine zs_invS (pc := 14) (as := [.int (108 : Int32)]) (st := [.ref 336]) t295_14 (by decide) mf260 rfl rfl ⟨by decide, by decide, Nat.le_of_ble_eq_true rfl, Nat.le_of_ble_eq_true rfl⟩ (zs_in (by decide) mf260 (Nat.le_of_ble_eq_true rfl) ?_) (fun _ _ q => q)
  show zGo X l 0 0 0 260 0 [(0, .int (108 : Int32))] [] zMm _
  refine zs_iload_n (pc := 0) t260_0 rfl ?_
  refine zs_tswI (pc := 1) t260_1 li108 (by decide) rfl (pc2 := 90) rfl ?_
  refine zs_iconst (pc := 90) t260_90 (v := 5) (by decide) ?_
  refine zs_iret (pc := 91) t260_91 mr260 (by decide) ?_
  show zGo X l 8 0 0 295 17 [(0, .ref 336), (1, .int (108 : Int32))] [.int (5 : Int32), .ref 336] zMm _
  refine zs_invV (pc := 17) (k := 336) (as' := [.int (5 : Int32)]) (st := []) t295_17 mf267 rfl rfl (Or.inl ⟨by decide, (zk1 fk_zMm_336)⟩) ⟨by decide, by decide, Nat.le_of_ble_eq_true rfl, Nat.le_of_ble_eq_true rfl⟩ (zs_in (by decide) mf267 (Nat.le_of_ble_eq_true rfl) ?_) (fun _ _ q => q)
  show zGo X l 7 0 0 267 0 [(0, .ref 336), (1, .int (5 : Int32))] [] zMm _
  refine zs_aload_n (pc := 0) t267_0 rfl ?_
  refine zs_invV (pc := 1) (k := 336) (as' := []) (st := []) t267_1 mf268 rfl rfl (Or.inl ⟨by decide, (zk1 fk_zMm_336)⟩) ⟨by decide, by decide, Nat.le_of_ble_eq_true rfl, Nat.le_of_ble_eq_true rfl⟩ (cc2 (X := X) (l := l)) ?_
  rintro r M2 ⟨rfl, M2k336, M2v336_22, M2v336_39, M2v336_37, M2v336_0, M2k337, M2a337_1, M2v336_26, M2v336_34, M2a337_0, -⟩
  show zGo X l 7 0 0 267 4 [(0, .ref 336), (1, .int (5 : Int32))] [] M2 _
  refine zs_iload_n (pc := 4) t267_4 rfl ?_
  refine zs_tswI (pc := 5) t267_5 li5 (by decide) rfl (pc2 := 82) rfl ?_
  refine zs_aload_n (pc := 82) t267_82 rfl ?_
  refine zs_invV (pc := 83) (k := 336) (as' := []) (st := []) t267_83 mf292 rfl rfl (Or.inl ⟨by decide, (zk1 M2k336)⟩) ⟨by decide, by decide, Nat.le_of_ble_eq_true rfl, Nat.le_of_ble_eq_true rfl⟩ (zs_in (by decide) mf292 (Nat.le_of_ble_eq_true rfl) ?_) (fun _ _ q => q)
  show zGo X l 1 0 0 292 0 [(0, .ref 336)] [] M2 _
  refine zs_iconst (pc := 0) t292_0 (v := 0) (by decide) ?_
  refine zs_istore_n (pc := 1) t292_1 (ls' := [(1, .int (0 : Int32)), (0, .ref 336)]) (zml mf292 (by decide)) rfl ?_
  refine zs_iconst (pc := 2) t292_2 (v := 0) (by decide) ?_
  refine zs_istore_n (pc := 3) t292_3 (ls' := [(2, .int (0 : Int32)), (1, .int (0 : Int32)), (0, .ref 336)]) (zml mf292 (by decide)) rfl ?_
  refine zs_iload_n (pc := 4) t292_4 rfl ?_
  refine zs_aload_n (pc := 5) t292_5 rfl ?_
  refine zs_get (pc := 6) t292_6 (by decide) (zk1 M2k336) M2v336_0 ?_
  refine zs_iconst (pc := 9) t292_9 (v := 0) (by decide) ?_
  refine zs_iald (pc := 10) t292_10 (j := 0) (by decide) (zk1 M2k337) (by decide) (zk2 M2k337 (by decide)) M2a337_0 ?_
  refine zs_icmp_geT (pc := 11) t292_11 li0 li0 (by decide) ?_
  refine zs_iload_n (pc := 36) t292_36 rfl ?_
  refine zs_iret (pc := 37) t292_37 mr292 (by decide) ?_
  show zGo X l 7 0 0 267 86 [(0, .ref 336), (1, .int (5 : Int32))] [.int (0 : Int32)] M2 _
  refine zs_iret (pc := 86) t267_86 mr267 (by decide) ?_
  show zGo X l 8 0 0 295 20 [(0, .ref 336), (1, .int (108 : Int32))] [.int (0 : Int32)] M2 _
  exact zs_iret (pc := 20) t295_20 mr295 (by decide) rfl
