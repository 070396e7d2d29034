theorem c19_7 {X : zX} {l : Launch} : zCall X l 6 0 0 151 [.ref 6, .int (109 : Int32)] zMc (fun r _ => r = some (.int (0 : Int32))) := by
  refine zs_in (by decide) mf151 (Nat.le_of_ble_eq_true rfl) ?_
  show zGo X l 6 0 0 151 0 [(0, .ref 6), (1, .int (109 : Int32))] [] zMc _
  refine zs_iload_n (pc := 0) t151_0 rfl ?_
  refine zs_tswI (pc := 1) t151_1 li109 (by decide) rfl (pc2 := 144) rfl ?_
  refine zs_aload_n (pc := 144) t151_144 rfl ?_
  refine zs_get (pc := 145) t151_145 (by decide) (zk1 fk_zMc_6) fv_zMc_6_6 ?_
  refine zs_aload_n (pc := 148) t151_148 rfl ?_
  refine zs_get (pc := 149) t151_149 (by decide) (zk1 fk_zMc_6) fv_zMc_6_0 ?_
  refine zs_invV (pc := 152) (k := 164) (as' := [.ref 7]) (st := []) t151_152 mf105 rfl rfl (Or.inl ⟨by decide, (zk1 fk_zMc_164)⟩) ⟨by decide, by decide, Nat.le_of_ble_eq_true rfl, Nat.le_of_ble_eq_true rfl⟩ (cc1 (X := X) (l := l)) ?_
  rintro r M1 ⟨rfl, M1k164, M1v164_4, M1k325, M1rM3, M1v164_9, M1v164_1, M1k165, M1rM4, M1k6, M1v6_6, -⟩
  show zGo X l 6 0 0 151 155 [(0, .ref 6), (1, .int (109 : Int32))] [.ref 164] M1 _
  refine zs_invV (pc := 155) (k := 164) (as' := []) (st := []) t151_155 mf166 rfl rfl (Or.inl ⟨by decide, (zk1 M1k164)⟩) ⟨by decide, by decide, Nat.le_of_ble_eq_true rfl, Nat.le_of_ble_eq_true rfl⟩ (zs_in (by decide) mf166 (Nat.le_of_ble_eq_true rfl) ?_) (fun _ _ q => q)
  show zGo X l 2 0 0 166 0 [(0, .ref 164)] [] M1 _
  refine zs_aload_n (pc := 0) t166_0 rfl ?_
  refine zs_iconst (pc := 1) t166_1 (v := 0) (by decide) ?_
  refine zs_invV (pc := 2) (k := 164) (as' := [.int (0 : Int32)]) (st := []) t166_2 mf163 rfl rfl (Or.inl ⟨by decide, (zk1 M1k164)⟩) ⟨by decide, by decide, Nat.le_of_ble_eq_true rfl, Nat.le_of_ble_eq_true rfl⟩ (zs_in (by decide) mf163 (Nat.le_of_ble_eq_true rfl) ?_) (fun _ _ q => q)
  show zGo X l 1 0 0 163 0 [(0, .ref 164), (1, .int (0 : Int32))] [] M1 _
  refine zs_iload_n (pc := 0) t163_0 rfl ?_
  refine zs_aload_n (pc := 1) t163_1 rfl ?_
  refine zs_get (pc := 2) t163_2 (by decide) (zk1 M1k164) M1v164_4 ?_
  refine zs_icmp_geT (pc := 5) t163_5 li0 li0 (by decide) ?_
  refine zs_aconst_null (pc := 19) t163_19 ?_
  refine zs_aret0 (pc := 20) t163_20 (by rw [mr163]; rfl) ?_
  show zGo X l 2 0 0 166 5 [(0, .ref 164)] [.null] M1 _
  refine zs_astore_n0 (pc := 5) t166_5 (ls' := [(1, .null), (0, .ref 164)]) (zml mf166 (by decide)) rfl ?_
  refine zs_aload_n0 (pc := 6) t166_6 rfl ?_
  refine zs_ifnonnullF (pc := 7) t166_7 ?_
  refine zs_iconst (pc := 10) t166_10 (v := 0) (by decide) ?_
  refine zs_goto (pc := 11) t166_11 ?_
  refine zs_iret (pc := 18) t166_18 mr166 (by decide) ?_
  show zGo X l 6 0 0 151 158 [(0, .ref 6), (1, .int (109 : Int32))] [.int (0 : Int32)] M1 _
  exact zs_iret (pc := 158) t151_158 mr151 (by decide) rfl
theorem m19_7 {X : zX} {l : Launch} : zCall X l 8 0 0 295 [.ref 336, .int (109 : Int32)] zMm (fun r _ => r = some (.int (0 : Int32))) := by
  refine zs_in (by decide) mf295 (Nat.le_of_ble_eq_true rfl) ?_
  show zGo X l 8 0 0 295 0 [(0, .ref 336), (1, .int (109 : Int32))] [] zMm _
  refine zs_iload_n (pc := 0) t295_0 rfl ?_
  refine zs_invS (pc := 1) (as := [.int (109 : Int32)]) (st := []) t295_1 (by decide) mf260 rfl rfl ⟨by decide, by decide, Nat.le_of_ble_eq_true rfl, Nat.le_of_ble_eq_true rfl⟩ (zs_in (by decide) mf260 (Nat.le_of_ble_eq_true rfl) ?_) (fun _ _ q => q)
  show zGo X l 0 0 0 260 0 [(0, .int (109 : Int32))] [] zMm _
  refine zs_iload_n (pc := 0) t260_0 rfl ?_
  refine zs_tswI (pc := 1) t260_1 li109 (by decide) rfl (pc2 := 88) rfl ?_
  refine zs_iconst (pc := 88) t260_88 (v := 4) (by decide) ?_
  refine zs_iret (pc := 89) t260_89 mr260 (by decide) ?_
  show zGo X l 8 0 0 295 4 [(0, .ref 336), (1, .int (109 : Int32))] [.int (4 : Int32)] zMm _
  refine zs_iconst (pc := 4) t295_4 (v := -1) (by decide) ?_
  refine zs_icmp_neT (pc := 5) t295_5 li4 lin1 (by decide) ?_
  refine zs_aload_n (pc := 12) t295_12 rfl ?_
  refine zs_iload_n (pc := 13) t295_13 rfl ?_
  refine zs_invS (pc := 14) (as := [.int (109 : Int32)]) (st := [.ref 336]) t295_14 (by decide) mf260 rfl rfl ⟨by decide, by decide, Nat.le_of_ble_eq_true rfl, Nat.le_of_ble_eq_true rfl⟩ (zs_in (by decide) mf260 (Nat.le_of_ble_eq_true rfl) ?_) (fun _ _ q => q)
  show zGo X l 0 0 0 260 0 [(0, .int (109 : Int32))] [] zMm _
  refine zs_iload_n (pc := 0) t260_0 rfl ?_
  refine zs_tswI (pc := 1) t260_1 li109 (by decide) rfl (pc2 := 88) rfl ?_
  refine zs_iconst (pc := 88) t260_88 (v := 4) (by decide) ?_
  refine zs_iret (pc := 89) t260_89 mr260 (by decide) ?_
  show zGo X l 8 0 0 295 17 [(0, .ref 336), (1, .int (109 : Int32))] [.int (4 : Int32), .ref 336] zMm _
  refine zs_invV (pc := 17) (k := 336) (as' := [.int (4 : Int32)]) (st := []) t295_17 mf267 rfl rfl (Or.inl ⟨by decide, (zk1 fk_zMm_336)⟩) ⟨by decide, by decide, Nat.le_of_ble_eq_true rfl, Nat.le_of_ble_eq_true rfl⟩ (zs_in (by decide) mf267 (Nat.le_of_ble_eq_true rfl) ?_) (fun _ _ q => q)
  show zGo X l 7 0 0 267 0 [(0, .ref 336), (1, .int (4 : Int32))] [] zMm _
  refine zs_aload_n (pc := 0) t267_0 rfl ?_
  refine zs_invV (pc := 1) (k := 336) (as' := []) (st := []) t267_1 mf268 rfl rfl (Or.inl ⟨by decide, (zk1 fk_zMm_336)⟩) ⟨by decide, by decide, Nat.le_of_ble_eq_true rfl, Nat.le_of_ble_eq_true rfl⟩ (cc2 (X := X) (l := l)) ?_
  rintro r M2 ⟨rfl, M2k336, M2v336_22, M2v336_39, M2v336_37, M2v336_0, M2k337, M2a337_1, M2v336_26, M2v336_34, M2a337_0, -⟩
  show zGo X l 7 0 0 267 4 [(0, .ref 336), (1, .int (4 : Int32))] [] M2 _
  refine zs_iload_n (pc := 4) t267_4 rfl ?_
  refine zs_tswI (pc := 5) t267_5 li4 (by decide) rfl (pc2 := 69) rfl ?_
  refine zs_aload_n (pc := 69) t267_69 rfl ?_
  refine zs_aload_n (pc := 70) t267_70 rfl ?_
  refine zs_get (pc := 71) t267_71 (by decide) (zk1 M2k336) M2v336_26 ?_
  refine zs_aload_n (pc := 74) t267_74 rfl ?_
  refine zs_get (pc := 75) t267_75 (by decide) (zk1 M2k336) M2v336_22 ?_
  refine zs_invV (pc := 78) (k := 336) (as' := [.ref 348, .int (0 : Int32)]) (st := []) t267_78 mf291 rfl rfl (Or.inl ⟨by decide, (zk1 M2k336)⟩) ⟨by decide, by decide, Nat.le_of_ble_eq_true rfl, Nat.le_of_ble_eq_true rfl⟩ (zs_in (by decide) mf291 (Nat.le_of_ble_eq_true rfl) ?_) (fun _ _ q => q)
  show zGo X l 0 0 0 291 0 [(0, .ref 336), (1, .ref 348), (2, .int (0 : Int32))] [] M2 _
  refine zs_iconst (pc := 0) t291_0 (v := 0) (by decide) ?_
  refine zs_istore_n (pc := 1) t291_1 (ls' := [(3, .int (0 : Int32)), (0, .ref 336), (1, .ref 348), (2, .int (0 : Int32))]) (zml mf291 (by decide)) rfl ?_
  refine zs_iconst (pc := 2) t291_2 (v := 0) (by decide) ?_
  refine zs_istore (pc := 3) t291_3 (ls' := [(4, .int (0 : Int32)), (3, .int (0 : Int32)), (0, .ref 336), (1, .ref 348), (2, .int (0 : Int32))]) (zml mf291 (by decide)) rfl ?_
  refine zs_iload (pc := 5) t291_5 rfl ?_
  refine zs_iload_n (pc := 7) t291_7 rfl ?_
  refine zs_icmp_geT (pc := 8) t291_8 li0 li0 (by decide) ?_
  refine zs_iload_n (pc := 34) t291_34 rfl ?_
  refine zs_iret (pc := 35) t291_35 mr291 (by decide) ?_
  show zGo X l 7 0 0 267 81 [(0, .ref 336), (1, .int (4 : Int32))] [.int (0 : Int32)] M2 _
  refine zs_iret (pc := 81) t267_81 mr267 (by decide) ?_
  show zGo X l 8 0 0 295 20 [(0, .ref 336), (1, .int (109 : Int32))] [.int (0 : Int32)] M2 _
  exact zs_iret (pc := 20) t295_20 mr295 (by decide) rfl
theorem c19_8 {X : zX} {l : Launch} : zCall X l 6 0 0 151 [.ref 6, .int (110 : Int32)] zMc (fun r _ => r = some (.int (0 : Int32))) := by
  refine zs_in (by decide) mf151 (Nat.le_of_ble_eq_true rfl) ?_
  show zGo X l 6 0 0 151 0 [(0, .ref 6), (1, .int (110 : Int32))] [] zMc _
  refine zs_iload_n (pc := 0) t151_0 rfl ?_
  refine zs_tswI (pc := 1) t151_1 li110 (by decide) rfl (pc2 := 80) rfl ?_
  refine zs_aload_n (pc := 80) t151_80 rfl ?_
  refine zs_get (pc := 81) t151_81 (by decide) (zk1 fk_zMc_6) fv_zMc_6_6 ?_
  refine zs_aload_n (pc := 84) t151_84 rfl ?_
  refine zs_get (pc := 85) t151_85 (by decide) (zk1 fk_zMc_6) fv_zMc_6_0 ?_
  refine zs_invV (pc := 88) (k := 164) (as' := [.ref 7]) (st := []) t151_88 mf105 rfl rfl (Or.inl ⟨by decide, (zk1 fk_zMc_164)⟩) ⟨by decide, by decide, Nat.le_of_ble_eq_true rfl, Nat.le_of_ble_eq_true rfl⟩ (cc1 (X := X) (l := l)) ?_
  rintro r M1 ⟨rfl, M1k164, M1v164_4, M1k325, M1rM3, M1v164_9, M1v164_1, M1k165, M1rM4, M1k6, M1v6_6, -⟩
  show zGo X l 6 0 0 151 91 [(0, .ref 6), (1, .int (110 : Int32))] [.ref 164] M1 _
  refine zs_invV (pc := 91) (k := 164) (as' := []) (st := []) t151_91 mf144 rfl rfl (Or.inl ⟨by decide, (zk1 M1k164)⟩) ⟨by decide, by decide, Nat.le_of_ble_eq_true rfl, Nat.le_of_ble_eq_true rfl⟩ (zs_in (by decide) mf144 (Nat.le_of_ble_eq_true rfl) ?_) (fun _ _ q => q)
  show zGo X l 0 0 0 144 0 [(0, .ref 164)] [] M1 _
  refine zs_aload_n (pc := 0) t144_0 rfl ?_
  refine zs_get (pc := 1) t144_1 (by decide) (zk1 M1k164) M1v164_4 ?_
  refine zs_iret (pc := 4) t144_4 mr144 (by decide) ?_
  show zGo X l 6 0 0 151 94 [(0, .ref 6), (1, .int (110 : Int32))] [.int (0 : Int32)] M1 _
  exact zs_iret (pc := 94) t151_94 mr151 (by decide) rfl
theorem m19_8 {X : zX} {l : Launch} : zCall X l 8 0 0 295 [.ref 336, .int (110 : Int32)] zMm (fun r _ => r = some (.int (0 : Int32))) := by
  refine zs_in (by decide) mf295 (Nat.le_of_ble_eq_true rfl) ?_
  show zGo X l 8 0 0 295 0 [(0, .ref 336), (1, .int (110 : Int32))] [] zMm _
  refine zs_iload_n (pc := 0) t295_0 rfl ?_
  refine zs_invS (pc := 1) (as := [.int (110 : Int32)]) (st := []) t295_1 (by decide) mf260 rfl rfl ⟨by decide, by decide, Nat.le_of_ble_eq_true rfl, Nat.le_of_ble_eq_true rfl⟩ (zs_in (by decide) mf260 (Nat.le_of_ble_eq_true rfl) ?_) (fun _ _ q => q)
  show zGo X l 0 0 0 260 0 [(0, .int (110 : Int32))] [] zMm _
  refine zs_iload_n (pc := 0) t260_0 rfl ?_
  refine zs_tswI (pc := 1) t260_1 li110 (by decide) rfl (pc2 := 80) rfl ?_
  refine zs_iconst (pc := 80) t260_80 (v := 0) (by decide) ?_
  refine zs_iret (pc := 81) t260_81 mr260 (by decide) ?_
  show zGo X l 8 0 0 295 4 [(0, .ref 336), (1, .int (110 : Int32))] [.int (0 : Int32)] zMm _
  refine zs_iconst (pc := 4) t295_4 (v := -1) (by decide) ?_
  refine zs_icmp_neT (pc := 5) t295_5 li0 lin1 (by decide) ?_
  refine zs_aload_n (pc := 12) t295_12 rfl ?_
  refine zs_iload_n (pc := 13) t295_13 rfl ?_
  refine zs_invS (pc := 14) (as := [.int (110 : Int32)]) (st := [.ref 336]) t295_14 (by decide) mf260 rfl rfl ⟨by decide, by decide, Nat.le_of_ble_eq_true rfl, Nat.le_of_ble_eq_true rfl⟩ (zs_in (by decide) mf260 (Nat.le_of_ble_eq_true rfl) ?_) (fun _ _ q => q)
  show zGo X l 0 0 0 260 0 [(0, .int (110 : Int32))] [] zMm _
  refine zs_iload_n (pc := 0) t260_0 rfl ?_
  refine zs_tswI (pc := 1) t260_1 li110 (by decide) rfl (pc2 := 80) rfl ?_
  refine zs_iconst (pc := 80) t260_80 (v := 0) (by decide) ?_
  refine zs_iret (pc := 81) t260_81 mr260 (by decide) ?_
  show zGo X l 8 0 0 295 17 [(0, .ref 336), (1, .int (110 : Int32))] [.int (0 : Int32), .ref 336] zMm _
  refine zs_invV (pc := 17) (k := 336) (as' := [.int (0 : Int32)]) (st := []) t295_17 mf267 rfl rfl (Or.inl ⟨by decide, (zk1 fk_zMm_336)⟩) ⟨by decide, by decide, Nat.le_of_ble_eq_true rfl, Nat.le_of_ble_eq_true rfl⟩ (zs_in (by decide) mf267 (Nat.le_of_ble_eq_true rfl) ?_) (fun _ _ q => q)
  show zGo X l 7 0 0 267 0 [(0, .ref 336), (1, .int (0 : Int32))] [] zMm _
  refine zs_aload_n (pc := 0) t267_0 rfl ?_
  refine zs_invV (pc := 1) (k := 336) (as' := []) (st := []) t267_1 mf268 rfl rfl (Or.inl ⟨by decide, (zk1 fk_zMm_336)⟩) ⟨by decide, by decide, Nat.le_of_ble_eq_true rfl, Nat.le_of_ble_eq_true rfl⟩ (cc2 (X := X) (l := l)) ?_
  rintro r M2 ⟨rfl, M2k336, M2v336_22, M2v336_39, M2v336_37, M2v336_0, M2k337, M2a337_1, M2v336_26, M2v336_34, M2a337_0, -⟩
  show zGo X l 7 0 0 267 4 [(0, .ref 336), (1, .int (0 : Int32))] [] M2 _
  refine zs_iload_n (pc := 4) t267_4 rfl ?_
  refine zs_tswI (pc := 5) t267_5 li0 (by decide) rfl (pc2 := 48) rfl ?_
  refine zs_aload_n (pc := 48) t267_48 rfl ?_
  refine zs_get (pc := 49) t267_49 (by decide) (zk1 M2k336) M2v336_22 ?_
  refine zs_iret (pc := 52) t267_52 mr267 (by decide) ?_
  show zGo X l 8 0 0 295 20 [(0, .ref 336), (1, .int (110 : Int32))] [.int (0 : Int32)] M2 _
  exact zs_iret (pc := 20) t295_20 mr295 (by decide) rfl
theorem c19_9 {X : zX} {l : Launch} : zCall X l 6 0 0 151 [.ref 6, .int (111 : Int32)] zMc (fun r _ => r = some (.int (0 : Int32))) := by
  refine zs_in (by decide) mf151 (Nat.le_of_ble_eq_true rfl) ?_
  show zGo X l 6 0 0 151 0 [(0, .ref 6), (1, .int (111 : Int32))] [] zMc _
  refine zs_iload_n (pc := 0) t151_0 rfl ?_
  refine zs_tswI (pc := 1) t151_1 li111 (by decide) rfl (pc2 := 190) rfl ?_
  refine zs_aload_n (pc := 190) t151_190 rfl ?_
  refine zs_get (pc := 191) t151_191 (by decide) (zk1 fk_zMc_6) fv_zMc_6_6 ?_
  refine zs_aload_n (pc := 194) t151_194 rfl ?_
  refine zs_get (pc := 195) t151_195 (by decide) (zk1 fk_zMc_6) fv_zMc_6_0 ?_
  refine zs_invV (pc := 198) (k := 164) (as' := [.ref 7]) (st := []) t151_198 mf105 rfl rfl (Or.inl ⟨by decide, (zk1 fk_zMc_164)⟩) ⟨by decide, by decide, Nat.le_of_ble_eq_true rfl, Nat.le_of_ble_eq_true rfl⟩ (cc1 (X := X) (l := l)) ?_
  rintro r M1 ⟨rfl, M1k164, M1v164_4, M1k325, M1rM3, M1v164_9, M1v164_1, M1k165, M1rM4, M1k6, M1v6_6, -⟩
  show zGo X l 6 0 0 151 201 [(0, .ref 6), (1, .int (111 : Int32))] [.ref 164] M1 _
  refine zs_invV (pc := 201) (k := 164) (as' := []) (st := []) t151_201 mf168 rfl rfl (Or.inl ⟨by decide, (zk1 M1k164)⟩) ⟨by decide, by decide, Nat.le_of_ble_eq_true rfl, Nat.le_of_ble_eq_true rfl⟩ (zs_in (by decide) mf168 (Nat.le_of_ble_eq_true rfl) ?_) (fun _ _ q => q)
  show zGo X l 1 0 0 168 0 [(0, .ref 164)] [] M1 _
  refine zs_iconst (pc := 0) t168_0 (v := 0) (by decide) ?_
  refine zs_istore_n (pc := 1) t168_1 (ls' := [(1, .int (0 : Int32)), (0, .ref 164)]) (zml mf168 (by decide)) rfl ?_
  refine zs_iconst (pc := 2) t168_2 (v := 0) (by decide) ?_
  refine zs_istore_n (pc := 3) t168_3 (ls' := [(2, .int (0 : Int32)), (1, .int (0 : Int32)), (0, .ref 164)]) (zml mf168 (by decide)) rfl ?_
  refine zs_iload_n (pc := 4) t168_4 rfl ?_
  refine zs_aload_n (pc := 5) t168_5 rfl ?_
  refine zs_get (pc := 6) t168_6 (by decide) (zk1 M1k164) M1v164_9 ?_
  refine zs_icmp_geT (pc := 9) t168_9 li0 li0 (by decide) ?_
  refine zs_iload_n (pc := 29) t168_29 rfl ?_
  refine zs_iret (pc := 30) t168_30 mr168 (by decide) ?_
  show zGo X l 6 0 0 151 204 [(0, .ref 6), (1, .int (111 : Int32))] [.int (0 : Int32)] M1 _
  exact zs_iret (pc := 204) t151_204 mr151 (by decide) rfl
theorem m19_9 {X : zX} {l : Launch} : zCall X l 8 0 0 295 [.ref 336, .int (111 : Int32)] zMm (fun r _ => r = some (.int (0 : Int32))) := by
  refine zs_in (by decide) mf295 (Nat.le_of_ble_eq_true rfl) ?_
  show zGo X l 8 0 0 295 0 [(0, .ref 336), (1, .int (111 : Int32))] [] zMm _
  refine zs_iload_n (pc := 0) t295_0 rfl ?_
  refine zs_invS (pc := 1) (as := [.int (111 : Int32)]) (st := []) t295_1 (by decide) mf260 rfl rfl ⟨by decide, by decide, Nat.le_of_ble_eq_true rfl, Nat.le_of_ble_eq_true rfl⟩ (zs_in (by decide) mf260 (Nat.le_of_ble_eq_true rfl) ?_) (fun _ _ q => q)
  show zGo X l 0 0 0 260 0 [(0, .int (111 : Int32))] [] zMm _
  refine zs_iload_n (pc := 0) t260_0 rfl ?_
  refine zs_tswI (pc := 1) t260_1 li111 (by decide) rfl (pc2 := 95) rfl ?_
  refine zs_bipush (pc := 95) t260_95 (v := 7) (by decide) ?_
  refine zs_iret (pc := 97) t260_97 mr260 (by decide) ?_
  show zGo X l 8 0 0 295 4 [(0, .ref 336), (1, .int (111 : Int32))] [.int (7 : Int32)] zMm _
  refine zs_iconst (pc := 4) t295_4 (v := -1) (by decide) ?_
  refine zs_icmp_neT (pc := 5) t295_5 li7 lin1 (by decide) ?_
  refine zs_aload_n (pc := 12) t295_12 rfl ?_
  refine zs_iload_n (pc := 13) t295_13 rfl ?_
  refine zs_invS (pc := 14) (as := [.int (111 : Int32)]) (st := [.ref 336]) t295_14 (by decide) mf260 rfl rfl ⟨by decide, by decide, Nat.le_of_ble_eq_true rfl, Nat.le_of_ble_eq_true rfl⟩ (zs_in (by decide) mf260 (Nat.le_of_ble_eq_true rfl) ?_) (fun _ _ q => q)
  show zGo X l 0 0 0 260 0 [(0, .int (111 : Int32))] [] zMm _
  refine zs_iload_n (pc := 0) t260_0 rfl ?_
  refine zs_tswI (pc := 1) t260_1 li111 (by decide) rfl (pc2 := 95) rfl ?_
  refine zs_bipush (pc := 95) t260_95 (v := 7) (by decide) ?_
  refine zs_iret (pc := 97) t260_97 mr260 (by decide) ?_
  show zGo X l 8 0 0 295 17 [(0, .ref 336), (1, .int (111 : Int32))] [.int (7 : Int32), .ref 336] zMm _
  refine zs_invV (pc := 17) (k := 336) (as' := [.int (7 : Int32)]) (st := []) t295_17 mf267 rfl rfl (Or.inl ⟨by decide, (zk1 fk_zMm_336)⟩) ⟨by decide, by decide, Nat.le_of_ble_eq_true rfl, Nat.le_of_ble_eq_true rfl⟩ (zs_in (by decide) mf267 (Nat.le_of_ble_eq_true rfl) ?_) (fun _ _ q => q)
  show zGo X l 7 0 0 267 0 [(0, .ref 336), (1, .int (7 : Int32))] [] zMm _
  refine zs_aload_n (pc := 0) t267_0 rfl ?_
  refine zs_invV (pc := 1) (k := 336) (as' := []) (st := []) t267_1 mf268 rfl rfl (Or.inl ⟨by decide, (zk1 fk_zMm_336)⟩) ⟨by decide, by decide, Nat.le_of_ble_eq_true rfl, Nat.le_of_ble_eq_true rfl⟩ (cc2 (X := X) (l := l)) ?_
  rintro r M2 ⟨rfl, M2k336, M2v336_22, M2v336_39, M2v336_37, M2v336_0, M2k337, M2a337_1, M2v336_26, M2v336_34, M2a337_0, -⟩
  show zGo X l 7 0 0 267 4 [(0, .ref 336), (1, .int (7 : Int32))] [] M2 _
  refine zs_iload_n (pc := 4) t267_4 rfl ?_
  refine zs_tswD (pc := 5) t267_5 li7 (by decide) (pc2 := 92) rfl ?_
  refine zs_aload_n (pc := 92) t267_92 rfl ?_
  refine zs_aload_n (pc := 93) t267_93 rfl ?_
  refine zs_get (pc := 94) t267_94 (by decide) (zk1 M2k336) M2v336_34 ?_
  refine zs_aload_n (pc := 97) t267_97 rfl ?_
  refine zs_get (pc := 98) t267_98 (by decide) (zk1 M2k336) M2v336_37 ?_
  refine zs_invV (pc := 101) (k := 336) (as' := [.ref 356, .int (0 : Int32)]) (st := []) t267_101 mf291 rfl rfl (Or.inl ⟨by decide, (zk1 M2k336)⟩) ⟨by decide, by decide, Nat.le_of_ble_eq_true rfl, Nat.le_of_ble_eq_true rfl⟩ (zs_in (by decide) mf291 (Nat.le_of_ble_eq_true rfl) ?_) (fun _ _ q => q)
  show zGo X l 0 0 0 291 0 [(0, .ref 336), (1, .ref 356), (2, .int (0 : Int32))] [] M2 _
  refine zs_iconst (pc := 0) t291_0 (v := 0) (by decide) ?_
  refine zs_istore_n (pc := 1) t291_1 (ls' := [(3, .int (0 : Int32)), (0, .ref 336), (1, .ref 356), (2, .int (0 : Int32))]) (zml mf291 (by decide)) rfl ?_
  refine zs_iconst (pc := 2) t291_2 (v := 0) (by decide) ?_
  refine zs_istore (pc := 3) t291_3 (ls' := [(4, .int (0 : Int32)), (3, .int (0 : Int32)), (0, .ref 336), (1, .ref 356), (2, .int (0 : Int32))]) (zml mf291 (by decide)) rfl ?_
  refine zs_iload (pc := 5) t291_5 rfl ?_
  refine zs_iload_n (pc := 7) t291_7 rfl ?_
  refine zs_icmp_geT (pc := 8) t291_8 li0 li0 (by decide) ?_
  refine zs_iload_n (pc := 34) t291_34 rfl ?_
  refine zs_iret (pc := 35) t291_35 mr291 (by decide) ?_
  show zGo X l 7 0 0 267 104 [(0, .ref 336), (1, .int (7 : Int32))] [.int (0 : Int32)] M2 _
  refine zs_iret (pc := 104) t267_104 mr267 (by decide) ?_
  show zGo X l 8 0 0 295 20 [(0, .ref 336), (1, .int (111 : Int32))] [.int (0 : Int32)] M2 _
  exact zs_iret (pc := 20) t295_20 mr295 (by decide) rfl
theorem c19_10 {X : zX} {l : Launch} : zCall X l 6 0 0 151 [.ref 6, .int (112 : Int32)] zMc (fun r _ => r = some (.int (-1 : Int32))) := by
  refine zs_in (by decide) mf151 (Nat.le_of_ble_eq_true rfl) ?_
  show zGo X l 6 0 0 151 0 [(0, .ref 6), (1, .int (112 : Int32))] [] zMc _
  refine zs_iload_n (pc := 0) t151_0 rfl ?_
  refine zs_tswI (pc := 1) t151_1 li112 (by decide) rfl (pc2 := 205) rfl ?_
  refine zs_iconst (pc := 205) t151_205 (v := -1) (by decide) ?_
  exact zs_iret (pc := 206) t151_206 mr151 (by decide) rfl
theorem m19_10 {X : zX} {l : Launch} : zCall X l 8 0 0 295 [.ref 336, .int (112 : Int32)] zMm (fun r _ => r = some (.int (-1 : Int32))) := by
  refine zs_in (by decide) mf295 (Nat.le_of_ble_eq_true rfl) ?_
  show zGo X l 8 0 0 295 0 [(0, .ref 336), (1, .int (112 : Int32))] [] zMm _
  refine zs_iload_n (pc := 0) t295_0 rfl ?_
  refine zs_invS (pc := 1) (as := [.int (112 : Int32)]) (st := []) t295_1 (by decide) mf260 rfl rfl ⟨by decide, by decide, Nat.le_of_ble_eq_true rfl, Nat.le_of_ble_eq_true rfl⟩ (zs_in (by decide) mf260 (Nat.le_of_ble_eq_true rfl) ?_) (fun _ _ q => q)
  show zGo X l 0 0 0 260 0 [(0, .int (112 : Int32))] [] zMm _
  refine zs_iload_n (pc := 0) t260_0 rfl ?_
  refine zs_tswI (pc := 1) t260_1 li112 (by decide) rfl (pc2 := 98) rfl ?_
  refine zs_iconst (pc := 98) t260_98 (v := -1) (by decide) ?_
  refine zs_iret (pc := 99) t260_99 mr260 (by decide) ?_
  show zGo X l 8 0 0 295 4 [(0, .ref 336), (1, .int (112 : Int32))] [.int (-1 : Int32)] zMm _
  refine zs_iconst (pc := 4) t295_4 (v := -1) (by decide) ?_
  refine zs_icmp_neF (pc := 5) t295_5 lin1 lin1 (by decide) ?_
  refine zs_iconst (pc := 8) t295_8 (v := -1) (by decide) ?_
  refine zs_goto (pc := 9) t295_9 ?_
  exact zs_iret (pc := 20) t295_20 mr295 (by decide) rfl
theorem c19_11 {X : zX} {l : Launch} : zCall X l 6 0 0 151 [.ref 6, .int (113 : Int32)] zMc (fun r _ => r = some (.int (-1 : Int32))) := by
  refine zs_in (by decide) mf151 (Nat.le_of_ble_eq_true rfl) ?_
  show zGo X l 6 0 0 151 0 [(0, .ref 6), (1, .int (113 : Int32))] [] zMc _
  refine zs_iload_n (pc := 0) t151_0 rfl ?_
  refine zs_tswI (pc := 1) t151_1 li113 (by decide) rfl (pc2 := 205) rfl ?_
  refine zs_iconst (pc := 205) t151_205 (v := -1) (by decide) ?_
  exact zs_iret (pc := 206) t151_206 mr151 (by decide) rfl
theorem m19_11 {X : zX} {l : Launch} : zCall X l 8 0 0 295 [.ref 336, .int (113 : Int32)] zMm (fun r _ => r = some (.int (-1 : Int32))) := by
  refine zs_in (by decide) mf295 (Nat.le_of_ble_eq_true rfl) ?_
  show zGo X l 8 0 0 295 0 [(0, .ref 336), (1, .int (113 : Int32))] [] zMm _
  refine zs_iload_n (pc := 0) t295_0 rfl ?_
  refine zs_invS (pc := 1) (as := [.int (113 : Int32)]) (st := []) t295_1 (by decide) mf260 rfl rfl ⟨by decide, by decide, Nat.le_of_ble_eq_true rfl, Nat.le_of_ble_eq_true rfl⟩ (zs_in (by decide) mf260 (Nat.le_of_ble_eq_true rfl) ?_) (fun _ _ q => q)
  show zGo X l 0 0 0 260 0 [(0, .int (113 : Int32))] [] zMm _
  refine zs_iload_n (pc := 0) t260_0 rfl ?_
  refine zs_tswI (pc := 1) t260_1 li113 (by decide) rfl (pc2 := 98) rfl ?_
  refine zs_iconst (pc := 98) t260_98 (v := -1) (by decide) ?_
  refine zs_iret (pc := 99) t260_99 mr260 (by decide) ?_
  show zGo X l 8 0 0 295 4 [(0, .ref 336), (1, .int (113 : Int32))] [.int (-1 : Int32)] zMm _
  refine zs_iconst (pc := 4) t295_4 (v := -1) (by decide) ?_
  refine zs_icmp_neF (pc := 5) t295_5 lin1 lin1 (by decide) ?_
  refine zs_iconst (pc := 8) t295_8 (v := -1) (by decide) ?_
  refine zs_goto (pc := 9) t295_9 ?_
  exact zs_iret (pc := 20) t295_20 mr295 (by decide) rfl
theorem c19_12 {X : zX} {l : Launch} : zCall X l 6 0 0 151 [.ref 6, .int (114 : Int32)] zMc (fun r _ => r = some (.int (-1 : Int32))) := by
  refine zs_in (by decide) mf151 (Nat.le_of_ble_eq_true rfl) ?_
  show zGo X l 6 0 0 151 0 [(0, .ref 6), (1, .int (114 : Int32))] [] zMc _
  refine zs_iload_n (pc := 0) t151_0 rfl ?_
  refine zs_tswI (pc := 1) t151_1 li114 (by decide) rfl (pc2 := 205) rfl ?_
  refine zs_iconst (pc := 205) t151_205 (v := -1) (by decide) ?_
  exact zs_iret (pc := 206) t151_206 mr151 (by decide) rfl
theorem m19_12 {X : zX} {l : Launch} : zCall X l 8 0 0 295 [.ref 336, .int (114 : Int32)] zMm (fun r _ => r = some (.int (-1 : Int32))) := by
  refine zs_in (by decide) mf295 (Nat.le_of_ble_eq_true rfl) ?_
  show zGo X l 8 0 0 295 0 [(0, .ref 336), (1, .int (114 : Int32))] [] zMm _
  refine zs_iload_n (pc := 0) t295_0 rfl ?_
  refine zs_invS (pc := 1) (as := [.int (114 : Int32)]) (st := []) t295_1 (by decide) mf260 rfl rfl ⟨by decide, by decide, Nat.le_of_ble_eq_true rfl, Nat.le_of_ble_eq_true rfl⟩ (zs_in (by decide) mf260 (Nat.le_of_ble_eq_true rfl) ?_) (fun _ _ q => q)
  show zGo X l 0 0 0 260 0 [(0, .int (114 : Int32))] [] zMm _
  refine zs_iload_n (pc := 0) t260_0 rfl ?_
  refine zs_tswI (pc := 1) t260_1 li114 (by decide) rfl (pc2 := 98) rfl ?_
  refine zs_iconst (pc := 98) t260_98 (v := -1) (by decide) ?_
  refine zs_iret (pc := 99) t260_99 mr260 (by decide) ?_
  show zGo X l 8 0 0 295 4 [(0, .ref 336), (1, .int (114 : Int32))] [.int (-1 : Int32)] zMm _
  refine zs_iconst (pc := 4) t295_4 (v := -1) (by decide) ?_
  refine zs_icmp_neF (pc := 5) t295_5 lin1 lin1 (by decide) ?_
  refine zs_iconst (pc := 8) t295_8 (v := -1) (by decide) ?_
  refine zs_goto (pc := 9) t295_9 ?_
  exact zs_iret (pc := 20) t295_20 mr295 (by decide) rfl
theorem c19_13 {X : zX} {l : Launch} : zCall X l 6 0 0 151 [.ref 6, .int (115 : Int32)] zMc (fun r _ => r = some (.int (-1 : Int32))) := by
  refine zs_in (by decide) mf151 (Nat.le_of_ble_eq_true rfl) ?_
  show zGo X l 6 0 0 151 0 [(0, .ref 6), (1, .int (115 : Int32))] [] zMc _
  refine zs_iload_n (pc := 0) t151_0 rfl ?_
  refine zs_tswI (pc := 1) t151_1 li115 (by decide) rfl (pc2 := 205) rfl ?_
  refine zs_iconst (pc := 205) t151_205 (v := -1) (by decide) ?_
  exact zs_iret (pc := 206) t151_206 mr151 (by decide) rfl
theorem m19_13 {X : zX} {l : Launch} : zCall X l 8 0 0 295 [.ref 336, .int (115 : Int32)] zMm (fun r _ => r = some (.int (-1 : Int32))) := by
  refine zs_in (by decide) mf295 (Nat.le_of_ble_eq_true rfl) ?_
  show zGo X l 8 0 0 295 0 [(0, .ref 336), (1, .int (115 : Int32))] [] zMm _
  refine zs_iload_n (pc := 0) t295_0 rfl ?_
  refine zs_invS (pc := 1) (as := [.int (115 : Int32)]) (st := []) t295_1 (by decide) mf260 rfl rfl ⟨by decide, by decide, Nat.le_of_ble_eq_true rfl, Nat.le_of_ble_eq_true rfl⟩ (zs_in (by decide) mf260 (Nat.le_of_ble_eq_true rfl) ?_) (fun _ _ q => q)
  show zGo X l 0 0 0 260 0 [(0, .int (115 : Int32))] [] zMm _
  refine zs_iload_n (pc := 0) t260_0 rfl ?_
  refine zs_tswI (pc := 1) t260_1 li115 (by decide) rfl (pc2 := 98) rfl ?_
  refine zs_iconst (pc := 98) t260_98 (v := -1) (by decide) ?_
  refine zs_iret (pc := 99) t260_99 mr260 (by decide) ?_
  show zGo X l 8 0 0 295 4 [(0, .ref 336), (1, .int (115 : Int32))] [.int (-1 : Int32)] zMm _
  refine zs_iconst (pc := 4) t295_4 (v := -1) (by decide) ?_
  refine zs_icmp_neF (pc := 5) t295_5 lin1 lin1 (by decide) ?_
  refine zs_iconst (pc := 8) t295_8 (v := -1) (by decide) ?_
  refine zs_goto (pc := 9) t295_9 ?_
  exact zs_iret (pc := 20) t295_20 mr295 (by decide) rfl
theorem c19_14 {X : zX} {l : Launch} : zCall X l 6 0 0 151 [.ref 6, .int (116 : Int32)] zMc (fun r _ => r = some (.int (-1 : Int32))) := by
  refine zs_in (by decide) mf151 (Nat.le_of_ble_eq_true rfl) ?_
  show zGo X l 6 0 0 151 0 [(0, .ref 6), (1, .int (116 : Int32))] [] zMc _
  refine zs_iload_n (pc := 0) t151_0 rfl ?_
  refine zs_tswI (pc := 1) t151_1 li116 (by decide) rfl (pc2 := 205) rfl ?_
  refine zs_iconst (pc := 205) t151_205 (v := -1) (by decide) ?_
  exact zs_iret (pc := 206) t151_206 mr151 (by decide) rfl
theorem m19_14 {X : zX} {l : Launch} : zCall X l 8 0 0 295 [.ref 336, .int (116 : Int32)] zMm (fun r _ => r = some (.int (-1 : Int32))) := by
  refine zs_in (by decide) mf295 (Nat.le_of_ble_eq_true rfl) ?_
  show zGo X l 8 0 0 295 0 [(0, .ref 336), (1, .int (116 : Int32))] [] zMm _
  refine zs_iload_n (pc := 0) t295_0 rfl ?_
  refine zs_invS (pc := 1) (as := [.int (116 : Int32)]) (st := []) t295_1 (by decide) mf260 rfl rfl ⟨by decide, by decide, Nat.le_of_ble_eq_true rfl, Nat.le_of_ble_eq_true rfl⟩ (zs_in (by decide) mf260 (Nat.le_of_ble_eq_true rfl) ?_) (fun _ _ q => q)
  show zGo X l 0 0 0 260 0 [(0, .int (116 : Int32))] [] zMm _
  refine zs_iload_n (pc := 0) t260_0 rfl ?_
  refine zs_tswI (pc := 1) t260_1 li116 (by decide) rfl (pc2 := 98) rfl ?_
  refine zs_iconst (pc := 98) t260_98 (v := -1) (by decide) ?_
  refine zs_iret (pc := 99) t260_99 mr260 (by decide) ?_
  show zGo X l 8 0 0 295 4 [(0, .ref 336), (1, .int (116 : Int32))] [.int (-1 : Int32)] zMm _
  refine zs_iconst (pc := 4) t295_4 (v := -1) (by decide) ?_
  refine zs_icmp_neF (pc := 5) t295_5 lin1 lin1 (by decide) ?_
  refine zs_iconst (pc := 8) t295_8 (v := -1) (by decide) ?_
  refine zs_goto (pc := 9) t295_9 ?_
  exact zs_iret (pc := 20) t295_20 mr295 (by decide) rfl
theorem c19_15 {X : zX} {l : Launch} : zCall X l 6 0 0 151 [.ref 6, .int (117 : Int32)] zMc (fun r _ => r = some (.int (0 : Int32))) := by
  refine zs_in (by decide) mf151 (Nat.le_of_ble_eq_true rfl) ?_
  show zGo X l 6 0 0 151 0 [(0, .ref 6), (1, .int (117 : Int32))] [] zMc _
  refine zs_iload_n (pc := 0) t151_0 rfl ?_
  refine zs_tswI (pc := 1) t151_1 li117 (by decide) rfl (pc2 := 167) rfl ?_
  refine zs_aload_n (pc := 167) t151_167 rfl ?_
  refine zs_get (pc := 168) t151_168 (by decide) (zk1 fk_zMc_6) fv_zMc_6_0 ?_
  refine zs_invV (pc := 171) (k := 7) (as' := []) (st := []) t151_171 mf92 rfl rfl (Or.inl ⟨by decide, (zk1 fk_zMc_7)⟩) ⟨by decide, by decide, Nat.le_of_ble_eq_true rfl, Nat.le_of_ble_eq_true rfl⟩ (zs_in (by decide) mf92 (Nat.le_of_ble_eq_true rfl) ?_) (fun _ _ q => q)
  show zGo X l 2 0 0 92 0 [(0, .ref 7)] [] zMc _
  refine zs_iconst (pc := 0) t92_0 (v := 0) (by decide) ?_
  refine zs_istore_n (pc := 1) t92_1 (ls' := [(1, .int (0 : Int32)), (0, .ref 7)]) (zml mf92 (by decide)) rfl ?_
  refine zs_iconst (pc := 2) t92_2 (v := 0) (by decide) ?_
  refine zs_istore_n (pc := 3) t92_3 (ls' := [(2, .int (0 : Int32)), (1, .int (0 : Int32)), (0, .ref 7)]) (zml mf92 (by decide)) rfl ?_
  refine zs_iload_n (pc := 4) t92_4 rfl ?_
  refine zs_aload_n (pc := 5) t92_5 rfl ?_
  refine zs_get (pc := 6) t92_6 (by decide) (zk1 fk_zMc_7) fv_zMc_7_3 ?_
  refine zs_icmp_geT (pc := 9) t92_9 li0 li0 (by decide) ?_
  refine zs_iload_n (pc := 29) t92_29 rfl ?_
  refine zs_iret (pc := 30) t92_30 mr92 (by decide) ?_
  show zGo X l 6 0 0 151 174 [(0, .ref 6), (1, .int (117 : Int32))] [.int (0 : Int32)] zMc _
  refine zs_aload_n (pc := 174) t151_174 rfl ?_
  refine zs_get (pc := 175) t151_175 (by decide) (zk1 fk_zMc_6) fv_zMc_6_6 ?_
  refine zs_aload_n (pc := 178) t151_178 rfl ?_
  refine zs_get (pc := 179) t151_179 (by decide) (zk1 fk_zMc_6) fv_zMc_6_0 ?_
  refine zs_invV (pc := 182) (k := 164) (as' := [.ref 7]) (st := [.int (0 : Int32)]) t151_182 mf105 rfl rfl (Or.inl ⟨by decide, (zk1 fk_zMc_164)⟩) ⟨by decide, by decide, Nat.le_of_ble_eq_true rfl, Nat.le_of_ble_eq_true rfl⟩ (cc1 (X := X) (l := l)) ?_
  rintro r M1 ⟨rfl, M1k164, M1v164_4, M1k325, M1rM3, M1v164_9, M1v164_1, M1k165, M1rM4, M1k6, M1v6_6, -⟩
  show zGo X l 6 0 0 151 185 [(0, .ref 6), (1, .int (117 : Int32))] [.ref 164, .int (0 : Int32)] M1 _
  refine zs_invV (pc := 185) (k := 164) (as' := []) (st := [.int (0 : Int32)]) t151_185 mf167 rfl rfl (Or.inl ⟨by decide, (zk1 M1k164)⟩) ⟨by decide, by decide, Nat.le_of_ble_eq_true rfl, Nat.le_of_ble_eq_true rfl⟩ (zs_in (by decide) mf167 (Nat.le_of_ble_eq_true rfl) ?_) (fun _ _ q => q)
  show zGo X l 1 0 0 167 0 [(0, .ref 164)] [] M1 _
  refine zs_iconst (pc := 0) t167_0 (v := 0) (by decide) ?_
  refine zs_istore_n (pc := 1) t167_1 (ls' := [(1, .int (0 : Int32)), (0, .ref 164)]) (zml mf167 (by decide)) rfl ?_
  refine zs_iconst (pc := 2) t167_2 (v := 0) (by decide) ?_
  refine zs_istore_n (pc := 3) t167_3 (ls' := [(2, .int (0 : Int32)), (1, .int (0 : Int32)), (0, .ref 164)]) (zml mf167 (by decide)) rfl ?_
  refine zs_iload_n (pc := 4) t167_4 rfl ?_
  refine zs_aload_n (pc := 5) t167_5 rfl ?_
  refine zs_get (pc := 6) t167_6 (by decide) (zk1 M1k164) M1v164_4 ?_
  refine zs_icmp_geT (pc := 9) t167_9 li0 li0 (by decide) ?_
  refine zs_iload_n (pc := 42) t167_42 rfl ?_
  refine zs_iret (pc := 43) t167_43 mr167 (by decide) ?_
  show zGo X l 6 0 0 151 188 [(0, .ref 6), (1, .int (117 : Int32))] [.int (0 : Int32), .int (0 : Int32)] M1 _
  refine zs_isub (pc := 188) t151_188 (c := 0) (by decide) ?_
  exact zs_iret (pc := 189) t151_189 mr151 (by decide) rfl
theorem m19_15 {X : zX} {l : Launch} : zCall X l 8 0 0 295 [.ref 336, .int (117 : Int32)] zMm (fun r _ => r = some (.int (0 : Int32))) := by
  refine zs_in (by decide) mf295 (Nat.le_of_ble_eq_true rfl) ?_
  show zGo X l 8 0 0 295 0 [(0, .ref 336), (1, .int (117 : Int32))] [] zMm _
  refine zs_iload_n (pc := 0) t295_0 rfl ?_
  refine zs_invS (pc := 1) (as := [.int (117 : Int32)]) (st := []) t295_1 (by decide) mf260 rfl rfl ⟨by decide, by decide, Nat.le_of_ble_eq_true rfl, Nat.le_of_ble_eq_true rfl⟩ (zs_in (by decide) mf260 (Nat.le_of_ble_eq_true rfl) ?_) (fun _ _ q => q)
  show zGo X l 0 0 0 260 0 [(0, .int (117 : Int32))] [] zMm _
  refine zs_iload_n (pc := 0) t260_0 rfl ?_
  refine zs_tswI (pc := 1) t260_1 li117 (by decide) rfl (pc2 := 92) rfl ?_
  refine zs_bipush (pc := 92) t260_92 (v := 6) (by decide) ?_
  refine zs_iret (pc := 94) t260_94 mr260 (by decide) ?_
  show zGo X l 8 0 0 295 4 [(0, .ref 336), (1, .int (117 : Int32))] [.int (6 : Int32)] zMm _
  refine zs_iconst (pc := 4) t295_4 (v := -1) (by decide) ?_
  refine zs_icmp_neT (pc := 5) t295_5 li6 lin1 (by decide) ?_
  refine zs_aload_n (pc := 12) t295_12 rfl ?_
  refine zs_iload_n (pc := 13) t295_13 rfl ?_
  refine zs_invS (pc := 14) (as := [.int (117 : Int32)]) (st := [.ref 336]) t295_14 (by decide) mf260 rfl rfl ⟨by decide, by decide, Nat.le_of_ble_eq_true rfl, Nat.le_of_ble_eq_true rfl⟩ (zs_in (by decide) mf260 (Nat.le_of_ble_eq_true rfl) ?_) (fun _ _ q => q)
  show zGo X l 0 0 0 260 0 [(0, .int (117 : Int32))] [] zMm _
  refine zs_iload_n (pc := 0) t260_0 rfl ?_
  refine zs_tswI (pc := 1) t260_1 li117 (by decide) rfl (pc2 := 92) rfl ?_
  refine zs_bipush (pc := 92) t260_92 (v := 6) (by decide) ?_
  refine zs_iret (pc := 94) t260_94 mr260 (by decide) ?_
  show zGo X l 8 0 0 295 17 [(0, .ref 336), (1, .int (117 : Int32))] [.int (6 : Int32), .ref 336] zMm _
  refine zs_invV (pc := 17) (k := 336) (as' := [.int (6 : Int32)]) (st := []) t295_17 mf267 rfl rfl (Or.inl ⟨by decide, (zk1 fk_zMm_336)⟩) ⟨by decide, by decide, Nat.le_of_ble_eq_true rfl, Nat.le_of_ble_eq_true rfl⟩ (zs_in (by decide) mf267 (Nat.le_of_ble_eq_true rfl) ?_) (fun _ _ q => q)
  show zGo X l 7 0 0 267 0 [(0, .ref 336), (1, .int (6 : Int32))] [] zMm _
  refine zs_aload_n (pc := 0) t267_0 rfl ?_
  refine zs_invV (pc := 1) (k := 336) (as' := []) (st := []) t267_1 mf268 rfl rfl (Or.inl ⟨by decide, (zk1 fk_zMm_336)⟩) ⟨by decide, by decide, Nat.le_of_ble_eq_true rfl, Nat.le_of_ble_eq_true rfl⟩ (cc2 (X := X) (l := l)) ?_
  rintro r M2 ⟨rfl, M2k336, M2v336_22, M2v336_39, M2v336_37, M2v336_0, M2k337, M2a337_1, M2v336_26, M2v336_34, M2a337_0, -⟩
  show zGo X l 7 0 0 267 4 [(0, .ref 336), (1, .int (6 : Int32))] [] M2 _
  refine zs_iload_n (pc := 4) t267_4 rfl ?_
  refine zs_tswI (pc := 5) t267_5 li6 (by decide) rfl (pc2 := 87) rfl ?_
  refine zs_aload_n (pc := 87) t267_87 rfl ?_
  refine zs_invV (pc := 88) (k := 336) (as' := []) (st := []) t267_88 mf293 rfl rfl (Or.inl ⟨by decide, (zk1 M2k336)⟩) ⟨by decide, by decide, Nat.le_of_ble_eq_true rfl, Nat.le_of_ble_eq_true rfl⟩ (zs_in (by decide) mf293 (Nat.le_of_ble_eq_true rfl) ?_) (fun _ _ q => q)
  show zGo X l 2 0 0 293 0 [(0, .ref 336)] [] M2 _
  refine zs_iconst (pc := 0) t293_0 (v := 0) (by decide) ?_
  refine zs_istore_n (pc := 1) t293_1 (ls' := [(1, .int (0 : Int32)), (0, .ref 336)]) (zml mf293 (by decide)) rfl ?_
  refine zs_iconst (pc := 2) t293_2 (v := 0) (by decide) ?_
  refine zs_istore_n (pc := 3) t293_3 (ls' := [(2, .int (0 : Int32)), (1, .int (0 : Int32)), (0, .ref 336)]) (zml mf293 (by decide)) rfl ?_
  refine zs_iload_n (pc := 4) t293_4 rfl ?_
  refine zs_aload_n (pc := 5) t293_5 rfl ?_
  refine zs_get (pc := 6) t293_6 (by decide) (zk1 M2k336) M2v336_0 ?_
  refine zs_iconst (pc := 9) t293_9 (v := 1) (by decide) ?_
  refine zs_iald (pc := 10) t293_10 (j := 1) (by decide) (zk1 M2k337) (by decide) (zk2 M2k337 (by decide)) M2a337_1 ?_
  refine zs_icmp_geT (pc := 11) t293_11 li0 li0 (by decide) ?_
  refine zs_iload_n (pc := 48) t293_48 rfl ?_
  refine zs_iret (pc := 49) t293_49 mr293 (by decide) ?_
  show zGo X l 7 0 0 267 91 [(0, .ref 336), (1, .int (6 : Int32))] [.int (0 : Int32)] M2 _
  refine zs_iret (pc := 91) t267_91 mr267 (by decide) ?_
  show zGo X l 8 0 0 295 20 [(0, .ref 336), (1, .int (117 : Int32))] [.int (0 : Int32)] M2 _
  exact zs_iret (pc := 20) t295_20 mr295 (by decide) rfl
theorem c19_16 {X : zX} {l : Launch} : zCall X l 6 0 0 151 [.ref 6, .int (118 : Int32)] zMc (fun r _ => r = some (.int (0 : Int32))) := by
  refine zs_in (by decide) mf151 (Nat.le_of_ble_eq_true rfl) ?_
  show zGo X l 6 0 0 151 0 [(0, .ref 6), (1, .int (118 : Int32))] [] zMc _
  refine zs_iload_n (pc := 0) t151_0 rfl ?_
  refine zs_tswI (pc := 1) t151_1 li118 (by decide) rfl (pc2 := 103) rfl ?_
  refine zs_aload_n (pc := 103) t151_103 rfl ?_
  refine zs_get (pc := 104) t151_104 (by decide) (zk1 fk_zMc_6) fv_zMc_6_6 ?_
  refine zs_aload_n (pc := 107) t151_107 rfl ?_
  refine zs_get (pc := 108) t151_108 (by decide) (zk1 fk_zMc_6) fv_zMc_6_0 ?_
  refine zs_invV (pc := 111) (k := 164) (as' := [.ref 7]) (st := []) t151_111 mf105 rfl rfl (Or.inl ⟨by decide, (zk1 fk_zMc_164)⟩) ⟨by decide, by decide, Nat.le_of_ble_eq_true rfl, Nat.le_of_ble_eq_true rfl⟩ (cc1 (X := X) (l := l)) ?_
  rintro r M1 ⟨rfl, M1k164, M1v164_4, M1k325, M1rM3, M1v164_9, M1v164_1, M1k165, M1rM4, M1k6, M1v6_6, -⟩
  show zGo X l 6 0 0 151 114 [(0, .ref 6), (1, .int (118 : Int32))] [.ref 164] M1 _
  refine zs_invV (pc := 114) (k := 164) (as' := []) (st := []) t151_114 mf152 rfl rfl (Or.inl ⟨by decide, (zk1 M1k164)⟩) ⟨by decide, by decide, Nat.le_of_ble_eq_true rfl, Nat.le_of_ble_eq_true rfl⟩ (zs_in (by decide) mf152 (Nat.le_of_ble_eq_true rfl) ?_) (fun _ _ q => q)
  show zGo X l 0 0 0 152 0 [(0, .ref 164)] [] M1 _
  refine zs_aload_n (pc := 0) t152_0 rfl ?_
  refine zs_get (pc := 1) t152_1 (by decide) (zk1 M1k164) M1v164_9 ?_
  refine zs_iret (pc := 4) t152_4 mr152 (by decide) ?_
  show zGo X l 6 0 0 151 117 [(0, .ref 6), (1, .int (118 : Int32))] [.int (0 : Int32)] M1 _
  exact zs_iret (pc := 117) t151_117 mr151 (by decide) rfl
theorem m19_16 {X : zX} {l : Launch} : zCall X l 8 0 0 295 [.ref 336, .int (118 : Int32)] zMm (fun r _ => r = some (.int (0 : Int32))) := by
  refine zs_in (by decide) mf295 (Nat.le_of_ble_eq_true rfl) ?_
  show zGo X l 8 0 0 295 0 [(0, .ref 336), (1, .int (118 : Int32))] [] zMm _
  refine zs_iload_n (pc := 0) t295_0 rfl ?_
  refine zs_invS (pc := 1) (as := [.int (118 : Int32)]) (st := []) t295_1 (by decide) mf260 rfl rfl ⟨by decide, by decide, Nat.le_of_ble_eq_true rfl, Nat.le_of_ble_eq_true rfl⟩ (zs_in (by decide) mf260 (Nat.le_of_ble_eq_true rfl) ?_) (fun _ _ q => q)
  show zGo X l 0 0 0 260 0 [(0, .int (118 : Int32))] [] zMm _
  refine zs_iload_n (pc := 0) t260_0 rfl ?_
  refine zs_tswI (pc := 1) t260_1 li118 (by decide) rfl (pc2 := 84) rfl ?_
  refine zs_iconst (pc := 84) t260_84 (v := 2) (by decide) ?_
  refine zs_iret (pc := 85) t260_85 mr260 (by decide) ?_
  show zGo X l 8 0 0 295 4 [(0, .ref 336), (1, .int (118 : Int32))] [.int (2 : Int32)] zMm _
  refine zs_iconst (pc := 4) t295_4 (v := -1) (by decide) ?_
  refine zs_icmp_neT (pc := 5) t295_5 li2 lin1 (by decide) ?_
  refine zs_aload_n (pc := 12) t295_12 rfl ?_
  refine zs_iload_n (pc := 13) t295_13 rfl ?_
  refine zs_invS (pc := 14) (as := [.int (118 : Int32)]) (st := [.ref 336]) t295_14 (by decide) mf260 rfl rfl ⟨by decide, by decide, Nat.le_of_ble_eq_true rfl, Nat.le_of_ble_eq_true rfl⟩ (zs_in (by decide) mf260 (Nat.le_of_ble_eq_true rfl) ?_) (fun _ _ q => q)
  show zGo X l 0 0 0 260 0 [(0, .int (118 : Int32))] [] zMm _
  refine zs_iload_n (pc := 0) t260_0 rfl ?_
  refine zs_tswI (pc := 1) t260_1 li118 (by decide) rfl (pc2 := 84) rfl ?_
  refine zs_iconst (pc := 84) t260_84 (v := 2) (by decide) ?_
  refine zs_iret (pc := 85) t260_85 mr260 (by decide) ?_
  show zGo X l 8 0 0 295 17 [(0, .ref 336), (1, .int (118 : Int32))] [.int (2 : Int32), .ref 336] zMm _
  refine zs_invV (pc := 17) (k := 336) (as' := [.int (2 : Int32)]) (st := []) t295_17 mf267 rfl rfl (Or.inl ⟨by decide, (zk1 fk_zMm_336)⟩) ⟨by decide, by decide, Nat.le_of_ble_eq_true rfl, Nat.le_of_ble_eq_true rfl⟩ (zs_in (by decide) mf267 (Nat.le_of_ble_eq_true rfl) ?_) (fun _ _ q => q)
  show zGo X l 7 0 0 267 0 [(0, .ref 336), (1, .int (2 : Int32))] [] zMm _
  refine zs_aload_n (pc := 0) t267_0 rfl ?_
  refine zs_invV (pc := 1) (k := 336) (as' := []) (st := []) t267_1 mf268 rfl rfl (Or.inl ⟨by decide, (zk1 fk_zMm_336)⟩) ⟨by decide, by decide, Nat.le_of_ble_eq_true rfl, Nat.le_of_ble_eq_true rfl⟩ (cc2 (X := X) (l := l)) ?_
  rintro r M2 ⟨rfl, M2k336, M2v336_22, M2v336_39, M2v336_37, M2v336_0, M2k337, M2a337_1, M2v336_26, M2v336_34, M2a337_0, -⟩
  show zGo X l 7 0 0 267 4 [(0, .ref 336), (1, .int (2 : Int32))] [] M2 _
  refine zs_iload_n (pc := 4) t267_4 rfl ?_
  refine zs_tswI (pc := 5) t267_5 li2 (by decide) rfl (pc2 := 59) rfl ?_
  refine zs_aload_n (pc := 59) t267_59 rfl ?_
  refine zs_get (pc := 60) t267_60 (by decide) (zk1 M2k336) M2v336_37 ?_
  refine zs_iret (pc := 63) t267_63 mr267 (by decide) ?_
  show zGo X l 8 0 0 295 20 [(0, .ref 336), (1, .int (118 : Int32))] [.int (0 : Int32)] M2 _
  exact zs_iret (pc := 20) t295_20 mr295 (by decide) rfl
theorem c19_17 {X : zX} {l : Launch} {a : Int32} (la : 119 ≤ a.toInt) (ua : a.toInt ≤ 2147483647) : zCall X l 6 0 0 151 [.ref 6, .int a] zMc (fun r _ => r = some (.int (-1 : Int32))) := by
  have ga := zrg a
  refine zs_in (by decide) mf151 (Nat.le_of_ble_eq_true rfl) ?_
  show zGo X l 6 0 0 151 0 [(0, .ref 6), (1, .int a)] [] zMc _
  refine zs_iload_n (pc := 0) t151_0 rfl ?_
  refine zs_tswD (pc := 1) t151_1 rfl (by omega) (pc2 := 205) rfl ?_
  refine zs_iconst (pc := 205) t151_205 (v := -1) (by decide) ?_
  exact zs_iret (pc := 206) t151_206 mr151 (by decide) rfl
theorem m19_17 {X : zX} {l : Launch} {a : Int32} (la : 119 ≤ a.toInt) (ua : a.toInt ≤ 2147483647) : zCall X l 8 0 0 295 [.ref 336, .int a] zMm (fun r _ => r = some (.int (-1 : Int32))) := by
  have ga := zrg a
  refine zs_in (by decide) mf295 (Nat.le_of_ble_eq_true rfl) ?_
  show zGo X l 8 0 0 295 0 [(0, .ref 336), (1, .int a)] [] zMm _
  refine zs_iload_n (pc := 0) t295_0 rfl ?_
  refine zs_invS (pc := 1) (as := [.int a]) (st := []) t295_1 (by decide) mf260 rfl rfl ⟨by decide, by decide, Nat.le_of_ble_eq_true rfl, Nat.le_of_ble_eq_true rfl⟩ (zs_in (by decide) mf260 (Nat.le_of_ble_eq_true rfl) ?_) (fun _ _ q => q)
  show zGo X l 0 0 0 260 0 [(0, .int a)] [] zMm _
  refine zs_iload_n (pc := 0) t260_0 rfl ?_
  refine zs_tswD (pc := 1) t260_1 rfl (by omega) (pc2 := 98) rfl ?_
  refine zs_iconst (pc := 98) t260_98 (v := -1) (by decide) ?_
  refine zs_iret (pc := 99) t260_99 mr260 (by decide) ?_
  show zGo X l 8 0 0 295 4 [(0, .ref 336), (1, .int a)] [.int (-1 : Int32)] zMm _
  refine zs_iconst (pc := 4) t295_4 (v := -1) (by decide) ?_
  refine zs_icmp_neF (pc := 5) t295_5 lin1 lin1 (by decide) ?_
  refine zs_iconst (pc := 8) t295_8 (v := -1) (by decide) ?_
  refine zs_goto (pc := 9) t295_9 ?_
  exact zs_iret (pc := 20) t295_20 mr295 (by decide) rfl
theorem c20_0 {X : zX} {l : Launch} : zCall X l 6 0 0 187 [.ref 6] zMc (fun r _ => r = some (.int (0 : Int32))) := zs_run (q := 6378) (Qb := fun r _ => decide (r = some (.int (0 : Int32)))) mf187 (by decide) (by decide +kernel) (fun _ _ q => of_decide_eq_true q)
theorem m20_0 {X : zX} {l : Launch} : zCall X l 7 0 0 322 [.ref 336] zMm (fun r _ => r = some (.int (0 : Int32))) := zs_run (q := 4266) (Qb := fun r _ => decide (r = some (.int (0 : Int32)))) mf322 (by decide) (by decide +kernel) (fun _ _ q => of_decide_eq_true q)
theorem c23_0 {X : zX} {l : Launch} {a : Int32} : zCall X l 6 0 0 194 [.ref 6, .int a] zMc (fun r _ => r = some (.int (-100000 : Int32))) := by
  have ga := zrg a
  refine zs_in (by decide) mf194 (Nat.le_of_ble_eq_true rfl) ?_
  show zGo X l 6 0 0 194 0 [(0, .ref 6), (1, .int a)] [] zMc _
  refine zs_aload_n (pc := 0) t194_0 rfl ?_
  refine zs_get (pc := 1) t194_1 (by decide) (zk1 fk_zMc_6) fv_zMc_6_0 ?_
  refine zs_iload_n (pc := 4) t194_4 rfl ?_
  refine zs_invV (pc := 5) (k := 7) (as' := [.int a]) (st := []) t194_5 mf41 rfl rfl (Or.inl ⟨by decide, (zk1 fk_zMc_7)⟩) ⟨by decide, by decide, Nat.le_of_ble_eq_true rfl, Nat.le_of_ble_eq_true rfl⟩ (zs_in (by decide) mf41 (Nat.le_of_ble_eq_true rfl) ?_) (fun _ _ q => q)
  show zGo X l 0 0 0 41 0 [(0, .ref 7), (1, .int a)] [] zMc _
  refine zs_iload_n (pc := 0) t41_0 rfl ?_
  by_cases w1 : a.toInt < 0
  · refine zs_if_ltT (pc := 1) t41_1 rfl (by omega) ?_
    refine zs_iconst (pc := 16) t41_16 (v := 0) (by decide) ?_
    refine zs_iret (pc := 17) t41_17 mr41 (by decide) ?_
    show zGo X l 6 0 0 194 8 [(0, .ref 6), (1, .int a)] [.int (0 : Int32)] zMc _
    refine zs_if_eqT (pc := 8) t194_8 li0 (by decide) ?_
    refine zs_ldc (pc := 33) t194_33 (v := -100000) rfl (by decide) ?_
    exact zs_iret (pc := 35) t194_35 mr194 (by decide) rfl
  · refine zs_if_ltF (pc := 1) t41_1 rfl (by omega) ?_
    refine zs_iload_n (pc := 4) t41_4 rfl ?_
    refine zs_aload_n (pc := 5) t41_5 rfl ?_
    refine zs_get (pc := 6) t41_6 (by decide) (zk1 fk_zMc_7) fv_zMc_7_0 ?_
    refine zs_icmp_geT (pc := 9) t41_9 rfl li0 (by omega) ?_
    refine zs_iconst (pc := 16) t41_16 (v := 0) (by decide) ?_
    refine zs_iret (pc := 17) t41_17 mr41 (by decide) ?_
    show zGo X l 6 0 0 194 8 [(0, .ref 6), (1, .int a)] [.int (0 : Int32)] zMc _
    refine zs_if_eqT (pc := 8) t194_8 li0 (by decide) ?_
    refine zs_ldc (pc := 33) t194_33 (v := -100000) rfl (by decide) ?_
    exact zs_iret (pc := 35) t194_35 mr194 (by decide) rfl
theorem m23_0 {X : zX} {l : Launch} {a : Int32} : zCall X l 7 0 0 327 [.ref 336, .int a] zMm (fun r _ => r = some (.int (-100000 : Int32))) := by
  have ga := zrg a
  refine zs_in (by decide) mf327 (Nat.le_of_ble_eq_true rfl) ?_
  show zGo X l 7 0 0 327 0 [(0, .ref 336), (1, .int a)] [] zMm _
  refine zs_aload_n (pc := 0) t327_0 rfl ?_
  refine zs_iload_n (pc := 1) t327_1 rfl ?_
  refine zs_invV (pc := 2) (k := 336) (as' := [.int a]) (st := []) t327_2 mf306 rfl rfl (Or.inl ⟨by decide, (zk1 fk_zMm_336)⟩) ⟨by decide, by decide, Nat.le_of_ble_eq_true rfl, Nat.le_of_ble_eq_true rfl⟩ (zs_in (by decide) mf306 (Nat.le_of_ble_eq_true rfl) ?_) (fun _ _ q => q)
  show zGo X l 1 0 0 306 0 [(0, .ref 336), (1, .int a)] [] zMm _
  refine zs_iload_n (pc := 0) t306_0 rfl ?_
  refine zs_i2l (pc := 1) t306_1 rfl ?_
  refine zs_lconst (pc := 2) t306_2 (v := 0) (by decide) ?_
  refine zs_aload_n (pc := 3) t306_3 rfl ?_
  refine zs_get (pc := 4) t306_4 (by decide) (zk1 fk_zMm_336) fv_zMm_336_0 ?_
  refine zs_iconst (pc := 7) t306_7 (v := 0) (by decide) ?_
  refine zs_iald (pc := 8) t306_8 (j := 0) (by decide) (zk1 fk_zMm_337) (by decide) (zk2 fk_zMm_337 (by decide)) fa_zMm_337_0 ?_
  refine zs_iconst (pc := 9) t306_9 (v := 1) (by decide) ?_
  refine zs_isub (pc := 10) t306_10 (c := -1) (by decide) ?_
  refine zs_i2l (pc := 11) t306_11 (c := -1) (by decide) ?_
  refine zs_invS (pc := 12) (as := [.long a.toInt64, .long (0 : Int64), .long (-1 : Int64)]) (st := []) t306_12 (by decide) mf228 rfl rfl ⟨by decide, by decide, Nat.le_of_ble_eq_true rfl, Nat.le_of_ble_eq_true rfl⟩ (zs_in (by decide) mf228 (Nat.le_of_ble_eq_true rfl) ?_) (fun _ _ q => q)
  show zGo X l 0 0 0 228 0 [(0, .long a.toInt64), (2, .long (0 : Int64)), (4, .long (-1 : Int64))] [] zMm _
  refine zs_lload_n (pc := 0) t228_0 rfl ?_
  refine zs_lload_n (pc := 1) t228_1 rfl ?_
  by_cases w1 : a.toInt < 0
  · refine zs_lcmp (pc := 2) t228_2 (c := -1) (zlcL (zi2l rfl) ll0 (by omega)) ?_
    refine zs_if_ltT (pc := 3) t228_3 lin1 (by decide) ?_
    refine zs_iconst (pc := 17) t228_17 (v := 0) (by decide) ?_
    refine zs_iret (pc := 18) t228_18 mr228 (by decide) ?_
    show zGo X l 1 0 0 306 15 [(0, .ref 336), (1, .int a)] [.int (0 : Int32)] zMm _
    refine zs_iret (pc := 15) t306_15 mr306 (by decide) ?_
    show zGo X l 7 0 0 327 5 [(0, .ref 336), (1, .int a)] [.int (0 : Int32)] zMm _
    refine zs_if_neF (pc := 5) t327_5 li0 (by decide) ?_
    refine zs_ldc_w (pc := 8) t327_8 (v := -100000) rfl (by decide) ?_
    exact zs_iret (pc := 11) t327_11 mr327 (by decide) rfl
  by_cases w2 : a.toInt = 0
  · refine zs_lcmp (pc := 2) t228_2 (c := 0) (zlcE (zi2l rfl) ll0 (by omega)) ?_
    refine zs_if_ltF (pc := 3) t228_3 li0 (by decide) ?_
    refine zs_lload_n (pc := 6) t228_6 rfl ?_
    refine zs_lload (pc := 7) t228_7 rfl ?_
    refine zs_lcmp (pc := 9) t228_9 (c := 1) (zlcG (zi2l rfl) lln1 (by omega)) ?_
    refine zs_if_gtT (pc := 10) t228_10 li1 (by decide) ?_
    refine zs_iconst (pc := 17) t228_17 (v := 0) (by decide) ?_
    refine zs_iret (pc := 18) t228_18 mr228 (by decide) ?_
    show zGo X l 1 0 0 306 15 [(0, .ref 336), (1, .int a)] [.int (0 : Int32)] zMm _
    refine zs_iret (pc := 15) t306_15 mr306 (by decide) ?_
    show zGo X l 7 0 0 327 5 [(0, .ref 336), (1, .int a)] [.int (0 : Int32)] zMm _
    refine zs_if_neF (pc := 5) t327_5 li0 (by decide) ?_
    refine zs_ldc_w (pc := 8) t327_8 (v := -100000) rfl (by decide) ?_
    exact zs_iret (pc := 11) t327_11 mr327 (by decide) rfl
  refine zs_lcmp (pc := 2) t228_2 (c := 1) (zlcG (zi2l rfl) ll0 (by omega)) ?_
  refine zs_if_ltF (pc := 3) t228_3 li1 (by decide) ?_
  refine zs_lload_n (pc := 6) t228_6 rfl ?_
  refine zs_lload (pc := 7) t228_7 rfl ?_
  refine zs_lcmp (pc := 9) t228_9 (c := 1) (zlcG (zi2l rfl) lln1 (by omega)) ?_
  refine zs_if_gtT (pc := 10) t228_10 li1 (by decide) ?_
  refine zs_iconst (pc := 17) t228_17 (v := 0) (by decide) ?_
  refine zs_iret (pc := 18) t228_18 mr228 (by decide) ?_
  show zGo X l 1 0 0 306 15 [(0, .ref 336), (1, .int a)] [.int (0 : Int32)] zMm _
  refine zs_iret (pc := 15) t306_15 mr306 (by decide) ?_
  show zGo X l 7 0 0 327 5 [(0, .ref 336), (1, .int a)] [.int (0 : Int32)] zMm _
  refine zs_if_neF (pc := 5) t327_5 li0 (by decide) ?_
  refine zs_ldc_w (pc := 8) t327_8 (v := -100000) rfl (by decide) ?_
  exact zs_iret (pc := 11) t327_11 mr327 (by decide) rfl
theorem c24_0 {X : zX} {l : Launch} {a : Int32} (la : (-2147483648) ≤ a.toInt) (ua : a.toInt ≤ (-1)) : zCall X l 6 0 0 196 [.ref 6, .int a] zMc (fun r _ => r = some (.int (-1 : Int32))) := by
  have ga := zrg a
  refine zs_in (by decide) mf196 (Nat.le_of_ble_eq_true rfl) ?_
  show zGo X l 6 0 0 196 0 [(0, .ref 6), (1, .int a)] [] zMc _
  refine zs_iload_n (pc := 0) t196_0 rfl ?_
  refine zs_iconst (pc := 1) t196_1 (v := 0) (by decide) ?_
  refine zs_iconst (pc := 2) t196_2 (v := 2) (by decide) ?_
  refine zs_invS (pc := 3) (as := [.int a, .int (0 : Int32), .int (2 : Int32)]) (st := []) t196_3 (by decide) mf39 rfl rfl ⟨by decide, by decide, Nat.le_of_ble_eq_true rfl, Nat.le_of_ble_eq_true rfl⟩ (zs_in (by decide) mf39 (Nat.le_of_ble_eq_true rfl) ?_) (fun _ _ q => q)
  show zGo X l 0 0 0 39 0 [(0, .int a), (1, .int (0 : Int32)), (2, .int (2 : Int32))] [] zMc _
  refine zs_iload_n (pc := 0) t39_0 rfl ?_
  refine zs_iload_n (pc := 1) t39_1 rfl ?_
  refine zs_icmp_ltT (pc := 2) t39_2 rfl li0 (by omega) ?_
  refine zs_iconst (pc := 14) t39_14 (v := 0) (by decide) ?_
  refine zs_iret (pc := 15) t39_15 mr39 (by decide) ?_
  show zGo X l 6 0 0 196 6 [(0, .ref 6), (1, .int a)] [.int (0 : Int32)] zMc _
  refine zs_if_neF (pc := 6) t196_6 li0 (by decide) ?_
  refine zs_iconst (pc := 9) t196_9 (v := -1) (by decide) ?_
  exact zs_iret (pc := 10) t196_10 mr196 (by decide) rfl
theorem m24_0 {X : zX} {l : Launch} {a : Int32} (la : (-2147483648) ≤ a.toInt) (ua : a.toInt ≤ (-1)) : zCall X l 6 0 0 328 [.ref 336, .int a] zMm (fun r _ => r = some (.int (-1 : Int32))) := by
  have ga := zrg a
  refine zs_in (by decide) mf328 (Nat.le_of_ble_eq_true rfl) ?_
  show zGo X l 6 0 0 328 0 [(0, .ref 336), (1, .int a)] [] zMm _
  refine zs_iload_n (pc := 0) t328_0 rfl ?_
  refine zs_i2l (pc := 1) t328_1 rfl ?_
  refine zs_lconst (pc := 2) t328_2 (v := 0) (by decide) ?_
  refine zs_ldc2_w (pc := 3) t328_3 (v := 2) (by decide) ?_
  refine zs_invS (pc := 6) (as := [.long a.toInt64, .long (0 : Int64), .long (2 : Int64)]) (st := []) t328_6 (by decide) mf228 rfl rfl ⟨by decide, by decide, Nat.le_of_ble_eq_true rfl, Nat.le_of_ble_eq_true rfl⟩ (zs_in (by decide) mf228 (Nat.le_of_ble_eq_true rfl) ?_) (fun _ _ q => q)
  show zGo X l 0 0 0 228 0 [(0, .long a.toInt64), (2, .long (0 : Int64)), (4, .long (2 : Int64))] [] zMm _
  refine zs_lload_n (pc := 0) t228_0 rfl ?_
  refine zs_lload_n (pc := 1) t228_1 rfl ?_
  refine zs_lcmp (pc := 2) t228_2 (c := -1) (zlcL (zi2l rfl) ll0 (by omega)) ?_
  refine zs_if_ltT (pc := 3) t228_3 lin1 (by decide) ?_
  refine zs_iconst (pc := 17) t228_17 (v := 0) (by decide) ?_
  refine zs_iret (pc := 18) t228_18 mr228 (by decide) ?_
  show zGo X l 6 0 0 328 9 [(0, .ref 336), (1, .int a)] [.int (0 : Int32)] zMm _
  refine zs_if_neF (pc := 9) t328_9 li0 (by decide) ?_
  refine zs_iconst (pc := 12) t328_12 (v := -1) (by decide) ?_
  exact zs_iret (pc := 13) t328_13 mr328 (by decide) rfl
theorem c24_1 {X : zX} {l : Launch} : zCall X l 6 0 0 196 [.ref 6, .int (0 : Int32)] zMc (fun r _ => r = some (.int (2 : Int32))) := by
  refine zs_in (by decide) mf196 (Nat.le_of_ble_eq_true rfl) ?_
  show zGo X l 6 0 0 196 0 [(0, .ref 6), (1, .int (0 : Int32))] [] zMc _
  refine zs_iload_n (pc := 0) t196_0 rfl ?_
  refine zs_iconst (pc := 1) t196_1 (v := 0) (by decide) ?_
  refine zs_iconst (pc := 2) t196_2 (v := 2) (by decide) ?_
  refine zs_invS (pc := 3) (as := [.int (0 : Int32), .int (0 : Int32), .int (2 : Int32)]) (st := []) t196_3 (by decide) mf39 rfl rfl ⟨by decide, by decide, Nat.le_of_ble_eq_true rfl, Nat.le_of_ble_eq_true rfl⟩ (zs_in (by decide) mf39 (Nat.le_of_ble_eq_true rfl) ?_) (fun _ _ q => q)
  show zGo X l 0 0 0 39 0 [(0, .int (0 : Int32)), (1, .int (0 : Int32)), (2, .int (2 : Int32))] [] zMc _
  refine zs_iload_n (pc := 0) t39_0 rfl ?_
  refine zs_iload_n (pc := 1) t39_1 rfl ?_
  refine zs_icmp_ltF (pc := 2) t39_2 li0 li0 (by decide) ?_
  refine zs_iload_n (pc := 5) t39_5 rfl ?_
  refine zs_iload_n (pc := 6) t39_6 rfl ?_
  refine zs_icmp_gtF (pc := 7) t39_7 li0 li2 (by decide) ?_
  refine zs_iconst (pc := 10) t39_10 (v := 1) (by decide) ?_
  refine zs_goto (pc := 11) t39_11 ?_
  refine zs_iret (pc := 15) t39_15 mr39 (by decide) ?_
  show zGo X l 6 0 0 196 6 [(0, .ref 6), (1, .int (0 : Int32))] [.int (1 : Int32)] zMc _
  refine zs_if_neT (pc := 6) t196_6 li1 (by decide) ?_
  refine zs_aload_n (pc := 11) t196_11 rfl ?_
  refine zs_get (pc := 12) t196_12 (by decide) (zk1 fk_zMc_6) fv_zMc_6_6 ?_
  refine zs_aload_n (pc := 15) t196_15 rfl ?_
  refine zs_get (pc := 16) t196_16 (by decide) (zk1 fk_zMc_6) fv_zMc_6_0 ?_
  refine zs_invV (pc := 19) (k := 164) (as' := [.ref 7]) (st := []) t196_19 mf105 rfl rfl (Or.inl ⟨by decide, (zk1 fk_zMc_164)⟩) ⟨by decide, by decide, Nat.le_of_ble_eq_true rfl, Nat.le_of_ble_eq_true rfl⟩ (cc1 (X := X) (l := l)) ?_
  rintro r M1 ⟨rfl, M1k164, M1v164_4, M1k325, M1rM3, M1v164_9, M1v164_1, M1k165, M1rM4, M1k6, M1v6_6, -⟩
  show zGo X l 6 0 0 196 22 [(0, .ref 6), (1, .int (0 : Int32))] [.ref 164] M1 _
  refine zs_invV (pc := 22) (k := 164) (as' := []) (st := []) t196_22 mf197 rfl rfl (Or.inl ⟨by decide, (zk1 M1k164)⟩) ⟨by decide, by decide, Nat.le_of_ble_eq_true rfl, Nat.le_of_ble_eq_true rfl⟩ (zs_run mf197 (by decide) M1rM4 (fun _ _ q => of_decide_eq_true q)) ?_
  rintro r M4 ⟨rfl, M4k6, M4v6_6, M4k164, M4rM5, M4rM6, -⟩
  show zGo X l 6 0 0 196 25 [(0, .ref 6), (1, .int (0 : Int32))] [.int (2 : Int32)] M4 _
  refine zs_istore_n (pc := 25) t196_25 (ls' := [(2, .int (2 : Int32)), (0, .ref 6), (1, .int (0 : Int32))]) (zml mf196 (by decide)) rfl ?_
  refine zs_iload_n (pc := 26) t196_26 rfl ?_
  refine zs_if_neF (pc := 27) t196_27 li0 (by decide) ?_
  refine zs_iload_n (pc := 30) t196_30 rfl ?_
  exact zs_iret (pc := 31) t196_31 mr196 (by decide) rfl
theorem m24_1 {X : zX} {l : Launch} : zCall X l 6 0 0 328 [.ref 336, .int (0 : Int32)] zMm (fun r _ => r = some (.int (2 : Int32))) := zs_run (q := 16217) (Qb := fun r _ => decide (r = some (.int (2 : Int32)))) mf328 (by decide) (by decide +kernel) (fun _ _ q => of_decide_eq_true q)
theorem c24_2 {X : zX} {l : Launch} : zCall X l 6 0 0 196 [.ref 6, .int (1 : Int32)] zMc (fun r _ => r = some (.int (0 : Int32))) := by
  refine zs_in (by decide) mf196 (Nat.le_of_ble_eq_true rfl) ?_
  show zGo X l 6 0 0 196 0 [(0, .ref 6), (1, .int (1 : Int32))] [] zMc _
  refine zs_iload_n (pc := 0) t196_0 rfl ?_
  refine zs_iconst (pc := 1) t196_1 (v := 0) (by decide) ?_
  refine zs_iconst (pc := 2) t196_2 (v := 2) (by decide) ?_
  refine zs_invS (pc := 3) (as := [.int (1 : Int32), .int (0 : Int32), .int (2 : Int32)]) (st := []) t196_3 (by decide) mf39 rfl rfl ⟨by decide, by decide, Nat.le_of_ble_eq_true rfl, Nat.le_of_ble_eq_true rfl⟩ (zs_in (by decide) mf39 (Nat.le_of_ble_eq_true rfl) ?_) (fun _ _ q => q)
  show zGo X l 0 0 0 39 0 [(0, .int (1 : Int32)), (1, .int (0 : Int32)), (2, .int (2 : Int32))] [] zMc _
  refine zs_iload_n (pc := 0) t39_0 rfl ?_
  refine zs_iload_n (pc := 1) t39_1 rfl ?_
  refine zs_icmp_ltF (pc := 2) t39_2 li1 li0 (by decide) ?_
  refine zs_iload_n (pc := 5) t39_5 rfl ?_
  refine zs_iload_n (pc := 6) t39_6 rfl ?_
  refine zs_icmp_gtF (pc := 7) t39_7 li1 li2 (by decide) ?_
  refine zs_iconst (pc := 10) t39_10 (v := 1) (by decide) ?_
  refine zs_goto (pc := 11) t39_11 ?_
  refine zs_iret (pc := 15) t39_15 mr39 (by decide) ?_
  show zGo X l 6 0 0 196 6 [(0, .ref 6), (1, .int (1 : Int32))] [.int (1 : Int32)] zMc _
  refine zs_if_neT (pc := 6) t196_6 li1 (by decide) ?_
  refine zs_aload_n (pc := 11) t196_11 rfl ?_
  refine zs_get (pc := 12) t196_12 (by decide) (zk1 fk_zMc_6) fv_zMc_6_6 ?_
  refine zs_aload_n (pc := 15) t196_15 rfl ?_
  refine zs_get (pc := 16) t196_16 (by decide) (zk1 fk_zMc_6) fv_zMc_6_0 ?_
  refine zs_invV (pc := 19) (k := 164) (as' := [.ref 7]) (st := []) t196_19 mf105 rfl rfl (Or.inl ⟨by decide, (zk1 fk_zMc_164)⟩) ⟨by decide, by decide, Nat.le_of_ble_eq_true rfl, Nat.le_of_ble_eq_true rfl⟩ (cc1 (X := X) (l := l)) ?_
  rintro r M1 ⟨rfl, M1k164, M1v164_4, M1k325, M1rM3, M1v164_9, M1v164_1, M1k165, M1rM4, M1k6, M1v6_6, -⟩
  show zGo X l 6 0 0 196 22 [(0, .ref 6), (1, .int (1 : Int32))] [.ref 164] M1 _
  refine zs_invV (pc := 22) (k := 164) (as' := []) (st := []) t196_22 mf197 rfl rfl (Or.inl ⟨by decide, (zk1 M1k164)⟩) ⟨by decide, by decide, Nat.le_of_ble_eq_true rfl, Nat.le_of_ble_eq_true rfl⟩ (zs_run mf197 (by decide) M1rM4 (fun _ _ q => of_decide_eq_true q)) ?_
  rintro r M4 ⟨rfl, M4k6, M4v6_6, M4k164, M4rM5, M4rM6, -⟩
  show zGo X l 6 0 0 196 25 [(0, .ref 6), (1, .int (1 : Int32))] [.int (2 : Int32)] M4 _
  refine zs_istore_n (pc := 25) t196_25 (ls' := [(2, .int (2 : Int32)), (0, .ref 6), (1, .int (1 : Int32))]) (zml mf196 (by decide)) rfl ?_
  refine zs_iload_n (pc := 26) t196_26 rfl ?_
  refine zs_if_neT (pc := 27) t196_27 li1 (by decide) ?_
  refine zs_iload_n (pc := 32) t196_32 rfl ?_
  refine zs_iconst (pc := 33) t196_33 (v := 1) (by decide) ?_
  refine zs_icmp_neF (pc := 34) t196_34 li1 li1 (by decide) ?_
  refine zs_aload_n (pc := 37) t196_37 rfl ?_
  refine zs_get (pc := 38) t196_38 (by decide) (zk1 M4k6) M4v6_6 ?_
  refine zs_iload_n (pc := 41) t196_41 rfl ?_
  refine zs_invV (pc := 42) (k := 164) (as' := [.int (2 : Int32)]) (st := []) t196_42 mf198 rfl rfl (Or.inl ⟨by decide, (zk1 M4k164)⟩) ⟨by decide, by decide, Nat.le_of_ble_eq_true rfl, Nat.le_of_ble_eq_true rfl⟩ (zs_run mf198 (by decide) M4rM5 (fun _ _ q => of_decide_eq_true q)) ?_
  rintro r M5 ⟨rfl, -⟩
  show zGo X l 6 0 0 196 45 [(2, .int (2 : Int32)), (0, .ref 6), (1, .int (1 : Int32))] [.int (0 : Int32)] M5 _
  refine zs_goto (pc := 45) t196_45 ?_
  exact zs_iret (pc := 56) t196_56 mr196 (by decide) rfl
theorem m24_2 {X : zX} {l : Launch} : zCall X l 6 0 0 328 [.ref 336, .int (1 : Int32)] zMm (fun r _ => r = some (.int (0 : Int32))) := zs_run (q := 16220) (Qb := fun r _ => decide (r = some (.int (0 : Int32)))) mf328 (by decide) (by decide +kernel) (fun _ _ q => of_decide_eq_true q)
theorem c24_3 {X : zX} {l : Launch} : zCall X l 6 0 0 196 [.ref 6, .int (2 : Int32)] zMc (fun r _ => r = some (.int (0 : Int32))) := by
  refine zs_in (by decide) mf196 (Nat.le_of_ble_eq_true rfl) ?_
  show zGo X l 6 0 0 196 0 [(0, .ref 6), (1, .int (2 : Int32))] [] zMc _
  refine zs_iload_n (pc := 0) t196_0 rfl ?_
  refine zs_iconst (pc := 1) t196_1 (v := 0) (by decide) ?_
  refine zs_iconst (pc := 2) t196_2 (v := 2) (by decide) ?_
  refine zs_invS (pc := 3) (as := [.int (2 : Int32), .int (0 : Int32), .int (2 : Int32)]) (st := []) t196_3 (by decide) mf39 rfl rfl ⟨by decide, by decide, Nat.le_of_ble_eq_true rfl, Nat.le_of_ble_eq_true rfl⟩ (zs_in (by decide) mf39 (Nat.le_of_ble_eq_true rfl) ?_) (fun _ _ q => q)
  show zGo X l 0 0 0 39 0 [(0, .int (2 : Int32)), (1, .int (0 : Int32)), (2, .int (2 : Int32))] [] zMc _
  refine zs_iload_n (pc := 0) t39_0 rfl ?_
  refine zs_iload_n (pc := 1) t39_1 rfl ?_
  refine zs_icmp_ltF (pc := 2) t39_2 li2 li0 (by decide) ?_
  refine zs_iload_n (pc := 5) t39_5 rfl ?_
  refine zs_iload_n (pc := 6) t39_6 rfl ?_
  refine zs_icmp_gtF (pc := 7) t39_7 li2 li2 (by decide) ?_
  refine zs_iconst (pc := 10) t39_10 (v := 1) (by decide) ?_
  refine zs_goto (pc := 11) t39_11 ?_
  refine zs_iret (pc := 15) t39_15 mr39 (by decide) ?_
  show zGo X l 6 0 0 196 6 [(0, .ref 6), (1, .int (2 : Int32))] [.int (1 : Int32)] zMc _
  refine zs_if_neT (pc := 6) t196_6 li1 (by decide) ?_
  refine zs_aload_n (pc := 11) t196_11 rfl ?_
  refine zs_get (pc := 12) t196_12 (by decide) (zk1 fk_zMc_6) fv_zMc_6_6 ?_
  refine zs_aload_n (pc := 15) t196_15 rfl ?_
  refine zs_get (pc := 16) t196_16 (by decide) (zk1 fk_zMc_6) fv_zMc_6_0 ?_
  refine zs_invV (pc := 19) (k := 164) (as' := [.ref 7]) (st := []) t196_19 mf105 rfl rfl (Or.inl ⟨by decide, (zk1 fk_zMc_164)⟩) ⟨by decide, by decide, Nat.le_of_ble_eq_true rfl, Nat.le_of_ble_eq_true rfl⟩ (cc1 (X := X) (l := l)) ?_
  rintro r M1 ⟨rfl, M1k164, M1v164_4, M1k325, M1rM3, M1v164_9, M1v164_1, M1k165, M1rM4, M1k6, M1v6_6, -⟩
  show zGo X l 6 0 0 196 22 [(0, .ref 6), (1, .int (2 : Int32))] [.ref 164] M1 _
  refine zs_invV (pc := 22) (k := 164) (as' := []) (st := []) t196_22 mf197 rfl rfl (Or.inl ⟨by decide, (zk1 M1k164)⟩) ⟨by decide, by decide, Nat.le_of_ble_eq_true rfl, Nat.le_of_ble_eq_true rfl⟩ (zs_run mf197 (by decide) M1rM4 (fun _ _ q => of_decide_eq_true q)) ?_
  rintro r M4 ⟨rfl, M4k6, M4v6_6, M4k164, M4rM5, M4rM6, -⟩
  show zGo X l 6 0 0 196 25 [(0, .ref 6), (1, .int (2 : Int32))] [.int (2 : Int32)] M4 _
  refine zs_istore_n (pc := 25) t196_25 (ls' := [(2, .int (2 : Int32)), (0, .ref 6), (1, .int (2 : Int32))]) (zml mf196 (by decide)) rfl ?_
  refine zs_iload_n (pc := 26) t196_26 rfl ?_
  refine zs_if_neT (pc := 27) t196_27 li2 (by decide) ?_
  refine zs_iload_n (pc := 32) t196_32 rfl ?_
  refine zs_iconst (pc := 33) t196_33 (v := 1) (by decide) ?_
  refine zs_icmp_neT (pc := 34) t196_34 li2 li1 (by decide) ?_
  refine zs_aload_n (pc := 48) t196_48 rfl ?_
  refine zs_get (pc := 49) t196_49 (by decide) (zk1 M4k6) M4v6_6 ?_
  refine zs_iload_n (pc := 52) t196_52 rfl ?_
  refine zs_invV (pc := 53) (k := 164) (as' := [.int (2 : Int32)]) (st := []) t196_53 mf199 rfl rfl (Or.inl ⟨by decide, (zk1 M4k164)⟩) ⟨by decide, by decide, Nat.le_of_ble_eq_true rfl, Nat.le_of_ble_eq_true rfl⟩ (zs_run mf199 (by decide) M4rM6 (fun _ _ q => of_decide_eq_true q)) ?_
  rintro r M6 ⟨rfl, -⟩
  show zGo X l 6 0 0 196 56 [(2, .int (2 : Int32)), (0, .ref 6), (1, .int (2 : Int32))] [.int (0 : Int32)] M6 _
  exact zs_iret (pc := 56) t196_56 mr196 (by decide) rfl
theorem m24_3 {X : zX} {l : Launch} : zCall X l 6 0 0 328 [.ref 336, .int (2 : Int32)] zMm (fun r _ => r = some (.int (0 : Int32))) := zs_run (q := 16219) (Qb := fun r _ => decide (r = some (.int (0 : Int32)))) mf328 (by decide) (by decide +kernel) (fun _ _ q => of_decide_eq_true q)
theorem c24_4 {X : zX} {l : Launch} {a : Int32} (la : 3 ≤ a.toInt) (ua : a.toInt ≤ 2147483647) : zCall X l 6 0 0 196 [.ref 6, .int a] zMc (fun r _ => r = some (.int (-1 : Int32))) := by
  have ga := zrg a
  refine zs_in (by decide) mf196 (Nat.le_of_ble_eq_true rfl) ?_
  show zGo X l 6 0 0 196 0 [(0, .ref 6), (1, .int a)] [] zMc _
  refine zs_iload_n (pc := 0) t196_0 rfl ?_
  refine zs_iconst (pc := 1) t196_1 (v := 0) (by decide) ?_
  refine zs_iconst (pc := 2) t196_2 (v := 2) (by decide) ?_
  refine zs_invS (pc := 3) (as := [.int a, .int (0 : Int32), .int (2 : Int32)]) (st := []) t196_3 (by decide) mf39 rfl rfl ⟨by decide, by decide, Nat.le_of_ble_eq_true rfl, Nat.le_of_ble_eq_true rfl⟩ (zs_in (by decide) mf39 (Nat.le_of_ble_eq_true rfl) ?_) (fun _ _ q => q)
  show zGo X l 0 0 0 39 0 [(0, .int a), (1, .int (0 : Int32)), (2, .int (2 : Int32))] [] zMc _
  refine zs_iload_n (pc := 0) t39_0 rfl ?_
  refine zs_iload_n (pc := 1) t39_1 rfl ?_
  refine zs_icmp_ltF (pc := 2) t39_2 rfl li0 (by omega) ?_
  refine zs_iload_n (pc := 5) t39_5 rfl ?_
  refine zs_iload_n (pc := 6) t39_6 rfl ?_
  refine zs_icmp_gtT (pc := 7) t39_7 rfl li2 (by omega) ?_
  refine zs_iconst (pc := 14) t39_14 (v := 0) (by decide) ?_
  refine zs_iret (pc := 15) t39_15 mr39 (by decide) ?_
  show zGo X l 6 0 0 196 6 [(0, .ref 6), (1, .int a)] [.int (0 : Int32)] zMc _
  refine zs_if_neF (pc := 6) t196_6 li0 (by decide) ?_
  refine zs_iconst (pc := 9) t196_9 (v := -1) (by decide) ?_
  exact zs_iret (pc := 10) t196_10 mr196 (by decide) rfl
theorem m24_4 {X : zX} {l : Launch} {a : Int32} (la : 3 ≤ a.toInt) (ua : a.toInt ≤ 2147483647) : zCall X l 6 0 0 328 [.ref 336, .int a] zMm (fun r _ => r = some (.int (-1 : Int32))) := by
  have ga := zrg a
  refine zs_in (by decide) mf328 (Nat.le_of_ble_eq_true rfl) ?_
  show zGo X l 6 0 0 328 0 [(0, .ref 336), (1, .int a)] [] zMm _
  refine zs_iload_n (pc := 0) t328_0 rfl ?_
  refine zs_i2l (pc := 1) t328_1 rfl ?_
  refine zs_lconst (pc := 2) t328_2 (v := 0) (by decide) ?_
  refine zs_ldc2_w (pc := 3) t328_3 (v := 2) (by decide) ?_
  refine zs_invS (pc := 6) (as := [.long a.toInt64, .long (0 : Int64), .long (2 : Int64)]) (st := []) t328_6 (by decide) mf228 rfl rfl ⟨by decide, by decide, Nat.le_of_ble_eq_true rfl, Nat.le_of_ble_eq_true rfl⟩ (zs_in (by decide) mf228 (Nat.le_of_ble_eq_true rfl) ?_) (fun _ _ q => q)
  show zGo X l 0 0 0 228 0 [(0, .long a.toInt64), (2, .long (0 : Int64)), (4, .long (2 : Int64))] [] zMm _
  refine zs_lload_n (pc := 0) t228_0 rfl ?_
  refine zs_lload_n (pc := 1) t228_1 rfl ?_
  refine zs_lcmp (pc := 2) t228_2 (c := 1) (zlcG (zi2l rfl) ll0 (by omega)) ?_
  refine zs_if_ltF (pc := 3) t228_3 li1 (by decide) ?_
  refine zs_lload_n (pc := 6) t228_6 rfl ?_
  refine zs_lload (pc := 7) t228_7 rfl ?_
  refine zs_lcmp (pc := 9) t228_9 (c := 1) (zlcG (zi2l rfl) ll2 (by omega)) ?_
  refine zs_if_gtT (pc := 10) t228_10 li1 (by decide) ?_
  refine zs_iconst (pc := 17) t228_17 (v := 0) (by decide) ?_
  refine zs_iret (pc := 18) t228_18 mr228 (by decide) ?_
  show zGo X l 6 0 0 328 9 [(0, .ref 336), (1, .int a)] [.int (0 : Int32)] zMm _
  refine zs_if_neF (pc := 9) t328_9 li0 (by decide) ?_
  refine zs_iconst (pc := 12) t328_12 (v := -1) (by decide) ?_
  exact zs_iret (pc := 13) t328_13 mr328 (by decide) rfl
theorem c25_0 {X : zX} {l : Launch} {a b c : Int32} : zCall X l 4 0 0 89 [.ref 6, .int a, .int b, .int c] zMc (fun r _ => r = some (.int (-1 : Int32))) := by
  have ga := zrg a
  have gb := zrg b
  have gc := zrg c
  refine zs_in (by decide) mf89 (Nat.le_of_ble_eq_true rfl) ?_
  show zGo X l 4 0 0 89 0 [(0, .ref 6), (1, .int a), (2, .int b), (3, .int c)] [] zMc _
  refine zs_aload_n (pc := 0) t89_0 rfl ?_
  refine zs_get (pc := 1) t89_1 (by decide) (zk1 fk_zMc_6) fv_zMc_6_0 ?_
  refine zs_iload_n (pc := 4) t89_4 rfl ?_
  refine zs_iload_n (pc := 5) t89_5 rfl ?_
  refine zs_iload_n (pc := 6) t89_6 rfl ?_
  refine zs_invV (pc := 7) (k := 7) (as' := [.int a, .int b, .int c]) (st := []) t89_7 mf51 rfl rfl (Or.inl ⟨by decide, (zk1 fk_zMc_7)⟩) ⟨by decide, by decide, Nat.le_of_ble_eq_true rfl, Nat.le_of_ble_eq_true rfl⟩ (zs_in (by decide) mf51 (Nat.le_of_ble_eq_true rfl) ?_) (fun _ _ q => q)
  show zGo X l 1 0 0 51 0 [(0, .ref 7), (1, .int a), (2, .int b), (3, .int c)] [] zMc _
  refine zs_aload_n (pc := 0) t51_0 rfl ?_
  refine zs_iload_n (pc := 1) t51_1 rfl ?_
  refine zs_invV (pc := 2) (k := 7) (as' := [.int a]) (st := []) t51_2 mf41 rfl rfl (Or.inl ⟨by decide, (zk1 fk_zMc_7)⟩) ⟨by decide, by decide, Nat.le_of_ble_eq_true rfl, Nat.le_of_ble_eq_true rfl⟩ (zs_in (by decide) mf41 (Nat.le_of_ble_eq_true rfl) ?_) (fun _ _ q => q)
  show zGo X l 0 0 0 41 0 [(0, .ref 7), (1, .int a)] [] zMc _
  refine zs_iload_n (pc := 0) t41_0 rfl ?_
  by_cases w1 : a.toInt < 0
  · refine zs_if_ltT (pc := 1) t41_1 rfl (by omega) ?_
    refine zs_iconst (pc := 16) t41_16 (v := 0) (by decide) ?_
    refine zs_iret (pc := 17) t41_17 mr41 (by decide) ?_
    show zGo X l 1 0 0 51 5 [(0, .ref 7), (1, .int a), (2, .int b), (3, .int c)] [.int (0 : Int32)] zMc _
    refine zs_if_eqT (pc := 5) t51_5 li0 (by decide) ?_
    refine zs_iconst (pc := 39) t51_39 (v := 0) (by decide) ?_
    refine zs_iret (pc := 40) t51_40 mr51 (by decide) ?_
    show zGo X l 4 0 0 89 10 [(0, .ref 6), (1, .int a), (2, .int b), (3, .int c)] [.int (0 : Int32)] zMc _
    refine zs_if_neF (pc := 10) t89_10 li0 (by decide) ?_
    refine zs_iconst (pc := 13) t89_13 (v := -1) (by decide) ?_
    exact zs_iret (pc := 14) t89_14 mr89 (by decide) rfl
  · refine zs_if_ltF (pc := 1) t41_1 rfl (by omega) ?_
    refine zs_iload_n (pc := 4) t41_4 rfl ?_
    refine zs_aload_n (pc := 5) t41_5 rfl ?_
    refine zs_get (pc := 6) t41_6 (by decide) (zk1 fk_zMc_7) fv_zMc_7_0 ?_
    refine zs_icmp_geT (pc := 9) t41_9 rfl li0 (by omega) ?_
    refine zs_iconst (pc := 16) t41_16 (v := 0) (by decide) ?_
    refine zs_iret (pc := 17) t41_17 mr41 (by decide) ?_
    show zGo X l 1 0 0 51 5 [(0, .ref 7), (1, .int a), (2, .int b), (3, .int c)] [.int (0 : Int32)] zMc _
    refine zs_if_eqT (pc := 5) t51_5 li0 (by decide) ?_
    refine zs_iconst (pc := 39) t51_39 (v := 0) (by decide) ?_
    refine zs_iret (pc := 40) t51_40 mr51 (by decide) ?_
    show zGo X l 4 0 0 89 10 [(0, .ref 6), (1, .int a), (2, .int b), (3, .int c)] [.int (0 : Int32)] zMc _
    refine zs_if_neF (pc := 10) t89_10 li0 (by decide) ?_
    refine zs_iconst (pc := 13) t89_13 (v := -1) (by decide) ?_
    exact zs_iret (pc := 14) t89_14 mr89 (by decide) rfl
theorem m25_0 {X : zX} {l : Launch} {a b c : Int32} : zCall X l 2 0 0 331 [.ref 336, .int a, .int b, .int c] zMm (fun r _ => r = some (.int (-1 : Int32))) := by
  have ga := zrg a
  have gb := zrg b
  have gc := zrg c
  refine zs_in (by decide) mf331 (Nat.le_of_ble_eq_true rfl) ?_
  show zGo X l 2 0 0 331 0 [(0, .ref 336), (1, .int a), (2, .int b), (3, .int c)] [] zMm _
  refine zs_aload_n (pc := 0) t331_0 rfl ?_
  refine zs_iload_n (pc := 1) t331_1 rfl ?_
  refine zs_invV (pc := 2) (k := 336) (as' := [.int a]) (st := []) t331_2 mf306 rfl rfl (Or.inl ⟨by decide, (zk1 fk_zMm_336)⟩) ⟨by decide, by decide, Nat.le_of_ble_eq_true rfl, Nat.le_of_ble_eq_true rfl⟩ (zs_in (by decide) mf306 (Nat.le_of_ble_eq_true rfl) ?_) (fun _ _ q => q)
  show zGo X l 1 0 0 306 0 [(0, .ref 336), (1, .int a)] [] zMm _
  refine zs_iload_n (pc := 0) t306_0 rfl ?_
  refine zs_i2l (pc := 1) t306_1 rfl ?_
  refine zs_lconst (pc := 2) t306_2 (v := 0) (by decide) ?_
  refine zs_aload_n (pc := 3) t306_3 rfl ?_
  refine zs_get (pc := 4) t306_4 (by decide) (zk1 fk_zMm_336) fv_zMm_336_0 ?_
  refine zs_iconst (pc := 7) t306_7 (v := 0) (by decide) ?_
  refine zs_iald (pc := 8) t306_8 (j := 0) (by decide) (zk1 fk_zMm_337) (by decide) (zk2 fk_zMm_337 (by decide)) fa_zMm_337_0 ?_
  refine zs_iconst (pc := 9) t306_9 (v := 1) (by decide) ?_
  refine zs_isub (pc := 10) t306_10 (c := -1) (by decide) ?_
  refine zs_i2l (pc := 11) t306_11 (c := -1) (by decide) ?_
  refine zs_invS (pc := 12) (as := [.long a.toInt64, .long (0 : Int64), .long (-1 : Int64)]) (st := []) t306_12 (by decide) mf228 rfl rfl ⟨by decide, by decide, Nat.le_of_ble_eq_true rfl, Nat.le_of_ble_eq_true rfl⟩ (zs_in (by decide) mf228 (Nat.le_of_ble_eq_true rfl) ?_) (fun _ _ q => q)
  show zGo X l 0 0 0 228 0 [(0, .long a.toInt64), (2, .long (0 : Int64)), (4, .long (-1 : Int64))] [] zMm _
  refine zs_lload_n (pc := 0) t228_0 rfl ?_
  refine zs_lload_n (pc := 1) t228_1 rfl ?_
  by_cases w1 : a.toInt < 0
  · refine zs_lcmp (pc := 2) t228_2 (c := -1) (zlcL (zi2l rfl) ll0 (by omega)) ?_
    refine zs_if_ltT (pc := 3) t228_3 lin1 (by decide) ?_
    refine zs_iconst (pc := 17) t228_17 (v := 0) (by decide) ?_
    refine zs_iret (pc := 18) t228_18 mr228 (by decide) ?_
    show zGo X l 1 0 0 306 15 [(0, .ref 336), (1, .int a)] [.int (0 : Int32)] zMm _
    refine zs_iret (pc := 15) t306_15 mr306 (by decide) ?_
    show zGo X l 2 0 0 331 5 [(0, .ref 336), (1, .int a), (2, .int b), (3, .int c)] [.int (0 : Int32)] zMm _
    refine zs_if_eqT (pc := 5) t331_5 li0 (by decide) ?_
    refine zs_iconst (pc := 45) t331_45 (v := -1) (by decide) ?_
    exact zs_iret (pc := 46) t331_46 mr331 (by decide) rfl
  by_cases w2 : a.toInt = 0
  · refine zs_lcmp (pc := 2) t228_2 (c := 0) (zlcE (zi2l rfl) ll0 (by omega)) ?_
    refine zs_if_ltF (pc := 3) t228_3 li0 (by decide) ?_
    refine zs_lload_n (pc := 6) t228_6 rfl ?_
    refine zs_lload (pc := 7) t228_7 rfl ?_
    refine zs_lcmp (pc := 9) t228_9 (c := 1) (zlcG (zi2l rfl) lln1 (by omega)) ?_
    refine zs_if_gtT (pc := 10) t228_10 li1 (by decide) ?_
    refine zs_iconst (pc := 17) t228_17 (v := 0) (by decide) ?_
    refine zs_iret (pc := 18) t228_18 mr228 (by decide) ?_
    show zGo X l 1 0 0 306 15 [(0, .ref 336), (1, .int a)] [.int (0 : Int32)] zMm _
    refine zs_iret (pc := 15) t306_15 mr306 (by decide) ?_
    show zGo X l 2 0 0 331 5 [(0, .ref 336), (1, .int a), (2, .int b), (3, .int c)] [.int (0 : Int32)] zMm _
    refine zs_if_eqT (pc := 5) t331_5 li0 (by decide) ?_
    refine zs_iconst (pc := 45) t331_45 (v := -1) (by decide) ?_
    exact zs_iret (pc := 46) t331_46 mr331 (by decide) rfl
  refine zs_lcmp (pc := 2) t228_2 (c := 1) (zlcG (zi2l rfl) ll0 (by omega)) ?_
  refine zs_if_ltF (pc := 3) t228_3 li1 (by decide) ?_
  refine zs_lload_n (pc := 6) t228_6 rfl ?_
  refine zs_lload (pc := 7) t228_7 rfl ?_
  refine zs_lcmp (pc := 9) t228_9 (c := 1) (zlcG (zi2l rfl) lln1 (by omega)) ?_
  refine zs_if_gtT (pc := 10) t228_10 li1 (by decide) ?_
  refine zs_iconst (pc := 17) t228_17 (v := 0) (by decide) ?_
  refine zs_iret (pc := 18) t228_18 mr228 (by decide) ?_
  show zGo X l 1 0 0 306 15 [(0, .ref 336), (1, .int a)] [.int (0 : Int32)] zMm _
  refine zs_iret (pc := 15) t306_15 mr306 (by decide) ?_
  show zGo X l 2 0 0 331 5 [(0, .ref 336), (1, .int a), (2, .int b), (3, .int c)] [.int (0 : Int32)] zMm _
  refine zs_if_eqT (pc := 5) t331_5 li0 (by decide) ?_
  refine zs_iconst (pc := 45) t331_45 (v := -1) (by decide) ?_
  exact zs_iret (pc := 46) t331_46 mr331 (by decide) rfl
theorem c26_0 {X : zX} {l : Launch} {a : Int32} : zCall X l 4 0 0 90 [.ref 6, .int a] zMc (fun r _ => r = some (.int (-1 : Int32))) := by
  have ga := zrg a
  refine zs_in (by decide) mf90 (Nat.le_of_ble_eq_true rfl) ?_
  show zGo X l 4 0 0 90 0 [(0, .ref 6), (1, .int a)] [] zMc _
  refine zs_aload_n (pc := 0) t90_0 rfl ?_
  refine zs_get (pc := 1) t90_1 (by decide) (zk1 fk_zMc_6) fv_zMc_6_0 ?_
  refine zs_iload_n (pc := 4) t90_4 rfl ?_
  refine zs_invV (pc := 5) (k := 7) (as' := [.int a]) (st := []) t90_5 mf91 rfl rfl (Or.inl ⟨by decide, (zk1 fk_zMc_7)⟩) ⟨by decide, by decide, Nat.le_of_ble_eq_true rfl, Nat.le_of_ble_eq_true rfl⟩ (zs_in (by decide) mf91 (Nat.le_of_ble_eq_true rfl) ?_) (fun _ _ q => q)
  show zGo X l 0 0 0 91 0 [(0, .ref 7), (1, .int a)] [] zMc _
  refine zs_iload_n (pc := 0) t91_0 rfl ?_
  by_cases w1 : a.toInt < 0
  · refine zs_if_ltT (pc := 1) t91_1 rfl (by omega) ?_
    refine zs_iconst (pc := 16) t91_16 (v := 0) (by decide) ?_
    refine zs_iret (pc := 17) t91_17 mr91 (by decide) ?_
    show zGo X l 4 0 0 90 8 [(0, .ref 6), (1, .int a)] [.int (0 : Int32)] zMc _
    refine zs_if_eqT (pc := 8) t90_8 li0 (by decide) ?_
    refine zs_iconst (pc := 23) t90_23 (v := -1) (by decide) ?_
    exact zs_iret (pc := 24) t90_24 mr90 (by decide) rfl
  · refine zs_if_ltF (pc := 1) t91_1 rfl (by omega) ?_
    refine zs_iload_n (pc := 4) t91_4 rfl ?_
    refine zs_aload_n (pc := 5) t91_5 rfl ?_
    refine zs_get (pc := 6) t91_6 (by decide) (zk1 fk_zMc_7) fv_zMc_7_3 ?_
    refine zs_icmp_geT (pc := 9) t91_9 rfl li0 (by omega) ?_
    refine zs_iconst (pc := 16) t91_16 (v := 0) (by decide) ?_
    refine zs_iret (pc := 17) t91_17 mr91 (by decide) ?_
    show zGo X l 4 0 0 90 8 [(0, .ref 6), (1, .int a)] [.int (0 : Int32)] zMc _
    refine zs_if_eqT (pc := 8) t90_8 li0 (by decide) ?_
    refine zs_iconst (pc := 23) t90_23 (v := -1) (by decide) ?_
    exact zs_iret (pc := 24) t90_24 mr90 (by decide) rfl
theorem m26_0 {X : zX} {l : Launch} {a : Int32} : zCall X l 3 0 0 332 [.ref 336, .int a] zMm (fun r _ => r = some (.int (-1 : Int32))) := by
  have ga := zrg a
  refine zs_in (by decide) mf332 (Nat.le_of_ble_eq_true rfl) ?_
  show zGo X l 3 0 0 332 0 [(0, .ref 336), (1, .int a)] [] zMm _
  refine zs_aload_n (pc := 0) t332_0 rfl ?_
  refine zs_iload_n (pc := 1) t332_1 rfl ?_
  refine zs_invV (pc := 2) (k := 336) (as' := [.int a]) (st := []) t332_2 mf308 rfl rfl (Or.inl ⟨by decide, (zk1 fk_zMm_336)⟩) ⟨by decide, by decide, Nat.le_of_ble_eq_true rfl, Nat.le_of_ble_eq_true rfl⟩ (zs_in (by decide) mf308 (Nat.le_of_ble_eq_true rfl) ?_) (fun _ _ q => q)
  show zGo X l 1 0 0 308 0 [(0, .ref 336), (1, .int a)] [] zMm _
  refine zs_iload_n (pc := 0) t308_0 rfl ?_
  refine zs_i2l (pc := 1) t308_1 rfl ?_
  refine zs_lconst (pc := 2) t308_2 (v := 0) (by decide) ?_
  refine zs_aload_n (pc := 3) t308_3 rfl ?_
  refine zs_get (pc := 4) t308_4 (by decide) (zk1 fk_zMm_336) fv_zMm_336_0 ?_
  refine zs_iconst (pc := 7) t308_7 (v := 1) (by decide) ?_
  refine zs_iald (pc := 8) t308_8 (j := 1) (by decide) (zk1 fk_zMm_337) (by decide) (zk2 fk_zMm_337 (by decide)) fa_zMm_337_1 ?_
  refine zs_iconst (pc := 9) t308_9 (v := 1) (by decide) ?_
  refine zs_isub (pc := 10) t308_10 (c := -1) (by decide) ?_
  refine zs_i2l (pc := 11) t308_11 (c := -1) (by decide) ?_
  refine zs_invS (pc := 12) (as := [.long a.toInt64, .long (0 : Int64), .long (-1 : Int64)]) (st := []) t308_12 (by decide) mf228 rfl rfl ⟨by decide, by decide, Nat.le_of_ble_eq_true rfl, Nat.le_of_ble_eq_true rfl⟩ (zs_in (by decide) mf228 (Nat.le_of_ble_eq_true rfl) ?_) (fun _ _ q => q)
  show zGo X l 0 0 0 228 0 [(0, .long a.toInt64), (2, .long (0 : Int64)), (4, .long (-1 : Int64))] [] zMm _
  refine zs_lload_n (pc := 0) t228_0 rfl ?_
  refine zs_lload_n (pc := 1) t228_1 rfl ?_
  by_cases w1 : a.toInt < 0
  · refine zs_lcmp (pc := 2) t228_2 (c := -1) (zlcL (zi2l rfl) ll0 (by omega)) ?_
    refine zs_if_ltT (pc := 3) t228_3 lin1 (by decide) ?_
    refine zs_iconst (pc := 17) t228_17 (v := 0) (by decide) ?_
    refine zs_iret (pc := 18) t228_18 mr228 (by decide) ?_
    show zGo X l 1 0 0 308 15 [(0, .ref 336), (1, .int a)] [.int (0 : Int32)] zMm _
    refine zs_iret (pc := 15) t308_15 mr308 (by decide) ?_
    show zGo X l 3 0 0 332 5 [(0, .ref 336), (1, .int a)] [.int (0 : Int32)] zMm _
    refine zs_if_eqT (pc := 5) t332_5 li0 (by decide) ?_
    refine zs_iconst (pc := 18) t332_18 (v := -1) (by decide) ?_
    exact zs_iret (pc := 19) t332_19 mr332 (by decide) rfl
  by_cases w2 : a.toInt = 0
  · refine zs_lcmp (pc := 2) t228_2 (c := 0) (zlcE (zi2l rfl) ll0 (by omega)) ?_
    refine zs_if_ltF (pc := 3) t228_3 li0 (by decide) ?_
    refine zs_lload_n (pc := 6) t228_6 rfl ?_
    refine zs_lload (pc := 7) t228_7 rfl ?_
    refine zs_lcmp (pc := 9) t228_9 (c := 1) (zlcG (zi2l rfl) lln1 (by omega)) ?_
    refine zs_if_gtT (pc := 10) t228_10 li1 (by decide) ?_
    refine zs_iconst (pc := 17) t228_17 (v := 0) (by decide) ?_
    refine zs_iret (pc := 18) t228_18 mr228 (by decide) ?_
    show zGo X l 1 0 0 308 15 [(0, .ref 336), (1, .int a)] [.int (0 : Int32)] zMm _
    refine zs_iret (pc := 15) t308_15 mr308 (by decide) ?_
    show zGo X l 3 0 0 332 5 [(0, .ref 336), (1, .int a)] [.int (0 : Int32)] zMm _
    refine zs_if_eqT (pc := 5) t332_5 li0 (by decide) ?_
    refine zs_iconst (pc := 18) t332_18 (v := -1) (by decide) ?_
    exact zs_iret (pc := 19) t332_19 mr332 (by decide) rfl
  refine zs_lcmp (pc := 2) t228_2 (c := 1) (zlcG (zi2l rfl) ll0 (by omega)) ?_
  refine zs_if_ltF (pc := 3) t228_3 li1 (by decide) ?_
  refine zs_lload_n (pc := 6) t228_6 rfl ?_
  refine zs_lload (pc := 7) t228_7 rfl ?_
  refine zs_lcmp (pc := 9) t228_9 (c := 1) (zlcG (zi2l rfl) lln1 (by omega)) ?_
  refine zs_if_gtT (pc := 10) t228_10 li1 (by decide) ?_
  refine zs_iconst (pc := 17) t228_17 (v := 0) (by decide) ?_
  refine zs_iret (pc := 18) t228_18 mr228 (by decide) ?_
  show zGo X l 1 0 0 308 15 [(0, .ref 336), (1, .int a)] [.int (0 : Int32)] zMm _
  refine zs_iret (pc := 15) t308_15 mr308 (by decide) ?_
  show zGo X l 3 0 0 332 5 [(0, .ref 336), (1, .int a)] [.int (0 : Int32)] zMm _
  refine zs_if_eqT (pc := 5) t332_5 li0 (by decide) ?_
  refine zs_iconst (pc := 18) t332_18 (v := -1) (by decide) ?_
  exact zs_iret (pc := 19) t332_19 mr332 (by decide) rfl
theorem c27_0 {X : zX} {l : Launch} {a : Int32} : zCall X l 4 0 0 94 [.ref 6, .int a] zMc (fun r _ => r = some (.int (-1 : Int32))) := by
  have ga := zrg a
  refine zs_in (by decide) mf94 (Nat.le_of_ble_eq_true rfl) ?_
  show zGo X l 4 0 0 94 0 [(0, .ref 6), (1, .int a)] [] zMc _
  refine zs_aload_n (pc := 0) t94_0 rfl ?_
  refine zs_get (pc := 1) t94_1 (by decide) (zk1 fk_zMc_6) fv_zMc_6_0 ?_
  refine zs_iload_n (pc := 4) t94_4 rfl ?_
  refine zs_invV (pc := 5) (k := 7) (as' := [.int a]) (st := []) t94_5 mf41 rfl rfl (Or.inl ⟨by decide, (zk1 fk_zMc_7)⟩) ⟨by decide, by decide, Nat.le_of_ble_eq_true rfl, Nat.le_of_ble_eq_true rfl⟩ (zs_in (by decide) mf41 (Nat.le_of_ble_eq_true rfl) ?_) (fun _ _ q => q)
  show zGo X l 0 0 0 41 0 [(0, .ref 7), (1, .int a)] [] zMc _
  refine zs_iload_n (pc := 0) t41_0 rfl ?_
  by_cases w1 : a.toInt < 0
  · refine zs_if_ltT (pc := 1) t41_1 rfl (by omega) ?_
    refine zs_iconst (pc := 16) t41_16 (v := 0) (by decide) ?_
    refine zs_iret (pc := 17) t41_17 mr41 (by decide) ?_
    show zGo X l 4 0 0 94 8 [(0, .ref 6), (1, .int a)] [.int (0 : Int32)] zMc _
    refine zs_if_neF (pc := 8) t94_8 li0 (by decide) ?_
    refine zs_iconst (pc := 11) t94_11 (v := -1) (by decide) ?_
    exact zs_iret (pc := 12) t94_12 mr94 (by decide) rfl
  · refine zs_if_ltF (pc := 1) t41_1 rfl (by omega) ?_
    refine zs_iload_n (pc := 4) t41_4 rfl ?_
    refine zs_aload_n (pc := 5) t41_5 rfl ?_
    refine zs_get (pc := 6) t41_6 (by decide) (zk1 fk_zMc_7) fv_zMc_7_0 ?_
    refine zs_icmp_geT (pc := 9) t41_9 rfl li0 (by omega) ?_
    refine zs_iconst (pc := 16) t41_16 (v := 0) (by decide) ?_
    refine zs_iret (pc := 17) t41_17 mr41 (by decide) ?_
    show zGo X l 4 0 0 94 8 [(0, .ref 6), (1, .int a)] [.int (0 : Int32)] zMc _
    refine zs_if_neF (pc := 8) t94_8 li0 (by decide) ?_
    refine zs_iconst (pc := 11) t94_11 (v := -1) (by decide) ?_
    exact zs_iret (pc := 12) t94_12 mr94 (by decide) rfl
theorem m27_0 {X : zX} {l : Launch} {a : Int32} : zCall X l 2 0 0 333 [.ref 336, .int a] zMm (fun r _ => r = some (.int (-1 : Int32))) := by
  have ga := zrg a
  refine zs_in (by decide) mf333 (Nat.le_of_ble_eq_true rfl) ?_
  show zGo X l 2 0 0 333 0 [(0, .ref 336), (1, .int a)] [] zMm _
  refine zs_aload_n (pc := 0) t333_0 rfl ?_
  refine zs_iload_n (pc := 1) t333_1 rfl ?_
  refine zs_invV (pc := 2) (k := 336) (as' := [.int a]) (st := []) t333_2 mf306 rfl rfl (Or.inl ⟨by decide, (zk1 fk_zMm_336)⟩) ⟨by decide, by decide, Nat.le_of_ble_eq_true rfl, Nat.le_of_ble_eq_true rfl⟩ (zs_in (by decide) mf306 (Nat.le_of_ble_eq_true rfl) ?_) (fun _ _ q => q)
  show zGo X l 1 0 0 306 0 [(0, .ref 336), (1, .int a)] [] zMm _
  refine zs_iload_n (pc := 0) t306_0 rfl ?_
  refine zs_i2l (pc := 1) t306_1 rfl ?_
  refine zs_lconst (pc := 2) t306_2 (v := 0) (by decide) ?_
  refine zs_aload_n (pc := 3) t306_3 rfl ?_
  refine zs_get (pc := 4) t306_4 (by decide) (zk1 fk_zMm_336) fv_zMm_336_0 ?_
  refine zs_iconst (pc := 7) t306_7 (v := 0) (by decide) ?_
  refine zs_iald (pc := 8) t306_8 (j := 0) (by decide) (zk1 fk_zMm_337) (by decide) (zk2 fk_zMm_337 (by decide)) fa_zMm_337_0 ?_
  refine zs_iconst (pc := 9) t306_9 (v := 1) (by decide) ?_
  refine zs_isub (pc := 10) t306_10 (c := -1) (by decide) ?_
  refine zs_i2l (pc := 11) t306_11 (c := -1) (by decide) ?_
  refine zs_invS (pc := 12) (as := [.long a.toInt64, .long (0 : Int64), .long (-1 : Int64)]) (st := []) t306_12 (by decide) mf228 rfl rfl ⟨by decide, by decide, Nat.le_of_ble_eq_true rfl, Nat.le_of_ble_eq_true rfl⟩ (zs_in (by decide) mf228 (Nat.le_of_ble_eq_true rfl) ?_) (fun _ _ q => q)
  show zGo X l 0 0 0 228 0 [(0, .long a.toInt64), (2, .long (0 : Int64)), (4, .long (-1 : Int64))] [] zMm _
  refine zs_lload_n (pc := 0) t228_0 rfl ?_
  refine zs_lload_n (pc := 1) t228_1 rfl ?_
  by_cases w1 : a.toInt < 0
  · refine zs_lcmp (pc := 2) t228_2 (c := -1) (zlcL (zi2l rfl) ll0 (by omega)) ?_
    refine zs_if_ltT (pc := 3) t228_3 lin1 (by decide) ?_
    refine zs_iconst (pc := 17) t228_17 (v := 0) (by decide) ?_
    refine zs_iret (pc := 18) t228_18 mr228 (by decide) ?_
    show zGo X l 1 0 0 306 15 [(0, .ref 336), (1, .int a)] [.int (0 : Int32)] zMm _
    refine zs_iret (pc := 15) t306_15 mr306 (by decide) ?_
    show zGo X l 2 0 0 333 5 [(0, .ref 336), (1, .int a)] [.int (0 : Int32)] zMm _
    refine zs_if_neF (pc := 5) t333_5 li0 (by decide) ?_
    refine zs_iconst (pc := 8) t333_8 (v := -1) (by decide) ?_
    exact zs_iret (pc := 9) t333_9 mr333 (by decide) rfl
  by_cases w2 : a.toInt = 0
  · refine zs_lcmp (pc := 2) t228_2 (c := 0) (zlcE (zi2l rfl) ll0 (by omega)) ?_
    refine zs_if_ltF (pc := 3) t228_3 li0 (by decide) ?_
    refine zs_lload_n (pc := 6) t228_6 rfl ?_
    refine zs_lload (pc := 7) t228_7 rfl ?_
    refine zs_lcmp (pc := 9) t228_9 (c := 1) (zlcG (zi2l rfl) lln1 (by omega)) ?_
    refine zs_if_gtT (pc := 10) t228_10 li1 (by decide) ?_
    refine zs_iconst (pc := 17) t228_17 (v := 0) (by decide) ?_
    refine zs_iret (pc := 18) t228_18 mr228 (by decide) ?_
    show zGo X l 1 0 0 306 15 [(0, .ref 336), (1, .int a)] [.int (0 : Int32)] zMm _
    refine zs_iret (pc := 15) t306_15 mr306 (by decide) ?_
    show zGo X l 2 0 0 333 5 [(0, .ref 336), (1, .int a)] [.int (0 : Int32)] zMm _
    refine zs_if_neF (pc := 5) t333_5 li0 (by decide) ?_
    refine zs_iconst (pc := 8) t333_8 (v := -1) (by decide) ?_
    exact zs_iret (pc := 9) t333_9 mr333 (by decide) rfl
  refine zs_lcmp (pc := 2) t228_2 (c := 1) (zlcG (zi2l rfl) ll0 (by omega)) ?_
  refine zs_if_ltF (pc := 3) t228_3 li1 (by decide) ?_
  refine zs_lload_n (pc := 6) t228_6 rfl ?_
  refine zs_lload (pc := 7) t228_7 rfl ?_
  refine zs_lcmp (pc := 9) t228_9 (c := 1) (zlcG (zi2l rfl) lln1 (by omega)) ?_
  refine zs_if_gtT (pc := 10) t228_10 li1 (by decide) ?_
  refine zs_iconst (pc := 17) t228_17 (v := 0) (by decide) ?_
  refine zs_iret (pc := 18) t228_18 mr228 (by decide) ?_
  show zGo X l 1 0 0 306 15 [(0, .ref 336), (1, .int a)] [.int (0 : Int32)] zMm _
  refine zs_iret (pc := 15) t306_15 mr306 (by decide) ?_
  show zGo X l 2 0 0 333 5 [(0, .ref 336), (1, .int a)] [.int (0 : Int32)] zMm _
  refine zs_if_neF (pc := 5) t333_5 li0 (by decide) ?_
  refine zs_iconst (pc := 8) t333_8 (v := -1) (by decide) ?_
  exact zs_iret (pc := 9) t333_9 mr333 (by decide) rfl
theorem c28_0 {X : zX} {l : Launch} {a : Int32} (la : (-2147483648) ≤ a.toInt) (ua : a.toInt ≤ 1) : zCall X l 4 0 0 95 [.ref 6, .int a] zMc (fun r _ => r = some (.int (-1 : Int32))) := by
  have ga := zrg a
  refine zs_in (by decide) mf95 (Nat.le_of_ble_eq_true rfl) ?_
  show zGo X l 4 0 0 95 0 [(0, .ref 6), (1, .int a)] [] zMc _
  refine zs_iload_n (pc := 0) t95_0 rfl ?_
  refine zs_iconst (pc := 1) t95_1 (v := 2) (by decide) ?_
  refine zs_bipush (pc := 2) t95_2 (v := 8) (by decide) ?_
  refine zs_invS (pc := 4) (as := [.int a, .int (2 : Int32), .int (8 : Int32)]) (st := []) t95_4 (by decide) mf39 rfl rfl ⟨by decide, by decide, Nat.le_of_ble_eq_true rfl, Nat.le_of_ble_eq_true rfl⟩ (zs_in (by decide) mf39 (Nat.le_of_ble_eq_true rfl) ?_) (fun _ _ q => q)
  show zGo X l 0 0 0 39 0 [(0, .int a), (1, .int (2 : Int32)), (2, .int (8 : Int32))] [] zMc _
  refine zs_iload_n (pc := 0) t39_0 rfl ?_
  refine zs_iload_n (pc := 1) t39_1 rfl ?_
  refine zs_icmp_ltT (pc := 2) t39_2 rfl li2 (by omega) ?_
  refine zs_iconst (pc := 14) t39_14 (v := 0) (by decide) ?_
  refine zs_iret (pc := 15) t39_15 mr39 (by decide) ?_
  show zGo X l 4 0 0 95 7 [(0, .ref 6), (1, .int a)] [.int (0 : Int32)] zMc _
  refine zs_if_neF (pc := 7) t95_7 li0 (by decide) ?_
  refine zs_iconst (pc := 10) t95_10 (v := -1) (by decide) ?_
  exact zs_iret (pc := 11) t95_11 mr95 (by decide) rfl
theorem m28_0 {X : zX} {l : Launch} {a : Int32} (la : (-2147483648) ≤ a.toInt) (ua : a.toInt ≤ 1) : zCall X l 2 0 0 334 [.ref 336, .int a] zMm (fun r _ => r = some (.int (-1 : Int32))) := by
  have ga := zrg a
  refine zs_in (by decide) mf334 (Nat.le_of_ble_eq_true rfl) ?_
  show zGo X l 2 0 0 334 0 [(0, .ref 336), (1, .int a)] [] zMm _
  refine zs_iload_n (pc := 0) t334_0 rfl ?_
  refine zs_i2l (pc := 1) t334_1 rfl ?_
  refine zs_ldc2_w (pc := 2) t334_2 (v := 2) (by decide) ?_
  refine zs_ldc2_w (pc := 5) t334_5 (v := 8) (by decide) ?_
  refine zs_invS (pc := 8) (as := [.long a.toInt64, .long (2 : Int64), .long (8 : Int64)]) (st := []) t334_8 (by decide) mf228 rfl rfl ⟨by decide, by decide, Nat.le_of_ble_eq_true rfl, Nat.le_of_ble_eq_true rfl⟩ (zs_in (by decide) mf228 (Nat.le_of_ble_eq_true rfl) ?_) (fun _ _ q => q)
  show zGo X l 0 0 0 228 0 [(0, .long a.toInt64), (2, .long (2 : Int64)), (4, .long (8 : Int64))] [] zMm _
  refine zs_lload_n (pc := 0) t228_0 rfl ?_
  refine zs_lload_n (pc := 1) t228_1 rfl ?_
  refine zs_lcmp (pc := 2) t228_2 (c := -1) (zlcL (zi2l rfl) ll2 (by omega)) ?_
  refine zs_if_ltT (pc := 3) t228_3 lin1 (by decide) ?_
  refine zs_iconst (pc := 17) t228_17 (v := 0) (by decide) ?_
  refine zs_iret (pc := 18) t228_18 mr228 (by decide) ?_
  show zGo X l 2 0 0 334 11 [(0, .ref 336), (1, .int a)] [.int (0 : Int32)] zMm _
  refine zs_if_neF (pc := 11) t334_11 li0 (by decide) ?_
  refine zs_iconst (pc := 14) t334_14 (v := -1) (by decide) ?_
  exact zs_iret (pc := 15) t334_15 mr334 (by decide) rfl
theorem c28_1 {X : zX} {l : Launch} {a : Int32} (la : 2 ≤ a.toInt) (ua : a.toInt ≤ 8) : zCall X l 4 0 0 95 [.ref 6, .int a] zMc (fun r _ => r = some (.int (3 : Int32))) := by
  have ga := zrg a
  refine zs_in (by decide) mf95 (Nat.le_of_ble_eq_true rfl) ?_
  show zGo X l 4 0 0 95 0 [(0, .ref 6), (1, .int a)] [] zMc _
  refine zs_iload_n (pc := 0) t95_0 rfl ?_
  refine zs_iconst (pc := 1) t95_1 (v := 2) (by decide) ?_
  refine zs_bipush (pc := 2) t95_2 (v := 8) (by decide) ?_
  refine zs_invS (pc := 4) (as := [.int a, .int (2 : Int32), .int (8 : Int32)]) (st := []) t95_4 (by decide) mf39 rfl rfl ⟨by decide, by decide, Nat.le_of_ble_eq_true rfl, Nat.le_of_ble_eq_true rfl⟩ (zs_in (by decide) mf39 (Nat.le_of_ble_eq_true rfl) ?_) (fun _ _ q => q)
  show zGo X l 0 0 0 39 0 [(0, .int a), (1, .int (2 : Int32)), (2, .int (8 : Int32))] [] zMc _
  refine zs_iload_n (pc := 0) t39_0 rfl ?_
  refine zs_iload_n (pc := 1) t39_1 rfl ?_
  refine zs_icmp_ltF (pc := 2) t39_2 rfl li2 (by omega) ?_
  refine zs_iload_n (pc := 5) t39_5 rfl ?_
  refine zs_iload_n (pc := 6) t39_6 rfl ?_
  refine zs_icmp_gtF (pc := 7) t39_7 rfl li8 (by omega) ?_
  refine zs_iconst (pc := 10) t39_10 (v := 1) (by decide) ?_
  refine zs_goto (pc := 11) t39_11 ?_
  refine zs_iret (pc := 15) t39_15 mr39 (by decide) ?_
  show zGo X l 4 0 0 95 7 [(0, .ref 6), (1, .int a)] [.int (1 : Int32)] zMc _
  refine zs_if_neT (pc := 7) t95_7 li1 (by decide) ?_
  refine zs_aload_n (pc := 12) t95_12 rfl ?_
  refine zs_get (pc := 13) t95_13 (by decide) (zk1 fk_zMc_6) fv_zMc_6_2 ?_
  refine zs_aload_n (pc := 16) t95_16 rfl ?_
  refine zs_get (pc := 17) t95_17 (by decide) (zk1 fk_zMc_6) fv_zMc_6_0 ?_
  refine zs_invV (pc := 20) (k := 31) (as' := [.ref 7]) (st := []) t95_20 mf58 rfl rfl (Or.inl ⟨by decide, (zk1 fk_zMc_31)⟩) ⟨by decide, by decide, Nat.le_of_ble_eq_true rfl, Nat.le_of_ble_eq_true rfl⟩ (cc3 (X := X) (l := l)) ?_
  rintro r M7 ⟨rfl, M7k6, M7rM8, -⟩
  show zGo X l 4 0 0 95 23 [(0, .ref 6), (1, .int a)] [] M7 _
  refine zs_aload_n (pc := 23) t95_23 rfl ?_
  refine zs_invV (pc := 24) (k := 6) (as' := []) (st := []) t95_24 mf59 rfl rfl (Or.inl ⟨by decide, (zk1 M7k6)⟩) ⟨by decide, by decide, Nat.le_of_ble_eq_true rfl, Nat.le_of_ble_eq_true rfl⟩ (zs_run mf59 (by decide) M7rM8 (fun _ _ q => of_decide_eq_true q)) ?_
  rintro r M8 ⟨rfl, M8k6, M8v6_0, M8k7, M8v7_12, M8k17, M8a17_3, -⟩
  show zGo X l 4 0 0 95 27 [(0, .ref 6), (1, .int a)] [] M8 _
  refine zs_aload_n (pc := 27) t95_27 rfl ?_
  refine zs_get (pc := 28) t95_28 (by decide) (zk1 M8k6) M8v6_0 ?_
  refine zs_iconst (pc := 31) t95_31 (v := 3) (by decide) ?_
  refine zs_invV (pc := 32) (k := 7) (as' := [.int (3 : Int32)]) (st := []) t95_32 mf96 rfl rfl (Or.inl ⟨by decide, (zk1 M8k7)⟩) ⟨by decide, by decide, Nat.le_of_ble_eq_true rfl, Nat.le_of_ble_eq_true rfl⟩ (zs_in (by decide) mf96 (Nat.le_of_ble_eq_true rfl) ?_) (fun _ _ q => q)
  show zGo X l 0 0 0 96 0 [(0, .ref 7), (1, .int (3 : Int32))] [] M8 _
  refine zs_iload_n (pc := 0) t96_0 rfl ?_
  refine zs_if_ltF (pc := 1) t96_1 li3 (by decide) ?_
  refine zs_iload_n (pc := 4) t96_4 rfl ?_
  refine zs_bipush (pc := 5) t96_5 (v := 9) (by decide) ?_
  refine zs_icmp_geF (pc := 7) t96_7 li3 li9 (by decide) ?_
  refine zs_aload_n (pc := 10) t96_10 rfl ?_
  refine zs_get (pc := 11) t96_11 (by decide) (zk1 M8k7) M8v7_12 ?_
  refine zs_iload_n (pc := 14) t96_14 rfl ?_
  refine zs_iald (pc := 15) t96_15 (j := 3) (by decide) (zk1 M8k17) (by decide) (zk2 M8k17 (by decide)) M8a17_3 ?_
  refine zs_goto (pc := 16) t96_16 ?_
  refine zs_iret (pc := 20) t96_20 mr96 (by decide) ?_
  show zGo X l 4 0 0 95 35 [(0, .ref 6), (1, .int a)] [.int (3 : Int32)] M8 _
  refine zs_istore_n (pc := 35) t95_35 (ls' := [(2, .int (3 : Int32)), (0, .ref 6), (1, .int a)]) (zml mf95 (by decide)) rfl ?_
  refine zs_aload_n (pc := 36) t95_36 rfl ?_
  refine zs_get (pc := 37) t95_37 (by decide) (zk1 M8k6) M8v6_0 ?_
  refine zs_iconst (pc := 40) t95_40 (v := 3) (by decide) ?_
  refine zs_iload_n (pc := 41) t95_41 rfl ?_
  refine zs_invV (pc := 42) (k := 7) (as' := [.int (3 : Int32), .int a]) (st := []) t95_42 mf56 rfl rfl (Or.inl ⟨by decide, (zk1 M8k7)⟩) ⟨by decide, by decide, Nat.le_of_ble_eq_true rfl, Nat.le_of_ble_eq_true rfl⟩ (zs_in (by decide) mf56 (Nat.le_of_ble_eq_true rfl) ?_) (fun _ _ q => q)
  show zGo X l 0 0 0 56 0 [(0, .ref 7), (1, .int (3 : Int32)), (2, .int a)] [] M8 _
  refine zs_iload_n (pc := 0) t56_0 rfl ?_
  refine zs_if_ltF (pc := 1) t56_1 li3 (by decide) ?_
  refine zs_iload_n (pc := 4) t56_4 rfl ?_
  refine zs_bipush (pc := 5) t56_5 (v := 9) (by decide) ?_
  refine zs_icmp_geF (pc := 7) t56_7 li3 li9 (by decide) ?_
  refine zs_aload_n (pc := 10) t56_10 rfl ?_
  refine zs_get (pc := 11) t56_11 (by decide) (zk1 M8k7) M8v7_12 ?_
  refine zs_iload_n (pc := 14) t56_14 rfl ?_
  refine zs_iload_n (pc := 15) t56_15 rfl ?_
  refine zs_iast (pc := 16) t56_16 (j := 3) (by decide) (zk1 M8k17) (by decide) (zk2 M8k17 (by decide)) ?_
  refine zs_vret (pc := 17) t56_17 mr56 ?_
  show zGo X l 4 0 0 95 45 [(2, .int (3 : Int32)), (0, .ref 6), (1, .int a)] [] (zsI M8 17 3 a) _
  refine zs_iload_n (pc := 45) t95_45 rfl ?_
  exact zs_iret (pc := 46) t95_46 mr95 (by decide) rfl
