theorem T194_6 {X : zX} {l : Launch} {M : zM} {Q : Option Value → zM → Prop} {a : Int32} (hs : zSk zMc M) (hI : zIv cLo cHi M) (hQ : ∀ (M' : zM) (v : Int32), zSk zMc M' → zIv cLo cHi M' → zFr [(161, 334, none)] M M' → (-2147483648) ≤ v.toInt → v.toInt ≤ 2147483647 → Q (some (.int v)) M') : zCall X l 6 0 0 194 [.ref 6, .int a] M Q := by
  have ga := zrg a
  refine zs_in (by decide) mf194 (Nat.le_of_ble_eq_true rfl) ?_
  show zGo X l 6 0 0 194 0 [(0, .ref 6), (1, .int a)] [] M _
  refine zs_aload_n (pc := 0) t194_0 rfl ?_
  refine zs_get (pc := 1) t194_1 (by decide) (zk1 (hs.k fk_zMc_6)) (hs.p rfl fv_zMc_6_0) ?_
  refine zs_iload_n (pc := 4) t194_4 rfl ?_
  refine zs_invV (pc := 5) (k := 7) (as' := [.int a]) (st := []) t194_5 mf41 rfl rfl (Or.inl ⟨by decide, (zk1 (hs.k fk_zMc_7))⟩) ⟨by decide, by decide, Nat.le_of_ble_eq_true rfl, Nat.le_of_ble_eq_true rfl⟩ (zs_in (by decide) mf41 (Nat.le_of_ble_eq_true rfl) ?_) (fun _ _ q => q)
  show zGo X l 0 0 0 41 0 [(0, .ref 7), (1, .int a)] [] M _
  refine zs_iload_n (pc := 0) t41_0 rfl ?_
  by_cases w1 : a.toInt < 0
  · refine zs_if_ltT (pc := 1) t41_1 rfl (by omega) ?_
    refine zs_iconst (pc := 16) t41_16 (v := 0) (by decide) ?_
    refine zs_iret (pc := 17) t41_17 mr41 (by decide) ?_
    show zGo X l 6 0 0 194 8 [(0, .ref 6), (1, .int a)] [.int (0 : Int32)] M _
    refine zs_if_eqT (pc := 8) t194_8 li0 (by decide) ?_
    refine zs_ldc (pc := 33) t194_33 (v := -100000) rfl (by decide) ?_
    exact zs_iret (pc := 35) t194_35 mr194 (by decide) (hQ _ _ hs hI (zFr.refl) (zrg _).1 (zrg _).2)
  · refine zs_if_ltF (pc := 1) t41_1 rfl (by omega) ?_
    refine zs_iload_n (pc := 4) t41_4 rfl ?_
    refine zs_aload_n (pc := 5) t41_5 rfl ?_
    have w2 := ib7_0 hI
    refine zs_get (pc := 6) t41_6 (by decide) (zk1 (hs.k fk_zMc_7)) (zfvi rfl rfl) ?_
    by_cases w3 : (zI M 7 0).toInt ≤ a.toInt
    · refine zs_icmp_geT (pc := 9) t41_9 rfl rfl (by omega) ?_
      refine zs_iconst (pc := 16) t41_16 (v := 0) (by decide) ?_
      refine zs_iret (pc := 17) t41_17 mr41 (by decide) ?_
      show zGo X l 6 0 0 194 8 [(0, .ref 6), (1, .int a)] [.int (0 : Int32)] M _
      refine zs_if_eqT (pc := 8) t194_8 li0 (by decide) ?_
      refine zs_ldc (pc := 33) t194_33 (v := -100000) rfl (by decide) ?_
      exact zs_iret (pc := 35) t194_35 mr194 (by decide) (hQ _ _ hs hI (zFr.refl) (zrg _).1 (zrg _).2)
    · refine zs_icmp_geF (pc := 9) t41_9 rfl rfl (by omega) ?_
      refine zs_iconst (pc := 12) t41_12 (v := 1) (by decide) ?_
      refine zs_goto (pc := 13) t41_13 ?_
      refine zs_iret (pc := 17) t41_17 mr41 (by decide) ?_
      show zGo X l 6 0 0 194 8 [(0, .ref 6), (1, .int a)] [.int (1 : Int32)] M _
      refine zs_if_eqF (pc := 8) t194_8 li1 (by decide) ?_
      refine zs_aload_n (pc := 11) t194_11 rfl ?_
      refine zs_get (pc := 12) t194_12 (by decide) (zk1 (hs.k fk_zMc_6)) (hs.p rfl fv_zMc_6_6) ?_
      refine zs_aload_n (pc := 15) t194_15 rfl ?_
      refine zs_get (pc := 16) t194_16 (by decide) (zk1 (hs.k fk_zMc_6)) (hs.p rfl fv_zMc_6_0) ?_
      refine zs_invV (pc := 19) (k := 164) (as' := [.ref 7]) (st := []) t194_19 mf105 rfl rfl (Or.inl ⟨by decide, (zk1 (hs.k fk_zMc_164))⟩) ⟨by decide, by decide, Nat.le_of_ble_eq_true rfl, Nat.le_of_ble_eq_true rfl⟩ (C105_164_7 hs hI ?_) (fun _ _ q => q)
      intro w4M w4s w4I w4F
      show zGo X l 6 0 0 194 22 [(0, .ref 6), (1, .int a)] [.ref 164] w4M _
      refine zs_aload_n (pc := 22) t194_22 rfl ?_
      refine zs_get (pc := 23) t194_23 (by decide) (zk1 (w4s.k fk_zMc_6)) (w4s.p rfl fv_zMc_6_0) ?_
      refine zs_iload_n (pc := 26) t194_26 rfl ?_
      refine zs_invV (pc := 27) (k := 164) (as' := [.ref 7, .int a]) (st := []) t194_27 mf195 rfl rfl (Or.inl ⟨by decide, (zk1 (w4s.k fk_zMc_164))⟩) ⟨by decide, by decide, Nat.le_of_ble_eq_true rfl, Nat.le_of_ble_eq_true rfl⟩ (C195_164_7 w4s w4I ?_) (fun _ _ q => q)
      intro w5M w5v w5s w5I w5F w5a w5b
      show zGo X l 6 0 0 194 30 [(0, .ref 6), (1, .int a)] [.int w5v] w5M _
      refine zs_goto (pc := 30) t194_30 ?_
      exact zs_iret (pc := 35) t194_35 mr194 rfl (hQ _ _ w5s w5I (((zFr.refl).trans (w4F.mono rfl)).trans (w5F.mono rfl)) (zrg _).1 (zrg _).2)
theorem T196_6 {X : zX} {l : Launch} {M : zM} {Q : Option Value → zM → Prop} {a : Int32} (hs : zSk zMc M) (hI : zIv cLo cHi M) (hQ : ∀ (M' : zM) (v : Int32), zSk zMc M' → zIv cLo cHi M' → zFr [(161, 334, none)] M M' → (-2147483648) ≤ v.toInt → v.toInt ≤ 2147483647 → Q (some (.int v)) M') : zCall X l 6 0 0 196 [.ref 6, .int a] M Q := by
  have ga := zrg a
  refine zs_in (by decide) mf196 (Nat.le_of_ble_eq_true rfl) ?_
  show zGo X l 6 0 0 196 0 [(0, .ref 6), (1, .int a)] [] M _
  refine zs_iload_n (pc := 0) t196_0 rfl ?_
  refine zs_iconst (pc := 1) t196_1 (v := 0) (by decide) ?_
  refine zs_iconst (pc := 2) t196_2 (v := 2) (by decide) ?_
  refine zs_invS (pc := 3) (as := [.int a, .int (0 : Int32), .int (2 : Int32)]) (st := []) t196_3 (by decide) mf39 rfl rfl ⟨by decide, by decide, Nat.le_of_ble_eq_true rfl, Nat.le_of_ble_eq_true rfl⟩ (zs_in (by decide) mf39 (Nat.le_of_ble_eq_true rfl) ?_) (fun _ _ q => q)
  show zGo X l 0 0 0 39 0 [(0, .int a), (1, .int (0 : Int32)), (2, .int (2 : Int32))] [] M _
  refine zs_iload_n (pc := 0) t39_0 rfl ?_
  refine zs_iload_n (pc := 1) t39_1 rfl ?_
  by_cases w1 : a.toInt < 0
  · refine zs_icmp_ltT (pc := 2) t39_2 rfl li0 (by omega) ?_
    refine zs_iconst (pc := 14) t39_14 (v := 0) (by decide) ?_
    refine zs_iret (pc := 15) t39_15 mr39 (by decide) ?_
    show zGo X l 6 0 0 196 6 [(0, .ref 6), (1, .int a)] [.int (0 : Int32)] M _
    refine zs_if_neF (pc := 6) t196_6 li0 (by decide) ?_
    refine zs_iconst (pc := 9) t196_9 (v := -1) (by decide) ?_
    exact zs_iret (pc := 10) t196_10 mr196 (by decide) (hQ _ _ hs hI (zFr.refl) (zrg _).1 (zrg _).2)
  · refine zs_icmp_ltF (pc := 2) t39_2 rfl li0 (by omega) ?_
    refine zs_iload_n (pc := 5) t39_5 rfl ?_
    refine zs_iload_n (pc := 6) t39_6 rfl ?_
    by_cases w2 : 2 < a.toInt
    · refine zs_icmp_gtT (pc := 7) t39_7 rfl li2 (by omega) ?_
      refine zs_iconst (pc := 14) t39_14 (v := 0) (by decide) ?_
      refine zs_iret (pc := 15) t39_15 mr39 (by decide) ?_
      show zGo X l 6 0 0 196 6 [(0, .ref 6), (1, .int a)] [.int (0 : Int32)] M _
      refine zs_if_neF (pc := 6) t196_6 li0 (by decide) ?_
      refine zs_iconst (pc := 9) t196_9 (v := -1) (by decide) ?_
      exact zs_iret (pc := 10) t196_10 mr196 (by decide) (hQ _ _ hs hI (zFr.refl) (zrg _).1 (zrg _).2)
    · refine zs_icmp_gtF (pc := 7) t39_7 rfl li2 (by omega) ?_
      refine zs_iconst (pc := 10) t39_10 (v := 1) (by decide) ?_
      refine zs_goto (pc := 11) t39_11 ?_
      refine zs_iret (pc := 15) t39_15 mr39 (by decide) ?_
      show zGo X l 6 0 0 196 6 [(0, .ref 6), (1, .int a)] [.int (1 : Int32)] M _
      refine zs_if_neT (pc := 6) t196_6 li1 (by decide) ?_
      refine zs_aload_n (pc := 11) t196_11 rfl ?_
      refine zs_get (pc := 12) t196_12 (by decide) (zk1 (hs.k fk_zMc_6)) (hs.p rfl fv_zMc_6_6) ?_
      refine zs_aload_n (pc := 15) t196_15 rfl ?_
      refine zs_get (pc := 16) t196_16 (by decide) (zk1 (hs.k fk_zMc_6)) (hs.p rfl fv_zMc_6_0) ?_
      refine zs_invV (pc := 19) (k := 164) (as' := [.ref 7]) (st := []) t196_19 mf105 rfl rfl (Or.inl ⟨by decide, (zk1 (hs.k fk_zMc_164))⟩) ⟨by decide, by decide, Nat.le_of_ble_eq_true rfl, Nat.le_of_ble_eq_true rfl⟩ (C105_164_7 hs hI ?_) (fun _ _ q => q)
      intro w3M w3s w3I w3F
      show zGo X l 6 0 0 196 22 [(0, .ref 6), (1, .int a)] [.ref 164] w3M _
      refine zs_invV (pc := 22) (k := 164) (as' := []) (st := []) t196_22 mf197 rfl rfl (Or.inl ⟨by decide, (zk1 (w3s.k fk_zMc_164))⟩) ⟨by decide, by decide, Nat.le_of_ble_eq_true rfl, Nat.le_of_ble_eq_true rfl⟩ (C197_164 w3s w3I ?_) (fun _ _ q => q)
      intro w4v w4a w4b
      show zGo X l 6 0 0 196 25 [(0, .ref 6), (1, .int a)] [.int w4v] w3M _
      refine zs_istore_n (pc := 25) t196_25 (ls' := [(2, .int w4v), (0, .ref 6), (1, .int a)]) (zml mf196 (by decide)) rfl ?_
      refine zs_iload_n (pc := 26) t196_26 rfl ?_
      by_cases w5 : a.toInt ≠ 0
      · refine zs_if_neT (pc := 27) t196_27 rfl (by omega) ?_
        refine zs_iload_n (pc := 32) t196_32 rfl ?_
        refine zs_iconst (pc := 33) t196_33 (v := 1) (by decide) ?_
        by_cases w6 : a.toInt ≠ 1
        · refine zs_icmp_neT (pc := 34) t196_34 rfl li1 (by omega) ?_
          refine zs_aload_n (pc := 48) t196_48 rfl ?_
          refine zs_get (pc := 49) t196_49 (by decide) (zk1 (w3s.k fk_zMc_6)) (w3s.p rfl fv_zMc_6_6) ?_
          refine zs_iload_n (pc := 52) t196_52 rfl ?_
          refine zs_invV (pc := 53) (k := 164) (as' := [.int w4v]) (st := []) t196_53 mf199 rfl rfl (Or.inl ⟨by decide, (zk1 (w3s.k fk_zMc_164))⟩) ⟨by decide, by decide, Nat.le_of_ble_eq_true rfl, Nat.le_of_ble_eq_true rfl⟩ (C199_164 w3s w3I ?_) (fun _ _ q => q)
          intro w7v w7a w7b
          show zGo X l 6 0 0 196 56 [(2, .int w4v), (0, .ref 6), (1, .int a)] [.int w7v] w3M _
          exact zs_iret (pc := 56) t196_56 mr196 rfl (hQ _ _ w3s w3I ((zFr.refl).trans (w3F.mono rfl)) (zrg _).1 (zrg _).2)
        · refine zs_icmp_neF (pc := 34) t196_34 rfl li1 (by omega) ?_
          refine zs_aload_n (pc := 37) t196_37 rfl ?_
          refine zs_get (pc := 38) t196_38 (by decide) (zk1 (w3s.k fk_zMc_6)) (w3s.p rfl fv_zMc_6_6) ?_
          refine zs_iload_n (pc := 41) t196_41 rfl ?_
          refine zs_invV (pc := 42) (k := 164) (as' := [.int w4v]) (st := []) t196_42 mf198 rfl rfl (Or.inl ⟨by decide, (zk1 (w3s.k fk_zMc_164))⟩) ⟨by decide, by decide, Nat.le_of_ble_eq_true rfl, Nat.le_of_ble_eq_true rfl⟩ (C198_164 w3s w3I ?_) (fun _ _ q => q)
          intro w8v w8a w8b
          show zGo X l 6 0 0 196 45 [(2, .int w4v), (0, .ref 6), (1, .int a)] [.int w8v] w3M _
          refine zs_goto (pc := 45) t196_45 ?_
          exact zs_iret (pc := 56) t196_56 mr196 rfl (hQ _ _ w3s w3I ((zFr.refl).trans (w3F.mono rfl)) (zrg _).1 (zrg _).2)
      · refine zs_if_neF (pc := 27) t196_27 rfl (by omega) ?_
        refine zs_iload_n (pc := 30) t196_30 rfl ?_
        exact zs_iret (pc := 31) t196_31 mr196 rfl (hQ _ _ w3s w3I ((zFr.refl).trans (w3F.mono rfl)) (zrg _).1 (zrg _).2)
theorem T201_6 {X : zX} {l : Launch} {M : zM} {Q : Option Value → zM → Prop} {a b : Int32} (hs : zSk zMc M) (hI : zIv cLo cHi M) (hQ : ∀ (M' : zM) (v : Int32), zSk zMc M' → zIv cLo cHi M' → zFr [(161, 334, none)] M M' → (-2147483648) ≤ v.toInt → v.toInt ≤ 2147483647 → Q (some (.int v)) M') : zCall X l 6 0 0 201 [.ref 6, .int a, .int b] M Q := by
  have ga := zrg a
  have gb := zrg b
  refine zs_in (by decide) mf201 (Nat.le_of_ble_eq_true rfl) ?_
  show zGo X l 6 0 0 201 0 [(0, .ref 6), (1, .int a), (2, .int b)] [] M _
  refine zs_aload_n (pc := 0) t201_0 rfl ?_
  refine zs_get (pc := 1) t201_1 (by decide) (zk1 (hs.k fk_zMc_6)) (hs.p rfl fv_zMc_6_6) ?_
  refine zs_aload_n (pc := 4) t201_4 rfl ?_
  refine zs_get (pc := 5) t201_5 (by decide) (zk1 (hs.k fk_zMc_6)) (hs.p rfl fv_zMc_6_0) ?_
  refine zs_invV (pc := 8) (k := 164) (as' := [.ref 7]) (st := []) t201_8 mf105 rfl rfl (Or.inl ⟨by decide, (zk1 (hs.k fk_zMc_164))⟩) ⟨by decide, by decide, Nat.le_of_ble_eq_true rfl, Nat.le_of_ble_eq_true rfl⟩ (C105_164_7 hs hI ?_) (fun _ _ q => q)
  intro w1M w1s w1I w1F
  show zGo X l 6 0 0 201 11 [(0, .ref 6), (1, .int a), (2, .int b)] [.ref 164] w1M _
  refine zs_iload_n (pc := 11) t201_11 rfl ?_
  refine zs_invV (pc := 12) (k := 164) (as' := [.int a]) (st := []) t201_12 mf163 rfl rfl (Or.inl ⟨by decide, (zk1 (w1s.k fk_zMc_164))⟩) ⟨by decide, by decide, Nat.le_of_ble_eq_true rfl, Nat.le_of_ble_eq_true rfl⟩ (zs_in (by decide) mf163 (Nat.le_of_ble_eq_true rfl) ?_) (fun _ _ q => q)
  show zGo X l 1 0 0 163 0 [(0, .ref 164), (1, .int a)] [] w1M _
  refine zs_iload_n (pc := 0) t163_0 rfl ?_
  refine zs_aload_n (pc := 1) t163_1 rfl ?_
  have w2 := ib164_4 w1I
  refine zs_get (pc := 2) t163_2 (by decide) (zk1 (w1s.k fk_zMc_164)) (zfvi rfl rfl) ?_
  by_cases w3 : (zI w1M 164 4).toInt ≤ a.toInt
  · refine zs_icmp_geT (pc := 5) t163_5 rfl rfl (by omega) ?_
    refine zs_aconst_null (pc := 19) t163_19 ?_
    refine zs_aret0 (pc := 20) t163_20 (by rw [mr163]; rfl) ?_
    show zGo X l 6 0 0 201 15 [(0, .ref 6), (1, .int a), (2, .int b)] [.null] w1M _
    refine zs_astore_n0 (pc := 15) t201_15 (ls' := [(3, .null), (0, .ref 6), (1, .int a), (2, .int b)]) (zml mf201 (by decide)) rfl ?_
    refine zs_aload_n0 (pc := 16) t201_16 rfl ?_
    refine zs_ifnullT (pc := 17) t201_17 ?_
    refine zs_ldc (pc := 31) t201_31 (v := -100000) rfl (by decide) ?_
    refine zs_goto (pc := 33) t201_33 ?_
    exact zs_iret (pc := 45) t201_45 mr201 (by decide) (hQ _ _ w1s w1I ((zFr.refl).trans (w1F.mono rfl)) (zrg _).1 (zrg _).2)
  · refine zs_icmp_geF (pc := 5) t163_5 rfl rfl (by omega) ?_
    refine zs_aload_n (pc := 8) t163_8 rfl ?_
    refine zs_get (pc := 9) t163_9 (by decide) (zk1 (w1s.k fk_zMc_164)) (w1s.p rfl fv_zMc_164_1) ?_
    refine zs_iload_n (pc := 12) t163_12 rfl ?_
    refine zs_invV (pc := 13) (k := 165) (as' := [.int a]) (st := []) t163_13 mf126 rfl rfl (Or.inl ⟨by decide, (zk1 (w1s.k fk_zMc_165))⟩) ⟨by decide, by decide, Nat.le_of_ble_eq_true rfl, Nat.le_of_ble_eq_true rfl⟩ (zs_in (by decide) mf126 (Nat.le_of_ble_eq_true rfl) ?_) (fun _ _ q => q)
    show zGo X l 0 0 0 126 0 [(0, .ref 165), (1, .int a)] [] w1M _
    refine zs_iload_n (pc := 0) t126_0 rfl ?_
    by_cases w4 : a.toInt < 0
    · refine zs_if_ltT (pc := 1) t126_1 rfl (by omega) ?_
      refine zs_aconst_null (pc := 21) t126_21 ?_
      refine zs_aret0 (pc := 22) t126_22 (by rw [mr126]; rfl) ?_
      show zGo X l 1 0 0 163 16 [(0, .ref 164), (1, .int a)] [.null] w1M _
      refine zs_goto (pc := 16) t163_16 ?_
      refine zs_aret0 (pc := 20) t163_20 (by rw [mr163]; rfl) ?_
      show zGo X l 6 0 0 201 15 [(0, .ref 6), (1, .int a), (2, .int b)] [.null] w1M _
      refine zs_astore_n0 (pc := 15) t201_15 (ls' := [(3, .null), (0, .ref 6), (1, .int a), (2, .int b)]) (zml mf201 (by decide)) rfl ?_
      refine zs_aload_n0 (pc := 16) t201_16 rfl ?_
      refine zs_ifnullT (pc := 17) t201_17 ?_
      refine zs_ldc (pc := 31) t201_31 (v := -100000) rfl (by decide) ?_
      refine zs_goto (pc := 33) t201_33 ?_
      exact zs_iret (pc := 45) t201_45 mr201 (by decide) (hQ _ _ w1s w1I ((zFr.refl).trans (w1F.mono rfl)) (zrg _).1 (zrg _).2)
    · refine zs_if_ltF (pc := 1) t126_1 rfl (by omega) ?_
      refine zs_iload_n (pc := 4) t126_4 rfl ?_
      refine zs_aload_n (pc := 5) t126_5 rfl ?_
      have w5 := ib165_2 w1I
      refine zs_get (pc := 6) t126_6 (by decide) (zk1 (w1s.k fk_zMc_165)) (zfvi rfl rfl) ?_
      by_cases w6 : (zI w1M 165 2).toInt ≤ a.toInt
      · refine zs_icmp_geT (pc := 9) t126_9 rfl rfl (by omega) ?_
        refine zs_aconst_null (pc := 21) t126_21 ?_
        refine zs_aret0 (pc := 22) t126_22 (by rw [mr126]; rfl) ?_
        show zGo X l 1 0 0 163 16 [(0, .ref 164), (1, .int a)] [.null] w1M _
        refine zs_goto (pc := 16) t163_16 ?_
        refine zs_aret0 (pc := 20) t163_20 (by rw [mr163]; rfl) ?_
        show zGo X l 6 0 0 201 15 [(0, .ref 6), (1, .int a), (2, .int b)] [.null] w1M _
        refine zs_astore_n0 (pc := 15) t201_15 (ls' := [(3, .null), (0, .ref 6), (1, .int a), (2, .int b)]) (zml mf201 (by decide)) rfl ?_
        refine zs_aload_n0 (pc := 16) t201_16 rfl ?_
        refine zs_ifnullT (pc := 17) t201_17 ?_
        refine zs_ldc (pc := 31) t201_31 (v := -100000) rfl (by decide) ?_
        refine zs_goto (pc := 33) t201_33 ?_
        exact zs_iret (pc := 45) t201_45 mr201 (by decide) (hQ _ _ w1s w1I ((zFr.refl).trans (w1F.mono rfl)) (zrg _).1 (zrg _).2)
      · refine zs_icmp_geF (pc := 9) t126_9 rfl rfl (by omega) ?_
        refine zs_aload_n (pc := 12) t126_12 rfl ?_
        refine zs_get (pc := 13) t126_13 (by decide) (zk1 (w1s.k fk_zMc_165)) (w1s.p rfl fv_zMc_165_1) ?_
        refine zs_iload_n (pc := 16) t126_16 rfl ?_
        obtain ⟨w7n, w7⟩ : ∃ n : Nat, a.toInt = (n : Int) := ⟨a.toInt.toNat, by omega⟩
        have w8 : w7n < 20 := by omega
        refine zs_aald (pc := 17) t126_17 (j := w7n) (Or.inr (zk1 (w1s.k fk_zMc_179))) w7 (zk2 (w1s.k fk_zMc_179) (by omega)) (w1s.a (fpT181 w7n w8)) ?_
        refine zs_goto (pc := 18) t126_18 ?_
        refine zs_aret (pc := 22) t126_22 (by rw [mr126]; rfl) ?_
        show zGo X l 1 0 0 163 16 [(0, .ref 164), (1, .int a)] [.ref (181 + 3 * w7n)] w1M _
        refine zs_goto (pc := 16) t163_16 ?_
        refine zs_aret (pc := 20) t163_20 (by rw [mr163]; rfl) ?_
        show zGo X l 6 0 0 201 15 [(0, .ref 6), (1, .int a), (2, .int b)] [.ref (181 + 3 * w7n)] w1M _
        refine zs_astore_n (pc := 15) t201_15 (ls' := [(3, .ref (181 + 3 * w7n)), (0, .ref 6), (1, .int a), (2, .int b)]) (zml mf201 (by decide)) rfl ?_
        refine zs_aload_n (pc := 16) t201_16 rfl ?_
        refine zs_ifnullF (pc := 17) t201_17 ?_
        refine zs_aload_n (pc := 20) t201_20 rfl ?_
        refine zs_get (pc := 21) t201_21 (by decide) (zk1 (w1s.k fk_zMc_6)) (w1s.p rfl fv_zMc_6_0) ?_
        refine zs_iload_n (pc := 24) t201_24 rfl ?_
        refine zs_invV (pc := 25) (k := 7) (as' := [.int b]) (st := []) t201_25 mf41 rfl rfl (Or.inl ⟨by decide, (zk1 (w1s.k fk_zMc_7))⟩) ⟨by decide, by decide, Nat.le_of_ble_eq_true rfl, Nat.le_of_ble_eq_true rfl⟩ (zs_in (by decide) mf41 (Nat.le_of_ble_eq_true rfl) ?_) (fun _ _ q => q)
        show zGo X l 0 0 0 41 0 [(0, .ref 7), (1, .int b)] [] w1M _
        refine zs_iload_n (pc := 0) t41_0 rfl ?_
        by_cases w9 : b.toInt < 0
        · refine zs_if_ltT (pc := 1) t41_1 rfl (by omega) ?_
          refine zs_iconst (pc := 16) t41_16 (v := 0) (by decide) ?_
          refine zs_iret (pc := 17) t41_17 mr41 (by decide) ?_
          show zGo X l 6 0 0 201 28 [(3, .ref (181 + 3 * w7n)), (0, .ref 6), (1, .int a), (2, .int b)] [.int (0 : Int32)] w1M _
          refine zs_if_neF (pc := 28) t201_28 li0 (by decide) ?_
          refine zs_ldc (pc := 31) t201_31 (v := -100000) rfl (by decide) ?_
          refine zs_goto (pc := 33) t201_33 ?_
          exact zs_iret (pc := 45) t201_45 mr201 (by decide) (hQ _ _ w1s w1I ((zFr.refl).trans (w1F.mono rfl)) (zrg _).1 (zrg _).2)
        · refine zs_if_ltF (pc := 1) t41_1 rfl (by omega) ?_
          refine zs_iload_n (pc := 4) t41_4 rfl ?_
          refine zs_aload_n (pc := 5) t41_5 rfl ?_
          have w10 := ib7_0 hI
          refine zs_get (pc := 6) t41_6 (by decide) (zk1 (w1s.k fk_zMc_7)) (zfvi rfl ((w1F 7 0 rfl).trans rfl)) ?_
          by_cases w11 : (zI M 7 0).toInt ≤ b.toInt
          · refine zs_icmp_geT (pc := 9) t41_9 rfl rfl (by omega) ?_
            refine zs_iconst (pc := 16) t41_16 (v := 0) (by decide) ?_
            refine zs_iret (pc := 17) t41_17 mr41 (by decide) ?_
            show zGo X l 6 0 0 201 28 [(3, .ref (181 + 3 * w7n)), (0, .ref 6), (1, .int a), (2, .int b)] [.int (0 : Int32)] w1M _
            refine zs_if_neF (pc := 28) t201_28 li0 (by decide) ?_
            refine zs_ldc (pc := 31) t201_31 (v := -100000) rfl (by decide) ?_
            refine zs_goto (pc := 33) t201_33 ?_
            exact zs_iret (pc := 45) t201_45 mr201 (by decide) (hQ _ _ w1s w1I ((zFr.refl).trans (w1F.mono rfl)) (zrg _).1 (zrg _).2)
          · refine zs_icmp_geF (pc := 9) t41_9 rfl rfl (by omega) ?_
            refine zs_iconst (pc := 12) t41_12 (v := 1) (by decide) ?_
            refine zs_goto (pc := 13) t41_13 ?_
            refine zs_iret (pc := 17) t41_17 mr41 (by decide) ?_
            show zGo X l 6 0 0 201 28 [(3, .ref (181 + 3 * w7n)), (0, .ref 6), (1, .int a), (2, .int b)] [.int (1 : Int32)] w1M _
            refine zs_if_neT (pc := 28) t201_28 li1 (by decide) ?_
            refine zs_aload_n (pc := 36) t201_36 rfl ?_
            refine zs_aload_n (pc := 37) t201_37 rfl ?_
            refine zs_get (pc := 38) t201_38 (by decide) (zk1 (w1s.k fk_zMc_6)) (w1s.p rfl fv_zMc_6_0) ?_
            refine zs_iload_n (pc := 41) t201_41 rfl ?_
            refine zs_invV (pc := 42) (k := (181 + 3 * w7n)) (as' := [.ref 7, .int b]) (st := []) t201_42 mf202 rfl rfl (Or.inl ⟨by decide, (zk1 (w1s.k (fT181_0 w7n w8)))⟩) ⟨by decide, by decide, Nat.le_of_ble_eq_true rfl, Nat.le_of_ble_eq_true rfl⟩ (C202_T181_7 w1s w1I w8 ?_) (fun _ _ q => q)
            intro w12v w12a w12b
            show zGo X l 6 0 0 201 45 [(3, .ref (181 + 3 * w7n)), (0, .ref 6), (1, .int a), (2, .int b)] [.int w12v] w1M _
            exact zs_iret (pc := 45) t201_45 mr201 rfl (hQ _ _ w1s w1I ((zFr.refl).trans (w1F.mono rfl)) (zrg _).1 (zrg _).2)
theorem T203_6 {X : zX} {l : Launch} {M : zM} {Q : Option Value → zM → Prop} {a : Int32} (hs : zSk zMc M) (hI : zIv cLo cHi M) (hQ : ∀ (M' : zM) (v : Int32), zSk zMc M' → zIv cLo cHi M' → zFr [(161, 334, none)] M M' → (-2147483648) ≤ v.toInt → v.toInt ≤ 2147483647 → Q (some (.int v)) M') : zCall X l 6 0 0 203 [.ref 6, .int a] M Q := by
  have ga := zrg a
  refine zs_in (by decide) mf203 (Nat.le_of_ble_eq_true rfl) ?_
  show zGo X l 6 0 0 203 0 [(0, .ref 6), (1, .int a)] [] M _
  refine zs_aload_n (pc := 0) t203_0 rfl ?_
  refine zs_get (pc := 1) t203_1 (by decide) (zk1 (hs.k fk_zMc_6)) (hs.p rfl fv_zMc_6_6) ?_
  refine zs_aload_n (pc := 4) t203_4 rfl ?_
  refine zs_get (pc := 5) t203_5 (by decide) (zk1 (hs.k fk_zMc_6)) (hs.p rfl fv_zMc_6_0) ?_
  refine zs_invV (pc := 8) (k := 164) (as' := [.ref 7]) (st := []) t203_8 mf105 rfl rfl (Or.inl ⟨by decide, (zk1 (hs.k fk_zMc_164))⟩) ⟨by decide, by decide, Nat.le_of_ble_eq_true rfl, Nat.le_of_ble_eq_true rfl⟩ (C105_164_7 hs hI ?_) (fun _ _ q => q)
  intro w1M w1s w1I w1F
  show zGo X l 6 0 0 203 11 [(0, .ref 6), (1, .int a)] [.ref 164] w1M _
  refine zs_iload_n (pc := 11) t203_11 rfl ?_
  refine zs_invV (pc := 12) (k := 164) (as' := [.int a]) (st := []) t203_12 mf163 rfl rfl (Or.inl ⟨by decide, (zk1 (w1s.k fk_zMc_164))⟩) ⟨by decide, by decide, Nat.le_of_ble_eq_true rfl, Nat.le_of_ble_eq_true rfl⟩ (zs_in (by decide) mf163 (Nat.le_of_ble_eq_true rfl) ?_) (fun _ _ q => q)
  show zGo X l 1 0 0 163 0 [(0, .ref 164), (1, .int a)] [] w1M _
  refine zs_iload_n (pc := 0) t163_0 rfl ?_
  refine zs_aload_n (pc := 1) t163_1 rfl ?_
  have w2 := ib164_4 w1I
  refine zs_get (pc := 2) t163_2 (by decide) (zk1 (w1s.k fk_zMc_164)) (zfvi rfl rfl) ?_
  by_cases w3 : (zI w1M 164 4).toInt ≤ a.toInt
  · refine zs_icmp_geT (pc := 5) t163_5 rfl rfl (by omega) ?_
    refine zs_aconst_null (pc := 19) t163_19 ?_
    refine zs_aret0 (pc := 20) t163_20 (by rw [mr163]; rfl) ?_
    show zGo X l 6 0 0 203 15 [(0, .ref 6), (1, .int a)] [.null] w1M _
    refine zs_astore_n0 (pc := 15) t203_15 (ls' := [(2, .null), (0, .ref 6), (1, .int a)]) (zml mf203 (by decide)) rfl ?_
    refine zs_aload_n0 (pc := 16) t203_16 rfl ?_
    refine zs_ifnonnullF (pc := 17) t203_17 ?_
    refine zs_iconst (pc := 20) t203_20 (v := -1) (by decide) ?_
    exact zs_iret (pc := 21) t203_21 mr203 (by decide) (hQ _ _ w1s w1I ((zFr.refl).trans (w1F.mono rfl)) (zrg _).1 (zrg _).2)
  · refine zs_icmp_geF (pc := 5) t163_5 rfl rfl (by omega) ?_
    refine zs_aload_n (pc := 8) t163_8 rfl ?_
    refine zs_get (pc := 9) t163_9 (by decide) (zk1 (w1s.k fk_zMc_164)) (w1s.p rfl fv_zMc_164_1) ?_
    refine zs_iload_n (pc := 12) t163_12 rfl ?_
    refine zs_invV (pc := 13) (k := 165) (as' := [.int a]) (st := []) t163_13 mf126 rfl rfl (Or.inl ⟨by decide, (zk1 (w1s.k fk_zMc_165))⟩) ⟨by decide, by decide, Nat.le_of_ble_eq_true rfl, Nat.le_of_ble_eq_true rfl⟩ (zs_in (by decide) mf126 (Nat.le_of_ble_eq_true rfl) ?_) (fun _ _ q => q)
    show zGo X l 0 0 0 126 0 [(0, .ref 165), (1, .int a)] [] w1M _
    refine zs_iload_n (pc := 0) t126_0 rfl ?_
    by_cases w4 : a.toInt < 0
    · refine zs_if_ltT (pc := 1) t126_1 rfl (by omega) ?_
      refine zs_aconst_null (pc := 21) t126_21 ?_
      refine zs_aret0 (pc := 22) t126_22 (by rw [mr126]; rfl) ?_
      show zGo X l 1 0 0 163 16 [(0, .ref 164), (1, .int a)] [.null] w1M _
      refine zs_goto (pc := 16) t163_16 ?_
      refine zs_aret0 (pc := 20) t163_20 (by rw [mr163]; rfl) ?_
      show zGo X l 6 0 0 203 15 [(0, .ref 6), (1, .int a)] [.null] w1M _
      refine zs_astore_n0 (pc := 15) t203_15 (ls' := [(2, .null), (0, .ref 6), (1, .int a)]) (zml mf203 (by decide)) rfl ?_
      refine zs_aload_n0 (pc := 16) t203_16 rfl ?_
      refine zs_ifnonnullF (pc := 17) t203_17 ?_
      refine zs_iconst (pc := 20) t203_20 (v := -1) (by decide) ?_
      exact zs_iret (pc := 21) t203_21 mr203 (by decide) (hQ _ _ w1s w1I ((zFr.refl).trans (w1F.mono rfl)) (zrg _).1 (zrg _).2)
    · refine zs_if_ltF (pc := 1) t126_1 rfl (by omega) ?_
      refine zs_iload_n (pc := 4) t126_4 rfl ?_
      refine zs_aload_n (pc := 5) t126_5 rfl ?_
      have w5 := ib165_2 w1I
      refine zs_get (pc := 6) t126_6 (by decide) (zk1 (w1s.k fk_zMc_165)) (zfvi rfl rfl) ?_
      by_cases w6 : (zI w1M 165 2).toInt ≤ a.toInt
      · refine zs_icmp_geT (pc := 9) t126_9 rfl rfl (by omega) ?_
        refine zs_aconst_null (pc := 21) t126_21 ?_
        refine zs_aret0 (pc := 22) t126_22 (by rw [mr126]; rfl) ?_
        show zGo X l 1 0 0 163 16 [(0, .ref 164), (1, .int a)] [.null] w1M _
        refine zs_goto (pc := 16) t163_16 ?_
        refine zs_aret0 (pc := 20) t163_20 (by rw [mr163]; rfl) ?_
        show zGo X l 6 0 0 203 15 [(0, .ref 6), (1, .int a)] [.null] w1M _
        refine zs_astore_n0 (pc := 15) t203_15 (ls' := [(2, .null), (0, .ref 6), (1, .int a)]) (zml mf203 (by decide)) rfl ?_
        refine zs_aload_n0 (pc := 16) t203_16 rfl ?_
        refine zs_ifnonnullF (pc := 17) t203_17 ?_
        refine zs_iconst (pc := 20) t203_20 (v := -1) (by decide) ?_
        exact zs_iret (pc := 21) t203_21 mr203 (by decide) (hQ _ _ w1s w1I ((zFr.refl).trans (w1F.mono rfl)) (zrg _).1 (zrg _).2)
      · refine zs_icmp_geF (pc := 9) t126_9 rfl rfl (by omega) ?_
        refine zs_aload_n (pc := 12) t126_12 rfl ?_
        refine zs_get (pc := 13) t126_13 (by decide) (zk1 (w1s.k fk_zMc_165)) (w1s.p rfl fv_zMc_165_1) ?_
        refine zs_iload_n (pc := 16) t126_16 rfl ?_
        obtain ⟨w7n, w7⟩ : ∃ n : Nat, a.toInt = (n : Int) := ⟨a.toInt.toNat, by omega⟩
        have w8 : w7n < 20 := by omega
        refine zs_aald (pc := 17) t126_17 (j := w7n) (Or.inr (zk1 (w1s.k fk_zMc_179))) w7 (zk2 (w1s.k fk_zMc_179) (by omega)) (w1s.a (fpT181 w7n w8)) ?_
        refine zs_goto (pc := 18) t126_18 ?_
        refine zs_aret (pc := 22) t126_22 (by rw [mr126]; rfl) ?_
        show zGo X l 1 0 0 163 16 [(0, .ref 164), (1, .int a)] [.ref (181 + 3 * w7n)] w1M _
        refine zs_goto (pc := 16) t163_16 ?_
        refine zs_aret (pc := 20) t163_20 (by rw [mr163]; rfl) ?_
        show zGo X l 6 0 0 203 15 [(0, .ref 6), (1, .int a)] [.ref (181 + 3 * w7n)] w1M _
        refine zs_astore_n (pc := 15) t203_15 (ls' := [(2, .ref (181 + 3 * w7n)), (0, .ref 6), (1, .int a)]) (zml mf203 (by decide)) rfl ?_
        refine zs_aload_n (pc := 16) t203_16 rfl ?_
        refine zs_ifnonnullT (pc := 17) t203_17 ?_
        refine zs_iconst (pc := 22) t203_22 (v := 0) (by decide) ?_
        refine zs_istore_n (pc := 23) t203_23 (ls' := [(3, .int (0 : Int32)), (2, .ref (181 + 3 * w7n)), (0, .ref 6), (1, .int a)]) (zml mf203 (by decide)) rfl ?_
        refine zs_iconst (pc := 24) t203_24 (v := 0) (by decide) ?_
        refine zs_istore (pc := 25) t203_25 (ls' := [(4, .int (0 : Int32)), (3, .int (0 : Int32)), (2, .ref (181 + 3 * w7n)), (0, .ref 6), (1, .int a)]) (zml mf203 (by decide)) rfl ?_
        have w9L : ∀ (m : Nat) (w9x3 : Int32) (w9x4 : Int32), (0 ≤ w9x4.toInt ∧ w9x4.toInt ≤ 8) → 8 - w9x4.toInt ≤ (m : Int) → zGo X l 6 0 0 203 27 [(0, .ref 6), (1, .int a), (2, .ref (181 + 3 * w7n)), (3, .int w9x3), (4, .int w9x4)] [] w1M Q := by
          intro m
          induction m using Nat.strongRecOn with
          | ind w9m w9ih =>
            intro w9x3 w9x4 w9b4 w9q
            have w9g3 := zrg w9x3
            refine zs_iload (pc := 27) t203_27 rfl ?_
            refine zs_aload_n (pc := 29) t203_29 rfl ?_
            refine zs_get (pc := 30) t203_30 (by decide) (zk1 (w1s.k fk_zMc_6)) (w1s.p rfl fv_zMc_6_0) ?_
            have w10 := ib7_0 hI
            refine zs_get (pc := 33) t203_33 (by decide) (zk1 (w1s.k fk_zMc_7)) (zfvi rfl ((w1F 7 0 rfl).trans rfl)) ?_
            by_cases w11 : (zI M 7 0).toInt ≤ w9x4.toInt
            · refine zs_icmp_geT (pc := 36) t203_36 rfl rfl (by omega) ?_
              refine zs_iload_n (pc := 71) t203_71 rfl ?_
              exact zs_iret (pc := 72) t203_72 mr203 rfl (hQ _ _ w1s w1I ((zFr.refl).trans (w1F.mono rfl)) (zrg _).1 (zrg _).2)
            · refine zs_icmp_geF (pc := 36) t203_36 rfl rfl (by omega) ?_
              refine zs_aload_n (pc := 39) t203_39 rfl ?_
              refine zs_get (pc := 40) t203_40 (by decide) (zk1 (w1s.k fk_zMc_6)) (w1s.p rfl fv_zMc_6_0) ?_
              refine zs_get (pc := 43) t203_43 (by decide) (zk1 (w1s.k fk_zMc_7)) (w1s.p rfl fv_zMc_7_2) ?_
              refine zs_iload (pc := 46) t203_46 rfl ?_
              obtain ⟨w12n, w12⟩ : ∃ n : Nat, w9x4.toInt = (n : Int) := ⟨w9x4.toInt.toNat, by omega⟩
              have w13 := ib9 hI w12n
              refine zs_bald (pc := 48) t203_48 (j := w12n) (Or.inr (zk1 (w1s.k fk_zMc_9))) w12 (zk2 (w1s.k fk_zMc_9) (by omega)) ((w1F 9 w12n rfl).trans rfl) ?_
              by_cases w14 : (zI M 9 w12n).toInt = 0
              · refine zs_if_eqT (pc := 49) t203_49 rfl (by omega) ?_
                obtain ⟨w15v, w15e, w15⟩ := ziadd (a := w9x4) (b := Int32.ofInt 1) rfl (show (Int32.ofInt 1).toInt = 1 by decide) (by omega) (by omega)
                refine zs_iinc (pc := 65) t203_65 (ls' := [(4, .int w15v), (0, .ref 6), (1, .int a), (2, .ref (181 + 3 * w7n)), (3, .int w9x3)]) (zml mf203 (by decide)) rfl (c := w15v) w15e rfl ?_
                refine zs_goto (pc := 68) t203_68 ?_
                refine zGo.locals (ls' := [(0, .ref 6), (1, .int a), (2, .ref (181 + 3 * w7n)), (3, .int w9x3), (4, .int w15v)]) (by simp) ?_
                exact w9ih (w9m - 1) (by omega) w9x3 w15v ⟨by omega, by omega⟩ (by omega)
              · refine zs_if_eqF (pc := 49) t203_49 rfl (by omega) ?_
                refine zs_aload_n (pc := 52) t203_52 rfl ?_
                refine zs_get (pc := 53) t203_53 (by decide) (zk1 (w1s.k (fT181_0 w7n w8))) (w1s.p rfl (fvT181_6 w7n w8)) ?_
                refine zs_iload (pc := 56) t203_56 rfl ?_
                have w16 := ibT181_1 w1I w8 w12n
                refine zs_iald (pc := 58) t203_58 (j := w12n) (by omega) (zk1 (w1s.k (fT181_1 w7n w8))) w12 (zk2 (w1s.k (fT181_1 w7n w8)) (by omega)) rfl ?_
                by_cases w17 : 0 ≤ (zI w1M (181 + 3 * w7n + 1) w12n).toInt
                · refine zs_if_geT (pc := 59) t203_59 rfl (by omega) ?_
                  obtain ⟨w18v, w18e, w18⟩ := ziadd (a := w9x4) (b := Int32.ofInt 1) rfl (show (Int32.ofInt 1).toInt = 1 by decide) (by omega) (by omega)
                  refine zs_iinc (pc := 65) t203_65 (ls' := [(4, .int w18v), (0, .ref 6), (1, .int a), (2, .ref (181 + 3 * w7n)), (3, .int w9x3)]) (zml mf203 (by decide)) rfl (c := w18v) w18e rfl ?_
                  refine zs_goto (pc := 68) t203_68 ?_
                  refine zGo.locals (ls' := [(0, .ref 6), (1, .int a), (2, .ref (181 + 3 * w7n)), (3, .int w9x3), (4, .int w18v)]) (by simp) ?_
                  exact w9ih (w9m - 1) (by omega) w9x3 w18v ⟨by omega, by omega⟩ (by omega)
                · refine zs_if_geF (pc := 59) t203_59 rfl (by omega) ?_
                  obtain ⟨w19v, w19e⟩ : ∃ v, w9x3 + Int32.ofInt 1 = v := ⟨_, rfl⟩
                  have w19 := zrg w19v
                  refine zs_iinc (pc := 62) t203_62 (ls' := [(3, .int w19v), (0, .ref 6), (1, .int a), (2, .ref (181 + 3 * w7n)), (4, .int w9x4)]) (zml mf203 (by decide)) rfl (c := w19v) w19e rfl ?_
                  obtain ⟨w20v, w20e, w20⟩ := ziadd (a := w9x4) (b := Int32.ofInt 1) rfl (show (Int32.ofInt 1).toInt = 1 by decide) (by omega) (by omega)
                  refine zs_iinc (pc := 65) t203_65 (ls' := [(4, .int w20v), (3, .int w19v), (0, .ref 6), (1, .int a), (2, .ref (181 + 3 * w7n))]) (zml mf203 (by decide)) rfl (c := w20v) w20e rfl ?_
                  refine zs_goto (pc := 68) t203_68 ?_
                  refine zGo.locals (ls' := [(0, .ref 6), (1, .int a), (2, .ref (181 + 3 * w7n)), (3, .int w19v), (4, .int w20v)]) (by simp) ?_
                  exact w9ih (w9m - 1) (by omega) w19v w20v ⟨by omega, by omega⟩ (by omega)
        refine zGo.locals (ls' := [(0, .ref 6), (1, .int a), (2, .ref (181 + 3 * w7n)), (3, .int (0 : Int32)), (4, .int (0 : Int32))]) (by simp) ?_
        have w21 := li0
        have w22 := li0
        exact w9L ((8 - 0 : Int).toNat) (0 : Int32) (0 : Int32) ⟨by decide, by decide⟩ (by omega)
theorem T204_6 {X : zX} {l : Launch} {M : zM} {Q : Option Value → zM → Prop} {a b : Int32} (hs : zSk zMc M) (hI : zIv cLo cHi M) (hQ : ∀ (M' : zM) (v : Int32), zSk zMc M' → zIv cLo cHi M' → zFr [(161, 334, none)] M M' → (-2147483648) ≤ v.toInt → v.toInt ≤ 2147483647 → Q (some (.int v)) M') : zCall X l 6 0 0 204 [.ref 6, .int a, .int b] M Q := by
  have ga := zrg a
  have gb := zrg b
  refine zs_in (by decide) mf204 (Nat.le_of_ble_eq_true rfl) ?_
  show zGo X l 6 0 0 204 0 [(0, .ref 6), (1, .int a), (2, .int b)] [] M _
  refine zs_aload_n (pc := 0) t204_0 rfl ?_
  refine zs_get (pc := 1) t204_1 (by decide) (zk1 (hs.k fk_zMc_6)) (hs.p rfl fv_zMc_6_6) ?_
  refine zs_aload_n (pc := 4) t204_4 rfl ?_
  refine zs_get (pc := 5) t204_5 (by decide) (zk1 (hs.k fk_zMc_6)) (hs.p rfl fv_zMc_6_0) ?_
  refine zs_invV (pc := 8) (k := 164) (as' := [.ref 7]) (st := []) t204_8 mf105 rfl rfl (Or.inl ⟨by decide, (zk1 (hs.k fk_zMc_164))⟩) ⟨by decide, by decide, Nat.le_of_ble_eq_true rfl, Nat.le_of_ble_eq_true rfl⟩ (C105_164_7 hs hI ?_) (fun _ _ q => q)
  intro w1M w1s w1I w1F
  show zGo X l 6 0 0 204 11 [(0, .ref 6), (1, .int a), (2, .int b)] [.ref 164] w1M _
  refine zs_iload_n (pc := 11) t204_11 rfl ?_
  refine zs_invV (pc := 12) (k := 164) (as' := [.int a]) (st := []) t204_12 mf163 rfl rfl (Or.inl ⟨by decide, (zk1 (w1s.k fk_zMc_164))⟩) ⟨by decide, by decide, Nat.le_of_ble_eq_true rfl, Nat.le_of_ble_eq_true rfl⟩ (zs_in (by decide) mf163 (Nat.le_of_ble_eq_true rfl) ?_) (fun _ _ q => q)
  show zGo X l 1 0 0 163 0 [(0, .ref 164), (1, .int a)] [] w1M _
  refine zs_iload_n (pc := 0) t163_0 rfl ?_
  refine zs_aload_n (pc := 1) t163_1 rfl ?_
  have w2 := ib164_4 w1I
  refine zs_get (pc := 2) t163_2 (by decide) (zk1 (w1s.k fk_zMc_164)) (zfvi rfl rfl) ?_
  by_cases w3 : (zI w1M 164 4).toInt ≤ a.toInt
  · refine zs_icmp_geT (pc := 5) t163_5 rfl rfl (by omega) ?_
    refine zs_aconst_null (pc := 19) t163_19 ?_
    refine zs_aret0 (pc := 20) t163_20 (by rw [mr163]; rfl) ?_
    show zGo X l 6 0 0 204 15 [(0, .ref 6), (1, .int a), (2, .int b)] [.null] w1M _
    refine zs_astore_n0 (pc := 15) t204_15 (ls' := [(3, .null), (0, .ref 6), (1, .int a), (2, .int b)]) (zml mf204 (by decide)) rfl ?_
    refine zs_aload_n0 (pc := 16) t204_16 rfl ?_
    refine zs_ifnullT (pc := 17) t204_17 ?_
    refine zs_iconst (pc := 31) t204_31 (v := -1) (by decide) ?_
    exact zs_iret (pc := 32) t204_32 mr204 (by decide) (hQ _ _ w1s w1I ((zFr.refl).trans (w1F.mono rfl)) (zrg _).1 (zrg _).2)
  · refine zs_icmp_geF (pc := 5) t163_5 rfl rfl (by omega) ?_
    refine zs_aload_n (pc := 8) t163_8 rfl ?_
    refine zs_get (pc := 9) t163_9 (by decide) (zk1 (w1s.k fk_zMc_164)) (w1s.p rfl fv_zMc_164_1) ?_
    refine zs_iload_n (pc := 12) t163_12 rfl ?_
    refine zs_invV (pc := 13) (k := 165) (as' := [.int a]) (st := []) t163_13 mf126 rfl rfl (Or.inl ⟨by decide, (zk1 (w1s.k fk_zMc_165))⟩) ⟨by decide, by decide, Nat.le_of_ble_eq_true rfl, Nat.le_of_ble_eq_true rfl⟩ (zs_in (by decide) mf126 (Nat.le_of_ble_eq_true rfl) ?_) (fun _ _ q => q)
    show zGo X l 0 0 0 126 0 [(0, .ref 165), (1, .int a)] [] w1M _
    refine zs_iload_n (pc := 0) t126_0 rfl ?_
    by_cases w4 : a.toInt < 0
    · refine zs_if_ltT (pc := 1) t126_1 rfl (by omega) ?_
      refine zs_aconst_null (pc := 21) t126_21 ?_
      refine zs_aret0 (pc := 22) t126_22 (by rw [mr126]; rfl) ?_
      show zGo X l 1 0 0 163 16 [(0, .ref 164), (1, .int a)] [.null] w1M _
      refine zs_goto (pc := 16) t163_16 ?_
      refine zs_aret0 (pc := 20) t163_20 (by rw [mr163]; rfl) ?_
      show zGo X l 6 0 0 204 15 [(0, .ref 6), (1, .int a), (2, .int b)] [.null] w1M _
      refine zs_astore_n0 (pc := 15) t204_15 (ls' := [(3, .null), (0, .ref 6), (1, .int a), (2, .int b)]) (zml mf204 (by decide)) rfl ?_
      refine zs_aload_n0 (pc := 16) t204_16 rfl ?_
      refine zs_ifnullT (pc := 17) t204_17 ?_
      refine zs_iconst (pc := 31) t204_31 (v := -1) (by decide) ?_
      exact zs_iret (pc := 32) t204_32 mr204 (by decide) (hQ _ _ w1s w1I ((zFr.refl).trans (w1F.mono rfl)) (zrg _).1 (zrg _).2)
    · refine zs_if_ltF (pc := 1) t126_1 rfl (by omega) ?_
      refine zs_iload_n (pc := 4) t126_4 rfl ?_
      refine zs_aload_n (pc := 5) t126_5 rfl ?_
      have w5 := ib165_2 w1I
      refine zs_get (pc := 6) t126_6 (by decide) (zk1 (w1s.k fk_zMc_165)) (zfvi rfl rfl) ?_
      by_cases w6 : (zI w1M 165 2).toInt ≤ a.toInt
      · refine zs_icmp_geT (pc := 9) t126_9 rfl rfl (by omega) ?_
        refine zs_aconst_null (pc := 21) t126_21 ?_
        refine zs_aret0 (pc := 22) t126_22 (by rw [mr126]; rfl) ?_
        show zGo X l 1 0 0 163 16 [(0, .ref 164), (1, .int a)] [.null] w1M _
        refine zs_goto (pc := 16) t163_16 ?_
        refine zs_aret0 (pc := 20) t163_20 (by rw [mr163]; rfl) ?_
        show zGo X l 6 0 0 204 15 [(0, .ref 6), (1, .int a), (2, .int b)] [.null] w1M _
        refine zs_astore_n0 (pc := 15) t204_15 (ls' := [(3, .null), (0, .ref 6), (1, .int a), (2, .int b)]) (zml mf204 (by decide)) rfl ?_
        refine zs_aload_n0 (pc := 16) t204_16 rfl ?_
        refine zs_ifnullT (pc := 17) t204_17 ?_
        refine zs_iconst (pc := 31) t204_31 (v := -1) (by decide) ?_
        exact zs_iret (pc := 32) t204_32 mr204 (by decide) (hQ _ _ w1s w1I ((zFr.refl).trans (w1F.mono rfl)) (zrg _).1 (zrg _).2)
      · refine zs_icmp_geF (pc := 9) t126_9 rfl rfl (by omega) ?_
        refine zs_aload_n (pc := 12) t126_12 rfl ?_
        refine zs_get (pc := 13) t126_13 (by decide) (zk1 (w1s.k fk_zMc_165)) (w1s.p rfl fv_zMc_165_1) ?_
        refine zs_iload_n (pc := 16) t126_16 rfl ?_
        obtain ⟨w7n, w7⟩ : ∃ n : Nat, a.toInt = (n : Int) := ⟨a.toInt.toNat, by omega⟩
        have w8 : w7n < 20 := by omega
        refine zs_aald (pc := 17) t126_17 (j := w7n) (Or.inr (zk1 (w1s.k fk_zMc_179))) w7 (zk2 (w1s.k fk_zMc_179) (by omega)) (w1s.a (fpT181 w7n w8)) ?_
        refine zs_goto (pc := 18) t126_18 ?_
        refine zs_aret (pc := 22) t126_22 (by rw [mr126]; rfl) ?_
        show zGo X l 1 0 0 163 16 [(0, .ref 164), (1, .int a)] [.ref (181 + 3 * w7n)] w1M _
        refine zs_goto (pc := 16) t163_16 ?_
        refine zs_aret (pc := 20) t163_20 (by rw [mr163]; rfl) ?_
        show zGo X l 6 0 0 204 15 [(0, .ref 6), (1, .int a), (2, .int b)] [.ref (181 + 3 * w7n)] w1M _
        refine zs_astore_n (pc := 15) t204_15 (ls' := [(3, .ref (181 + 3 * w7n)), (0, .ref 6), (1, .int a), (2, .int b)]) (zml mf204 (by decide)) rfl ?_
        refine zs_aload_n (pc := 16) t204_16 rfl ?_
        refine zs_ifnullF (pc := 17) t204_17 ?_
        refine zs_aload_n (pc := 20) t204_20 rfl ?_
        refine zs_get (pc := 21) t204_21 (by decide) (zk1 (w1s.k fk_zMc_6)) (w1s.p rfl fv_zMc_6_0) ?_
        refine zs_iload_n (pc := 24) t204_24 rfl ?_
        refine zs_invV (pc := 25) (k := 7) (as' := [.int b]) (st := []) t204_25 mf41 rfl rfl (Or.inl ⟨by decide, (zk1 (w1s.k fk_zMc_7))⟩) ⟨by decide, by decide, Nat.le_of_ble_eq_true rfl, Nat.le_of_ble_eq_true rfl⟩ (zs_in (by decide) mf41 (Nat.le_of_ble_eq_true rfl) ?_) (fun _ _ q => q)
        show zGo X l 0 0 0 41 0 [(0, .ref 7), (1, .int b)] [] w1M _
        refine zs_iload_n (pc := 0) t41_0 rfl ?_
        by_cases w9 : b.toInt < 0
        · refine zs_if_ltT (pc := 1) t41_1 rfl (by omega) ?_
          refine zs_iconst (pc := 16) t41_16 (v := 0) (by decide) ?_
          refine zs_iret (pc := 17) t41_17 mr41 (by decide) ?_
          show zGo X l 6 0 0 204 28 [(3, .ref (181 + 3 * w7n)), (0, .ref 6), (1, .int a), (2, .int b)] [.int (0 : Int32)] w1M _
          refine zs_if_neF (pc := 28) t204_28 li0 (by decide) ?_
          refine zs_iconst (pc := 31) t204_31 (v := -1) (by decide) ?_
          exact zs_iret (pc := 32) t204_32 mr204 (by decide) (hQ _ _ w1s w1I ((zFr.refl).trans (w1F.mono rfl)) (zrg _).1 (zrg _).2)
        · refine zs_if_ltF (pc := 1) t41_1 rfl (by omega) ?_
          refine zs_iload_n (pc := 4) t41_4 rfl ?_
          refine zs_aload_n (pc := 5) t41_5 rfl ?_
          have w10 := ib7_0 hI
          refine zs_get (pc := 6) t41_6 (by decide) (zk1 (w1s.k fk_zMc_7)) (zfvi rfl ((w1F 7 0 rfl).trans rfl)) ?_
          by_cases w11 : (zI M 7 0).toInt ≤ b.toInt
          · refine zs_icmp_geT (pc := 9) t41_9 rfl rfl (by omega) ?_
            refine zs_iconst (pc := 16) t41_16 (v := 0) (by decide) ?_
            refine zs_iret (pc := 17) t41_17 mr41 (by decide) ?_
            show zGo X l 6 0 0 204 28 [(3, .ref (181 + 3 * w7n)), (0, .ref 6), (1, .int a), (2, .int b)] [.int (0 : Int32)] w1M _
            refine zs_if_neF (pc := 28) t204_28 li0 (by decide) ?_
            refine zs_iconst (pc := 31) t204_31 (v := -1) (by decide) ?_
            exact zs_iret (pc := 32) t204_32 mr204 (by decide) (hQ _ _ w1s w1I ((zFr.refl).trans (w1F.mono rfl)) (zrg _).1 (zrg _).2)
          · refine zs_icmp_geF (pc := 9) t41_9 rfl rfl (by omega) ?_
            refine zs_iconst (pc := 12) t41_12 (v := 1) (by decide) ?_
            refine zs_goto (pc := 13) t41_13 ?_
            refine zs_iret (pc := 17) t41_17 mr41 (by decide) ?_
            show zGo X l 6 0 0 204 28 [(3, .ref (181 + 3 * w7n)), (0, .ref 6), (1, .int a), (2, .int b)] [.int (1 : Int32)] w1M _
            refine zs_if_neT (pc := 28) t204_28 li1 (by decide) ?_
            refine zs_aload_n (pc := 33) t204_33 rfl ?_
            refine zs_aload_n (pc := 34) t204_34 rfl ?_
            refine zs_get (pc := 35) t204_35 (by decide) (zk1 (w1s.k fk_zMc_6)) (w1s.p rfl fv_zMc_6_0) ?_
            refine zs_iload_n (pc := 38) t204_38 rfl ?_
            refine zs_invV (pc := 39) (k := (181 + 3 * w7n)) (as' := [.ref 7, .int b]) (st := []) t204_39 mf202 rfl rfl (Or.inl ⟨by decide, (zk1 (w1s.k (fT181_0 w7n w8)))⟩) ⟨by decide, by decide, Nat.le_of_ble_eq_true rfl, Nat.le_of_ble_eq_true rfl⟩ (C202_T181_7 w1s w1I w8 ?_) (fun _ _ q => q)
            intro w12v w12a w12b
            show zGo X l 6 0 0 204 42 [(3, .ref (181 + 3 * w7n)), (0, .ref 6), (1, .int a), (2, .int b)] [.int w12v] w1M _
            refine zs_istore (pc := 42) t204_42 (ls' := [(4, .int w12v), (3, .ref (181 + 3 * w7n)), (0, .ref 6), (1, .int a), (2, .int b)]) (zml mf204 (by decide)) rfl ?_
            refine zs_bipush (pc := 44) t204_44 (v := -2) (by decide) ?_
            refine zs_istore (pc := 46) t204_46 (ls' := [(5, .int (-2 : Int32)), (4, .int w12v), (3, .ref (181 + 3 * w7n)), (0, .ref 6), (1, .int a), (2, .int b)]) (zml mf204 (by decide)) rfl ?_
            refine zs_iconst (pc := 48) t204_48 (v := 0) (by decide) ?_
            refine zs_istore (pc := 49) t204_49 (ls' := [(6, .int (0 : Int32)), (5, .int (-2 : Int32)), (4, .int w12v), (3, .ref (181 + 3 * w7n)), (0, .ref 6), (1, .int a), (2, .int b)]) (zml mf204 (by decide)) rfl ?_
            refine zs_iconst (pc := 51) t204_51 (v := 0) (by decide) ?_
            refine zs_istore (pc := 52) t204_52 (ls' := [(7, .int (0 : Int32)), (6, .int (0 : Int32)), (5, .int (-2 : Int32)), (4, .int w12v), (3, .ref (181 + 3 * w7n)), (0, .ref 6), (1, .int a), (2, .int b)]) (zml mf204 (by decide)) rfl ?_
            have w13L : ∀ (m : Nat) (w13x5 : Int32) (w13x6 : Int32) (w13x7 : Int32), (0 ≤ w13x7.toInt ∧ w13x7.toInt ≤ 60) → 60 - w13x7.toInt ≤ (m : Int) → zGo X l 6 0 0 204 54 [(0, .ref 6), (1, .int a), (2, .int b), (3, .ref (181 + 3 * w7n)), (4, .int w12v), (5, .int w13x5), (6, .int w13x6), (7, .int w13x7)] [] w1M Q := by
              intro m
              induction m using Nat.strongRecOn with
              | ind w13m w13ih =>
                intro w13x5 w13x6 w13x7 w13b7 w13q
                have w13g5 := zrg w13x5
                have w13g6 := zrg w13x6
                refine zs_iload (pc := 54) t204_54 rfl ?_
                refine zs_aload_n (pc := 56) t204_56 rfl ?_
                refine zs_get (pc := 57) t204_57 (by decide) (zk1 (w1s.k fk_zMc_6)) (w1s.p rfl fv_zMc_6_0) ?_
                have w14 := ib7_3 hI
                refine zs_get (pc := 60) t204_60 (by decide) (zk1 (w1s.k fk_zMc_7)) (zfvi rfl ((w1F 7 3 rfl).trans rfl)) ?_
                by_cases w15 : (zI M 7 3).toInt ≤ w13x7.toInt
                · refine zs_icmp_geT (pc := 63) t204_63 rfl rfl (by omega) ?_
                  refine zs_iload (pc := 151) t204_151 rfl ?_
                  exact zs_iret (pc := 153) t204_153 mr204 rfl (hQ _ _ w1s w1I ((zFr.refl).trans (w1F.mono rfl)) (zrg _).1 (zrg _).2)
                · refine zs_icmp_geF (pc := 63) t204_63 rfl rfl (by omega) ?_
                  refine zs_aload_n (pc := 66) t204_66 rfl ?_
                  refine zs_get (pc := 67) t204_67 (by decide) (zk1 (w1s.k fk_zMc_6)) (w1s.p rfl fv_zMc_6_0) ?_
                  refine zs_get (pc := 70) t204_70 (by decide) (zk1 (w1s.k fk_zMc_7)) (w1s.p rfl fv_zMc_7_4) ?_
                  refine zs_iload (pc := 73) t204_73 rfl ?_
                  obtain ⟨w16n, w16⟩ : ∃ n : Nat, w13x7.toInt = (n : Int) := ⟨w13x7.toInt.toNat, by omega⟩
                  have w17 := ib10 hI w16n
                  refine zs_iald (pc := 75) t204_75 (j := w16n) (by decide) (zk1 (w1s.k fk_zMc_10)) w16 (zk2 (w1s.k fk_zMc_10) (by omega)) ((w1F 10 w16n rfl).trans rfl) ?_
                  refine zs_iload_n (pc := 76) t204_76 rfl ?_
                  by_cases w18 : (zI M 10 w16n).toInt ≠ b.toInt
                  · refine zs_icmp_neT (pc := 77) t204_77 rfl rfl (by omega) ?_
                    obtain ⟨w19v, w19e, w19⟩ := ziadd (a := w13x7) (b := Int32.ofInt 1) rfl (show (Int32.ofInt 1).toInt = 1 by decide) (by omega) (by omega)
                    refine zs_iinc (pc := 145) t204_145 (ls' := [(7, .int w19v), (0, .ref 6), (1, .int a), (2, .int b), (3, .ref (181 + 3 * w7n)), (4, .int w12v), (5, .int w13x5), (6, .int w13x6)]) (zml mf204 (by decide)) rfl (c := w19v) w19e rfl ?_
                    refine zs_goto (pc := 148) t204_148 ?_
                    refine zGo.locals (ls' := [(0, .ref 6), (1, .int a), (2, .int b), (3, .ref (181 + 3 * w7n)), (4, .int w12v), (5, .int w13x5), (6, .int w13x6), (7, .int w19v)]) (by simp) ?_
                    exact w13ih (w13m - 1) (by omega) w13x5 w13x6 w19v ⟨by omega, by omega⟩ (by omega)
                  · refine zs_icmp_neF (pc := 77) t204_77 rfl rfl (by omega) ?_
                    refine zs_aload_n (pc := 80) t204_80 rfl ?_
                    refine zs_get (pc := 81) t204_81 (by decide) (zk1 (w1s.k fk_zMc_6)) (w1s.p rfl fv_zMc_6_0) ?_
                    refine zs_iload (pc := 84) t204_84 rfl ?_
                    refine zs_invV (pc := 86) (k := 7) (as' := [.int w13x7]) (st := []) t204_86 mf93 rfl rfl (Or.inl ⟨by decide, (zk1 (w1s.k fk_zMc_7))⟩) ⟨by decide, by decide, Nat.le_of_ble_eq_true rfl, Nat.le_of_ble_eq_true rfl⟩ (zs_in (by decide) mf93 (Nat.le_of_ble_eq_true rfl) ?_) (fun _ _ q => q)
                    show zGo X l 1 0 0 93 0 [(0, .ref 7), (1, .int w13x7)] [] w1M _
                    refine zs_aload_n (pc := 0) t93_0 rfl ?_
                    refine zs_iload_n (pc := 1) t93_1 rfl ?_
                    refine zs_invV (pc := 2) (k := 7) (as' := [.int w13x7]) (st := []) t93_2 mf91 rfl rfl (Or.inl ⟨by decide, (zk1 (w1s.k fk_zMc_7))⟩) ⟨by decide, by decide, Nat.le_of_ble_eq_true rfl, Nat.le_of_ble_eq_true rfl⟩ (zs_in (by decide) mf91 (Nat.le_of_ble_eq_true rfl) ?_) (fun _ _ q => q)
                    show zGo X l 0 0 0 91 0 [(0, .ref 7), (1, .int w13x7)] [] w1M _
                    refine zs_iload_n (pc := 0) t91_0 rfl ?_
                    refine zs_if_ltF (pc := 1) t91_1 rfl (by omega) ?_
                    refine zs_iload_n (pc := 4) t91_4 rfl ?_
                    refine zs_aload_n (pc := 5) t91_5 rfl ?_
                    refine zs_get (pc := 6) t91_6 (by decide) (zk1 (w1s.k fk_zMc_7)) (zfvi rfl ((w1F 7 3 rfl).trans rfl)) ?_
                    by_cases w20 : (zI M 7 3).toInt ≤ w13x7.toInt
                    · refine zs_icmp_geT (pc := 9) t91_9 rfl rfl (by omega) ?_
                      refine zs_iconst (pc := 16) t91_16 (v := 0) (by decide) ?_
                      refine zs_iret (pc := 17) t91_17 mr91 (by decide) ?_
                      show zGo X l 1 0 0 93 5 [(0, .ref 7), (1, .int w13x7)] [.int (0 : Int32)] w1M _
                      refine zs_if_eqT (pc := 5) t93_5 li0 (by decide) ?_
                      refine zs_iconst (pc := 51) t93_51 (v := 0) (by decide) ?_
                      refine zs_iret (pc := 52) t93_52 mr93 (by decide) ?_
                      show zGo X l 6 0 0 204 89 [(0, .ref 6), (1, .int a), (2, .int b), (3, .ref (181 + 3 * w7n)), (4, .int w12v), (5, .int w13x5), (6, .int w13x6), (7, .int w13x7)] [.int (0 : Int32)] w1M _
                      refine zs_if_eqT (pc := 89) t204_89 li0 (by decide) ?_
                      obtain ⟨w21v, w21e, w21⟩ := ziadd (a := w13x7) (b := Int32.ofInt 1) rfl (show (Int32.ofInt 1).toInt = 1 by decide) (by omega) (by omega)
                      refine zs_iinc (pc := 145) t204_145 (ls' := [(7, .int w21v), (0, .ref 6), (1, .int a), (2, .int b), (3, .ref (181 + 3 * w7n)), (4, .int w12v), (5, .int w13x5), (6, .int w13x6)]) (zml mf204 (by decide)) rfl (c := w21v) w21e rfl ?_
                      refine zs_goto (pc := 148) t204_148 ?_
                      refine zGo.locals (ls' := [(0, .ref 6), (1, .int a), (2, .int b), (3, .ref (181 + 3 * w7n)), (4, .int w12v), (5, .int w13x5), (6, .int w13x6), (7, .int w21v)]) (by simp) ?_
                      exact w13ih (w13m - 1) (by omega) w13x5 w13x6 w21v ⟨by omega, by omega⟩ (by omega)
                    · refine zs_icmp_geF (pc := 9) t91_9 rfl rfl (by omega) ?_
                      refine zs_iconst (pc := 12) t91_12 (v := 1) (by decide) ?_
                      refine zs_goto (pc := 13) t91_13 ?_
                      refine zs_iret (pc := 17) t91_17 mr91 (by decide) ?_
                      show zGo X l 1 0 0 93 5 [(0, .ref 7), (1, .int w13x7)] [.int (1 : Int32)] w1M _
                      refine zs_if_eqF (pc := 5) t93_5 li1 (by decide) ?_
                      refine zs_aload_n (pc := 8) t93_8 rfl ?_
                      refine zs_get (pc := 9) t93_9 (by decide) (zk1 (w1s.k fk_zMc_7)) (w1s.p rfl fv_zMc_7_2) ?_
                      refine zs_aload_n (pc := 12) t93_12 rfl ?_
                      refine zs_get (pc := 13) t93_13 (by decide) (zk1 (w1s.k fk_zMc_7)) (w1s.p rfl fv_zMc_7_4) ?_
                      refine zs_iload_n (pc := 16) t93_16 rfl ?_
                      refine zs_iald (pc := 17) t93_17 (j := w16n) (by decide) (zk1 (w1s.k fk_zMc_10)) w16 (zk2 (w1s.k fk_zMc_10) (by omega)) ((w1F 10 w16n rfl).trans rfl) ?_
                      obtain ⟨w22n, w22⟩ : ∃ n : Nat, (zI M 10 w16n).toInt = (n : Int) := ⟨(zI M 10 w16n).toInt.toNat, by omega⟩
                      have w23 := ib9 hI w22n
                      refine zs_bald (pc := 18) t93_18 (j := w22n) (Or.inr (zk1 (w1s.k fk_zMc_9))) w22 (zk2 (w1s.k fk_zMc_9) (by omega)) ((w1F 9 w22n rfl).trans rfl) ?_
                      by_cases w24 : (zI M 9 w22n).toInt = 0
                      · refine zs_if_eqT (pc := 19) t93_19 rfl (by omega) ?_
                        refine zs_iconst (pc := 51) t93_51 (v := 0) (by decide) ?_
                        refine zs_iret (pc := 52) t93_52 mr93 (by decide) ?_
                        show zGo X l 6 0 0 204 89 [(0, .ref 6), (1, .int a), (2, .int b), (3, .ref (181 + 3 * w7n)), (4, .int w12v), (5, .int w13x5), (6, .int w13x6), (7, .int w13x7)] [.int (0 : Int32)] w1M _
                        refine zs_if_eqT (pc := 89) t204_89 li0 (by decide) ?_
                        obtain ⟨w25v, w25e, w25⟩ := ziadd (a := w13x7) (b := Int32.ofInt 1) rfl (show (Int32.ofInt 1).toInt = 1 by decide) (by omega) (by omega)
                        refine zs_iinc (pc := 145) t204_145 (ls' := [(7, .int w25v), (0, .ref 6), (1, .int a), (2, .int b), (3, .ref (181 + 3 * w7n)), (4, .int w12v), (5, .int w13x5), (6, .int w13x6)]) (zml mf204 (by decide)) rfl (c := w25v) w25e rfl ?_
                        refine zs_goto (pc := 148) t204_148 ?_
                        refine zGo.locals (ls' := [(0, .ref 6), (1, .int a), (2, .int b), (3, .ref (181 + 3 * w7n)), (4, .int w12v), (5, .int w13x5), (6, .int w13x6), (7, .int w25v)]) (by simp) ?_
                        exact w13ih (w13m - 1) (by omega) w13x5 w13x6 w25v ⟨by omega, by omega⟩ (by omega)
                      · refine zs_if_eqF (pc := 19) t93_19 rfl (by omega) ?_
                        refine zs_aload_n (pc := 22) t93_22 rfl ?_
                        refine zs_get (pc := 23) t93_23 (by decide) (zk1 (w1s.k fk_zMc_7)) (w1s.p rfl fv_zMc_7_6) ?_
                        refine zs_iload_n (pc := 26) t93_26 rfl ?_
                        have w26 := ib12 hI w16n
                        refine zs_iald (pc := 27) t93_27 (j := w16n) (by decide) (zk1 (w1s.k fk_zMc_12)) w16 (zk2 (w1s.k fk_zMc_12) (by omega)) ((w1F 12 w16n rfl).trans rfl) ?_
                        refine zs_aload_n (pc := 28) t93_28 rfl ?_
                        refine zs_get (pc := 29) t93_29 (by decide) (zk1 (w1s.k fk_zMc_7)) (w1s.p rfl fv_zMc_7_12) ?_
                        refine zs_iconst (pc := 32) t93_32 (v := 5) (by decide) ?_
                        have w27 := ib17 hI 5
                        refine zs_iald (pc := 33) t93_33 (j := 5) (by decide) (zk1 (w1s.k fk_zMc_17)) li5 (zk2 (w1s.k fk_zMc_17) (by decide)) ((w1F 17 5 rfl).trans rfl) ?_
                        refine zs_aload_n (pc := 34) t93_34 rfl ?_
                        refine zs_get (pc := 35) t93_35 (by decide) (zk1 (w1s.k fk_zMc_7)) (w1s.p rfl fv_zMc_7_12) ?_
                        refine zs_bipush (pc := 38) t93_38 (v := 6) (by decide) ?_
                        have w28 := ib17 hI 6
                        refine zs_iald (pc := 40) t93_40 (j := 6) (by decide) (zk1 (w1s.k fk_zMc_17)) li6 (zk2 (w1s.k fk_zMc_17) (by decide)) ((w1F 17 6 rfl).trans rfl) ?_
                        refine zs_invS (pc := 41) (as := [.int (zI M 12 w16n), .int (zI M 17 5), .int (zI M 17 6)]) (st := []) t93_41 (by decide) mf39 rfl rfl ⟨by decide, by decide, Nat.le_of_ble_eq_true rfl, Nat.le_of_ble_eq_true rfl⟩ (zs_in (by decide) mf39 (Nat.le_of_ble_eq_true rfl) ?_) (fun _ _ q => q)
                        show zGo X l 0 0 0 39 0 [(0, .int (zI M 12 w16n)), (1, .int (zI M 17 5)), (2, .int (zI M 17 6))] [] w1M _
                        refine zs_iload_n (pc := 0) t39_0 rfl ?_
                        refine zs_iload_n (pc := 1) t39_1 rfl ?_
                        by_cases w29 : (zI M 12 w16n).toInt < (zI M 17 5).toInt
                        · refine zs_icmp_ltT (pc := 2) t39_2 rfl rfl (by omega) ?_
                          refine zs_iconst (pc := 14) t39_14 (v := 0) (by decide) ?_
                          refine zs_iret (pc := 15) t39_15 mr39 (by decide) ?_
                          show zGo X l 1 0 0 93 44 [(0, .ref 7), (1, .int w13x7)] [.int (0 : Int32)] w1M _
                          refine zs_if_eqT (pc := 44) t93_44 li0 (by decide) ?_
                          refine zs_iconst (pc := 51) t93_51 (v := 0) (by decide) ?_
                          refine zs_iret (pc := 52) t93_52 mr93 (by decide) ?_
                          show zGo X l 6 0 0 204 89 [(0, .ref 6), (1, .int a), (2, .int b), (3, .ref (181 + 3 * w7n)), (4, .int w12v), (5, .int w13x5), (6, .int w13x6), (7, .int w13x7)] [.int (0 : Int32)] w1M _
                          refine zs_if_eqT (pc := 89) t204_89 li0 (by decide) ?_
                          obtain ⟨w30v, w30e, w30⟩ := ziadd (a := w13x7) (b := Int32.ofInt 1) rfl (show (Int32.ofInt 1).toInt = 1 by decide) (by omega) (by omega)
                          refine zs_iinc (pc := 145) t204_145 (ls' := [(7, .int w30v), (0, .ref 6), (1, .int a), (2, .int b), (3, .ref (181 + 3 * w7n)), (4, .int w12v), (5, .int w13x5), (6, .int w13x6)]) (zml mf204 (by decide)) rfl (c := w30v) w30e rfl ?_
                          refine zs_goto (pc := 148) t204_148 ?_
                          refine zGo.locals (ls' := [(0, .ref 6), (1, .int a), (2, .int b), (3, .ref (181 + 3 * w7n)), (4, .int w12v), (5, .int w13x5), (6, .int w13x6), (7, .int w30v)]) (by simp) ?_
                          exact w13ih (w13m - 1) (by omega) w13x5 w13x6 w30v ⟨by omega, by omega⟩ (by omega)
                        · refine zs_icmp_ltF (pc := 2) t39_2 rfl rfl (by omega) ?_
                          refine zs_iload_n (pc := 5) t39_5 rfl ?_
                          refine zs_iload_n (pc := 6) t39_6 rfl ?_
                          by_cases w31 : (zI M 17 6).toInt < (zI M 12 w16n).toInt
                          · refine zs_icmp_gtT (pc := 7) t39_7 rfl rfl (by omega) ?_
                            refine zs_iconst (pc := 14) t39_14 (v := 0) (by decide) ?_
                            refine zs_iret (pc := 15) t39_15 mr39 (by decide) ?_
                            show zGo X l 1 0 0 93 44 [(0, .ref 7), (1, .int w13x7)] [.int (0 : Int32)] w1M _
                            refine zs_if_eqT (pc := 44) t93_44 li0 (by decide) ?_
                            refine zs_iconst (pc := 51) t93_51 (v := 0) (by decide) ?_
                            refine zs_iret (pc := 52) t93_52 mr93 (by decide) ?_
                            show zGo X l 6 0 0 204 89 [(0, .ref 6), (1, .int a), (2, .int b), (3, .ref (181 + 3 * w7n)), (4, .int w12v), (5, .int w13x5), (6, .int w13x6), (7, .int w13x7)] [.int (0 : Int32)] w1M _
                            refine zs_if_eqT (pc := 89) t204_89 li0 (by decide) ?_
                            obtain ⟨w32v, w32e, w32⟩ := ziadd (a := w13x7) (b := Int32.ofInt 1) rfl (show (Int32.ofInt 1).toInt = 1 by decide) (by omega) (by omega)
                            refine zs_iinc (pc := 145) t204_145 (ls' := [(7, .int w32v), (0, .ref 6), (1, .int a), (2, .int b), (3, .ref (181 + 3 * w7n)), (4, .int w12v), (5, .int w13x5), (6, .int w13x6)]) (zml mf204 (by decide)) rfl (c := w32v) w32e rfl ?_
                            refine zs_goto (pc := 148) t204_148 ?_
                            refine zGo.locals (ls' := [(0, .ref 6), (1, .int a), (2, .int b), (3, .ref (181 + 3 * w7n)), (4, .int w12v), (5, .int w13x5), (6, .int w13x6), (7, .int w32v)]) (by simp) ?_
                            exact w13ih (w13m - 1) (by omega) w13x5 w13x6 w32v ⟨by omega, by omega⟩ (by omega)
                          · refine zs_icmp_gtF (pc := 7) t39_7 rfl rfl (by omega) ?_
                            refine zs_iconst (pc := 10) t39_10 (v := 1) (by decide) ?_
                            refine zs_goto (pc := 11) t39_11 ?_
                            refine zs_iret (pc := 15) t39_15 mr39 (by decide) ?_
                            show zGo X l 1 0 0 93 44 [(0, .ref 7), (1, .int w13x7)] [.int (1 : Int32)] w1M _
                            refine zs_if_eqF (pc := 44) t93_44 li1 (by decide) ?_
                            refine zs_iconst (pc := 47) t93_47 (v := 1) (by decide) ?_
                            refine zs_goto (pc := 48) t93_48 ?_
                            refine zs_iret (pc := 52) t93_52 mr93 (by decide) ?_
                            show zGo X l 6 0 0 204 89 [(0, .ref 6), (1, .int a), (2, .int b), (3, .ref (181 + 3 * w7n)), (4, .int w12v), (5, .int w13x5), (6, .int w13x6), (7, .int w13x7)] [.int (1 : Int32)] w1M _
                            refine zs_if_eqF (pc := 89) t204_89 li1 (by decide) ?_
                            refine zs_aload_n (pc := 92) t204_92 rfl ?_
                            refine zs_get (pc := 93) t204_93 (by decide) (zk1 (w1s.k fk_zMc_6)) (w1s.p rfl fv_zMc_6_6) ?_
                            refine zs_iload (pc := 96) t204_96 rfl ?_
                            refine zs_invV (pc := 98) (k := 164) (as' := [.int w13x7]) (st := []) t204_98 mf142 rfl rfl (Or.inl ⟨by decide, (zk1 (w1s.k fk_zMc_164))⟩) ⟨by decide, by decide, Nat.le_of_ble_eq_true rfl, Nat.le_of_ble_eq_true rfl⟩ (zs_in (by decide) mf142 (Nat.le_of_ble_eq_true rfl) ?_) (fun _ _ q => q)
                            show zGo X l 0 0 0 142 0 [(0, .ref 164), (1, .int w13x7)] [] w1M _
                            refine zs_iload_n (pc := 0) t142_0 rfl ?_
                            refine zs_if_ltF (pc := 1) t142_1 rfl (by omega) ?_
                            refine zs_iload_n (pc := 4) t142_4 rfl ?_
                            refine zs_bipush (pc := 5) t142_5 (v := 60) (by decide) ?_
                            refine zs_icmp_geF (pc := 7) t142_7 rfl li60 (by omega) ?_
                            refine zs_aload_n (pc := 10) t142_10 rfl ?_
                            refine zs_get (pc := 11) t142_11 (by decide) (zk1 (w1s.k fk_zMc_164)) (w1s.p rfl fv_zMc_164_6) ?_
                            refine zs_iload_n (pc := 14) t142_14 rfl ?_
                            have w33 := ib317 w1I w16n
                            refine zs_iald (pc := 15) t142_15 (j := w16n) (by decide) (zk1 (w1s.k fk_zMc_317)) w16 (zk2 (w1s.k fk_zMc_317) (by omega)) rfl ?_
                            refine zs_goto (pc := 16) t142_16 ?_
                            refine zs_iret (pc := 21) t142_21 mr142 rfl ?_
                            show zGo X l 6 0 0 204 101 [(0, .ref 6), (1, .int a), (2, .int b), (3, .ref (181 + 3 * w7n)), (4, .int w12v), (5, .int w13x5), (6, .int w13x6), (7, .int w13x7)] [.int (zI w1M 317 w16n)] w1M _
                            by_cases w34 : (zI w1M 317 w16n).toInt < 0
                            · refine zs_if_ltT (pc := 101) t204_101 rfl (by omega) ?_
                              refine zs_aload_n (pc := 107) t204_107 rfl ?_
                              refine zs_get (pc := 108) t204_108 (by decide) (zk1 (w1s.k fk_zMc_6)) (w1s.p rfl fv_zMc_6_0) ?_
                              refine zs_get (pc := 111) t204_111 (by decide) (zk1 (w1s.k fk_zMc_7)) (w1s.p rfl fv_zMc_7_5) ?_
                              refine zs_iload (pc := 114) t204_114 rfl ?_
                              have w35 := ib11 hI w16n
                              refine zs_iald (pc := 116) t204_116 (j := w16n) (by decide) (zk1 (w1s.k fk_zMc_11)) w16 (zk2 (w1s.k fk_zMc_11) (by omega)) ((w1F 11 w16n rfl).trans rfl) ?_
                              refine zs_iload (pc := 117) t204_117 rfl ?_
                              obtain ⟨w36v, w36⟩ : ∃ v, v = (zI M 11 w16n) - w12v := ⟨_, rfl⟩
                              have w36g := zrg w36v
                              refine zs_isub (pc := 119) t204_119 (c := w36v) w36.symm ?_
                              refine zs_invS (pc := 120) (as := [.int w36v]) (st := []) t204_120 (by decide) mf122 rfl rfl ⟨by decide, by decide, Nat.le_of_ble_eq_true rfl, Nat.le_of_ble_eq_true rfl⟩ (zs_in (by decide) mf122 (Nat.le_of_ble_eq_true rfl) ?_) (fun _ _ q => q)
                              show zGo X l 0 0 0 122 0 [(0, .int w36v)] [] w1M _
                              refine zs_iload_n (pc := 0) t122_0 rfl ?_
                              by_cases w37 : 0 ≤ w36v.toInt
                              · refine zs_if_geT (pc := 1) t122_1 rfl (by omega) ?_
                                refine zs_iload_n (pc := 9) t122_9 rfl ?_
                                refine zs_iret (pc := 10) t122_10 mr122 rfl ?_
                                show zGo X l 6 0 0 204 123 [(0, .ref 6), (1, .int a), (2, .int b), (3, .ref (181 + 3 * w7n)), (4, .int w12v), (5, .int w13x5), (6, .int w13x6), (7, .int w13x7)] [.int w36v] w1M _
                                refine zs_istore (pc := 123) t204_123 (ls' := [(8, .int w36v), (0, .ref 6), (1, .int a), (2, .int b), (3, .ref (181 + 3 * w7n)), (4, .int w12v), (5, .int w13x5), (6, .int w13x6), (7, .int w13x7)]) (zml mf204 (by decide)) rfl ?_
                                refine zs_iload (pc := 125) t204_125 rfl ?_
                                by_cases w38 : w13x5.toInt < 0
                                · refine zs_if_ltT (pc := 127) t204_127 rfl (by omega) ?_
                                  refine zs_iload (pc := 137) t204_137 rfl ?_
                                  refine zs_istore (pc := 139) t204_139 (ls' := [(5, .int w13x7), (8, .int w36v), (0, .ref 6), (1, .int a), (2, .int b), (3, .ref (181 + 3 * w7n)), (4, .int w12v), (6, .int w13x6), (7, .int w13x7)]) (zml mf204 (by decide)) rfl ?_
                                  refine zs_iload (pc := 141) t204_141 rfl ?_
                                  refine zs_istore (pc := 143) t204_143 (ls' := [(6, .int w36v), (5, .int w13x7), (8, .int w36v), (0, .ref 6), (1, .int a), (2, .int b), (3, .ref (181 + 3 * w7n)), (4, .int w12v), (7, .int w13x7)]) (zml mf204 (by decide)) rfl ?_
                                  obtain ⟨w39v, w39e, w39⟩ := ziadd (a := w13x7) (b := Int32.ofInt 1) rfl (show (Int32.ofInt 1).toInt = 1 by decide) (by omega) (by omega)
                                  refine zs_iinc (pc := 145) t204_145 (ls' := [(7, .int w39v), (6, .int w36v), (5, .int w13x7), (8, .int w36v), (0, .ref 6), (1, .int a), (2, .int b), (3, .ref (181 + 3 * w7n)), (4, .int w12v)]) (zml mf204 (by decide)) rfl (c := w39v) w39e rfl ?_
                                  refine zs_goto (pc := 148) t204_148 ?_
                                  refine zGo.locals (ls' := [(0, .ref 6), (1, .int a), (2, .int b), (3, .ref (181 + 3 * w7n)), (4, .int w12v), (5, .int w13x7), (6, .int w36v), (7, .int w39v)]) (by simp) ?_
                                  exact w13ih (w13m - 1) (by omega) w13x7 w36v w39v ⟨by omega, by omega⟩ (by omega)
                                · refine zs_if_ltF (pc := 127) t204_127 rfl (by omega) ?_
                                  refine zs_iload (pc := 130) t204_130 rfl ?_
                                  refine zs_iload (pc := 132) t204_132 rfl ?_
                                  by_cases w40 : w13x6.toInt ≤ w36v.toInt
                                  · refine zs_icmp_geT (pc := 134) t204_134 rfl rfl (by omega) ?_
                                    obtain ⟨w41v, w41e, w41⟩ := ziadd (a := w13x7) (b := Int32.ofInt 1) rfl (show (Int32.ofInt 1).toInt = 1 by decide) (by omega) (by omega)
                                    refine zs_iinc (pc := 145) t204_145 (ls' := [(7, .int w41v), (8, .int w36v), (0, .ref 6), (1, .int a), (2, .int b), (3, .ref (181 + 3 * w7n)), (4, .int w12v), (5, .int w13x5), (6, .int w13x6)]) (zml mf204 (by decide)) rfl (c := w41v) w41e rfl ?_
                                    refine zs_goto (pc := 148) t204_148 ?_
                                    refine zGo.locals (ls' := [(0, .ref 6), (1, .int a), (2, .int b), (3, .ref (181 + 3 * w7n)), (4, .int w12v), (5, .int w13x5), (6, .int w13x6), (7, .int w41v)]) (by simp) ?_
                                    exact w13ih (w13m - 1) (by omega) w13x5 w13x6 w41v ⟨by omega, by omega⟩ (by omega)
                                  · refine zs_icmp_geF (pc := 134) t204_134 rfl rfl (by omega) ?_
                                    refine zs_iload (pc := 137) t204_137 rfl ?_
                                    refine zs_istore (pc := 139) t204_139 (ls' := [(5, .int w13x7), (8, .int w36v), (0, .ref 6), (1, .int a), (2, .int b), (3, .ref (181 + 3 * w7n)), (4, .int w12v), (6, .int w13x6), (7, .int w13x7)]) (zml mf204 (by decide)) rfl ?_
                                    refine zs_iload (pc := 141) t204_141 rfl ?_
                                    refine zs_istore (pc := 143) t204_143 (ls' := [(6, .int w36v), (5, .int w13x7), (8, .int w36v), (0, .ref 6), (1, .int a), (2, .int b), (3, .ref (181 + 3 * w7n)), (4, .int w12v), (7, .int w13x7)]) (zml mf204 (by decide)) rfl ?_
                                    obtain ⟨w42v, w42e, w42⟩ := ziadd (a := w13x7) (b := Int32.ofInt 1) rfl (show (Int32.ofInt 1).toInt = 1 by decide) (by omega) (by omega)
                                    refine zs_iinc (pc := 145) t204_145 (ls' := [(7, .int w42v), (6, .int w36v), (5, .int w13x7), (8, .int w36v), (0, .ref 6), (1, .int a), (2, .int b), (3, .ref (181 + 3 * w7n)), (4, .int w12v)]) (zml mf204 (by decide)) rfl (c := w42v) w42e rfl ?_
                                    refine zs_goto (pc := 148) t204_148 ?_
                                    refine zGo.locals (ls' := [(0, .ref 6), (1, .int a), (2, .int b), (3, .ref (181 + 3 * w7n)), (4, .int w12v), (5, .int w13x7), (6, .int w36v), (7, .int w42v)]) (by simp) ?_
                                    exact w13ih (w13m - 1) (by omega) w13x7 w36v w42v ⟨by omega, by omega⟩ (by omega)
                              · refine zs_if_geF (pc := 1) t122_1 rfl (by omega) ?_
                                refine zs_iload_n (pc := 4) t122_4 rfl ?_
                                obtain ⟨w43v, w43e⟩ : ∃ v, -w36v = v := ⟨_, rfl⟩
                                have w43 := zrg w43v
                                refine zs_ineg (pc := 5) t122_5 (c := w43v) w43e ?_
                                refine zs_goto (pc := 6) t122_6 ?_
                                refine zs_iret (pc := 10) t122_10 mr122 rfl ?_
                                show zGo X l 6 0 0 204 123 [(0, .ref 6), (1, .int a), (2, .int b), (3, .ref (181 + 3 * w7n)), (4, .int w12v), (5, .int w13x5), (6, .int w13x6), (7, .int w13x7)] [.int w43v] w1M _
                                refine zs_istore (pc := 123) t204_123 (ls' := [(8, .int w43v), (0, .ref 6), (1, .int a), (2, .int b), (3, .ref (181 + 3 * w7n)), (4, .int w12v), (5, .int w13x5), (6, .int w13x6), (7, .int w13x7)]) (zml mf204 (by decide)) rfl ?_
                                refine zs_iload (pc := 125) t204_125 rfl ?_
                                by_cases w44 : w13x5.toInt < 0
                                · refine zs_if_ltT (pc := 127) t204_127 rfl (by omega) ?_
                                  refine zs_iload (pc := 137) t204_137 rfl ?_
                                  refine zs_istore (pc := 139) t204_139 (ls' := [(5, .int w13x7), (8, .int w43v), (0, .ref 6), (1, .int a), (2, .int b), (3, .ref (181 + 3 * w7n)), (4, .int w12v), (6, .int w13x6), (7, .int w13x7)]) (zml mf204 (by decide)) rfl ?_
                                  refine zs_iload (pc := 141) t204_141 rfl ?_
                                  refine zs_istore (pc := 143) t204_143 (ls' := [(6, .int w43v), (5, .int w13x7), (8, .int w43v), (0, .ref 6), (1, .int a), (2, .int b), (3, .ref (181 + 3 * w7n)), (4, .int w12v), (7, .int w13x7)]) (zml mf204 (by decide)) rfl ?_
                                  obtain ⟨w45v, w45e, w45⟩ := ziadd (a := w13x7) (b := Int32.ofInt 1) rfl (show (Int32.ofInt 1).toInt = 1 by decide) (by omega) (by omega)
                                  refine zs_iinc (pc := 145) t204_145 (ls' := [(7, .int w45v), (6, .int w43v), (5, .int w13x7), (8, .int w43v), (0, .ref 6), (1, .int a), (2, .int b), (3, .ref (181 + 3 * w7n)), (4, .int w12v)]) (zml mf204 (by decide)) rfl (c := w45v) w45e rfl ?_
                                  refine zs_goto (pc := 148) t204_148 ?_
                                  refine zGo.locals (ls' := [(0, .ref 6), (1, .int a), (2, .int b), (3, .ref (181 + 3 * w7n)), (4, .int w12v), (5, .int w13x7), (6, .int w43v), (7, .int w45v)]) (by simp) ?_
                                  exact w13ih (w13m - 1) (by omega) w13x7 w43v w45v ⟨by omega, by omega⟩ (by omega)
                                · refine zs_if_ltF (pc := 127) t204_127 rfl (by omega) ?_
                                  refine zs_iload (pc := 130) t204_130 rfl ?_
                                  refine zs_iload (pc := 132) t204_132 rfl ?_
                                  by_cases w46 : w13x6.toInt ≤ w43v.toInt
                                  · refine zs_icmp_geT (pc := 134) t204_134 rfl rfl (by omega) ?_
                                    obtain ⟨w47v, w47e, w47⟩ := ziadd (a := w13x7) (b := Int32.ofInt 1) rfl (show (Int32.ofInt 1).toInt = 1 by decide) (by omega) (by omega)
                                    refine zs_iinc (pc := 145) t204_145 (ls' := [(7, .int w47v), (8, .int w43v), (0, .ref 6), (1, .int a), (2, .int b), (3, .ref (181 + 3 * w7n)), (4, .int w12v), (5, .int w13x5), (6, .int w13x6)]) (zml mf204 (by decide)) rfl (c := w47v) w47e rfl ?_
                                    refine zs_goto (pc := 148) t204_148 ?_
                                    refine zGo.locals (ls' := [(0, .ref 6), (1, .int a), (2, .int b), (3, .ref (181 + 3 * w7n)), (4, .int w12v), (5, .int w13x5), (6, .int w13x6), (7, .int w47v)]) (by simp) ?_
                                    exact w13ih (w13m - 1) (by omega) w13x5 w13x6 w47v ⟨by omega, by omega⟩ (by omega)
                                  · refine zs_icmp_geF (pc := 134) t204_134 rfl rfl (by omega) ?_
                                    refine zs_iload (pc := 137) t204_137 rfl ?_
                                    refine zs_istore (pc := 139) t204_139 (ls' := [(5, .int w13x7), (8, .int w43v), (0, .ref 6), (1, .int a), (2, .int b), (3, .ref (181 + 3 * w7n)), (4, .int w12v), (6, .int w13x6), (7, .int w13x7)]) (zml mf204 (by decide)) rfl ?_
                                    refine zs_iload (pc := 141) t204_141 rfl ?_
                                    refine zs_istore (pc := 143) t204_143 (ls' := [(6, .int w43v), (5, .int w13x7), (8, .int w43v), (0, .ref 6), (1, .int a), (2, .int b), (3, .ref (181 + 3 * w7n)), (4, .int w12v), (7, .int w13x7)]) (zml mf204 (by decide)) rfl ?_
                                    obtain ⟨w48v, w48e, w48⟩ := ziadd (a := w13x7) (b := Int32.ofInt 1) rfl (show (Int32.ofInt 1).toInt = 1 by decide) (by omega) (by omega)
                                    refine zs_iinc (pc := 145) t204_145 (ls' := [(7, .int w48v), (6, .int w43v), (5, .int w13x7), (8, .int w43v), (0, .ref 6), (1, .int a), (2, .int b), (3, .ref (181 + 3 * w7n)), (4, .int w12v)]) (zml mf204 (by decide)) rfl (c := w48v) w48e rfl ?_
                                    refine zs_goto (pc := 148) t204_148 ?_
                                    refine zGo.locals (ls' := [(0, .ref 6), (1, .int a), (2, .int b), (3, .ref (181 + 3 * w7n)), (4, .int w12v), (5, .int w13x7), (6, .int w43v), (7, .int w48v)]) (by simp) ?_
                                    exact w13ih (w13m - 1) (by omega) w13x7 w43v w48v ⟨by omega, by omega⟩ (by omega)
                            · refine zs_if_ltF (pc := 101) t204_101 rfl (by omega) ?_
                              refine zs_goto (pc := 104) t204_104 ?_
                              obtain ⟨w49v, w49e, w49⟩ := ziadd (a := w13x7) (b := Int32.ofInt 1) rfl (show (Int32.ofInt 1).toInt = 1 by decide) (by omega) (by omega)
                              refine zs_iinc (pc := 145) t204_145 (ls' := [(7, .int w49v), (0, .ref 6), (1, .int a), (2, .int b), (3, .ref (181 + 3 * w7n)), (4, .int w12v), (5, .int w13x5), (6, .int w13x6)]) (zml mf204 (by decide)) rfl (c := w49v) w49e rfl ?_
                              refine zs_goto (pc := 148) t204_148 ?_
                              refine zGo.locals (ls' := [(0, .ref 6), (1, .int a), (2, .int b), (3, .ref (181 + 3 * w7n)), (4, .int w12v), (5, .int w13x5), (6, .int w13x6), (7, .int w49v)]) (by simp) ?_
                              exact w13ih (w13m - 1) (by omega) w13x5 w13x6 w49v ⟨by omega, by omega⟩ (by omega)
            refine zGo.locals (ls' := [(0, .ref 6), (1, .int a), (2, .int b), (3, .ref (181 + 3 * w7n)), (4, .int w12v), (5, .int (-2 : Int32)), (6, .int (0 : Int32)), (7, .int (0 : Int32))]) (by simp) ?_
            have w50 := lin2
            have w51 := li0
            have w52 := li0
            exact w13L ((60 - 0 : Int).toNat) (-2 : Int32) (0 : Int32) (0 : Int32) ⟨by decide, by decide⟩ (by omega)
theorem T205_6 {X : zX} {l : Launch} {M : zM} {Q : Option Value → zM → Prop} {a b : Int32} (hs : zSk zMc M) (hI : zIv cLo cHi M) (hQ : ∀ (M' : zM) (v : Int32), zSk zMc M' → zIv cLo cHi M' → zFr [(161, 334, none)] M M' → (-2147483648) ≤ v.toInt → v.toInt ≤ 2147483647 → Q (some (.int v)) M') : zCall X l 6 0 0 205 [.ref 6, .int a, .int b] M Q := by
  have ga := zrg a
  have gb := zrg b
  refine zs_in (by decide) mf205 (Nat.le_of_ble_eq_true rfl) ?_
  show zGo X l 6 0 0 205 0 [(0, .ref 6), (1, .int a), (2, .int b)] [] M _
  refine zs_aload_n (pc := 0) t205_0 rfl ?_
  refine zs_get (pc := 1) t205_1 (by decide) (zk1 (hs.k fk_zMc_6)) (hs.p rfl fv_zMc_6_0) ?_
  refine zs_iload_n (pc := 4) t205_4 rfl ?_
  refine zs_invV (pc := 5) (k := 7) (as' := [.int a]) (st := []) t205_5 mf41 rfl rfl (Or.inl ⟨by decide, (zk1 (hs.k fk_zMc_7))⟩) ⟨by decide, by decide, Nat.le_of_ble_eq_true rfl, Nat.le_of_ble_eq_true rfl⟩ (zs_in (by decide) mf41 (Nat.le_of_ble_eq_true rfl) ?_) (fun _ _ q => q)
  show zGo X l 0 0 0 41 0 [(0, .ref 7), (1, .int a)] [] M _
  refine zs_iload_n (pc := 0) t41_0 rfl ?_
  by_cases w1 : a.toInt < 0
  · refine zs_if_ltT (pc := 1) t41_1 rfl (by omega) ?_
    refine zs_iconst (pc := 16) t41_16 (v := 0) (by decide) ?_
    refine zs_iret (pc := 17) t41_17 mr41 (by decide) ?_
    show zGo X l 6 0 0 205 8 [(0, .ref 6), (1, .int a), (2, .int b)] [.int (0 : Int32)] M _
    refine zs_if_eqT (pc := 8) t205_8 li0 (by decide) ?_
    refine zs_ldc (pc := 20) t205_20 (v := -100000) rfl (by decide) ?_
    exact zs_iret (pc := 22) t205_22 mr205 (by decide) (hQ _ _ hs hI (zFr.refl) (zrg _).1 (zrg _).2)
  · refine zs_if_ltF (pc := 1) t41_1 rfl (by omega) ?_
    refine zs_iload_n (pc := 4) t41_4 rfl ?_
    refine zs_aload_n (pc := 5) t41_5 rfl ?_
    have w2 := ib7_0 hI
    refine zs_get (pc := 6) t41_6 (by decide) (zk1 (hs.k fk_zMc_7)) (zfvi rfl rfl) ?_
    by_cases w3 : (zI M 7 0).toInt ≤ a.toInt
    · refine zs_icmp_geT (pc := 9) t41_9 rfl rfl (by omega) ?_
      refine zs_iconst (pc := 16) t41_16 (v := 0) (by decide) ?_
      refine zs_iret (pc := 17) t41_17 mr41 (by decide) ?_
      show zGo X l 6 0 0 205 8 [(0, .ref 6), (1, .int a), (2, .int b)] [.int (0 : Int32)] M _
      refine zs_if_eqT (pc := 8) t205_8 li0 (by decide) ?_
      refine zs_ldc (pc := 20) t205_20 (v := -100000) rfl (by decide) ?_
      exact zs_iret (pc := 22) t205_22 mr205 (by decide) (hQ _ _ hs hI (zFr.refl) (zrg _).1 (zrg _).2)
    · refine zs_icmp_geF (pc := 9) t41_9 rfl rfl (by omega) ?_
      refine zs_iconst (pc := 12) t41_12 (v := 1) (by decide) ?_
      refine zs_goto (pc := 13) t41_13 ?_
      refine zs_iret (pc := 17) t41_17 mr41 (by decide) ?_
      show zGo X l 6 0 0 205 8 [(0, .ref 6), (1, .int a), (2, .int b)] [.int (1 : Int32)] M _
      refine zs_if_eqF (pc := 8) t205_8 li1 (by decide) ?_
      refine zs_iload_n (pc := 11) t205_11 rfl ?_
      refine zs_iconst (pc := 12) t205_12 (v := 0) (by decide) ?_
      refine zs_iconst (pc := 13) t205_13 (v := 1) (by decide) ?_
      refine zs_invS (pc := 14) (as := [.int b, .int (0 : Int32), .int (1 : Int32)]) (st := []) t205_14 (by decide) mf39 rfl rfl ⟨by decide, by decide, Nat.le_of_ble_eq_true rfl, Nat.le_of_ble_eq_true rfl⟩ (zs_in (by decide) mf39 (Nat.le_of_ble_eq_true rfl) ?_) (fun _ _ q => q)
      show zGo X l 0 0 0 39 0 [(0, .int b), (1, .int (0 : Int32)), (2, .int (1 : Int32))] [] M _
      refine zs_iload_n (pc := 0) t39_0 rfl ?_
      refine zs_iload_n (pc := 1) t39_1 rfl ?_
      by_cases w4 : b.toInt < 0
      · refine zs_icmp_ltT (pc := 2) t39_2 rfl li0 (by omega) ?_
        refine zs_iconst (pc := 14) t39_14 (v := 0) (by decide) ?_
        refine zs_iret (pc := 15) t39_15 mr39 (by decide) ?_
        show zGo X l 6 0 0 205 17 [(0, .ref 6), (1, .int a), (2, .int b)] [.int (0 : Int32)] M _
        refine zs_if_neF (pc := 17) t205_17 li0 (by decide) ?_
        refine zs_ldc (pc := 20) t205_20 (v := -100000) rfl (by decide) ?_
        exact zs_iret (pc := 22) t205_22 mr205 (by decide) (hQ _ _ hs hI (zFr.refl) (zrg _).1 (zrg _).2)
      · refine zs_icmp_ltF (pc := 2) t39_2 rfl li0 (by omega) ?_
        refine zs_iload_n (pc := 5) t39_5 rfl ?_
        refine zs_iload_n (pc := 6) t39_6 rfl ?_
        by_cases w5 : 1 < b.toInt
        · refine zs_icmp_gtT (pc := 7) t39_7 rfl li1 (by omega) ?_
          refine zs_iconst (pc := 14) t39_14 (v := 0) (by decide) ?_
          refine zs_iret (pc := 15) t39_15 mr39 (by decide) ?_
          show zGo X l 6 0 0 205 17 [(0, .ref 6), (1, .int a), (2, .int b)] [.int (0 : Int32)] M _
          refine zs_if_neF (pc := 17) t205_17 li0 (by decide) ?_
          refine zs_ldc (pc := 20) t205_20 (v := -100000) rfl (by decide) ?_
          exact zs_iret (pc := 22) t205_22 mr205 (by decide) (hQ _ _ hs hI (zFr.refl) (zrg _).1 (zrg _).2)
        · refine zs_icmp_gtF (pc := 7) t39_7 rfl li1 (by omega) ?_
          refine zs_iconst (pc := 10) t39_10 (v := 1) (by decide) ?_
          refine zs_goto (pc := 11) t39_11 ?_
          refine zs_iret (pc := 15) t39_15 mr39 (by decide) ?_
          show zGo X l 6 0 0 205 17 [(0, .ref 6), (1, .int a), (2, .int b)] [.int (1 : Int32)] M _
          refine zs_if_neT (pc := 17) t205_17 li1 (by decide) ?_
          refine zs_iconst (pc := 23) t205_23 (v := 0) (by decide) ?_
          refine zs_istore_n (pc := 24) t205_24 (ls' := [(3, .int (0 : Int32)), (0, .ref 6), (1, .int a), (2, .int b)]) (zml mf205 (by decide)) rfl ?_
          refine zs_iconst (pc := 25) t205_25 (v := 0) (by decide) ?_
          refine zs_istore (pc := 26) t205_26 (ls' := [(4, .int (0 : Int32)), (3, .int (0 : Int32)), (0, .ref 6), (1, .int a), (2, .int b)]) (zml mf205 (by decide)) rfl ?_
          refine zs_aload_n (pc := 28) t205_28 rfl ?_
          refine zs_get (pc := 29) t205_29 (by decide) (zk1 (hs.k fk_zMc_6)) (hs.p rfl fv_zMc_6_6) ?_
          refine zs_aload_n (pc := 32) t205_32 rfl ?_
          refine zs_get (pc := 33) t205_33 (by decide) (zk1 (hs.k fk_zMc_6)) (hs.p rfl fv_zMc_6_0) ?_
          refine zs_invV (pc := 36) (k := 164) (as' := [.ref 7]) (st := []) t205_36 mf105 rfl rfl (Or.inl ⟨by decide, (zk1 (hs.k fk_zMc_164))⟩) ⟨by decide, by decide, Nat.le_of_ble_eq_true rfl, Nat.le_of_ble_eq_true rfl⟩ (C105_164_7 hs hI ?_) (fun _ _ q => q)
          intro w6M w6s w6I w6F
          show zGo X l 6 0 0 205 39 [(4, .int (0 : Int32)), (3, .int (0 : Int32)), (0, .ref 6), (1, .int a), (2, .int b)] [.ref 164] w6M _
          refine zs_invV (pc := 39) (k := 164) (as' := []) (st := []) t205_39 mf144 rfl rfl (Or.inl ⟨by decide, (zk1 (w6s.k fk_zMc_164))⟩) ⟨by decide, by decide, Nat.le_of_ble_eq_true rfl, Nat.le_of_ble_eq_true rfl⟩ (zs_in (by decide) mf144 (Nat.le_of_ble_eq_true rfl) ?_) (fun _ _ q => q)
          show zGo X l 0 0 0 144 0 [(0, .ref 164)] [] w6M _
          refine zs_aload_n (pc := 0) t144_0 rfl ?_
          have w7 := ib164_4 w6I
          refine zs_get (pc := 1) t144_1 (by decide) (zk1 (w6s.k fk_zMc_164)) (zfvi rfl rfl) ?_
          refine zs_iret (pc := 4) t144_4 mr144 rfl ?_
          show zGo X l 6 0 0 205 42 [(4, .int (0 : Int32)), (3, .int (0 : Int32)), (0, .ref 6), (1, .int a), (2, .int b)] [.int (zI w6M 164 4)] w6M _
          refine zs_istore (pc := 42) t205_42 (ls' := [(5, .int (zI w6M 164 4)), (4, .int (0 : Int32)), (3, .int (0 : Int32)), (0, .ref 6), (1, .int a), (2, .int b)]) (zml mf205 (by decide)) rfl ?_
          refine zs_iconst (pc := 44) t205_44 (v := 0) (by decide) ?_
          refine zs_istore (pc := 45) t205_45 (ls' := [(6, .int (0 : Int32)), (5, .int (zI w6M 164 4)), (4, .int (0 : Int32)), (3, .int (0 : Int32)), (0, .ref 6), (1, .int a), (2, .int b)]) (zml mf205 (by decide)) rfl ?_
          have w8L : ∀ (m : Nat) (w8x3 : Int32) (w8x4 : Int32) (w8x6 : Int32), (0 ≤ w8x6.toInt ∧ w8x6.toInt ≤ 20) → 20 - w8x6.toInt ≤ (m : Int) → zGo X l 6 0 0 205 47 [(0, .ref 6), (1, .int a), (2, .int b), (3, .int w8x3), (4, .int w8x4), (5, .int (zI w6M 164 4)), (6, .int w8x6)] [] w6M Q := by
            intro m
            induction m using Nat.strongRecOn with
            | ind w8m w8ih =>
              intro w8x3 w8x4 w8x6 w8b6 w8q
              have w8g3 := zrg w8x3
              have w8g4 := zrg w8x4
              refine zs_iload (pc := 47) t205_47 rfl ?_
              refine zs_iload (pc := 49) t205_49 rfl ?_
              by_cases w9 : (zI w6M 164 4).toInt ≤ w8x6.toInt
              · refine zs_icmp_geT (pc := 51) t205_51 rfl rfl (by omega) ?_
                refine zs_iload_n (pc := 120) t205_120 rfl ?_
                refine zs_iconst (pc := 121) t205_121 (v := 1) (by decide) ?_
                by_cases w10 : b.toInt ≠ 1
                · refine zs_icmp_neT (pc := 122) t205_122 rfl li1 (by omega) ?_
                  refine zs_iload_n (pc := 127) t205_127 rfl ?_
                  by_cases w11 : w8x3.toInt ≠ 0
                  · refine zs_if_neT (pc := 128) t205_128 rfl (by omega) ?_
                    refine zs_iload (pc := 135) t205_135 rfl ?_
                    refine zs_iload_n (pc := 137) t205_137 rfl ?_
                    refine zs_invS (pc := 138) (as := [.int w8x4, .int w8x3]) (st := []) t205_138 (by decide) mf54 rfl rfl ⟨by decide, by decide, Nat.le_of_ble_eq_true rfl, Nat.le_of_ble_eq_true rfl⟩ (zs_in (by decide) mf54 (Nat.le_of_ble_eq_true rfl) ?_) (fun _ _ q => q)
                    show zGo X l 0 0 0 54 0 [(0, .int w8x4), (1, .int w8x3)] [] w6M _
                    refine zs_iload_n (pc := 0) t54_0 rfl ?_
                    refine zs_iload_n (pc := 1) t54_1 rfl ?_
                    obtain ⟨w12v, w12⟩ : ∃ v, w8x4 / w8x3 = v := ⟨_, rfl⟩
                    have w12g := zrg w12v
                    refine zs_idiv (pc := 2) t54_2 (znz rfl (by omega)) (c := w12v) w12 ?_
                    refine zs_istore_n (pc := 3) t54_3 (ls' := [(2, .int w12v), (0, .int w8x4), (1, .int w8x3)]) (zml mf54 (by decide)) rfl ?_
                    refine zs_iload_n (pc := 4) t54_4 rfl ?_
                    refine zs_iload_n (pc := 5) t54_5 rfl ?_
                    obtain ⟨w13v, w13⟩ : ∃ v, w8x4 ^^^ w8x3 = v := ⟨_, rfl⟩
                    have w13g := zrg w13v
                    refine zs_ixor (pc := 6) t54_6 (c := w13v) w13 ?_
                    by_cases w14 : 0 ≤ w13v.toInt
                    · refine zs_if_geT (pc := 7) t54_7 rfl (by omega) ?_
                      refine zs_iload_n (pc := 21) t54_21 rfl ?_
                      refine zs_iret (pc := 22) t54_22 mr54 rfl ?_
                      show zGo X l 6 0 0 205 141 [(0, .ref 6), (1, .int a), (2, .int b), (3, .int w8x3), (4, .int w8x4), (5, .int (zI w6M 164 4)), (6, .int w8x6)] [.int w12v] w6M _
                      exact zs_iret (pc := 141) t205_141 mr205 rfl (hQ _ _ w6s w6I ((zFr.refl).trans (w6F.mono rfl)) (zrg _).1 (zrg _).2)
                    · refine zs_if_geF (pc := 7) t54_7 rfl (by omega) ?_
                      refine zs_iload_n (pc := 10) t54_10 rfl ?_
                      refine zs_iload_n (pc := 11) t54_11 rfl ?_
                      obtain ⟨w15v, w15⟩ : ∃ v, w12v * w8x3 = v := ⟨_, rfl⟩
                      have w15g := zrg w15v
                      refine zs_imul (pc := 12) t54_12 (c := w15v) w15 ?_
                      refine zs_iload_n (pc := 13) t54_13 rfl ?_
                      by_cases w16 : w15v.toInt = w8x4.toInt
                      · refine zs_icmp_eqT (pc := 14) t54_14 rfl rfl (by omega) ?_
                        refine zs_iload_n (pc := 21) t54_21 rfl ?_
                        refine zs_iret (pc := 22) t54_22 mr54 rfl ?_
                        show zGo X l 6 0 0 205 141 [(0, .ref 6), (1, .int a), (2, .int b), (3, .int w8x3), (4, .int w8x4), (5, .int (zI w6M 164 4)), (6, .int w8x6)] [.int w12v] w6M _
                        exact zs_iret (pc := 141) t205_141 mr205 rfl (hQ _ _ w6s w6I ((zFr.refl).trans (w6F.mono rfl)) (zrg _).1 (zrg _).2)
                      · refine zs_icmp_eqF (pc := 14) t54_14 rfl rfl (by omega) ?_
                        refine zs_iload_n (pc := 17) t54_17 rfl ?_
                        refine zs_iconst (pc := 18) t54_18 (v := 1) (by decide) ?_
                        obtain ⟨w17v, w17⟩ : ∃ v, v = w12v - (1 : Int32) := ⟨_, rfl⟩
                        have w17g := zrg w17v
                        refine zs_isub (pc := 19) t54_19 (c := w17v) w17.symm ?_
                        refine zs_iret (pc := 20) t54_20 mr54 rfl ?_
                        show zGo X l 6 0 0 205 141 [(0, .ref 6), (1, .int a), (2, .int b), (3, .int w8x3), (4, .int w8x4), (5, .int (zI w6M 164 4)), (6, .int w8x6)] [.int w17v] w6M _
                        exact zs_iret (pc := 141) t205_141 mr205 rfl (hQ _ _ w6s w6I ((zFr.refl).trans (w6F.mono rfl)) (zrg _).1 (zrg _).2)
                  · refine zs_if_neF (pc := 128) t205_128 rfl (by omega) ?_
                    refine zs_iconst (pc := 131) t205_131 (v := 0) (by decide) ?_
                    refine zs_goto (pc := 132) t205_132 ?_
                    exact zs_iret (pc := 141) t205_141 mr205 (by decide) (hQ _ _ w6s w6I ((zFr.refl).trans (w6F.mono rfl)) (zrg _).1 (zrg _).2)
                · refine zs_icmp_neF (pc := 122) t205_122 rfl li1 (by omega) ?_
                  refine zs_iload_n (pc := 125) t205_125 rfl ?_
                  exact zs_iret (pc := 126) t205_126 mr205 rfl (hQ _ _ w6s w6I ((zFr.refl).trans (w6F.mono rfl)) (zrg _).1 (zrg _).2)
              · refine zs_icmp_geF (pc := 51) t205_51 rfl rfl (by omega) ?_
                refine zs_aload_n (pc := 54) t205_54 rfl ?_
                refine zs_get (pc := 55) t205_55 (by decide) (zk1 (w6s.k fk_zMc_6)) (w6s.p rfl fv_zMc_6_6) ?_
                refine zs_iload (pc := 58) t205_58 rfl ?_
                refine zs_invV (pc := 60) (k := 164) (as' := [.int w8x6]) (st := []) t205_60 mf163 rfl rfl (Or.inl ⟨by decide, (zk1 (w6s.k fk_zMc_164))⟩) ⟨by decide, by decide, Nat.le_of_ble_eq_true rfl, Nat.le_of_ble_eq_true rfl⟩ (zs_in (by decide) mf163 (Nat.le_of_ble_eq_true rfl) ?_) (fun _ _ q => q)
                show zGo X l 1 0 0 163 0 [(0, .ref 164), (1, .int w8x6)] [] w6M _
                refine zs_iload_n (pc := 0) t163_0 rfl ?_
                refine zs_aload_n (pc := 1) t163_1 rfl ?_
                refine zs_get (pc := 2) t163_2 (by decide) (zk1 (w6s.k fk_zMc_164)) (zfvi rfl rfl) ?_
                by_cases w18 : (zI w6M 164 4).toInt ≤ w8x6.toInt
                · refine zs_icmp_geT (pc := 5) t163_5 rfl rfl (by omega) ?_
                  refine zs_aconst_null (pc := 19) t163_19 ?_
                  refine zs_aret0 (pc := 20) t163_20 (by rw [mr163]; rfl) ?_
                  show zGo X l 6 0 0 205 63 [(0, .ref 6), (1, .int a), (2, .int b), (3, .int w8x3), (4, .int w8x4), (5, .int (zI w6M 164 4)), (6, .int w8x6)] [.null] w6M _
                  refine zs_astore0 (pc := 63) t205_63 (ls' := [(7, .null), (0, .ref 6), (1, .int a), (2, .int b), (3, .int w8x3), (4, .int w8x4), (5, .int (zI w6M 164 4)), (6, .int w8x6)]) (zml mf205 (by decide)) rfl ?_
                  refine zs_aload0 (pc := 65) t205_65 rfl ?_
                  refine zs_ifnullT (pc := 67) t205_67 ?_
                  obtain ⟨w19v, w19e, w19⟩ := ziadd (a := w8x6) (b := Int32.ofInt 1) rfl (show (Int32.ofInt 1).toInt = 1 by decide) (by omega) (by omega)
                  refine zs_iinc (pc := 114) t205_114 (ls' := [(6, .int w19v), (7, .null), (0, .ref 6), (1, .int a), (2, .int b), (3, .int w8x3), (4, .int w8x4), (5, .int (zI w6M 164 4))]) (zml mf205 (by decide)) rfl (c := w19v) w19e rfl ?_
                  refine zs_goto (pc := 117) t205_117 ?_
                  refine zGo.locals (ls' := [(0, .ref 6), (1, .int a), (2, .int b), (3, .int w8x3), (4, .int w8x4), (5, .int (zI w6M 164 4)), (6, .int w19v)]) (by simp) ?_
                  exact w8ih (w8m - 1) (by omega) w8x3 w8x4 w19v ⟨by omega, by omega⟩ (by omega)
                · refine zs_icmp_geF (pc := 5) t163_5 rfl rfl (by omega) ?_
                  refine zs_aload_n (pc := 8) t163_8 rfl ?_
                  refine zs_get (pc := 9) t163_9 (by decide) (zk1 (w6s.k fk_zMc_164)) (w6s.p rfl fv_zMc_164_1) ?_
                  refine zs_iload_n (pc := 12) t163_12 rfl ?_
                  refine zs_invV (pc := 13) (k := 165) (as' := [.int w8x6]) (st := []) t163_13 mf126 rfl rfl (Or.inl ⟨by decide, (zk1 (w6s.k fk_zMc_165))⟩) ⟨by decide, by decide, Nat.le_of_ble_eq_true rfl, Nat.le_of_ble_eq_true rfl⟩ (zs_in (by decide) mf126 (Nat.le_of_ble_eq_true rfl) ?_) (fun _ _ q => q)
                  show zGo X l 0 0 0 126 0 [(0, .ref 165), (1, .int w8x6)] [] w6M _
                  refine zs_iload_n (pc := 0) t126_0 rfl ?_
                  refine zs_if_ltF (pc := 1) t126_1 rfl (by omega) ?_
                  refine zs_iload_n (pc := 4) t126_4 rfl ?_
                  refine zs_aload_n (pc := 5) t126_5 rfl ?_
                  have w20 := ib165_2 w6I
                  refine zs_get (pc := 6) t126_6 (by decide) (zk1 (w6s.k fk_zMc_165)) (zfvi rfl rfl) ?_
                  by_cases w21 : (zI w6M 165 2).toInt ≤ w8x6.toInt
                  · refine zs_icmp_geT (pc := 9) t126_9 rfl rfl (by omega) ?_
                    refine zs_aconst_null (pc := 21) t126_21 ?_
                    refine zs_aret0 (pc := 22) t126_22 (by rw [mr126]; rfl) ?_
                    show zGo X l 1 0 0 163 16 [(0, .ref 164), (1, .int w8x6)] [.null] w6M _
                    refine zs_goto (pc := 16) t163_16 ?_
                    refine zs_aret0 (pc := 20) t163_20 (by rw [mr163]; rfl) ?_
                    show zGo X l 6 0 0 205 63 [(0, .ref 6), (1, .int a), (2, .int b), (3, .int w8x3), (4, .int w8x4), (5, .int (zI w6M 164 4)), (6, .int w8x6)] [.null] w6M _
                    refine zs_astore0 (pc := 63) t205_63 (ls' := [(7, .null), (0, .ref 6), (1, .int a), (2, .int b), (3, .int w8x3), (4, .int w8x4), (5, .int (zI w6M 164 4)), (6, .int w8x6)]) (zml mf205 (by decide)) rfl ?_
                    refine zs_aload0 (pc := 65) t205_65 rfl ?_
                    refine zs_ifnullT (pc := 67) t205_67 ?_
                    obtain ⟨w22v, w22e, w22⟩ := ziadd (a := w8x6) (b := Int32.ofInt 1) rfl (show (Int32.ofInt 1).toInt = 1 by decide) (by omega) (by omega)
                    refine zs_iinc (pc := 114) t205_114 (ls' := [(6, .int w22v), (7, .null), (0, .ref 6), (1, .int a), (2, .int b), (3, .int w8x3), (4, .int w8x4), (5, .int (zI w6M 164 4))]) (zml mf205 (by decide)) rfl (c := w22v) w22e rfl ?_
                    refine zs_goto (pc := 117) t205_117 ?_
                    refine zGo.locals (ls' := [(0, .ref 6), (1, .int a), (2, .int b), (3, .int w8x3), (4, .int w8x4), (5, .int (zI w6M 164 4)), (6, .int w22v)]) (by simp) ?_
                    exact w8ih (w8m - 1) (by omega) w8x3 w8x4 w22v ⟨by omega, by omega⟩ (by omega)
                  · refine zs_icmp_geF (pc := 9) t126_9 rfl rfl (by omega) ?_
                    refine zs_aload_n (pc := 12) t126_12 rfl ?_
                    refine zs_get (pc := 13) t126_13 (by decide) (zk1 (w6s.k fk_zMc_165)) (w6s.p rfl fv_zMc_165_1) ?_
                    refine zs_iload_n (pc := 16) t126_16 rfl ?_
                    obtain ⟨w23n, w23⟩ : ∃ n : Nat, w8x6.toInt = (n : Int) := ⟨w8x6.toInt.toNat, by omega⟩
                    have w24 : w23n < 20 := by omega
                    refine zs_aald (pc := 17) t126_17 (j := w23n) (Or.inr (zk1 (w6s.k fk_zMc_179))) w23 (zk2 (w6s.k fk_zMc_179) (by omega)) (w6s.a (fpT181 w23n w24)) ?_
                    refine zs_goto (pc := 18) t126_18 ?_
                    refine zs_aret (pc := 22) t126_22 (by rw [mr126]; rfl) ?_
                    show zGo X l 1 0 0 163 16 [(0, .ref 164), (1, .int w8x6)] [.ref (181 + 3 * w23n)] w6M _
                    refine zs_goto (pc := 16) t163_16 ?_
                    refine zs_aret (pc := 20) t163_20 (by rw [mr163]; rfl) ?_
                    show zGo X l 6 0 0 205 63 [(0, .ref 6), (1, .int a), (2, .int b), (3, .int w8x3), (4, .int w8x4), (5, .int (zI w6M 164 4)), (6, .int w8x6)] [.ref (181 + 3 * w23n)] w6M _
                    refine zs_astore (pc := 63) t205_63 (ls' := [(7, .ref (181 + 3 * w23n)), (0, .ref 6), (1, .int a), (2, .int b), (3, .int w8x3), (4, .int w8x4), (5, .int (zI w6M 164 4)), (6, .int w8x6)]) (zml mf205 (by decide)) rfl ?_
                    refine zs_aload (pc := 65) t205_65 rfl ?_
                    refine zs_ifnullF (pc := 67) t205_67 ?_
                    refine zs_aload (pc := 70) t205_70 rfl ?_
                    refine zs_get (pc := 72) t205_72 (by decide) (zk1 (w6s.k (fT181_0 w23n w24))) (w6s.p rfl (fvT181_6 w23n w24)) ?_
                    refine zs_iload_n (pc := 75) t205_75 rfl ?_
                    obtain ⟨w25n, w25⟩ : ∃ n : Nat, a.toInt = (n : Int) := ⟨a.toInt.toNat, by omega⟩
                    have w26 := ibT181_1 w6I w24 w25n
                    refine zs_iald (pc := 76) t205_76 (j := w25n) (by omega) (zk1 (w6s.k (fT181_1 w23n w24))) w25 (zk2 (w6s.k (fT181_1 w23n w24)) (by omega)) rfl ?_
                    by_cases w27 : (zI w6M (181 + 3 * w23n + 1) w25n).toInt < 0
                    · refine zs_if_ltT (pc := 77) t205_77 rfl (by omega) ?_
                      obtain ⟨w28v, w28e, w28⟩ := ziadd (a := w8x6) (b := Int32.ofInt 1) rfl (show (Int32.ofInt 1).toInt = 1 by decide) (by omega) (by omega)
                      refine zs_iinc (pc := 114) t205_114 (ls' := [(6, .int w28v), (7, .ref (181 + 3 * w23n)), (0, .ref 6), (1, .int a), (2, .int b), (3, .int w8x3), (4, .int w8x4), (5, .int (zI w6M 164 4))]) (zml mf205 (by decide)) rfl (c := w28v) w28e rfl ?_
                      refine zs_goto (pc := 117) t205_117 ?_
                      refine zGo.locals (ls' := [(0, .ref 6), (1, .int a), (2, .int b), (3, .int w8x3), (4, .int w8x4), (5, .int (zI w6M 164 4)), (6, .int w28v)]) (by simp) ?_
                      exact w8ih (w8m - 1) (by omega) w8x3 w8x4 w28v ⟨by omega, by omega⟩ (by omega)
                    · refine zs_if_ltF (pc := 77) t205_77 rfl (by omega) ?_
                      obtain ⟨w29v, w29e⟩ : ∃ v, w8x3 + Int32.ofInt 1 = v := ⟨_, rfl⟩
                      have w29 := zrg w29v
                      refine zs_iinc (pc := 80) t205_80 (ls' := [(3, .int w29v), (7, .ref (181 + 3 * w23n)), (0, .ref 6), (1, .int a), (2, .int b), (4, .int w8x4), (5, .int (zI w6M 164 4)), (6, .int w8x6)]) (zml mf205 (by decide)) rfl (c := w29v) w29e rfl ?_
                      refine zs_iload (pc := 83) t205_83 rfl ?_
                      refine zs_aload_n (pc := 85) t205_85 rfl ?_
                      refine zs_get (pc := 86) t205_86 (by decide) (zk1 (w6s.k fk_zMc_6)) (w6s.p rfl fv_zMc_6_0) ?_
                      refine zs_get (pc := 89) t205_89 (by decide) (zk1 (w6s.k fk_zMc_7)) (w6s.p rfl fv_zMc_7_5) ?_
                      refine zs_aload (pc := 92) t205_92 rfl ?_
                      refine zs_get (pc := 94) t205_94 (by decide) (zk1 (w6s.k (fT181_0 w23n w24))) (w6s.p rfl (fvT181_6 w23n w24)) ?_
                      refine zs_iload_n (pc := 97) t205_97 rfl ?_
                      refine zs_iald (pc := 98) t205_98 (j := w25n) (by omega) (zk1 (w6s.k (fT181_1 w23n w24))) w25 (zk2 (w6s.k (fT181_1 w23n w24)) (by omega)) rfl ?_
                      obtain ⟨w30n, w30⟩ : ∃ n : Nat, (zI w6M (181 + 3 * w23n + 1) w25n).toInt = (n : Int) := ⟨(zI w6M (181 + 3 * w23n + 1) w25n).toInt.toNat, by omega⟩
                      have w31 := ib11 hI w30n
                      refine zs_iald (pc := 99) t205_99 (j := w30n) (by decide) (zk1 (w6s.k fk_zMc_11)) w30 (zk2 (w6s.k fk_zMc_11) (by omega)) ((w6F 11 w30n rfl).trans rfl) ?_
                      refine zs_aload (pc := 100) t205_100 rfl ?_
                      refine zs_aload_n (pc := 102) t205_102 rfl ?_
                      refine zs_get (pc := 103) t205_103 (by decide) (zk1 (w6s.k fk_zMc_6)) (w6s.p rfl fv_zMc_6_0) ?_
                      refine zs_iload_n (pc := 106) t205_106 rfl ?_
                      refine zs_invV (pc := 107) (k := (181 + 3 * w23n)) (as' := [.ref 7, .int a]) (st := [.int (zI M 11 w30n), .int w8x4]) t205_107 mf202 rfl rfl (Or.inl ⟨by decide, (zk1 (w6s.k (fT181_0 w23n w24)))⟩) ⟨by decide, by decide, Nat.le_of_ble_eq_true rfl, Nat.le_of_ble_eq_true rfl⟩ (C202_T181_7 w6s w6I w24 ?_) (fun _ _ q => q)
                      intro w32v w32a w32b
                      show zGo X l 6 0 0 205 110 [(3, .int w29v), (7, .ref (181 + 3 * w23n)), (0, .ref 6), (1, .int a), (2, .int b), (4, .int w8x4), (5, .int (zI w6M 164 4)), (6, .int w8x6)] [.int w32v, .int (zI M 11 w30n), .int w8x4] w6M _
                      obtain ⟨w33v, w33⟩ : ∃ v, v = (zI M 11 w30n) - w32v := ⟨_, rfl⟩
                      have w33g := zrg w33v
                      refine zs_isub (pc := 110) t205_110 (c := w33v) w33.symm ?_
                      obtain ⟨w34v, w34⟩ : ∃ v, v = w8x4 + w33v := ⟨_, rfl⟩
                      have w34g := zrg w34v
                      refine zs_iadd (pc := 111) t205_111 (c := w34v) w34.symm ?_
                      refine zs_istore (pc := 112) t205_112 (ls' := [(4, .int w34v), (3, .int w29v), (7, .ref (181 + 3 * w23n)), (0, .ref 6), (1, .int a), (2, .int b), (5, .int (zI w6M 164 4)), (6, .int w8x6)]) (zml mf205 (by decide)) rfl ?_
                      obtain ⟨w35v, w35e, w35⟩ := ziadd (a := w8x6) (b := Int32.ofInt 1) rfl (show (Int32.ofInt 1).toInt = 1 by decide) (by omega) (by omega)
                      refine zs_iinc (pc := 114) t205_114 (ls' := [(6, .int w35v), (4, .int w34v), (3, .int w29v), (7, .ref (181 + 3 * w23n)), (0, .ref 6), (1, .int a), (2, .int b), (5, .int (zI w6M 164 4))]) (zml mf205 (by decide)) rfl (c := w35v) w35e rfl ?_
                      refine zs_goto (pc := 117) t205_117 ?_
                      refine zGo.locals (ls' := [(0, .ref 6), (1, .int a), (2, .int b), (3, .int w29v), (4, .int w34v), (5, .int (zI w6M 164 4)), (6, .int w35v)]) (by simp) ?_
                      exact w8ih (w8m - 1) (by omega) w29v w34v w35v ⟨by omega, by omega⟩ (by omega)
          refine zGo.locals (ls' := [(0, .ref 6), (1, .int a), (2, .int b), (3, .int (0 : Int32)), (4, .int (0 : Int32)), (5, .int (zI w6M 164 4)), (6, .int (0 : Int32))]) (by simp) ?_
          have w36 := li0
          have w37 := li0
          have w38 := li0
          exact w8L ((20 - 0 : Int).toNat) (0 : Int32) (0 : Int32) (0 : Int32) ⟨by decide, by decide⟩ (by omega)
