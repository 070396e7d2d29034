theorem V154 {X : zX} {l : Launch} {M : zM} {Q : Option Value → zM → Prop} (hs : zSk zMc M) (hI : zIv cLo cHi M) {F : Nat → Int} (u0 : (zI M 166 10).toInt ≤ 1900000000) (u1 : 0 ≤ (zI M 166 10).toInt) (x0 : zSo M 7 F) (x1 : zWF F) (x2 : zSp M 166 174) (hQ : ∀ M', zSk zMc M' → zIv cLo cHi M' → zFr [(325, 325, some 1), (326, 331, none), (166, 166, some 0), (166, 166, some 5), (166, 166, some 6), (166, 166, some 10), (166, 166, some 15), (166, 166, some 17), (166, 166, some 18), (167, 178, none)] M M' → ((zI M' 166 10).toInt ≤ (zI M 166 10).toInt + 287) → ((zI M 166 10).toInt ≤ (zI M' 166 10).toInt) → (zSp M' 166 174) → Q none M') : zCall X l 4 0 0 154 [.ref 325, .ref 7, .ref 164] M Q := by
  refine zs_in (by decide) mf154 (Nat.le_of_ble_eq_true rfl) ?_
  show zGo X l 4 0 0 154 0 [(0, .ref 325), (1, .ref 7), (2, .ref 164)] [] M _
  have f0 := x0.1
  have w1 := ib7_0 hI
  have w2 : (zI M 7 0).toInt = (zI M 7 0).toInt := (congrArg Int32.toInt rfl).trans rfl
  have w3 := ib7_3 hI
  have w4 : (zI M 7 3).toInt = (zI M 7 3).toInt := (congrArg Int32.toInt rfl).trans rfl
  have w5 := ib7_8 hI
  have w6 : (zI M 7 8).toInt = (zI M 7 8).toInt := (congrArg Int32.toInt rfl).trans rfl
  have f1 := x1.1
  have f3 := x1.2.2.2
  have f2 := (show (zI M 7 0).toInt = F 0 ∧ (zI M 7 3).toInt = F 1 ∧ (zI M 7 8).toInt = F 2 from ⟨x0.1.1, x0.1.2.1, x0.1.2.2.1⟩)
  refine zs_aload_n (pc := 0) t154_0 rfl ?_
  refine zs_iconst (pc := 1) t154_1 (v := 0) (by decide) ?_
  have w7 : zIv cLo cHi (zsI M 325 1 (0 : Int32)) := zIv.put hI (show (-2147483648) ≤ (0 : Int32).toInt ∧ (0 : Int32).toInt ≤ 2147483647 from zrg (0 : Int32))
  refine zs_putI (pc := 2) t154_2 (zk1 (hs.k fk_zMc_325)) rfl ?_
  refine zs_iconst (pc := 5) t154_5 (v := 0) (by decide) ?_
  refine zs_istore_n (pc := 6) t154_6 (ls' := [(3, .int (0 : Int32)), (0, .ref 325), (1, .ref 7), (2, .ref 164)]) (zml mf154 (by decide)) rfl ?_
  refine zs_iload_n (pc := 7) t154_7 rfl ?_
  refine zs_bipush (pc := 8) t154_8 (v := 8) (by decide) ?_
  refine zs_icmp_gtF (pc := 10) t154_10 li0 li8 (by decide) ?_
  refine zs_aload_n (pc := 13) t154_13 rfl ?_
  refine zs_get (pc := 14) t154_14 (by decide) (zk1 (hs.k fk_zMc_325)) (hs.p rfl fv_zMc_325_2) ?_
  refine zs_iload_n (pc := 17) t154_17 rfl ?_
  refine zs_iconst (pc := 18) t154_18 (v := 0) (by decide) ?_
  have w8 : zIv cLo cHi (zsI (zsI M 325 1 (0 : Int32)) 326 0 (0 : Int32)) := zIv.put w7 (show 0 ≤ (0 : Int32).toInt ∧ (0 : Int32).toInt ≤ 20 from ⟨by decide, by decide⟩)
  refine zs_iast (pc := 19) t154_19 (j := 0) (by decide) (zk1 (hs.k fk_zMc_326)) li0 (zk2 (hs.k fk_zMc_326) (by decide)) ?_
  refine zs_iinc (pc := 20) t154_20 (ls' := [(3, .int (1 : Int32)), (0, .ref 325), (1, .ref 7), (2, .ref 164)]) (zml mf154 (by decide)) rfl (c := 1) (by decide) rfl ?_
  refine zs_goto (pc := 23) t154_23 ?_
  refine zs_iload_n (pc := 7) t154_7 rfl ?_
  refine zs_bipush (pc := 8) t154_8 (v := 8) (by decide) ?_
  refine zs_icmp_gtF (pc := 10) t154_10 li1 li8 (by decide) ?_
  refine zs_aload_n (pc := 13) t154_13 rfl ?_
  refine zs_get (pc := 14) t154_14 (by decide) (zk1 (hs.k fk_zMc_325)) (hs.p rfl fv_zMc_325_2) ?_
  refine zs_iload_n (pc := 17) t154_17 rfl ?_
  refine zs_iconst (pc := 18) t154_18 (v := 0) (by decide) ?_
  have w9 : zIv cLo cHi (zsI (zsI (zsI M 325 1 (0 : Int32)) 326 0 (0 : Int32)) 326 1 (0 : Int32)) := zIv.put w8 (show 0 ≤ (0 : Int32).toInt ∧ (0 : Int32).toInt ≤ 20 from ⟨by decide, by decide⟩)
  refine zs_iast (pc := 19) t154_19 (j := 1) (by decide) (zk1 (hs.k fk_zMc_326)) li1 (zk2 (hs.k fk_zMc_326) (by decide)) ?_
  refine zs_iinc (pc := 20) t154_20 (ls' := [(3, .int (2 : Int32)), (0, .ref 325), (1, .ref 7), (2, .ref 164)]) (zml mf154 (by decide)) rfl (c := 2) (by decide) rfl ?_
  refine zs_goto (pc := 23) t154_23 ?_
  refine zs_iload_n (pc := 7) t154_7 rfl ?_
  refine zs_bipush (pc := 8) t154_8 (v := 8) (by decide) ?_
  refine zs_icmp_gtF (pc := 10) t154_10 li2 li8 (by decide) ?_
  refine zs_aload_n (pc := 13) t154_13 rfl ?_
  refine zs_get (pc := 14) t154_14 (by decide) (zk1 (hs.k fk_zMc_325)) (hs.p rfl fv_zMc_325_2) ?_
  refine zs_iload_n (pc := 17) t154_17 rfl ?_
  refine zs_iconst (pc := 18) t154_18 (v := 0) (by decide) ?_
  have w10 : zIv cLo cHi (zsI (zsI (zsI (zsI M 325 1 (0 : Int32)) 326 0 (0 : Int32)) 326 1 (0 : Int32)) 326 2 (0 : Int32)) := zIv.put w9 (show 0 ≤ (0 : Int32).toInt ∧ (0 : Int32).toInt ≤ 20 from ⟨by decide, by decide⟩)
  refine zs_iast (pc := 19) t154_19 (j := 2) (by decide) (zk1 (hs.k fk_zMc_326)) li2 (zk2 (hs.k fk_zMc_326) (by decide)) ?_
  refine zs_iinc (pc := 20) t154_20 (ls' := [(3, .int (3 : Int32)), (0, .ref 325), (1, .ref 7), (2, .ref 164)]) (zml mf154 (by decide)) rfl (c := 3) (by decide) rfl ?_
  refine zs_goto (pc := 23) t154_23 ?_
  refine zs_iload_n (pc := 7) t154_7 rfl ?_
  refine zs_bipush (pc := 8) t154_8 (v := 8) (by decide) ?_
  refine zs_icmp_gtF (pc := 10) t154_10 li3 li8 (by decide) ?_
  refine zs_aload_n (pc := 13) t154_13 rfl ?_
  refine zs_get (pc := 14) t154_14 (by decide) (zk1 (hs.k fk_zMc_325)) (hs.p rfl fv_zMc_325_2) ?_
  refine zs_iload_n (pc := 17) t154_17 rfl ?_
  refine zs_iconst (pc := 18) t154_18 (v := 0) (by decide) ?_
  have w11 : zIv cLo cHi (zsI (zsI (zsI (zsI (zsI M 325 1 (0 : Int32)) 326 0 (0 : Int32)) 326 1 (0 : Int32)) 326 2 (0 : Int32)) 326 3 (0 : Int32)) := zIv.put w10 (show 0 ≤ (0 : Int32).toInt ∧ (0 : Int32).toInt ≤ 20 from ⟨by decide, by decide⟩)
  refine zs_iast (pc := 19) t154_19 (j := 3) (by decide) (zk1 (hs.k fk_zMc_326)) li3 (zk2 (hs.k fk_zMc_326) (by decide)) ?_
  refine zs_iinc (pc := 20) t154_20 (ls' := [(3, .int (4 : Int32)), (0, .ref 325), (1, .ref 7), (2, .ref 164)]) (zml mf154 (by decide)) rfl (c := 4) (by decide) rfl ?_
  refine zs_goto (pc := 23) t154_23 ?_
  refine zs_iload_n (pc := 7) t154_7 rfl ?_
  refine zs_bipush (pc := 8) t154_8 (v := 8) (by decide) ?_
  refine zs_icmp_gtF (pc := 10) t154_10 li4 li8 (by decide) ?_
  refine zs_aload_n (pc := 13) t154_13 rfl ?_
  refine zs_get (pc := 14) t154_14 (by decide) (zk1 (hs.k fk_zMc_325)) (hs.p rfl fv_zMc_325_2) ?_
  refine zs_iload_n (pc := 17) t154_17 rfl ?_
  refine zs_iconst (pc := 18) t154_18 (v := 0) (by decide) ?_
  have w12 : zIv cLo cHi (zsI (zsI (zsI (zsI (zsI (zsI M 325 1 (0 : Int32)) 326 0 (0 : Int32)) 326 1 (0 : Int32)) 326 2 (0 : Int32)) 326 3 (0 : Int32)) 326 4 (0 : Int32)) := zIv.put w11 (show 0 ≤ (0 : Int32).toInt ∧ (0 : Int32).toInt ≤ 20 from ⟨by decide, by decide⟩)
  refine zs_iast (pc := 19) t154_19 (j := 4) (by decide) (zk1 (hs.k fk_zMc_326)) li4 (zk2 (hs.k fk_zMc_326) (by decide)) ?_
  refine zs_iinc (pc := 20) t154_20 (ls' := [(3, .int (5 : Int32)), (0, .ref 325), (1, .ref 7), (2, .ref 164)]) (zml mf154 (by decide)) rfl (c := 5) (by decide) rfl ?_
  refine zs_goto (pc := 23) t154_23 ?_
  refine zs_iload_n (pc := 7) t154_7 rfl ?_
  refine zs_bipush (pc := 8) t154_8 (v := 8) (by decide) ?_
  refine zs_icmp_gtF (pc := 10) t154_10 li5 li8 (by decide) ?_
  refine zs_aload_n (pc := 13) t154_13 rfl ?_
  refine zs_get (pc := 14) t154_14 (by decide) (zk1 (hs.k fk_zMc_325)) (hs.p rfl fv_zMc_325_2) ?_
  refine zs_iload_n (pc := 17) t154_17 rfl ?_
  refine zs_iconst (pc := 18) t154_18 (v := 0) (by decide) ?_
  have w13 : zIv cLo cHi (zsI (zsI (zsI (zsI (zsI (zsI (zsI M 325 1 (0 : Int32)) 326 0 (0 : Int32)) 326 1 (0 : Int32)) 326 2 (0 : Int32)) 326 3 (0 : Int32)) 326 4 (0 : Int32)) 326 5 (0 : Int32)) := zIv.put w12 (show 0 ≤ (0 : Int32).toInt ∧ (0 : Int32).toInt ≤ 20 from ⟨by decide, by decide⟩)
  refine zs_iast (pc := 19) t154_19 (j := 5) (by decide) (zk1 (hs.k fk_zMc_326)) li5 (zk2 (hs.k fk_zMc_326) (by decide)) ?_
  refine zs_iinc (pc := 20) t154_20 (ls' := [(3, .int (6 : Int32)), (0, .ref 325), (1, .ref 7), (2, .ref 164)]) (zml mf154 (by decide)) rfl (c := 6) (by decide) rfl ?_
  refine zs_goto (pc := 23) t154_23 ?_
  refine zs_iload_n (pc := 7) t154_7 rfl ?_
  refine zs_bipush (pc := 8) t154_8 (v := 8) (by decide) ?_
  refine zs_icmp_gtF (pc := 10) t154_10 li6 li8 (by decide) ?_
  refine zs_aload_n (pc := 13) t154_13 rfl ?_
  refine zs_get (pc := 14) t154_14 (by decide) (zk1 (hs.k fk_zMc_325)) (hs.p rfl fv_zMc_325_2) ?_
  refine zs_iload_n (pc := 17) t154_17 rfl ?_
  refine zs_iconst (pc := 18) t154_18 (v := 0) (by decide) ?_
  have w14 : zIv cLo cHi (zsI (zsI (zsI (zsI (zsI (zsI (zsI (zsI M 325 1 (0 : Int32)) 326 0 (0 : Int32)) 326 1 (0 : Int32)) 326 2 (0 : Int32)) 326 3 (0 : Int32)) 326 4 (0 : Int32)) 326 5 (0 : Int32)) 326 6 (0 : Int32)) := zIv.put w13 (show 0 ≤ (0 : Int32).toInt ∧ (0 : Int32).toInt ≤ 20 from ⟨by decide, by decide⟩)
  refine zs_iast (pc := 19) t154_19 (j := 6) (by decide) (zk1 (hs.k fk_zMc_326)) li6 (zk2 (hs.k fk_zMc_326) (by decide)) ?_
  refine zs_iinc (pc := 20) t154_20 (ls' := [(3, .int (7 : Int32)), (0, .ref 325), (1, .ref 7), (2, .ref 164)]) (zml mf154 (by decide)) rfl (c := 7) (by decide) rfl ?_
  refine zs_goto (pc := 23) t154_23 ?_
  refine zs_iload_n (pc := 7) t154_7 rfl ?_
  refine zs_bipush (pc := 8) t154_8 (v := 8) (by decide) ?_
  refine zs_icmp_gtF (pc := 10) t154_10 li7 li8 (by decide) ?_
  refine zs_aload_n (pc := 13) t154_13 rfl ?_
  refine zs_get (pc := 14) t154_14 (by decide) (zk1 (hs.k fk_zMc_325)) (hs.p rfl fv_zMc_325_2) ?_
  refine zs_iload_n (pc := 17) t154_17 rfl ?_
  refine zs_iconst (pc := 18) t154_18 (v := 0) (by decide) ?_
  have w15 : zIv cLo cHi (zsI (zsI (zsI (zsI (zsI (zsI (zsI (zsI (zsI M 325 1 (0 : Int32)) 326 0 (0 : Int32)) 326 1 (0 : Int32)) 326 2 (0 : Int32)) 326 3 (0 : Int32)) 326 4 (0 : Int32)) 326 5 (0 : Int32)) 326 6 (0 : Int32)) 326 7 (0 : Int32)) := zIv.put w14 (show 0 ≤ (0 : Int32).toInt ∧ (0 : Int32).toInt ≤ 20 from ⟨by decide, by decide⟩)
  refine zs_iast (pc := 19) t154_19 (j := 7) (by decide) (zk1 (hs.k fk_zMc_326)) li7 (zk2 (hs.k fk_zMc_326) (by decide)) ?_
  refine zs_iinc (pc := 20) t154_20 (ls' := [(3, .int (8 : Int32)), (0, .ref 325), (1, .ref 7), (2, .ref 164)]) (zml mf154 (by decide)) rfl (c := 8) (by decide) rfl ?_
  refine zs_goto (pc := 23) t154_23 ?_
  refine zs_iload_n (pc := 7) t154_7 rfl ?_
  refine zs_bipush (pc := 8) t154_8 (v := 8) (by decide) ?_
  refine zs_icmp_gtF (pc := 10) t154_10 li8 li8 (by decide) ?_
  refine zs_aload_n (pc := 13) t154_13 rfl ?_
  refine zs_get (pc := 14) t154_14 (by decide) (zk1 (hs.k fk_zMc_325)) (hs.p rfl fv_zMc_325_2) ?_
  refine zs_iload_n (pc := 17) t154_17 rfl ?_
  refine zs_iconst (pc := 18) t154_18 (v := 0) (by decide) ?_
  have w16 : zIv cLo cHi (zsI (zsI (zsI (zsI (zsI (zsI (zsI (zsI (zsI (zsI M 325 1 (0 : Int32)) 326 0 (0 : Int32)) 326 1 (0 : Int32)) 326 2 (0 : Int32)) 326 3 (0 : Int32)) 326 4 (0 : Int32)) 326 5 (0 : Int32)) 326 6 (0 : Int32)) 326 7 (0 : Int32)) 326 8 (0 : Int32)) := zIv.put w15 (show 0 ≤ (0 : Int32).toInt ∧ (0 : Int32).toInt ≤ 20 from ⟨by decide, by decide⟩)
  refine zs_iast (pc := 19) t154_19 (j := 8) (by decide) (zk1 (hs.k fk_zMc_326)) li8 (zk2 (hs.k fk_zMc_326) (by decide)) ?_
  refine zs_iinc (pc := 20) t154_20 (ls' := [(3, .int (9 : Int32)), (0, .ref 325), (1, .ref 7), (2, .ref 164)]) (zml mf154 (by decide)) rfl (c := 9) (by decide) rfl ?_
  refine zs_goto (pc := 23) t154_23 ?_
  refine zs_iload_n (pc := 7) t154_7 rfl ?_
  refine zs_bipush (pc := 8) t154_8 (v := 8) (by decide) ?_
  refine zs_icmp_gtT (pc := 10) t154_10 li9 li8 (by decide) ?_
  refine zs_aload_n (pc := 26) t154_26 rfl ?_
  refine zs_iconst (pc := 27) t154_27 (v := 3) (by decide) ?_
  refine zs_invV (pc := 28) (k := 7) (as' := [.int (3 : Int32)]) (st := []) t154_28 mf96 rfl rfl (Or.inl ⟨by decide, (zk1 (hs.k fk_zMc_7))⟩) ⟨by decide, by decide, Nat.le_of_ble_eq_true rfl, Nat.le_of_ble_eq_true rfl⟩ (zs_in (by decide) mf96 (Nat.le_of_ble_eq_true rfl) ?_) (fun _ _ q => q)
  show zGo X l 0 0 0 96 0 [(0, .ref 7), (1, .int (3 : Int32))] [] (zsI (zsI (zsI (zsI (zsI (zsI (zsI (zsI (zsI (zsI M 325 1 (0 : Int32)) 326 0 (0 : Int32)) 326 1 (0 : Int32)) 326 2 (0 : Int32)) 326 3 (0 : Int32)) 326 4 (0 : Int32)) 326 5 (0 : Int32)) 326 6 (0 : Int32)) 326 7 (0 : Int32)) 326 8 (0 : Int32)) _
  refine zs_iload_n (pc := 0) t96_0 rfl ?_
  refine zs_if_ltF (pc := 1) t96_1 li3 (by decide) ?_
  refine zs_iload_n (pc := 4) t96_4 rfl ?_
  refine zs_bipush (pc := 5) t96_5 (v := 9) (by decide) ?_
  refine zs_icmp_geF (pc := 7) t96_7 li3 li9 (by decide) ?_
  refine zs_aload_n (pc := 10) t96_10 rfl ?_
  refine zs_get (pc := 11) t96_11 (by decide) (zk1 (hs.k fk_zMc_7)) (hs.p rfl fv_zMc_7_12) ?_
  refine zs_iload_n (pc := 14) t96_14 rfl ?_
  have w17 := ib17 hI 3
  have w18 : (zI M 17 3).toInt = F 8 := x0.2.2.2.2.1 3 (by decide)
  refine zs_iald (pc := 15) t96_15 (j := 3) (by decide) (zk1 (hs.k fk_zMc_17)) li3 (zk2 (hs.k fk_zMc_17) (by decide)) ((zIo (by decide)).trans ((zIo (by decide)).trans ((zIo (by decide)).trans ((zIo (by decide)).trans ((zIo (by decide)).trans ((zIo (by decide)).trans ((zIo (by decide)).trans ((zIo (by decide)).trans ((zIo (by decide)).trans ((zIo (by decide)).trans rfl)))))))))) ?_
  refine zs_goto (pc := 16) t96_16 ?_
  refine zs_iret (pc := 20) t96_20 mr96 rfl ?_
  show zGo X l 4 0 0 154 31 [(3, .int (9 : Int32)), (0, .ref 325), (1, .ref 7), (2, .ref 164)] [.int (zI M 17 3)] (zsI (zsI (zsI (zsI (zsI (zsI (zsI (zsI (zsI (zsI M 325 1 (0 : Int32)) 326 0 (0 : Int32)) 326 1 (0 : Int32)) 326 2 (0 : Int32)) 326 3 (0 : Int32)) 326 4 (0 : Int32)) 326 5 (0 : Int32)) 326 6 (0 : Int32)) 326 7 (0 : Int32)) 326 8 (0 : Int32)) _
  refine zs_istore_n (pc := 31) t154_31 (ls' := [(3, .int (zI M 17 3)), (0, .ref 325), (1, .ref 7), (2, .ref 164)]) (zml mf154 (by decide)) rfl ?_
  refine zs_aload_n (pc := 32) t154_32 rfl ?_
  refine zs_invV (pc := 33) (k := 164) (as' := []) (st := []) t154_33 mf155 rfl rfl (Or.inl ⟨by decide, (zk1 (hs.k fk_zMc_164))⟩) ⟨by decide, by decide, Nat.le_of_ble_eq_true rfl, Nat.le_of_ble_eq_true rfl⟩ (zs_in (by decide) mf155 (Nat.le_of_ble_eq_true rfl) ?_) (fun _ _ q => q)
  show zGo X l 1 0 0 155 0 [(0, .ref 164)] [] (zsI (zsI (zsI (zsI (zsI (zsI (zsI (zsI (zsI (zsI M 325 1 (0 : Int32)) 326 0 (0 : Int32)) 326 1 (0 : Int32)) 326 2 (0 : Int32)) 326 3 (0 : Int32)) 326 4 (0 : Int32)) 326 5 (0 : Int32)) 326 6 (0 : Int32)) 326 7 (0 : Int32)) 326 8 (0 : Int32)) _
  refine zs_aload_n (pc := 0) t155_0 rfl ?_
  refine zs_get (pc := 1) t155_1 (by decide) (zk1 (hs.k fk_zMc_164)) (hs.p rfl fv_zMc_164_1) ?_
  refine zs_invV (pc := 4) (k := 165) (as' := []) (st := []) t155_4 mf156 rfl rfl (Or.inl ⟨by decide, (zk1 (hs.k fk_zMc_165))⟩) ⟨by decide, by decide, Nat.le_of_ble_eq_true rfl, Nat.le_of_ble_eq_true rfl⟩ (zs_in (by decide) mf156 (Nat.le_of_ble_eq_true rfl) ?_) (fun _ _ q => q)
  show zGo X l 0 0 0 156 0 [(0, .ref 165)] [] (zsI (zsI (zsI (zsI (zsI (zsI (zsI (zsI (zsI (zsI M 325 1 (0 : Int32)) 326 0 (0 : Int32)) 326 1 (0 : Int32)) 326 2 (0 : Int32)) 326 3 (0 : Int32)) 326 4 (0 : Int32)) 326 5 (0 : Int32)) 326 6 (0 : Int32)) 326 7 (0 : Int32)) 326 8 (0 : Int32)) _
  refine zs_aload_n (pc := 0) t156_0 rfl ?_
  refine zs_get (pc := 1) t156_1 (by decide) (zk1 (hs.k fk_zMc_165)) (hs.p rfl fv_zMc_165_0) ?_
  refine zs_aret (pc := 4) t156_4 (by rw [mr156]; rfl) ?_
  show zGo X l 1 0 0 155 7 [(0, .ref 164)] [.ref 166] (zsI (zsI (zsI (zsI (zsI (zsI (zsI (zsI (zsI (zsI M 325 1 (0 : Int32)) 326 0 (0 : Int32)) 326 1 (0 : Int32)) 326 2 (0 : Int32)) 326 3 (0 : Int32)) 326 4 (0 : Int32)) 326 5 (0 : Int32)) 326 6 (0 : Int32)) 326 7 (0 : Int32)) 326 8 (0 : Int32)) _
  refine zs_aret (pc := 7) t155_7 (by rw [mr155]; rfl) ?_
  show zGo X l 4 0 0 154 36 [(3, .int (zI M 17 3)), (0, .ref 325), (1, .ref 7), (2, .ref 164)] [.ref 166] (zsI (zsI (zsI (zsI (zsI (zsI (zsI (zsI (zsI (zsI M 325 1 (0 : Int32)) 326 0 (0 : Int32)) 326 1 (0 : Int32)) 326 2 (0 : Int32)) 326 3 (0 : Int32)) 326 4 (0 : Int32)) 326 5 (0 : Int32)) 326 6 (0 : Int32)) 326 7 (0 : Int32)) 326 8 (0 : Int32)) _
  refine zs_astore (pc := 36) t154_36 (ls' := [(4, .ref 166), (3, .int (zI M 17 3)), (0, .ref 325), (1, .ref 7), (2, .ref 164)]) (zml mf154 (by decide)) rfl ?_
  refine zs_aload (pc := 38) t154_38 rfl ?_
  refine zs_aload_n (pc := 40) t154_40 rfl ?_
  refine zs_iconst (pc := 41) t154_41 (v := -1) (by decide) ?_
  have w19 : (-1 : Int32).toInt = (-1) := lin1
  refine zs_invV (pc := 42) (k := 166) (as' := [.ref 7, .int (-1 : Int32)]) (st := []) t154_42 mf107 rfl rfl (Or.inl ⟨by decide, (zk1 (hs.k fk_zMc_166))⟩) ⟨by decide, by decide, Nat.le_of_ble_eq_true rfl, Nat.le_of_ble_eq_true rfl⟩ (V107_166 hs w16 (zSo.fr x0 (zEq.tr (zEq.tr (zEq.tr (zEq.tr (zEq.tr (zEq.tr (zEq.tr (zEq.tr (zEq.tr (zEq.put rfl) (zEq.put rfl)) (zEq.put rfl)) (zEq.put rfl)) (zEq.put rfl)) (zEq.put rfl)) (zEq.put rfl)) (zEq.put rfl)) (zEq.put rfl)) (zEq.put rfl))) x1 ?_) (fun _ _ q => q)
  intro w20M w20s w20I w20F w20x0
  obtain ⟨w20m, w20φ, w20n, w20v, w20S, w20p⟩ := w20x0
  have w20S0 := w20S.1
  have w20S1 := w20S.2.1
  show zGo X l 4 0 0 154 45 [(4, .ref 166), (3, .int (zI M 17 3)), (0, .ref 325), (1, .ref 7), (2, .ref 164)] [] w20M _
  refine zs_aload (pc := 45) t154_45 rfl ?_
  refine zs_invV (pc := 47) (k := 166) (as' := []) (st := []) t154_47 mf112 rfl rfl (Or.inl ⟨by decide, (zk1 (w20s.k fk_zMc_166))⟩) ⟨by decide, by decide, Nat.le_of_ble_eq_true rfl, Nat.le_of_ble_eq_true rfl⟩ (V112_166 w20s w20I x1 (zVt.fr w20v rfl (fun j => rfl) (fun j => rfl) (fun j => rfl)) ?_) (fun _ _ q => q)
  intro w21v w21x0
  have w21g := zrg w21v
  show zGo X l 4 0 0 154 50 [(4, .ref 166), (3, .int (zI M 17 3)), (0, .ref 325), (1, .ref 7), (2, .ref 164)] [.int w21v] w20M _
  refine zs_iload_n (pc := 50) t154_50 rfl ?_
  by_cases w22 : (zI M 17 3).toInt ≤ w21v.toInt
  · refine zs_icmp_geT (pc := 51) t154_51 rfl rfl (by omega) ?_
    refine zs_iconst (pc := 55) t154_55 (v := 0) (by decide) ?_
    refine zs_istore (pc := 56) t154_56 (ls' := [(5, .int (0 : Int32)), (4, .ref 166), (3, .int (zI M 17 3)), (0, .ref 325), (1, .ref 7), (2, .ref 164)]) (zml mf154 (by decide)) rfl ?_
    have w23L : ∀ (m : Nat) (w23x5 : Int32) (w23M : zM), (0 ≤ w23x5.toInt ∧ w23x5.toInt ≤ 287) → zSk zMc w23M → zIv cLo cHi w23M → zFr [(166, 166, some 10), (166, 166, some 15), (166, 166, some 17), (166, 166, some 18), (174, 178, none), (325, 325, some 1), (326, 331, none)] w20M w23M → ((zI w23M 166 10).toInt ≤ (zI w20M 166 10).toInt + w23x5.toInt) → ((zI w20M 166 10).toInt ≤ (zI w23M 166 10).toInt) → (zSp w23M 166 174) → 287 - w23x5.toInt ≤ (m : Int) → zGo X l 4 0 0 154 58 [(0, .ref 325), (1, .ref 7), (2, .ref 164), (3, .int (zI M 17 3)), (4, .ref 166), (5, .int w23x5)] [] w23M Q := by
      intro m
      induction m using Nat.strongRecOn with
      | ind w23m w23ih =>
        intro w23x5 w23M w23b5 w23s w23I w23F w23r0 w23r1 w23t0 w23q
        obtain ⟨w24n, w24⟩ : ∃ n : Nat, w23x5.toInt = (n : Int) := ⟨(w23x5.toInt).toNat, by omega⟩
        have w25 := zrg (zI w23M 166 10)
        have w26 := zrg (zI M 166 10)
        have w27 : (zI w20M 166 10).toInt = (zI M 166 10).toInt := (congrArg Int32.toInt ((w20F 166 10 rfl).trans ((zIo (by decide)).trans ((zIo (by decide)).trans ((zIo (by decide)).trans ((zIo (by decide)).trans ((zIo (by decide)).trans ((zIo (by decide)).trans ((zIo (by decide)).trans ((zIo (by decide)).trans ((zIo (by decide)).trans ((zIo (by decide)).trans rfl)))))))))))).trans rfl
        have w28 : (zI w20M 166 10).toInt = (zI M 166 10).toInt := (congrArg Int32.toInt ((w20F 166 10 rfl).trans ((zIo (by decide)).trans ((zIo (by decide)).trans ((zIo (by decide)).trans ((zIo (by decide)).trans ((zIo (by decide)).trans ((zIo (by decide)).trans ((zIo (by decide)).trans ((zIo (by decide)).trans ((zIo (by decide)).trans ((zIo (by decide)).trans rfl)))))))))))).trans rfl
        refine zs_iload (pc := 58) t154_58 rfl ?_
        refine zs_aload (pc := 60) t154_60 rfl ?_
        refine zs_invV (pc := 62) (k := 166) (as' := []) (st := [.int w23x5]) t154_62 mf110 rfl rfl (Or.inl ⟨by decide, (zk1 (w23s.k fk_zMc_166))⟩) ⟨by decide, by decide, Nat.le_of_ble_eq_true rfl, Nat.le_of_ble_eq_true rfl⟩ (zs_in (by decide) mf110 (Nat.le_of_ble_eq_true rfl) ?_) (fun _ _ q => q)
        show zGo X l 0 0 0 110 0 [(0, .ref 166)] [] w23M _
        refine zs_aload_n (pc := 0) t110_0 rfl ?_
        have w29 := ib166_0 w20I
        refine zs_get (pc := 1) t110_1 (by decide) (zk1 (w23s.k fk_zMc_166)) (zfvi rfl ((w23F 166 0 rfl).trans rfl)) ?_
        refine zs_iret (pc := 4) t110_4 mr110 rfl ?_
        show zGo X l 4 0 0 154 65 [(0, .ref 325), (1, .ref 7), (2, .ref 164), (3, .int (zI M 17 3)), (4, .ref 166), (5, .int w23x5)] [.int (zI w20M 166 0), .int w23x5] w23M _
        by_cases w30 : (zI w20M 166 0).toInt ≤ w23x5.toInt
        · refine zs_icmp_geT (pc := 65) t154_65 rfl rfl (by omega) ?_
          have w31 : (zI w23M 166 10).toInt = (zI w23M 166 10).toInt := (congrArg Int32.toInt rfl).trans rfl
          exact zs_vret (pc := 100) t154_100 mr154 (hQ _ w23s w23I (((((((((((((zFr.refl).put rfl).put rfl).put rfl).put rfl).put rfl).put rfl).put rfl).put rfl).put rfl).put rfl).trans (w20F.mono rfl)).trans (w23F.mono rfl)) (by omega) (by omega) w23t0)
        · refine zs_icmp_geF (pc := 65) t154_65 rfl rfl (by omega) ?_
          refine zs_aload (pc := 68) t154_68 rfl ?_
          refine zs_iload (pc := 70) t154_70 rfl ?_
          have w32 : (zI w23M 166 10).toInt = (zI w23M 166 10).toInt := (congrArg Int32.toInt rfl).trans rfl
          have w33 : (zI w23M 166 10).toInt = (zI w23M 166 10).toInt := (congrArg Int32.toInt rfl).trans rfl
          have w34 : (zI w23M 166 0).toInt = (zI w20M 166 0).toInt := (congrArg Int32.toInt ((w23F 166 0 rfl).trans rfl)).trans rfl
          refine zs_invV (pc := 72) (k := 166) (as' := [.int w23x5]) (st := []) t154_72 mf114 rfl rfl (Or.inl ⟨by decide, (zk1 (w23s.k fk_zMc_166))⟩) ⟨by decide, by decide, Nat.le_of_ble_eq_true rfl, Nat.le_of_ble_eq_true rfl⟩ (V114_166 w23s w23I (by omega) x1 (zPn.fr w20p (w23F 166 5 rfl) (fun j => (w23F 169 j rfl)) (fun j => (w23F 170 j rfl))) (zVt.fr w20v (w23F 166 6 rfl) (fun j => (w23F 171 j rfl)) (fun j => (w23F 172 j rfl)) (fun j => (w23F 173 j rfl))) w23t0 ⟨(show _ = ((w24n : Nat) : Int) by omega), by omega, rfl, rfl, (zSl.fr w20S (w23F 166 0 rfl) (fun j => (w23F 167 j rfl)) (fun j => (w23F 168 j rfl))).2.2.1 w24n (by omega)⟩ ?_) (fun _ _ q => q)
          intro w35M w35s w35I w35F w35t0 w35x0 w35x1
          have w36 := zrg (zI w35M 166 10)
          show zGo X l 4 0 0 154 75 [(0, .ref 325), (1, .ref 7), (2, .ref 164), (3, .int (zI M 17 3)), (4, .ref 166), (5, .int w23x5)] [] w35M _
          refine zs_aload (pc := 75) t154_75 rfl ?_
          refine zs_invV (pc := 77) (k := 166) (as' := []) (st := []) t154_77 mf118 rfl rfl (Or.inl ⟨by decide, (zk1 (w35s.k fk_zMc_166))⟩) ⟨by decide, by decide, Nat.le_of_ble_eq_true rfl, Nat.le_of_ble_eq_true rfl⟩ (zs_in (by decide) mf118 (Nat.le_of_ble_eq_true rfl) ?_) (fun _ _ q => q)
          show zGo X l 0 0 0 118 0 [(0, .ref 166)] [] w35M _
          refine zs_aload_n (pc := 0) t118_0 rfl ?_
          have w37 := zrg (zI w35M 166 17)
          refine zs_get (pc := 1) t118_1 (by decide) (zk1 (w35s.k fk_zMc_166)) (zfvi rfl rfl) ?_
          refine zs_iret (pc := 4) t118_4 mr118 rfl ?_
          show zGo X l 4 0 0 154 80 [(0, .ref 325), (1, .ref 7), (2, .ref 164), (3, .int (zI M 17 3)), (4, .ref 166), (5, .int w23x5)] [.int (zI w35M 166 17)] w35M _
          refine zs_iload_n (pc := 80) t154_80 rfl ?_
          by_cases w38 : (zI w35M 166 17).toInt < (zI M 17 3).toInt
          · refine zs_icmp_ltT (pc := 81) t154_81 rfl rfl (by omega) ?_
            obtain ⟨w39v, w39e, w39⟩ := ziadd (a := w23x5) (b := Int32.ofInt 1) rfl (show (Int32.ofInt 1).toInt = 1 by decide) (by omega) (by omega)
            refine zs_iinc (pc := 94) t154_94 (ls' := [(5, .int w39v), (0, .ref 325), (1, .ref 7), (2, .ref 164), (3, .int (zI M 17 3)), (4, .ref 166)]) (zml mf154 (by decide)) rfl (c := w39v) w39e rfl ?_
            refine zs_goto (pc := 97) t154_97 ?_
            refine zGo.locals (ls' := [(0, .ref 325), (1, .ref 7), (2, .ref 164), (3, .int (zI M 17 3)), (4, .ref 166), (5, .int w39v)]) (by simp) ?_
            have w40 := w39
            have w41 : (zI w35M 166 10).toInt = (zI w35M 166 10).toInt := (congrArg Int32.toInt rfl).trans rfl
            have w42 : (zI w35M 166 10).toInt = (zI w35M 166 10).toInt := (congrArg Int32.toInt rfl).trans rfl
            exact w23ih (w23m - 1) (by omega) w39v w35M ⟨by omega, by omega⟩ w35s w35I (((zFr.refl).trans (w23F.mono rfl)).trans (w35F.mono rfl)) (by omega) (by omega) (zSp.fr w35x1 (fun j => rfl) rfl) (by omega)
          · refine zs_icmp_ltF (pc := 81) t154_81 rfl rfl (by omega) ?_
            refine zs_aload_n (pc := 84) t154_84 rfl ?_
            refine zs_aload (pc := 85) t154_85 rfl ?_
            refine zs_iload (pc := 87) t154_87 rfl ?_
            refine zs_iload_n (pc := 89) t154_89 rfl ?_
            refine zs_aload_n (pc := 90) t154_90 rfl ?_
            refine zs_invV (pc := 91) (k := 325) (as' := [.ref 166, .int w23x5, .int (zI M 17 3), .ref 164]) (st := []) t154_91 mf157 rfl rfl (Or.inl ⟨by decide, (zk1 (w35s.k fk_zMc_325))⟩) ⟨by decide, by decide, Nat.le_of_ble_eq_true rfl, Nat.le_of_ble_eq_true rfl⟩ (C157_325_166_164 w35s w35I ?_) (fun _ _ q => q)
            intro w43M w43s w43I w43F
            show zGo X l 4 0 0 154 94 [(0, .ref 325), (1, .ref 7), (2, .ref 164), (3, .int (zI M 17 3)), (4, .ref 166), (5, .int w23x5)] [] w43M _
            obtain ⟨w44v, w44e, w44⟩ := ziadd (a := w23x5) (b := Int32.ofInt 1) rfl (show (Int32.ofInt 1).toInt = 1 by decide) (by omega) (by omega)
            refine zs_iinc (pc := 94) t154_94 (ls' := [(5, .int w44v), (0, .ref 325), (1, .ref 7), (2, .ref 164), (3, .int (zI M 17 3)), (4, .ref 166)]) (zml mf154 (by decide)) rfl (c := w44v) w44e rfl ?_
            refine zs_goto (pc := 97) t154_97 ?_
            refine zGo.locals (ls' := [(0, .ref 325), (1, .ref 7), (2, .ref 164), (3, .int (zI M 17 3)), (4, .ref 166), (5, .int w44v)]) (by simp) ?_
            have w45 := w44
            have w46 : (zI w43M 166 10).toInt = (zI w35M 166 10).toInt := (congrArg Int32.toInt ((w43F 166 10 rfl).trans rfl)).trans rfl
            have w47 : (zI w43M 166 10).toInt = (zI w35M 166 10).toInt := (congrArg Int32.toInt ((w43F 166 10 rfl).trans rfl)).trans rfl
            exact w23ih (w23m - 1) (by omega) w44v w43M ⟨by omega, by omega⟩ w43s w43I ((((zFr.refl).trans (w23F.mono rfl)).trans (w35F.mono rfl)).trans (w43F.mono rfl)) (by omega) (by omega) (zSp.fr w35x1 (fun j => (w43F 174 j rfl)) (w43F 166 10 rfl)) (by omega)
    refine zGo.locals (ls' := [(0, .ref 325), (1, .ref 7), (2, .ref 164), (3, .int (zI M 17 3)), (4, .ref 166), (5, .int (0 : Int32))]) (by simp) ?_
    have w48 := li0
    have w49 : (zI w20M 166 10).toInt = (zI M 166 10).toInt := (congrArg Int32.toInt ((w20F 166 10 rfl).trans ((zIo (by decide)).trans ((zIo (by decide)).trans ((zIo (by decide)).trans ((zIo (by decide)).trans ((zIo (by decide)).trans ((zIo (by decide)).trans ((zIo (by decide)).trans ((zIo (by decide)).trans ((zIo (by decide)).trans ((zIo (by decide)).trans rfl)))))))))))).trans rfl
    have w50 : (zI w20M 166 10).toInt = (zI M 166 10).toInt := (congrArg Int32.toInt ((w20F 166 10 rfl).trans ((zIo (by decide)).trans ((zIo (by decide)).trans ((zIo (by decide)).trans ((zIo (by decide)).trans ((zIo (by decide)).trans ((zIo (by decide)).trans ((zIo (by decide)).trans ((zIo (by decide)).trans ((zIo (by decide)).trans ((zIo (by decide)).trans rfl)))))))))))).trans rfl
    exact w23L ((287 - 0 : Int).toNat) (0 : Int32) w20M ⟨by decide, by decide⟩ w20s w20I zFr.refl (by omega) (by omega) (zSp.fr x2 (fun j => ((w20F 174 j rfl).trans ((zIo (by decide)).trans ((zIo (by decide)).trans ((zIo (by decide)).trans ((zIo (by decide)).trans ((zIo (by decide)).trans ((zIo (by decide)).trans ((zIo (by decide)).trans ((zIo (by decide)).trans ((zIo (by decide)).trans (zIo (by decide))))))))))))) ((w20F 166 10 rfl).trans ((zIo (by decide)).trans ((zIo (by decide)).trans ((zIo (by decide)).trans ((zIo (by decide)).trans ((zIo (by decide)).trans ((zIo (by decide)).trans ((zIo (by decide)).trans ((zIo (by decide)).trans ((zIo (by decide)).trans (zIo (by decide))))))))))))) (by omega)
  · refine zs_icmp_geF (pc := 51) t154_51 rfl rfl (by omega) ?_
    have w51 : (zI w20M 166 10).toInt = (zI M 166 10).toInt := (congrArg Int32.toInt ((w20F 166 10 rfl).trans ((zIo (by decide)).trans ((zIo (by decide)).trans ((zIo (by decide)).trans ((zIo (by decide)).trans ((zIo (by decide)).trans ((zIo (by decide)).trans ((zIo (by decide)).trans ((zIo (by decide)).trans ((zIo (by decide)).trans ((zIo (by decide)).trans rfl)))))))))))).trans rfl
    exact zs_vret (pc := 54) t154_54 mr154 (hQ _ w20s w20I ((((((((((((zFr.refl).put rfl).put rfl).put rfl).put rfl).put rfl).put rfl).put rfl).put rfl).put rfl).put rfl).trans (w20F.mono rfl)) (by omega) (by omega) (zSp.fr x2 (fun j => ((w20F 174 j rfl).trans ((zIo (by decide)).trans ((zIo (by decide)).trans ((zIo (by decide)).trans ((zIo (by decide)).trans ((zIo (by decide)).trans ((zIo (by decide)).trans ((zIo (by decide)).trans ((zIo (by decide)).trans ((zIo (by decide)).trans (zIo (by decide))))))))))))) ((w20F 166 10 rfl).trans ((zIo (by decide)).trans ((zIo (by decide)).trans ((zIo (by decide)).trans ((zIo (by decide)).trans ((zIo (by decide)).trans ((zIo (by decide)).trans ((zIo (by decide)).trans ((zIo (by decide)).trans ((zIo (by decide)).trans (zIo (by decide))))))))))))))
theorem V153 {X : zX} {l : Launch} {M : zM} {Q : Option Value → zM → Prop} (hs : zSk zMc M) (hI : zIv cLo cHi M) {F : Nat → Int} (u0 : (zI M 166 10).toInt ≤ 1900000000) (u1 : 0 ≤ (zI M 166 10).toInt) (x0 : zSo M 7 F) (x1 : zWF F) (x2 : zSp M 166 174) (hQ : ∀ M', zSk zMc M' → zIv cLo cHi M' → zFr [(325, 325, some 0), (325, 325, some 1), (326, 331, none), (166, 166, some 0), (166, 166, some 5), (166, 166, some 6), (166, 166, some 10), (166, 166, some 15), (166, 166, some 17), (166, 166, some 18), (167, 178, none)] M M' → ((zI M' 166 10).toInt ≤ (zI M 166 10).toInt + 287) → ((zI M 166 10).toInt ≤ (zI M' 166 10).toInt) → (zSp M' 166 174) → Q (some (.ref 325)) M') : zCall X l 5 0 0 153 [.ref 325, .ref 7, .ref 164] M Q := by
  refine zs_in (by decide) mf153 (Nat.le_of_ble_eq_true rfl) ?_
  show zGo X l 5 0 0 153 0 [(0, .ref 325), (1, .ref 7), (2, .ref 164)] [] M _
  have f0 := x0.1
  have w1 := ib7_0 hI
  have w2 : (zI M 7 0).toInt = (zI M 7 0).toInt := (congrArg Int32.toInt rfl).trans rfl
  have w3 := ib7_3 hI
  have w4 : (zI M 7 3).toInt = (zI M 7 3).toInt := (congrArg Int32.toInt rfl).trans rfl
  have w5 := ib7_8 hI
  have w6 : (zI M 7 8).toInt = (zI M 7 8).toInt := (congrArg Int32.toInt rfl).trans rfl
  have f1 := x1.1
  have f3 := x1.2.2.2
  have f2 := (show (zI M 7 0).toInt = F 0 ∧ (zI M 7 3).toInt = F 1 ∧ (zI M 7 8).toInt = F 2 from ⟨x0.1.1, x0.1.2.1, x0.1.2.2.1⟩)
  refine zs_aload_n (pc := 0) t153_0 rfl ?_
  have w7 := ib325_0 hI
  refine zs_get (pc := 1) t153_1 (by decide) (zk1 (hs.k fk_zMc_325)) (zfvi rfl rfl) ?_
  by_cases w8 : (zI M 325 0).toInt ≠ 0
  · refine zs_if_neT (pc := 4) t153_4 rfl (by omega) ?_
    refine zs_aload_n (pc := 18) t153_18 rfl ?_
    have w9 := zrg (zI M 166 10)
    have w10 : (zI M 166 10).toInt = (zI M 166 10).toInt := (congrArg Int32.toInt rfl).trans rfl
    exact zs_aret (pc := 19) t153_19 (by rw [mr153]; rfl) (hQ _ hs hI (zFr.refl) (by omega) (by omega) x2)
  · refine zs_if_neF (pc := 4) t153_4 rfl (by omega) ?_
    refine zs_aload_n (pc := 7) t153_7 rfl ?_
    refine zs_aload_n (pc := 8) t153_8 rfl ?_
    refine zs_aload_n (pc := 9) t153_9 rfl ?_
    have w11 := zrg (zI M 166 10)
    have w12 : (zI M 166 10).toInt = (zI M 166 10).toInt := (congrArg Int32.toInt rfl).trans rfl
    have w13 : (zI M 166 10).toInt = (zI M 166 10).toInt := (congrArg Int32.toInt rfl).trans rfl
    refine zs_invV (pc := 10) (k := 325) (as' := [.ref 7, .ref 164]) (st := []) t153_10 mf154 rfl rfl (Or.inl ⟨by decide, (zk1 (hs.k fk_zMc_325))⟩) ⟨by decide, by decide, Nat.le_of_ble_eq_true rfl, Nat.le_of_ble_eq_true rfl⟩ (V154 hs hI (by omega) (by omega) x0 x1 x2 ?_) (fun _ _ q => q)
    intro w14M w14s w14I w14F w14t0 w14t1 w14x0
    have w15 := zrg (zI w14M 166 10)
    show zGo X l 5 0 0 153 13 [(0, .ref 325), (1, .ref 7), (2, .ref 164)] [] w14M _
    refine zs_aload_n (pc := 13) t153_13 rfl ?_
    refine zs_iconst (pc := 14) t153_14 (v := 1) (by decide) ?_
    have w16 : zIv cLo cHi (zsI w14M 325 0 (1 : Int32)) := zIv.put w14I (show 0 ≤ (1 : Int32).toInt ∧ (1 : Int32).toInt ≤ 1 from ⟨by decide, by decide⟩)
    refine zs_putI (pc := 15) t153_15 (zk1 (w14s.k fk_zMc_325)) (by decide) ?_
    refine zs_aload_n (pc := 18) t153_18 rfl ?_
    have w17 : (zI (zsI w14M 325 0 (1 : Int32)) 166 10).toInt = (zI w14M 166 10).toInt := (congrArg Int32.toInt ((zIo (by decide)).trans rfl)).trans rfl
    exact zs_aret (pc := 19) t153_19 (by rw [mr153]; rfl) (hQ _ w14s w16 (((zFr.refl).trans (w14F.mono rfl)).put rfl) (by omega) (by omega) (zSp.fr w14x0 (fun j => (zIo (by decide))) (zIo (by decide))))
theorem V195 {X : zX} {l : Launch} {M : zM} {Q : Option Value → zM → Prop} {a : Int32} (hs : zSk zMc M) (hI : zIv cLo cHi M) {F : Nat → Int} (u0 : (zI M 242 10).toInt ≤ 1700000000) (u1 : 0 ≤ (zI M 242 10).toInt) (x0 : zSo M 7 F) (x1 : zWF F) (x2 : zPicA M F) (x3 : zSp M 242 250) (hQ : ∀ (M' : zM) (v : Int32), zSk zMc M' → zIv cLo cHi M' → zFr [(323, 324, none), (241, 254, none), (256, 316, none)] M M' → ((zI M' 242 10).toInt ≤ (zI M 242 10).toInt + 6027) → ((zI M 242 10).toInt ≤ (zI M' 242 10).toInt) → (zPicA M' F) → (zSp M' 242 250) → Q (some (.int v)) M') : zCall X l 5 0 0 195 [.ref 164, .ref 7, .int a] M Q := by
  have ga := zrg a
  refine zs_in (by decide) mf195 (Nat.le_of_ble_eq_true rfl) ?_
  show zGo X l 5 0 0 195 0 [(0, .ref 164), (1, .ref 7), (2, .int a)] [] M _
  have f0 := x0.1
  have w1 := ib7_0 hI
  have w2 : (zI M 7 0).toInt = (zI M 7 0).toInt := (congrArg Int32.toInt rfl).trans rfl
  have w3 := ib7_3 hI
  have w4 : (zI M 7 3).toInt = (zI M 7 3).toInt := (congrArg Int32.toInt rfl).trans rfl
  have w5 := ib7_8 hI
  have w6 : (zI M 7 8).toInt = (zI M 7 8).toInt := (congrArg Int32.toInt rfl).trans rfl
  have f1 := x1.1
  have f3 := x1.2.2.2
  have f2 := (show (zI M 7 0).toInt = F 0 ∧ (zI M 7 3).toInt = F 1 ∧ (zI M 7 8).toInt = F 2 from ⟨x0.1.1, x0.1.2.1, x0.1.2.2.1⟩)
  have x2d := x2
  obtain ⟨_, _, _, _, _, _, _, _, _, ⟨p8, _, _⟩, _⟩ := x2d
  refine zs_aload_n (pc := 0) t195_0 rfl ?_
  refine zs_iload_n (pc := 1) t195_1 rfl ?_
  refine zs_invV (pc := 2) (k := 7) (as' := [.int a]) (st := []) t195_2 mf41 rfl rfl (Or.inl ⟨by decide, (zk1 (hs.k fk_zMc_7))⟩) ⟨by decide, by decide, Nat.le_of_ble_eq_true rfl, Nat.le_of_ble_eq_true rfl⟩ (zs_in (by decide) mf41 (Nat.le_of_ble_eq_true rfl) ?_) (fun _ _ q => q)
  show zGo X l 0 0 0 41 0 [(0, .ref 7), (1, .int a)] [] M _
  refine zs_iload_n (pc := 0) t41_0 rfl ?_
  by_cases w7 : a.toInt < 0
  · refine zs_if_ltT (pc := 1) t41_1 rfl (by omega) ?_
    refine zs_iconst (pc := 16) t41_16 (v := 0) (by decide) ?_
    refine zs_iret (pc := 17) t41_17 mr41 (by decide) ?_
    show zGo X l 5 0 0 195 5 [(0, .ref 164), (1, .ref 7), (2, .int a)] [.int (0 : Int32)] M _
    refine zs_if_eqT (pc := 5) t195_5 li0 (by decide) ?_
    refine zs_iconst (pc := 17) t195_17 (v := 0) (by decide) ?_
    have w8 := zrg (zI M 242 10)
    have w9 : (zI M 242 10).toInt = (zI M 242 10).toInt := (congrArg Int32.toInt rfl).trans rfl
    have w10 := li0
    exact zs_iret (pc := 18) t195_18 mr195 (by decide) (hQ _ _ hs hI (zFr.refl) (by omega) (by omega) x2 x3)
  · refine zs_if_ltF (pc := 1) t41_1 rfl (by omega) ?_
    refine zs_iload_n (pc := 4) t41_4 rfl ?_
    refine zs_aload_n (pc := 5) t41_5 rfl ?_
    refine zs_get (pc := 6) t41_6 (by decide) (zk1 (hs.k fk_zMc_7)) (zfvi rfl rfl) ?_
    by_cases w11 : (zI M 7 0).toInt ≤ a.toInt
    · refine zs_icmp_geT (pc := 9) t41_9 rfl rfl (by omega) ?_
      refine zs_iconst (pc := 16) t41_16 (v := 0) (by decide) ?_
      refine zs_iret (pc := 17) t41_17 mr41 (by decide) ?_
      show zGo X l 5 0 0 195 5 [(0, .ref 164), (1, .ref 7), (2, .int a)] [.int (0 : Int32)] M _
      refine zs_if_eqT (pc := 5) t195_5 li0 (by decide) ?_
      refine zs_iconst (pc := 17) t195_17 (v := 0) (by decide) ?_
      have w12 := zrg (zI M 242 10)
      have w13 : (zI M 242 10).toInt = (zI M 242 10).toInt := (congrArg Int32.toInt rfl).trans rfl
      have w14 := li0
      exact zs_iret (pc := 18) t195_18 mr195 (by decide) (hQ _ _ hs hI (zFr.refl) (by omega) (by omega) x2 x3)
    · refine zs_icmp_geF (pc := 9) t41_9 rfl rfl (by omega) ?_
      refine zs_iconst (pc := 12) t41_12 (v := 1) (by decide) ?_
      refine zs_goto (pc := 13) t41_13 ?_
      refine zs_iret (pc := 17) t41_17 mr41 (by decide) ?_
      show zGo X l 5 0 0 195 5 [(0, .ref 164), (1, .ref 7), (2, .int a)] [.int (1 : Int32)] M _
      refine zs_if_eqF (pc := 5) t195_5 li1 (by decide) ?_
      refine zs_aload_n (pc := 8) t195_8 rfl ?_
      refine zs_get (pc := 9) t195_9 (by decide) (zk1 (hs.k fk_zMc_7)) (hs.p rfl fv_zMc_7_2) ?_
      refine zs_iload_n (pc := 12) t195_12 rfl ?_
      obtain ⟨w15n, w15⟩ : ∃ n : Nat, a.toInt = (n : Int) := ⟨(a.toInt).toNat, by omega⟩
      have w16 := ib9 hI w15n
      have w17 : (zI M 8 w15n).toInt = F (14 + 2 * w15n) ∧ (zI M 9 w15n).toInt = F (15 + 2 * w15n) := x0.2.1 w15n (by omega)
      have w18 := x1.2.1 w15n (by omega)
      refine zs_bald (pc := 13) t195_13 (j := w15n) (Or.inr (zk1 (hs.k fk_zMc_9))) (show a.toInt = ((w15n : Nat) : Int) by omega) (zk2 (hs.k fk_zMc_9) (by omega)) rfl ?_
      by_cases w19 : (zI M 9 w15n).toInt ≠ 0
      · refine zs_if_neT (pc := 14) t195_14 rfl (by omega) ?_
        refine zs_aload_n (pc := 19) t195_19 rfl ?_
        refine zs_get (pc := 20) t195_20 (by decide) (zk1 (hs.k fk_zMc_164)) (hs.p rfl fv_zMc_164_13) ?_
        refine zs_iload_n (pc := 23) t195_23 rfl ?_
        have w20 := ib323 hI w15n
        refine zs_bald (pc := 24) t195_24 (j := w15n) (Or.inr (zk1 (hs.k fk_zMc_323))) (show a.toInt = ((w15n : Nat) : Int) by omega) (zk2 (hs.k fk_zMc_323) (by omega)) rfl ?_
        by_cases w21 : (zI M 323 w15n).toInt ≠ 0
        · refine zs_if_neT (pc := 25) t195_25 rfl (by omega) ?_
          refine zs_aload_n (pc := 66) t195_66 rfl ?_
          refine zs_get (pc := 67) t195_67 (by decide) (zk1 (hs.k fk_zMc_164)) (hs.p rfl fv_zMc_164_14) ?_
          refine zs_iload_n (pc := 70) t195_70 rfl ?_
          have w22 := zrg (zI M 324 w15n)
          refine zs_iald (pc := 71) t195_71 (j := w15n) (by decide) (zk1 (hs.k fk_zMc_324)) (show a.toInt = ((w15n : Nat) : Int) by omega) (zk2 (hs.k fk_zMc_324) (by omega)) rfl ?_
          have w23 := zrg (zI M 242 10)
          have w24 : (zI M 242 10).toInt = (zI M 242 10).toInt := (congrArg Int32.toInt rfl).trans rfl
          exact zs_iret (pc := 72) t195_72 mr195 rfl (hQ _ _ hs hI (zFr.refl) (by omega) (by omega) x2 x3)
        · refine zs_if_neF (pc := 25) t195_25 rfl (by omega) ?_
          refine zs_aload_n (pc := 28) t195_28 rfl ?_
          refine zs_get (pc := 29) t195_29 (by decide) (zk1 (hs.k fk_zMc_164)) (hs.p rfl fv_zMc_164_2) ?_
          refine zs_aload_n (pc := 32) t195_32 rfl ?_
          refine zs_iload_n (pc := 33) t195_33 rfl ?_
          refine zs_aload_n (pc := 34) t195_34 rfl ?_
          have w25 := zrg (zI M 164 3)
          refine zs_get (pc := 35) t195_35 (by decide) (zk1 (hs.k fk_zMc_164)) (zfvi rfl rfl) ?_
          have w26 := zrg (zI M 242 10)
          have w27 : (zI M 242 10).toInt = (zI M 242 10).toInt := (congrArg Int32.toInt rfl).trans rfl
          have w28 : (zI M 242 10).toInt = (zI M 242 10).toInt := (congrArg Int32.toInt rfl).trans rfl
          refine zs_invV (pc := 38) (k := 241) (as' := [.ref 7, .int a, .int (zI M 164 3)]) (st := []) t195_38 mf106 rfl rfl (Or.inl ⟨by decide, (zk1 (hs.k fk_zMc_241))⟩) ⟨by decide, by decide, Nat.le_of_ble_eq_true rfl, Nat.le_of_ble_eq_true rfl⟩ (V106_241 hs hI ⟨by omega, by omega⟩ (by omega) (by omega) x0 x1 x3 ?_) (fun _ _ q => q)
          intro w29M w29s w29I w29F w29t0 w29t1 w29x0
          have w30 := zrg (zI w29M 242 10)
          obtain ⟨_, _, _, _, _, _, w29c, _⟩ := w29x0
          have w29sp : zSp w29M 242 250 := w29c.2.2.2.2.2.2.2.2
          show zGo X l 5 0 0 195 41 [(0, .ref 164), (1, .ref 7), (2, .int a)] [] w29M _
          refine zs_aload_n (pc := 41) t195_41 rfl ?_
          refine zs_get (pc := 42) t195_42 (by decide) (zk1 (w29s.k fk_zMc_164)) (w29s.p rfl fv_zMc_164_14) ?_
          refine zs_iload_n (pc := 45) t195_45 rfl ?_
          refine zs_aload_n (pc := 46) t195_46 rfl ?_
          have w31 := ib164_4 hI
          refine zs_get (pc := 47) t195_47 (by decide) (zk1 (w29s.k fk_zMc_164)) (zfvi rfl ((w29F 164 4 rfl).trans rfl)) ?_
          refine zs_aload_n (pc := 50) t195_50 rfl ?_
          refine zs_get (pc := 51) t195_51 (by decide) (zk1 (w29s.k fk_zMc_164)) (w29s.p rfl fv_zMc_164_2) ?_
          refine zs_invV (pc := 54) (k := 241) (as' := []) (st := [.int (zI M 164 4), .int a, .ref 324]) t195_54 mf125 rfl rfl (Or.inl ⟨by decide, (zk1 (w29s.k fk_zMc_241))⟩) ⟨by decide, by decide, Nat.le_of_ble_eq_true rfl, Nat.le_of_ble_eq_true rfl⟩ (zs_in (by decide) mf125 (Nat.le_of_ble_eq_true rfl) ?_) (fun _ _ q => q)
          show zGo X l 0 0 0 125 0 [(0, .ref 241)] [] w29M _
          refine zs_aload_n (pc := 0) t125_0 rfl ?_
          have w32 := ib241_2 w29I
          refine zs_get (pc := 1) t125_1 (by decide) (zk1 (w29s.k fk_zMc_241)) (zfvi rfl rfl) ?_
          refine zs_iret (pc := 4) t125_4 mr125 rfl ?_
          show zGo X l 5 0 0 195 57 [(0, .ref 164), (1, .ref 7), (2, .int a)] [.int (zI w29M 241 2), .int (zI M 164 4), .int a, .ref 324] w29M _
          obtain ⟨w33v, w33e, w33⟩ := zisub (a := (zI M 164 4)) (b := (zI w29M 241 2)) rfl rfl (by omega) (by omega)
          refine zs_isub (pc := 57) t195_57 (c := w33v) w33e ?_
          have w34 : zIv cLo cHi (zsI w29M 324 w15n w33v) := zIv.put w29I (show (-2147483648) ≤ w33v.toInt ∧ w33v.toInt ≤ 2147483647 from zrg w33v)
          refine zs_iast (pc := 58) t195_58 (j := w15n) (by decide) (zk1 (w29s.k fk_zMc_324)) (show a.toInt = ((w15n : Nat) : Int) by omega) (zk2 (w29s.k fk_zMc_324) (by omega)) ?_
          refine zs_aload_n (pc := 59) t195_59 rfl ?_
          refine zs_get (pc := 60) t195_60 (by decide) (zk1 (w29s.k fk_zMc_164)) (w29s.p rfl fv_zMc_164_13) ?_
          refine zs_iload_n (pc := 63) t195_63 rfl ?_
          refine zs_iconst (pc := 64) t195_64 (v := 1) (by decide) ?_
          have w35e : vp_nar .boolean (1 : Int32) = (1 : Int32) := by decide
          have w36 : zIv cLo cHi (zsI (zsI w29M 324 w15n w33v) 323 w15n (1 : Int32)) := zIv.put w34 (show 0 ≤ (1 : Int32).toInt ∧ (1 : Int32).toInt ≤ 1 from ⟨by decide, by decide⟩)
          refine zs_bastZ (pc := 65) t195_65 (j := w15n) (by decide) (zk1 (w29s.k fk_zMc_323)) (show a.toInt = ((w15n : Nat) : Int) by omega) (zk2 (w29s.k fk_zMc_323) (by omega)) w35e ?_
          refine zs_aload_n (pc := 66) t195_66 rfl ?_
          refine zs_get (pc := 67) t195_67 (by decide) (zk1 (w29s.k fk_zMc_164)) (w29s.p rfl fv_zMc_164_14) ?_
          refine zs_iload_n (pc := 70) t195_70 rfl ?_
          refine zs_iald (pc := 71) t195_71 (j := w15n) (by decide) (zk1 (w29s.k fk_zMc_324)) (show a.toInt = ((w15n : Nat) : Int) by omega) (zk2 (w29s.k fk_zMc_324) (by omega)) ((zIo (by decide)).trans zIs) ?_
          have w37 : (zI (zsI (zsI w29M 324 w15n w33v) 323 w15n (1 : Int32)) 242 10).toInt = (zI w29M 242 10).toInt := (congrArg Int32.toInt ((zIo (by decide)).trans ((zIo (by decide)).trans rfl))).trans rfl
          have w38 := w33
          exact zs_iret (pc := 72) t195_72 mr195 rfl (hQ _ _ w29s w36 ((((zFr.refl).trans (w29F.mono rfl)).put rfl).put rfl) (by omega) (by omega) (zPicA.fr x2 (fun j q => ((zIo (by decide)).trans ((zIo (by decide)).trans (w29F 164 j rfl)))) ((zIo (by decide)).trans ((zIo (by decide)).trans (w29F 165 2 rfl))) (zTf.eq (fun k j q1 q2 => ((zIo (by omega)).trans ((zIo (by omega)).trans (w29F k j (zoC (by omega) (zoC (by omega) (zoC (by omega) (zoC (by omega) (zoC (by omega) (zoC (by omega) (zoC (by omega) (zoC (by omega) (zoC (by omega) (zoC (by omega) (zoC (by omega) (zoC (by omega) (zoC (by omega) rfl))))))))))))))))))) (zSp.fr w29sp (fun j => ((zIo (by decide)).trans (zIo (by decide)))) ((zIo (by decide)).trans (zIo (by decide)))))
      · refine zs_if_neF (pc := 14) t195_14 rfl (by omega) ?_
        refine zs_iconst (pc := 17) t195_17 (v := 0) (by decide) ?_
        have w39 := zrg (zI M 242 10)
        have w40 : (zI M 242 10).toInt = (zI M 242 10).toInt := (congrArg Int32.toInt rfl).trans rfl
        have w41 := li0
        exact zs_iret (pc := 18) t195_18 mr195 (by decide) (hQ _ _ hs hI (zFr.refl) (by omega) (by omega) x2 x3)
theorem P104 {X : zX} {l : Launch} {M : zM} {Q : Option Value → zM → Prop} {a b : Int32} (hs : zSk zMc M) (hI : zIv cLo cHi M) {F : Nat → Int} (u0 : (zI M 166 10).toInt ≤ 1600000000) (u1 : 0 ≤ (zI M 166 10).toInt) (u2 : (zI M 242 10).toInt ≤ 1600000000) (u3 : 0 ≤ (zI M 242 10).toInt) (x0 : zSo M 7 F) (x1 : zWF F) (x2 : zKnA M F) (x3 : zSp M 166 174) (x4 : zSp M 242 250) (hQ : ∀ (M' : zM) (v : Int32), zSk zMc M' → zIv cLo cHi M' → zFr [(164, 165, none), (166, 178, none), (180, 180, none), (181, 240, none), (317, 324, none)] M M' → ((zI M' 166 10).toInt ≤ (zI M 166 10).toInt + 20000) → ((zI M 166 10).toInt ≤ (zI M' 166 10).toInt) → ((zI M' 242 10).toInt ≤ (zI M 242 10).toInt + 20000) → ((zI M 242 10).toInt ≤ (zI M' 242 10).toInt) → (zKnA M' F) → (zSp M' 166 174) → (zSp M' 242 250) → Q (some (.int v)) M') : zCall X l 6 0 0 104 [.ref 6, .int a, .int b] M Q := by
  have ga := zrg a
  have gb := zrg b
  refine zs_in (by decide) mf104 (Nat.le_of_ble_eq_true rfl) ?_
  show zGo X l 6 0 0 104 0 [(0, .ref 6), (1, .int a), (2, .int b)] [] M _
  have f0 := x0.1
  have w1 := ib7_0 hI
  have w2 : (zI M 7 0).toInt = (zI M 7 0).toInt := (congrArg Int32.toInt rfl).trans rfl
  have w3 := ib7_3 hI
  have w4 : (zI M 7 3).toInt = (zI M 7 3).toInt := (congrArg Int32.toInt rfl).trans rfl
  have w5 := ib7_8 hI
  have w6 : (zI M 7 8).toInt = (zI M 7 8).toInt := (congrArg Int32.toInt rfl).trans rfl
  have f1 := x1.1
  have f3 := x1.2.2.2
  have f2 := (show (zI M 7 0).toInt = F 0 ∧ (zI M 7 3).toInt = F 1 ∧ (zI M 7 8).toInt = F 2 from ⟨x0.1.1, x0.1.2.1, x0.1.2.2.1⟩)
  refine zs_aload_n (pc := 0) t104_0 rfl ?_
  refine zs_get (pc := 1) t104_1 (by decide) (zk1 (hs.k fk_zMc_6)) (hs.p rfl fv_zMc_6_0) ?_
  refine zs_iload_n (pc := 4) t104_4 rfl ?_
  refine zs_invV (pc := 5) (k := 7) (as' := [.int a]) (st := []) t104_5 mf91 rfl rfl (Or.inl ⟨by decide, (zk1 (hs.k fk_zMc_7))⟩) ⟨by decide, by decide, Nat.le_of_ble_eq_true rfl, Nat.le_of_ble_eq_true rfl⟩ (zs_in (by decide) mf91 (Nat.le_of_ble_eq_true rfl) ?_) (fun _ _ q => q)
  show zGo X l 0 0 0 91 0 [(0, .ref 7), (1, .int a)] [] M _
  refine zs_iload_n (pc := 0) t91_0 rfl ?_
  by_cases w7 : a.toInt < 0
  · refine zs_if_ltT (pc := 1) t91_1 rfl (by omega) ?_
    refine zs_iconst (pc := 16) t91_16 (v := 0) (by decide) ?_
    refine zs_iret (pc := 17) t91_17 mr91 (by decide) ?_
    show zGo X l 6 0 0 104 8 [(0, .ref 6), (1, .int a), (2, .int b)] [.int (0 : Int32)] M _
    refine zs_if_neF (pc := 8) t104_8 li0 (by decide) ?_
    refine zs_ldc (pc := 11) t104_11 (v := -100000) rfl (by decide) ?_
    have w8 := zrg (zI M 166 10)
    have w9 : (zI M 166 10).toInt = (zI M 166 10).toInt := (congrArg Int32.toInt rfl).trans rfl
    have w10 := zrg (zI M 242 10)
    have w11 : (zI M 242 10).toInt = (zI M 242 10).toInt := (congrArg Int32.toInt rfl).trans rfl
    have w12 := lin100000
    exact zs_iret (pc := 13) t104_13 mr104 (by decide) (hQ _ _ hs hI (zFr.refl) (by omega) (by omega) (by omega) (by omega) x2 x3 x4)
  · refine zs_if_ltF (pc := 1) t91_1 rfl (by omega) ?_
    refine zs_iload_n (pc := 4) t91_4 rfl ?_
    refine zs_aload_n (pc := 5) t91_5 rfl ?_
    refine zs_get (pc := 6) t91_6 (by decide) (zk1 (hs.k fk_zMc_7)) (zfvi rfl rfl) ?_
    by_cases w13 : (zI M 7 3).toInt ≤ a.toInt
    · refine zs_icmp_geT (pc := 9) t91_9 rfl rfl (by omega) ?_
      refine zs_iconst (pc := 16) t91_16 (v := 0) (by decide) ?_
      refine zs_iret (pc := 17) t91_17 mr91 (by decide) ?_
      show zGo X l 6 0 0 104 8 [(0, .ref 6), (1, .int a), (2, .int b)] [.int (0 : Int32)] M _
      refine zs_if_neF (pc := 8) t104_8 li0 (by decide) ?_
      refine zs_ldc (pc := 11) t104_11 (v := -100000) rfl (by decide) ?_
      have w14 := zrg (zI M 166 10)
      have w15 : (zI M 166 10).toInt = (zI M 166 10).toInt := (congrArg Int32.toInt rfl).trans rfl
      have w16 := zrg (zI M 242 10)
      have w17 : (zI M 242 10).toInt = (zI M 242 10).toInt := (congrArg Int32.toInt rfl).trans rfl
      have w18 := lin100000
      exact zs_iret (pc := 13) t104_13 mr104 (by decide) (hQ _ _ hs hI (zFr.refl) (by omega) (by omega) (by omega) (by omega) x2 x3 x4)
    · refine zs_icmp_geF (pc := 9) t91_9 rfl rfl (by omega) ?_
      refine zs_iconst (pc := 12) t91_12 (v := 1) (by decide) ?_
      refine zs_goto (pc := 13) t91_13 ?_
      refine zs_iret (pc := 17) t91_17 mr91 (by decide) ?_
      show zGo X l 6 0 0 104 8 [(0, .ref 6), (1, .int a), (2, .int b)] [.int (1 : Int32)] M _
      refine zs_if_neT (pc := 8) t104_8 li1 (by decide) ?_
      refine zs_iload_n (pc := 14) t104_14 rfl ?_
      by_cases w19 : b.toInt = 0
      · refine zs_tswI (pc := 15) t104_15 ((rfl : b.toInt = b.toInt).trans w19) (by decide) rfl (pc2 := 52) rfl ?_
        refine zs_aload_n (pc := 52) t104_52 rfl ?_
        refine zs_get (pc := 53) t104_53 (by decide) (zk1 (hs.k fk_zMc_6)) (hs.p rfl fv_zMc_6_0) ?_
        refine zs_get (pc := 56) t104_56 (by decide) (zk1 (hs.k fk_zMc_7)) (hs.p rfl fv_zMc_7_4) ?_
        refine zs_iload_n (pc := 59) t104_59 rfl ?_
        obtain ⟨w20n, w20⟩ : ∃ n : Nat, a.toInt = (n : Int) := ⟨(a.toInt).toNat, by omega⟩
        have w21 := ib10 hI w20n
        have w22 : (zI M 10 w20n).toInt = F (30 + 4 * w20n) ∧ (zI M 11 w20n).toInt = F (31 + 4 * w20n) ∧ (zI M 12 w20n).toInt = F (32 + 4 * w20n) ∧ (zI M 13 w20n).toInt = F (33 + 4 * w20n) := x0.2.2.1 w20n (by omega)
        have w23 := x1.2.2.1 w20n (by omega)
        refine zs_iald (pc := 60) t104_60 (j := w20n) (by decide) (zk1 (hs.k fk_zMc_10)) (show a.toInt = ((w20n : Nat) : Int) by omega) (zk2 (hs.k fk_zMc_10) (by omega)) rfl ?_
        have w24 := zrg (zI M 166 10)
        have w25 : (zI M 166 10).toInt = (zI M 166 10).toInt := (congrArg Int32.toInt rfl).trans rfl
        have w26 := zrg (zI M 242 10)
        have w27 : (zI M 242 10).toInt = (zI M 242 10).toInt := (congrArg Int32.toInt rfl).trans rfl
        exact zs_iret (pc := 61) t104_61 mr104 rfl (hQ _ _ hs hI (zFr.refl) (by omega) (by omega) (by omega) (by omega) x2 x3 x4)
      by_cases w28 : b.toInt = 1
      · refine zs_tswI (pc := 15) t104_15 ((rfl : b.toInt = b.toInt).trans w28) (by decide) rfl (pc2 := 62) rfl ?_
        refine zs_aload_n (pc := 62) t104_62 rfl ?_
        refine zs_get (pc := 63) t104_63 (by decide) (zk1 (hs.k fk_zMc_6)) (hs.p rfl fv_zMc_6_0) ?_
        refine zs_get (pc := 66) t104_66 (by decide) (zk1 (hs.k fk_zMc_7)) (hs.p rfl fv_zMc_7_5) ?_
        refine zs_iload_n (pc := 69) t104_69 rfl ?_
        obtain ⟨w29n, w29⟩ : ∃ n : Nat, a.toInt = (n : Int) := ⟨(a.toInt).toNat, by omega⟩
        have w30 := zrg (zI M 11 w29n)
        have w31 : (zI M 10 w29n).toInt = F (30 + 4 * w29n) ∧ (zI M 11 w29n).toInt = F (31 + 4 * w29n) ∧ (zI M 12 w29n).toInt = F (32 + 4 * w29n) ∧ (zI M 13 w29n).toInt = F (33 + 4 * w29n) := x0.2.2.1 w29n (by omega)
        have w32 := x1.2.2.1 w29n (by omega)
        refine zs_iald (pc := 70) t104_70 (j := w29n) (by decide) (zk1 (hs.k fk_zMc_11)) (show a.toInt = ((w29n : Nat) : Int) by omega) (zk2 (hs.k fk_zMc_11) (by omega)) rfl ?_
        have w33 := zrg (zI M 166 10)
        have w34 : (zI M 166 10).toInt = (zI M 166 10).toInt := (congrArg Int32.toInt rfl).trans rfl
        have w35 := zrg (zI M 242 10)
        have w36 : (zI M 242 10).toInt = (zI M 242 10).toInt := (congrArg Int32.toInt rfl).trans rfl
        exact zs_iret (pc := 71) t104_71 mr104 rfl (hQ _ _ hs hI (zFr.refl) (by omega) (by omega) (by omega) (by omega) x2 x3 x4)
      by_cases w37 : b.toInt = 2
      · refine zs_tswI (pc := 15) t104_15 ((rfl : b.toInt = b.toInt).trans w37) (by decide) rfl (pc2 := 72) rfl ?_
        refine zs_aload_n (pc := 72) t104_72 rfl ?_
        refine zs_get (pc := 73) t104_73 (by decide) (zk1 (hs.k fk_zMc_6)) (hs.p rfl fv_zMc_6_0) ?_
        refine zs_get (pc := 76) t104_76 (by decide) (zk1 (hs.k fk_zMc_7)) (hs.p rfl fv_zMc_7_6) ?_
        refine zs_iload_n (pc := 79) t104_79 rfl ?_
        obtain ⟨w38n, w38⟩ : ∃ n : Nat, a.toInt = (n : Int) := ⟨(a.toInt).toNat, by omega⟩
        have w39 := zrg (zI M 12 w38n)
        have w40 : (zI M 10 w38n).toInt = F (30 + 4 * w38n) ∧ (zI M 11 w38n).toInt = F (31 + 4 * w38n) ∧ (zI M 12 w38n).toInt = F (32 + 4 * w38n) ∧ (zI M 13 w38n).toInt = F (33 + 4 * w38n) := x0.2.2.1 w38n (by omega)
        have w41 := x1.2.2.1 w38n (by omega)
        refine zs_iald (pc := 80) t104_80 (j := w38n) (by decide) (zk1 (hs.k fk_zMc_12)) (show a.toInt = ((w38n : Nat) : Int) by omega) (zk2 (hs.k fk_zMc_12) (by omega)) rfl ?_
        have w42 := zrg (zI M 166 10)
        have w43 : (zI M 166 10).toInt = (zI M 166 10).toInt := (congrArg Int32.toInt rfl).trans rfl
        have w44 := zrg (zI M 242 10)
        have w45 : (zI M 242 10).toInt = (zI M 242 10).toInt := (congrArg Int32.toInt rfl).trans rfl
        exact zs_iret (pc := 81) t104_81 mr104 rfl (hQ _ _ hs hI (zFr.refl) (by omega) (by omega) (by omega) (by omega) x2 x3 x4)
      by_cases w46 : b.toInt = 3
      · refine zs_tswI (pc := 15) t104_15 ((rfl : b.toInt = b.toInt).trans w46) (by decide) rfl (pc2 := 82) rfl ?_
        refine zs_aload_n (pc := 82) t104_82 rfl ?_
        refine zs_get (pc := 83) t104_83 (by decide) (zk1 (hs.k fk_zMc_6)) (hs.p rfl fv_zMc_6_0) ?_
        refine zs_get (pc := 86) t104_86 (by decide) (zk1 (hs.k fk_zMc_7)) (hs.p rfl fv_zMc_7_7) ?_
        refine zs_iload_n (pc := 89) t104_89 rfl ?_
        obtain ⟨w47n, w47⟩ : ∃ n : Nat, a.toInt = (n : Int) := ⟨(a.toInt).toNat, by omega⟩
        have w48 := zrg (zI M 13 w47n)
        have w49 : (zI M 10 w47n).toInt = F (30 + 4 * w47n) ∧ (zI M 11 w47n).toInt = F (31 + 4 * w47n) ∧ (zI M 12 w47n).toInt = F (32 + 4 * w47n) ∧ (zI M 13 w47n).toInt = F (33 + 4 * w47n) := x0.2.2.1 w47n (by omega)
        have w50 := x1.2.2.1 w47n (by omega)
        refine zs_iald (pc := 90) t104_90 (j := w47n) (by decide) (zk1 (hs.k fk_zMc_13)) (show a.toInt = ((w47n : Nat) : Int) by omega) (zk2 (hs.k fk_zMc_13) (by omega)) rfl ?_
        have w51 := zrg (zI M 166 10)
        have w52 : (zI M 166 10).toInt = (zI M 166 10).toInt := (congrArg Int32.toInt rfl).trans rfl
        have w53 := zrg (zI M 242 10)
        have w54 : (zI M 242 10).toInt = (zI M 242 10).toInt := (congrArg Int32.toInt rfl).trans rfl
        exact zs_iret (pc := 91) t104_91 mr104 rfl (hQ _ _ hs hI (zFr.refl) (by omega) (by omega) (by omega) (by omega) x2 x3 x4)
      by_cases w55 : b.toInt = 4
      · refine zs_tswI (pc := 15) t104_15 ((rfl : b.toInt = b.toInt).trans w55) (by decide) rfl (pc2 := 92) rfl ?_
        refine zs_aload_n (pc := 92) t104_92 rfl ?_
        refine zs_get (pc := 93) t104_93 (by decide) (zk1 (hs.k fk_zMc_6)) (hs.p rfl fv_zMc_6_0) ?_
        refine zs_iload_n (pc := 96) t104_96 rfl ?_
        refine zs_invV (pc := 97) (k := 7) (as' := [.int a]) (st := []) t104_97 mf93 rfl rfl (Or.inl ⟨by decide, (zk1 (hs.k fk_zMc_7))⟩) ⟨by decide, by decide, Nat.le_of_ble_eq_true rfl, Nat.le_of_ble_eq_true rfl⟩ (X93_7 hs hI x0 x1 ?_) (fun _ _ q => q)
        intro w56v w56x0 w56a w56b
        show zGo X l 6 0 0 104 100 [(0, .ref 6), (1, .int a), (2, .int b)] [.int w56v] M _
        by_cases w57 : w56v.toInt = 0
        · refine zs_if_eqT (pc := 100) t104_100 rfl (by omega) ?_
          refine zs_iconst (pc := 107) t104_107 (v := 0) (by decide) ?_
          have w58 := zrg (zI M 166 10)
          have w59 : (zI M 166 10).toInt = (zI M 166 10).toInt := (congrArg Int32.toInt rfl).trans rfl
          have w60 := zrg (zI M 242 10)
          have w61 : (zI M 242 10).toInt = (zI M 242 10).toInt := (congrArg Int32.toInt rfl).trans rfl
          have w62 := li0
          exact zs_iret (pc := 108) t104_108 mr104 (by decide) (hQ _ _ hs hI (zFr.refl) (by omega) (by omega) (by omega) (by omega) x2 x3 x4)
        · refine zs_if_eqF (pc := 100) t104_100 rfl (by omega) ?_
          refine zs_iconst (pc := 103) t104_103 (v := 1) (by decide) ?_
          refine zs_goto (pc := 104) t104_104 ?_
          have w63 := zrg (zI M 166 10)
          have w64 : (zI M 166 10).toInt = (zI M 166 10).toInt := (congrArg Int32.toInt rfl).trans rfl
          have w65 := zrg (zI M 242 10)
          have w66 : (zI M 242 10).toInt = (zI M 242 10).toInt := (congrArg Int32.toInt rfl).trans rfl
          have w67 := li1
          exact zs_iret (pc := 108) t104_108 mr104 (by decide) (hQ _ _ hs hI (zFr.refl) (by omega) (by omega) (by omega) (by omega) x2 x3 x4)
      by_cases w68 : b.toInt = 5
      · refine zs_tswI (pc := 15) t104_15 ((rfl : b.toInt = b.toInt).trans w68) (by decide) rfl (pc2 := 109) rfl ?_
        refine zs_aload_n (pc := 109) t104_109 rfl ?_
        refine zs_get (pc := 110) t104_110 (by decide) (zk1 (hs.k fk_zMc_6)) (hs.p rfl fv_zMc_6_6) ?_
        refine zs_aload_n (pc := 113) t104_113 rfl ?_
        refine zs_get (pc := 114) t104_114 (by decide) (zk1 (hs.k fk_zMc_6)) (hs.p rfl fv_zMc_6_0) ?_
        have w69 := zrg (zI M 166 10)
        have w70 : (zI M 166 10).toInt = (zI M 166 10).toInt := (congrArg Int32.toInt rfl).trans rfl
        have w71 : (zI M 166 10).toInt = (zI M 166 10).toInt := (congrArg Int32.toInt rfl).trans rfl
        refine zs_invV (pc := 117) (k := 164) (as' := [.ref 7]) (st := []) t104_117 mf105 rfl rfl (Or.inl ⟨by decide, (zk1 (hs.k fk_zMc_164))⟩) ⟨by decide, by decide, Nat.le_of_ble_eq_true rfl, Nat.le_of_ble_eq_true rfl⟩ (V105 hs hI (by omega) (by omega) x0 x1 x2 x3 ?_) (fun _ _ q => q)
        intro w72M w72s w72I w72F w72t0 w72t1 w72x0 w72x1 w72x2
        have w73 := zrg (zI w72M 166 10)
        show zGo X l 6 0 0 104 120 [(0, .ref 6), (1, .int a), (2, .int b)] [.ref 164] w72M _
        refine zs_iload_n (pc := 120) t104_120 rfl ?_
        refine zs_invV (pc := 121) (k := 164) (as' := [.int a]) (st := []) t104_121 mf142 rfl rfl (Or.inl ⟨by decide, (zk1 (w72s.k fk_zMc_164))⟩) ⟨by decide, by decide, Nat.le_of_ble_eq_true rfl, Nat.le_of_ble_eq_true rfl⟩ (zs_in (by decide) mf142 (Nat.le_of_ble_eq_true rfl) ?_) (fun _ _ q => q)
        show zGo X l 0 0 0 142 0 [(0, .ref 164), (1, .int a)] [] w72M _
        refine zs_iload_n (pc := 0) t142_0 rfl ?_
        refine zs_if_ltF (pc := 1) t142_1 rfl (by omega) ?_
        refine zs_iload_n (pc := 4) t142_4 rfl ?_
        refine zs_bipush (pc := 5) t142_5 (v := 60) (by decide) ?_
        refine zs_icmp_geF (pc := 7) t142_7 rfl li60 (by omega) ?_
        refine zs_aload_n (pc := 10) t142_10 rfl ?_
        refine zs_get (pc := 11) t142_11 (by decide) (zk1 (w72s.k fk_zMc_164)) (w72s.p rfl fv_zMc_164_6) ?_
        refine zs_iload_n (pc := 14) t142_14 rfl ?_
        obtain ⟨w74n, w74⟩ : ∃ n : Nat, a.toInt = (n : Int) := ⟨(a.toInt).toNat, by omega⟩
        have w75 := zrg (zI w72M 317 w74n)
        refine zs_iald (pc := 15) t142_15 (j := w74n) (by decide) (zk1 (w72s.k fk_zMc_317)) (show a.toInt = ((w74n : Nat) : Int) by omega) (zk2 (w72s.k fk_zMc_317) (by omega)) rfl ?_
        refine zs_goto (pc := 16) t142_16 ?_
        refine zs_iret (pc := 21) t142_21 mr142 rfl ?_
        show zGo X l 6 0 0 104 124 [(0, .ref 6), (1, .int a), (2, .int b)] [.int (zI w72M 317 w74n)] w72M _
        have w76 : (zI w72M 166 10).toInt = (zI w72M 166 10).toInt := (congrArg Int32.toInt rfl).trans rfl
        have w77 := zrg (zI M 242 10)
        have w78 : (zI w72M 242 10).toInt = (zI M 242 10).toInt := (congrArg Int32.toInt ((w72F 242 10 rfl).trans rfl)).trans rfl
        exact zs_iret (pc := 124) t104_124 mr104 rfl (hQ _ _ w72s w72I ((zFr.refl).trans (w72F.mono rfl)) (by omega) (by omega) (by omega) (by omega) (fun _ => w72x0) w72x1 (zSp.fr x4 (fun j => (w72F 250 j rfl)) (w72F 242 10 rfl)))
      refine zs_tswD (pc := 15) t104_15 rfl (by omega) (pc2 := 125) rfl ?_
      refine zs_ldc (pc := 125) t104_125 (v := -100000) rfl (by decide) ?_
      have w79 := zrg (zI M 166 10)
      have w80 : (zI M 166 10).toInt = (zI M 166 10).toInt := (congrArg Int32.toInt rfl).trans rfl
      have w81 := zrg (zI M 242 10)
      have w82 : (zI M 242 10).toInt = (zI M 242 10).toInt := (congrArg Int32.toInt rfl).trans rfl
      have w83 := lin100000
      exact zs_iret (pc := 127) t104_127 mr104 (by decide) (hQ _ _ hs hI (zFr.refl) (by omega) (by omega) (by omega) (by omega) x2 x3 x4)
theorem P143 {X : zX} {l : Launch} {M : zM} {Q : Option Value → zM → Prop} {a b : Int32} (hs : zSk zMc M) (hI : zIv cLo cHi M) {F : Nat → Int} (u0 : (zI M 166 10).toInt ≤ 1600000000) (u1 : 0 ≤ (zI M 166 10).toInt) (u2 : (zI M 242 10).toInt ≤ 1600000000) (u3 : 0 ≤ (zI M 242 10).toInt) (x0 : zSo M 7 F) (x1 : zWF F) (x2 : zKnA M F) (x3 : zSp M 166 174) (x4 : zSp M 242 250) (hQ : ∀ (M' : zM) (v : Int32), zSk zMc M' → zIv cLo cHi M' → zFr [(164, 165, none), (166, 178, none), (180, 180, none), (181, 240, none), (317, 324, none)] M M' → ((zI M' 166 10).toInt ≤ (zI M 166 10).toInt + 20000) → ((zI M 166 10).toInt ≤ (zI M' 166 10).toInt) → ((zI M' 242 10).toInt ≤ (zI M 242 10).toInt + 20000) → ((zI M 242 10).toInt ≤ (zI M' 242 10).toInt) → (zKnA M' F) → (zSp M' 166 174) → (zSp M' 242 250) → Q (some (.int v)) M') : zCall X l 6 0 0 143 [.ref 6, .int a, .int b] M Q := by
  have ga := zrg a
  have gb := zrg b
  refine zs_in (by decide) mf143 (Nat.le_of_ble_eq_true rfl) ?_
  show zGo X l 6 0 0 143 0 [(0, .ref 6), (1, .int a), (2, .int b)] [] M _
  have f0 := x0.1
  have w1 := ib7_0 hI
  have w2 : (zI M 7 0).toInt = (zI M 7 0).toInt := (congrArg Int32.toInt rfl).trans rfl
  have w3 := ib7_3 hI
  have w4 : (zI M 7 3).toInt = (zI M 7 3).toInt := (congrArg Int32.toInt rfl).trans rfl
  have w5 := ib7_8 hI
  have w6 : (zI M 7 8).toInt = (zI M 7 8).toInt := (congrArg Int32.toInt rfl).trans rfl
  have f1 := x1.1
  have f3 := x1.2.2.2
  have f2 := (show (zI M 7 0).toInt = F 0 ∧ (zI M 7 3).toInt = F 1 ∧ (zI M 7 8).toInt = F 2 from ⟨x0.1.1, x0.1.2.1, x0.1.2.2.1⟩)
  refine zs_aload_n (pc := 0) t143_0 rfl ?_
  refine zs_get (pc := 1) t143_1 (by decide) (zk1 (hs.k fk_zMc_6)) (hs.p rfl fv_zMc_6_0) ?_
  refine zs_iload_n (pc := 4) t143_4 rfl ?_
  refine zs_invV (pc := 5) (k := 7) (as' := [.int a]) (st := []) t143_5 mf130 rfl rfl (Or.inl ⟨by decide, (zk1 (hs.k fk_zMc_7))⟩) ⟨by decide, by decide, Nat.le_of_ble_eq_true rfl, Nat.le_of_ble_eq_true rfl⟩ (zs_in (by decide) mf130 (Nat.le_of_ble_eq_true rfl) ?_) (fun _ _ q => q)
  show zGo X l 0 0 0 130 0 [(0, .ref 7), (1, .int a)] [] M _
  refine zs_iload_n (pc := 0) t130_0 rfl ?_
  by_cases w7 : a.toInt < 0
  · refine zs_if_ltT (pc := 1) t130_1 rfl (by omega) ?_
    refine zs_iconst (pc := 16) t130_16 (v := 0) (by decide) ?_
    refine zs_iret (pc := 17) t130_17 mr130 (by decide) ?_
    show zGo X l 6 0 0 143 8 [(0, .ref 6), (1, .int a), (2, .int b)] [.int (0 : Int32)] M _
    refine zs_if_neF (pc := 8) t143_8 li0 (by decide) ?_
    refine zs_ldc (pc := 11) t143_11 (v := -100000) rfl (by decide) ?_
    have w8 := zrg (zI M 166 10)
    have w9 : (zI M 166 10).toInt = (zI M 166 10).toInt := (congrArg Int32.toInt rfl).trans rfl
    have w10 := zrg (zI M 242 10)
    have w11 : (zI M 242 10).toInt = (zI M 242 10).toInt := (congrArg Int32.toInt rfl).trans rfl
    have w12 := lin100000
    exact zs_iret (pc := 13) t143_13 mr143 (by decide) (hQ _ _ hs hI (zFr.refl) (by omega) (by omega) (by omega) (by omega) x2 x3 x4)
  · refine zs_if_ltF (pc := 1) t130_1 rfl (by omega) ?_
    refine zs_iload_n (pc := 4) t130_4 rfl ?_
    refine zs_aload_n (pc := 5) t130_5 rfl ?_
    refine zs_get (pc := 6) t130_6 (by decide) (zk1 (hs.k fk_zMc_7)) (zfvi rfl rfl) ?_
    by_cases w13 : (zI M 7 8).toInt ≤ a.toInt
    · refine zs_icmp_geT (pc := 9) t130_9 rfl rfl (by omega) ?_
      refine zs_iconst (pc := 16) t130_16 (v := 0) (by decide) ?_
      refine zs_iret (pc := 17) t130_17 mr130 (by decide) ?_
      show zGo X l 6 0 0 143 8 [(0, .ref 6), (1, .int a), (2, .int b)] [.int (0 : Int32)] M _
      refine zs_if_neF (pc := 8) t143_8 li0 (by decide) ?_
      refine zs_ldc (pc := 11) t143_11 (v := -100000) rfl (by decide) ?_
      have w14 := zrg (zI M 166 10)
      have w15 : (zI M 166 10).toInt = (zI M 166 10).toInt := (congrArg Int32.toInt rfl).trans rfl
      have w16 := zrg (zI M 242 10)
      have w17 : (zI M 242 10).toInt = (zI M 242 10).toInt := (congrArg Int32.toInt rfl).trans rfl
      have w18 := lin100000
      exact zs_iret (pc := 13) t143_13 mr143 (by decide) (hQ _ _ hs hI (zFr.refl) (by omega) (by omega) (by omega) (by omega) x2 x3 x4)
    · refine zs_icmp_geF (pc := 9) t130_9 rfl rfl (by omega) ?_
      refine zs_iconst (pc := 12) t130_12 (v := 1) (by decide) ?_
      refine zs_goto (pc := 13) t130_13 ?_
      refine zs_iret (pc := 17) t130_17 mr130 (by decide) ?_
      show zGo X l 6 0 0 143 8 [(0, .ref 6), (1, .int a), (2, .int b)] [.int (1 : Int32)] M _
      refine zs_if_neT (pc := 8) t143_8 li1 (by decide) ?_
      refine zs_iload_n (pc := 14) t143_14 rfl ?_
      by_cases w19 : b.toInt = 0
      · refine zs_tswI (pc := 15) t143_15 ((rfl : b.toInt = b.toInt).trans w19) (by decide) rfl (pc2 := 48) rfl ?_
        refine zs_aload_n (pc := 48) t143_48 rfl ?_
        refine zs_get (pc := 49) t143_49 (by decide) (zk1 (hs.k fk_zMc_6)) (hs.p rfl fv_zMc_6_0) ?_
        refine zs_get (pc := 52) t143_52 (by decide) (zk1 (hs.k fk_zMc_7)) (hs.p rfl fv_zMc_7_9) ?_
        refine zs_iload_n (pc := 55) t143_55 rfl ?_
        obtain ⟨w20n, w20⟩ : ∃ n : Nat, a.toInt = (n : Int) := ⟨(a.toInt).toNat, by omega⟩
        have w21 := zrg (zI M 14 w20n)
        have w22 : (zI M 14 w20n).toInt = F (270 + 3 * w20n) ∧ (zI M 15 w20n).toInt = F (271 + 3 * w20n) ∧ (zI M 16 w20n).toInt = F (272 + 3 * w20n) := x0.2.2.2.1 w20n (by omega)
        refine zs_iald (pc := 56) t143_56 (j := w20n) (by decide) (zk1 (hs.k fk_zMc_14)) (show a.toInt = ((w20n : Nat) : Int) by omega) (zk2 (hs.k fk_zMc_14) (by omega)) rfl ?_
        have w23 := zrg (zI M 166 10)
        have w24 : (zI M 166 10).toInt = (zI M 166 10).toInt := (congrArg Int32.toInt rfl).trans rfl
        have w25 := zrg (zI M 242 10)
        have w26 : (zI M 242 10).toInt = (zI M 242 10).toInt := (congrArg Int32.toInt rfl).trans rfl
        exact zs_iret (pc := 57) t143_57 mr143 rfl (hQ _ _ hs hI (zFr.refl) (by omega) (by omega) (by omega) (by omega) x2 x3 x4)
      by_cases w27 : b.toInt = 1
      · refine zs_tswI (pc := 15) t143_15 ((rfl : b.toInt = b.toInt).trans w27) (by decide) rfl (pc2 := 58) rfl ?_
        refine zs_aload_n (pc := 58) t143_58 rfl ?_
        refine zs_get (pc := 59) t143_59 (by decide) (zk1 (hs.k fk_zMc_6)) (hs.p rfl fv_zMc_6_0) ?_
        refine zs_get (pc := 62) t143_62 (by decide) (zk1 (hs.k fk_zMc_7)) (hs.p rfl fv_zMc_7_10) ?_
        refine zs_iload_n (pc := 65) t143_65 rfl ?_
        obtain ⟨w28n, w28⟩ : ∃ n : Nat, a.toInt = (n : Int) := ⟨(a.toInt).toNat, by omega⟩
        have w29 := zrg (zI M 15 w28n)
        have w30 : (zI M 14 w28n).toInt = F (270 + 3 * w28n) ∧ (zI M 15 w28n).toInt = F (271 + 3 * w28n) ∧ (zI M 16 w28n).toInt = F (272 + 3 * w28n) := x0.2.2.2.1 w28n (by omega)
        refine zs_iald (pc := 66) t143_66 (j := w28n) (by decide) (zk1 (hs.k fk_zMc_15)) (show a.toInt = ((w28n : Nat) : Int) by omega) (zk2 (hs.k fk_zMc_15) (by omega)) rfl ?_
        have w31 := zrg (zI M 166 10)
        have w32 : (zI M 166 10).toInt = (zI M 166 10).toInt := (congrArg Int32.toInt rfl).trans rfl
        have w33 := zrg (zI M 242 10)
        have w34 : (zI M 242 10).toInt = (zI M 242 10).toInt := (congrArg Int32.toInt rfl).trans rfl
        exact zs_iret (pc := 67) t143_67 mr143 rfl (hQ _ _ hs hI (zFr.refl) (by omega) (by omega) (by omega) (by omega) x2 x3 x4)
      by_cases w35 : b.toInt = 2
      · refine zs_tswI (pc := 15) t143_15 ((rfl : b.toInt = b.toInt).trans w35) (by decide) rfl (pc2 := 68) rfl ?_
        refine zs_aload_n (pc := 68) t143_68 rfl ?_
        refine zs_get (pc := 69) t143_69 (by decide) (zk1 (hs.k fk_zMc_6)) (hs.p rfl fv_zMc_6_0) ?_
        refine zs_get (pc := 72) t143_72 (by decide) (zk1 (hs.k fk_zMc_7)) (hs.p rfl fv_zMc_7_11) ?_
        refine zs_iload_n (pc := 75) t143_75 rfl ?_
        obtain ⟨w36n, w36⟩ : ∃ n : Nat, a.toInt = (n : Int) := ⟨(a.toInt).toNat, by omega⟩
        have w37 := zrg (zI M 16 w36n)
        have w38 : (zI M 14 w36n).toInt = F (270 + 3 * w36n) ∧ (zI M 15 w36n).toInt = F (271 + 3 * w36n) ∧ (zI M 16 w36n).toInt = F (272 + 3 * w36n) := x0.2.2.2.1 w36n (by omega)
        refine zs_iald (pc := 76) t143_76 (j := w36n) (by decide) (zk1 (hs.k fk_zMc_16)) (show a.toInt = ((w36n : Nat) : Int) by omega) (zk2 (hs.k fk_zMc_16) (by omega)) rfl ?_
        have w39 := zrg (zI M 166 10)
        have w40 : (zI M 166 10).toInt = (zI M 166 10).toInt := (congrArg Int32.toInt rfl).trans rfl
        have w41 := zrg (zI M 242 10)
        have w42 : (zI M 242 10).toInt = (zI M 242 10).toInt := (congrArg Int32.toInt rfl).trans rfl
        exact zs_iret (pc := 77) t143_77 mr143 rfl (hQ _ _ hs hI (zFr.refl) (by omega) (by omega) (by omega) (by omega) x2 x3 x4)
      by_cases w43 : b.toInt = 3
      · refine zs_tswI (pc := 15) t143_15 ((rfl : b.toInt = b.toInt).trans w43) (by decide) rfl (pc2 := 78) rfl ?_
        refine zs_aload_n (pc := 78) t143_78 rfl ?_
        refine zs_get (pc := 79) t143_79 (by decide) (zk1 (hs.k fk_zMc_6)) (hs.p rfl fv_zMc_6_0) ?_
        refine zs_iload_n (pc := 82) t143_82 rfl ?_
        refine zs_invV (pc := 83) (k := 7) (as' := [.int a]) (st := []) t143_83 mf128 rfl rfl (Or.inl ⟨by decide, (zk1 (hs.k fk_zMc_7))⟩) ⟨by decide, by decide, Nat.le_of_ble_eq_true rfl, Nat.le_of_ble_eq_true rfl⟩ (X128_7 hs hI x0 x1 ?_) (fun _ _ q => q)
        intro w44v w44x0 w44a w44b
        show zGo X l 6 0 0 143 86 [(0, .ref 6), (1, .int a), (2, .int b)] [.int w44v] M _
        have w45 := zrg (zI M 166 10)
        have w46 : (zI M 166 10).toInt = (zI M 166 10).toInt := (congrArg Int32.toInt rfl).trans rfl
        have w47 := zrg (zI M 242 10)
        have w48 : (zI M 242 10).toInt = (zI M 242 10).toInt := (congrArg Int32.toInt rfl).trans rfl
        exact zs_iret (pc := 86) t143_86 mr143 rfl (hQ _ _ hs hI (zFr.refl) (by omega) (by omega) (by omega) (by omega) x2 x3 x4)
      by_cases w49 : b.toInt = 4
      · refine zs_tswI (pc := 15) t143_15 ((rfl : b.toInt = b.toInt).trans w49) (by decide) rfl (pc2 := 87) rfl ?_
        refine zs_aload_n (pc := 87) t143_87 rfl ?_
        refine zs_get (pc := 88) t143_88 (by decide) (zk1 (hs.k fk_zMc_6)) (hs.p rfl fv_zMc_6_6) ?_
        refine zs_aload_n (pc := 91) t143_91 rfl ?_
        refine zs_get (pc := 92) t143_92 (by decide) (zk1 (hs.k fk_zMc_6)) (hs.p rfl fv_zMc_6_0) ?_
        have w50 := zrg (zI M 166 10)
        have w51 : (zI M 166 10).toInt = (zI M 166 10).toInt := (congrArg Int32.toInt rfl).trans rfl
        have w52 : (zI M 166 10).toInt = (zI M 166 10).toInt := (congrArg Int32.toInt rfl).trans rfl
        refine zs_invV (pc := 95) (k := 164) (as' := [.ref 7]) (st := []) t143_95 mf105 rfl rfl (Or.inl ⟨by decide, (zk1 (hs.k fk_zMc_164))⟩) ⟨by decide, by decide, Nat.le_of_ble_eq_true rfl, Nat.le_of_ble_eq_true rfl⟩ (V105 hs hI (by omega) (by omega) x0 x1 x2 x3 ?_) (fun _ _ q => q)
        intro w53M w53s w53I w53F w53t0 w53t1 w53x0 w53x1 w53x2
        have w54 := zrg (zI w53M 166 10)
        show zGo X l 6 0 0 143 98 [(0, .ref 6), (1, .int a), (2, .int b)] [.ref 164] w53M _
        refine zs_iload_n (pc := 98) t143_98 rfl ?_
        refine zs_aload_n (pc := 99) t143_99 rfl ?_
        refine zs_get (pc := 100) t143_100 (by decide) (zk1 (w53s.k fk_zMc_6)) (w53s.p rfl fv_zMc_6_6) ?_
        refine zs_invV (pc := 103) (k := 164) (as' := []) (st := [.int a, .ref 164]) t143_103 mf144 rfl rfl (Or.inl ⟨by decide, (zk1 (w53s.k fk_zMc_164))⟩) ⟨by decide, by decide, Nat.le_of_ble_eq_true rfl, Nat.le_of_ble_eq_true rfl⟩ (zs_in (by decide) mf144 (Nat.le_of_ble_eq_true rfl) ?_) (fun _ _ q => q)
        show zGo X l 0 0 0 144 0 [(0, .ref 164)] [] w53M _
        refine zs_aload_n (pc := 0) t144_0 rfl ?_
        have w55 := ib164_4 w53I
        refine zs_get (pc := 1) t144_1 (by decide) (zk1 (w53s.k fk_zMc_164)) (zfvi rfl rfl) ?_
        refine zs_iret (pc := 4) t144_4 mr144 rfl ?_
        show zGo X l 6 0 0 143 106 [(0, .ref 6), (1, .int a), (2, .int b)] [.int (zI w53M 164 4), .int a, .ref 164] w53M _
        refine zs_invV (pc := 106) (k := 164) (as' := [.int a, .int (zI w53M 164 4)]) (st := []) t143_106 mf145 rfl rfl (Or.inl ⟨by decide, (zk1 (w53s.k fk_zMc_164))⟩) ⟨by decide, by decide, Nat.le_of_ble_eq_true rfl, Nat.le_of_ble_eq_true rfl⟩ (C145_164 w53s w53I ⟨by omega, by omega⟩ ?_) (fun _ _ q => q)
        intro w56v w56a w56b
        show zGo X l 6 0 0 143 109 [(0, .ref 6), (1, .int a), (2, .int b)] [.int w56v] w53M _
        have w57 : (zI w53M 166 10).toInt = (zI w53M 166 10).toInt := (congrArg Int32.toInt rfl).trans rfl
        have w58 := zrg (zI M 242 10)
        have w59 : (zI w53M 242 10).toInt = (zI M 242 10).toInt := (congrArg Int32.toInt ((w53F 242 10 rfl).trans rfl)).trans rfl
        exact zs_iret (pc := 109) t143_109 mr143 rfl (hQ _ _ w53s w53I ((zFr.refl).trans (w53F.mono rfl)) (by omega) (by omega) (by omega) (by omega) (fun _ => w53x0) w53x1 (zSp.fr x4 (fun j => (w53F 250 j rfl)) (w53F 242 10 rfl)))
      refine zs_tswD (pc := 15) t143_15 rfl (by omega) (pc2 := 110) rfl ?_
      refine zs_ldc (pc := 110) t143_110 (v := -100000) rfl (by decide) ?_
      have w60 := zrg (zI M 166 10)
      have w61 : (zI M 166 10).toInt = (zI M 166 10).toInt := (congrArg Int32.toInt rfl).trans rfl
      have w62 := zrg (zI M 242 10)
      have w63 : (zI M 242 10).toInt = (zI M 242 10).toInt := (congrArg Int32.toInt rfl).trans rfl
      have w64 := lin100000
      exact zs_iret (pc := 112) t143_112 mr143 (by decide) (hQ _ _ hs hI (zFr.refl) (by omega) (by omega) (by omega) (by omega) x2 x3 x4)
set_option maxHeartbeats 8000000 in
theorem P151 {X : zX} {l : Launch} {M : zM} {Q : Option Value → zM → Prop} {a : Int32} (hs : zSk zMc M) (hI : zIv cLo cHi M) {F : Nat → Int} (u0 : (zI M 166 10).toInt ≤ 1600000000) (u1 : 0 ≤ (zI M 166 10).toInt) (u2 : (zI M 242 10).toInt ≤ 1600000000) (u3 : 0 ≤ (zI M 242 10).toInt) (x0 : zSo M 7 F) (x1 : zWF F) (x2 : zKnA M F) (x3 : zSp M 166 174) (x4 : zSp M 242 250) (hQ : ∀ (M' : zM) (v : Int32), zSk zMc M' → zIv cLo cHi M' → zFr [(164, 165, none), (166, 178, none), (180, 180, none), (181, 240, none), (317, 324, none), (325, 325, some 1), (326, 331, none), (166, 166, some 0), (166, 166, some 5), (166, 166, some 6), (166, 166, some 10), (166, 166, some 15), (166, 166, some 17), (166, 166, some 18), (167, 178, none), (325, 325, some 0)] M M' → ((zI M' 166 10).toInt ≤ (zI M 166 10).toInt + 20000) → ((zI M 166 10).toInt ≤ (zI M' 166 10).toInt) → ((zI M' 242 10).toInt ≤ (zI M 242 10).toInt + 20000) → ((zI M 242 10).toInt ≤ (zI M' 242 10).toInt) → (zKnA M' F) → (zSp M' 166 174) → (zSp M' 242 250) → Q (some (.int v)) M') : zCall X l 6 0 0 151 [.ref 6, .int a] M Q := by
  have ga := zrg a
  refine zs_in (by decide) mf151 (Nat.le_of_ble_eq_true rfl) ?_
  show zGo X l 6 0 0 151 0 [(0, .ref 6), (1, .int a)] [] M _
  have f0 := x0.1
  have w1 := ib7_0 hI
  have w2 : (zI M 7 0).toInt = (zI M 7 0).toInt := (congrArg Int32.toInt rfl).trans rfl
  have w3 := ib7_3 hI
  have w4 : (zI M 7 3).toInt = (zI M 7 3).toInt := (congrArg Int32.toInt rfl).trans rfl
  have w5 := ib7_8 hI
  have w6 : (zI M 7 8).toInt = (zI M 7 8).toInt := (congrArg Int32.toInt rfl).trans rfl
  have f1 := x1.1
  have f3 := x1.2.2.2
  have f2 := (show (zI M 7 0).toInt = F 0 ∧ (zI M 7 3).toInt = F 1 ∧ (zI M 7 8).toInt = F 2 from ⟨x0.1.1, x0.1.2.1, x0.1.2.2.1⟩)
  refine zs_iload_n (pc := 0) t151_0 rfl ?_
  by_cases w7 : a.toInt = 103
  · refine zs_tswI (pc := 1) t151_1 ((rfl : a.toInt = a.toInt).trans w7) (by decide) rfl (pc2 := 118) rfl ?_
    refine zs_aload_n (pc := 118) t151_118 rfl ?_
    refine zs_get (pc := 119) t151_119 (by decide) (zk1 (hs.k fk_zMc_6)) (hs.p rfl fv_zMc_6_7) ?_
    refine zs_aload_n (pc := 122) t151_122 rfl ?_
    refine zs_get (pc := 123) t151_123 (by decide) (zk1 (hs.k fk_zMc_6)) (hs.p rfl fv_zMc_6_0) ?_
    refine zs_aload_n (pc := 126) t151_126 rfl ?_
    refine zs_get (pc := 127) t151_127 (by decide) (zk1 (hs.k fk_zMc_6)) (hs.p rfl fv_zMc_6_6) ?_
    refine zs_aload_n (pc := 130) t151_130 rfl ?_
    refine zs_get (pc := 131) t151_131 (by decide) (zk1 (hs.k fk_zMc_6)) (hs.p rfl fv_zMc_6_0) ?_
    have w8 := zrg (zI M 166 10)
    have w9 : (zI M 166 10).toInt = (zI M 166 10).toInt := (congrArg Int32.toInt rfl).trans rfl
    have w10 : (zI M 166 10).toInt = (zI M 166 10).toInt := (congrArg Int32.toInt rfl).trans rfl
    refine zs_invV (pc := 134) (k := 164) (as' := [.ref 7]) (st := [.ref 7, .ref 325]) t151_134 mf105 rfl rfl (Or.inl ⟨by decide, (zk1 (hs.k fk_zMc_164))⟩) ⟨by decide, by decide, Nat.le_of_ble_eq_true rfl, Nat.le_of_ble_eq_true rfl⟩ (V105 hs hI (by omega) (by omega) x0 x1 x2 x3 ?_) (fun _ _ q => q)
    intro w11M w11s w11I w11F w11t0 w11t1 w11x0 w11x1 w11x2
    have w12 := zrg (zI w11M 166 10)
    show zGo X l 6 0 0 151 137 [(0, .ref 6), (1, .int a)] [.ref 164, .ref 7, .ref 325] w11M _
    have w13 : (zI w11M 166 10).toInt = (zI w11M 166 10).toInt := (congrArg Int32.toInt rfl).trans rfl
    have w14 : (zI w11M 166 10).toInt = (zI w11M 166 10).toInt := (congrArg Int32.toInt rfl).trans rfl
    refine zs_invV (pc := 137) (k := 325) (as' := [.ref 7, .ref 164]) (st := []) t151_137 mf153 rfl rfl (Or.inl ⟨by decide, (zk1 (w11s.k fk_zMc_325))⟩) ⟨by decide, by decide, Nat.le_of_ble_eq_true rfl, Nat.le_of_ble_eq_true rfl⟩ (V153 w11s w11I (by omega) (by omega) (zSo.fr x0 (zFr.eq w11F rfl)) x1 w11x1 ?_) (fun _ _ q => q)
    intro w15M w15s w15I w15F w15t0 w15t1 w15x0
    have w16 := zrg (zI w15M 166 10)
    show zGo X l 6 0 0 151 140 [(0, .ref 6), (1, .int a)] [.ref 325] w15M _
    refine zs_invV (pc := 140) (k := 325) (as' := []) (st := []) t151_140 mf165 rfl rfl (Or.inl ⟨by decide, (zk1 (w15s.k fk_zMc_325))⟩) ⟨by decide, by decide, Nat.le_of_ble_eq_true rfl, Nat.le_of_ble_eq_true rfl⟩ (zs_in (by decide) mf165 (Nat.le_of_ble_eq_true rfl) ?_) (fun _ _ q => q)
    show zGo X l 0 0 0 165 0 [(0, .ref 325)] [] w15M _
    refine zs_aload_n (pc := 0) t165_0 rfl ?_
    have w17 := zrg (zI w15M 325 1)
    refine zs_get (pc := 1) t165_1 (by decide) (zk1 (w15s.k fk_zMc_325)) (zfvi rfl rfl) ?_
    refine zs_iret (pc := 4) t165_4 mr165 rfl ?_
    show zGo X l 6 0 0 151 143 [(0, .ref 6), (1, .int a)] [.int (zI w15M 325 1)] w15M _
    have w18 : (zI w15M 166 10).toInt = (zI w15M 166 10).toInt := (congrArg Int32.toInt rfl).trans rfl
    have w19 := zrg (zI M 242 10)
    have w20 : (zI w15M 242 10).toInt = (zI M 242 10).toInt := (congrArg Int32.toInt ((w15F 242 10 rfl).trans ((w11F 242 10 rfl).trans rfl))).trans rfl
    exact zs_iret (pc := 143) t151_143 mr151 rfl (hQ _ _ w15s w15I (((zFr.refl).trans (w11F.mono rfl)).trans (w15F.mono rfl)) (by omega) (by omega) (by omega) (by omega) (fun _ => (zPicA.fr w11x0 (fun j q => (w15F 164 j rfl)) (w15F 165 2 rfl) (zTf.eq (fun k j q1 q2 => (w15F k j (zoC (by omega) (zoC (by omega) (zoC (by omega) (zoC (by omega) (zoC (by omega) (zoC (by omega) (zoC (by omega) (zoC (by omega) (zoC (by omega) (zoC (by omega) (zoC (by omega) rfl)))))))))))))))) w15x0 (zSp.fr x4 (fun j => ((w15F 250 j rfl).trans (w11F 250 j rfl))) ((w15F 242 10 rfl).trans (w11F 242 10 rfl))))
  by_cases w21 : a.toInt = 104
  · refine zs_tswI (pc := 1) t151_1 ((rfl : a.toInt = a.toInt).trans w21) (by decide) rfl (pc2 := 95) rfl ?_
    refine zs_aload_n (pc := 95) t151_95 rfl ?_
    refine zs_get (pc := 96) t151_96 (by decide) (zk1 (hs.k fk_zMc_6)) (hs.p rfl fv_zMc_6_0) ?_
    refine zs_invV (pc := 99) (k := 7) (as' := []) (st := []) t151_99 mf92 rfl rfl (Or.inl ⟨by decide, (zk1 (hs.k fk_zMc_7))⟩) ⟨by decide, by decide, Nat.le_of_ble_eq_true rfl, Nat.le_of_ble_eq_true rfl⟩ (X92_7 hs hI x0 x1 ?_) (fun _ _ q => q)
    intro w22v w22x0 w22a w22b
    show zGo X l 6 0 0 151 102 [(0, .ref 6), (1, .int a)] [.int w22v] M _
    have w23 := zrg (zI M 166 10)
    have w24 : (zI M 166 10).toInt = (zI M 166 10).toInt := (congrArg Int32.toInt rfl).trans rfl
    have w25 := zrg (zI M 242 10)
    have w26 : (zI M 242 10).toInt = (zI M 242 10).toInt := (congrArg Int32.toInt rfl).trans rfl
    exact zs_iret (pc := 102) t151_102 mr151 rfl (hQ _ _ hs hI (zFr.refl) (by omega) (by omega) (by omega) (by omega) x2 x3 x4)
  by_cases w27 : a.toInt = 105
  · refine zs_tswI (pc := 1) t151_1 ((rfl : a.toInt = a.toInt).trans w27) (by decide) rfl (pc2 := 205) rfl ?_
    refine zs_iconst (pc := 205) t151_205 (v := -1) (by decide) ?_
    have w28 := zrg (zI M 166 10)
    have w29 : (zI M 166 10).toInt = (zI M 166 10).toInt := (congrArg Int32.toInt rfl).trans rfl
    have w30 := zrg (zI M 242 10)
    have w31 : (zI M 242 10).toInt = (zI M 242 10).toInt := (congrArg Int32.toInt rfl).trans rfl
    have w32 := lin1
    exact zs_iret (pc := 206) t151_206 mr151 (by decide) (hQ _ _ hs hI (zFr.refl) (by omega) (by omega) (by omega) (by omega) x2 x3 x4)
  by_cases w33 : a.toInt = 106
  · refine zs_tswI (pc := 1) t151_1 ((rfl : a.toInt = a.toInt).trans w33) (by decide) rfl (pc2 := 205) rfl ?_
    refine zs_iconst (pc := 205) t151_205 (v := -1) (by decide) ?_
    have w34 := zrg (zI M 166 10)
    have w35 : (zI M 166 10).toInt = (zI M 166 10).toInt := (congrArg Int32.toInt rfl).trans rfl
    have w36 := zrg (zI M 242 10)
    have w37 : (zI M 242 10).toInt = (zI M 242 10).toInt := (congrArg Int32.toInt rfl).trans rfl
    have w38 := lin1
    exact zs_iret (pc := 206) t151_206 mr151 (by decide) (hQ _ _ hs hI (zFr.refl) (by omega) (by omega) (by omega) (by omega) x2 x3 x4)
  by_cases w39 : a.toInt = 107
  · refine zs_tswI (pc := 1) t151_1 ((rfl : a.toInt = a.toInt).trans w39) (by decide) rfl (pc2 := 205) rfl ?_
    refine zs_iconst (pc := 205) t151_205 (v := -1) (by decide) ?_
    have w40 := zrg (zI M 166 10)
    have w41 : (zI M 166 10).toInt = (zI M 166 10).toInt := (congrArg Int32.toInt rfl).trans rfl
    have w42 := zrg (zI M 242 10)
    have w43 : (zI M 242 10).toInt = (zI M 242 10).toInt := (congrArg Int32.toInt rfl).trans rfl
    have w44 := lin1
    exact zs_iret (pc := 206) t151_206 mr151 (by decide) (hQ _ _ hs hI (zFr.refl) (by omega) (by omega) (by omega) (by omega) x2 x3 x4)
  by_cases w45 : a.toInt = 108
  · refine zs_tswI (pc := 1) t151_1 ((rfl : a.toInt = a.toInt).trans w45) (by decide) rfl (pc2 := 159) rfl ?_
    refine zs_aload_n (pc := 159) t151_159 rfl ?_
    refine zs_get (pc := 160) t151_160 (by decide) (zk1 (hs.k fk_zMc_6)) (hs.p rfl fv_zMc_6_0) ?_
    refine zs_invV (pc := 163) (k := 7) (as' := []) (st := []) t151_163 mf100 rfl rfl (Or.inl ⟨by decide, (zk1 (hs.k fk_zMc_7))⟩) ⟨by decide, by decide, Nat.le_of_ble_eq_true rfl, Nat.le_of_ble_eq_true rfl⟩ (X100_7 hs hI x0 x1 ?_) (fun _ _ q => q)
    intro w46v w46x0 w46a w46b
    show zGo X l 6 0 0 151 166 [(0, .ref 6), (1, .int a)] [.int w46v] M _
    have w47 := zrg (zI M 166 10)
    have w48 : (zI M 166 10).toInt = (zI M 166 10).toInt := (congrArg Int32.toInt rfl).trans rfl
    have w49 := zrg (zI M 242 10)
    have w50 : (zI M 242 10).toInt = (zI M 242 10).toInt := (congrArg Int32.toInt rfl).trans rfl
    exact zs_iret (pc := 166) t151_166 mr151 rfl (hQ _ _ hs hI (zFr.refl) (by omega) (by omega) (by omega) (by omega) x2 x3 x4)
  by_cases w51 : a.toInt = 109
  · refine zs_tswI (pc := 1) t151_1 ((rfl : a.toInt = a.toInt).trans w51) (by decide) rfl (pc2 := 144) rfl ?_
    refine zs_aload_n (pc := 144) t151_144 rfl ?_
    refine zs_get (pc := 145) t151_145 (by decide) (zk1 (hs.k fk_zMc_6)) (hs.p rfl fv_zMc_6_6) ?_
    refine zs_aload_n (pc := 148) t151_148 rfl ?_
    refine zs_get (pc := 149) t151_149 (by decide) (zk1 (hs.k fk_zMc_6)) (hs.p rfl fv_zMc_6_0) ?_
    have w52 := zrg (zI M 166 10)
    have w53 : (zI M 166 10).toInt = (zI M 166 10).toInt := (congrArg Int32.toInt rfl).trans rfl
    have w54 : (zI M 166 10).toInt = (zI M 166 10).toInt := (congrArg Int32.toInt rfl).trans rfl
    refine zs_invV (pc := 152) (k := 164) (as' := [.ref 7]) (st := []) t151_152 mf105 rfl rfl (Or.inl ⟨by decide, (zk1 (hs.k fk_zMc_164))⟩) ⟨by decide, by decide, Nat.le_of_ble_eq_true rfl, Nat.le_of_ble_eq_true rfl⟩ (V105 hs hI (by omega) (by omega) x0 x1 x2 x3 ?_) (fun _ _ q => q)
    intro w55M w55s w55I w55F w55t0 w55t1 w55x0 w55x1 w55x2
    have w56 := zrg (zI w55M 166 10)
    show zGo X l 6 0 0 151 155 [(0, .ref 6), (1, .int a)] [.ref 164] w55M _
    refine zs_invV (pc := 155) (k := 164) (as' := []) (st := []) t151_155 mf166 rfl rfl (Or.inl ⟨by decide, (zk1 (w55s.k fk_zMc_164))⟩) ⟨by decide, by decide, Nat.le_of_ble_eq_true rfl, Nat.le_of_ble_eq_true rfl⟩ (zs_in (by decide) mf166 (Nat.le_of_ble_eq_true rfl) ?_) (fun _ _ q => q)
    show zGo X l 2 0 0 166 0 [(0, .ref 164)] [] w55M _
    refine zs_aload_n (pc := 0) t166_0 rfl ?_
    refine zs_iconst (pc := 1) t166_1 (v := 0) (by decide) ?_
    refine zs_invV (pc := 2) (k := 164) (as' := [.int (0 : Int32)]) (st := []) t166_2 mf163 rfl rfl (Or.inl ⟨by decide, (zk1 (w55s.k fk_zMc_164))⟩) ⟨by decide, by decide, Nat.le_of_ble_eq_true rfl, Nat.le_of_ble_eq_true rfl⟩ (zs_in (by decide) mf163 (Nat.le_of_ble_eq_true rfl) ?_) (fun _ _ q => q)
    show zGo X l 1 0 0 163 0 [(0, .ref 164), (1, .int (0 : Int32))] [] w55M _
    refine zs_iload_n (pc := 0) t163_0 rfl ?_
    refine zs_aload_n (pc := 1) t163_1 rfl ?_
    have w57 := ib164_4 w55I
    refine zs_get (pc := 2) t163_2 (by decide) (zk1 (w55s.k fk_zMc_164)) (zfvi rfl rfl) ?_
    by_cases w58 : (zI w55M 164 4).toInt ≤ 0
    · refine zs_icmp_geT (pc := 5) t163_5 li0 rfl (by omega) ?_
      refine zs_aconst_null (pc := 19) t163_19 ?_
      refine zs_aret0 (pc := 20) t163_20 (by rw [mr163]; rfl) ?_
      show zGo X l 2 0 0 166 5 [(0, .ref 164)] [.null] w55M _
      refine zs_astore_n0 (pc := 5) t166_5 (ls' := [(1, .null), (0, .ref 164)]) (zml mf166 (by decide)) rfl ?_
      refine zs_aload_n0 (pc := 6) t166_6 rfl ?_
      refine zs_ifnonnullF (pc := 7) t166_7 ?_
      refine zs_iconst (pc := 10) t166_10 (v := 0) (by decide) ?_
      refine zs_goto (pc := 11) t166_11 ?_
      refine zs_iret (pc := 18) t166_18 mr166 (by decide) ?_
      show zGo X l 6 0 0 151 158 [(0, .ref 6), (1, .int a)] [.int (0 : Int32)] w55M _
      have w59 : (zI w55M 166 10).toInt = (zI w55M 166 10).toInt := (congrArg Int32.toInt rfl).trans rfl
      have w60 := zrg (zI M 242 10)
      have w61 : (zI w55M 242 10).toInt = (zI M 242 10).toInt := (congrArg Int32.toInt ((w55F 242 10 rfl).trans rfl)).trans rfl
      have w62 := li0
      exact zs_iret (pc := 158) t151_158 mr151 (by decide) (hQ _ _ w55s w55I ((zFr.refl).trans (w55F.mono rfl)) (by omega) (by omega) (by omega) (by omega) (fun _ => w55x0) w55x1 (zSp.fr x4 (fun j => (w55F 250 j rfl)) (w55F 242 10 rfl)))
    · refine zs_icmp_geF (pc := 5) t163_5 li0 rfl (by omega) ?_
      refine zs_aload_n (pc := 8) t163_8 rfl ?_
      refine zs_get (pc := 9) t163_9 (by decide) (zk1 (w55s.k fk_zMc_164)) (w55s.p rfl fv_zMc_164_1) ?_
      refine zs_iload_n (pc := 12) t163_12 rfl ?_
      refine zs_invV (pc := 13) (k := 165) (as' := [.int (0 : Int32)]) (st := []) t163_13 mf126 rfl rfl (Or.inl ⟨by decide, (zk1 (w55s.k fk_zMc_165))⟩) ⟨by decide, by decide, Nat.le_of_ble_eq_true rfl, Nat.le_of_ble_eq_true rfl⟩ (zs_in (by decide) mf126 (Nat.le_of_ble_eq_true rfl) ?_) (fun _ _ q => q)
      show zGo X l 0 0 0 126 0 [(0, .ref 165), (1, .int (0 : Int32))] [] w55M _
      refine zs_iload_n (pc := 0) t126_0 rfl ?_
      refine zs_if_ltF (pc := 1) t126_1 li0 (by decide) ?_
      refine zs_iload_n (pc := 4) t126_4 rfl ?_
      refine zs_aload_n (pc := 5) t126_5 rfl ?_
      have w63 := ib165_2 w55I
      refine zs_get (pc := 6) t126_6 (by decide) (zk1 (w55s.k fk_zMc_165)) (zfvi rfl rfl) ?_
      by_cases w64 : (zI w55M 165 2).toInt ≤ 0
      · refine zs_icmp_geT (pc := 9) t126_9 li0 rfl (by omega) ?_
        refine zs_aconst_null (pc := 21) t126_21 ?_
        refine zs_aret0 (pc := 22) t126_22 (by rw [mr126]; rfl) ?_
        show zGo X l 1 0 0 163 16 [(0, .ref 164), (1, .int (0 : Int32))] [.null] w55M _
        refine zs_goto (pc := 16) t163_16 ?_
        refine zs_aret0 (pc := 20) t163_20 (by rw [mr163]; rfl) ?_
        show zGo X l 2 0 0 166 5 [(0, .ref 164)] [.null] w55M _
        refine zs_astore_n0 (pc := 5) t166_5 (ls' := [(1, .null), (0, .ref 164)]) (zml mf166 (by decide)) rfl ?_
        refine zs_aload_n0 (pc := 6) t166_6 rfl ?_
        refine zs_ifnonnullF (pc := 7) t166_7 ?_
        refine zs_iconst (pc := 10) t166_10 (v := 0) (by decide) ?_
        refine zs_goto (pc := 11) t166_11 ?_
        refine zs_iret (pc := 18) t166_18 mr166 (by decide) ?_
        show zGo X l 6 0 0 151 158 [(0, .ref 6), (1, .int a)] [.int (0 : Int32)] w55M _
        have w65 : (zI w55M 166 10).toInt = (zI w55M 166 10).toInt := (congrArg Int32.toInt rfl).trans rfl
        have w66 : (zI w55M 242 10).toInt = (zI M 242 10).toInt := (congrArg Int32.toInt ((w55F 242 10 rfl).trans rfl)).trans rfl
        have w67 := li0
        exact zs_iret (pc := 158) t151_158 mr151 (by decide) (hQ _ _ w55s w55I ((zFr.refl).trans (w55F.mono rfl)) (by omega) (by omega) (by omega) (by omega) (fun _ => w55x0) w55x1 (zSp.fr x4 (fun j => (w55F 250 j rfl)) (w55F 242 10 rfl)))
      · refine zs_icmp_geF (pc := 9) t126_9 li0 rfl (by omega) ?_
        refine zs_aload_n (pc := 12) t126_12 rfl ?_
        refine zs_get (pc := 13) t126_13 (by decide) (zk1 (w55s.k fk_zMc_165)) (w55s.p rfl fv_zMc_165_1) ?_
        refine zs_iload_n (pc := 16) t126_16 rfl ?_
        have w68 : 0 < 20 := by omega
        refine zs_aald (pc := 17) t126_17 (j := 0) (Or.inr (zk1 (w55s.k fk_zMc_179))) li0 (zk2 (w55s.k fk_zMc_179) (by decide)) (w55s.a (fpT181 0 w68)) ?_
        refine zs_goto (pc := 18) t126_18 ?_
        refine zs_aret (pc := 22) t126_22 (by rw [mr126]; rfl) ?_
        show zGo X l 1 0 0 163 16 [(0, .ref 164), (1, .int (0 : Int32))] [.ref (181 + 3 * 0)] w55M _
        refine zs_goto (pc := 16) t163_16 ?_
        refine zs_aret (pc := 20) t163_20 (by rw [mr163]; rfl) ?_
        show zGo X l 2 0 0 166 5 [(0, .ref 164)] [.ref (181 + 3 * 0)] w55M _
        refine zs_astore_n (pc := 5) t166_5 (ls' := [(1, .ref (181 + 3 * 0)), (0, .ref 164)]) (zml mf166 (by decide)) rfl ?_
        refine zs_aload_n (pc := 6) t166_6 rfl ?_
        refine zs_ifnonnullT (pc := 7) t166_7 ?_
        refine zs_aload_n (pc := 14) t166_14 rfl ?_
        have w69 := zrg (zI w55M (181 + 3 * 0) 3)
        refine zs_get (pc := 15) t166_15 (by decide) (zk1 (w55s.k (fT181_0 0 w68))) (zfvi rfl rfl) ?_
        refine zs_iret (pc := 18) t166_18 mr166 rfl ?_
        show zGo X l 6 0 0 151 158 [(0, .ref 6), (1, .int a)] [.int (zI w55M (181 + 3 * 0) 3)] w55M _
        have w70 : (zI w55M 166 10).toInt = (zI w55M 166 10).toInt := (congrArg Int32.toInt rfl).trans rfl
        have w71 : (zI w55M 242 10).toInt = (zI M 242 10).toInt := (congrArg Int32.toInt ((w55F 242 10 rfl).trans rfl)).trans rfl
        exact zs_iret (pc := 158) t151_158 mr151 rfl (hQ _ _ w55s w55I ((zFr.refl).trans (w55F.mono rfl)) (by omega) (by omega) (by omega) (by omega) (fun _ => w55x0) w55x1 (zSp.fr x4 (fun j => (w55F 250 j rfl)) (w55F 242 10 rfl)))
  by_cases w72 : a.toInt = 110
  · refine zs_tswI (pc := 1) t151_1 ((rfl : a.toInt = a.toInt).trans w72) (by decide) rfl (pc2 := 80) rfl ?_
    refine zs_aload_n (pc := 80) t151_80 rfl ?_
    refine zs_get (pc := 81) t151_81 (by decide) (zk1 (hs.k fk_zMc_6)) (hs.p rfl fv_zMc_6_6) ?_
    refine zs_aload_n (pc := 84) t151_84 rfl ?_
    refine zs_get (pc := 85) t151_85 (by decide) (zk1 (hs.k fk_zMc_6)) (hs.p rfl fv_zMc_6_0) ?_
    have w73 := zrg (zI M 166 10)
    have w74 : (zI M 166 10).toInt = (zI M 166 10).toInt := (congrArg Int32.toInt rfl).trans rfl
    have w75 : (zI M 166 10).toInt = (zI M 166 10).toInt := (congrArg Int32.toInt rfl).trans rfl
    refine zs_invV (pc := 88) (k := 164) (as' := [.ref 7]) (st := []) t151_88 mf105 rfl rfl (Or.inl ⟨by decide, (zk1 (hs.k fk_zMc_164))⟩) ⟨by decide, by decide, Nat.le_of_ble_eq_true rfl, Nat.le_of_ble_eq_true rfl⟩ (V105 hs hI (by omega) (by omega) x0 x1 x2 x3 ?_) (fun _ _ q => q)
    intro w76M w76s w76I w76F w76t0 w76t1 w76x0 w76x1 w76x2
    have w77 := zrg (zI w76M 166 10)
    show zGo X l 6 0 0 151 91 [(0, .ref 6), (1, .int a)] [.ref 164] w76M _
    refine zs_invV (pc := 91) (k := 164) (as' := []) (st := []) t151_91 mf144 rfl rfl (Or.inl ⟨by decide, (zk1 (w76s.k fk_zMc_164))⟩) ⟨by decide, by decide, Nat.le_of_ble_eq_true rfl, Nat.le_of_ble_eq_true rfl⟩ (zs_in (by decide) mf144 (Nat.le_of_ble_eq_true rfl) ?_) (fun _ _ q => q)
    show zGo X l 0 0 0 144 0 [(0, .ref 164)] [] w76M _
    refine zs_aload_n (pc := 0) t144_0 rfl ?_
    have w78 := ib164_4 w76I
    refine zs_get (pc := 1) t144_1 (by decide) (zk1 (w76s.k fk_zMc_164)) (zfvi rfl rfl) ?_
    refine zs_iret (pc := 4) t144_4 mr144 rfl ?_
    show zGo X l 6 0 0 151 94 [(0, .ref 6), (1, .int a)] [.int (zI w76M 164 4)] w76M _
    have w79 : (zI w76M 166 10).toInt = (zI w76M 166 10).toInt := (congrArg Int32.toInt rfl).trans rfl
    have w80 := zrg (zI M 242 10)
    have w81 : (zI w76M 242 10).toInt = (zI M 242 10).toInt := (congrArg Int32.toInt ((w76F 242 10 rfl).trans rfl)).trans rfl
    exact zs_iret (pc := 94) t151_94 mr151 rfl (hQ _ _ w76s w76I ((zFr.refl).trans (w76F.mono rfl)) (by omega) (by omega) (by omega) (by omega) (fun _ => w76x0) w76x1 (zSp.fr x4 (fun j => (w76F 250 j rfl)) (w76F 242 10 rfl)))
  by_cases w82 : a.toInt = 111
  · refine zs_tswI (pc := 1) t151_1 ((rfl : a.toInt = a.toInt).trans w82) (by decide) rfl (pc2 := 190) rfl ?_
    refine zs_aload_n (pc := 190) t151_190 rfl ?_
    refine zs_get (pc := 191) t151_191 (by decide) (zk1 (hs.k fk_zMc_6)) (hs.p rfl fv_zMc_6_6) ?_
    refine zs_aload_n (pc := 194) t151_194 rfl ?_
    refine zs_get (pc := 195) t151_195 (by decide) (zk1 (hs.k fk_zMc_6)) (hs.p rfl fv_zMc_6_0) ?_
    have w83 := zrg (zI M 166 10)
    have w84 : (zI M 166 10).toInt = (zI M 166 10).toInt := (congrArg Int32.toInt rfl).trans rfl
    have w85 : (zI M 166 10).toInt = (zI M 166 10).toInt := (congrArg Int32.toInt rfl).trans rfl
    refine zs_invV (pc := 198) (k := 164) (as' := [.ref 7]) (st := []) t151_198 mf105 rfl rfl (Or.inl ⟨by decide, (zk1 (hs.k fk_zMc_164))⟩) ⟨by decide, by decide, Nat.le_of_ble_eq_true rfl, Nat.le_of_ble_eq_true rfl⟩ (V105 hs hI (by omega) (by omega) x0 x1 x2 x3 ?_) (fun _ _ q => q)
    intro w86M w86s w86I w86F w86t0 w86t1 w86x0 w86x1 w86x2
    have w87 := zrg (zI w86M 166 10)
    show zGo X l 6 0 0 151 201 [(0, .ref 6), (1, .int a)] [.ref 164] w86M _
    refine zs_invV (pc := 201) (k := 164) (as' := []) (st := []) t151_201 mf168 rfl rfl (Or.inl ⟨by decide, (zk1 (w86s.k fk_zMc_164))⟩) ⟨by decide, by decide, Nat.le_of_ble_eq_true rfl, Nat.le_of_ble_eq_true rfl⟩ (C168_164 w86s w86I ?_) (fun _ _ q => q)
    intro w88v w88a w88b
    show zGo X l 6 0 0 151 204 [(0, .ref 6), (1, .int a)] [.int w88v] w86M _
    have w89 : (zI w86M 166 10).toInt = (zI w86M 166 10).toInt := (congrArg Int32.toInt rfl).trans rfl
    have w90 := zrg (zI M 242 10)
    have w91 : (zI w86M 242 10).toInt = (zI M 242 10).toInt := (congrArg Int32.toInt ((w86F 242 10 rfl).trans rfl)).trans rfl
    exact zs_iret (pc := 204) t151_204 mr151 rfl (hQ _ _ w86s w86I ((zFr.refl).trans (w86F.mono rfl)) (by omega) (by omega) (by omega) (by omega) (fun _ => w86x0) w86x1 (zSp.fr x4 (fun j => (w86F 250 j rfl)) (w86F 242 10 rfl)))
  by_cases w92 : a.toInt = 112
  · refine zs_tswI (pc := 1) t151_1 ((rfl : a.toInt = a.toInt).trans w92) (by decide) rfl (pc2 := 205) rfl ?_
    refine zs_iconst (pc := 205) t151_205 (v := -1) (by decide) ?_
    have w93 := zrg (zI M 166 10)
    have w94 : (zI M 166 10).toInt = (zI M 166 10).toInt := (congrArg Int32.toInt rfl).trans rfl
    have w95 := zrg (zI M 242 10)
    have w96 : (zI M 242 10).toInt = (zI M 242 10).toInt := (congrArg Int32.toInt rfl).trans rfl
    have w97 := lin1
    exact zs_iret (pc := 206) t151_206 mr151 (by decide) (hQ _ _ hs hI (zFr.refl) (by omega) (by omega) (by omega) (by omega) x2 x3 x4)
  by_cases w98 : a.toInt = 113
  · refine zs_tswI (pc := 1) t151_1 ((rfl : a.toInt = a.toInt).trans w98) (by decide) rfl (pc2 := 205) rfl ?_
    refine zs_iconst (pc := 205) t151_205 (v := -1) (by decide) ?_
    have w99 := zrg (zI M 166 10)
    have w100 : (zI M 166 10).toInt = (zI M 166 10).toInt := (congrArg Int32.toInt rfl).trans rfl
    have w101 := zrg (zI M 242 10)
    have w102 : (zI M 242 10).toInt = (zI M 242 10).toInt := (congrArg Int32.toInt rfl).trans rfl
    have w103 := lin1
    exact zs_iret (pc := 206) t151_206 mr151 (by decide) (hQ _ _ hs hI (zFr.refl) (by omega) (by omega) (by omega) (by omega) x2 x3 x4)
  by_cases w104 : a.toInt = 114
  · refine zs_tswI (pc := 1) t151_1 ((rfl : a.toInt = a.toInt).trans w104) (by decide) rfl (pc2 := 205) rfl ?_
    refine zs_iconst (pc := 205) t151_205 (v := -1) (by decide) ?_
    have w105 := zrg (zI M 166 10)
    have w106 : (zI M 166 10).toInt = (zI M 166 10).toInt := (congrArg Int32.toInt rfl).trans rfl
    have w107 := zrg (zI M 242 10)
    have w108 : (zI M 242 10).toInt = (zI M 242 10).toInt := (congrArg Int32.toInt rfl).trans rfl
    have w109 := lin1
    exact zs_iret (pc := 206) t151_206 mr151 (by decide) (hQ _ _ hs hI (zFr.refl) (by omega) (by omega) (by omega) (by omega) x2 x3 x4)
  by_cases w110 : a.toInt = 115
  · refine zs_tswI (pc := 1) t151_1 ((rfl : a.toInt = a.toInt).trans w110) (by decide) rfl (pc2 := 205) rfl ?_
    refine zs_iconst (pc := 205) t151_205 (v := -1) (by decide) ?_
    have w111 := zrg (zI M 166 10)
    have w112 : (zI M 166 10).toInt = (zI M 166 10).toInt := (congrArg Int32.toInt rfl).trans rfl
    have w113 := zrg (zI M 242 10)
    have w114 : (zI M 242 10).toInt = (zI M 242 10).toInt := (congrArg Int32.toInt rfl).trans rfl
    have w115 := lin1
    exact zs_iret (pc := 206) t151_206 mr151 (by decide) (hQ _ _ hs hI (zFr.refl) (by omega) (by omega) (by omega) (by omega) x2 x3 x4)
  by_cases w116 : a.toInt = 116
  · refine zs_tswI (pc := 1) t151_1 ((rfl : a.toInt = a.toInt).trans w116) (by decide) rfl (pc2 := 205) rfl ?_
    refine zs_iconst (pc := 205) t151_205 (v := -1) (by decide) ?_
    have w117 := zrg (zI M 166 10)
    have w118 : (zI M 166 10).toInt = (zI M 166 10).toInt := (congrArg Int32.toInt rfl).trans rfl
    have w119 := zrg (zI M 242 10)
    have w120 : (zI M 242 10).toInt = (zI M 242 10).toInt := (congrArg Int32.toInt rfl).trans rfl
    have w121 := lin1
    exact zs_iret (pc := 206) t151_206 mr151 (by decide) (hQ _ _ hs hI (zFr.refl) (by omega) (by omega) (by omega) (by omega) x2 x3 x4)
  by_cases w122 : a.toInt = 117
  · refine zs_tswI (pc := 1) t151_1 ((rfl : a.toInt = a.toInt).trans w122) (by decide) rfl (pc2 := 167) rfl ?_
    refine zs_aload_n (pc := 167) t151_167 rfl ?_
    refine zs_get (pc := 168) t151_168 (by decide) (zk1 (hs.k fk_zMc_6)) (hs.p rfl fv_zMc_6_0) ?_
    refine zs_invV (pc := 171) (k := 7) (as' := []) (st := []) t151_171 mf92 rfl rfl (Or.inl ⟨by decide, (zk1 (hs.k fk_zMc_7))⟩) ⟨by decide, by decide, Nat.le_of_ble_eq_true rfl, Nat.le_of_ble_eq_true rfl⟩ (X92_7 hs hI x0 x1 ?_) (fun _ _ q => q)
    intro w123v w123x0 w123a w123b
    show zGo X l 6 0 0 151 174 [(0, .ref 6), (1, .int a)] [.int w123v] M _
    refine zs_aload_n (pc := 174) t151_174 rfl ?_
    refine zs_get (pc := 175) t151_175 (by decide) (zk1 (hs.k fk_zMc_6)) (hs.p rfl fv_zMc_6_6) ?_
    refine zs_aload_n (pc := 178) t151_178 rfl ?_
    refine zs_get (pc := 179) t151_179 (by decide) (zk1 (hs.k fk_zMc_6)) (hs.p rfl fv_zMc_6_0) ?_
    have w124 := zrg (zI M 166 10)
    have w125 : (zI M 166 10).toInt = (zI M 166 10).toInt := (congrArg Int32.toInt rfl).trans rfl
    have w126 : (zI M 166 10).toInt = (zI M 166 10).toInt := (congrArg Int32.toInt rfl).trans rfl
    refine zs_invV (pc := 182) (k := 164) (as' := [.ref 7]) (st := [.int w123v]) t151_182 mf105 rfl rfl (Or.inl ⟨by decide, (zk1 (hs.k fk_zMc_164))⟩) ⟨by decide, by decide, Nat.le_of_ble_eq_true rfl, Nat.le_of_ble_eq_true rfl⟩ (V105 hs hI (by omega) (by omega) x0 x1 x2 x3 ?_) (fun _ _ q => q)
    intro w127M w127s w127I w127F w127t0 w127t1 w127x0 w127x1 w127x2
    have w128 := zrg (zI w127M 166 10)
    show zGo X l 6 0 0 151 185 [(0, .ref 6), (1, .int a)] [.ref 164, .int w123v] w127M _
    refine zs_invV (pc := 185) (k := 164) (as' := []) (st := [.int w123v]) t151_185 mf167 rfl rfl (Or.inl ⟨by decide, (zk1 (w127s.k fk_zMc_164))⟩) ⟨by decide, by decide, Nat.le_of_ble_eq_true rfl, Nat.le_of_ble_eq_true rfl⟩ (C167_164 w127s w127I ?_) (fun _ _ q => q)
    intro w129v w129a w129b
    show zGo X l 6 0 0 151 188 [(0, .ref 6), (1, .int a)] [.int w129v, .int w123v] w127M _
    obtain ⟨w130v, w130⟩ : ∃ v, v = w123v - w129v := ⟨_, rfl⟩
    have w130g := zrg w130v
    refine zs_isub (pc := 188) t151_188 (c := w130v) w130.symm ?_
    have w131 : (zI w127M 166 10).toInt = (zI w127M 166 10).toInt := (congrArg Int32.toInt rfl).trans rfl
    have w132 := zrg (zI M 242 10)
    have w133 : (zI w127M 242 10).toInt = (zI M 242 10).toInt := (congrArg Int32.toInt ((w127F 242 10 rfl).trans rfl)).trans rfl
    exact zs_iret (pc := 189) t151_189 mr151 rfl (hQ _ _ w127s w127I ((zFr.refl).trans (w127F.mono rfl)) (by omega) (by omega) (by omega) (by omega) (fun _ => w127x0) w127x1 (zSp.fr x4 (fun j => (w127F 250 j rfl)) (w127F 242 10 rfl)))
  by_cases w134 : a.toInt = 118
  · refine zs_tswI (pc := 1) t151_1 ((rfl : a.toInt = a.toInt).trans w134) (by decide) rfl (pc2 := 103) rfl ?_
    refine zs_aload_n (pc := 103) t151_103 rfl ?_
    refine zs_get (pc := 104) t151_104 (by decide) (zk1 (hs.k fk_zMc_6)) (hs.p rfl fv_zMc_6_6) ?_
    refine zs_aload_n (pc := 107) t151_107 rfl ?_
    refine zs_get (pc := 108) t151_108 (by decide) (zk1 (hs.k fk_zMc_6)) (hs.p rfl fv_zMc_6_0) ?_
    have w135 := zrg (zI M 166 10)
    have w136 : (zI M 166 10).toInt = (zI M 166 10).toInt := (congrArg Int32.toInt rfl).trans rfl
    have w137 : (zI M 166 10).toInt = (zI M 166 10).toInt := (congrArg Int32.toInt rfl).trans rfl
    refine zs_invV (pc := 111) (k := 164) (as' := [.ref 7]) (st := []) t151_111 mf105 rfl rfl (Or.inl ⟨by decide, (zk1 (hs.k fk_zMc_164))⟩) ⟨by decide, by decide, Nat.le_of_ble_eq_true rfl, Nat.le_of_ble_eq_true rfl⟩ (V105 hs hI (by omega) (by omega) x0 x1 x2 x3 ?_) (fun _ _ q => q)
    intro w138M w138s w138I w138F w138t0 w138t1 w138x0 w138x1 w138x2
    have w139 := zrg (zI w138M 166 10)
    show zGo X l 6 0 0 151 114 [(0, .ref 6), (1, .int a)] [.ref 164] w138M _
    refine zs_invV (pc := 114) (k := 164) (as' := []) (st := []) t151_114 mf152 rfl rfl (Or.inl ⟨by decide, (zk1 (w138s.k fk_zMc_164))⟩) ⟨by decide, by decide, Nat.le_of_ble_eq_true rfl, Nat.le_of_ble_eq_true rfl⟩ (zs_in (by decide) mf152 (Nat.le_of_ble_eq_true rfl) ?_) (fun _ _ q => q)
    show zGo X l 0 0 0 152 0 [(0, .ref 164)] [] w138M _
    refine zs_aload_n (pc := 0) t152_0 rfl ?_
    have w140 := ib164_9 w138I
    refine zs_get (pc := 1) t152_1 (by decide) (zk1 (w138s.k fk_zMc_164)) (zfvi rfl rfl) ?_
    refine zs_iret (pc := 4) t152_4 mr152 rfl ?_
    show zGo X l 6 0 0 151 117 [(0, .ref 6), (1, .int a)] [.int (zI w138M 164 9)] w138M _
    have w141 : (zI w138M 166 10).toInt = (zI w138M 166 10).toInt := (congrArg Int32.toInt rfl).trans rfl
    have w142 := zrg (zI M 242 10)
    have w143 : (zI w138M 242 10).toInt = (zI M 242 10).toInt := (congrArg Int32.toInt ((w138F 242 10 rfl).trans rfl)).trans rfl
    exact zs_iret (pc := 117) t151_117 mr151 rfl (hQ _ _ w138s w138I ((zFr.refl).trans (w138F.mono rfl)) (by omega) (by omega) (by omega) (by omega) (fun _ => w138x0) w138x1 (zSp.fr x4 (fun j => (w138F 250 j rfl)) (w138F 242 10 rfl)))
  refine zs_tswD (pc := 1) t151_1 rfl (by omega) (pc2 := 205) rfl ?_
  refine zs_iconst (pc := 205) t151_205 (v := -1) (by decide) ?_
  have w144 := zrg (zI M 166 10)
  have w145 : (zI M 166 10).toInt = (zI M 166 10).toInt := (congrArg Int32.toInt rfl).trans rfl
  have w146 := zrg (zI M 242 10)
  have w147 : (zI M 242 10).toInt = (zI M 242 10).toInt := (congrArg Int32.toInt rfl).trans rfl
  have w148 := lin1
  exact zs_iret (pc := 206) t151_206 mr151 (by decide) (hQ _ _ hs hI (zFr.refl) (by omega) (by omega) (by omega) (by omega) x2 x3 x4)
