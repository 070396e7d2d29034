theorem Z187 {X : zX} {l : Launch} {M : zM} {Q : Option Value → zM → Prop} (hs : zSk zMc M) (hI : zIv cLo cHi M) {F : Nat → Int} (u0 : (zI M 166 10).toInt ≤ 1600000000) (u1 : 0 ≤ (zI M 166 10).toInt) (u2 : (zI M 242 10).toInt ≤ 1600000000) (u3 : 0 ≤ (zI M 242 10).toInt) (x0 : zSo M 7 F) (x1 : zWF F) (x2 : zKnA M F) (x3 : zSp M 166 174) (x4 : zSp M 242 250) (hQ : ∀ (M' : zM) (v : Int32), zSk zMc M' → zIv cLo cHi M' → zFr [(164, 165, none), (166, 178, none), (180, 180, none), (181, 240, none), (317, 324, none)] M M' → ((zI M' 166 10).toInt ≤ (zI M 166 10).toInt + 20000) → ((zI M 166 10).toInt ≤ (zI M' 166 10).toInt) → ((zI M' 242 10).toInt ≤ (zI M 242 10).toInt + 20000) → ((zI M 242 10).toInt ≤ (zI M' 242 10).toInt) → (zKnA M' F) → (zSp M' 166 174) → (zSp M' 242 250) → (pWk F v.toInt) → Q (some (.int v)) M') : zCall X l 6 0 0 187 [.ref 6] M Q := by
  refine zs_in (by decide) mf187 (Nat.le_of_ble_eq_true rfl) ?_
  show zGo X l 6 0 0 187 0 [(0, .ref 6)] [] M _
  have f0 := x0.1
  have w1 := ib7_0 hI
  have w2 : (zI M 7 0).toInt = (zI M 7 0).toInt := (congrArg Int32.toInt rfl).trans rfl
  have w3 := ib7_3 hI
  have w4 : (zI M 7 3).toInt = (zI M 7 3).toInt := (congrArg Int32.toInt rfl).trans rfl
  have w5 := ib7_8 hI
  have w6 : (zI M 7 8).toInt = (zI M 7 8).toInt := (congrArg Int32.toInt rfl).trans rfl
  have f1 := x1.1
  have f3 := x1.2.2.2
  have f2 := (show (zI M 7 0).toInt = F 0 ∧ (zI M 7 3).toInt = F 1 ∧ (zI M 7 8).toInt = F 2 from ⟨x0.1.1, x0.1.2.1, x0.1.2.2.1⟩)
  refine zs_iconst (pc := 0) t187_0 (v := 2) (by decide) ?_
  refine zs_aload_n (pc := 1) t187_1 rfl ?_
  refine zs_get (pc := 2) t187_2 (by decide) (zk1 (hs.k fk_zMc_6)) (hs.p rfl fv_zMc_6_0) ?_
  refine zs_iconst (pc := 5) t187_5 (v := 0) (by decide) ?_
  refine zs_invV (pc := 6) (k := 7) (as' := [.int (0 : Int32)]) (st := [.int (2 : Int32)]) t187_6 mf96 rfl rfl (Or.inl ⟨by decide, (zk1 (hs.k fk_zMc_7))⟩) ⟨by decide, by decide, Nat.le_of_ble_eq_true rfl, Nat.le_of_ble_eq_true rfl⟩ (zs_in (by decide) mf96 (Nat.le_of_ble_eq_true rfl) ?_) (fun _ _ q => q)
  show zGo X l 0 0 0 96 0 [(0, .ref 7), (1, .int (0 : Int32))] [] M _
  refine zs_iload_n (pc := 0) t96_0 rfl ?_
  refine zs_if_ltF (pc := 1) t96_1 li0 (by decide) ?_
  refine zs_iload_n (pc := 4) t96_4 rfl ?_
  refine zs_bipush (pc := 5) t96_5 (v := 9) (by decide) ?_
  refine zs_icmp_geF (pc := 7) t96_7 li0 li9 (by decide) ?_
  refine zs_aload_n (pc := 10) t96_10 rfl ?_
  refine zs_get (pc := 11) t96_11 (by decide) (zk1 (hs.k fk_zMc_7)) (hs.p rfl fv_zMc_7_12) ?_
  refine zs_iload_n (pc := 14) t96_14 rfl ?_
  have w7 := ib17 hI 0
  have w8 : (zI M 17 0).toInt = F 5 := x0.2.2.2.2.1 0 (by decide)
  refine zs_iald (pc := 15) t96_15 (j := 0) (by decide) (zk1 (hs.k fk_zMc_17)) li0 (zk2 (hs.k fk_zMc_17) (by decide)) rfl ?_
  refine zs_goto (pc := 16) t96_16 ?_
  refine zs_iret (pc := 20) t96_20 mr96 rfl ?_
  show zGo X l 6 0 0 187 9 [(0, .ref 6)] [.int (zI M 17 0), .int (2 : Int32)] M _
  obtain ⟨w9v, w9⟩ : ∃ v, (2 : Int32) * (zI M 17 0) = v := ⟨_, rfl⟩
  have w9g : w9v.toInt = 2 * (zI M 17 0).toInt := by rw [← w9]; exact zmulc li2 rfl (by omega) (by omega)
  refine zs_imul (pc := 9) t187_9 (c := w9v) w9 ?_
  refine zs_iconst (pc := 10) t187_10 (v := 1) (by decide) ?_
  obtain ⟨w10v, w10e, w10⟩ := ziadd (a := w9v) (b := (1 : Int32)) w9g li1 (by omega) (by omega)
  refine zs_iadd (pc := 11) t187_11 (c := w10v) w10e ?_
  refine zs_istore_n (pc := 12) t187_12 (ls' := [(1, .int w10v), (0, .ref 6)]) (zml mf187 (by decide)) rfl ?_
  refine zs_iconst (pc := 13) t187_13 (v := 2) (by decide) ?_
  refine zs_aload_n (pc := 14) t187_14 rfl ?_
  refine zs_get (pc := 15) t187_15 (by decide) (zk1 (hs.k fk_zMc_6)) (hs.p rfl fv_zMc_6_0) ?_
  refine zs_iconst (pc := 18) t187_18 (v := 1) (by decide) ?_
  refine zs_invV (pc := 19) (k := 7) (as' := [.int (1 : Int32)]) (st := [.int (2 : Int32)]) t187_19 mf96 rfl rfl (Or.inl ⟨by decide, (zk1 (hs.k fk_zMc_7))⟩) ⟨by decide, by decide, Nat.le_of_ble_eq_true rfl, Nat.le_of_ble_eq_true rfl⟩ (zs_in (by decide) mf96 (Nat.le_of_ble_eq_true rfl) ?_) (fun _ _ q => q)
  show zGo X l 0 0 0 96 0 [(0, .ref 7), (1, .int (1 : Int32))] [] M _
  refine zs_iload_n (pc := 0) t96_0 rfl ?_
  refine zs_if_ltF (pc := 1) t96_1 li1 (by decide) ?_
  refine zs_iload_n (pc := 4) t96_4 rfl ?_
  refine zs_bipush (pc := 5) t96_5 (v := 9) (by decide) ?_
  refine zs_icmp_geF (pc := 7) t96_7 li1 li9 (by decide) ?_
  refine zs_aload_n (pc := 10) t96_10 rfl ?_
  refine zs_get (pc := 11) t96_11 (by decide) (zk1 (hs.k fk_zMc_7)) (hs.p rfl fv_zMc_7_12) ?_
  refine zs_iload_n (pc := 14) t96_14 rfl ?_
  have w11 := ib17 hI 1
  have w12 : (zI M 17 1).toInt = F 6 := x0.2.2.2.2.1 1 (by decide)
  refine zs_iald (pc := 15) t96_15 (j := 1) (by decide) (zk1 (hs.k fk_zMc_17)) li1 (zk2 (hs.k fk_zMc_17) (by decide)) rfl ?_
  refine zs_goto (pc := 16) t96_16 ?_
  refine zs_iret (pc := 20) t96_20 mr96 rfl ?_
  show zGo X l 6 0 0 187 22 [(1, .int w10v), (0, .ref 6)] [.int (zI M 17 1), .int (2 : Int32)] M _
  obtain ⟨w13v, w13⟩ : ∃ v, (2 : Int32) * (zI M 17 1) = v := ⟨_, rfl⟩
  have w13g : w13v.toInt = 2 * (zI M 17 1).toInt := by rw [← w13]; exact zmulc li2 rfl (by omega) (by omega)
  refine zs_imul (pc := 22) t187_22 (c := w13v) w13 ?_
  refine zs_iconst (pc := 23) t187_23 (v := 1) (by decide) ?_
  obtain ⟨w14v, w14e, w14⟩ := ziadd (a := w13v) (b := (1 : Int32)) w13g li1 (by omega) (by omega)
  refine zs_iadd (pc := 24) t187_24 (c := w14v) w14e ?_
  refine zs_istore_n (pc := 25) t187_25 (ls' := [(2, .int w14v), (1, .int w10v), (0, .ref 6)]) (zml mf187 (by decide)) rfl ?_
  refine zs_aload_n (pc := 26) t187_26 rfl ?_
  refine zs_get (pc := 27) t187_27 (by decide) (zk1 (hs.k fk_zMc_6)) (hs.p rfl fv_zMc_6_0) ?_
  refine zs_invV (pc := 30) (k := 7) (as' := []) (st := []) t187_30 mf92 rfl rfl (Or.inl ⟨by decide, (zk1 (hs.k fk_zMc_7))⟩) ⟨by decide, by decide, Nat.le_of_ble_eq_true rfl, Nat.le_of_ble_eq_true rfl⟩ (X92_7 hs hI x0 x1 ?_) (fun _ _ q => q)
  intro w15v w15x0 w15a w15b
  show zGo X l 6 0 0 187 33 [(2, .int w14v), (1, .int w10v), (0, .ref 6)] [.int w15v] M _
  refine zs_iload_n (pc := 33) t187_33 rfl ?_
  obtain ⟨w16v, w16⟩ : ∃ v, w15v * w10v = v := ⟨_, rfl⟩
  have w16g := zrg w16v
  refine zs_imul (pc := 34) t187_34 (c := w16v) w16 ?_
  refine zs_iload_n (pc := 35) t187_35 rfl ?_
  obtain ⟨w17v, w17⟩ : ∃ v, w16v * w14v = v := ⟨_, rfl⟩
  have w17g := zrg w17v
  refine zs_imul (pc := 36) t187_36 (c := w17v) w17 ?_
  refine zs_bipush (pc := 37) t187_37 (v := 10) (by decide) ?_
  refine zs_aload_n (pc := 39) t187_39 rfl ?_
  refine zs_get (pc := 40) t187_40 (by decide) (zk1 (hs.k fk_zMc_6)) (hs.p rfl fv_zMc_6_6) ?_
  refine zs_aload_n (pc := 43) t187_43 rfl ?_
  refine zs_get (pc := 44) t187_44 (by decide) (zk1 (hs.k fk_zMc_6)) (hs.p rfl fv_zMc_6_0) ?_
  have w18 := zrg (zI M 166 10)
  have w19 : (zI M 166 10).toInt = (zI M 166 10).toInt := (congrArg Int32.toInt rfl).trans rfl
  have w20 : (zI M 166 10).toInt = (zI M 166 10).toInt := (congrArg Int32.toInt rfl).trans rfl
  refine zs_invV (pc := 47) (k := 164) (as' := [.ref 7]) (st := [.int (10 : Int32), .int w17v]) t187_47 mf105 rfl rfl (Or.inl ⟨by decide, (zk1 (hs.k fk_zMc_164))⟩) ⟨by decide, by decide, Nat.le_of_ble_eq_true rfl, Nat.le_of_ble_eq_true rfl⟩ (V105 hs hI (by omega) (by omega) x0 x1 x2 x3 ?_) (fun _ _ q => q)
  intro w21M w21s w21I w21F w21t0 w21t1 w21x0 w21x1 w21x2
  have w22 := zrg (zI w21M 166 10)
  obtain ⟨w21m, w21τ, w21tk, w21m4, w21m20, w21mn, w21tr⟩ := zPicA.tk x1 w21x0
  show zGo X l 6 0 0 187 50 [(2, .int w14v), (1, .int w10v), (0, .ref 6)] [.ref 164, .int (10 : Int32), .int w17v] w21M _
  refine zs_invV (pc := 50) (k := 164) (as' := []) (st := [.int (10 : Int32), .int w17v]) t187_50 mf144 rfl rfl (Or.inl ⟨by decide, (zk1 (w21s.k fk_zMc_164))⟩) ⟨by decide, by decide, Nat.le_of_ble_eq_true rfl, Nat.le_of_ble_eq_true rfl⟩ (zs_in (by decide) mf144 (Nat.le_of_ble_eq_true rfl) ?_) (fun _ _ q => q)
  show zGo X l 0 0 0 144 0 [(0, .ref 164)] [] w21M _
  refine zs_aload_n (pc := 0) t144_0 rfl ?_
  have w23 := ib164_4 w21I
  refine zs_get (pc := 1) t144_1 (by decide) (zk1 (w21s.k fk_zMc_164)) (zfvi rfl rfl) ?_
  refine zs_iret (pc := 4) t144_4 mr144 rfl ?_
  show zGo X l 6 0 0 187 53 [(2, .int w14v), (1, .int w10v), (0, .ref 6)] [.int (zI w21M 164 4), .int (10 : Int32), .int w17v] w21M _
  obtain ⟨w24v, w24⟩ : ∃ v, (10 : Int32) * (zI w21M 164 4) = v := ⟨_, rfl⟩
  have w24g : w24v.toInt = 10 * (zI w21M 164 4).toInt := by rw [← w24]; exact zmulc li10 rfl (by omega) (by omega)
  refine zs_imul (pc := 53) t187_53 (c := w24v) w24 ?_
  obtain ⟨w25v, w25⟩ : ∃ v, v = w17v + w24v := ⟨_, rfl⟩
  have w25g := zrg w25v
  refine zs_iadd (pc := 54) t187_54 (c := w25v) w25.symm ?_
  have w26 : (zI w21M 166 10).toInt = (zI w21M 166 10).toInt := (congrArg Int32.toInt rfl).trans rfl
  have w27 := zrg (zI M 242 10)
  have w28 : (zI w21M 242 10).toInt = (zI M 242 10).toInt := (congrArg Int32.toInt ((w21F 242 10 rfl).trans rfl)).trans rfl
  have w29 : w15v = Int32.ofInt (pct (zctb F) (F 1).toNat) := zi32 ((rfl : w15v.toInt = w15v.toInt).trans (by omega))
  have w30 : w10v = Int32.ofInt (2 * F 5 + 1) := zi32 ((w10 : w10v.toInt = ((2 * (zI M 17 0).toInt) + 1)).trans (by omega))
  have w31 : w14v = Int32.ofInt (2 * F 6 + 1) := zi32 ((w14 : w14v.toInt = ((2 * (zI M 17 1).toInt) + 1)).trans (by omega))
  have w32 : (zI w21M 164 4) = Int32.ofInt ((w21m : Int)) := zi32 ((rfl : (zI w21M 164 4).toInt = (zI w21M 164 4).toInt).trans (by omega))
  exact zs_iret (pc := 55) t187_55 mr187 rfl (hQ _ _ w21s w21I ((zFr.refl).trans (w21F.mono rfl)) (by omega) (by omega) (by omega) (by omega) (fun _ => w21x0) w21x1 (zSp.fr x4 (fun j => (w21F 250 j rfl)) (w21F 242 10 rfl)) ⟨_, _, w21tk, congrArg Int32.toInt (by rw [w25, ← w17, ← w16, ← w24, w29, w30, w31, w32]; rfl)⟩)
theorem O97 {X : zX} {l : Launch} {M : zM} {Q : Option Value → zM → Prop} (hs : zSk zMc M) (hI : zIv cLo cHi M) {F : Nat → Int} (x0 : zSo M 7 F) (x1 : zWF F) (hQ : ∀ v : Int32, (v.toInt = (zI M 6 11).toInt) → Q (some (.int v)) M) : zCall X l 0 0 0 97 [.ref 6] M Q := by
  refine zs_in (by decide) mf97 (Nat.le_of_ble_eq_true rfl) ?_
  show zGo X l 0 0 0 97 0 [(0, .ref 6)] [] M _
  have f0 := x0.1
  have w1 := ib7_0 hI
  have w2 : (zI M 7 0).toInt = (zI M 7 0).toInt := (congrArg Int32.toInt rfl).trans rfl
  have w3 := ib7_3 hI
  have w4 : (zI M 7 3).toInt = (zI M 7 3).toInt := (congrArg Int32.toInt rfl).trans rfl
  have w5 := ib7_8 hI
  have w6 : (zI M 7 8).toInt = (zI M 7 8).toInt := (congrArg Int32.toInt rfl).trans rfl
  have f1 := x1.1
  have f3 := x1.2.2.2
  have f2 := (show (zI M 7 0).toInt = F 0 ∧ (zI M 7 3).toInt = F 1 ∧ (zI M 7 8).toInt = F 2 from ⟨x0.1.1, x0.1.2.1, x0.1.2.2.1⟩)
  refine zs_aload_n (pc := 0) t97_0 rfl ?_
  have w7 := zrg (zI M 6 11)
  refine zs_get (pc := 1) t97_1 (by decide) (zk1 (hs.k fk_zMc_6)) (zfvi rfl rfl) ?_
  exact zs_iret (pc := 4) t97_4 mr97 rfl (hQ _ (by omega))
