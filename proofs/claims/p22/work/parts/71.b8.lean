theorem X213_31_7 {X : zX} {l : Launch} {M : zM} {Q : Option Value → zM → Prop} (hs : zSk zMc M) (hI : zIv cLo cHi M) {F : Nat → Int} {H : Nat → Nat → Int} {n : Int} (x0 : zSo M 7 F) (x1 : zHC M H n) (hQ : ∀ (M' : zM) (v : Int32), zSk zMc M' → zIv cLo cHi M' → zFr [(31, 31, none), (7, 7, none), (8, 18, none)] M M' → ((v.toInt = 0 ∧ n ≤ 0 ∧ zSo M' 7 F ∧ zHC M' H n) ∨ (v.toInt = 1 ∧ 0 < n ∧ zSo M' 7 (H 0) ∧ zHC M' (popH H) (n - 1))) → 0 ≤ v.toInt → v.toInt ≤ 1 → Q (some (.int v)) M') : zCall X l 3 0 0 213 [.ref 31, .ref 7] M Q := by
  refine zs_in (by decide) mf213 (Nat.le_of_ble_eq_true rfl) ?_
  show zGo X l 3 0 0 213 0 [(0, .ref 31), (1, .ref 7)] [] M _
  have f0 := x0.1
  have w1 := ib7_0 hI
  have w2 : (zI M 7 0).toInt = (zI M 7 0).toInt := (congrArg Int32.toInt rfl).trans rfl
  have w3 := ib7_3 hI
  have w4 : (zI M 7 3).toInt = (zI M 7 3).toInt := (congrArg Int32.toInt rfl).trans rfl
  have w5 := ib7_8 hI
  have w6 : (zI M 7 8).toInt = (zI M 7 8).toInt := (congrArg Int32.toInt rfl).trans rfl
  have f2 := (show (zI M 7 0).toInt = F 0 ∧ (zI M 7 3).toInt = F 1 ∧ (zI M 7 8).toInt = F 2 from ⟨x0.1.1, x0.1.2.1, x0.1.2.2.1⟩)
  refine zs_aload_n (pc := 0) t213_0 rfl ?_
  have w7 := ib31_2 hI
  refine zs_get (pc := 1) t213_1 (by decide) (zk1 (hs.k fk_zMc_31)) (zfvi rfl rfl) ?_
  by_cases w8 : (zI M 31 2).toInt ≠ 0
  · refine zs_if_neT (pc := 4) t213_4 rfl (by omega) ?_
    refine zs_aload_n (pc := 9) t213_9 rfl ?_
    refine zs_aload_n (pc := 10) t213_10 rfl ?_
    refine zs_get (pc := 11) t213_11 (by decide) (zk1 (hs.k fk_zMc_31)) (hs.p rfl fv_zMc_31_0) ?_
    refine zs_aload_n (pc := 14) t213_14 rfl ?_
    have w9 := ib31_1 hI
    refine zs_get (pc := 15) t213_15 (by decide) (zk1 (hs.k fk_zMc_31)) (zfvi rfl rfl) ?_
    by_cases w10 : (zI M 31 1).toInt = 0
    · refine zs_aald (pc := 18) t213_18 (j := 0) (Or.inl (zk1 (hs.k fk_zMc_32))) ((rfl : (zI M 31 1).toInt = (zI M 31 1).toInt).trans w10) (zk2 (hs.k fk_zMc_32) (by decide)) (hs.a fp_zMc_32_0) ?_
      have w11 : (zI M 31 1).toInt = (zI M 31 1).toInt := (congrArg Int32.toInt rfl).trans rfl
      have w12 : (zI M 31 2).toInt = (zI M 31 2).toInt := (congrArg Int32.toInt rfl).trans rfl
      obtain ⟨w13n, w13⟩ : ∃ n : Nat, (zI M 31 1).toInt = (n : Int) := ⟨((zI M 31 1).toInt).toNat, by omega⟩
      have w14 : (zI M 31 1).toInt = (zI M 31 1).toInt := (congrArg Int32.toInt rfl).trans rfl
      have w15 : (zI M 31 2).toInt = (zI M 31 2).toInt := (congrArg Int32.toInt rfl).trans rfl
      have g1 := x1.1
      refine zs_invV (pc := 19) (k := 7) (as' := [.ref 35]) (st := []) t213_19 mf23 rfl rfl (Or.inl ⟨by decide, (zk1 (hs.k fk_zMc_7))⟩) ⟨by decide, by decide, Nat.le_of_ble_eq_true rfl, Nat.le_of_ble_eq_true rfl⟩ (X23_7_35 hs hI (zHC.top (q := 0) x1 (by omega) (by omega) (by omega)) ?_) (fun _ _ q => q)
      intro w16M w16s w16I w16F w16x0
      show zGo X l 3 0 0 213 22 [(0, .ref 31), (1, .ref 7)] [] w16M _
      refine zs_aload_n (pc := 22) t213_22 rfl ?_
      refine zs_aload_n (pc := 23) t213_23 rfl ?_
      refine zs_get (pc := 24) t213_24 (by decide) (zk1 (w16s.k fk_zMc_31)) (zfvi rfl ((w16F 31 1 rfl).trans rfl)) ?_
      refine zs_bipush (pc := 27) t213_27 (v := 8) (by decide) ?_
      obtain ⟨w17v, w17e, w17⟩ := ziadd (a := (zI M 31 1)) (b := (8 : Int32)) rfl li8 (by omega) (by omega)
      refine zs_iadd (pc := 29) t213_29 (c := w17v) w17e ?_
      refine zs_iconst (pc := 30) t213_30 (v := 1) (by decide) ?_
      obtain ⟨w18v, w18e, w18⟩ := zisub (a := w17v) (b := (1 : Int32)) w17 li1 (by omega) (by omega)
      refine zs_isub (pc := 31) t213_31 (c := w18v) w18e ?_
      refine zs_bipush (pc := 32) t213_32 (v := 8) (by decide) ?_
      obtain ⟨w19v, w19⟩ : ∃ v, w18v - w18v / (8 : Int32) * (8 : Int32) = v := ⟨_, rfl⟩
      have w19g : 0 ≤ w19v.toInt ∧ w19v.toInt ≤ 7 := by rw [← w19]; exact zrem w18 li8 (by omega) (by decide)
      have w19r : w19v.toInt = (((zI M 31 1).toInt + 8) - 1) % 8 := by rw [← w19]; exact zremE w18 li8 (by omega) (by decide)
      refine zs_irem (pc := 34) t213_34 (by decide) (c := w19v) w19 ?_
      have w20 : zIv cLo cHi (zsI w16M 31 1 w19v) := zIv.put w16I (show 0 ≤ w19v.toInt ∧ w19v.toInt ≤ 7 from ⟨by omega, by omega⟩)
      refine zs_putI (pc := 35) t213_35 (zk1 (w16s.k fk_zMc_31)) rfl ?_
      refine zs_aload_n (pc := 38) t213_38 rfl ?_
      refine zs_dup (pc := 39) t213_39 rfl ?_
      refine zs_get (pc := 40) t213_40 (by decide) (zk1 (w16s.k fk_zMc_31)) (zfvi rfl ((zIoj (by decide)).trans ((w16F 31 2 rfl).trans rfl))) ?_
      refine zs_iconst (pc := 43) t213_43 (v := 1) (by decide) ?_
      obtain ⟨w21v, w21e, w21⟩ := zisub (a := (zI M 31 2)) (b := (1 : Int32)) rfl li1 (by omega) (by omega)
      refine zs_isub (pc := 44) t213_44 (c := w21v) w21e ?_
      have w22 : zIv cLo cHi (zsI (zsI w16M 31 1 w19v) 31 2 w21v) := zIv.put w20 (show 0 ≤ w21v.toInt ∧ w21v.toInt ≤ 8 from ⟨by omega, by omega⟩)
      refine zs_putI (pc := 45) t213_45 (zk1 (w16s.k fk_zMc_31)) rfl ?_
      refine zs_iconst (pc := 48) t213_48 (v := 1) (by decide) ?_
      have w23 : (zI M 31 1).toInt = (zI M 31 1).toInt := (congrArg Int32.toInt rfl).trans rfl
      have w24 : (zI M 31 2).toInt = (zI M 31 2).toInt := (congrArg Int32.toInt rfl).trans rfl
      have w25 : (zI (zsI (zsI w16M 31 1 w19v) 31 2 w21v) 31 1).toInt = w19v.toInt := (congrArg Int32.toInt ((zIoj (by decide)).trans zIs)).trans rfl
      have w26 : (zI (zsI (zsI w16M 31 1 w19v) 31 2 w21v) 31 2).toInt = ((zI M 31 2).toInt - 1) := (congrArg Int32.toInt zIs).trans w21
      have g1 := x1.1
      have w27 : (zI (zsI (zsI w16M 31 1 w19v) 31 2 w21v) 31 1).toInt = w19v.toInt := (congrArg Int32.toInt ((zIoj (by decide)).trans zIs)).trans rfl
      exact zs_iret (pc := 49) t213_49 mr213 (by decide) (hQ _ _ w16s w22 ((((zFr.refl).trans (w16F.mono rfl)).put rfl).put rfl) (Or.inr ⟨by decide, by omega, (zSo.fr w16x0 (zEq.tr (zEq.put rfl) (zEq.put rfl))), zHC.pop (q := w13n) (q' := (w13n + 7) % 8) x1 (by omega) (by omega) rfl (by omega) (by omega) rfl (by omega) (fun k j k1 k2 => ((zIo (by omega)).trans ((zIo (by omega)).trans (w16F k j (zoC (by omega) (zoC (by omega) rfl))))))⟩) (by decide) (by decide))
    by_cases w28 : (zI M 31 1).toInt = 1
    · refine zs_aald (pc := 18) t213_18 (j := 1) (Or.inl (zk1 (hs.k fk_zMc_32))) ((rfl : (zI M 31 1).toInt = (zI M 31 1).toInt).trans w28) (zk2 (hs.k fk_zMc_32) (by decide)) (hs.a fp_zMc_32_1) ?_
      have w29 : (zI M 31 1).toInt = (zI M 31 1).toInt := (congrArg Int32.toInt rfl).trans rfl
      have w30 : (zI M 31 2).toInt = (zI M 31 2).toInt := (congrArg Int32.toInt rfl).trans rfl
      obtain ⟨w31n, w31⟩ : ∃ n : Nat, (zI M 31 1).toInt = (n : Int) := ⟨((zI M 31 1).toInt).toNat, by omega⟩
      have w32 : (zI M 31 1).toInt = (zI M 31 1).toInt := (congrArg Int32.toInt rfl).trans rfl
      have w33 : (zI M 31 2).toInt = (zI M 31 2).toInt := (congrArg Int32.toInt rfl).trans rfl
      have g1 := x1.1
      refine zs_invV (pc := 19) (k := 7) (as' := [.ref 47]) (st := []) t213_19 mf23 rfl rfl (Or.inl ⟨by decide, (zk1 (hs.k fk_zMc_7))⟩) ⟨by decide, by decide, Nat.le_of_ble_eq_true rfl, Nat.le_of_ble_eq_true rfl⟩ (X23_7_47 hs hI (zHC.top (q := 1) x1 (by omega) (by omega) (by omega)) ?_) (fun _ _ q => q)
      intro w34M w34s w34I w34F w34x0
      show zGo X l 3 0 0 213 22 [(0, .ref 31), (1, .ref 7)] [] w34M _
      refine zs_aload_n (pc := 22) t213_22 rfl ?_
      refine zs_aload_n (pc := 23) t213_23 rfl ?_
      refine zs_get (pc := 24) t213_24 (by decide) (zk1 (w34s.k fk_zMc_31)) (zfvi rfl ((w34F 31 1 rfl).trans rfl)) ?_
      refine zs_bipush (pc := 27) t213_27 (v := 8) (by decide) ?_
      obtain ⟨w35v, w35e, w35⟩ := ziadd (a := (zI M 31 1)) (b := (8 : Int32)) rfl li8 (by omega) (by omega)
      refine zs_iadd (pc := 29) t213_29 (c := w35v) w35e ?_
      refine zs_iconst (pc := 30) t213_30 (v := 1) (by decide) ?_
      obtain ⟨w36v, w36e, w36⟩ := zisub (a := w35v) (b := (1 : Int32)) w35 li1 (by omega) (by omega)
      refine zs_isub (pc := 31) t213_31 (c := w36v) w36e ?_
      refine zs_bipush (pc := 32) t213_32 (v := 8) (by decide) ?_
      obtain ⟨w37v, w37⟩ : ∃ v, w36v - w36v / (8 : Int32) * (8 : Int32) = v := ⟨_, rfl⟩
      have w37g : 0 ≤ w37v.toInt ∧ w37v.toInt ≤ 7 := by rw [← w37]; exact zrem w36 li8 (by omega) (by decide)
      have w37r : w37v.toInt = (((zI M 31 1).toInt + 8) - 1) % 8 := by rw [← w37]; exact zremE w36 li8 (by omega) (by decide)
      refine zs_irem (pc := 34) t213_34 (by decide) (c := w37v) w37 ?_
      have w38 : zIv cLo cHi (zsI w34M 31 1 w37v) := zIv.put w34I (show 0 ≤ w37v.toInt ∧ w37v.toInt ≤ 7 from ⟨by omega, by omega⟩)
      refine zs_putI (pc := 35) t213_35 (zk1 (w34s.k fk_zMc_31)) rfl ?_
      refine zs_aload_n (pc := 38) t213_38 rfl ?_
      refine zs_dup (pc := 39) t213_39 rfl ?_
      refine zs_get (pc := 40) t213_40 (by decide) (zk1 (w34s.k fk_zMc_31)) (zfvi rfl ((zIoj (by decide)).trans ((w34F 31 2 rfl).trans rfl))) ?_
      refine zs_iconst (pc := 43) t213_43 (v := 1) (by decide) ?_
      obtain ⟨w39v, w39e, w39⟩ := zisub (a := (zI M 31 2)) (b := (1 : Int32)) rfl li1 (by omega) (by omega)
      refine zs_isub (pc := 44) t213_44 (c := w39v) w39e ?_
      have w40 : zIv cLo cHi (zsI (zsI w34M 31 1 w37v) 31 2 w39v) := zIv.put w38 (show 0 ≤ w39v.toInt ∧ w39v.toInt ≤ 8 from ⟨by omega, by omega⟩)
      refine zs_putI (pc := 45) t213_45 (zk1 (w34s.k fk_zMc_31)) rfl ?_
      refine zs_iconst (pc := 48) t213_48 (v := 1) (by decide) ?_
      have w41 : (zI M 31 1).toInt = (zI M 31 1).toInt := (congrArg Int32.toInt rfl).trans rfl
      have w42 : (zI M 31 2).toInt = (zI M 31 2).toInt := (congrArg Int32.toInt rfl).trans rfl
      have w43 : (zI (zsI (zsI w34M 31 1 w37v) 31 2 w39v) 31 1).toInt = w37v.toInt := (congrArg Int32.toInt ((zIoj (by decide)).trans zIs)).trans rfl
      have w44 : (zI (zsI (zsI w34M 31 1 w37v) 31 2 w39v) 31 2).toInt = ((zI M 31 2).toInt - 1) := (congrArg Int32.toInt zIs).trans w39
      have g1 := x1.1
      have w45 : (zI (zsI (zsI w34M 31 1 w37v) 31 2 w39v) 31 1).toInt = w37v.toInt := (congrArg Int32.toInt ((zIoj (by decide)).trans zIs)).trans rfl
      exact zs_iret (pc := 49) t213_49 mr213 (by decide) (hQ _ _ w34s w40 ((((zFr.refl).trans (w34F.mono rfl)).put rfl).put rfl) (Or.inr ⟨by decide, by omega, (zSo.fr w34x0 (zEq.tr (zEq.put rfl) (zEq.put rfl))), zHC.pop (q := w31n) (q' := (w31n + 7) % 8) x1 (by omega) (by omega) rfl (by omega) (by omega) rfl (by omega) (fun k j k1 k2 => ((zIo (by omega)).trans ((zIo (by omega)).trans (w34F k j (zoC (by omega) (zoC (by omega) rfl))))))⟩) (by decide) (by decide))
    by_cases w46 : (zI M 31 1).toInt = 2
    · refine zs_aald (pc := 18) t213_18 (j := 2) (Or.inl (zk1 (hs.k fk_zMc_32))) ((rfl : (zI M 31 1).toInt = (zI M 31 1).toInt).trans w46) (zk2 (hs.k fk_zMc_32) (by decide)) (hs.a fp_zMc_32_2) ?_
      have w47 : (zI M 31 1).toInt = (zI M 31 1).toInt := (congrArg Int32.toInt rfl).trans rfl
      have w48 : (zI M 31 2).toInt = (zI M 31 2).toInt := (congrArg Int32.toInt rfl).trans rfl
      obtain ⟨w49n, w49⟩ : ∃ n : Nat, (zI M 31 1).toInt = (n : Int) := ⟨((zI M 31 1).toInt).toNat, by omega⟩
      have w50 : (zI M 31 1).toInt = (zI M 31 1).toInt := (congrArg Int32.toInt rfl).trans rfl
      have w51 : (zI M 31 2).toInt = (zI M 31 2).toInt := (congrArg Int32.toInt rfl).trans rfl
      have g1 := x1.1
      refine zs_invV (pc := 19) (k := 7) (as' := [.ref 59]) (st := []) t213_19 mf23 rfl rfl (Or.inl ⟨by decide, (zk1 (hs.k fk_zMc_7))⟩) ⟨by decide, by decide, Nat.le_of_ble_eq_true rfl, Nat.le_of_ble_eq_true rfl⟩ (X23_7_59 hs hI (zHC.top (q := 2) x1 (by omega) (by omega) (by omega)) ?_) (fun _ _ q => q)
      intro w52M w52s w52I w52F w52x0
      show zGo X l 3 0 0 213 22 [(0, .ref 31), (1, .ref 7)] [] w52M _
      refine zs_aload_n (pc := 22) t213_22 rfl ?_
      refine zs_aload_n (pc := 23) t213_23 rfl ?_
      refine zs_get (pc := 24) t213_24 (by decide) (zk1 (w52s.k fk_zMc_31)) (zfvi rfl ((w52F 31 1 rfl).trans rfl)) ?_
      refine zs_bipush (pc := 27) t213_27 (v := 8) (by decide) ?_
      obtain ⟨w53v, w53e, w53⟩ := ziadd (a := (zI M 31 1)) (b := (8 : Int32)) rfl li8 (by omega) (by omega)
      refine zs_iadd (pc := 29) t213_29 (c := w53v) w53e ?_
      refine zs_iconst (pc := 30) t213_30 (v := 1) (by decide) ?_
      obtain ⟨w54v, w54e, w54⟩ := zisub (a := w53v) (b := (1 : Int32)) w53 li1 (by omega) (by omega)
      refine zs_isub (pc := 31) t213_31 (c := w54v) w54e ?_
      refine zs_bipush (pc := 32) t213_32 (v := 8) (by decide) ?_
      obtain ⟨w55v, w55⟩ : ∃ v, w54v - w54v / (8 : Int32) * (8 : Int32) = v := ⟨_, rfl⟩
      have w55g : 0 ≤ w55v.toInt ∧ w55v.toInt ≤ 7 := by rw [← w55]; exact zrem w54 li8 (by omega) (by decide)
      have w55r : w55v.toInt = (((zI M 31 1).toInt + 8) - 1) % 8 := by rw [← w55]; exact zremE w54 li8 (by omega) (by decide)
      refine zs_irem (pc := 34) t213_34 (by decide) (c := w55v) w55 ?_
      have w56 : zIv cLo cHi (zsI w52M 31 1 w55v) := zIv.put w52I (show 0 ≤ w55v.toInt ∧ w55v.toInt ≤ 7 from ⟨by omega, by omega⟩)
      refine zs_putI (pc := 35) t213_35 (zk1 (w52s.k fk_zMc_31)) rfl ?_
      refine zs_aload_n (pc := 38) t213_38 rfl ?_
      refine zs_dup (pc := 39) t213_39 rfl ?_
      refine zs_get (pc := 40) t213_40 (by decide) (zk1 (w52s.k fk_zMc_31)) (zfvi rfl ((zIoj (by decide)).trans ((w52F 31 2 rfl).trans rfl))) ?_
      refine zs_iconst (pc := 43) t213_43 (v := 1) (by decide) ?_
      obtain ⟨w57v, w57e, w57⟩ := zisub (a := (zI M 31 2)) (b := (1 : Int32)) rfl li1 (by omega) (by omega)
      refine zs_isub (pc := 44) t213_44 (c := w57v) w57e ?_
      have w58 : zIv cLo cHi (zsI (zsI w52M 31 1 w55v) 31 2 w57v) := zIv.put w56 (show 0 ≤ w57v.toInt ∧ w57v.toInt ≤ 8 from ⟨by omega, by omega⟩)
      refine zs_putI (pc := 45) t213_45 (zk1 (w52s.k fk_zMc_31)) rfl ?_
      refine zs_iconst (pc := 48) t213_48 (v := 1) (by decide) ?_
      have w59 : (zI M 31 1).toInt = (zI M 31 1).toInt := (congrArg Int32.toInt rfl).trans rfl
      have w60 : (zI M 31 2).toInt = (zI M 31 2).toInt := (congrArg Int32.toInt rfl).trans rfl
      have w61 : (zI (zsI (zsI w52M 31 1 w55v) 31 2 w57v) 31 1).toInt = w55v.toInt := (congrArg Int32.toInt ((zIoj (by decide)).trans zIs)).trans rfl
      have w62 : (zI (zsI (zsI w52M 31 1 w55v) 31 2 w57v) 31 2).toInt = ((zI M 31 2).toInt - 1) := (congrArg Int32.toInt zIs).trans w57
      have g1 := x1.1
      have w63 : (zI (zsI (zsI w52M 31 1 w55v) 31 2 w57v) 31 1).toInt = w55v.toInt := (congrArg Int32.toInt ((zIoj (by decide)).trans zIs)).trans rfl
      exact zs_iret (pc := 49) t213_49 mr213 (by decide) (hQ _ _ w52s w58 ((((zFr.refl).trans (w52F.mono rfl)).put rfl).put rfl) (Or.inr ⟨by decide, by omega, (zSo.fr w52x0 (zEq.tr (zEq.put rfl) (zEq.put rfl))), zHC.pop (q := w49n) (q' := (w49n + 7) % 8) x1 (by omega) (by omega) rfl (by omega) (by omega) rfl (by omega) (fun k j k1 k2 => ((zIo (by omega)).trans ((zIo (by omega)).trans (w52F k j (zoC (by omega) (zoC (by omega) rfl))))))⟩) (by decide) (by decide))
    by_cases w64 : (zI M 31 1).toInt = 3
    · refine zs_aald (pc := 18) t213_18 (j := 3) (Or.inl (zk1 (hs.k fk_zMc_32))) ((rfl : (zI M 31 1).toInt = (zI M 31 1).toInt).trans w64) (zk2 (hs.k fk_zMc_32) (by decide)) (hs.a fp_zMc_32_3) ?_
      have w65 : (zI M 31 1).toInt = (zI M 31 1).toInt := (congrArg Int32.toInt rfl).trans rfl
      have w66 : (zI M 31 2).toInt = (zI M 31 2).toInt := (congrArg Int32.toInt rfl).trans rfl
      obtain ⟨w67n, w67⟩ : ∃ n : Nat, (zI M 31 1).toInt = (n : Int) := ⟨((zI M 31 1).toInt).toNat, by omega⟩
      have w68 : (zI M 31 1).toInt = (zI M 31 1).toInt := (congrArg Int32.toInt rfl).trans rfl
      have w69 : (zI M 31 2).toInt = (zI M 31 2).toInt := (congrArg Int32.toInt rfl).trans rfl
      have g1 := x1.1
      refine zs_invV (pc := 19) (k := 7) (as' := [.ref 71]) (st := []) t213_19 mf23 rfl rfl (Or.inl ⟨by decide, (zk1 (hs.k fk_zMc_7))⟩) ⟨by decide, by decide, Nat.le_of_ble_eq_true rfl, Nat.le_of_ble_eq_true rfl⟩ (X23_7_71 hs hI (zHC.top (q := 3) x1 (by omega) (by omega) (by omega)) ?_) (fun _ _ q => q)
      intro w70M w70s w70I w70F w70x0
      show zGo X l 3 0 0 213 22 [(0, .ref 31), (1, .ref 7)] [] w70M _
      refine zs_aload_n (pc := 22) t213_22 rfl ?_
      refine zs_aload_n (pc := 23) t213_23 rfl ?_
      refine zs_get (pc := 24) t213_24 (by decide) (zk1 (w70s.k fk_zMc_31)) (zfvi rfl ((w70F 31 1 rfl).trans rfl)) ?_
      refine zs_bipush (pc := 27) t213_27 (v := 8) (by decide) ?_
      obtain ⟨w71v, w71e, w71⟩ := ziadd (a := (zI M 31 1)) (b := (8 : Int32)) rfl li8 (by omega) (by omega)
      refine zs_iadd (pc := 29) t213_29 (c := w71v) w71e ?_
      refine zs_iconst (pc := 30) t213_30 (v := 1) (by decide) ?_
      obtain ⟨w72v, w72e, w72⟩ := zisub (a := w71v) (b := (1 : Int32)) w71 li1 (by omega) (by omega)
      refine zs_isub (pc := 31) t213_31 (c := w72v) w72e ?_
      refine zs_bipush (pc := 32) t213_32 (v := 8) (by decide) ?_
      obtain ⟨w73v, w73⟩ : ∃ v, w72v - w72v / (8 : Int32) * (8 : Int32) = v := ⟨_, rfl⟩
      have w73g : 0 ≤ w73v.toInt ∧ w73v.toInt ≤ 7 := by rw [← w73]; exact zrem w72 li8 (by omega) (by decide)
      have w73r : w73v.toInt = (((zI M 31 1).toInt + 8) - 1) % 8 := by rw [← w73]; exact zremE w72 li8 (by omega) (by decide)
      refine zs_irem (pc := 34) t213_34 (by decide) (c := w73v) w73 ?_
      have w74 : zIv cLo cHi (zsI w70M 31 1 w73v) := zIv.put w70I (show 0 ≤ w73v.toInt ∧ w73v.toInt ≤ 7 from ⟨by omega, by omega⟩)
      refine zs_putI (pc := 35) t213_35 (zk1 (w70s.k fk_zMc_31)) rfl ?_
      refine zs_aload_n (pc := 38) t213_38 rfl ?_
      refine zs_dup (pc := 39) t213_39 rfl ?_
      refine zs_get (pc := 40) t213_40 (by decide) (zk1 (w70s.k fk_zMc_31)) (zfvi rfl ((zIoj (by decide)).trans ((w70F 31 2 rfl).trans rfl))) ?_
      refine zs_iconst (pc := 43) t213_43 (v := 1) (by decide) ?_
      obtain ⟨w75v, w75e, w75⟩ := zisub (a := (zI M 31 2)) (b := (1 : Int32)) rfl li1 (by omega) (by omega)
      refine zs_isub (pc := 44) t213_44 (c := w75v) w75e ?_
      have w76 : zIv cLo cHi (zsI (zsI w70M 31 1 w73v) 31 2 w75v) := zIv.put w74 (show 0 ≤ w75v.toInt ∧ w75v.toInt ≤ 8 from ⟨by omega, by omega⟩)
      refine zs_putI (pc := 45) t213_45 (zk1 (w70s.k fk_zMc_31)) rfl ?_
      refine zs_iconst (pc := 48) t213_48 (v := 1) (by decide) ?_
      have w77 : (zI M 31 1).toInt = (zI M 31 1).toInt := (congrArg Int32.toInt rfl).trans rfl
      have w78 : (zI M 31 2).toInt = (zI M 31 2).toInt := (congrArg Int32.toInt rfl).trans rfl
      have w79 : (zI (zsI (zsI w70M 31 1 w73v) 31 2 w75v) 31 1).toInt = w73v.toInt := (congrArg Int32.toInt ((zIoj (by decide)).trans zIs)).trans rfl
      have w80 : (zI (zsI (zsI w70M 31 1 w73v) 31 2 w75v) 31 2).toInt = ((zI M 31 2).toInt - 1) := (congrArg Int32.toInt zIs).trans w75
      have g1 := x1.1
      have w81 : (zI (zsI (zsI w70M 31 1 w73v) 31 2 w75v) 31 1).toInt = w73v.toInt := (congrArg Int32.toInt ((zIoj (by decide)).trans zIs)).trans rfl
      exact zs_iret (pc := 49) t213_49 mr213 (by decide) (hQ _ _ w70s w76 ((((zFr.refl).trans (w70F.mono rfl)).put rfl).put rfl) (Or.inr ⟨by decide, by omega, (zSo.fr w70x0 (zEq.tr (zEq.put rfl) (zEq.put rfl))), zHC.pop (q := w67n) (q' := (w67n + 7) % 8) x1 (by omega) (by omega) rfl (by omega) (by omega) rfl (by omega) (fun k j k1 k2 => ((zIo (by omega)).trans ((zIo (by omega)).trans (w70F k j (zoC (by omega) (zoC (by omega) rfl))))))⟩) (by decide) (by decide))
    by_cases w82 : (zI M 31 1).toInt = 4
    · refine zs_aald (pc := 18) t213_18 (j := 4) (Or.inl (zk1 (hs.k fk_zMc_32))) ((rfl : (zI M 31 1).toInt = (zI M 31 1).toInt).trans w82) (zk2 (hs.k fk_zMc_32) (by decide)) (hs.a fp_zMc_32_4) ?_
      have w83 : (zI M 31 1).toInt = (zI M 31 1).toInt := (congrArg Int32.toInt rfl).trans rfl
      have w84 : (zI M 31 2).toInt = (zI M 31 2).toInt := (congrArg Int32.toInt rfl).trans rfl
      obtain ⟨w85n, w85⟩ : ∃ n : Nat, (zI M 31 1).toInt = (n : Int) := ⟨((zI M 31 1).toInt).toNat, by omega⟩
      have w86 : (zI M 31 1).toInt = (zI M 31 1).toInt := (congrArg Int32.toInt rfl).trans rfl
      have w87 : (zI M 31 2).toInt = (zI M 31 2).toInt := (congrArg Int32.toInt rfl).trans rfl
      have g1 := x1.1
      refine zs_invV (pc := 19) (k := 7) (as' := [.ref 83]) (st := []) t213_19 mf23 rfl rfl (Or.inl ⟨by decide, (zk1 (hs.k fk_zMc_7))⟩) ⟨by decide, by decide, Nat.le_of_ble_eq_true rfl, Nat.le_of_ble_eq_true rfl⟩ (X23_7_83 hs hI (zHC.top (q := 4) x1 (by omega) (by omega) (by omega)) ?_) (fun _ _ q => q)
      intro w88M w88s w88I w88F w88x0
      show zGo X l 3 0 0 213 22 [(0, .ref 31), (1, .ref 7)] [] w88M _
      refine zs_aload_n (pc := 22) t213_22 rfl ?_
      refine zs_aload_n (pc := 23) t213_23 rfl ?_
      refine zs_get (pc := 24) t213_24 (by decide) (zk1 (w88s.k fk_zMc_31)) (zfvi rfl ((w88F 31 1 rfl).trans rfl)) ?_
      refine zs_bipush (pc := 27) t213_27 (v := 8) (by decide) ?_
      obtain ⟨w89v, w89e, w89⟩ := ziadd (a := (zI M 31 1)) (b := (8 : Int32)) rfl li8 (by omega) (by omega)
      refine zs_iadd (pc := 29) t213_29 (c := w89v) w89e ?_
      refine zs_iconst (pc := 30) t213_30 (v := 1) (by decide) ?_
      obtain ⟨w90v, w90e, w90⟩ := zisub (a := w89v) (b := (1 : Int32)) w89 li1 (by omega) (by omega)
      refine zs_isub (pc := 31) t213_31 (c := w90v) w90e ?_
      refine zs_bipush (pc := 32) t213_32 (v := 8) (by decide) ?_
      obtain ⟨w91v, w91⟩ : ∃ v, w90v - w90v / (8 : Int32) * (8 : Int32) = v := ⟨_, rfl⟩
      have w91g : 0 ≤ w91v.toInt ∧ w91v.toInt ≤ 7 := by rw [← w91]; exact zrem w90 li8 (by omega) (by decide)
      have w91r : w91v.toInt = (((zI M 31 1).toInt + 8) - 1) % 8 := by rw [← w91]; exact zremE w90 li8 (by omega) (by decide)
      refine zs_irem (pc := 34) t213_34 (by decide) (c := w91v) w91 ?_
      have w92 : zIv cLo cHi (zsI w88M 31 1 w91v) := zIv.put w88I (show 0 ≤ w91v.toInt ∧ w91v.toInt ≤ 7 from ⟨by omega, by omega⟩)
      refine zs_putI (pc := 35) t213_35 (zk1 (w88s.k fk_zMc_31)) rfl ?_
      refine zs_aload_n (pc := 38) t213_38 rfl ?_
      refine zs_dup (pc := 39) t213_39 rfl ?_
      refine zs_get (pc := 40) t213_40 (by decide) (zk1 (w88s.k fk_zMc_31)) (zfvi rfl ((zIoj (by decide)).trans ((w88F 31 2 rfl).trans rfl))) ?_
      refine zs_iconst (pc := 43) t213_43 (v := 1) (by decide) ?_
      obtain ⟨w93v, w93e, w93⟩ := zisub (a := (zI M 31 2)) (b := (1 : Int32)) rfl li1 (by omega) (by omega)
      refine zs_isub (pc := 44) t213_44 (c := w93v) w93e ?_
      have w94 : zIv cLo cHi (zsI (zsI w88M 31 1 w91v) 31 2 w93v) := zIv.put w92 (show 0 ≤ w93v.toInt ∧ w93v.toInt ≤ 8 from ⟨by omega, by omega⟩)
      refine zs_putI (pc := 45) t213_45 (zk1 (w88s.k fk_zMc_31)) rfl ?_
      refine zs_iconst (pc := 48) t213_48 (v := 1) (by decide) ?_
      have w95 : (zI M 31 1).toInt = (zI M 31 1).toInt := (congrArg Int32.toInt rfl).trans rfl
      have w96 : (zI M 31 2).toInt = (zI M 31 2).toInt := (congrArg Int32.toInt rfl).trans rfl
      have w97 : (zI (zsI (zsI w88M 31 1 w91v) 31 2 w93v) 31 1).toInt = w91v.toInt := (congrArg Int32.toInt ((zIoj (by decide)).trans zIs)).trans rfl
      have w98 : (zI (zsI (zsI w88M 31 1 w91v) 31 2 w93v) 31 2).toInt = ((zI M 31 2).toInt - 1) := (congrArg Int32.toInt zIs).trans w93
      have g1 := x1.1
      have w99 : (zI (zsI (zsI w88M 31 1 w91v) 31 2 w93v) 31 1).toInt = w91v.toInt := (congrArg Int32.toInt ((zIoj (by decide)).trans zIs)).trans rfl
      exact zs_iret (pc := 49) t213_49 mr213 (by decide) (hQ _ _ w88s w94 ((((zFr.refl).trans (w88F.mono rfl)).put rfl).put rfl) (Or.inr ⟨by decide, by omega, (zSo.fr w88x0 (zEq.tr (zEq.put rfl) (zEq.put rfl))), zHC.pop (q := w85n) (q' := (w85n + 7) % 8) x1 (by omega) (by omega) rfl (by omega) (by omega) rfl (by omega) (fun k j k1 k2 => ((zIo (by omega)).trans ((zIo (by omega)).trans (w88F k j (zoC (by omega) (zoC (by omega) rfl))))))⟩) (by decide) (by decide))
    by_cases w100 : (zI M 31 1).toInt = 5
    · refine zs_aald (pc := 18) t213_18 (j := 5) (Or.inl (zk1 (hs.k fk_zMc_32))) ((rfl : (zI M 31 1).toInt = (zI M 31 1).toInt).trans w100) (zk2 (hs.k fk_zMc_32) (by decide)) (hs.a fp_zMc_32_5) ?_
      have w101 : (zI M 31 1).toInt = (zI M 31 1).toInt := (congrArg Int32.toInt rfl).trans rfl
      have w102 : (zI M 31 2).toInt = (zI M 31 2).toInt := (congrArg Int32.toInt rfl).trans rfl
      obtain ⟨w103n, w103⟩ : ∃ n : Nat, (zI M 31 1).toInt = (n : Int) := ⟨((zI M 31 1).toInt).toNat, by omega⟩
      have w104 : (zI M 31 1).toInt = (zI M 31 1).toInt := (congrArg Int32.toInt rfl).trans rfl
      have w105 : (zI M 31 2).toInt = (zI M 31 2).toInt := (congrArg Int32.toInt rfl).trans rfl
      have g1 := x1.1
      refine zs_invV (pc := 19) (k := 7) (as' := [.ref 95]) (st := []) t213_19 mf23 rfl rfl (Or.inl ⟨by decide, (zk1 (hs.k fk_zMc_7))⟩) ⟨by decide, by decide, Nat.le_of_ble_eq_true rfl, Nat.le_of_ble_eq_true rfl⟩ (X23_7_95 hs hI (zHC.top (q := 5) x1 (by omega) (by omega) (by omega)) ?_) (fun _ _ q => q)
      intro w106M w106s w106I w106F w106x0
      show zGo X l 3 0 0 213 22 [(0, .ref 31), (1, .ref 7)] [] w106M _
      refine zs_aload_n (pc := 22) t213_22 rfl ?_
      refine zs_aload_n (pc := 23) t213_23 rfl ?_
      refine zs_get (pc := 24) t213_24 (by decide) (zk1 (w106s.k fk_zMc_31)) (zfvi rfl ((w106F 31 1 rfl).trans rfl)) ?_
      refine zs_bipush (pc := 27) t213_27 (v := 8) (by decide) ?_
      obtain ⟨w107v, w107e, w107⟩ := ziadd (a := (zI M 31 1)) (b := (8 : Int32)) rfl li8 (by omega) (by omega)
      refine zs_iadd (pc := 29) t213_29 (c := w107v) w107e ?_
      refine zs_iconst (pc := 30) t213_30 (v := 1) (by decide) ?_
      obtain ⟨w108v, w108e, w108⟩ := zisub (a := w107v) (b := (1 : Int32)) w107 li1 (by omega) (by omega)
      refine zs_isub (pc := 31) t213_31 (c := w108v) w108e ?_
      refine zs_bipush (pc := 32) t213_32 (v := 8) (by decide) ?_
      obtain ⟨w109v, w109⟩ : ∃ v, w108v - w108v / (8 : Int32) * (8 : Int32) = v := ⟨_, rfl⟩
      have w109g : 0 ≤ w109v.toInt ∧ w109v.toInt ≤ 7 := by rw [← w109]; exact zrem w108 li8 (by omega) (by decide)
      have w109r : w109v.toInt = (((zI M 31 1).toInt + 8) - 1) % 8 := by rw [← w109]; exact zremE w108 li8 (by omega) (by decide)
      refine zs_irem (pc := 34) t213_34 (by decide) (c := w109v) w109 ?_
      have w110 : zIv cLo cHi (zsI w106M 31 1 w109v) := zIv.put w106I (show 0 ≤ w109v.toInt ∧ w109v.toInt ≤ 7 from ⟨by omega, by omega⟩)
      refine zs_putI (pc := 35) t213_35 (zk1 (w106s.k fk_zMc_31)) rfl ?_
      refine zs_aload_n (pc := 38) t213_38 rfl ?_
      refine zs_dup (pc := 39) t213_39 rfl ?_
      refine zs_get (pc := 40) t213_40 (by decide) (zk1 (w106s.k fk_zMc_31)) (zfvi rfl ((zIoj (by decide)).trans ((w106F 31 2 rfl).trans rfl))) ?_
      refine zs_iconst (pc := 43) t213_43 (v := 1) (by decide) ?_
      obtain ⟨w111v, w111e, w111⟩ := zisub (a := (zI M 31 2)) (b := (1 : Int32)) rfl li1 (by omega) (by omega)
      refine zs_isub (pc := 44) t213_44 (c := w111v) w111e ?_
      have w112 : zIv cLo cHi (zsI (zsI w106M 31 1 w109v) 31 2 w111v) := zIv.put w110 (show 0 ≤ w111v.toInt ∧ w111v.toInt ≤ 8 from ⟨by omega, by omega⟩)
      refine zs_putI (pc := 45) t213_45 (zk1 (w106s.k fk_zMc_31)) rfl ?_
      refine zs_iconst (pc := 48) t213_48 (v := 1) (by decide) ?_
      have w113 : (zI M 31 1).toInt = (zI M 31 1).toInt := (congrArg Int32.toInt rfl).trans rfl
      have w114 : (zI M 31 2).toInt = (zI M 31 2).toInt := (congrArg Int32.toInt rfl).trans rfl
      have w115 : (zI (zsI (zsI w106M 31 1 w109v) 31 2 w111v) 31 1).toInt = w109v.toInt := (congrArg Int32.toInt ((zIoj (by decide)).trans zIs)).trans rfl
      have w116 : (zI (zsI (zsI w106M 31 1 w109v) 31 2 w111v) 31 2).toInt = ((zI M 31 2).toInt - 1) := (congrArg Int32.toInt zIs).trans w111
      have g1 := x1.1
      have w117 : (zI (zsI (zsI w106M 31 1 w109v) 31 2 w111v) 31 1).toInt = w109v.toInt := (congrArg Int32.toInt ((zIoj (by decide)).trans zIs)).trans rfl
      exact zs_iret (pc := 49) t213_49 mr213 (by decide) (hQ _ _ w106s w112 ((((zFr.refl).trans (w106F.mono rfl)).put rfl).put rfl) (Or.inr ⟨by decide, by omega, (zSo.fr w106x0 (zEq.tr (zEq.put rfl) (zEq.put rfl))), zHC.pop (q := w103n) (q' := (w103n + 7) % 8) x1 (by omega) (by omega) rfl (by omega) (by omega) rfl (by omega) (fun k j k1 k2 => ((zIo (by omega)).trans ((zIo (by omega)).trans (w106F k j (zoC (by omega) (zoC (by omega) rfl))))))⟩) (by decide) (by decide))
    by_cases w118 : (zI M 31 1).toInt = 6
    · refine zs_aald (pc := 18) t213_18 (j := 6) (Or.inl (zk1 (hs.k fk_zMc_32))) ((rfl : (zI M 31 1).toInt = (zI M 31 1).toInt).trans w118) (zk2 (hs.k fk_zMc_32) (by decide)) (hs.a fp_zMc_32_6) ?_
      have w119 : (zI M 31 1).toInt = (zI M 31 1).toInt := (congrArg Int32.toInt rfl).trans rfl
      have w120 : (zI M 31 2).toInt = (zI M 31 2).toInt := (congrArg Int32.toInt rfl).trans rfl
      obtain ⟨w121n, w121⟩ : ∃ n : Nat, (zI M 31 1).toInt = (n : Int) := ⟨((zI M 31 1).toInt).toNat, by omega⟩
      have w122 : (zI M 31 1).toInt = (zI M 31 1).toInt := (congrArg Int32.toInt rfl).trans rfl
      have w123 : (zI M 31 2).toInt = (zI M 31 2).toInt := (congrArg Int32.toInt rfl).trans rfl
      have g1 := x1.1
      refine zs_invV (pc := 19) (k := 7) (as' := [.ref 107]) (st := []) t213_19 mf23 rfl rfl (Or.inl ⟨by decide, (zk1 (hs.k fk_zMc_7))⟩) ⟨by decide, by decide, Nat.le_of_ble_eq_true rfl, Nat.le_of_ble_eq_true rfl⟩ (X23_7_107 hs hI (zHC.top (q := 6) x1 (by omega) (by omega) (by omega)) ?_) (fun _ _ q => q)
      intro w124M w124s w124I w124F w124x0
      show zGo X l 3 0 0 213 22 [(0, .ref 31), (1, .ref 7)] [] w124M _
      refine zs_aload_n (pc := 22) t213_22 rfl ?_
      refine zs_aload_n (pc := 23) t213_23 rfl ?_
      refine zs_get (pc := 24) t213_24 (by decide) (zk1 (w124s.k fk_zMc_31)) (zfvi rfl ((w124F 31 1 rfl).trans rfl)) ?_
      refine zs_bipush (pc := 27) t213_27 (v := 8) (by decide) ?_
      obtain ⟨w125v, w125e, w125⟩ := ziadd (a := (zI M 31 1)) (b := (8 : Int32)) rfl li8 (by omega) (by omega)
      refine zs_iadd (pc := 29) t213_29 (c := w125v) w125e ?_
      refine zs_iconst (pc := 30) t213_30 (v := 1) (by decide) ?_
      obtain ⟨w126v, w126e, w126⟩ := zisub (a := w125v) (b := (1 : Int32)) w125 li1 (by omega) (by omega)
      refine zs_isub (pc := 31) t213_31 (c := w126v) w126e ?_
      refine zs_bipush (pc := 32) t213_32 (v := 8) (by decide) ?_
      obtain ⟨w127v, w127⟩ : ∃ v, w126v - w126v / (8 : Int32) * (8 : Int32) = v := ⟨_, rfl⟩
      have w127g : 0 ≤ w127v.toInt ∧ w127v.toInt ≤ 7 := by rw [← w127]; exact zrem w126 li8 (by omega) (by decide)
      have w127r : w127v.toInt = (((zI M 31 1).toInt + 8) - 1) % 8 := by rw [← w127]; exact zremE w126 li8 (by omega) (by decide)
      refine zs_irem (pc := 34) t213_34 (by decide) (c := w127v) w127 ?_
      have w128 : zIv cLo cHi (zsI w124M 31 1 w127v) := zIv.put w124I (show 0 ≤ w127v.toInt ∧ w127v.toInt ≤ 7 from ⟨by omega, by omega⟩)
      refine zs_putI (pc := 35) t213_35 (zk1 (w124s.k fk_zMc_31)) rfl ?_
      refine zs_aload_n (pc := 38) t213_38 rfl ?_
      refine zs_dup (pc := 39) t213_39 rfl ?_
      refine zs_get (pc := 40) t213_40 (by decide) (zk1 (w124s.k fk_zMc_31)) (zfvi rfl ((zIoj (by decide)).trans ((w124F 31 2 rfl).trans rfl))) ?_
      refine zs_iconst (pc := 43) t213_43 (v := 1) (by decide) ?_
      obtain ⟨w129v, w129e, w129⟩ := zisub (a := (zI M 31 2)) (b := (1 : Int32)) rfl li1 (by omega) (by omega)
      refine zs_isub (pc := 44) t213_44 (c := w129v) w129e ?_
      have w130 : zIv cLo cHi (zsI (zsI w124M 31 1 w127v) 31 2 w129v) := zIv.put w128 (show 0 ≤ w129v.toInt ∧ w129v.toInt ≤ 8 from ⟨by omega, by omega⟩)
      refine zs_putI (pc := 45) t213_45 (zk1 (w124s.k fk_zMc_31)) rfl ?_
      refine zs_iconst (pc := 48) t213_48 (v := 1) (by decide) ?_
      have w131 : (zI M 31 1).toInt = (zI M 31 1).toInt := (congrArg Int32.toInt rfl).trans rfl
      have w132 : (zI M 31 2).toInt = (zI M 31 2).toInt := (congrArg Int32.toInt rfl).trans rfl
      have w133 : (zI (zsI (zsI w124M 31 1 w127v) 31 2 w129v) 31 1).toInt = w127v.toInt := (congrArg Int32.toInt ((zIoj (by decide)).trans zIs)).trans rfl
      have w134 : (zI (zsI (zsI w124M 31 1 w127v) 31 2 w129v) 31 2).toInt = ((zI M 31 2).toInt - 1) := (congrArg Int32.toInt zIs).trans w129
      have g1 := x1.1
      have w135 : (zI (zsI (zsI w124M 31 1 w127v) 31 2 w129v) 31 1).toInt = w127v.toInt := (congrArg Int32.toInt ((zIoj (by decide)).trans zIs)).trans rfl
      exact zs_iret (pc := 49) t213_49 mr213 (by decide) (hQ _ _ w124s w130 ((((zFr.refl).trans (w124F.mono rfl)).put rfl).put rfl) (Or.inr ⟨by decide, by omega, (zSo.fr w124x0 (zEq.tr (zEq.put rfl) (zEq.put rfl))), zHC.pop (q := w121n) (q' := (w121n + 7) % 8) x1 (by omega) (by omega) rfl (by omega) (by omega) rfl (by omega) (fun k j k1 k2 => ((zIo (by omega)).trans ((zIo (by omega)).trans (w124F k j (zoC (by omega) (zoC (by omega) rfl))))))⟩) (by decide) (by decide))
    have w136 : (zI M 31 1).toInt = 7 := by omega
    refine zs_aald (pc := 18) t213_18 (j := 7) (Or.inl (zk1 (hs.k fk_zMc_32))) ((rfl : (zI M 31 1).toInt = (zI M 31 1).toInt).trans w136) (zk2 (hs.k fk_zMc_32) (by decide)) (hs.a fp_zMc_32_7) ?_
    have w137 : (zI M 31 1).toInt = (zI M 31 1).toInt := (congrArg Int32.toInt rfl).trans rfl
    have w138 : (zI M 31 2).toInt = (zI M 31 2).toInt := (congrArg Int32.toInt rfl).trans rfl
    obtain ⟨w139n, w139⟩ : ∃ n : Nat, (zI M 31 1).toInt = (n : Int) := ⟨((zI M 31 1).toInt).toNat, by omega⟩
    have w140 : (zI M 31 1).toInt = (zI M 31 1).toInt := (congrArg Int32.toInt rfl).trans rfl
    have w141 : (zI M 31 2).toInt = (zI M 31 2).toInt := (congrArg Int32.toInt rfl).trans rfl
    have g1 := x1.1
    refine zs_invV (pc := 19) (k := 7) (as' := [.ref 119]) (st := []) t213_19 mf23 rfl rfl (Or.inl ⟨by decide, (zk1 (hs.k fk_zMc_7))⟩) ⟨by decide, by decide, Nat.le_of_ble_eq_true rfl, Nat.le_of_ble_eq_true rfl⟩ (X23_7_119 hs hI (zHC.top (q := 7) x1 (by omega) (by omega) (by omega)) ?_) (fun _ _ q => q)
    intro w142M w142s w142I w142F w142x0
    show zGo X l 3 0 0 213 22 [(0, .ref 31), (1, .ref 7)] [] w142M _
    refine zs_aload_n (pc := 22) t213_22 rfl ?_
    refine zs_aload_n (pc := 23) t213_23 rfl ?_
    refine zs_get (pc := 24) t213_24 (by decide) (zk1 (w142s.k fk_zMc_31)) (zfvi rfl ((w142F 31 1 rfl).trans rfl)) ?_
    refine zs_bipush (pc := 27) t213_27 (v := 8) (by decide) ?_
    obtain ⟨w143v, w143e, w143⟩ := ziadd (a := (zI M 31 1)) (b := (8 : Int32)) rfl li8 (by omega) (by omega)
    refine zs_iadd (pc := 29) t213_29 (c := w143v) w143e ?_
    refine zs_iconst (pc := 30) t213_30 (v := 1) (by decide) ?_
    obtain ⟨w144v, w144e, w144⟩ := zisub (a := w143v) (b := (1 : Int32)) w143 li1 (by omega) (by omega)
    refine zs_isub (pc := 31) t213_31 (c := w144v) w144e ?_
    refine zs_bipush (pc := 32) t213_32 (v := 8) (by decide) ?_
    obtain ⟨w145v, w145⟩ : ∃ v, w144v - w144v / (8 : Int32) * (8 : Int32) = v := ⟨_, rfl⟩
    have w145g : 0 ≤ w145v.toInt ∧ w145v.toInt ≤ 7 := by rw [← w145]; exact zrem w144 li8 (by omega) (by decide)
    have w145r : w145v.toInt = (((zI M 31 1).toInt + 8) - 1) % 8 := by rw [← w145]; exact zremE w144 li8 (by omega) (by decide)
    refine zs_irem (pc := 34) t213_34 (by decide) (c := w145v) w145 ?_
    have w146 : zIv cLo cHi (zsI w142M 31 1 w145v) := zIv.put w142I (show 0 ≤ w145v.toInt ∧ w145v.toInt ≤ 7 from ⟨by omega, by omega⟩)
    refine zs_putI (pc := 35) t213_35 (zk1 (w142s.k fk_zMc_31)) rfl ?_
    refine zs_aload_n (pc := 38) t213_38 rfl ?_
    refine zs_dup (pc := 39) t213_39 rfl ?_
    refine zs_get (pc := 40) t213_40 (by decide) (zk1 (w142s.k fk_zMc_31)) (zfvi rfl ((zIoj (by decide)).trans ((w142F 31 2 rfl).trans rfl))) ?_
    refine zs_iconst (pc := 43) t213_43 (v := 1) (by decide) ?_
    obtain ⟨w147v, w147e, w147⟩ := zisub (a := (zI M 31 2)) (b := (1 : Int32)) rfl li1 (by omega) (by omega)
    refine zs_isub (pc := 44) t213_44 (c := w147v) w147e ?_
    have w148 : zIv cLo cHi (zsI (zsI w142M 31 1 w145v) 31 2 w147v) := zIv.put w146 (show 0 ≤ w147v.toInt ∧ w147v.toInt ≤ 8 from ⟨by omega, by omega⟩)
    refine zs_putI (pc := 45) t213_45 (zk1 (w142s.k fk_zMc_31)) rfl ?_
    refine zs_iconst (pc := 48) t213_48 (v := 1) (by decide) ?_
    have w149 : (zI M 31 1).toInt = (zI M 31 1).toInt := (congrArg Int32.toInt rfl).trans rfl
    have w150 : (zI M 31 2).toInt = (zI M 31 2).toInt := (congrArg Int32.toInt rfl).trans rfl
    have w151 : (zI (zsI (zsI w142M 31 1 w145v) 31 2 w147v) 31 1).toInt = w145v.toInt := (congrArg Int32.toInt ((zIoj (by decide)).trans zIs)).trans rfl
    have w152 : (zI (zsI (zsI w142M 31 1 w145v) 31 2 w147v) 31 2).toInt = ((zI M 31 2).toInt - 1) := (congrArg Int32.toInt zIs).trans w147
    have g1 := x1.1
    have w153 : (zI (zsI (zsI w142M 31 1 w145v) 31 2 w147v) 31 1).toInt = w145v.toInt := (congrArg Int32.toInt ((zIoj (by decide)).trans zIs)).trans rfl
    exact zs_iret (pc := 49) t213_49 mr213 (by decide) (hQ _ _ w142s w148 ((((zFr.refl).trans (w142F.mono rfl)).put rfl).put rfl) (Or.inr ⟨by decide, by omega, (zSo.fr w142x0 (zEq.tr (zEq.put rfl) (zEq.put rfl))), zHC.pop (q := w139n) (q' := (w139n + 7) % 8) x1 (by omega) (by omega) rfl (by omega) (by omega) rfl (by omega) (fun k j k1 k2 => ((zIo (by omega)).trans ((zIo (by omega)).trans (w142F k j (zoC (by omega) (zoC (by omega) rfl))))))⟩) (by decide) (by decide))
  · refine zs_if_neF (pc := 4) t213_4 rfl (by omega) ?_
    refine zs_iconst (pc := 7) t213_7 (v := 0) (by decide) ?_
    have g1 := x1.1
    exact zs_iret (pc := 8) t213_8 mr213 (by decide) (hQ _ _ hs hI (zFr.refl) (Or.inl ⟨by decide, by omega, x0, x1⟩) (by decide) (by decide))
theorem X215_31_7 {X : zX} {l : Launch} {M : zM} {Q : Option Value → zM → Prop} {a : Int32} (hs : zSk zMc M) (hI : zIv cLo cHi M) {F : Nat → Int} {K : Nat → Nat → Int} {T : Nat → Int} (x0 : zSo M 7 F) (x1 : zKC M K T) (hQ : ∀ (M' : zM) (v : Int32), zSk zMc M' → zIv cLo cHi M' → zFr [(34, 34, none), (131, 154, none)] M M' → ((v.toInt = 0 ∧ (a.toInt < 0 ∨ 1 < a.toInt) ∧ zKC M' K T) ∨ (v.toInt = 1 ∧ 0 ≤ a.toInt ∧ a.toInt ≤ 1 ∧ zKC M' (uK K a.toInt.toNat F) (uS T a.toInt.toNat 1))) → 0 ≤ v.toInt → v.toInt ≤ 1 → Q (some (.int v)) M') : zCall X l 3 0 0 215 [.ref 31, .int a, .ref 7] M Q := by
  have ga := zrg a
  refine zs_in (by decide) mf215 (Nat.le_of_ble_eq_true rfl) ?_
  show zGo X l 3 0 0 215 0 [(0, .ref 31), (1, .int a), (2, .ref 7)] [] M _
  have f0 := x0.1
  have w1 := ib7_0 hI
  have w2 : (zI M 7 0).toInt = (zI M 7 0).toInt := (congrArg Int32.toInt rfl).trans rfl
  have w3 := ib7_3 hI
  have w4 : (zI M 7 3).toInt = (zI M 7 3).toInt := (congrArg Int32.toInt rfl).trans rfl
  have w5 := ib7_8 hI
  have w6 : (zI M 7 8).toInt = (zI M 7 8).toInt := (congrArg Int32.toInt rfl).trans rfl
  have f2 := (show (zI M 7 0).toInt = F 0 ∧ (zI M 7 3).toInt = F 1 ∧ (zI M 7 8).toInt = F 2 from ⟨x0.1.1, x0.1.2.1, x0.1.2.2.1⟩)
  refine zs_iload_n (pc := 0) t215_0 rfl ?_
  by_cases w7 : a.toInt = 0
  · refine zs_if_eqT (pc := 1) t215_1 rfl (by omega) ?_
    refine zs_aload_n (pc := 11) t215_11 rfl ?_
    refine zs_get (pc := 12) t215_12 (by decide) (zk1 (hs.k fk_zMc_31)) (hs.p rfl fv_zMc_31_3) ?_
    refine zs_iload_n (pc := 15) t215_15 rfl ?_
    have w8 : a.toInt = 0 := by omega
    refine zs_aald (pc := 16) t215_16 (j := 0) (Or.inl (zk1 (hs.k fk_zMc_33))) ((rfl : a.toInt = a.toInt).trans w8) (zk2 (hs.k fk_zMc_33) (by decide)) (hs.a fp_zMc_33_0) ?_
    refine zs_aload_n (pc := 17) t215_17 rfl ?_
    refine zs_invV (pc := 18) (k := 131) (as' := [.ref 7]) (st := []) t215_18 mf23 rfl rfl (Or.inl ⟨by decide, (zk1 (hs.k fk_zMc_131))⟩) ⟨by decide, by decide, Nat.le_of_ble_eq_true rfl, Nat.le_of_ble_eq_true rfl⟩ (X23_131_7 hs hI x0 ?_) (fun _ _ q => q)
    intro w9M w9s w9I w9F w9x0
    show zGo X l 3 0 0 215 21 [(0, .ref 31), (1, .int a), (2, .ref 7)] [] w9M _
    refine zs_aload_n (pc := 21) t215_21 rfl ?_
    refine zs_get (pc := 22) t215_22 (by decide) (zk1 (w9s.k fk_zMc_31)) (w9s.p rfl fv_zMc_31_4) ?_
    refine zs_iload_n (pc := 25) t215_25 rfl ?_
    refine zs_iconst (pc := 26) t215_26 (v := 1) (by decide) ?_
    obtain ⟨w10n, w10⟩ : ∃ n : Nat, a.toInt = (n : Int) := ⟨(a.toInt).toNat, by omega⟩
    have w11e : vp_nar .boolean (1 : Int32) = (1 : Int32) := by decide
    have w12 : zIv cLo cHi (zsI w9M 34 w10n (1 : Int32)) := zIv.put w9I (show 0 ≤ (1 : Int32).toInt ∧ (1 : Int32).toInt ≤ 1 from ⟨by decide, by decide⟩)
    refine zs_bastZ (pc := 27) t215_27 (j := w10n) (by decide) (zk1 (w9s.k fk_zMc_34)) (show a.toInt = ((w10n : Nat) : Int) by omega) (zk2 (w9s.k fk_zMc_34) (by omega)) w11e ?_
    refine zs_iconst (pc := 28) t215_28 (v := 1) (by decide) ?_
    exact zs_iret (pc := 29) t215_29 mr215 (by decide) (hQ _ _ w9s w12 (((zFr.refl).trans (w9F.mono rfl)).put rfl) (Or.inr ⟨by decide, by omega, by omega, by rw [show a.toInt.toNat = w10n by omega]; exact zKC.put (i := w10n) x1 (by omega) ((congrArg Int32.toInt zIs).trans li1) (by rw [show 131 + 12 * w10n = 131 by omega]; exact (zSo.fr w9x0 (zEq.put rfl))) (fun k k1 => ((zIoj k1).trans (w9F 34 k rfl))) (fun k j k1 k2 k3 => ((zIo (by omega)).trans (w9F k j (zoC (by omega) (zoC (by omega) rfl)))))⟩) (by decide) (by decide))
  · refine zs_if_eqF (pc := 1) t215_1 rfl (by omega) ?_
    refine zs_iload_n (pc := 4) t215_4 rfl ?_
    refine zs_iconst (pc := 5) t215_5 (v := 1) (by decide) ?_
    by_cases w13 : a.toInt = 1
    · refine zs_icmp_eqT (pc := 6) t215_6 rfl li1 (by omega) ?_
      refine zs_aload_n (pc := 11) t215_11 rfl ?_
      refine zs_get (pc := 12) t215_12 (by decide) (zk1 (hs.k fk_zMc_31)) (hs.p rfl fv_zMc_31_3) ?_
      refine zs_iload_n (pc := 15) t215_15 rfl ?_
      have w14 : a.toInt = 1 := by omega
      refine zs_aald (pc := 16) t215_16 (j := 1) (Or.inl (zk1 (hs.k fk_zMc_33))) ((rfl : a.toInt = a.toInt).trans w14) (zk2 (hs.k fk_zMc_33) (by decide)) (hs.a fp_zMc_33_1) ?_
      refine zs_aload_n (pc := 17) t215_17 rfl ?_
      refine zs_invV (pc := 18) (k := 143) (as' := [.ref 7]) (st := []) t215_18 mf23 rfl rfl (Or.inl ⟨by decide, (zk1 (hs.k fk_zMc_143))⟩) ⟨by decide, by decide, Nat.le_of_ble_eq_true rfl, Nat.le_of_ble_eq_true rfl⟩ (X23_143_7 hs hI x0 ?_) (fun _ _ q => q)
      intro w15M w15s w15I w15F w15x0
      show zGo X l 3 0 0 215 21 [(0, .ref 31), (1, .int a), (2, .ref 7)] [] w15M _
      refine zs_aload_n (pc := 21) t215_21 rfl ?_
      refine zs_get (pc := 22) t215_22 (by decide) (zk1 (w15s.k fk_zMc_31)) (w15s.p rfl fv_zMc_31_4) ?_
      refine zs_iload_n (pc := 25) t215_25 rfl ?_
      refine zs_iconst (pc := 26) t215_26 (v := 1) (by decide) ?_
      obtain ⟨w16n, w16⟩ : ∃ n : Nat, a.toInt = (n : Int) := ⟨(a.toInt).toNat, by omega⟩
      have w17e : vp_nar .boolean (1 : Int32) = (1 : Int32) := by decide
      have w18 : zIv cLo cHi (zsI w15M 34 w16n (1 : Int32)) := zIv.put w15I (show 0 ≤ (1 : Int32).toInt ∧ (1 : Int32).toInt ≤ 1 from ⟨by decide, by decide⟩)
      refine zs_bastZ (pc := 27) t215_27 (j := w16n) (by decide) (zk1 (w15s.k fk_zMc_34)) (show a.toInt = ((w16n : Nat) : Int) by omega) (zk2 (w15s.k fk_zMc_34) (by omega)) w17e ?_
      refine zs_iconst (pc := 28) t215_28 (v := 1) (by decide) ?_
      exact zs_iret (pc := 29) t215_29 mr215 (by decide) (hQ _ _ w15s w18 (((zFr.refl).trans (w15F.mono rfl)).put rfl) (Or.inr ⟨by decide, by omega, by omega, by rw [show a.toInt.toNat = w16n by omega]; exact zKC.put (i := w16n) x1 (by omega) ((congrArg Int32.toInt zIs).trans li1) (by rw [show 131 + 12 * w16n = 143 by omega]; exact (zSo.fr w15x0 (zEq.put rfl))) (fun k k1 => ((zIoj k1).trans (w15F 34 k rfl))) (fun k j k1 k2 k3 => ((zIo (by omega)).trans (w15F k j (zoC (by omega) (zoC (by omega) rfl)))))⟩) (by decide) (by decide))
    · refine zs_icmp_eqF (pc := 6) t215_6 rfl li1 (by omega) ?_
      refine zs_iconst (pc := 9) t215_9 (v := 0) (by decide) ?_
      exact zs_iret (pc := 10) t215_10 mr215 (by decide) (hQ _ _ hs hI (zFr.refl) (Or.inl ⟨by decide, by omega, x1⟩) (by decide) (by decide))
theorem X218_31_7 {X : zX} {l : Launch} {M : zM} {Q : Option Value → zM → Prop} {a : Int32} (hs : zSk zMc M) (hI : zIv cLo cHi M) {F : Nat → Int} {K : Nat → Nat → Int} {T : Nat → Int} (x0 : zSo M 7 F) (x1 : zKC M K T) (hQ : ∀ (M' : zM) (v : Int32), zSk zMc M' → zIv cLo cHi M' → zFr [(7, 7, none), (8, 18, none)] M M' → ((v.toInt = 0 ∧ (a.toInt < 0 ∨ 1 < a.toInt ∨ (0 ≤ a.toInt ∧ a.toInt ≤ 1 ∧ T a.toInt.toNat ≠ 1)) ∧ zSo M' 7 F) ∨ (v.toInt = 1 ∧ 0 ≤ a.toInt ∧ a.toInt ≤ 1 ∧ T a.toInt.toNat = 1 ∧ zSo M' 7 (K a.toInt.toNat))) → 0 ≤ v.toInt → v.toInt ≤ 1 → Q (some (.int v)) M') : zCall X l 3 0 0 218 [.ref 31, .int a, .ref 7] M Q := by
  have ga := zrg a
  refine zs_in (by decide) mf218 (Nat.le_of_ble_eq_true rfl) ?_
  show zGo X l 3 0 0 218 0 [(0, .ref 31), (1, .int a), (2, .ref 7)] [] M _
  have f0 := x0.1
  have w1 := ib7_0 hI
  have w2 : (zI M 7 0).toInt = (zI M 7 0).toInt := (congrArg Int32.toInt rfl).trans rfl
  have w3 := ib7_3 hI
  have w4 : (zI M 7 3).toInt = (zI M 7 3).toInt := (congrArg Int32.toInt rfl).trans rfl
  have w5 := ib7_8 hI
  have w6 : (zI M 7 8).toInt = (zI M 7 8).toInt := (congrArg Int32.toInt rfl).trans rfl
  have f2 := (show (zI M 7 0).toInt = F 0 ∧ (zI M 7 3).toInt = F 1 ∧ (zI M 7 8).toInt = F 2 from ⟨x0.1.1, x0.1.2.1, x0.1.2.2.1⟩)
  have g0 := (x1 0 (by decide)).1
  have w7 := ib34 hI 0
  have g1 := (x1 1 (by decide)).1
  have w8 := ib34 hI 1
  refine zs_aload_n (pc := 0) t218_0 rfl ?_
  refine zs_iload_n (pc := 1) t218_1 rfl ?_
  refine zs_invV (pc := 2) (k := 31) (as' := [.int a]) (st := []) t218_2 mf217 rfl rfl (Or.inl ⟨by decide, (zk1 (hs.k fk_zMc_31))⟩) ⟨by decide, by decide, Nat.le_of_ble_eq_true rfl, Nat.le_of_ble_eq_true rfl⟩ (zs_in (by decide) mf217 (Nat.le_of_ble_eq_true rfl) ?_) (fun _ _ q => q)
  show zGo X l 0 0 0 217 0 [(0, .ref 31), (1, .int a)] [] M _
  refine zs_iload_n (pc := 0) t217_0 rfl ?_
  by_cases w9 : a.toInt = 0
  · refine zs_if_eqT (pc := 1) t217_1 rfl (by omega) ?_
    refine zs_aload_n (pc := 9) t217_9 rfl ?_
    refine zs_get (pc := 10) t217_10 (by decide) (zk1 (hs.k fk_zMc_31)) (hs.p rfl fv_zMc_31_4) ?_
    refine zs_iload_n (pc := 13) t217_13 rfl ?_
    obtain ⟨w10n, w10⟩ : ∃ n : Nat, a.toInt = (n : Int) := ⟨(a.toInt).toNat, by omega⟩
    have w11 := ib34 hI w10n
    refine zs_bald (pc := 14) t217_14 (j := w10n) (Or.inr (zk1 (hs.k fk_zMc_34))) (show a.toInt = ((w10n : Nat) : Int) by omega) (zk2 (hs.k fk_zMc_34) (by omega)) rfl ?_
    by_cases w12 : (zI M 34 w10n).toInt = 0
    · refine zs_if_eqT (pc := 15) t217_15 rfl (by omega) ?_
      refine zs_iconst (pc := 22) t217_22 (v := 0) (by decide) ?_
      refine zs_iret (pc := 23) t217_23 mr217 (by decide) ?_
      show zGo X l 3 0 0 218 5 [(0, .ref 31), (1, .int a), (2, .ref 7)] [.int (0 : Int32)] M _
      refine zs_if_neF (pc := 5) t218_5 li0 (by decide) ?_
      refine zs_iconst (pc := 8) t218_8 (v := 0) (by decide) ?_
      have w13 : (zI M 34 w10n).toInt = T 0 := by rw [show w10n = 0 by omega]; exact g0
      exact zs_iret (pc := 9) t218_9 mr218 (by decide) (hQ _ _ hs hI (zFr.refl) (Or.inl ⟨by decide, by rw [show a.toInt.toNat = 0 by omega]; omega, x0⟩) (by decide) (by decide))
    · refine zs_if_eqF (pc := 15) t217_15 rfl (by omega) ?_
      refine zs_iconst (pc := 18) t217_18 (v := 1) (by decide) ?_
      refine zs_goto (pc := 19) t217_19 ?_
      refine zs_iret (pc := 23) t217_23 mr217 (by decide) ?_
      show zGo X l 3 0 0 218 5 [(0, .ref 31), (1, .int a), (2, .ref 7)] [.int (1 : Int32)] M _
      refine zs_if_neT (pc := 5) t218_5 li1 (by decide) ?_
      refine zs_aload_n (pc := 10) t218_10 rfl ?_
      refine zs_aload_n (pc := 11) t218_11 rfl ?_
      refine zs_get (pc := 12) t218_12 (by decide) (zk1 (hs.k fk_zMc_31)) (hs.p rfl fv_zMc_31_3) ?_
      refine zs_iload_n (pc := 15) t218_15 rfl ?_
      have w14 : a.toInt = 0 := by omega
      refine zs_aald (pc := 16) t218_16 (j := 0) (Or.inl (zk1 (hs.k fk_zMc_33))) ((rfl : a.toInt = a.toInt).trans w14) (zk2 (hs.k fk_zMc_33) (by decide)) (hs.a fp_zMc_33_0) ?_
      have w15 : (zI M 34 w10n).toInt = T 0 := by rw [show w10n = 0 by omega]; exact g0
      refine zs_invV (pc := 17) (k := 7) (as' := [.ref 131]) (st := []) t218_17 mf23 rfl rfl (Or.inl ⟨by decide, (zk1 (hs.k fk_zMc_7))⟩) ⟨by decide, by decide, Nat.le_of_ble_eq_true rfl, Nat.le_of_ble_eq_true rfl⟩ (X23_7_131 hs hI ((x1 0 (by decide)).2 (by omega)) ?_) (fun _ _ q => q)
      intro w16M w16s w16I w16F w16x0
      show zGo X l 3 0 0 218 20 [(0, .ref 31), (1, .int a), (2, .ref 7)] [] w16M _
      refine zs_iconst (pc := 20) t218_20 (v := 1) (by decide) ?_
      exact zs_iret (pc := 21) t218_21 mr218 (by decide) (hQ _ _ w16s w16I ((zFr.refl).trans (w16F.mono rfl)) (Or.inr ⟨by decide, by omega, by omega, by rw [show a.toInt.toNat = 0 by omega]; omega, by rw [show a.toInt.toNat = 0 by omega]; exact w16x0⟩) (by decide) (by decide))
  · refine zs_if_eqF (pc := 1) t217_1 rfl (by omega) ?_
    refine zs_iload_n (pc := 4) t217_4 rfl ?_
    refine zs_iconst (pc := 5) t217_5 (v := 1) (by decide) ?_
    by_cases w17 : a.toInt ≠ 1
    · refine zs_icmp_neT (pc := 6) t217_6 rfl li1 (by omega) ?_
      refine zs_iconst (pc := 22) t217_22 (v := 0) (by decide) ?_
      refine zs_iret (pc := 23) t217_23 mr217 (by decide) ?_
      show zGo X l 3 0 0 218 5 [(0, .ref 31), (1, .int a), (2, .ref 7)] [.int (0 : Int32)] M _
      refine zs_if_neF (pc := 5) t218_5 li0 (by decide) ?_
      refine zs_iconst (pc := 8) t218_8 (v := 0) (by decide) ?_
      exact zs_iret (pc := 9) t218_9 mr218 (by decide) (hQ _ _ hs hI (zFr.refl) (Or.inl ⟨by decide, by omega, x0⟩) (by decide) (by decide))
    · refine zs_icmp_neF (pc := 6) t217_6 rfl li1 (by omega) ?_
      refine zs_aload_n (pc := 9) t217_9 rfl ?_
      refine zs_get (pc := 10) t217_10 (by decide) (zk1 (hs.k fk_zMc_31)) (hs.p rfl fv_zMc_31_4) ?_
      refine zs_iload_n (pc := 13) t217_13 rfl ?_
      obtain ⟨w18n, w18⟩ : ∃ n : Nat, a.toInt = (n : Int) := ⟨(a.toInt).toNat, by omega⟩
      have w19 := ib34 hI w18n
      refine zs_bald (pc := 14) t217_14 (j := w18n) (Or.inr (zk1 (hs.k fk_zMc_34))) (show a.toInt = ((w18n : Nat) : Int) by omega) (zk2 (hs.k fk_zMc_34) (by omega)) rfl ?_
      by_cases w20 : (zI M 34 w18n).toInt = 0
      · refine zs_if_eqT (pc := 15) t217_15 rfl (by omega) ?_
        refine zs_iconst (pc := 22) t217_22 (v := 0) (by decide) ?_
        refine zs_iret (pc := 23) t217_23 mr217 (by decide) ?_
        show zGo X l 3 0 0 218 5 [(0, .ref 31), (1, .int a), (2, .ref 7)] [.int (0 : Int32)] M _
        refine zs_if_neF (pc := 5) t218_5 li0 (by decide) ?_
        refine zs_iconst (pc := 8) t218_8 (v := 0) (by decide) ?_
        have w21 : (zI M 34 w18n).toInt = T 1 := by rw [show w18n = 1 by omega]; exact g1
        exact zs_iret (pc := 9) t218_9 mr218 (by decide) (hQ _ _ hs hI (zFr.refl) (Or.inl ⟨by decide, by rw [show a.toInt.toNat = 1 by omega]; omega, x0⟩) (by decide) (by decide))
      · refine zs_if_eqF (pc := 15) t217_15 rfl (by omega) ?_
        refine zs_iconst (pc := 18) t217_18 (v := 1) (by decide) ?_
        refine zs_goto (pc := 19) t217_19 ?_
        refine zs_iret (pc := 23) t217_23 mr217 (by decide) ?_
        show zGo X l 3 0 0 218 5 [(0, .ref 31), (1, .int a), (2, .ref 7)] [.int (1 : Int32)] M _
        refine zs_if_neT (pc := 5) t218_5 li1 (by decide) ?_
        refine zs_aload_n (pc := 10) t218_10 rfl ?_
        refine zs_aload_n (pc := 11) t218_11 rfl ?_
        refine zs_get (pc := 12) t218_12 (by decide) (zk1 (hs.k fk_zMc_31)) (hs.p rfl fv_zMc_31_3) ?_
        refine zs_iload_n (pc := 15) t218_15 rfl ?_
        have w22 : a.toInt = 1 := by omega
        refine zs_aald (pc := 16) t218_16 (j := 1) (Or.inl (zk1 (hs.k fk_zMc_33))) ((rfl : a.toInt = a.toInt).trans w22) (zk2 (hs.k fk_zMc_33) (by decide)) (hs.a fp_zMc_33_1) ?_
        have w23 : (zI M 34 w18n).toInt = T 1 := by rw [show w18n = 1 by omega]; exact g1
        refine zs_invV (pc := 17) (k := 7) (as' := [.ref 143]) (st := []) t218_17 mf23 rfl rfl (Or.inl ⟨by decide, (zk1 (hs.k fk_zMc_7))⟩) ⟨by decide, by decide, Nat.le_of_ble_eq_true rfl, Nat.le_of_ble_eq_true rfl⟩ (X23_7_143 hs hI ((x1 1 (by decide)).2 (by omega)) ?_) (fun _ _ q => q)
        intro w24M w24s w24I w24F w24x0
        show zGo X l 3 0 0 218 20 [(0, .ref 31), (1, .int a), (2, .ref 7)] [] w24M _
        refine zs_iconst (pc := 20) t218_20 (v := 1) (by decide) ?_
        exact zs_iret (pc := 21) t218_21 mr218 (by decide) (hQ _ _ w24s w24I ((zFr.refl).trans (w24F.mono rfl)) (Or.inr ⟨by decide, by omega, by omega, by rw [show a.toInt.toNat = 1 by omega]; omega, by rw [show a.toInt.toNat = 1 by omega]; exact w24x0⟩) (by decide) (by decide))
theorem X93_7 {X : zX} {l : Launch} {M : zM} {Q : Option Value → zM → Prop} {a : Int32} (hs : zSk zMc M) (hI : zIv cLo cHi M) {F : Nat → Int} (x0 : zSo M 7 F) (x1 : zWF F) (hQ : ∀ v : Int32, (∀ h : Nat, (h : Int) = a.toInt → (h : Int) < F 1 → (v.toInt = 1 ∧ zctb F h = true) ∨ (v.toInt = 0 ∧ zctb F h = false)) → 0 ≤ v.toInt → v.toInt ≤ 1 → Q (some (.int v)) M) : zCall X l 1 0 0 93 [.ref 7, .int a] M Q := by
  have ga := zrg a
  refine zs_in (by decide) mf93 (Nat.le_of_ble_eq_true rfl) ?_
  show zGo X l 1 0 0 93 0 [(0, .ref 7), (1, .int a)] [] M _
  have f0 := x0.1
  have w1 := ib7_0 hI
  have w2 : (zI M 7 0).toInt = (zI M 7 0).toInt := (congrArg Int32.toInt rfl).trans rfl
  have w3 := ib7_3 hI
  have w4 : (zI M 7 3).toInt = (zI M 7 3).toInt := (congrArg Int32.toInt rfl).trans rfl
  have w5 := ib7_8 hI
  have w6 : (zI M 7 8).toInt = (zI M 7 8).toInt := (congrArg Int32.toInt rfl).trans rfl
  have f1 := x1.1
  have f3 := x1.2.2.2
  have f2 := (show (zI M 7 0).toInt = F 0 ∧ (zI M 7 3).toInt = F 1 ∧ (zI M 7 8).toInt = F 2 from ⟨x0.1.1, x0.1.2.1, x0.1.2.2.1⟩)
  refine zs_aload_n (pc := 0) t93_0 rfl ?_
  refine zs_iload_n (pc := 1) t93_1 rfl ?_
  refine zs_invV (pc := 2) (k := 7) (as' := [.int a]) (st := []) t93_2 mf91 rfl rfl (Or.inl ⟨by decide, (zk1 (hs.k fk_zMc_7))⟩) ⟨by decide, by decide, Nat.le_of_ble_eq_true rfl, Nat.le_of_ble_eq_true rfl⟩ (zs_in (by decide) mf91 (Nat.le_of_ble_eq_true rfl) ?_) (fun _ _ q => q)
  show zGo X l 0 0 0 91 0 [(0, .ref 7), (1, .int a)] [] M _
  refine zs_iload_n (pc := 0) t91_0 rfl ?_
  by_cases w7 : a.toInt < 0
  · refine zs_if_ltT (pc := 1) t91_1 rfl (by omega) ?_
    refine zs_iconst (pc := 16) t91_16 (v := 0) (by decide) ?_
    refine zs_iret (pc := 17) t91_17 mr91 (by decide) ?_
    show zGo X l 1 0 0 93 5 [(0, .ref 7), (1, .int a)] [.int (0 : Int32)] M _
    refine zs_if_eqT (pc := 5) t93_5 li0 (by decide) ?_
    refine zs_iconst (pc := 51) t93_51 (v := 0) (by decide) ?_
    exact zs_iret (pc := 52) t93_52 mr93 (by decide) (hQ _ (fun h h1 h2 => absurd h2 (by omega)) (by decide) (by decide))
  · refine zs_if_ltF (pc := 1) t91_1 rfl (by omega) ?_
    refine zs_iload_n (pc := 4) t91_4 rfl ?_
    refine zs_aload_n (pc := 5) t91_5 rfl ?_
    refine zs_get (pc := 6) t91_6 (by decide) (zk1 (hs.k fk_zMc_7)) (zfvi rfl rfl) ?_
    by_cases w8 : (zI M 7 3).toInt ≤ a.toInt
    · refine zs_icmp_geT (pc := 9) t91_9 rfl rfl (by omega) ?_
      refine zs_iconst (pc := 16) t91_16 (v := 0) (by decide) ?_
      refine zs_iret (pc := 17) t91_17 mr91 (by decide) ?_
      show zGo X l 1 0 0 93 5 [(0, .ref 7), (1, .int a)] [.int (0 : Int32)] M _
      refine zs_if_eqT (pc := 5) t93_5 li0 (by decide) ?_
      refine zs_iconst (pc := 51) t93_51 (v := 0) (by decide) ?_
      exact zs_iret (pc := 52) t93_52 mr93 (by decide) (hQ _ (fun h h1 h2 => absurd h2 (by omega)) (by decide) (by decide))
    · refine zs_icmp_geF (pc := 9) t91_9 rfl rfl (by omega) ?_
      refine zs_iconst (pc := 12) t91_12 (v := 1) (by decide) ?_
      refine zs_goto (pc := 13) t91_13 ?_
      refine zs_iret (pc := 17) t91_17 mr91 (by decide) ?_
      show zGo X l 1 0 0 93 5 [(0, .ref 7), (1, .int a)] [.int (1 : Int32)] M _
      refine zs_if_eqF (pc := 5) t93_5 li1 (by decide) ?_
      refine zs_aload_n (pc := 8) t93_8 rfl ?_
      refine zs_get (pc := 9) t93_9 (by decide) (zk1 (hs.k fk_zMc_7)) (hs.p rfl fv_zMc_7_2) ?_
      refine zs_aload_n (pc := 12) t93_12 rfl ?_
      refine zs_get (pc := 13) t93_13 (by decide) (zk1 (hs.k fk_zMc_7)) (hs.p rfl fv_zMc_7_4) ?_
      refine zs_iload_n (pc := 16) t93_16 rfl ?_
      obtain ⟨w9n, w9⟩ : ∃ n : Nat, a.toInt = (n : Int) := ⟨(a.toInt).toNat, by omega⟩
      have w10 := ib10 hI w9n
      have w11 : (zI M 10 w9n).toInt = F (30 + 4 * w9n) ∧ (zI M 11 w9n).toInt = F (31 + 4 * w9n) ∧ (zI M 12 w9n).toInt = F (32 + 4 * w9n) ∧ (zI M 13 w9n).toInt = F (33 + 4 * w9n) := x0.2.2.1 w9n (by omega)
      have w12 := x1.2.2.1 w9n (by omega)
      refine zs_iald (pc := 17) t93_17 (j := w9n) (by decide) (zk1 (hs.k fk_zMc_10)) (show a.toInt = ((w9n : Nat) : Int) by omega) (zk2 (hs.k fk_zMc_10) (by omega)) rfl ?_
      obtain ⟨w13n, w13⟩ : ∃ n : Nat, (zI M 10 w9n).toInt = (n : Int) := ⟨((zI M 10 w9n).toInt).toNat, by omega⟩
      have w14 := ib9 hI w13n
      have w15 : (zI M 8 w13n).toInt = F (14 + 2 * w13n) ∧ (zI M 9 w13n).toInt = F (15 + 2 * w13n) := x0.2.1 w13n (by omega)
      have w16 := x1.2.1 w13n (by omega)
      refine zs_bald (pc := 18) t93_18 (j := w13n) (Or.inr (zk1 (hs.k fk_zMc_9))) (show (zI M 10 w9n).toInt = ((w13n : Nat) : Int) by omega) (zk2 (hs.k fk_zMc_9) (by omega)) rfl ?_
      by_cases w17 : (zI M 9 w13n).toInt = 0
      · refine zs_if_eqT (pc := 19) t93_19 rfl (by omega) ?_
        refine zs_iconst (pc := 51) t93_51 (v := 0) (by decide) ?_
        exact zs_iret (pc := 52) t93_52 mr93 (by decide) (hQ _ (fun h h1 h2 => by obtain rfl : w9n = h := (by omega); exact Or.inr ⟨by decide, zctb.n (l := w13n) (by omega) (by omega)⟩) (by decide) (by decide))
      · refine zs_if_eqF (pc := 19) t93_19 rfl (by omega) ?_
        refine zs_aload_n (pc := 22) t93_22 rfl ?_
        refine zs_get (pc := 23) t93_23 (by decide) (zk1 (hs.k fk_zMc_7)) (hs.p rfl fv_zMc_7_6) ?_
        refine zs_iload_n (pc := 26) t93_26 rfl ?_
        have w18 := zrg (zI M 12 w9n)
        have w19 : (zI M 10 w9n).toInt = F (30 + 4 * w9n) ∧ (zI M 11 w9n).toInt = F (31 + 4 * w9n) ∧ (zI M 12 w9n).toInt = F (32 + 4 * w9n) ∧ (zI M 13 w9n).toInt = F (33 + 4 * w9n) := x0.2.2.1 w9n (by omega)
        have w20 := x1.2.2.1 w9n (by omega)
        refine zs_iald (pc := 27) t93_27 (j := w9n) (by decide) (zk1 (hs.k fk_zMc_12)) (show a.toInt = ((w9n : Nat) : Int) by omega) (zk2 (hs.k fk_zMc_12) (by omega)) rfl ?_
        refine zs_aload_n (pc := 28) t93_28 rfl ?_
        refine zs_get (pc := 29) t93_29 (by decide) (zk1 (hs.k fk_zMc_7)) (hs.p rfl fv_zMc_7_12) ?_
        refine zs_iconst (pc := 32) t93_32 (v := 5) (by decide) ?_
        have w21 := ib17 hI 5
        have w22 : (zI M 17 5).toInt = F 10 := x0.2.2.2.2.1 5 (by decide)
        refine zs_iald (pc := 33) t93_33 (j := 5) (by decide) (zk1 (hs.k fk_zMc_17)) li5 (zk2 (hs.k fk_zMc_17) (by decide)) rfl ?_
        refine zs_aload_n (pc := 34) t93_34 rfl ?_
        refine zs_get (pc := 35) t93_35 (by decide) (zk1 (hs.k fk_zMc_7)) (hs.p rfl fv_zMc_7_12) ?_
        refine zs_bipush (pc := 38) t93_38 (v := 6) (by decide) ?_
        have w23 := ib17 hI 6
        have w24 : (zI M 17 6).toInt = F 11 := x0.2.2.2.2.1 6 (by decide)
        refine zs_iald (pc := 40) t93_40 (j := 6) (by decide) (zk1 (hs.k fk_zMc_17)) li6 (zk2 (hs.k fk_zMc_17) (by decide)) rfl ?_
        refine zs_invS (pc := 41) (as := [.int (zI M 12 w9n), .int (zI M 17 5), .int (zI M 17 6)]) (st := []) t93_41 (by decide) mf39 rfl rfl ⟨by decide, by decide, Nat.le_of_ble_eq_true rfl, Nat.le_of_ble_eq_true rfl⟩ (zs_in (by decide) mf39 (Nat.le_of_ble_eq_true rfl) ?_) (fun _ _ q => q)
        show zGo X l 0 0 0 39 0 [(0, .int (zI M 12 w9n)), (1, .int (zI M 17 5)), (2, .int (zI M 17 6))] [] M _
        refine zs_iload_n (pc := 0) t39_0 rfl ?_
        refine zs_iload_n (pc := 1) t39_1 rfl ?_
        by_cases w25 : (zI M 12 w9n).toInt < (zI M 17 5).toInt
        · refine zs_icmp_ltT (pc := 2) t39_2 rfl rfl (by omega) ?_
          refine zs_iconst (pc := 14) t39_14 (v := 0) (by decide) ?_
          refine zs_iret (pc := 15) t39_15 mr39 (by decide) ?_
          show zGo X l 1 0 0 93 44 [(0, .ref 7), (1, .int a)] [.int (0 : Int32)] M _
          refine zs_if_eqT (pc := 44) t93_44 li0 (by decide) ?_
          refine zs_iconst (pc := 51) t93_51 (v := 0) (by decide) ?_
          exact zs_iret (pc := 52) t93_52 mr93 (by decide) (hQ _ (fun h h1 h2 => by obtain rfl : w9n = h := (by omega); exact Or.inr ⟨by decide, zctb.n (l := w13n) (by omega) (by omega)⟩) (by decide) (by decide))
        · refine zs_icmp_ltF (pc := 2) t39_2 rfl rfl (by omega) ?_
          refine zs_iload_n (pc := 5) t39_5 rfl ?_
          refine zs_iload_n (pc := 6) t39_6 rfl ?_
          by_cases w26 : (zI M 17 6).toInt < (zI M 12 w9n).toInt
          · refine zs_icmp_gtT (pc := 7) t39_7 rfl rfl (by omega) ?_
            refine zs_iconst (pc := 14) t39_14 (v := 0) (by decide) ?_
            refine zs_iret (pc := 15) t39_15 mr39 (by decide) ?_
            show zGo X l 1 0 0 93 44 [(0, .ref 7), (1, .int a)] [.int (0 : Int32)] M _
            refine zs_if_eqT (pc := 44) t93_44 li0 (by decide) ?_
            refine zs_iconst (pc := 51) t93_51 (v := 0) (by decide) ?_
            exact zs_iret (pc := 52) t93_52 mr93 (by decide) (hQ _ (fun h h1 h2 => by obtain rfl : w9n = h := (by omega); exact Or.inr ⟨by decide, zctb.n (l := w13n) (by omega) (by omega)⟩) (by decide) (by decide))
          · refine zs_icmp_gtF (pc := 7) t39_7 rfl rfl (by omega) ?_
            refine zs_iconst (pc := 10) t39_10 (v := 1) (by decide) ?_
            refine zs_goto (pc := 11) t39_11 ?_
            refine zs_iret (pc := 15) t39_15 mr39 (by decide) ?_
            show zGo X l 1 0 0 93 44 [(0, .ref 7), (1, .int a)] [.int (1 : Int32)] M _
            refine zs_if_eqF (pc := 44) t93_44 li1 (by decide) ?_
            refine zs_iconst (pc := 47) t93_47 (v := 1) (by decide) ?_
            refine zs_goto (pc := 48) t93_48 ?_
            exact zs_iret (pc := 52) t93_52 mr93 (by decide) (hQ _ (fun h h1 h2 => by obtain rfl : w9n = h := (by omega); exact Or.inl ⟨by decide, zctb.y (l := w13n) (by omega) (by omega) (by omega) (by omega)⟩) (by decide) (by decide))
theorem X92_7 {X : zX} {l : Launch} {M : zM} {Q : Option Value → zM → Prop} (hs : zSk zMc M) (hI : zIv cLo cHi M) {F : Nat → Int} (x0 : zSo M 7 F) (x1 : zWF F) (hQ : ∀ v : Int32, (v.toInt = pct (zctb F) (F 1).toNat) → 0 ≤ v.toInt → v.toInt ≤ 60 → Q (some (.int v)) M) : zCall X l 2 0 0 92 [.ref 7] M Q := by
  refine zs_in (by decide) mf92 (Nat.le_of_ble_eq_true rfl) ?_
  show zGo X l 2 0 0 92 0 [(0, .ref 7)] [] M _
  have f0 := x0.1
  have w1 := ib7_0 hI
  have w2 : (zI M 7 0).toInt = (zI M 7 0).toInt := (congrArg Int32.toInt rfl).trans rfl
  have w3 := ib7_3 hI
  have w4 : (zI M 7 3).toInt = (zI M 7 3).toInt := (congrArg Int32.toInt rfl).trans rfl
  have w5 := ib7_8 hI
  have w6 : (zI M 7 8).toInt = (zI M 7 8).toInt := (congrArg Int32.toInt rfl).trans rfl
  have f1 := x1.1
  have f3 := x1.2.2.2
  have f2 := (show (zI M 7 0).toInt = F 0 ∧ (zI M 7 3).toInt = F 1 ∧ (zI M 7 8).toInt = F 2 from ⟨x0.1.1, x0.1.2.1, x0.1.2.2.1⟩)
  refine zs_iconst (pc := 0) t92_0 (v := 0) (by decide) ?_
  refine zs_istore_n (pc := 1) t92_1 (ls' := [(1, .int (0 : Int32)), (0, .ref 7)]) (zml mf92 (by decide)) rfl ?_
  refine zs_iconst (pc := 2) t92_2 (v := 0) (by decide) ?_
  refine zs_istore_n (pc := 3) t92_3 (ls' := [(2, .int (0 : Int32)), (1, .int (0 : Int32)), (0, .ref 7)]) (zml mf92 (by decide)) rfl ?_
  have w7L : ∀ (m : Nat) (w7x1 : Int32) (w7x2 : Int32), (0 ≤ w7x1.toInt ∧ w7x1.toInt ≤ 60) → (0 ≤ w7x2.toInt ∧ w7x2.toInt ≤ 60) → (w7x1.toInt ≤ w7x2.toInt) → (w7x2.toInt ≤ F 1) → (∀ k : Nat, (k : Int) = w7x2.toInt → w7x1.toInt = pct (zctb F) k) → 60 - w7x2.toInt ≤ (m : Int) → zGo X l 2 0 0 92 4 [(0, .ref 7), (1, .int w7x1), (2, .int w7x2)] [] M Q := by
    intro m
    induction m using Nat.strongRecOn with
    | ind w7m w7ih =>
      intro w7x1 w7x2 w7b1 w7b2 w7r0 w7r1 w7t0 w7q
      refine zs_iload_n (pc := 4) t92_4 rfl ?_
      refine zs_aload_n (pc := 5) t92_5 rfl ?_
      refine zs_get (pc := 6) t92_6 (by decide) (zk1 (hs.k fk_zMc_7)) (zfvi rfl rfl) ?_
      by_cases w8 : (zI M 7 3).toInt ≤ w7x2.toInt
      · refine zs_icmp_geT (pc := 9) t92_9 rfl rfl (by omega) ?_
        refine zs_iload_n (pc := 29) t92_29 rfl ?_
        exact zs_iret (pc := 30) t92_30 mr92 rfl (hQ _ (by have q := w7t0 (F 1).toNat (by omega); omega) (by omega) (by omega))
      · refine zs_icmp_geF (pc := 9) t92_9 rfl rfl (by omega) ?_
        refine zs_aload_n (pc := 12) t92_12 rfl ?_
        refine zs_iload_n (pc := 13) t92_13 rfl ?_
        refine zs_invV (pc := 14) (k := 7) (as' := [.int w7x2]) (st := []) t92_14 mf93 rfl rfl (Or.inl ⟨by decide, (zk1 (hs.k fk_zMc_7))⟩) ⟨by decide, by decide, Nat.le_of_ble_eq_true rfl, Nat.le_of_ble_eq_true rfl⟩ (X93_7 hs hI x0 x1 ?_) (fun _ _ q => q)
        intro w9v w9x0 w9a w9b
        show zGo X l 2 0 0 92 17 [(0, .ref 7), (1, .int w7x1), (2, .int w7x2)] [.int w9v] M _
        by_cases w10 : w9v.toInt = 0
        · refine zs_if_eqT (pc := 17) t92_17 rfl (by omega) ?_
          obtain ⟨w11v, w11e, w11⟩ := ziadd (a := w7x2) (b := Int32.ofInt 1) rfl (show (Int32.ofInt 1).toInt = 1 by decide) (by omega) (by omega)
          refine zs_iinc (pc := 23) t92_23 (ls' := [(2, .int w11v), (0, .ref 7), (1, .int w7x1)]) (zml mf92 (by decide)) rfl (c := w11v) w11e rfl ?_
          refine zs_goto (pc := 26) t92_26 ?_
          refine zGo.locals (ls' := [(0, .ref 7), (1, .int w7x1), (2, .int w11v)]) (by simp) ?_
          have w12 := w11
          obtain ⟨w13n, w13⟩ : ∃ n : Nat, w7x2.toInt = (n : Int) := ⟨(w7x2.toInt).toNat, by omega⟩
          exact w7ih (w7m - 1) (by omega) w7x1 w11v ⟨by omega, by omega⟩ ⟨by omega, by omega⟩ (by omega) (by omega) (fun k hk => by obtain rfl : k = w13n + 1 := (by omega); rcases (w9x0 w13n (by omega) (by omega)) with ⟨q1, q2⟩ | ⟨q1, q2⟩ <;> first | exact absurd q1 (by omega) | exact pct.up (n := w13n) (fun k hk => w7t0 k (by omega)) q2 (by omega) rfl | exact pct.no (n := w13n) (fun k hk => w7t0 k (by omega)) q2 (by omega) rfl) (by omega)
        · refine zs_if_eqF (pc := 17) t92_17 rfl (by omega) ?_
          obtain ⟨w14v, w14e, w14⟩ := ziadd (a := w7x1) (b := Int32.ofInt 1) rfl (show (Int32.ofInt 1).toInt = 1 by decide) (by omega) (by omega)
          refine zs_iinc (pc := 20) t92_20 (ls' := [(1, .int w14v), (0, .ref 7), (2, .int w7x2)]) (zml mf92 (by decide)) rfl (c := w14v) w14e rfl ?_
          obtain ⟨w15v, w15e, w15⟩ := ziadd (a := w7x2) (b := Int32.ofInt 1) rfl (show (Int32.ofInt 1).toInt = 1 by decide) (by omega) (by omega)
          refine zs_iinc (pc := 23) t92_23 (ls' := [(2, .int w15v), (1, .int w14v), (0, .ref 7)]) (zml mf92 (by decide)) rfl (c := w15v) w15e rfl ?_
          refine zs_goto (pc := 26) t92_26 ?_
          refine zGo.locals (ls' := [(0, .ref 7), (1, .int w14v), (2, .int w15v)]) (by simp) ?_
          have w16 := w14
          have w17 := w15
          obtain ⟨w18n, w18⟩ : ∃ n : Nat, w7x2.toInt = (n : Int) := ⟨(w7x2.toInt).toNat, by omega⟩
          exact w7ih (w7m - 1) (by omega) w14v w15v ⟨by omega, by omega⟩ ⟨by omega, by omega⟩ (by omega) (by omega) (fun k hk => by obtain rfl : k = w18n + 1 := (by omega); rcases (w9x0 w18n (by omega) (by omega)) with ⟨q1, q2⟩ | ⟨q1, q2⟩ <;> first | exact absurd q1 (by omega) | exact pct.up (n := w18n) (fun k hk => w7t0 k (by omega)) q2 (by omega) rfl | exact pct.no (n := w18n) (fun k hk => w7t0 k (by omega)) q2 (by omega) rfl) (by omega)
  refine zGo.locals (ls' := [(0, .ref 7), (1, .int (0 : Int32)), (2, .int (0 : Int32))]) (by simp) ?_
  have w19 := li0
  have w20 := li0
  exact w7L ((60 - 0 : Int).toNat) (0 : Int32) (0 : Int32) ⟨by decide, by decide⟩ ⟨by decide, by decide⟩ (by omega) (by omega) (fun k hk => by obtain rfl : k = 0 := (by omega); rfl) (by omega)
theorem X103_7 {X : zX} {l : Launch} {M : zM} {Q : Option Value → zM → Prop} {a : Int32} (hs : zSk zMc M) (hI : zIv cLo cHi M) {F : Nat → Int} (x0 : zSo M 7 F) (x1 : zWF F) (hQ : ∀ v : Int32, (v.toInt = pct (zcqB F 30 a.toInt) (F 1).toNat) → 0 ≤ v.toInt → v.toInt ≤ 60 → Q (some (.int v)) M) : zCall X l 2 0 0 103 [.ref 7, .int a] M Q := by
  have ga := zrg a
  refine zs_in (by decide) mf103 (Nat.le_of_ble_eq_true rfl) ?_
  show zGo X l 2 0 0 103 0 [(0, .ref 7), (1, .int a)] [] M _
  have f0 := x0.1
  have w1 := ib7_0 hI
  have w2 : (zI M 7 0).toInt = (zI M 7 0).toInt := (congrArg Int32.toInt rfl).trans rfl
  have w3 := ib7_3 hI
  have w4 : (zI M 7 3).toInt = (zI M 7 3).toInt := (congrArg Int32.toInt rfl).trans rfl
  have w5 := ib7_8 hI
  have w6 : (zI M 7 8).toInt = (zI M 7 8).toInt := (congrArg Int32.toInt rfl).trans rfl
  have f1 := x1.1
  have f3 := x1.2.2.2
  have f2 := (show (zI M 7 0).toInt = F 0 ∧ (zI M 7 3).toInt = F 1 ∧ (zI M 7 8).toInt = F 2 from ⟨x0.1.1, x0.1.2.1, x0.1.2.2.1⟩)
  refine zs_iconst (pc := 0) t103_0 (v := 0) (by decide) ?_
  refine zs_istore_n (pc := 1) t103_1 (ls' := [(2, .int (0 : Int32)), (0, .ref 7), (1, .int a)]) (zml mf103 (by decide)) rfl ?_
  refine zs_iconst (pc := 2) t103_2 (v := 0) (by decide) ?_
  refine zs_istore_n (pc := 3) t103_3 (ls' := [(3, .int (0 : Int32)), (2, .int (0 : Int32)), (0, .ref 7), (1, .int a)]) (zml mf103 (by decide)) rfl ?_
  have w7L : ∀ (m : Nat) (w7x2 : Int32) (w7x3 : Int32), (0 ≤ w7x2.toInt ∧ w7x2.toInt ≤ 60) → (0 ≤ w7x3.toInt ∧ w7x3.toInt ≤ 60) → (w7x2.toInt ≤ w7x3.toInt) → (w7x3.toInt ≤ F 1) → (∀ k : Nat, (k : Int) = w7x3.toInt → w7x2.toInt = pct (zcqB F 30 a.toInt) k) → 60 - w7x3.toInt ≤ (m : Int) → zGo X l 2 0 0 103 4 [(0, .ref 7), (1, .int a), (2, .int w7x2), (3, .int w7x3)] [] M Q := by
    intro m
    induction m using Nat.strongRecOn with
    | ind w7m w7ih =>
      intro w7x2 w7x3 w7b2 w7b3 w7r0 w7r1 w7t0 w7q
      refine zs_iload_n (pc := 4) t103_4 rfl ?_
      refine zs_aload_n (pc := 5) t103_5 rfl ?_
      refine zs_get (pc := 6) t103_6 (by decide) (zk1 (hs.k fk_zMc_7)) (zfvi rfl rfl) ?_
      by_cases w8 : (zI M 7 3).toInt ≤ w7x3.toInt
      · refine zs_icmp_geT (pc := 9) t103_9 rfl rfl (by omega) ?_
        refine zs_iload_n (pc := 39) t103_39 rfl ?_
        exact zs_iret (pc := 40) t103_40 mr103 rfl (hQ _ (by have q := w7t0 (F 1).toNat (by omega); omega) (by omega) (by omega))
      · refine zs_icmp_geF (pc := 9) t103_9 rfl rfl (by omega) ?_
        refine zs_aload_n (pc := 12) t103_12 rfl ?_
        refine zs_get (pc := 13) t103_13 (by decide) (zk1 (hs.k fk_zMc_7)) (hs.p rfl fv_zMc_7_4) ?_
        refine zs_iload_n (pc := 16) t103_16 rfl ?_
        obtain ⟨w9n, w9⟩ : ∃ n : Nat, w7x3.toInt = (n : Int) := ⟨(w7x3.toInt).toNat, by omega⟩
        have w10 := ib10 hI w9n
        have w11 : (zI M 10 w9n).toInt = F (30 + 4 * w9n) ∧ (zI M 11 w9n).toInt = F (31 + 4 * w9n) ∧ (zI M 12 w9n).toInt = F (32 + 4 * w9n) ∧ (zI M 13 w9n).toInt = F (33 + 4 * w9n) := x0.2.2.1 w9n (by omega)
        have w12 := x1.2.2.1 w9n (by omega)
        refine zs_iald (pc := 17) t103_17 (j := w9n) (by decide) (zk1 (hs.k fk_zMc_10)) (show w7x3.toInt = ((w9n : Nat) : Int) by omega) (zk2 (hs.k fk_zMc_10) (by omega)) rfl ?_
        refine zs_iload_n (pc := 18) t103_18 rfl ?_
        by_cases w13 : (zI M 10 w9n).toInt ≠ a.toInt
        · refine zs_icmp_neT (pc := 19) t103_19 rfl rfl (by omega) ?_
          obtain ⟨w14v, w14e, w14⟩ := ziadd (a := w7x3) (b := Int32.ofInt 1) rfl (show (Int32.ofInt 1).toInt = 1 by decide) (by omega) (by omega)
          refine zs_iinc (pc := 33) t103_33 (ls' := [(3, .int w14v), (0, .ref 7), (1, .int a), (2, .int w7x2)]) (zml mf103 (by decide)) rfl (c := w14v) w14e rfl ?_
          refine zs_goto (pc := 36) t103_36 ?_
          refine zGo.locals (ls' := [(0, .ref 7), (1, .int a), (2, .int w7x2), (3, .int w14v)]) (by simp) ?_
          have w15 := w14
          exact w7ih (w7m - 1) (by omega) w7x2 w14v ⟨by omega, by omega⟩ ⟨by omega, by omega⟩ (by omega) (by omega) (fun k hk => by obtain rfl : k = w9n + 1 := (by omega); exact pct.no (n := w9n) (fun k hk => w7t0 k (by omega)) (zcqB.o (by omega)) (by omega) rfl) (by omega)
        · refine zs_icmp_neF (pc := 19) t103_19 rfl rfl (by omega) ?_
          refine zs_aload_n (pc := 22) t103_22 rfl ?_
          refine zs_iload_n (pc := 23) t103_23 rfl ?_
          refine zs_invV (pc := 24) (k := 7) (as' := [.int w7x3]) (st := []) t103_24 mf93 rfl rfl (Or.inl ⟨by decide, (zk1 (hs.k fk_zMc_7))⟩) ⟨by decide, by decide, Nat.le_of_ble_eq_true rfl, Nat.le_of_ble_eq_true rfl⟩ (X93_7 hs hI x0 x1 ?_) (fun _ _ q => q)
          intro w16v w16x0 w16a w16b
          show zGo X l 2 0 0 103 27 [(0, .ref 7), (1, .int a), (2, .int w7x2), (3, .int w7x3)] [.int w16v] M _
          by_cases w17 : w16v.toInt = 0
          · refine zs_if_eqT (pc := 27) t103_27 rfl (by omega) ?_
            obtain ⟨w18v, w18e, w18⟩ := ziadd (a := w7x3) (b := Int32.ofInt 1) rfl (show (Int32.ofInt 1).toInt = 1 by decide) (by omega) (by omega)
            refine zs_iinc (pc := 33) t103_33 (ls' := [(3, .int w18v), (0, .ref 7), (1, .int a), (2, .int w7x2)]) (zml mf103 (by decide)) rfl (c := w18v) w18e rfl ?_
            refine zs_goto (pc := 36) t103_36 ?_
            refine zGo.locals (ls' := [(0, .ref 7), (1, .int a), (2, .int w7x2), (3, .int w18v)]) (by simp) ?_
            have w19 := w18
            exact w7ih (w7m - 1) (by omega) w7x2 w18v ⟨by omega, by omega⟩ ⟨by omega, by omega⟩ (by omega) (by omega) (fun k hk => by obtain rfl : k = w9n + 1 := (by omega); rcases (w16x0 w9n (by omega) (by omega)) with ⟨q1, q2⟩ | ⟨q1, q2⟩ <;> first | exact absurd q1 (by omega) | exact pct.up (n := w9n) (fun k hk => w7t0 k (by omega)) (zcqB.y q2 (by omega)) (by omega) rfl | exact pct.no (n := w9n) (fun k hk => w7t0 k (by omega)) (zcqB.n q2) (by omega) rfl) (by omega)
          · refine zs_if_eqF (pc := 27) t103_27 rfl (by omega) ?_
            obtain ⟨w20v, w20e, w20⟩ := ziadd (a := w7x2) (b := Int32.ofInt 1) rfl (show (Int32.ofInt 1).toInt = 1 by decide) (by omega) (by omega)
            refine zs_iinc (pc := 30) t103_30 (ls' := [(2, .int w20v), (0, .ref 7), (1, .int a), (3, .int w7x3)]) (zml mf103 (by decide)) rfl (c := w20v) w20e rfl ?_
            obtain ⟨w21v, w21e, w21⟩ := ziadd (a := w7x3) (b := Int32.ofInt 1) rfl (show (Int32.ofInt 1).toInt = 1 by decide) (by omega) (by omega)
            refine zs_iinc (pc := 33) t103_33 (ls' := [(3, .int w21v), (2, .int w20v), (0, .ref 7), (1, .int a)]) (zml mf103 (by decide)) rfl (c := w21v) w21e rfl ?_
            refine zs_goto (pc := 36) t103_36 ?_
            refine zGo.locals (ls' := [(0, .ref 7), (1, .int a), (2, .int w20v), (3, .int w21v)]) (by simp) ?_
            have w22 := w20
            have w23 := w21
            exact w7ih (w7m - 1) (by omega) w20v w21v ⟨by omega, by omega⟩ ⟨by omega, by omega⟩ (by omega) (by omega) (fun k hk => by obtain rfl : k = w9n + 1 := (by omega); rcases (w16x0 w9n (by omega) (by omega)) with ⟨q1, q2⟩ | ⟨q1, q2⟩ <;> first | exact absurd q1 (by omega) | exact pct.up (n := w9n) (fun k hk => w7t0 k (by omega)) (zcqB.y q2 (by omega)) (by omega) rfl | exact pct.no (n := w9n) (fun k hk => w7t0 k (by omega)) (zcqB.n q2) (by omega) rfl) (by omega)
  refine zGo.locals (ls' := [(0, .ref 7), (1, .int a), (2, .int (0 : Int32)), (3, .int (0 : Int32))]) (by simp) ?_
  have w24 := li0
  have w25 := li0
  exact w7L ((60 - 0 : Int).toNat) (0 : Int32) (0 : Int32) ⟨by decide, by decide⟩ ⟨by decide, by decide⟩ (by omega) (by omega) (fun k hk => by obtain rfl : k = 0 := (by omega); rfl) (by omega)
theorem X128_7 {X : zX} {l : Launch} {M : zM} {Q : Option Value → zM → Prop} {a : Int32} (hs : zSk zMc M) (hI : zIv cLo cHi M) {F : Nat → Int} (x0 : zSo M 7 F) (x1 : zWF F) (hQ : ∀ v : Int32, (v.toInt = pct (zcqB F 33 a.toInt) (F 1).toNat) → 0 ≤ v.toInt → v.toInt ≤ 60 → Q (some (.int v)) M) : zCall X l 2 0 0 128 [.ref 7, .int a] M Q := by
  have ga := zrg a
  refine zs_in (by decide) mf128 (Nat.le_of_ble_eq_true rfl) ?_
  show zGo X l 2 0 0 128 0 [(0, .ref 7), (1, .int a)] [] M _
  have f0 := x0.1
  have w1 := ib7_0 hI
  have w2 : (zI M 7 0).toInt = (zI M 7 0).toInt := (congrArg Int32.toInt rfl).trans rfl
  have w3 := ib7_3 hI
  have w4 : (zI M 7 3).toInt = (zI M 7 3).toInt := (congrArg Int32.toInt rfl).trans rfl
  have w5 := ib7_8 hI
  have w6 : (zI M 7 8).toInt = (zI M 7 8).toInt := (congrArg Int32.toInt rfl).trans rfl
  have f1 := x1.1
  have f3 := x1.2.2.2
  have f2 := (show (zI M 7 0).toInt = F 0 ∧ (zI M 7 3).toInt = F 1 ∧ (zI M 7 8).toInt = F 2 from ⟨x0.1.1, x0.1.2.1, x0.1.2.2.1⟩)
  refine zs_iconst (pc := 0) t128_0 (v := 0) (by decide) ?_
  refine zs_istore_n (pc := 1) t128_1 (ls' := [(2, .int (0 : Int32)), (0, .ref 7), (1, .int a)]) (zml mf128 (by decide)) rfl ?_
  refine zs_iconst (pc := 2) t128_2 (v := 0) (by decide) ?_
  refine zs_istore_n (pc := 3) t128_3 (ls' := [(3, .int (0 : Int32)), (2, .int (0 : Int32)), (0, .ref 7), (1, .int a)]) (zml mf128 (by decide)) rfl ?_
  have w7L : ∀ (m : Nat) (w7x2 : Int32) (w7x3 : Int32), (0 ≤ w7x2.toInt ∧ w7x2.toInt ≤ 60) → (0 ≤ w7x3.toInt ∧ w7x3.toInt ≤ 60) → (w7x2.toInt ≤ w7x3.toInt) → (w7x3.toInt ≤ F 1) → (∀ k : Nat, (k : Int) = w7x3.toInt → w7x2.toInt = pct (zcqB F 33 a.toInt) k) → 60 - w7x3.toInt ≤ (m : Int) → zGo X l 2 0 0 128 4 [(0, .ref 7), (1, .int a), (2, .int w7x2), (3, .int w7x3)] [] M Q := by
    intro m
    induction m using Nat.strongRecOn with
    | ind w7m w7ih =>
      intro w7x2 w7x3 w7b2 w7b3 w7r0 w7r1 w7t0 w7q
      refine zs_iload_n (pc := 4) t128_4 rfl ?_
      refine zs_aload_n (pc := 5) t128_5 rfl ?_
      refine zs_get (pc := 6) t128_6 (by decide) (zk1 (hs.k fk_zMc_7)) (zfvi rfl rfl) ?_
      by_cases w8 : (zI M 7 3).toInt ≤ w7x3.toInt
      · refine zs_icmp_geT (pc := 9) t128_9 rfl rfl (by omega) ?_
        refine zs_iload_n (pc := 39) t128_39 rfl ?_
        exact zs_iret (pc := 40) t128_40 mr128 rfl (hQ _ (by have q := w7t0 (F 1).toNat (by omega); omega) (by omega) (by omega))
      · refine zs_icmp_geF (pc := 9) t128_9 rfl rfl (by omega) ?_
        refine zs_aload_n (pc := 12) t128_12 rfl ?_
        refine zs_get (pc := 13) t128_13 (by decide) (zk1 (hs.k fk_zMc_7)) (hs.p rfl fv_zMc_7_7) ?_
        refine zs_iload_n (pc := 16) t128_16 rfl ?_
        obtain ⟨w9n, w9⟩ : ∃ n : Nat, w7x3.toInt = (n : Int) := ⟨(w7x3.toInt).toNat, by omega⟩
        have w10 := zrg (zI M 13 w9n)
        have w11 : (zI M 10 w9n).toInt = F (30 + 4 * w9n) ∧ (zI M 11 w9n).toInt = F (31 + 4 * w9n) ∧ (zI M 12 w9n).toInt = F (32 + 4 * w9n) ∧ (zI M 13 w9n).toInt = F (33 + 4 * w9n) := x0.2.2.1 w9n (by omega)
        have w12 := x1.2.2.1 w9n (by omega)
        refine zs_iald (pc := 17) t128_17 (j := w9n) (by decide) (zk1 (hs.k fk_zMc_13)) (show w7x3.toInt = ((w9n : Nat) : Int) by omega) (zk2 (hs.k fk_zMc_13) (by omega)) rfl ?_
        refine zs_iload_n (pc := 18) t128_18 rfl ?_
        by_cases w13 : (zI M 13 w9n).toInt ≠ a.toInt
        · refine zs_icmp_neT (pc := 19) t128_19 rfl rfl (by omega) ?_
          obtain ⟨w14v, w14e, w14⟩ := ziadd (a := w7x3) (b := Int32.ofInt 1) rfl (show (Int32.ofInt 1).toInt = 1 by decide) (by omega) (by omega)
          refine zs_iinc (pc := 33) t128_33 (ls' := [(3, .int w14v), (0, .ref 7), (1, .int a), (2, .int w7x2)]) (zml mf128 (by decide)) rfl (c := w14v) w14e rfl ?_
          refine zs_goto (pc := 36) t128_36 ?_
          refine zGo.locals (ls' := [(0, .ref 7), (1, .int a), (2, .int w7x2), (3, .int w14v)]) (by simp) ?_
          have w15 := w14
          exact w7ih (w7m - 1) (by omega) w7x2 w14v ⟨by omega, by omega⟩ ⟨by omega, by omega⟩ (by omega) (by omega) (fun k hk => by obtain rfl : k = w9n + 1 := (by omega); exact pct.no (n := w9n) (fun k hk => w7t0 k (by omega)) (zcqB.o (by omega)) (by omega) rfl) (by omega)
        · refine zs_icmp_neF (pc := 19) t128_19 rfl rfl (by omega) ?_
          refine zs_aload_n (pc := 22) t128_22 rfl ?_
          refine zs_iload_n (pc := 23) t128_23 rfl ?_
          refine zs_invV (pc := 24) (k := 7) (as' := [.int w7x3]) (st := []) t128_24 mf93 rfl rfl (Or.inl ⟨by decide, (zk1 (hs.k fk_zMc_7))⟩) ⟨by decide, by decide, Nat.le_of_ble_eq_true rfl, Nat.le_of_ble_eq_true rfl⟩ (X93_7 hs hI x0 x1 ?_) (fun _ _ q => q)
          intro w16v w16x0 w16a w16b
          show zGo X l 2 0 0 128 27 [(0, .ref 7), (1, .int a), (2, .int w7x2), (3, .int w7x3)] [.int w16v] M _
          by_cases w17 : w16v.toInt = 0
          · refine zs_if_eqT (pc := 27) t128_27 rfl (by omega) ?_
            obtain ⟨w18v, w18e, w18⟩ := ziadd (a := w7x3) (b := Int32.ofInt 1) rfl (show (Int32.ofInt 1).toInt = 1 by decide) (by omega) (by omega)
            refine zs_iinc (pc := 33) t128_33 (ls' := [(3, .int w18v), (0, .ref 7), (1, .int a), (2, .int w7x2)]) (zml mf128 (by decide)) rfl (c := w18v) w18e rfl ?_
            refine zs_goto (pc := 36) t128_36 ?_
            refine zGo.locals (ls' := [(0, .ref 7), (1, .int a), (2, .int w7x2), (3, .int w18v)]) (by simp) ?_
            have w19 := w18
            exact w7ih (w7m - 1) (by omega) w7x2 w18v ⟨by omega, by omega⟩ ⟨by omega, by omega⟩ (by omega) (by omega) (fun k hk => by obtain rfl : k = w9n + 1 := (by omega); rcases (w16x0 w9n (by omega) (by omega)) with ⟨q1, q2⟩ | ⟨q1, q2⟩ <;> first | exact absurd q1 (by omega) | exact pct.up (n := w9n) (fun k hk => w7t0 k (by omega)) (zcqB.y q2 (by omega)) (by omega) rfl | exact pct.no (n := w9n) (fun k hk => w7t0 k (by omega)) (zcqB.n q2) (by omega) rfl) (by omega)
          · refine zs_if_eqF (pc := 27) t128_27 rfl (by omega) ?_
            obtain ⟨w20v, w20e, w20⟩ := ziadd (a := w7x2) (b := Int32.ofInt 1) rfl (show (Int32.ofInt 1).toInt = 1 by decide) (by omega) (by omega)
            refine zs_iinc (pc := 30) t128_30 (ls' := [(2, .int w20v), (0, .ref 7), (1, .int a), (3, .int w7x3)]) (zml mf128 (by decide)) rfl (c := w20v) w20e rfl ?_
            obtain ⟨w21v, w21e, w21⟩ := ziadd (a := w7x3) (b := Int32.ofInt 1) rfl (show (Int32.ofInt 1).toInt = 1 by decide) (by omega) (by omega)
            refine zs_iinc (pc := 33) t128_33 (ls' := [(3, .int w21v), (2, .int w20v), (0, .ref 7), (1, .int a)]) (zml mf128 (by decide)) rfl (c := w21v) w21e rfl ?_
            refine zs_goto (pc := 36) t128_36 ?_
            refine zGo.locals (ls' := [(0, .ref 7), (1, .int a), (2, .int w20v), (3, .int w21v)]) (by simp) ?_
            have w22 := w20
            have w23 := w21
            exact w7ih (w7m - 1) (by omega) w20v w21v ⟨by omega, by omega⟩ ⟨by omega, by omega⟩ (by omega) (by omega) (fun k hk => by obtain rfl : k = w9n + 1 := (by omega); rcases (w16x0 w9n (by omega) (by omega)) with ⟨q1, q2⟩ | ⟨q1, q2⟩ <;> first | exact absurd q1 (by omega) | exact pct.up (n := w9n) (fun k hk => w7t0 k (by omega)) (zcqB.y q2 (by omega)) (by omega) rfl | exact pct.no (n := w9n) (fun k hk => w7t0 k (by omega)) (zcqB.n q2) (by omega) rfl) (by omega)
  refine zGo.locals (ls' := [(0, .ref 7), (1, .int a), (2, .int (0 : Int32)), (3, .int (0 : Int32))]) (by simp) ?_
  have w24 := li0
  have w25 := li0
  exact w7L ((60 - 0 : Int).toNat) (0 : Int32) (0 : Int32) ⟨by decide, by decide⟩ ⟨by decide, by decide⟩ (by omega) (by omega) (fun k hk => by obtain rfl : k = 0 := (by omega); rfl) (by omega)
theorem X100_7 {X : zX} {l : Launch} {M : zM} {Q : Option Value → zM → Prop} (hs : zSk zMc M) (hI : zIv cLo cHi M) {F : Nat → Int} (x0 : zSo M 7 F) (x1 : zWF F) (hQ : ∀ v : Int32, (v.toInt = pct (zalv F) (F 0).toNat) → 0 ≤ v.toInt → v.toInt ≤ 8 → Q (some (.int v)) M) : zCall X l 0 0 0 100 [.ref 7] M Q := by
  refine zs_in (by decide) mf100 (Nat.le_of_ble_eq_true rfl) ?_
  show zGo X l 0 0 0 100 0 [(0, .ref 7)] [] M _
  have f0 := x0.1
  have w1 := ib7_0 hI
  have w2 : (zI M 7 0).toInt = (zI M 7 0).toInt := (congrArg Int32.toInt rfl).trans rfl
  have w3 := ib7_3 hI
  have w4 : (zI M 7 3).toInt = (zI M 7 3).toInt := (congrArg Int32.toInt rfl).trans rfl
  have w5 := ib7_8 hI
  have w6 : (zI M 7 8).toInt = (zI M 7 8).toInt := (congrArg Int32.toInt rfl).trans rfl
  have f1 := x1.1
  have f3 := x1.2.2.2
  have f2 := (show (zI M 7 0).toInt = F 0 ∧ (zI M 7 3).toInt = F 1 ∧ (zI M 7 8).toInt = F 2 from ⟨x0.1.1, x0.1.2.1, x0.1.2.2.1⟩)
  refine zs_iconst (pc := 0) t100_0 (v := 0) (by decide) ?_
  refine zs_istore_n (pc := 1) t100_1 (ls' := [(1, .int (0 : Int32)), (0, .ref 7)]) (zml mf100 (by decide)) rfl ?_
  refine zs_iconst (pc := 2) t100_2 (v := 0) (by decide) ?_
  refine zs_istore_n (pc := 3) t100_3 (ls' := [(2, .int (0 : Int32)), (1, .int (0 : Int32)), (0, .ref 7)]) (zml mf100 (by decide)) rfl ?_
  have w7L : ∀ (m : Nat) (w7x1 : Int32) (w7x2 : Int32), (0 ≤ w7x1.toInt ∧ w7x1.toInt ≤ 8) → (0 ≤ w7x2.toInt ∧ w7x2.toInt ≤ 8) → (w7x1.toInt ≤ w7x2.toInt) → (w7x2.toInt ≤ F 0) → (∀ k : Nat, (k : Int) = w7x2.toInt → w7x1.toInt = pct (zalv F) k) → 8 - w7x2.toInt ≤ (m : Int) → zGo X l 0 0 0 100 4 [(0, .ref 7), (1, .int w7x1), (2, .int w7x2)] [] M Q := by
    intro m
    induction m using Nat.strongRecOn with
    | ind w7m w7ih =>
      intro w7x1 w7x2 w7b1 w7b2 w7r0 w7r1 w7t0 w7q
      refine zs_iload_n (pc := 4) t100_4 rfl ?_
      refine zs_aload_n (pc := 5) t100_5 rfl ?_
      refine zs_get (pc := 6) t100_6 (by decide) (zk1 (hs.k fk_zMc_7)) (zfvi rfl rfl) ?_
      by_cases w8 : (zI M 7 0).toInt ≤ w7x2.toInt
      · refine zs_icmp_geT (pc := 9) t100_9 rfl rfl (by omega) ?_
        refine zs_iload_n (pc := 30) t100_30 rfl ?_
        exact zs_iret (pc := 31) t100_31 mr100 rfl (hQ _ (by have q := w7t0 (F 0).toNat (by omega); omega) (by omega) (by omega))
      · refine zs_icmp_geF (pc := 9) t100_9 rfl rfl (by omega) ?_
        refine zs_aload_n (pc := 12) t100_12 rfl ?_
        refine zs_get (pc := 13) t100_13 (by decide) (zk1 (hs.k fk_zMc_7)) (hs.p rfl fv_zMc_7_2) ?_
        refine zs_iload_n (pc := 16) t100_16 rfl ?_
        obtain ⟨w9n, w9⟩ : ∃ n : Nat, w7x2.toInt = (n : Int) := ⟨(w7x2.toInt).toNat, by omega⟩
        have w10 := ib9 hI w9n
        have w11 : (zI M 8 w9n).toInt = F (14 + 2 * w9n) ∧ (zI M 9 w9n).toInt = F (15 + 2 * w9n) := x0.2.1 w9n (by omega)
        have w12 := x1.2.1 w9n (by omega)
        refine zs_bald (pc := 17) t100_17 (j := w9n) (Or.inr (zk1 (hs.k fk_zMc_9))) (show w7x2.toInt = ((w9n : Nat) : Int) by omega) (zk2 (hs.k fk_zMc_9) (by omega)) rfl ?_
        by_cases w13 : (zI M 9 w9n).toInt = 0
        · refine zs_if_eqT (pc := 18) t100_18 rfl (by omega) ?_
          obtain ⟨w14v, w14e, w14⟩ := ziadd (a := w7x2) (b := Int32.ofInt 1) rfl (show (Int32.ofInt 1).toInt = 1 by decide) (by omega) (by omega)
          refine zs_iinc (pc := 24) t100_24 (ls' := [(2, .int w14v), (0, .ref 7), (1, .int w7x1)]) (zml mf100 (by decide)) rfl (c := w14v) w14e rfl ?_
          refine zs_goto (pc := 27) t100_27 ?_
          refine zGo.locals (ls' := [(0, .ref 7), (1, .int w7x1), (2, .int w14v)]) (by simp) ?_
          have w15 := w14
          exact w7ih (w7m - 1) (by omega) w7x1 w14v ⟨by omega, by omega⟩ ⟨by omega, by omega⟩ (by omega) (by omega) (fun k hk => by obtain rfl : k = w9n + 1 := (by omega); first | exact pct.up (n := w9n) (fun k hk => w7t0 k (by omega)) (zalv.y (by omega)) (by omega) rfl | exact pct.no (n := w9n) (fun k hk => w7t0 k (by omega)) (zalv.n (by omega)) (by omega) rfl) (by omega)
        · refine zs_if_eqF (pc := 18) t100_18 rfl (by omega) ?_
          obtain ⟨w16v, w16e, w16⟩ := ziadd (a := w7x1) (b := Int32.ofInt 1) rfl (show (Int32.ofInt 1).toInt = 1 by decide) (by omega) (by omega)
          refine zs_iinc (pc := 21) t100_21 (ls' := [(1, .int w16v), (0, .ref 7), (2, .int w7x2)]) (zml mf100 (by decide)) rfl (c := w16v) w16e rfl ?_
          obtain ⟨w17v, w17e, w17⟩ := ziadd (a := w7x2) (b := Int32.ofInt 1) rfl (show (Int32.ofInt 1).toInt = 1 by decide) (by omega) (by omega)
          refine zs_iinc (pc := 24) t100_24 (ls' := [(2, .int w17v), (1, .int w16v), (0, .ref 7)]) (zml mf100 (by decide)) rfl (c := w17v) w17e rfl ?_
          refine zs_goto (pc := 27) t100_27 ?_
          refine zGo.locals (ls' := [(0, .ref 7), (1, .int w16v), (2, .int w17v)]) (by simp) ?_
          have w18 := w16
          have w19 := w17
          exact w7ih (w7m - 1) (by omega) w16v w17v ⟨by omega, by omega⟩ ⟨by omega, by omega⟩ (by omega) (by omega) (fun k hk => by obtain rfl : k = w9n + 1 := (by omega); first | exact pct.up (n := w9n) (fun k hk => w7t0 k (by omega)) (zalv.y (by omega)) (by omega) rfl | exact pct.no (n := w9n) (fun k hk => w7t0 k (by omega)) (zalv.n (by omega)) (by omega) rfl) (by omega)
  refine zGo.locals (ls' := [(0, .ref 7), (1, .int (0 : Int32)), (2, .int (0 : Int32))]) (by simp) ?_
  have w20 := li0
  have w21 := li0
  exact w7L ((8 - 0 : Int).toNat) (0 : Int32) (0 : Int32) ⟨by decide, by decide⟩ ⟨by decide, by decide⟩ (by omega) (by omega) (fun k hk => by obtain rfl : k = 0 := (by omega); rfl) (by omega)
theorem X50_7 {X : zX} {l : Launch} {M : zM} {Q : Option Value → zM → Prop} {a b c d : Int32} (hs : zSk zMc M) (hI : zIv cLo cHi M) {F : Nat → Int} (x0 : zSo M 7 F) (hQ : ∀ (M' : zM) (v : Int32), zSk zMc M' → zIv cLo cHi M' → zFr [(7, 7, some 3), (10, 13, none)] M M' → ((v.toInt = -1 ∧ (a.toInt < 0 ∨ F 0 ≤ a.toInt ∨ b.toInt < -9999 ∨ 9999 < b.toInt ∨ c.toInt < 0 ∨ 999 < c.toInt ∨ 60 ≤ F 1) ∧ zSo M' 7 F) ∨ ((0 ≤ a.toInt ∧ a.toInt < F 0 ∧ -9999 ≤ b.toInt ∧ b.toInt ≤ 9999 ∧ 0 ≤ c.toInt ∧ c.toInt ≤ 999 ∧ F 1 < 60) ∧ v.toInt = F 1 ∧ zSo M' 7 (pHit F a.toInt b.toInt c.toInt d.toInt))) → Q (some (.int v)) M') : zCall X l 2 0 0 50 [.ref 7, .int a, .int b, .int c, .int d] M Q := by
  have ga := zrg a
  have gb := zrg b
  have gc := zrg c
  have gd := zrg d
  refine zs_in (by decide) mf50 (Nat.le_of_ble_eq_true rfl) ?_
  show zGo X l 2 0 0 50 0 [(0, .ref 7), (1, .int a), (2, .int b), (3, .int c), (4, .int d)] [] M _
  have f0 := x0.1
  have w1 := ib7_0 hI
  have w2 : (zI M 7 0).toInt = (zI M 7 0).toInt := (congrArg Int32.toInt rfl).trans rfl
  have w3 := ib7_3 hI
  have w4 : (zI M 7 3).toInt = (zI M 7 3).toInt := (congrArg Int32.toInt rfl).trans rfl
  have w5 := ib7_8 hI
  have w6 : (zI M 7 8).toInt = (zI M 7 8).toInt := (congrArg Int32.toInt rfl).trans rfl
  have f2 := (show (zI M 7 0).toInt = F 0 ∧ (zI M 7 3).toInt = F 1 ∧ (zI M 7 8).toInt = F 2 from ⟨x0.1.1, x0.1.2.1, x0.1.2.2.1⟩)
  refine zs_aload_n (pc := 0) t50_0 rfl ?_
  refine zs_iload_n (pc := 1) t50_1 rfl ?_
  refine zs_iload_n (pc := 2) t50_2 rfl ?_
  refine zs_iload_n (pc := 3) t50_3 rfl ?_
  refine zs_invV (pc := 4) (k := 7) (as' := [.int a, .int b, .int c]) (st := []) t50_4 mf51 rfl rfl (Or.inl ⟨by decide, (zk1 (hs.k fk_zMc_7))⟩) ⟨by decide, by decide, Nat.le_of_ble_eq_true rfl, Nat.le_of_ble_eq_true rfl⟩ (zs_in (by decide) mf51 (Nat.le_of_ble_eq_true rfl) ?_) (fun _ _ q => q)
  show zGo X l 1 0 0 51 0 [(0, .ref 7), (1, .int a), (2, .int b), (3, .int c)] [] M _
  refine zs_aload_n (pc := 0) t51_0 rfl ?_
  refine zs_iload_n (pc := 1) t51_1 rfl ?_
  refine zs_invV (pc := 2) (k := 7) (as' := [.int a]) (st := []) t51_2 mf41 rfl rfl (Or.inl ⟨by decide, (zk1 (hs.k fk_zMc_7))⟩) ⟨by decide, by decide, Nat.le_of_ble_eq_true rfl, Nat.le_of_ble_eq_true rfl⟩ (zs_in (by decide) mf41 (Nat.le_of_ble_eq_true rfl) ?_) (fun _ _ q => q)
  show zGo X l 0 0 0 41 0 [(0, .ref 7), (1, .int a)] [] M _
  refine zs_iload_n (pc := 0) t41_0 rfl ?_
  by_cases w7 : a.toInt < 0
  · refine zs_if_ltT (pc := 1) t41_1 rfl (by omega) ?_
    refine zs_iconst (pc := 16) t41_16 (v := 0) (by decide) ?_
    refine zs_iret (pc := 17) t41_17 mr41 (by decide) ?_
    show zGo X l 1 0 0 51 5 [(0, .ref 7), (1, .int a), (2, .int b), (3, .int c)] [.int (0 : Int32)] M _
    refine zs_if_eqT (pc := 5) t51_5 li0 (by decide) ?_
    refine zs_iconst (pc := 39) t51_39 (v := 0) (by decide) ?_
    refine zs_iret (pc := 40) t51_40 mr51 (by decide) ?_
    show zGo X l 2 0 0 50 7 [(0, .ref 7), (1, .int a), (2, .int b), (3, .int c), (4, .int d)] [.int (0 : Int32)] M _
    refine zs_if_neF (pc := 7) t50_7 li0 (by decide) ?_
    refine zs_iconst (pc := 10) t50_10 (v := -1) (by decide) ?_
    exact zs_iret (pc := 11) t50_11 mr50 (by decide) (hQ _ _ hs hI (zFr.refl) (Or.inl ⟨by decide, by omega, x0⟩))
  · refine zs_if_ltF (pc := 1) t41_1 rfl (by omega) ?_
    refine zs_iload_n (pc := 4) t41_4 rfl ?_
    refine zs_aload_n (pc := 5) t41_5 rfl ?_
    refine zs_get (pc := 6) t41_6 (by decide) (zk1 (hs.k fk_zMc_7)) (zfvi rfl rfl) ?_
    by_cases w8 : (zI M 7 0).toInt ≤ a.toInt
    · refine zs_icmp_geT (pc := 9) t41_9 rfl rfl (by omega) ?_
      refine zs_iconst (pc := 16) t41_16 (v := 0) (by decide) ?_
      refine zs_iret (pc := 17) t41_17 mr41 (by decide) ?_
      show zGo X l 1 0 0 51 5 [(0, .ref 7), (1, .int a), (2, .int b), (3, .int c)] [.int (0 : Int32)] M _
      refine zs_if_eqT (pc := 5) t51_5 li0 (by decide) ?_
      refine zs_iconst (pc := 39) t51_39 (v := 0) (by decide) ?_
      refine zs_iret (pc := 40) t51_40 mr51 (by decide) ?_
      show zGo X l 2 0 0 50 7 [(0, .ref 7), (1, .int a), (2, .int b), (3, .int c), (4, .int d)] [.int (0 : Int32)] M _
      refine zs_if_neF (pc := 7) t50_7 li0 (by decide) ?_
      refine zs_iconst (pc := 10) t50_10 (v := -1) (by decide) ?_
      exact zs_iret (pc := 11) t50_11 mr50 (by decide) (hQ _ _ hs hI (zFr.refl) (Or.inl ⟨by decide, by omega, x0⟩))
    · refine zs_icmp_geF (pc := 9) t41_9 rfl rfl (by omega) ?_
      refine zs_iconst (pc := 12) t41_12 (v := 1) (by decide) ?_
      refine zs_goto (pc := 13) t41_13 ?_
      refine zs_iret (pc := 17) t41_17 mr41 (by decide) ?_
      show zGo X l 1 0 0 51 5 [(0, .ref 7), (1, .int a), (2, .int b), (3, .int c)] [.int (1 : Int32)] M _
      refine zs_if_eqF (pc := 5) t51_5 li1 (by decide) ?_
      refine zs_iload_n (pc := 8) t51_8 rfl ?_
      refine zs_invS (pc := 9) (as := [.int b]) (st := []) t51_9 (by decide) mf42 rfl rfl ⟨by decide, by decide, Nat.le_of_ble_eq_true rfl, Nat.le_of_ble_eq_true rfl⟩ (zs_in (by decide) mf42 (Nat.le_of_ble_eq_true rfl) ?_) (fun _ _ q => q)
      show zGo X l 0 0 0 42 0 [(0, .int b)] [] M _
      refine zs_iload_n (pc := 0) t42_0 rfl ?_
      refine zs_sipush (pc := 1) t42_1 (v := -9999) (by decide) ?_
      by_cases w9 : b.toInt < (-9999)
      · refine zs_icmp_ltT (pc := 4) t42_4 rfl lin9999 (by omega) ?_
        refine zs_iconst (pc := 18) t42_18 (v := 0) (by decide) ?_
        refine zs_iret (pc := 19) t42_19 mr42 (by decide) ?_
        show zGo X l 1 0 0 51 12 [(0, .ref 7), (1, .int a), (2, .int b), (3, .int c)] [.int (0 : Int32)] M _
        refine zs_if_eqT (pc := 12) t51_12 li0 (by decide) ?_
        refine zs_iconst (pc := 39) t51_39 (v := 0) (by decide) ?_
        refine zs_iret (pc := 40) t51_40 mr51 (by decide) ?_
        show zGo X l 2 0 0 50 7 [(0, .ref 7), (1, .int a), (2, .int b), (3, .int c), (4, .int d)] [.int (0 : Int32)] M _
        refine zs_if_neF (pc := 7) t50_7 li0 (by decide) ?_
        refine zs_iconst (pc := 10) t50_10 (v := -1) (by decide) ?_
        exact zs_iret (pc := 11) t50_11 mr50 (by decide) (hQ _ _ hs hI (zFr.refl) (Or.inl ⟨by decide, by omega, x0⟩))
      · refine zs_icmp_ltF (pc := 4) t42_4 rfl lin9999 (by omega) ?_
        refine zs_iload_n (pc := 7) t42_7 rfl ?_
        refine zs_sipush (pc := 8) t42_8 (v := 9999) (by decide) ?_
        by_cases w10 : 9999 < b.toInt
        · refine zs_icmp_gtT (pc := 11) t42_11 rfl li9999 (by omega) ?_
          refine zs_iconst (pc := 18) t42_18 (v := 0) (by decide) ?_
          refine zs_iret (pc := 19) t42_19 mr42 (by decide) ?_
          show zGo X l 1 0 0 51 12 [(0, .ref 7), (1, .int a), (2, .int b), (3, .int c)] [.int (0 : Int32)] M _
          refine zs_if_eqT (pc := 12) t51_12 li0 (by decide) ?_
          refine zs_iconst (pc := 39) t51_39 (v := 0) (by decide) ?_
          refine zs_iret (pc := 40) t51_40 mr51 (by decide) ?_
          show zGo X l 2 0 0 50 7 [(0, .ref 7), (1, .int a), (2, .int b), (3, .int c), (4, .int d)] [.int (0 : Int32)] M _
          refine zs_if_neF (pc := 7) t50_7 li0 (by decide) ?_
          refine zs_iconst (pc := 10) t50_10 (v := -1) (by decide) ?_
          exact zs_iret (pc := 11) t50_11 mr50 (by decide) (hQ _ _ hs hI (zFr.refl) (Or.inl ⟨by decide, by omega, x0⟩))
        · refine zs_icmp_gtF (pc := 11) t42_11 rfl li9999 (by omega) ?_
          refine zs_iconst (pc := 14) t42_14 (v := 1) (by decide) ?_
          refine zs_goto (pc := 15) t42_15 ?_
          refine zs_iret (pc := 19) t42_19 mr42 (by decide) ?_
          show zGo X l 1 0 0 51 12 [(0, .ref 7), (1, .int a), (2, .int b), (3, .int c)] [.int (1 : Int32)] M _
          refine zs_if_eqF (pc := 12) t51_12 li1 (by decide) ?_
          refine zs_iload_n (pc := 15) t51_15 rfl ?_
          refine zs_iconst (pc := 16) t51_16 (v := 0) (by decide) ?_
          refine zs_sipush (pc := 17) t51_17 (v := 999) (by decide) ?_
          refine zs_invS (pc := 20) (as := [.int c, .int (0 : Int32), .int (999 : Int32)]) (st := []) t51_20 (by decide) mf39 rfl rfl ⟨by decide, by decide, Nat.le_of_ble_eq_true rfl, Nat.le_of_ble_eq_true rfl⟩ (zs_in (by decide) mf39 (Nat.le_of_ble_eq_true rfl) ?_) (fun _ _ q => q)
          show zGo X l 0 0 0 39 0 [(0, .int c), (1, .int (0 : Int32)), (2, .int (999 : Int32))] [] M _
          refine zs_iload_n (pc := 0) t39_0 rfl ?_
          refine zs_iload_n (pc := 1) t39_1 rfl ?_
          by_cases w11 : c.toInt < 0
          · refine zs_icmp_ltT (pc := 2) t39_2 rfl li0 (by omega) ?_
            refine zs_iconst (pc := 14) t39_14 (v := 0) (by decide) ?_
            refine zs_iret (pc := 15) t39_15 mr39 (by decide) ?_
            show zGo X l 1 0 0 51 23 [(0, .ref 7), (1, .int a), (2, .int b), (3, .int c)] [.int (0 : Int32)] M _
            refine zs_if_eqT (pc := 23) t51_23 li0 (by decide) ?_
            refine zs_iconst (pc := 39) t51_39 (v := 0) (by decide) ?_
            refine zs_iret (pc := 40) t51_40 mr51 (by decide) ?_
            show zGo X l 2 0 0 50 7 [(0, .ref 7), (1, .int a), (2, .int b), (3, .int c), (4, .int d)] [.int (0 : Int32)] M _
            refine zs_if_neF (pc := 7) t50_7 li0 (by decide) ?_
            refine zs_iconst (pc := 10) t50_10 (v := -1) (by decide) ?_
            exact zs_iret (pc := 11) t50_11 mr50 (by decide) (hQ _ _ hs hI (zFr.refl) (Or.inl ⟨by decide, by omega, x0⟩))
          · refine zs_icmp_ltF (pc := 2) t39_2 rfl li0 (by omega) ?_
            refine zs_iload_n (pc := 5) t39_5 rfl ?_
            refine zs_iload_n (pc := 6) t39_6 rfl ?_
            by_cases w12 : 999 < c.toInt
            · refine zs_icmp_gtT (pc := 7) t39_7 rfl li999 (by omega) ?_
              refine zs_iconst (pc := 14) t39_14 (v := 0) (by decide) ?_
              refine zs_iret (pc := 15) t39_15 mr39 (by decide) ?_
              show zGo X l 1 0 0 51 23 [(0, .ref 7), (1, .int a), (2, .int b), (3, .int c)] [.int (0 : Int32)] M _
              refine zs_if_eqT (pc := 23) t51_23 li0 (by decide) ?_
              refine zs_iconst (pc := 39) t51_39 (v := 0) (by decide) ?_
              refine zs_iret (pc := 40) t51_40 mr51 (by decide) ?_
              show zGo X l 2 0 0 50 7 [(0, .ref 7), (1, .int a), (2, .int b), (3, .int c), (4, .int d)] [.int (0 : Int32)] M _
              refine zs_if_neF (pc := 7) t50_7 li0 (by decide) ?_
              refine zs_iconst (pc := 10) t50_10 (v := -1) (by decide) ?_
              exact zs_iret (pc := 11) t50_11 mr50 (by decide) (hQ _ _ hs hI (zFr.refl) (Or.inl ⟨by decide, by omega, x0⟩))
            · refine zs_icmp_gtF (pc := 7) t39_7 rfl li999 (by omega) ?_
              refine zs_iconst (pc := 10) t39_10 (v := 1) (by decide) ?_
              refine zs_goto (pc := 11) t39_11 ?_
              refine zs_iret (pc := 15) t39_15 mr39 (by decide) ?_
              show zGo X l 1 0 0 51 23 [(0, .ref 7), (1, .int a), (2, .int b), (3, .int c)] [.int (1 : Int32)] M _
              refine zs_if_eqF (pc := 23) t51_23 li1 (by decide) ?_
              refine zs_aload_n (pc := 26) t51_26 rfl ?_
              refine zs_get (pc := 27) t51_27 (by decide) (zk1 (hs.k fk_zMc_7)) (zfvi rfl rfl) ?_
              refine zs_bipush (pc := 30) t51_30 (v := 60) (by decide) ?_
              by_cases w13 : 60 ≤ (zI M 7 3).toInt
              · refine zs_icmp_geT (pc := 32) t51_32 rfl li60 (by omega) ?_
                refine zs_iconst (pc := 39) t51_39 (v := 0) (by decide) ?_
                refine zs_iret (pc := 40) t51_40 mr51 (by decide) ?_
                show zGo X l 2 0 0 50 7 [(0, .ref 7), (1, .int a), (2, .int b), (3, .int c), (4, .int d)] [.int (0 : Int32)] M _
                refine zs_if_neF (pc := 7) t50_7 li0 (by decide) ?_
                refine zs_iconst (pc := 10) t50_10 (v := -1) (by decide) ?_
                exact zs_iret (pc := 11) t50_11 mr50 (by decide) (hQ _ _ hs hI (zFr.refl) (Or.inl ⟨by decide, by omega, x0⟩))
              · refine zs_icmp_geF (pc := 32) t51_32 rfl li60 (by omega) ?_
                refine zs_iconst (pc := 35) t51_35 (v := 1) (by decide) ?_
                refine zs_goto (pc := 36) t51_36 ?_
                refine zs_iret (pc := 40) t51_40 mr51 (by decide) ?_
                show zGo X l 2 0 0 50 7 [(0, .ref 7), (1, .int a), (2, .int b), (3, .int c), (4, .int d)] [.int (1 : Int32)] M _
                refine zs_if_neT (pc := 7) t50_7 li1 (by decide) ?_
                refine zs_aload_n (pc := 12) t50_12 rfl ?_
                refine zs_get (pc := 13) t50_13 (by decide) (zk1 (hs.k fk_zMc_7)) (hs.p rfl fv_zMc_7_4) ?_
                refine zs_aload_n (pc := 16) t50_16 rfl ?_
                refine zs_get (pc := 17) t50_17 (by decide) (zk1 (hs.k fk_zMc_7)) (zfvi rfl rfl) ?_
                refine zs_iload_n (pc := 20) t50_20 rfl ?_
                obtain ⟨w14n, w14⟩ : ∃ n : Nat, (zI M 7 3).toInt = (n : Int) := ⟨((zI M 7 3).toInt).toNat, by omega⟩
                have w15 : zIv cLo cHi (zsI M 10 w14n a) := zIv.put hI (show 0 ≤ a.toInt ∧ a.toInt ≤ 7 from ⟨by omega, by omega⟩)
                refine zs_iast (pc := 21) t50_21 (j := w14n) (by decide) (zk1 (hs.k fk_zMc_10)) (show (zI M 7 3).toInt = ((w14n : Nat) : Int) by omega) (zk2 (hs.k fk_zMc_10) (by omega)) ?_
                refine zs_aload_n (pc := 22) t50_22 rfl ?_
                refine zs_get (pc := 23) t50_23 (by decide) (zk1 (hs.k fk_zMc_7)) (hs.p rfl fv_zMc_7_5) ?_
                refine zs_aload_n (pc := 26) t50_26 rfl ?_
                refine zs_get (pc := 27) t50_27 (by decide) (zk1 (hs.k fk_zMc_7)) (zfvi rfl ((zIo (by decide)).trans rfl)) ?_
                refine zs_iload_n (pc := 30) t50_30 rfl ?_
                have w16 : zIv cLo cHi (zsI (zsI M 10 w14n a) 11 w14n b) := zIv.put w15 (show (-2147483648) ≤ b.toInt ∧ b.toInt ≤ 2147483647 from zrg b)
                refine zs_iast (pc := 31) t50_31 (j := w14n) (by decide) (zk1 (hs.k fk_zMc_11)) (show (zI M 7 3).toInt = ((w14n : Nat) : Int) by omega) (zk2 (hs.k fk_zMc_11) (by omega)) ?_
                refine zs_aload_n (pc := 32) t50_32 rfl ?_
                refine zs_get (pc := 33) t50_33 (by decide) (zk1 (hs.k fk_zMc_7)) (hs.p rfl fv_zMc_7_6) ?_
                refine zs_aload_n (pc := 36) t50_36 rfl ?_
                refine zs_get (pc := 37) t50_37 (by decide) (zk1 (hs.k fk_zMc_7)) (zfvi rfl ((zIo (by decide)).trans ((zIo (by decide)).trans rfl))) ?_
                refine zs_iload_n (pc := 40) t50_40 rfl ?_
                have w17 : zIv cLo cHi (zsI (zsI (zsI M 10 w14n a) 11 w14n b) 12 w14n c) := zIv.put w16 (show (-2147483648) ≤ c.toInt ∧ c.toInt ≤ 2147483647 from zrg c)
                refine zs_iast (pc := 41) t50_41 (j := w14n) (by decide) (zk1 (hs.k fk_zMc_12)) (show (zI M 7 3).toInt = ((w14n : Nat) : Int) by omega) (zk2 (hs.k fk_zMc_12) (by omega)) ?_
                refine zs_aload_n (pc := 42) t50_42 rfl ?_
                refine zs_get (pc := 43) t50_43 (by decide) (zk1 (hs.k fk_zMc_7)) (hs.p rfl fv_zMc_7_7) ?_
                refine zs_aload_n (pc := 46) t50_46 rfl ?_
                refine zs_get (pc := 47) t50_47 (by decide) (zk1 (hs.k fk_zMc_7)) (zfvi rfl ((zIo (by decide)).trans ((zIo (by decide)).trans ((zIo (by decide)).trans rfl)))) ?_
                refine zs_iload (pc := 50) t50_50 rfl ?_
                have w18 : zIv cLo cHi (zsI (zsI (zsI (zsI M 10 w14n a) 11 w14n b) 12 w14n c) 13 w14n d) := zIv.put w17 (show (-2147483648) ≤ d.toInt ∧ d.toInt ≤ 2147483647 from zrg d)
                refine zs_iast (pc := 52) t50_52 (j := w14n) (by decide) (zk1 (hs.k fk_zMc_13)) (show (zI M 7 3).toInt = ((w14n : Nat) : Int) by omega) (zk2 (hs.k fk_zMc_13) (by omega)) ?_
                refine zs_aload_n (pc := 53) t50_53 rfl ?_
                refine zs_dup (pc := 54) t50_54 rfl ?_
                refine zs_get (pc := 55) t50_55 (by decide) (zk1 (hs.k fk_zMc_7)) (zfvi rfl ((zIo (by decide)).trans ((zIo (by decide)).trans ((zIo (by decide)).trans ((zIo (by decide)).trans rfl))))) ?_
                refine zs_iconst (pc := 58) t50_58 (v := 1) (by decide) ?_
                obtain ⟨w19v, w19e, w19⟩ := ziadd (a := (zI M 7 3)) (b := (1 : Int32)) rfl li1 (by omega) (by omega)
                refine zs_iadd (pc := 59) t50_59 (c := w19v) w19e ?_
                have w20 : zIv cLo cHi (zsI (zsI (zsI (zsI (zsI M 10 w14n a) 11 w14n b) 12 w14n c) 13 w14n d) 7 3 w19v) := zIv.put w18 (show 0 ≤ w19v.toInt ∧ w19v.toInt ≤ 60 from ⟨by omega, by omega⟩)
                refine zs_putI (pc := 60) t50_60 (zk1 (hs.k fk_zMc_7)) rfl ?_
                refine zs_aload_n (pc := 63) t50_63 rfl ?_
                refine zs_get (pc := 64) t50_64 (by decide) (zk1 (hs.k fk_zMc_7)) (zfvi rfl zIs) ?_
                refine zs_iconst (pc := 67) t50_67 (v := 1) (by decide) ?_
                obtain ⟨w21v, w21e, w21⟩ := zisub (a := w19v) (b := (1 : Int32)) w19 li1 (by omega) (by omega)
                refine zs_isub (pc := 68) t50_68 (c := w21v) w21e ?_
                have w22 : w19v.toInt = ((zI M 7 3).toInt + 1) := w19
                have w23 : w21v.toInt = (((zI M 7 3).toInt + 1) - 1) := w21
                exact zs_iret (pc := 69) t50_69 mr50 rfl (hQ _ _ hs w20 ((((((zFr.refl).put rfl).put rfl).put rfl).put rfl).put rfl) (Or.inr ⟨⟨by omega, by omega, by omega, by omega, by omega, by omega, by omega⟩, by omega, zSo.hit (n := w14n) x0 rfl rfl rfl rfl (by omega) (by omega) (by omega) (by omega) rfl rfl rfl rfl (by omega)⟩))
