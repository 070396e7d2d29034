theorem X25_157_155_19 {X : zX} {l : Launch} {M : zM} {Q : Option Value → zM → Prop} (hs : zSk zMc M) (hI : zIv cLo cHi M) {F : Nat → Int} {g : Nat → Int} {nn : Int} (x0 : zSo M 19 F) (x1 : zTa M g nn) (x2 : zWF F) (hQ : ∀ (M' : zM) (v : Int32), zSk zMc M' → zIv cLo cHi M' → zFr [(157, 160, none), (155, 155, some 2), (155, 155, some 3), (155, 155, some 4), (155, 155, some 5), (19, 19, none), (20, 30, none)] M M' → ((v.toInt = -1 ∧ tR g nn (0, F, 0) none) ∨ (0 ≤ v.toInt ∧ ∃ F2 : Nat → Int, tR g nn (0, F, 0) (some (F2, v.toInt)) ∧ zSo M' 19 F2 ∧ zWF F2)) → (-1) ≤ v.toInt → v.toInt ≤ 500 → Q (some (.int v)) M') : zCall X l 6 0 0 25 [.ref 157, .ref 155, .ref 19] M Q := by
  refine zs_in (by decide) mf25 (Nat.le_of_ble_eq_true rfl) ?_
  show zGo X l 6 0 0 25 0 [(0, .ref 157), (1, .ref 155), (2, .ref 19)] [] M _
  have f0 := x0.1
  have w1 := ib19_0 hI
  have w2 : (zI M 19 0).toInt = (zI M 19 0).toInt := (congrArg Int32.toInt rfl).trans rfl
  have w3 := ib19_3 hI
  have w4 : (zI M 19 3).toInt = (zI M 19 3).toInt := (congrArg Int32.toInt rfl).trans rfl
  have w5 := ib19_8 hI
  have w6 : (zI M 19 8).toInt = (zI M 19 8).toInt := (congrArg Int32.toInt rfl).trans rfl
  have f1 := x2.1
  have f3 := x2.2.2.2
  have f2 := (show (zI M 19 0).toInt = F 0 ∧ (zI M 19 3).toInt = F 1 ∧ (zI M 19 8).toInt = F 2 from ⟨x0.1.1, x0.1.2.1, x0.1.2.2.1⟩)
  have hn := x1.2
  have w7 := ib155_1 hI
  have w8 : (zI M 155 1).toInt = (zI M 155 1).toInt := (congrArg Int32.toInt rfl).trans rfl
  refine zs_aload_n (pc := 0) t25_0 rfl ?_
  refine zs_invV (pc := 1) (k := 155) (as' := []) (st := []) t25_1 mf26 rfl rfl (Or.inl ⟨by decide, (zk1 (hs.k fk_zMc_155))⟩) ⟨by decide, by decide, Nat.le_of_ble_eq_true rfl, Nat.le_of_ble_eq_true rfl⟩ (zs_in (by decide) mf26 (Nat.le_of_ble_eq_true rfl) ?_) (fun _ _ q => q)
  show zGo X l 0 0 0 26 0 [(0, .ref 155)] [] M _
  refine zs_aload_n (pc := 0) t26_0 rfl ?_
  refine zs_iconst (pc := 1) t26_1 (v := 0) (by decide) ?_
  have w9 : zIv cLo cHi (zsI M 155 2 (0 : Int32)) := zIv.put hI (show (-2147483648) ≤ (0 : Int32).toInt ∧ (0 : Int32).toInt ≤ 2147483647 from zrg (0 : Int32))
  refine zs_putI (pc := 2) t26_2 (zk1 (hs.k fk_zMc_155)) rfl ?_
  refine zs_aload_n (pc := 5) t26_5 rfl ?_
  refine zs_iconst (pc := 6) t26_6 (v := -1) (by decide) ?_
  have w10 : zIv cLo cHi (zsI (zsI M 155 2 (0 : Int32)) 155 3 (-1 : Int32)) := zIv.put w9 (show (-2147483648) ≤ (-1 : Int32).toInt ∧ (-1 : Int32).toInt ≤ 2147483647 from zrg (-1 : Int32))
  refine zs_putI (pc := 7) t26_7 (zk1 (hs.k fk_zMc_155)) rfl ?_
  refine zs_vret (pc := 10) t26_10 mr26 ?_
  show zGo X l 6 0 0 25 4 [(0, .ref 157), (1, .ref 155), (2, .ref 19)] [] (zsI (zsI M 155 2 (0 : Int32)) 155 3 (-1 : Int32)) _
  refine zs_iconst (pc := 4) t25_4 (v := 0) (by decide) ?_
  refine zs_istore_n (pc := 5) t25_5 (ls' := [(3, .int (0 : Int32)), (0, .ref 157), (1, .ref 155), (2, .ref 19)]) (zml mf25 (by decide)) rfl ?_
  have w11L : ∀ (m : Nat) (w11x3 : Int32) (w11M : zM), (0 ≤ w11x3.toInt ∧ w11x3.toInt ≤ 500) → zSk zMc w11M → zIv cLo cHi w11M → zFr [(157, 160, none), (155, 155, some 2), (155, 155, some 3), (155, 155, some 4), (155, 155, some 5), (19, 19, none), (20, 30, none)] (zsI (zsI M 155 2 (0 : Int32)) 155 3 (-1 : Int32)) w11M → (w11x3.toInt ≤ (zI w11M 155 2).toInt) → ((zI w11M 155 2).toInt ≤ (zI w11M 155 1).toInt) → ((zI w11M 155 1).toInt = (zI M 155 1).toInt) → (∀ (p : Nat) (x : Int), (p : Int) = (zI w11M 155 2).toInt → x = w11x3.toInt → ∃ G, tE g nn (0, F, 0) (p, G, x) ∧ zSo w11M 19 G ∧ zWF G) → 500 - w11x3.toInt ≤ (m : Int) → zGo X l 6 0 0 25 6 [(0, .ref 157), (1, .ref 155), (2, .ref 19), (3, .int w11x3)] [] w11M Q := by
    intro m
    induction m using Nat.strongRecOn with
    | ind w11m w11ih =>
      intro w11x3 w11M w11b3 w11s w11I w11F w11r0 w11r1 w11r2 w11t0 w11q
      obtain ⟨w12n, w12⟩ : ∃ n : Nat, (zI w11M 155 2).toInt = (n : Int) := ⟨((zI w11M 155 2).toInt).toNat, by omega⟩
      obtain ⟨w11G, w11d, w11g, w11wf⟩ := w11t0 w12n w11x3.toInt (by omega) rfl
      have w13 := zrg (zI w11M 155 2)
      refine zs_iload_n (pc := 6) t25_6 rfl ?_
      refine zs_sipush (pc := 7) t25_7 (v := 500) (by decide) ?_
      by_cases w14 : 500 ≤ w11x3.toInt
      · refine zs_icmp_geT (pc := 10) t25_10 rfl li500 (by omega) ?_
        refine zs_iload_n (pc := 37) t25_37 rfl ?_
        exact zs_iret (pc := 38) t25_38 mr25 rfl (hQ _ _ w11s w11I ((((zFr.refl).put rfl).put rfl).trans (w11F.mono rfl)) (Or.inr ⟨by omega, w11G, w11d.end (by omega), w11g, w11wf⟩) (by omega) (by omega))
      · refine zs_icmp_geF (pc := 10) t25_10 rfl li500 (by omega) ?_
        refine zs_aload_n (pc := 13) t25_13 rfl ?_
        refine zs_invV (pc := 14) (k := 155) (as' := []) (st := []) t25_14 mf27 rfl rfl (Or.inl ⟨by decide, (zk1 (w11s.k fk_zMc_155))⟩) ⟨by decide, by decide, Nat.le_of_ble_eq_true rfl, Nat.le_of_ble_eq_true rfl⟩ (zs_in (by decide) mf27 (Nat.le_of_ble_eq_true rfl) ?_) (fun _ _ q => q)
        show zGo X l 0 0 0 27 0 [(0, .ref 155)] [] w11M _
        refine zs_aload_n (pc := 0) t27_0 rfl ?_
        refine zs_get (pc := 1) t27_1 (by decide) (zk1 (w11s.k fk_zMc_155)) (zfvi rfl rfl) ?_
        refine zs_aload_n (pc := 4) t27_4 rfl ?_
        refine zs_get (pc := 5) t27_5 (by decide) (zk1 (w11s.k fk_zMc_155)) (zfvi rfl ((w11F 155 1 rfl).trans ((zIoj (by decide)).trans ((zIoj (by decide)).trans rfl)))) ?_
        by_cases w15 : (zI w11M 155 2).toInt < (zI M 155 1).toInt
        · refine zs_icmp_ltT (pc := 8) t27_8 rfl rfl (by omega) ?_
          refine zs_iconst (pc := 15) t27_15 (v := 0) (by decide) ?_
          refine zs_iret (pc := 16) t27_16 mr27 (by decide) ?_
          show zGo X l 6 0 0 25 17 [(0, .ref 157), (1, .ref 155), (2, .ref 19), (3, .int w11x3)] [.int (0 : Int32)] w11M _
          refine zs_if_neF (pc := 17) t25_17 li0 (by decide) ?_
          refine zs_aload_n (pc := 20) t25_20 rfl ?_
          refine zs_aload_n (pc := 21) t25_21 rfl ?_
          refine zs_aload_n (pc := 22) t25_22 rfl ?_
          have w16 : (zI w11M 155 2).toInt = (zI w11M 155 2).toInt := (congrArg Int32.toInt rfl).trans rfl
          have w17 : (zI w11M 155 2).toInt = (zI w11M 155 2).toInt := (congrArg Int32.toInt rfl).trans rfl
          have w18 : (zI w11M 155 1).toInt = (zI M 155 1).toInt := (congrArg Int32.toInt ((w11F 155 1 rfl).trans ((zIoj (by decide)).trans ((zIoj (by decide)).trans rfl)))).trans rfl
          refine zs_invV (pc := 23) (k := 157) (as' := [.ref 155, .ref 19]) (st := []) t25_23 mf28 rfl rfl (Or.inl ⟨by decide, (zk1 (w11s.k fk_zMc_157))⟩) ⟨by decide, by decide, Nat.le_of_ble_eq_true rfl, Nat.le_of_ble_eq_true rfl⟩ (X28_157_155_19 w11s w11I (by omega) (by omega) w11g (zTa.fr x1 (zEq.tr (zEq.tr (zEq.put rfl) (zEq.put rfl)) (zFr.eq w11F rfl))) w11wf ?_) (fun _ _ q => q)
          intro w19M w19v w19s w19I w19F w19x0 w19a w19b
          show zGo X l 6 0 0 25 26 [(0, .ref 157), (1, .ref 155), (2, .ref 19), (3, .int w11x3)] [.int w19v] w19M _
          rcases w19x0 w12n (by omega) with ⟨w20v, w20e⟩ | ⟨w20v, w20q, w20G, w20e, w20_3, w20_4, w20_5, w20s, w20w⟩
          · skip
            refine zs_if_neF (pc := 26) t25_26 rfl (by omega) ?_
            refine zs_iconst (pc := 29) t25_29 (v := -1) (by decide) ?_
            exact zs_iret (pc := 30) t25_30 mr25 (by decide) (hQ _ _ w19s w19I (((((zFr.refl).put rfl).put rfl).trans (w11F.mono rfl)).trans (w19F.mono rfl)) (Or.inl ⟨by decide, w11d.no (by omega) w20e⟩) (by decide) (by decide))
          · skip
            refine zs_if_neT (pc := 26) t25_26 rfl (by omega) ?_
            obtain ⟨w21v, w21e, w21⟩ := ziadd (a := w11x3) (b := Int32.ofInt 1) rfl (show (Int32.ofInt 1).toInt = 1 by decide) (by omega) (by omega)
            refine zs_iinc (pc := 31) t25_31 (ls' := [(3, .int w21v), (0, .ref 157), (1, .ref 155), (2, .ref 19)]) (zml mf25 (by decide)) rfl (c := w21v) w21e rfl ?_
            refine zs_goto (pc := 34) t25_34 ?_
            refine zGo.locals (ls' := [(0, .ref 157), (1, .ref 155), (2, .ref 19), (3, .int w21v)]) (by simp) ?_
            have w22 := w21
            have w23 := zrg (zI w19M 155 2)
            have w24 : (zI w19M 155 2).toInt = (zI w19M 155 2).toInt := (congrArg Int32.toInt rfl).trans rfl
            have w25 : (zI w19M 155 2).toInt = (zI w19M 155 2).toInt := (congrArg Int32.toInt rfl).trans rfl
            have w26 : (zI w19M 155 1).toInt = (zI M 155 1).toInt := (congrArg Int32.toInt ((w19F 155 1 rfl).trans ((w11F 155 1 rfl).trans ((zIoj (by decide)).trans ((zIoj (by decide)).trans rfl))))).trans rfl
            have w27 : (zI w19M 155 1).toInt = (zI M 155 1).toInt := (congrArg Int32.toInt ((w19F 155 1 rfl).trans ((w11F 155 1 rfl).trans ((zIoj (by decide)).trans ((zIoj (by decide)).trans rfl))))).trans rfl
            have w28 : w21v.toInt = (w11x3.toInt + 1) := w21
            exact w11ih (w11m - 1) (by omega) w21v w19M ⟨by omega, by omega⟩ w19s w19I (((zFr.refl).trans (w11F.mono rfl)).trans (w19F.mono rfl)) (by omega) (by omega) (by omega) (fun p x hp hx => by obtain rfl : w20q = p := (by omega); rw [show x = w11x3.toInt + 1 by omega]; exact ⟨w20G, w11d.it (by omega) w20e, w20s, w20w⟩) (by omega)
        · refine zs_icmp_ltF (pc := 8) t27_8 rfl rfl (by omega) ?_
          refine zs_iconst (pc := 11) t27_11 (v := 1) (by decide) ?_
          refine zs_goto (pc := 12) t27_12 ?_
          refine zs_iret (pc := 16) t27_16 mr27 (by decide) ?_
          show zGo X l 6 0 0 25 17 [(0, .ref 157), (1, .ref 155), (2, .ref 19), (3, .int w11x3)] [.int (1 : Int32)] w11M _
          refine zs_if_neT (pc := 17) t25_17 li1 (by decide) ?_
          refine zs_iload_n (pc := 37) t25_37 rfl ?_
          exact zs_iret (pc := 38) t25_38 mr25 rfl (hQ _ _ w11s w11I ((((zFr.refl).put rfl).put rfl).trans (w11F.mono rfl)) (Or.inr ⟨by omega, w11G, w11d.end (by omega), w11g, w11wf⟩) (by omega) (by omega))
  refine zGo.locals (ls' := [(0, .ref 157), (1, .ref 155), (2, .ref 19), (3, .int (0 : Int32))]) (by simp) ?_
  have w29 := li0
  have w30 : (zI (zsI (zsI M 155 2 (0 : Int32)) 155 3 (-1 : Int32)) 155 2).toInt = 0 := (congrArg Int32.toInt ((zIoj (by decide)).trans zIs)).trans li0
  have w31 : (zI (zsI (zsI M 155 2 (0 : Int32)) 155 3 (-1 : Int32)) 155 2).toInt = 0 := (congrArg Int32.toInt ((zIoj (by decide)).trans zIs)).trans li0
  have w32 : (zI (zsI (zsI M 155 2 (0 : Int32)) 155 3 (-1 : Int32)) 155 1).toInt = (zI M 155 1).toInt := (congrArg Int32.toInt ((zIoj (by decide)).trans ((zIoj (by decide)).trans rfl))).trans rfl
  have w33 : (zI (zsI (zsI M 155 2 (0 : Int32)) 155 3 (-1 : Int32)) 155 1).toInt = (zI M 155 1).toInt := (congrArg Int32.toInt ((zIoj (by decide)).trans ((zIoj (by decide)).trans rfl))).trans rfl
  exact w11L ((500 - 0 : Int).toNat) (0 : Int32) (zsI (zsI M 155 2 (0 : Int32)) 155 3 (-1 : Int32)) ⟨by decide, by decide⟩ hs w10 zFr.refl (by omega) (by omega) (by omega) (fun p x hp hx => by obtain rfl : p = 0 := (by omega); obtain rfl : x = 0 := (by omega); exact ⟨F, tE.refl, (zSo.fr x0 (zEq.tr (zEq.put rfl) (zEq.put rfl))), x2⟩) (by omega)
theorem S22 {X : zX} {l : Launch} {M : zM} {Q : Option Value → zM → Prop} (hs : zSk zMc M) (hI : zIv cLo cHi M) {F : Nat → Int} {H : Nat → Nat → Int} {n : Int} {K : Nat → Nat → Int} {T : Nat → Int} {g : Nat → Int} {nn : Int} (x0 : zSo M 7 F) (x1 : zHC M H n) (x2 : zKC M K T) (x3 : zWF F) (x4 : zTa M g nn) (hQ : ∀ (M' : zM) (v : Int32), zSk zMc M' → zIv cLo cHi M' → zFr [(7, 18, none), (31, 154, none), (164, 164, some 0), (325, 325, some 0), (6, 6, some 11), (19, 30, none), (155, 155, none), (157, 160, none)] M M' → ((zI M' 155 1).toInt = 0) → (((zI M' 164 0).toInt = 0 ∧ (zI M' 325 0).toInt = 0) ∨ (v.toInt = -1 ∧ (zI M' 164 0).toInt = (zI M 164 0).toInt ∧ (zI M' 325 0).toInt = (zI M 325 0).toInt)) → ((v.toInt = -1 ∧ tR g nn (0, F, 0) none ∧ zSC M' F H n K T) ∨ (0 ≤ v.toInt ∧ ∃ F2 : Nat → Int, tR g nn (0, F, 0) (some (F2, v.toInt)) ∧ zWF F2 ∧ zSC M' F2 (pushH F H) (nP n) K T)) → Q (some (.int v)) M') : zCall X l 7 0 0 22 [.ref 6] M Q := by
  refine zs_in (by decide) mf22 (Nat.le_of_ble_eq_true rfl) ?_
  show zGo X l 7 0 0 22 0 [(0, .ref 6)] [] M _
  have f0 := x0.1
  have w1 := ib7_0 hI
  have w2 : (zI M 7 0).toInt = (zI M 7 0).toInt := (congrArg Int32.toInt rfl).trans rfl
  have w3 := ib7_3 hI
  have w4 : (zI M 7 3).toInt = (zI M 7 3).toInt := (congrArg Int32.toInt rfl).trans rfl
  have w5 := ib7_8 hI
  have w6 : (zI M 7 8).toInt = (zI M 7 8).toInt := (congrArg Int32.toInt rfl).trans rfl
  have f1 := x3.1
  have f3 := x3.2.2.2
  have f2 := (show (zI M 7 0).toInt = F 0 ∧ (zI M 7 3).toInt = F 1 ∧ (zI M 7 8).toInt = F 2 from ⟨x0.1.1, x0.1.2.1, x0.1.2.2.1⟩)
  have w7 := ib155_1 hI
  have w8 : (zI M 155 1).toInt = (zI M 155 1).toInt := (congrArg Int32.toInt rfl).trans rfl
  refine zs_aload_n (pc := 0) t22_0 rfl ?_
  refine zs_get (pc := 1) t22_1 (by decide) (zk1 (hs.k fk_zMc_6)) (hs.p rfl fv_zMc_6_1) ?_
  refine zs_aload_n (pc := 4) t22_4 rfl ?_
  refine zs_get (pc := 5) t22_5 (by decide) (zk1 (hs.k fk_zMc_6)) (hs.p rfl fv_zMc_6_0) ?_
  refine zs_invV (pc := 8) (k := 19) (as' := [.ref 7]) (st := []) t22_8 mf23 rfl rfl (Or.inl ⟨by decide, (zk1 (hs.k fk_zMc_19))⟩) ⟨by decide, by decide, Nat.le_of_ble_eq_true rfl, Nat.le_of_ble_eq_true rfl⟩ (X23_19_7 hs hI x0 ?_) (fun _ _ q => q)
  intro w9M w9s w9I w9F w9x0
  show zGo X l 7 0 0 22 11 [(0, .ref 6)] [] w9M _
  refine zs_aload_n (pc := 11) t22_11 rfl ?_
  refine zs_get (pc := 12) t22_12 (by decide) (zk1 (w9s.k fk_zMc_6)) (w9s.p rfl fv_zMc_6_4) ?_
  refine zs_aload_n (pc := 15) t22_15 rfl ?_
  refine zs_get (pc := 16) t22_16 (by decide) (zk1 (w9s.k fk_zMc_6)) (w9s.p rfl fv_zMc_6_3) ?_
  refine zs_aload_n (pc := 19) t22_19 rfl ?_
  refine zs_get (pc := 20) t22_20 (by decide) (zk1 (w9s.k fk_zMc_6)) (w9s.p rfl fv_zMc_6_1) ?_
  refine zs_invV (pc := 23) (k := 157) (as' := [.ref 155, .ref 19]) (st := []) t22_23 mf25 rfl rfl (Or.inl ⟨by decide, (zk1 (w9s.k fk_zMc_157))⟩) ⟨by decide, by decide, Nat.le_of_ble_eq_true rfl, Nat.le_of_ble_eq_true rfl⟩ (X25_157_155_19 w9s w9I w9x0 (zTa.fr x4 (zFr.eq w9F rfl)) x3 ?_) (fun _ _ q => q)
  intro w10M w10v w10s w10I w10F w10x0 w10a w10b
  show zGo X l 7 0 0 22 26 [(0, .ref 6)] [.int w10v] w10M _
  rcases w10x0 with ⟨w11v, w11e⟩ | ⟨w11v, w11G, w11e, w11s, w11w⟩
  · skip
    refine zs_istore_n (pc := 26) t22_26 (ls' := [(1, .int w10v), (0, .ref 6)]) (zml mf22 (by decide)) rfl ?_
    refine zs_aload_n (pc := 27) t22_27 rfl ?_
    refine zs_aload_n (pc := 28) t22_28 rfl ?_
    refine zs_get (pc := 29) t22_29 (by decide) (zk1 (w10s.k fk_zMc_6)) (w10s.p rfl fv_zMc_6_3) ?_
    refine zs_invV (pc := 32) (k := 155) (as' := []) (st := [.ref 6]) t22_32 mf57 rfl rfl (Or.inl ⟨by decide, (zk1 (w10s.k fk_zMc_155))⟩) ⟨by decide, by decide, Nat.le_of_ble_eq_true rfl, Nat.le_of_ble_eq_true rfl⟩ (zs_in (by decide) mf57 (Nat.le_of_ble_eq_true rfl) ?_) (fun _ _ q => q)
    show zGo X l 0 0 0 57 0 [(0, .ref 155)] [] w10M _
    refine zs_aload_n (pc := 0) t57_0 rfl ?_
    have w12 := zrg (zI w10M 155 3)
    refine zs_get (pc := 1) t57_1 (by decide) (zk1 (w10s.k fk_zMc_155)) (zfvi rfl rfl) ?_
    refine zs_iret (pc := 4) t57_4 mr57 rfl ?_
    show zGo X l 7 0 0 22 35 [(1, .int w10v), (0, .ref 6)] [.int (zI w10M 155 3), .ref 6] w10M _
    have w13 : zIv cLo cHi (zsI w10M 6 11 (zI w10M 155 3)) := zIv.put w10I (show (-2147483648) ≤ (zI w10M 155 3).toInt ∧ (zI w10M 155 3).toInt ≤ 2147483647 from zrg (zI w10M 155 3))
    refine zs_putI (pc := 35) t22_35 (zk1 (w10s.k fk_zMc_6)) rfl ?_
    refine zs_aload_n (pc := 38) t22_38 rfl ?_
    refine zs_get (pc := 39) t22_39 (by decide) (zk1 (w10s.k fk_zMc_6)) (w10s.p rfl fv_zMc_6_3) ?_
    refine zs_iconst (pc := 42) t22_42 (v := 0) (by decide) ?_
    refine zs_invV (pc := 43) (k := 155) (as' := [.int (0 : Int32)]) (st := []) t22_43 mf19 rfl rfl (Or.inl ⟨by decide, (zk1 (w10s.k fk_zMc_155))⟩) ⟨by decide, by decide, Nat.le_of_ble_eq_true rfl, Nat.le_of_ble_eq_true rfl⟩ (zs_in (by decide) mf19 (Nat.le_of_ble_eq_true rfl) ?_) (fun _ _ q => q)
    show zGo X l 1 0 0 19 0 [(0, .ref 155), (1, .int (0 : Int32))] [] (zsI w10M 6 11 (zI w10M 155 3)) _
    refine zs_aload_n (pc := 0) t19_0 rfl ?_
    refine zs_iconst (pc := 1) t19_1 (v := 0) (by decide) ?_
    refine zs_iload_n (pc := 2) t19_2 rfl ?_
    refine zs_aload_n (pc := 3) t19_3 rfl ?_
    refine zs_get (pc := 4) t19_4 (by decide) (zk1 (w10s.k fk_zMc_155)) (zfvi rfl ((zIo (by decide)).trans ((w10F 155 1 rfl).trans ((w9F 155 1 rfl).trans rfl)))) ?_
    refine zs_invS (pc := 7) (as := [.int (0 : Int32), .int (zI M 155 1)]) (st := [.int (0 : Int32), .ref 155]) t19_7 (by decide) mf20 rfl rfl ⟨by decide, by decide, Nat.le_of_ble_eq_true rfl, Nat.le_of_ble_eq_true rfl⟩ (zs_in (by decide) mf20 (Nat.le_of_ble_eq_true rfl) ?_) (fun _ _ q => q)
    show zGo X l 0 0 0 20 0 [(0, .int (0 : Int32)), (1, .int (zI M 155 1))] [] (zsI w10M 6 11 (zI w10M 155 3)) _
    refine zs_iload_n (pc := 0) t20_0 rfl ?_
    refine zs_iload_n (pc := 1) t20_1 rfl ?_
    refine zs_icmp_gtF (pc := 2) t20_2 li0 rfl (by omega) ?_
    refine zs_iload_n (pc := 5) t20_5 rfl ?_
    refine zs_goto (pc := 6) t20_6 ?_
    refine zs_iret (pc := 10) t20_10 mr20 (by decide) ?_
    show zGo X l 1 0 0 19 10 [(0, .ref 155), (1, .int (0 : Int32))] [.int (0 : Int32), .int (0 : Int32), .ref 155] (zsI w10M 6 11 (zI w10M 155 3)) _
    refine zs_invS (pc := 10) (as := [.int (0 : Int32), .int (0 : Int32)]) (st := [.ref 155]) t19_10 (by decide) mf21 rfl rfl ⟨by decide, by decide, Nat.le_of_ble_eq_true rfl, Nat.le_of_ble_eq_true rfl⟩ (zs_in (by decide) mf21 (Nat.le_of_ble_eq_true rfl) ?_) (fun _ _ q => q)
    show zGo X l 0 0 0 21 0 [(0, .int (0 : Int32)), (1, .int (0 : Int32))] [] (zsI w10M 6 11 (zI w10M 155 3)) _
    refine zs_iload_n (pc := 0) t21_0 rfl ?_
    refine zs_iload_n (pc := 1) t21_1 rfl ?_
    refine zs_icmp_ltF (pc := 2) t21_2 li0 li0 (by decide) ?_
    refine zs_iload_n (pc := 5) t21_5 rfl ?_
    refine zs_goto (pc := 6) t21_6 ?_
    refine zs_iret (pc := 10) t21_10 mr21 (by decide) ?_
    show zGo X l 1 0 0 19 13 [(0, .ref 155), (1, .int (0 : Int32))] [.int (0 : Int32), .ref 155] (zsI w10M 6 11 (zI w10M 155 3)) _
    have w14 : zIv cLo cHi (zsI (zsI w10M 6 11 (zI w10M 155 3)) 155 1 (0 : Int32)) := zIv.put w13 (show 0 ≤ (0 : Int32).toInt ∧ (0 : Int32).toInt ≤ 500 from ⟨by decide, by decide⟩)
    refine zs_putI (pc := 13) t19_13 (zk1 (w10s.k fk_zMc_155)) rfl ?_
    refine zs_vret (pc := 16) t19_16 mr19 ?_
    show zGo X l 7 0 0 22 46 [(1, .int w10v), (0, .ref 6)] [] (zsI (zsI w10M 6 11 (zI w10M 155 3)) 155 1 (0 : Int32)) _
    refine zs_iload_n (pc := 46) t22_46 rfl ?_
    refine zs_iconst (pc := 47) t22_47 (v := -1) (by decide) ?_
    refine zs_icmp_neF (pc := 48) t22_48 rfl lin1 (by omega) ?_
    refine zs_iconst (pc := 51) t22_51 (v := -1) (by decide) ?_
    have w15 : (zI (zsI (zsI w10M 6 11 (zI w10M 155 3)) 155 1 (0 : Int32)) 155 1).toInt = 0 := (congrArg Int32.toInt zIs).trans li0
    have w16 := ib164_0 hI
    have w17 : (zI (zsI (zsI w10M 6 11 (zI w10M 155 3)) 155 1 (0 : Int32)) 164 0).toInt = (zI M 164 0).toInt := (congrArg Int32.toInt ((zIo (by decide)).trans ((zIo (by decide)).trans ((w10F 164 0 rfl).trans ((w9F 164 0 rfl).trans rfl))))).trans rfl
    have w18 := ib325_0 hI
    have w19 : (zI (zsI (zsI w10M 6 11 (zI w10M 155 3)) 155 1 (0 : Int32)) 325 0).toInt = (zI M 325 0).toInt := (congrArg Int32.toInt ((zIo (by decide)).trans ((zIo (by decide)).trans ((w10F 325 0 rfl).trans ((w9F 325 0 rfl).trans rfl))))).trans rfl
    have w20 := lin1
    have w21 : (-1 : Int32).toInt = (-1) := lin1
    exact zs_iret (pc := 52) t22_52 mr22 (by decide) (hQ _ _ w10s w14 (((((zFr.refl).trans (w9F.mono rfl)).trans (w10F.mono rfl)).put rfl).put rfl) (by omega) (by omega) (Or.inl ⟨by omega, w11e, (zSo.fr x0 (zEq.tr (zEq.tr (zEq.tr (zFr.eq w9F rfl) (zFr.eq w10F rfl)) (zEq.put rfl)) (zEq.put rfl))), (zHC.fr x1 (zEq.tr (zEq.tr (zEq.tr (zFr.eq w9F rfl) (zFr.eq w10F rfl)) (zEq.put rfl)) (zEq.put rfl))), (zKC.fr x2 (zEq.tr (zEq.tr (zEq.tr (zFr.eq w9F rfl) (zFr.eq w10F rfl)) (zEq.put rfl)) (zEq.put rfl)))⟩))
  · skip
    refine zs_istore_n (pc := 26) t22_26 (ls' := [(1, .int w10v), (0, .ref 6)]) (zml mf22 (by decide)) rfl ?_
    refine zs_aload_n (pc := 27) t22_27 rfl ?_
    refine zs_aload_n (pc := 28) t22_28 rfl ?_
    refine zs_get (pc := 29) t22_29 (by decide) (zk1 (w10s.k fk_zMc_6)) (w10s.p rfl fv_zMc_6_3) ?_
    refine zs_invV (pc := 32) (k := 155) (as' := []) (st := [.ref 6]) t22_32 mf57 rfl rfl (Or.inl ⟨by decide, (zk1 (w10s.k fk_zMc_155))⟩) ⟨by decide, by decide, Nat.le_of_ble_eq_true rfl, Nat.le_of_ble_eq_true rfl⟩ (zs_in (by decide) mf57 (Nat.le_of_ble_eq_true rfl) ?_) (fun _ _ q => q)
    show zGo X l 0 0 0 57 0 [(0, .ref 155)] [] w10M _
    refine zs_aload_n (pc := 0) t57_0 rfl ?_
    have w22 := zrg (zI w10M 155 3)
    refine zs_get (pc := 1) t57_1 (by decide) (zk1 (w10s.k fk_zMc_155)) (zfvi rfl rfl) ?_
    refine zs_iret (pc := 4) t57_4 mr57 rfl ?_
    show zGo X l 7 0 0 22 35 [(1, .int w10v), (0, .ref 6)] [.int (zI w10M 155 3), .ref 6] w10M _
    have w23 : zIv cLo cHi (zsI w10M 6 11 (zI w10M 155 3)) := zIv.put w10I (show (-2147483648) ≤ (zI w10M 155 3).toInt ∧ (zI w10M 155 3).toInt ≤ 2147483647 from zrg (zI w10M 155 3))
    refine zs_putI (pc := 35) t22_35 (zk1 (w10s.k fk_zMc_6)) rfl ?_
    refine zs_aload_n (pc := 38) t22_38 rfl ?_
    refine zs_get (pc := 39) t22_39 (by decide) (zk1 (w10s.k fk_zMc_6)) (w10s.p rfl fv_zMc_6_3) ?_
    refine zs_iconst (pc := 42) t22_42 (v := 0) (by decide) ?_
    refine zs_invV (pc := 43) (k := 155) (as' := [.int (0 : Int32)]) (st := []) t22_43 mf19 rfl rfl (Or.inl ⟨by decide, (zk1 (w10s.k fk_zMc_155))⟩) ⟨by decide, by decide, Nat.le_of_ble_eq_true rfl, Nat.le_of_ble_eq_true rfl⟩ (zs_in (by decide) mf19 (Nat.le_of_ble_eq_true rfl) ?_) (fun _ _ q => q)
    show zGo X l 1 0 0 19 0 [(0, .ref 155), (1, .int (0 : Int32))] [] (zsI w10M 6 11 (zI w10M 155 3)) _
    refine zs_aload_n (pc := 0) t19_0 rfl ?_
    refine zs_iconst (pc := 1) t19_1 (v := 0) (by decide) ?_
    refine zs_iload_n (pc := 2) t19_2 rfl ?_
    refine zs_aload_n (pc := 3) t19_3 rfl ?_
    refine zs_get (pc := 4) t19_4 (by decide) (zk1 (w10s.k fk_zMc_155)) (zfvi rfl ((zIo (by decide)).trans ((w10F 155 1 rfl).trans ((w9F 155 1 rfl).trans rfl)))) ?_
    refine zs_invS (pc := 7) (as := [.int (0 : Int32), .int (zI M 155 1)]) (st := [.int (0 : Int32), .ref 155]) t19_7 (by decide) mf20 rfl rfl ⟨by decide, by decide, Nat.le_of_ble_eq_true rfl, Nat.le_of_ble_eq_true rfl⟩ (zs_in (by decide) mf20 (Nat.le_of_ble_eq_true rfl) ?_) (fun _ _ q => q)
    show zGo X l 0 0 0 20 0 [(0, .int (0 : Int32)), (1, .int (zI M 155 1))] [] (zsI w10M 6 11 (zI w10M 155 3)) _
    refine zs_iload_n (pc := 0) t20_0 rfl ?_
    refine zs_iload_n (pc := 1) t20_1 rfl ?_
    refine zs_icmp_gtF (pc := 2) t20_2 li0 rfl (by omega) ?_
    refine zs_iload_n (pc := 5) t20_5 rfl ?_
    refine zs_goto (pc := 6) t20_6 ?_
    refine zs_iret (pc := 10) t20_10 mr20 (by decide) ?_
    show zGo X l 1 0 0 19 10 [(0, .ref 155), (1, .int (0 : Int32))] [.int (0 : Int32), .int (0 : Int32), .ref 155] (zsI w10M 6 11 (zI w10M 155 3)) _
    refine zs_invS (pc := 10) (as := [.int (0 : Int32), .int (0 : Int32)]) (st := [.ref 155]) t19_10 (by decide) mf21 rfl rfl ⟨by decide, by decide, Nat.le_of_ble_eq_true rfl, Nat.le_of_ble_eq_true rfl⟩ (zs_in (by decide) mf21 (Nat.le_of_ble_eq_true rfl) ?_) (fun _ _ q => q)
    show zGo X l 0 0 0 21 0 [(0, .int (0 : Int32)), (1, .int (0 : Int32))] [] (zsI w10M 6 11 (zI w10M 155 3)) _
    refine zs_iload_n (pc := 0) t21_0 rfl ?_
    refine zs_iload_n (pc := 1) t21_1 rfl ?_
    refine zs_icmp_ltF (pc := 2) t21_2 li0 li0 (by decide) ?_
    refine zs_iload_n (pc := 5) t21_5 rfl ?_
    refine zs_goto (pc := 6) t21_6 ?_
    refine zs_iret (pc := 10) t21_10 mr21 (by decide) ?_
    show zGo X l 1 0 0 19 13 [(0, .ref 155), (1, .int (0 : Int32))] [.int (0 : Int32), .ref 155] (zsI w10M 6 11 (zI w10M 155 3)) _
    have w24 : zIv cLo cHi (zsI (zsI w10M 6 11 (zI w10M 155 3)) 155 1 (0 : Int32)) := zIv.put w23 (show 0 ≤ (0 : Int32).toInt ∧ (0 : Int32).toInt ≤ 500 from ⟨by decide, by decide⟩)
    refine zs_putI (pc := 13) t19_13 (zk1 (w10s.k fk_zMc_155)) rfl ?_
    refine zs_vret (pc := 16) t19_16 mr19 ?_
    show zGo X l 7 0 0 22 46 [(1, .int w10v), (0, .ref 6)] [] (zsI (zsI w10M 6 11 (zI w10M 155 3)) 155 1 (0 : Int32)) _
    refine zs_iload_n (pc := 46) t22_46 rfl ?_
    refine zs_iconst (pc := 47) t22_47 (v := -1) (by decide) ?_
    refine zs_icmp_neT (pc := 48) t22_48 rfl lin1 (by omega) ?_
    refine zs_aload_n (pc := 53) t22_53 rfl ?_
    refine zs_get (pc := 54) t22_54 (by decide) (zk1 (w10s.k fk_zMc_6)) (w10s.p rfl fv_zMc_6_2) ?_
    refine zs_aload_n (pc := 57) t22_57 rfl ?_
    refine zs_get (pc := 58) t22_58 (by decide) (zk1 (w10s.k fk_zMc_6)) (w10s.p rfl fv_zMc_6_0) ?_
    refine zs_invV (pc := 61) (k := 31) (as' := [.ref 7]) (st := []) t22_61 mf58 rfl rfl (Or.inl ⟨by decide, (zk1 (w10s.k fk_zMc_31))⟩) ⟨by decide, by decide, Nat.le_of_ble_eq_true rfl, Nat.le_of_ble_eq_true rfl⟩ (X58_31_7 w10s w24 (zSo.fr x0 (zEq.tr (zEq.tr (zEq.tr (zFr.eq w9F rfl) (zFr.eq w10F rfl)) (zEq.put rfl)) (zEq.put rfl))) (zHC.fr x1 (zEq.tr (zEq.tr (zEq.tr (zFr.eq w9F rfl) (zFr.eq w10F rfl)) (zEq.put rfl)) (zEq.put rfl))) ?_) (fun _ _ q => q)
    intro w25M w25s w25I w25F w25x0
    show zGo X l 7 0 0 22 64 [(1, .int w10v), (0, .ref 6)] [] w25M _
    refine zs_aload_n (pc := 64) t22_64 rfl ?_
    refine zs_get (pc := 65) t22_65 (by decide) (zk1 (w25s.k fk_zMc_6)) (w25s.p rfl fv_zMc_6_0) ?_
    refine zs_aload_n (pc := 68) t22_68 rfl ?_
    refine zs_get (pc := 69) t22_69 (by decide) (zk1 (w25s.k fk_zMc_6)) (w25s.p rfl fv_zMc_6_1) ?_
    refine zs_invV (pc := 72) (k := 7) (as' := [.ref 19]) (st := []) t22_72 mf23 rfl rfl (Or.inl ⟨by decide, (zk1 (w25s.k fk_zMc_7))⟩) ⟨by decide, by decide, Nat.le_of_ble_eq_true rfl, Nat.le_of_ble_eq_true rfl⟩ (X23_7_19 w25s w25I (zSo.fr w11s (zEq.tr (zEq.tr (zEq.put rfl) (zEq.put rfl)) (zFr.eq w25F rfl))) ?_) (fun _ _ q => q)
    intro w26M w26s w26I w26F w26x0
    show zGo X l 7 0 0 22 75 [(1, .int w10v), (0, .ref 6)] [] w26M _
    refine zs_aload_n (pc := 75) t22_75 rfl ?_
    refine zs_invV (pc := 76) (k := 6) (as' := []) (st := []) t22_76 mf59 rfl rfl (Or.inl ⟨by decide, (zk1 (w26s.k fk_zMc_6))⟩) ⟨by decide, by decide, Nat.le_of_ble_eq_true rfl, Nat.le_of_ble_eq_true rfl⟩ (zs_in (by decide) mf59 (Nat.le_of_ble_eq_true rfl) ?_) (fun _ _ q => q)
    show zGo X l 1 0 0 59 0 [(0, .ref 6)] [] w26M _
    refine zs_aload_n (pc := 0) t59_0 rfl ?_
    refine zs_get (pc := 1) t59_1 (by decide) (zk1 (w26s.k fk_zMc_6)) (w26s.p rfl fv_zMc_6_6) ?_
    refine zs_invV (pc := 4) (k := 164) (as' := []) (st := []) t59_4 mf60 rfl rfl (Or.inl ⟨by decide, (zk1 (w26s.k fk_zMc_164))⟩) ⟨by decide, by decide, Nat.le_of_ble_eq_true rfl, Nat.le_of_ble_eq_true rfl⟩ (zs_in (by decide) mf60 (Nat.le_of_ble_eq_true rfl) ?_) (fun _ _ q => q)
    show zGo X l 0 0 0 60 0 [(0, .ref 164)] [] w26M _
    refine zs_aload_n (pc := 0) t60_0 rfl ?_
    refine zs_iconst (pc := 1) t60_1 (v := 0) (by decide) ?_
    have w27 : zIv cLo cHi (zsI w26M 164 0 (0 : Int32)) := zIv.put w26I (show 0 ≤ (0 : Int32).toInt ∧ (0 : Int32).toInt ≤ 1 from ⟨by decide, by decide⟩)
    refine zs_putI (pc := 2) t60_2 (zk1 (w26s.k fk_zMc_164)) (by decide) ?_
    refine zs_vret (pc := 5) t60_5 mr60 ?_
    show zGo X l 1 0 0 59 7 [(0, .ref 6)] [] (zsI w26M 164 0 (0 : Int32)) _
    refine zs_aload_n (pc := 7) t59_7 rfl ?_
    refine zs_get (pc := 8) t59_8 (by decide) (zk1 (w26s.k fk_zMc_6)) (w26s.p rfl fv_zMc_6_7) ?_
    refine zs_invV (pc := 11) (k := 325) (as' := []) (st := []) t59_11 mf61 rfl rfl (Or.inl ⟨by decide, (zk1 (w26s.k fk_zMc_325))⟩) ⟨by decide, by decide, Nat.le_of_ble_eq_true rfl, Nat.le_of_ble_eq_true rfl⟩ (zs_in (by decide) mf61 (Nat.le_of_ble_eq_true rfl) ?_) (fun _ _ q => q)
    show zGo X l 0 0 0 61 0 [(0, .ref 325)] [] (zsI w26M 164 0 (0 : Int32)) _
    refine zs_aload_n (pc := 0) t61_0 rfl ?_
    refine zs_iconst (pc := 1) t61_1 (v := 0) (by decide) ?_
    have w28 : zIv cLo cHi (zsI (zsI w26M 164 0 (0 : Int32)) 325 0 (0 : Int32)) := zIv.put w27 (show 0 ≤ (0 : Int32).toInt ∧ (0 : Int32).toInt ≤ 1 from ⟨by decide, by decide⟩)
    refine zs_putI (pc := 2) t61_2 (zk1 (w26s.k fk_zMc_325)) (by decide) ?_
    refine zs_vret (pc := 5) t61_5 mr61 ?_
    show zGo X l 1 0 0 59 14 [(0, .ref 6)] [] (zsI (zsI w26M 164 0 (0 : Int32)) 325 0 (0 : Int32)) _
    refine zs_vret (pc := 14) t59_14 mr59 ?_
    show zGo X l 7 0 0 22 79 [(1, .int w10v), (0, .ref 6)] [] (zsI (zsI w26M 164 0 (0 : Int32)) 325 0 (0 : Int32)) _
    refine zs_iload_n (pc := 79) t22_79 rfl ?_
    have w29 : (zI (zsI (zsI w26M 164 0 (0 : Int32)) 325 0 (0 : Int32)) 155 1).toInt = 0 := (congrArg Int32.toInt ((zIo (by decide)).trans ((zIo (by decide)).trans ((w26F 155 1 rfl).trans ((w25F 155 1 rfl).trans zIs))))).trans li0
    have w30 : (zI (zsI (zsI w26M 164 0 (0 : Int32)) 325 0 (0 : Int32)) 164 0).toInt = 0 := (congrArg Int32.toInt ((zIo (by decide)).trans zIs)).trans li0
    have w31 : (zI (zsI (zsI w26M 164 0 (0 : Int32)) 325 0 (0 : Int32)) 325 0).toInt = 0 := (congrArg Int32.toInt zIs).trans li0
    exact zs_iret (pc := 80) t22_80 mr22 rfl (hQ _ _ w26s w28 (((((((((zFr.refl).trans (w9F.mono rfl)).trans (w10F.mono rfl)).put rfl).put rfl).trans (w25F.mono rfl)).trans (w26F.mono rfl)).put rfl).put rfl) (by omega) (by omega) (Or.inr ⟨by omega, w11G, w11e, w11w, (zSo.fr w26x0 (zEq.tr (zEq.put rfl) (zEq.put rfl))), (zHC.fr w25x0 (zEq.tr (zEq.tr (zFr.eq w26F rfl) (zEq.put rfl)) (zEq.put rfl))), (zKC.fr x2 (zEq.tr (zEq.tr (zEq.tr (zEq.tr (zEq.tr (zEq.tr (zEq.tr (zFr.eq w9F rfl) (zFr.eq w10F rfl)) (zEq.put rfl)) (zEq.put rfl)) (zFr.eq w25F rfl)) (zFr.eq w26F rfl)) (zEq.put rfl)) (zEq.put rfl)))⟩))
theorem X24_7_156 {X : zX} {l : Launch} {M : zM} {Q : Option Value → zM → Prop} {a : Int32} (hs : zSk zMc M) (hI : zIv cLo cHi M) {F : Nat → Int} (ha : 0 ≤ a.toInt ∧ a.toInt ≤ 500) (x0 : zSo M 7 F) (x1 : zWF F) (hQ : ∀ M', zSk zMc M' → zIv cLo cHi M' → zFr [(7, 7, some 13), (18, 18, none)] M M' → (zSo M' 7 (pTr F (zI M 156) a.toInt)) → Q none M') : zCall X l 1 0 0 24 [.ref 7, .ref 156, .int a] M Q := by
  have ga := zrg a
  refine zs_in (by decide) mf24 (Nat.le_of_ble_eq_true rfl) ?_
  show zGo X l 1 0 0 24 0 [(0, .ref 7), (1, .ref 156), (2, .int a)] [] M _
  have f0 := x0.1
  have w1 := ib7_0 hI
  have w2 : (zI M 7 0).toInt = (zI M 7 0).toInt := (congrArg Int32.toInt rfl).trans rfl
  have w3 := ib7_3 hI
  have w4 : (zI M 7 3).toInt = (zI M 7 3).toInt := (congrArg Int32.toInt rfl).trans rfl
  have w5 := ib7_8 hI
  have w6 : (zI M 7 8).toInt = (zI M 7 8).toInt := (congrArg Int32.toInt rfl).trans rfl
  have f1 := x1.1
  have f3 := x1.2.2.2
  have f2 := (show (zI M 7 0).toInt = F 0 ∧ (zI M 7 3).toInt = F 1 ∧ (zI M 7 8).toInt = F 2 from ⟨x0.1.1, x0.1.2.1, x0.1.2.2.1⟩)
  refine zs_aload_n (pc := 0) t24_0 rfl ?_
  refine zs_iconst (pc := 1) t24_1 (v := 0) (by decide) ?_
  refine zs_iload_n (pc := 2) t24_2 rfl ?_
  refine zs_sipush (pc := 3) t24_3 (v := 500) (by decide) ?_
  refine zs_invS (pc := 6) (as := [.int a, .int (500 : Int32)]) (st := [.int (0 : Int32), .ref 7]) t24_6 (by decide) mf20 rfl rfl ⟨by decide, by decide, Nat.le_of_ble_eq_true rfl, Nat.le_of_ble_eq_true rfl⟩ (zs_in (by decide) mf20 (Nat.le_of_ble_eq_true rfl) ?_) (fun _ _ q => q)
  show zGo X l 0 0 0 20 0 [(0, .int a), (1, .int (500 : Int32))] [] M _
  refine zs_iload_n (pc := 0) t20_0 rfl ?_
  refine zs_iload_n (pc := 1) t20_1 rfl ?_
  refine zs_icmp_gtF (pc := 2) t20_2 rfl li500 (by omega) ?_
  refine zs_iload_n (pc := 5) t20_5 rfl ?_
  refine zs_goto (pc := 6) t20_6 ?_
  refine zs_iret (pc := 10) t20_10 mr20 rfl ?_
  show zGo X l 1 0 0 24 9 [(0, .ref 7), (1, .ref 156), (2, .int a)] [.int a, .int (0 : Int32), .ref 7] M _
  refine zs_invS (pc := 9) (as := [.int (0 : Int32), .int a]) (st := [.ref 7]) t24_9 (by decide) mf21 rfl rfl ⟨by decide, by decide, Nat.le_of_ble_eq_true rfl, Nat.le_of_ble_eq_true rfl⟩ (zs_in (by decide) mf21 (Nat.le_of_ble_eq_true rfl) ?_) (fun _ _ q => q)
  show zGo X l 0 0 0 21 0 [(0, .int (0 : Int32)), (1, .int a)] [] M _
  refine zs_iload_n (pc := 0) t21_0 rfl ?_
  refine zs_iload_n (pc := 1) t21_1 rfl ?_
  by_cases w7 : 0 < a.toInt
  · refine zs_icmp_ltT (pc := 2) t21_2 li0 rfl (by omega) ?_
    refine zs_iload_n (pc := 9) t21_9 rfl ?_
    refine zs_iret (pc := 10) t21_10 mr21 rfl ?_
    show zGo X l 1 0 0 24 12 [(0, .ref 7), (1, .ref 156), (2, .int a)] [.int a, .ref 7] M _
    have w8 : zIv cLo cHi (zsI M 7 13 a) := zIv.put hI (show 0 ≤ a.toInt ∧ a.toInt ≤ 500 from ⟨by omega, by omega⟩)
    refine zs_putI (pc := 12) t24_12 (zk1 (hs.k fk_zMc_7)) rfl ?_
    refine zs_aload_n (pc := 15) t24_15 rfl ?_
    refine zs_iconst (pc := 16) t24_16 (v := 0) (by decide) ?_
    refine zs_aload_n (pc := 17) t24_17 rfl ?_
    refine zs_get (pc := 18) t24_18 (by decide) (zk1 (hs.k fk_zMc_7)) (hs.p rfl fv_zMc_7_14) ?_
    refine zs_iconst (pc := 21) t24_21 (v := 0) (by decide) ?_
    refine zs_aload_n (pc := 22) t24_22 rfl ?_
    refine zs_get (pc := 23) t24_23 (by decide) (zk1 (hs.k fk_zMc_7)) (zfvi rfl zIs) ?_
    have w9 : (0 : Int32).toInt = 0 := li0
    have w10 : (0 : Int32).toInt = 0 := li0
    refine zs_copy (pc := 26) t24_26 (hs.k fk_zMc_156) (hs.k fk_zMc_18) (by decide) (by decide) (by decide) ⟨by omega, by omega, by omega⟩ (by omega) (by omega) ⟨Nat.le_of_ble_eq_true rfl, by decide⟩ ?_
    obtain ⟨w11M, w11e⟩ : ∃ N, N = zsR (zsI M 7 13 a) 18 (va_cpy (zI (zsI M 7 13 a) 156) (zI (zsI M 7 13 a) 18) (0 : Int32).toNatClampNeg (0 : Int32).toNatClampNeg a.toNatClampNeg) := ⟨_, rfl⟩
    have w11s : zSk zMc w11M := by rw [w11e]; exact hs
    have w11I : zIv cLo cHi w11M := by rw [w11e]; exact zIv.row w8 (fun _ => zcpyB (fun j => ib156 w8 j) (fun j => ib18 w8 j))
    have w11F : zFr [(18, 18, none)] (zsI M 7 13 a) w11M := by rw [w11e]; exact zFr.row zFr.refl (fun _ => rfl)
    have w11C : ∀ j : Nat, (j : Int) < a.toInt → zI w11M 18 j = zI (zsI M 7 13 a) 156 j := fun j hj => by rw [w11e]; exact (congrFun zRs j).trans (zcpy0 (by omega) (by omega) hj)
    rw [← w11e]
    have w12 : (zI w11M 7 13).toInt = a.toInt := (congrArg Int32.toInt ((w11F 7 13 rfl).trans zIs)).trans rfl
    exact zs_vret (pc := 29) t24_29 mr24 (hQ _ w11s w11I (((zFr.refl).put rfl).trans (w11F.mono rfl)) (zSo.tr x0 (by omega) (by omega) (by omega) (fun k j k1 k2 k3 => ((w11F k j (zoC (by omega) rfl)).trans (zIor (by omega)))) (by omega) (fun j hj => ((w11C j (by omega)).trans (zIo (by decide))))))
  · refine zs_icmp_ltF (pc := 2) t21_2 li0 rfl (by omega) ?_
    refine zs_iload_n (pc := 5) t21_5 rfl ?_
    refine zs_goto (pc := 6) t21_6 ?_
    refine zs_iret (pc := 10) t21_10 mr21 (by decide) ?_
    show zGo X l 1 0 0 24 12 [(0, .ref 7), (1, .ref 156), (2, .int a)] [.int (0 : Int32), .ref 7] M _
    have w13 : zIv cLo cHi (zsI M 7 13 (0 : Int32)) := zIv.put hI (show 0 ≤ (0 : Int32).toInt ∧ (0 : Int32).toInt ≤ 500 from ⟨by decide, by decide⟩)
    refine zs_putI (pc := 12) t24_12 (zk1 (hs.k fk_zMc_7)) rfl ?_
    refine zs_aload_n (pc := 15) t24_15 rfl ?_
    refine zs_iconst (pc := 16) t24_16 (v := 0) (by decide) ?_
    refine zs_aload_n (pc := 17) t24_17 rfl ?_
    refine zs_get (pc := 18) t24_18 (by decide) (zk1 (hs.k fk_zMc_7)) (hs.p rfl fv_zMc_7_14) ?_
    refine zs_iconst (pc := 21) t24_21 (v := 0) (by decide) ?_
    refine zs_aload_n (pc := 22) t24_22 rfl ?_
    refine zs_get (pc := 23) t24_23 (by decide) (zk1 (hs.k fk_zMc_7)) (zfvi rfl zIs) ?_
    have w14 : (0 : Int32).toInt = 0 := li0
    have w15 : (0 : Int32).toInt = 0 := li0
    have w16 : (0 : Int32).toInt = 0 := li0
    refine zs_copy (pc := 26) t24_26 (hs.k fk_zMc_156) (hs.k fk_zMc_18) (by decide) (by decide) (by decide) ⟨by omega, by omega, by omega⟩ (by omega) (by omega) ⟨Nat.le_of_ble_eq_true rfl, by decide⟩ ?_
    obtain ⟨w17M, w17e⟩ : ∃ N, N = zsR (zsI M 7 13 (0 : Int32)) 18 (va_cpy (zI (zsI M 7 13 (0 : Int32)) 156) (zI (zsI M 7 13 (0 : Int32)) 18) (0 : Int32).toNatClampNeg (0 : Int32).toNatClampNeg (0 : Int32).toNatClampNeg) := ⟨_, rfl⟩
    have w17s : zSk zMc w17M := by rw [w17e]; exact hs
    have w17I : zIv cLo cHi w17M := by rw [w17e]; exact zIv.row w13 (fun _ => zcpyB (fun j => ib156 w13 j) (fun j => ib18 w13 j))
    have w17F : zFr [(18, 18, none)] (zsI M 7 13 (0 : Int32)) w17M := by rw [w17e]; exact zFr.row zFr.refl (fun _ => rfl)
    have w17C : ∀ j : Nat, (j : Int) < (0 : Int32).toInt → zI w17M 18 j = zI (zsI M 7 13 (0 : Int32)) 156 j := fun j hj => by rw [w17e]; exact (congrFun zRs j).trans (zcpy0 (by omega) (by omega) hj)
    rw [← w17e]
    have w18 : (zI w17M 7 13).toInt = 0 := (congrArg Int32.toInt ((w17F 7 13 rfl).trans zIs)).trans li0
    have w19 : (0 : Int32).toInt = 0 := li0
    exact zs_vret (pc := 29) t24_29 mr24 (hQ _ w17s w17I (((zFr.refl).put rfl).trans (w17F.mono rfl)) (zSo.tr x0 (by omega) (by omega) (by omega) (fun k j k1 k2 k3 => ((w17F k j (zoC (by omega) rfl)).trans (zIor (by omega)))) (by omega) (fun j hj => ((w17C j (by omega)).trans (zIo (by decide))))))
theorem S62 {X : zX} {l : Launch} {M : zM} {Q : Option Value → zM → Prop} (hs : zSk zMc M) (hI : zIv cLo cHi M) {F : Nat → Int} {H : Nat → Nat → Int} {n : Int} {K : Nat → Nat → Int} {T : Nat → Int} (x0 : zSo M 7 F) (x1 : zHC M H n) (x2 : zKC M K T) (x3 : zWF F) (hQ : ∀ (M' : zM) (v : Int32), zSk zMc M' → zIv cLo cHi M' → zFr [(7, 18, none), (31, 154, none), (164, 164, some 0), (325, 325, some 0), (6, 6, some 11), (155, 155, none), (161, 161, none), (163, 163, none)] M M' → ((zI M' 155 1).toInt = 0) → ((zI M' 164 0).toInt = (zI M 164 0).toInt ∧ (zI M' 325 0).toInt = (zI M 325 0).toInt) → (zTg5 (zI M 156) (zI M 155 1).toInt v.toInt (zI M' 6 11).toInt) → ((v.toInt = -1 ∧ zSC M' F H n K T) ∨ (0 ≤ v.toInt ∧ zSC M' (pTr F (zI M 156) (zI M 155 1).toInt) (pushH F H) (nP n) K T)) → Q (some (.int v)) M') : zCall X l 99 0 0 62 [.ref 6] M Q := by
  refine zs_inD (by decide) mf62 (Nat.le_of_ble_eq_true rfl) ?_
  show zGo X l 99 0 0 62 0 [(0, .ref 6)] [] M _
  have f0 := x0.1
  have w1 := ib7_0 hI
  have w2 : (zI M 7 0).toInt = (zI M 7 0).toInt := (congrArg Int32.toInt rfl).trans rfl
  have w3 := ib7_3 hI
  have w4 : (zI M 7 3).toInt = (zI M 7 3).toInt := (congrArg Int32.toInt rfl).trans rfl
  have w5 := ib7_8 hI
  have w6 : (zI M 7 8).toInt = (zI M 7 8).toInt := (congrArg Int32.toInt rfl).trans rfl
  have f1 := x3.1
  have f3 := x3.2.2.2
  have f2 := (show (zI M 7 0).toInt = F 0 ∧ (zI M 7 3).toInt = F 1 ∧ (zI M 7 8).toInt = F 2 from ⟨x0.1.1, x0.1.2.1, x0.1.2.2.1⟩)
  have w7 := ib155_1 hI
  have w8 : (zI M 155 1).toInt = (zI M 155 1).toInt := (congrArg Int32.toInt rfl).trans rfl
  refine zs_iconst (pc := 0) t62_0 (v := 0) (by decide) ?_
  refine zs_istore_n (pc := 1) t62_1 (ls' := [(1, .int (0 : Int32)), (0, .ref 6)]) (zml mf62 (by decide)) rfl ?_
  refine zs_aload_n (pc := 2) t62_2 rfl ?_
  refine zs_iconst (pc := 3) t62_3 (v := -1) (by decide) ?_
  have w9 : zIv cLo cHi (zsI M 6 11 (-1 : Int32)) := zIv.put hI (show (-2147483648) ≤ (-1 : Int32).toInt ∧ (-1 : Int32).toInt ≤ 2147483647 from zrg (-1 : Int32))
  refine zs_putI (pc := 4) t62_4 (zk1 (hs.k fk_zMc_6)) rfl ?_
  refine zs_aload_n (pc := 7) t62_7 rfl ?_
  refine zs_get (pc := 8) t62_8 (by decide) (zk1 (hs.k fk_zMc_6)) (hs.p rfl fv_zMc_6_3) ?_
  refine zs_invV (pc := 11) (k := 155) (as' := []) (st := []) t62_11 mf17 rfl rfl (Or.inl ⟨by decide, (zk1 (hs.k fk_zMc_155))⟩) ⟨by decide, by decide, Nat.le_of_ble_eq_true rfl, Nat.le_of_ble_eq_true rfl⟩ (zs_in (by decide) mf17 (Nat.le_of_ble_eq_true rfl) ?_) (fun _ _ q => q)
  show zGo X l 0 0 0 17 0 [(0, .ref 155)] [] (zsI M 6 11 (-1 : Int32)) _
  refine zs_aload_n (pc := 0) t17_0 rfl ?_
  refine zs_get (pc := 1) t17_1 (by decide) (zk1 (hs.k fk_zMc_155)) (zfvi rfl ((zIo (by decide)).trans rfl)) ?_
  refine zs_iret (pc := 4) t17_4 mr17 rfl ?_
  show zGo X l 99 0 0 62 14 [(1, .int (0 : Int32)), (0, .ref 6)] [.int (zI M 155 1)] (zsI M 6 11 (-1 : Int32)) _
  by_cases w10 : (zI M 155 1).toInt ≤ 0
  · refine zs_if_leT (pc := 14) t62_14 rfl (by omega) ?_
    refine zs_aload_n (pc := 58) t62_58 rfl ?_
    refine zs_get (pc := 59) t62_59 (by decide) (zk1 (hs.k fk_zMc_6)) (zfvi rfl zIs) ?_
    refine zs_iconst (pc := 62) t62_62 (v := -1) (by decide) ?_
    refine zs_icmp_neF (pc := 63) t62_63 lin1 lin1 (by decide) ?_
    refine zs_aload_n (pc := 66) t62_66 rfl ?_
    refine zs_get (pc := 67) t62_67 (by decide) (zk1 (hs.k fk_zMc_6)) (hs.p rfl fv_zMc_6_2) ?_
    refine zs_aload_n (pc := 70) t62_70 rfl ?_
    refine zs_get (pc := 71) t62_71 (by decide) (zk1 (hs.k fk_zMc_6)) (hs.p rfl fv_zMc_6_0) ?_
    refine zs_invV (pc := 74) (k := 31) (as' := [.ref 7]) (st := []) t62_74 mf58 rfl rfl (Or.inl ⟨by decide, (zk1 (hs.k fk_zMc_31))⟩) ⟨by decide, by decide, Nat.le_of_ble_eq_true rfl, Nat.le_of_ble_eq_true rfl⟩ (X58_31_7 hs w9 (zSo.fr x0 (zEq.put rfl)) (zHC.fr x1 (zEq.put rfl)) ?_) (fun _ _ q => q)
    intro w11M w11s w11I w11F w11x0
    show zGo X l 99 0 0 62 77 [(1, .int (0 : Int32)), (0, .ref 6)] [] w11M _
    refine zs_aload_n (pc := 77) t62_77 rfl ?_
    refine zs_get (pc := 78) t62_78 (by decide) (zk1 (w11s.k fk_zMc_6)) (w11s.p rfl fv_zMc_6_0) ?_
    refine zs_aload_n (pc := 81) t62_81 rfl ?_
    refine zs_get (pc := 82) t62_82 (by decide) (zk1 (w11s.k fk_zMc_6)) (w11s.p rfl fv_zMc_6_3) ?_
    refine zs_invV (pc := 85) (k := 155) (as' := []) (st := [.ref 7]) t62_85 mf63 rfl rfl (Or.inl ⟨by decide, (zk1 (w11s.k fk_zMc_155))⟩) ⟨by decide, by decide, Nat.le_of_ble_eq_true rfl, Nat.le_of_ble_eq_true rfl⟩ (zs_in (by decide) mf63 (Nat.le_of_ble_eq_true rfl) ?_) (fun _ _ q => q)
    show zGo X l 0 0 0 63 0 [(0, .ref 155)] [] w11M _
    refine zs_aload_n (pc := 0) t63_0 rfl ?_
    refine zs_get (pc := 1) t63_1 (by decide) (zk1 (w11s.k fk_zMc_155)) (w11s.p rfl fv_zMc_155_0) ?_
    refine zs_aret (pc := 4) t63_4 (by rw [mr63]; rfl) ?_
    show zGo X l 99 0 0 62 88 [(1, .int (0 : Int32)), (0, .ref 6)] [.ref 156, .ref 7] w11M _
    refine zs_aload_n (pc := 88) t62_88 rfl ?_
    refine zs_get (pc := 89) t62_89 (by decide) (zk1 (w11s.k fk_zMc_6)) (w11s.p rfl fv_zMc_6_3) ?_
    refine zs_invV (pc := 92) (k := 155) (as' := []) (st := [.ref 156, .ref 7]) t62_92 mf17 rfl rfl (Or.inl ⟨by decide, (zk1 (w11s.k fk_zMc_155))⟩) ⟨by decide, by decide, Nat.le_of_ble_eq_true rfl, Nat.le_of_ble_eq_true rfl⟩ (zs_in (by decide) mf17 (Nat.le_of_ble_eq_true rfl) ?_) (fun _ _ q => q)
    show zGo X l 0 0 0 17 0 [(0, .ref 155)] [] w11M _
    refine zs_aload_n (pc := 0) t17_0 rfl ?_
    refine zs_get (pc := 1) t17_1 (by decide) (zk1 (w11s.k fk_zMc_155)) (zfvi rfl ((w11F 155 1 rfl).trans ((zIo (by decide)).trans rfl))) ?_
    refine zs_iret (pc := 4) t17_4 mr17 rfl ?_
    show zGo X l 99 0 0 62 95 [(1, .int (0 : Int32)), (0, .ref 6)] [.int (zI M 155 1), .ref 156, .ref 7] w11M _
    refine zs_invV (pc := 95) (k := 7) (as' := [.ref 156, .int (zI M 155 1)]) (st := []) t62_95 mf24 rfl rfl (Or.inl ⟨by decide, (zk1 (w11s.k fk_zMc_7))⟩) ⟨by decide, by decide, Nat.le_of_ble_eq_true rfl, Nat.le_of_ble_eq_true rfl⟩ (X24_7_156 w11s w11I ⟨by omega, by omega⟩ (zSo.fr x0 (zEq.tr (zEq.put rfl) (zFr.eq w11F rfl))) x3 ?_) (fun _ _ q => q)
    intro w12M w12s w12I w12F w12x0
    have w13 : zSo w12M 7 (pTr F (zI M 156) (zI M 155 1).toInt) := by
      have q := w12x0
      rw [show zI w11M 156 = zI M 156 from funext fun j => ((w11F 156 j rfl).trans (zIo (by decide))), show (zI M 155 1).toInt = (zI M 155 1).toInt by omega] at q
      exact q
    show zGo X l 99 0 0 62 98 [(1, .int (0 : Int32)), (0, .ref 6)] [] w12M _
    refine zs_aload_n (pc := 98) t62_98 rfl ?_
    refine zs_get (pc := 99) t62_99 (by decide) (zk1 (w12s.k fk_zMc_6)) (w12s.p rfl fv_zMc_6_3) ?_
    refine zs_iconst (pc := 102) t62_102 (v := 0) (by decide) ?_
    refine zs_invV (pc := 103) (k := 155) (as' := [.int (0 : Int32)]) (st := []) t62_103 mf19 rfl rfl (Or.inl ⟨by decide, (zk1 (w12s.k fk_zMc_155))⟩) ⟨by decide, by decide, Nat.le_of_ble_eq_true rfl, Nat.le_of_ble_eq_true rfl⟩ (zs_in (by decide) mf19 (Nat.le_of_ble_eq_true rfl) ?_) (fun _ _ q => q)
    show zGo X l 1 0 0 19 0 [(0, .ref 155), (1, .int (0 : Int32))] [] w12M _
    refine zs_aload_n (pc := 0) t19_0 rfl ?_
    refine zs_iconst (pc := 1) t19_1 (v := 0) (by decide) ?_
    refine zs_iload_n (pc := 2) t19_2 rfl ?_
    refine zs_aload_n (pc := 3) t19_3 rfl ?_
    refine zs_get (pc := 4) t19_4 (by decide) (zk1 (w12s.k fk_zMc_155)) (zfvi rfl ((w12F 155 1 rfl).trans ((w11F 155 1 rfl).trans ((zIo (by decide)).trans rfl)))) ?_
    refine zs_invS (pc := 7) (as := [.int (0 : Int32), .int (zI M 155 1)]) (st := [.int (0 : Int32), .ref 155]) t19_7 (by decide) mf20 rfl rfl ⟨by decide, by decide, Nat.le_of_ble_eq_true rfl, Nat.le_of_ble_eq_true rfl⟩ (zs_in (by decide) mf20 (Nat.le_of_ble_eq_true rfl) ?_) (fun _ _ q => q)
    show zGo X l 0 0 0 20 0 [(0, .int (0 : Int32)), (1, .int (zI M 155 1))] [] w12M _
    refine zs_iload_n (pc := 0) t20_0 rfl ?_
    refine zs_iload_n (pc := 1) t20_1 rfl ?_
    refine zs_icmp_gtF (pc := 2) t20_2 li0 rfl (by omega) ?_
    refine zs_iload_n (pc := 5) t20_5 rfl ?_
    refine zs_goto (pc := 6) t20_6 ?_
    refine zs_iret (pc := 10) t20_10 mr20 (by decide) ?_
    show zGo X l 1 0 0 19 10 [(0, .ref 155), (1, .int (0 : Int32))] [.int (0 : Int32), .int (0 : Int32), .ref 155] w12M _
    refine zs_invS (pc := 10) (as := [.int (0 : Int32), .int (0 : Int32)]) (st := [.ref 155]) t19_10 (by decide) mf21 rfl rfl ⟨by decide, by decide, Nat.le_of_ble_eq_true rfl, Nat.le_of_ble_eq_true rfl⟩ (zs_in (by decide) mf21 (Nat.le_of_ble_eq_true rfl) ?_) (fun _ _ q => q)
    show zGo X l 0 0 0 21 0 [(0, .int (0 : Int32)), (1, .int (0 : Int32))] [] w12M _
    refine zs_iload_n (pc := 0) t21_0 rfl ?_
    refine zs_iload_n (pc := 1) t21_1 rfl ?_
    refine zs_icmp_ltF (pc := 2) t21_2 li0 li0 (by decide) ?_
    refine zs_iload_n (pc := 5) t21_5 rfl ?_
    refine zs_goto (pc := 6) t21_6 ?_
    refine zs_iret (pc := 10) t21_10 mr21 (by decide) ?_
    show zGo X l 1 0 0 19 13 [(0, .ref 155), (1, .int (0 : Int32))] [.int (0 : Int32), .ref 155] w12M _
    have w14 : zIv cLo cHi (zsI w12M 155 1 (0 : Int32)) := zIv.put w12I (show 0 ≤ (0 : Int32).toInt ∧ (0 : Int32).toInt ≤ 500 from ⟨by decide, by decide⟩)
    refine zs_putI (pc := 13) t19_13 (zk1 (w12s.k fk_zMc_155)) rfl ?_
    refine zs_vret (pc := 16) t19_16 mr19 ?_
    show zGo X l 99 0 0 62 106 [(1, .int (0 : Int32)), (0, .ref 6)] [] (zsI w12M 155 1 (0 : Int32)) _
    refine zs_aload_n (pc := 106) t62_106 rfl ?_
    refine zs_get (pc := 107) t62_107 (by decide) (zk1 (w12s.k fk_zMc_6)) (zfvi rfl ((zIo (by decide)).trans ((w12F 6 11 rfl).trans ((w11F 6 11 rfl).trans zIs)))) ?_
    refine zs_iconst (pc := 110) t62_110 (v := -1) (by decide) ?_
    refine zs_icmp_neF (pc := 111) t62_111 lin1 lin1 (by decide) ?_
    refine zs_iload_n (pc := 114) t62_114 rfl ?_
    refine zs_goto (pc := 115) t62_115 ?_
    have w15 : (zI (zsI w12M 155 1 (0 : Int32)) 155 1).toInt = 0 := (congrArg Int32.toInt zIs).trans li0
    have w16 := ib164_0 hI
    have w17 : (zI (zsI w12M 155 1 (0 : Int32)) 164 0).toInt = (zI M 164 0).toInt := (congrArg Int32.toInt ((zIo (by decide)).trans ((w12F 164 0 rfl).trans ((w11F 164 0 rfl).trans ((zIo (by decide)).trans rfl))))).trans rfl
    have w18 := ib325_0 hI
    have w19 : (zI (zsI w12M 155 1 (0 : Int32)) 325 0).toInt = (zI M 325 0).toInt := (congrArg Int32.toInt ((zIo (by decide)).trans ((w12F 325 0 rfl).trans ((w11F 325 0 rfl).trans ((zIo (by decide)).trans rfl))))).trans rfl
    have w20 := li0
    have w21 : (0 : Int32).toInt = 0 := li0
    have w22 : (zI (zsI w12M 155 1 (0 : Int32)) 6 11).toInt = (-1) := (congrArg Int32.toInt ((zIo (by decide)).trans ((w12F 6 11 rfl).trans ((w11F 6 11 rfl).trans zIs)))).trans lin1
    exact zs_iret (pc := 119) t62_119 mr62 (by decide) (hQ _ _ w12s w14 (((((zFr.refl).put rfl).trans (w11F.mono rfl)).trans (w12F.mono rfl)).put rfl) (by omega) (by omega) (Or.inl ⟨by omega, by omega, by omega⟩) (Or.inr ⟨by omega, (zSo.fr w13 (zEq.put rfl)), (zHC.fr w11x0 (zEq.tr (zFr.eq w12F rfl) (zEq.put rfl))), (zKC.fr x2 (zEq.tr (zEq.tr (zEq.tr (zEq.put rfl) (zFr.eq w11F rfl)) (zFr.eq w12F rfl)) (zEq.put rfl)))⟩))
  · refine zs_if_leF (pc := 14) t62_14 rfl (by omega) ?_
    refine zs_aload_n (pc := 17) t62_17 rfl ?_
    refine zs_get (pc := 18) t62_18 (by decide) (zk1 (hs.k fk_zMc_6)) (hs.p rfl fv_zMc_6_5) ?_
    refine zs_aload_n (pc := 21) t62_21 rfl ?_
    refine zs_get (pc := 22) t62_22 (by decide) (zk1 (hs.k fk_zMc_6)) (hs.p rfl fv_zMc_6_3) ?_
    refine zs_invV (pc := 25) (k := 155) (as' := []) (st := [.ref 161]) t62_25 mf63 rfl rfl (Or.inl ⟨by decide, (zk1 (hs.k fk_zMc_155))⟩) ⟨by decide, by decide, Nat.le_of_ble_eq_true rfl, Nat.le_of_ble_eq_true rfl⟩ (zs_in (by decide) mf63 (Nat.le_of_ble_eq_true rfl) ?_) (fun _ _ q => q)
    show zGo X l 0 0 0 63 0 [(0, .ref 155)] [] (zsI M 6 11 (-1 : Int32)) _
    refine zs_aload_n (pc := 0) t63_0 rfl ?_
    refine zs_get (pc := 1) t63_1 (by decide) (zk1 (hs.k fk_zMc_155)) (hs.p rfl fv_zMc_155_0) ?_
    refine zs_aret (pc := 4) t63_4 (by rw [mr63]; rfl) ?_
    show zGo X l 99 0 0 62 28 [(1, .int (0 : Int32)), (0, .ref 6)] [.ref 156, .ref 161] (zsI M 6 11 (-1 : Int32)) _
    refine zs_aload_n (pc := 28) t62_28 rfl ?_
    refine zs_get (pc := 29) t62_29 (by decide) (zk1 (hs.k fk_zMc_6)) (hs.p rfl fv_zMc_6_3) ?_
    refine zs_invV (pc := 32) (k := 155) (as' := []) (st := [.ref 156, .ref 161]) t62_32 mf17 rfl rfl (Or.inl ⟨by decide, (zk1 (hs.k fk_zMc_155))⟩) ⟨by decide, by decide, Nat.le_of_ble_eq_true rfl, Nat.le_of_ble_eq_true rfl⟩ (zs_in (by decide) mf17 (Nat.le_of_ble_eq_true rfl) ?_) (fun _ _ q => q)
    show zGo X l 0 0 0 17 0 [(0, .ref 155)] [] (zsI M 6 11 (-1 : Int32)) _
    refine zs_aload_n (pc := 0) t17_0 rfl ?_
    refine zs_get (pc := 1) t17_1 (by decide) (zk1 (hs.k fk_zMc_155)) (zfvi rfl ((zIo (by decide)).trans rfl)) ?_
    refine zs_iret (pc := 4) t17_4 mr17 rfl ?_
    show zGo X l 99 0 0 62 35 [(1, .int (0 : Int32)), (0, .ref 6)] [.int (zI M 155 1), .ref 156, .ref 161] (zsI M 6 11 (-1 : Int32)) _
    refine zs_invV9 (pc := 35) (k := 161) (as' := [.ref 156, .int (zI M 155 1)]) (st := []) t62_35 mf64 rfl rfl (Or.inl ⟨by decide, (zk1 (hs.k fk_zMc_161))⟩) ⟨by decide, Nat.le_of_ble_eq_true rfl, Nat.le_of_ble_eq_true rfl⟩ (X64_161_156 hs w9 ⟨by omega, by omega⟩ ?_) (fun _ _ q => q)
    intro w23M w23v w23s w23I w23F w23x0 w23a w23b
    show zGo X l 99 0 0 62 38 [(1, .int (0 : Int32)), (0, .ref 6)] [.int w23v] w23M _
    rw [show (zI (zsI M 6 11 (-1 : Int32)) 156) = zI M 156 from funext fun j => (zIo (by decide)), show (zI M 155 1).toInt = (zI M 155 1).toInt by omega] at w23x0
    have w24 := ib161_4 w23I
    have w25 : (zI w23M 161 4).toInt = (zI w23M 161 4).toInt := (congrArg Int32.toInt rfl).trans rfl
    have w26 := zrg (zI w23M 161 5)
    have w27 : (zI w23M 161 5).toInt = (zI w23M 161 5).toInt := (congrArg Int32.toInt rfl).trans rfl
    refine zs_pop (pc := 38) t62_38 rfl ?_
    refine zs_aload_n (pc := 39) t62_39 rfl ?_
    refine zs_aload_n (pc := 40) t62_40 rfl ?_
    refine zs_get (pc := 41) t62_41 (by decide) (zk1 (w23s.k fk_zMc_6)) (w23s.p rfl fv_zMc_6_5) ?_
    refine zs_invV (pc := 44) (k := 161) (as' := []) (st := [.ref 6]) t62_44 mf80 rfl rfl (Or.inl ⟨by decide, (zk1 (w23s.k fk_zMc_161))⟩) ⟨by decide, by decide, Nat.le_of_ble_eq_true rfl, Nat.le_of_ble_eq_true rfl⟩ (zs_in (by decide) mf80 (Nat.le_of_ble_eq_true rfl) ?_) (fun _ _ q => q)
    show zGo X l 0 0 0 80 0 [(0, .ref 161)] [] w23M _
    refine zs_aload_n (pc := 0) t80_0 rfl ?_
    refine zs_get (pc := 1) t80_1 (by decide) (zk1 (w23s.k fk_zMc_161)) (zfvi rfl rfl) ?_
    refine zs_iret (pc := 4) t80_4 mr80 rfl ?_
    show zGo X l 99 0 0 62 47 [(1, .int (0 : Int32)), (0, .ref 6)] [.int (zI w23M 161 5), .ref 6] w23M _
    have w28 : zIv cLo cHi (zsI w23M 6 11 (zI w23M 161 5)) := zIv.put w23I (show (-2147483648) ≤ (zI w23M 161 5).toInt ∧ (zI w23M 161 5).toInt ≤ 2147483647 from zrg (zI w23M 161 5))
    refine zs_putI (pc := 47) t62_47 (zk1 (w23s.k fk_zMc_6)) rfl ?_
    refine zs_aload_n (pc := 50) t62_50 rfl ?_
    refine zs_get (pc := 51) t62_51 (by decide) (zk1 (w23s.k fk_zMc_6)) (w23s.p rfl fv_zMc_6_5) ?_
    refine zs_invV (pc := 54) (k := 161) (as' := []) (st := []) t62_54 mf81 rfl rfl (Or.inl ⟨by decide, (zk1 (w23s.k fk_zMc_161))⟩) ⟨by decide, by decide, Nat.le_of_ble_eq_true rfl, Nat.le_of_ble_eq_true rfl⟩ (zs_in (by decide) mf81 (Nat.le_of_ble_eq_true rfl) ?_) (fun _ _ q => q)
    show zGo X l 0 0 0 81 0 [(0, .ref 161)] [] (zsI w23M 6 11 (zI w23M 161 5)) _
    refine zs_aload_n (pc := 0) t81_0 rfl ?_
    refine zs_get (pc := 1) t81_1 (by decide) (zk1 (w23s.k fk_zMc_161)) (zfvi rfl ((zIo (by decide)).trans rfl)) ?_
    refine zs_iret (pc := 4) t81_4 mr81 rfl ?_
    show zGo X l 99 0 0 62 57 [(1, .int (0 : Int32)), (0, .ref 6)] [.int (zI w23M 161 4)] (zsI w23M 6 11 (zI w23M 161 5)) _
    refine zs_istore_n (pc := 57) t62_57 (ls' := [(1, .int (zI w23M 161 4)), (0, .ref 6)]) (zml mf62 (by decide)) rfl ?_
    refine zs_aload_n (pc := 58) t62_58 rfl ?_
    refine zs_get (pc := 59) t62_59 (by decide) (zk1 (w23s.k fk_zMc_6)) (zfvi rfl zIs) ?_
    refine zs_iconst (pc := 62) t62_62 (v := -1) (by decide) ?_
    by_cases w29 : (zI w23M 161 5).toInt ≠ (-1)
    · refine zs_icmp_neT (pc := 63) t62_63 rfl lin1 (by omega) ?_
      refine zs_aload_n (pc := 98) t62_98 rfl ?_
      refine zs_get (pc := 99) t62_99 (by decide) (zk1 (w23s.k fk_zMc_6)) (w23s.p rfl fv_zMc_6_3) ?_
      refine zs_iconst (pc := 102) t62_102 (v := 0) (by decide) ?_
      refine zs_invV (pc := 103) (k := 155) (as' := [.int (0 : Int32)]) (st := []) t62_103 mf19 rfl rfl (Or.inl ⟨by decide, (zk1 (w23s.k fk_zMc_155))⟩) ⟨by decide, by decide, Nat.le_of_ble_eq_true rfl, Nat.le_of_ble_eq_true rfl⟩ (zs_in (by decide) mf19 (Nat.le_of_ble_eq_true rfl) ?_) (fun _ _ q => q)
      show zGo X l 1 0 0 19 0 [(0, .ref 155), (1, .int (0 : Int32))] [] (zsI w23M 6 11 (zI w23M 161 5)) _
      refine zs_aload_n (pc := 0) t19_0 rfl ?_
      refine zs_iconst (pc := 1) t19_1 (v := 0) (by decide) ?_
      refine zs_iload_n (pc := 2) t19_2 rfl ?_
      refine zs_aload_n (pc := 3) t19_3 rfl ?_
      refine zs_get (pc := 4) t19_4 (by decide) (zk1 (w23s.k fk_zMc_155)) (zfvi rfl ((zIo (by decide)).trans ((w23F 155 1 rfl).trans ((zIo (by decide)).trans rfl)))) ?_
      refine zs_invS (pc := 7) (as := [.int (0 : Int32), .int (zI M 155 1)]) (st := [.int (0 : Int32), .ref 155]) t19_7 (by decide) mf20 rfl rfl ⟨by decide, by decide, Nat.le_of_ble_eq_true rfl, Nat.le_of_ble_eq_true rfl⟩ (zs_in (by decide) mf20 (Nat.le_of_ble_eq_true rfl) ?_) (fun _ _ q => q)
      show zGo X l 0 0 0 20 0 [(0, .int (0 : Int32)), (1, .int (zI M 155 1))] [] (zsI w23M 6 11 (zI w23M 161 5)) _
      refine zs_iload_n (pc := 0) t20_0 rfl ?_
      refine zs_iload_n (pc := 1) t20_1 rfl ?_
      refine zs_icmp_gtF (pc := 2) t20_2 li0 rfl (by omega) ?_
      refine zs_iload_n (pc := 5) t20_5 rfl ?_
      refine zs_goto (pc := 6) t20_6 ?_
      refine zs_iret (pc := 10) t20_10 mr20 (by decide) ?_
      show zGo X l 1 0 0 19 10 [(0, .ref 155), (1, .int (0 : Int32))] [.int (0 : Int32), .int (0 : Int32), .ref 155] (zsI w23M 6 11 (zI w23M 161 5)) _
      refine zs_invS (pc := 10) (as := [.int (0 : Int32), .int (0 : Int32)]) (st := [.ref 155]) t19_10 (by decide) mf21 rfl rfl ⟨by decide, by decide, Nat.le_of_ble_eq_true rfl, Nat.le_of_ble_eq_true rfl⟩ (zs_in (by decide) mf21 (Nat.le_of_ble_eq_true rfl) ?_) (fun _ _ q => q)
      show zGo X l 0 0 0 21 0 [(0, .int (0 : Int32)), (1, .int (0 : Int32))] [] (zsI w23M 6 11 (zI w23M 161 5)) _
      refine zs_iload_n (pc := 0) t21_0 rfl ?_
      refine zs_iload_n (pc := 1) t21_1 rfl ?_
      refine zs_icmp_ltF (pc := 2) t21_2 li0 li0 (by decide) ?_
      refine zs_iload_n (pc := 5) t21_5 rfl ?_
      refine zs_goto (pc := 6) t21_6 ?_
      refine zs_iret (pc := 10) t21_10 mr21 (by decide) ?_
      show zGo X l 1 0 0 19 13 [(0, .ref 155), (1, .int (0 : Int32))] [.int (0 : Int32), .ref 155] (zsI w23M 6 11 (zI w23M 161 5)) _
      have w30 : zIv cLo cHi (zsI (zsI w23M 6 11 (zI w23M 161 5)) 155 1 (0 : Int32)) := zIv.put w28 (show 0 ≤ (0 : Int32).toInt ∧ (0 : Int32).toInt ≤ 500 from ⟨by decide, by decide⟩)
      refine zs_putI (pc := 13) t19_13 (zk1 (w23s.k fk_zMc_155)) rfl ?_
      refine zs_vret (pc := 16) t19_16 mr19 ?_
      show zGo X l 99 0 0 62 106 [(1, .int (zI w23M 161 4)), (0, .ref 6)] [] (zsI (zsI w23M 6 11 (zI w23M 161 5)) 155 1 (0 : Int32)) _
      refine zs_aload_n (pc := 106) t62_106 rfl ?_
      refine zs_get (pc := 107) t62_107 (by decide) (zk1 (w23s.k fk_zMc_6)) (zfvi rfl ((zIo (by decide)).trans zIs)) ?_
      refine zs_iconst (pc := 110) t62_110 (v := -1) (by decide) ?_
      refine zs_icmp_neT (pc := 111) t62_111 rfl lin1 (by omega) ?_
      refine zs_iconst (pc := 118) t62_118 (v := -1) (by decide) ?_
      have w31 : (zI (zsI (zsI w23M 6 11 (zI w23M 161 5)) 155 1 (0 : Int32)) 155 1).toInt = 0 := (congrArg Int32.toInt zIs).trans li0
      have w32 := ib164_0 hI
      have w33 : (zI (zsI (zsI w23M 6 11 (zI w23M 161 5)) 155 1 (0 : Int32)) 164 0).toInt = (zI M 164 0).toInt := (congrArg Int32.toInt ((zIo (by decide)).trans ((zIo (by decide)).trans ((w23F 164 0 rfl).trans ((zIo (by decide)).trans rfl))))).trans rfl
      have w34 := ib325_0 hI
      have w35 : (zI (zsI (zsI w23M 6 11 (zI w23M 161 5)) 155 1 (0 : Int32)) 325 0).toInt = (zI M 325 0).toInt := (congrArg Int32.toInt ((zIo (by decide)).trans ((zIo (by decide)).trans ((w23F 325 0 rfl).trans ((zIo (by decide)).trans rfl))))).trans rfl
      have w36 := lin1
      have w37 : (-1 : Int32).toInt = (-1) := lin1
      have w38 : (zI (zsI (zsI w23M 6 11 (zI w23M 161 5)) 155 1 (0 : Int32)) 6 11).toInt = (zI w23M 161 5).toInt := (congrArg Int32.toInt ((zIo (by decide)).trans zIs)).trans rfl
      exact zs_iret (pc := 119) t62_119 mr62 (by decide) (hQ _ _ w23s w30 (((((zFr.refl).put rfl).trans (w23F.mono rfl)).put rfl).put rfl) (by omega) (by omega) (by first | exact zTg5.y w23x0 (by omega) (by omega) (by omega) (by omega) | exact zTg5.n w23x0 (by omega) (by omega) (by omega) (by omega)) (Or.inl ⟨by decide, (zSo.fr x0 (zEq.tr (zEq.tr (zEq.tr (zEq.put rfl) (zFr.eq w23F rfl)) (zEq.put rfl)) (zEq.put rfl))), (zHC.fr x1 (zEq.tr (zEq.tr (zEq.tr (zEq.put rfl) (zFr.eq w23F rfl)) (zEq.put rfl)) (zEq.put rfl))), (zKC.fr x2 (zEq.tr (zEq.tr (zEq.tr (zEq.put rfl) (zFr.eq w23F rfl)) (zEq.put rfl)) (zEq.put rfl)))⟩))
    · refine zs_icmp_neF (pc := 63) t62_63 rfl lin1 (by omega) ?_
      refine zs_aload_n (pc := 66) t62_66 rfl ?_
      refine zs_get (pc := 67) t62_67 (by decide) (zk1 (w23s.k fk_zMc_6)) (w23s.p rfl fv_zMc_6_2) ?_
      refine zs_aload_n (pc := 70) t62_70 rfl ?_
      refine zs_get (pc := 71) t62_71 (by decide) (zk1 (w23s.k fk_zMc_6)) (w23s.p rfl fv_zMc_6_0) ?_
      refine zs_invV (pc := 74) (k := 31) (as' := [.ref 7]) (st := []) t62_74 mf58 rfl rfl (Or.inl ⟨by decide, (zk1 (w23s.k fk_zMc_31))⟩) ⟨by decide, by decide, Nat.le_of_ble_eq_true rfl, Nat.le_of_ble_eq_true rfl⟩ (X58_31_7 w23s w28 (zSo.fr x0 (zEq.tr (zEq.tr (zEq.put rfl) (zFr.eq w23F rfl)) (zEq.put rfl))) (zHC.fr x1 (zEq.tr (zEq.tr (zEq.put rfl) (zFr.eq w23F rfl)) (zEq.put rfl))) ?_) (fun _ _ q => q)
      intro w39M w39s w39I w39F w39x0
      show zGo X l 99 0 0 62 77 [(1, .int (zI w23M 161 4)), (0, .ref 6)] [] w39M _
      refine zs_aload_n (pc := 77) t62_77 rfl ?_
      refine zs_get (pc := 78) t62_78 (by decide) (zk1 (w39s.k fk_zMc_6)) (w39s.p rfl fv_zMc_6_0) ?_
      refine zs_aload_n (pc := 81) t62_81 rfl ?_
      refine zs_get (pc := 82) t62_82 (by decide) (zk1 (w39s.k fk_zMc_6)) (w39s.p rfl fv_zMc_6_3) ?_
      refine zs_invV (pc := 85) (k := 155) (as' := []) (st := [.ref 7]) t62_85 mf63 rfl rfl (Or.inl ⟨by decide, (zk1 (w39s.k fk_zMc_155))⟩) ⟨by decide, by decide, Nat.le_of_ble_eq_true rfl, Nat.le_of_ble_eq_true rfl⟩ (zs_in (by decide) mf63 (Nat.le_of_ble_eq_true rfl) ?_) (fun _ _ q => q)
      show zGo X l 0 0 0 63 0 [(0, .ref 155)] [] w39M _
      refine zs_aload_n (pc := 0) t63_0 rfl ?_
      refine zs_get (pc := 1) t63_1 (by decide) (zk1 (w39s.k fk_zMc_155)) (w39s.p rfl fv_zMc_155_0) ?_
      refine zs_aret (pc := 4) t63_4 (by rw [mr63]; rfl) ?_
      show zGo X l 99 0 0 62 88 [(1, .int (zI w23M 161 4)), (0, .ref 6)] [.ref 156, .ref 7] w39M _
      refine zs_aload_n (pc := 88) t62_88 rfl ?_
      refine zs_get (pc := 89) t62_89 (by decide) (zk1 (w39s.k fk_zMc_6)) (w39s.p rfl fv_zMc_6_3) ?_
      refine zs_invV (pc := 92) (k := 155) (as' := []) (st := [.ref 156, .ref 7]) t62_92 mf17 rfl rfl (Or.inl ⟨by decide, (zk1 (w39s.k fk_zMc_155))⟩) ⟨by decide, by decide, Nat.le_of_ble_eq_true rfl, Nat.le_of_ble_eq_true rfl⟩ (zs_in (by decide) mf17 (Nat.le_of_ble_eq_true rfl) ?_) (fun _ _ q => q)
      show zGo X l 0 0 0 17 0 [(0, .ref 155)] [] w39M _
      refine zs_aload_n (pc := 0) t17_0 rfl ?_
      refine zs_get (pc := 1) t17_1 (by decide) (zk1 (w39s.k fk_zMc_155)) (zfvi rfl ((w39F 155 1 rfl).trans ((zIo (by decide)).trans ((w23F 155 1 rfl).trans ((zIo (by decide)).trans rfl))))) ?_
      refine zs_iret (pc := 4) t17_4 mr17 rfl ?_
      show zGo X l 99 0 0 62 95 [(1, .int (zI w23M 161 4)), (0, .ref 6)] [.int (zI M 155 1), .ref 156, .ref 7] w39M _
      refine zs_invV (pc := 95) (k := 7) (as' := [.ref 156, .int (zI M 155 1)]) (st := []) t62_95 mf24 rfl rfl (Or.inl ⟨by decide, (zk1 (w39s.k fk_zMc_7))⟩) ⟨by decide, by decide, Nat.le_of_ble_eq_true rfl, Nat.le_of_ble_eq_true rfl⟩ (X24_7_156 w39s w39I ⟨by omega, by omega⟩ (zSo.fr x0 (zEq.tr (zEq.tr (zEq.tr (zEq.put rfl) (zFr.eq w23F rfl)) (zEq.put rfl)) (zFr.eq w39F rfl))) x3 ?_) (fun _ _ q => q)
      intro w40M w40s w40I w40F w40x0
      have w41 : zSo w40M 7 (pTr F (zI M 156) (zI M 155 1).toInt) := by
        have q := w40x0
        rw [show zI w39M 156 = zI M 156 from funext fun j => ((w39F 156 j rfl).trans ((zIo (by decide)).trans ((w23F 156 j rfl).trans (zIo (by decide))))), show (zI M 155 1).toInt = (zI M 155 1).toInt by omega] at q
        exact q
      show zGo X l 99 0 0 62 98 [(1, .int (zI w23M 161 4)), (0, .ref 6)] [] w40M _
      refine zs_aload_n (pc := 98) t62_98 rfl ?_
      refine zs_get (pc := 99) t62_99 (by decide) (zk1 (w40s.k fk_zMc_6)) (w40s.p rfl fv_zMc_6_3) ?_
      refine zs_iconst (pc := 102) t62_102 (v := 0) (by decide) ?_
      refine zs_invV (pc := 103) (k := 155) (as' := [.int (0 : Int32)]) (st := []) t62_103 mf19 rfl rfl (Or.inl ⟨by decide, (zk1 (w40s.k fk_zMc_155))⟩) ⟨by decide, by decide, Nat.le_of_ble_eq_true rfl, Nat.le_of_ble_eq_true rfl⟩ (zs_in (by decide) mf19 (Nat.le_of_ble_eq_true rfl) ?_) (fun _ _ q => q)
      show zGo X l 1 0 0 19 0 [(0, .ref 155), (1, .int (0 : Int32))] [] w40M _
      refine zs_aload_n (pc := 0) t19_0 rfl ?_
      refine zs_iconst (pc := 1) t19_1 (v := 0) (by decide) ?_
      refine zs_iload_n (pc := 2) t19_2 rfl ?_
      refine zs_aload_n (pc := 3) t19_3 rfl ?_
      refine zs_get (pc := 4) t19_4 (by decide) (zk1 (w40s.k fk_zMc_155)) (zfvi rfl ((w40F 155 1 rfl).trans ((w39F 155 1 rfl).trans ((zIo (by decide)).trans ((w23F 155 1 rfl).trans ((zIo (by decide)).trans rfl)))))) ?_
      refine zs_invS (pc := 7) (as := [.int (0 : Int32), .int (zI M 155 1)]) (st := [.int (0 : Int32), .ref 155]) t19_7 (by decide) mf20 rfl rfl ⟨by decide, by decide, Nat.le_of_ble_eq_true rfl, Nat.le_of_ble_eq_true rfl⟩ (zs_in (by decide) mf20 (Nat.le_of_ble_eq_true rfl) ?_) (fun _ _ q => q)
      show zGo X l 0 0 0 20 0 [(0, .int (0 : Int32)), (1, .int (zI M 155 1))] [] w40M _
      refine zs_iload_n (pc := 0) t20_0 rfl ?_
      refine zs_iload_n (pc := 1) t20_1 rfl ?_
      refine zs_icmp_gtF (pc := 2) t20_2 li0 rfl (by omega) ?_
      refine zs_iload_n (pc := 5) t20_5 rfl ?_
      refine zs_goto (pc := 6) t20_6 ?_
      refine zs_iret (pc := 10) t20_10 mr20 (by decide) ?_
      show zGo X l 1 0 0 19 10 [(0, .ref 155), (1, .int (0 : Int32))] [.int (0 : Int32), .int (0 : Int32), .ref 155] w40M _
      refine zs_invS (pc := 10) (as := [.int (0 : Int32), .int (0 : Int32)]) (st := [.ref 155]) t19_10 (by decide) mf21 rfl rfl ⟨by decide, by decide, Nat.le_of_ble_eq_true rfl, Nat.le_of_ble_eq_true rfl⟩ (zs_in (by decide) mf21 (Nat.le_of_ble_eq_true rfl) ?_) (fun _ _ q => q)
      show zGo X l 0 0 0 21 0 [(0, .int (0 : Int32)), (1, .int (0 : Int32))] [] w40M _
      refine zs_iload_n (pc := 0) t21_0 rfl ?_
      refine zs_iload_n (pc := 1) t21_1 rfl ?_
      refine zs_icmp_ltF (pc := 2) t21_2 li0 li0 (by decide) ?_
      refine zs_iload_n (pc := 5) t21_5 rfl ?_
      refine zs_goto (pc := 6) t21_6 ?_
      refine zs_iret (pc := 10) t21_10 mr21 (by decide) ?_
      show zGo X l 1 0 0 19 13 [(0, .ref 155), (1, .int (0 : Int32))] [.int (0 : Int32), .ref 155] w40M _
      have w42 : zIv cLo cHi (zsI w40M 155 1 (0 : Int32)) := zIv.put w40I (show 0 ≤ (0 : Int32).toInt ∧ (0 : Int32).toInt ≤ 500 from ⟨by decide, by decide⟩)
      refine zs_putI (pc := 13) t19_13 (zk1 (w40s.k fk_zMc_155)) rfl ?_
      refine zs_vret (pc := 16) t19_16 mr19 ?_
      show zGo X l 99 0 0 62 106 [(1, .int (zI w23M 161 4)), (0, .ref 6)] [] (zsI w40M 155 1 (0 : Int32)) _
      refine zs_aload_n (pc := 106) t62_106 rfl ?_
      refine zs_get (pc := 107) t62_107 (by decide) (zk1 (w40s.k fk_zMc_6)) (zfvi rfl ((zIo (by decide)).trans ((w40F 6 11 rfl).trans ((w39F 6 11 rfl).trans zIs)))) ?_
      refine zs_iconst (pc := 110) t62_110 (v := -1) (by decide) ?_
      refine zs_icmp_neF (pc := 111) t62_111 rfl lin1 (by omega) ?_
      refine zs_iload_n (pc := 114) t62_114 rfl ?_
      refine zs_goto (pc := 115) t62_115 ?_
      have w43 : (zI (zsI w40M 155 1 (0 : Int32)) 155 1).toInt = 0 := (congrArg Int32.toInt zIs).trans li0
      have w44 : (zI (zsI w40M 155 1 (0 : Int32)) 164 0).toInt = (zI M 164 0).toInt := (congrArg Int32.toInt ((zIo (by decide)).trans ((w40F 164 0 rfl).trans ((w39F 164 0 rfl).trans ((zIo (by decide)).trans ((w23F 164 0 rfl).trans ((zIo (by decide)).trans rfl))))))).trans rfl
      have w45 : (zI (zsI w40M 155 1 (0 : Int32)) 325 0).toInt = (zI M 325 0).toInt := (congrArg Int32.toInt ((zIo (by decide)).trans ((w40F 325 0 rfl).trans ((w39F 325 0 rfl).trans ((zIo (by decide)).trans ((w23F 325 0 rfl).trans ((zIo (by decide)).trans rfl))))))).trans rfl
      have w46 : (zI (zsI w40M 155 1 (0 : Int32)) 6 11).toInt = (zI w23M 161 5).toInt := (congrArg Int32.toInt ((zIo (by decide)).trans ((w40F 6 11 rfl).trans ((w39F 6 11 rfl).trans zIs)))).trans rfl
      exact zs_iret (pc := 119) t62_119 mr62 rfl (hQ _ _ w40s w42 (((((((zFr.refl).put rfl).trans (w23F.mono rfl)).put rfl).trans (w39F.mono rfl)).trans (w40F.mono rfl)).put rfl) (by omega) (by omega) (by first | exact zTg5.y w23x0 (by omega) (by omega) (by omega) (by omega) | exact zTg5.n w23x0 (by omega) (by omega) (by omega) (by omega)) (Or.inr ⟨by omega, (zSo.fr w41 (zEq.put rfl)), (zHC.fr w39x0 (zEq.tr (zFr.eq w40F rfl) (zEq.put rfl))), (zKC.fr x2 (zEq.tr (zEq.tr (zEq.tr (zEq.tr (zEq.tr (zEq.put rfl) (zFr.eq w23F rfl)) (zEq.put rfl)) (zFr.eq w39F rfl)) (zFr.eq w40F rfl)) (zEq.put rfl)))⟩))
