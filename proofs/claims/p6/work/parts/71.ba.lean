theorem S206 {X : zX} {l : Launch} {M : zM} {Q : Option Value → zM → Prop} {a b : Int32} (hs : zSk zMc M) (hI : zIv cLo cHi M) {F : Nat → Int} {H : Nat → Nat → Int} {n : Int} {K : Nat → Nat → Int} {T : Nat → Int} (x0 : zSo M 7 F) (x1 : zHC M H n) (x2 : zKC M K T) (x3 : zWF F) (hQ : ∀ (M' : zM) (v : Int32), zSk zMc M' → zIv cLo cHi M' → zFr [(7, 18, none), (31, 154, none), (164, 164, some 0), (325, 325, some 0)] M M' → ((v.toInt = -1 ∧ (a.toInt < 0 ∨ F 0 ≤ a.toInt ∨ b.toInt < -999 ∨ 999 < b.toInt) ∧ zSC M' F H n K T) ∨ (0 ≤ a.toInt ∧ a.toInt < F 0 ∧ -999 ≤ b.toInt ∧ b.toInt ≤ 999 ∧ v.toInt = pct (zab F a.toInt b.toInt) (F 1).toNat ∧ zSC M' (pAl F a.toInt b.toInt (F 1).toNat) (pushH F H) (nP n) K T)) → Q (some (.int v)) M') : zCall X l 4 0 0 206 [.ref 6, .int a, .int b] M Q := by
  have ga := zrg a
  have gb := zrg b
  refine zs_in (by decide) mf206 (Nat.le_of_ble_eq_true rfl) ?_
  show zGo X l 4 0 0 206 0 [(0, .ref 6), (1, .int a), (2, .int b)] [] M _
  have f0 := x0.1
  have w1 := ib7_0 hI
  have w2 : (zI M 7 0).toInt = (zI M 7 0).toInt := (congrArg Int32.toInt rfl).trans rfl
  have w3 := ib7_3 hI
  have w4 : (zI M 7 3).toInt = (zI M 7 3).toInt := (congrArg Int32.toInt rfl).trans rfl
  have w5 := ib7_8 hI
  have w6 : (zI M 7 8).toInt = (zI M 7 8).toInt := (congrArg Int32.toInt rfl).trans rfl
  have f1 := x3.1
  have f3 := x3.2.2.2
  have f2 := (show (zI M 7 0).toInt = F 0 ∧ (zI M 7 3).toInt = F 1 ∧ (zI M 7 8).toInt = F 2 from ⟨x0.1.1, x0.1.2.1, x0.1.2.2.1⟩)
  refine zs_aload_n (pc := 0) t206_0 rfl ?_
  refine zs_get (pc := 1) t206_1 (by decide) (zk1 (hs.k fk_zMc_6)) (hs.p rfl fv_zMc_6_0) ?_
  refine zs_iload_n (pc := 4) t206_4 rfl ?_
  refine zs_invV (pc := 5) (k := 7) (as' := [.int a]) (st := []) t206_5 mf41 rfl rfl (Or.inl ⟨by decide, (zk1 (hs.k fk_zMc_7))⟩) ⟨by decide, by decide, Nat.le_of_ble_eq_true rfl, Nat.le_of_ble_eq_true rfl⟩ (zs_in (by decide) mf41 (Nat.le_of_ble_eq_true rfl) ?_) (fun _ _ q => q)
  show zGo X l 0 0 0 41 0 [(0, .ref 7), (1, .int a)] [] M _
  refine zs_iload_n (pc := 0) t41_0 rfl ?_
  by_cases w7 : a.toInt < 0
  · refine zs_if_ltT (pc := 1) t41_1 rfl (by omega) ?_
    refine zs_iconst (pc := 16) t41_16 (v := 0) (by decide) ?_
    refine zs_iret (pc := 17) t41_17 mr41 (by decide) ?_
    show zGo X l 4 0 0 206 8 [(0, .ref 6), (1, .int a), (2, .int b)] [.int (0 : Int32)] M _
    refine zs_if_eqT (pc := 8) t206_8 li0 (by decide) ?_
    refine zs_iconst (pc := 24) t206_24 (v := -1) (by decide) ?_
    exact zs_iret (pc := 25) t206_25 mr206 (by decide) (hQ _ _ hs hI (zFr.refl) (Or.inl ⟨by decide, by omega, x0, x1, x2⟩))
  · refine zs_if_ltF (pc := 1) t41_1 rfl (by omega) ?_
    refine zs_iload_n (pc := 4) t41_4 rfl ?_
    refine zs_aload_n (pc := 5) t41_5 rfl ?_
    refine zs_get (pc := 6) t41_6 (by decide) (zk1 (hs.k fk_zMc_7)) (zfvi rfl rfl) ?_
    by_cases w8 : (zI M 7 0).toInt ≤ a.toInt
    · refine zs_icmp_geT (pc := 9) t41_9 rfl rfl (by omega) ?_
      refine zs_iconst (pc := 16) t41_16 (v := 0) (by decide) ?_
      refine zs_iret (pc := 17) t41_17 mr41 (by decide) ?_
      show zGo X l 4 0 0 206 8 [(0, .ref 6), (1, .int a), (2, .int b)] [.int (0 : Int32)] M _
      refine zs_if_eqT (pc := 8) t206_8 li0 (by decide) ?_
      refine zs_iconst (pc := 24) t206_24 (v := -1) (by decide) ?_
      exact zs_iret (pc := 25) t206_25 mr206 (by decide) (hQ _ _ hs hI (zFr.refl) (Or.inl ⟨by decide, by omega, x0, x1, x2⟩))
    · refine zs_icmp_geF (pc := 9) t41_9 rfl rfl (by omega) ?_
      refine zs_iconst (pc := 12) t41_12 (v := 1) (by decide) ?_
      refine zs_goto (pc := 13) t41_13 ?_
      refine zs_iret (pc := 17) t41_17 mr41 (by decide) ?_
      show zGo X l 4 0 0 206 8 [(0, .ref 6), (1, .int a), (2, .int b)] [.int (1 : Int32)] M _
      refine zs_if_eqF (pc := 8) t206_8 li1 (by decide) ?_
      refine zs_iload_n (pc := 11) t206_11 rfl ?_
      refine zs_sipush (pc := 12) t206_12 (v := -999) (by decide) ?_
      refine zs_sipush (pc := 15) t206_15 (v := 999) (by decide) ?_
      refine zs_invS (pc := 18) (as := [.int b, .int (-999 : Int32), .int (999 : Int32)]) (st := []) t206_18 (by decide) mf39 rfl rfl ⟨by decide, by decide, Nat.le_of_ble_eq_true rfl, Nat.le_of_ble_eq_true rfl⟩ (zs_in (by decide) mf39 (Nat.le_of_ble_eq_true rfl) ?_) (fun _ _ q => q)
      show zGo X l 0 0 0 39 0 [(0, .int b), (1, .int (-999 : Int32)), (2, .int (999 : Int32))] [] M _
      refine zs_iload_n (pc := 0) t39_0 rfl ?_
      refine zs_iload_n (pc := 1) t39_1 rfl ?_
      by_cases w9 : b.toInt < (-999)
      · refine zs_icmp_ltT (pc := 2) t39_2 rfl lin999 (by omega) ?_
        refine zs_iconst (pc := 14) t39_14 (v := 0) (by decide) ?_
        refine zs_iret (pc := 15) t39_15 mr39 (by decide) ?_
        show zGo X l 4 0 0 206 21 [(0, .ref 6), (1, .int a), (2, .int b)] [.int (0 : Int32)] M _
        refine zs_if_neF (pc := 21) t206_21 li0 (by decide) ?_
        refine zs_iconst (pc := 24) t206_24 (v := -1) (by decide) ?_
        exact zs_iret (pc := 25) t206_25 mr206 (by decide) (hQ _ _ hs hI (zFr.refl) (Or.inl ⟨by decide, by omega, x0, x1, x2⟩))
      · refine zs_icmp_ltF (pc := 2) t39_2 rfl lin999 (by omega) ?_
        refine zs_iload_n (pc := 5) t39_5 rfl ?_
        refine zs_iload_n (pc := 6) t39_6 rfl ?_
        by_cases w10 : 999 < b.toInt
        · refine zs_icmp_gtT (pc := 7) t39_7 rfl li999 (by omega) ?_
          refine zs_iconst (pc := 14) t39_14 (v := 0) (by decide) ?_
          refine zs_iret (pc := 15) t39_15 mr39 (by decide) ?_
          show zGo X l 4 0 0 206 21 [(0, .ref 6), (1, .int a), (2, .int b)] [.int (0 : Int32)] M _
          refine zs_if_neF (pc := 21) t206_21 li0 (by decide) ?_
          refine zs_iconst (pc := 24) t206_24 (v := -1) (by decide) ?_
          exact zs_iret (pc := 25) t206_25 mr206 (by decide) (hQ _ _ hs hI (zFr.refl) (Or.inl ⟨by decide, by omega, x0, x1, x2⟩))
        · refine zs_icmp_gtF (pc := 7) t39_7 rfl li999 (by omega) ?_
          refine zs_iconst (pc := 10) t39_10 (v := 1) (by decide) ?_
          refine zs_goto (pc := 11) t39_11 ?_
          refine zs_iret (pc := 15) t39_15 mr39 (by decide) ?_
          show zGo X l 4 0 0 206 21 [(0, .ref 6), (1, .int a), (2, .int b)] [.int (1 : Int32)] M _
          refine zs_if_neT (pc := 21) t206_21 li1 (by decide) ?_
          refine zs_aload_n (pc := 26) t206_26 rfl ?_
          refine zs_get (pc := 27) t206_27 (by decide) (zk1 (hs.k fk_zMc_6)) (hs.p rfl fv_zMc_6_2) ?_
          refine zs_aload_n (pc := 30) t206_30 rfl ?_
          refine zs_get (pc := 31) t206_31 (by decide) (zk1 (hs.k fk_zMc_6)) (hs.p rfl fv_zMc_6_0) ?_
          refine zs_invV (pc := 34) (k := 31) (as' := [.ref 7]) (st := []) t206_34 mf58 rfl rfl (Or.inl ⟨by decide, (zk1 (hs.k fk_zMc_31))⟩) ⟨by decide, by decide, Nat.le_of_ble_eq_true rfl, Nat.le_of_ble_eq_true rfl⟩ (X58_31_7 hs hI x0 x1 ?_) (fun _ _ q => q)
          intro w11M w11s w11I w11F w11x0
          show zGo X l 4 0 0 206 37 [(0, .ref 6), (1, .int a), (2, .int b)] [] w11M _
          refine zs_aload_n (pc := 37) t206_37 rfl ?_
          refine zs_invV (pc := 38) (k := 6) (as' := []) (st := []) t206_38 mf59 rfl rfl (Or.inl ⟨by decide, (zk1 (w11s.k fk_zMc_6))⟩) ⟨by decide, by decide, Nat.le_of_ble_eq_true rfl, Nat.le_of_ble_eq_true rfl⟩ (zs_in (by decide) mf59 (Nat.le_of_ble_eq_true rfl) ?_) (fun _ _ q => q)
          show zGo X l 1 0 0 59 0 [(0, .ref 6)] [] w11M _
          refine zs_aload_n (pc := 0) t59_0 rfl ?_
          refine zs_get (pc := 1) t59_1 (by decide) (zk1 (w11s.k fk_zMc_6)) (w11s.p rfl fv_zMc_6_6) ?_
          refine zs_invV (pc := 4) (k := 164) (as' := []) (st := []) t59_4 mf60 rfl rfl (Or.inl ⟨by decide, (zk1 (w11s.k fk_zMc_164))⟩) ⟨by decide, by decide, Nat.le_of_ble_eq_true rfl, Nat.le_of_ble_eq_true rfl⟩ (zs_in (by decide) mf60 (Nat.le_of_ble_eq_true rfl) ?_) (fun _ _ q => q)
          show zGo X l 0 0 0 60 0 [(0, .ref 164)] [] w11M _
          refine zs_aload_n (pc := 0) t60_0 rfl ?_
          refine zs_iconst (pc := 1) t60_1 (v := 0) (by decide) ?_
          have w12 : zIv cLo cHi (zsI w11M 164 0 (0 : Int32)) := zIv.put w11I (show 0 ≤ (0 : Int32).toInt ∧ (0 : Int32).toInt ≤ 1 from ⟨by decide, by decide⟩)
          refine zs_putI (pc := 2) t60_2 (zk1 (w11s.k fk_zMc_164)) (by decide) ?_
          refine zs_vret (pc := 5) t60_5 mr60 ?_
          show zGo X l 1 0 0 59 7 [(0, .ref 6)] [] (zsI w11M 164 0 (0 : Int32)) _
          refine zs_aload_n (pc := 7) t59_7 rfl ?_
          refine zs_get (pc := 8) t59_8 (by decide) (zk1 (w11s.k fk_zMc_6)) (w11s.p rfl fv_zMc_6_7) ?_
          refine zs_invV (pc := 11) (k := 325) (as' := []) (st := []) t59_11 mf61 rfl rfl (Or.inl ⟨by decide, (zk1 (w11s.k fk_zMc_325))⟩) ⟨by decide, by decide, Nat.le_of_ble_eq_true rfl, Nat.le_of_ble_eq_true rfl⟩ (zs_in (by decide) mf61 (Nat.le_of_ble_eq_true rfl) ?_) (fun _ _ q => q)
          show zGo X l 0 0 0 61 0 [(0, .ref 325)] [] (zsI w11M 164 0 (0 : Int32)) _
          refine zs_aload_n (pc := 0) t61_0 rfl ?_
          refine zs_iconst (pc := 1) t61_1 (v := 0) (by decide) ?_
          have w13 : zIv cLo cHi (zsI (zsI w11M 164 0 (0 : Int32)) 325 0 (0 : Int32)) := zIv.put w12 (show 0 ≤ (0 : Int32).toInt ∧ (0 : Int32).toInt ≤ 1 from ⟨by decide, by decide⟩)
          refine zs_putI (pc := 2) t61_2 (zk1 (w11s.k fk_zMc_325)) (by decide) ?_
          refine zs_vret (pc := 5) t61_5 mr61 ?_
          show zGo X l 1 0 0 59 14 [(0, .ref 6)] [] (zsI (zsI w11M 164 0 (0 : Int32)) 325 0 (0 : Int32)) _
          refine zs_vret (pc := 14) t59_14 mr59 ?_
          show zGo X l 4 0 0 206 41 [(0, .ref 6), (1, .int a), (2, .int b)] [] (zsI (zsI w11M 164 0 (0 : Int32)) 325 0 (0 : Int32)) _
          refine zs_iconst (pc := 41) t206_41 (v := 0) (by decide) ?_
          refine zs_istore_n (pc := 42) t206_42 (ls' := [(3, .int (0 : Int32)), (0, .ref 6), (1, .int a), (2, .int b)]) (zml mf206 (by decide)) rfl ?_
          refine zs_iconst (pc := 43) t206_43 (v := 0) (by decide) ?_
          refine zs_istore (pc := 44) t206_44 (ls' := [(4, .int (0 : Int32)), (3, .int (0 : Int32)), (0, .ref 6), (1, .int a), (2, .int b)]) (zml mf206 (by decide)) rfl ?_
          have w14L : ∀ (m : Nat) (w14x3 : Int32) (w14x4 : Int32) (w14M : zM), (0 ≤ w14x3.toInt ∧ w14x3.toInt ≤ 60) → (0 ≤ w14x4.toInt ∧ w14x4.toInt ≤ 60) → zSk zMc w14M → zIv cLo cHi w14M → zFr [(11, 11, none)] (zsI (zsI w11M 164 0 (0 : Int32)) 325 0 (0 : Int32)) w14M → (w14x3.toInt ≤ w14x4.toInt) → ((zI w14M 7 3).toInt = (zI M 7 3).toInt) → (w14x4.toInt ≤ F 1) → (∀ k : Nat, (k : Int) = w14x4.toInt → w14x3.toInt = pct (zab F a.toInt b.toInt) k) → (∀ k : Nat, (k : Int) = w14x4.toInt → zSo w14M 7 (pAl F a.toInt b.toInt k)) → 60 - w14x4.toInt ≤ (m : Int) → zGo X l 4 0 0 206 46 [(0, .ref 6), (1, .int a), (2, .int b), (3, .int w14x3), (4, .int w14x4)] [] w14M Q := by
            intro m
            induction m using Nat.strongRecOn with
            | ind w14m w14ih =>
              intro w14x3 w14x4 w14M w14b3 w14b4 w14s w14I w14F w14r0 w14r1 w14r2 w14t0 w14t1 w14q
              obtain ⟨w15n, w15⟩ : ∃ n : Nat, w14x4.toInt = (n : Int) := ⟨(w14x4.toInt).toNat, by omega⟩
              refine zs_iload (pc := 46) t206_46 rfl ?_
              refine zs_aload_n (pc := 48) t206_48 rfl ?_
              refine zs_get (pc := 49) t206_49 (by decide) (zk1 (w14s.k fk_zMc_6)) (w14s.p rfl fv_zMc_6_0) ?_
              refine zs_get (pc := 52) t206_52 (by decide) (zk1 (w14s.k fk_zMc_7)) (zfvi rfl ((w14F 7 3 rfl).trans ((zIo (by decide)).trans ((zIo (by decide)).trans ((w11F 7 3 rfl).trans rfl))))) ?_
              by_cases w16 : (zI M 7 3).toInt ≤ w14x4.toInt
              · refine zs_icmp_geT (pc := 55) t206_55 rfl rfl (by omega) ?_
                refine zs_iload_n (pc := 113) t206_113 rfl ?_
                exact zs_iret (pc := 114) t206_114 mr206 rfl (hQ _ _ w14s w14I (((((zFr.refl).trans (w11F.mono rfl)).put rfl).put rfl).trans (w14F.mono rfl)) (Or.inr ⟨by omega, by omega, by omega, by omega, by have q := w14t0 (F 1).toNat (by omega); omega, (w14t1 (F 1).toNat (by omega)), (zHC.fr w11x0 (zEq.tr (zEq.tr (zEq.put rfl) (zEq.put rfl)) (zFr.eq w14F rfl))), (zKC.fr x2 (zEq.tr (zEq.tr (zEq.tr (zFr.eq w11F rfl) (zEq.put rfl)) (zEq.put rfl)) (zFr.eq w14F rfl)))⟩))
              · refine zs_icmp_geF (pc := 55) t206_55 rfl rfl (by omega) ?_
                refine zs_aload_n (pc := 58) t206_58 rfl ?_
                refine zs_get (pc := 59) t206_59 (by decide) (zk1 (w14s.k fk_zMc_6)) (w14s.p rfl fv_zMc_6_0) ?_
                refine zs_get (pc := 62) t206_62 (by decide) (zk1 (w14s.k fk_zMc_7)) (w14s.p rfl fv_zMc_7_4) ?_
                refine zs_iload (pc := 65) t206_65 rfl ?_
                have w17 := ib10 hI w15n
                have w18 : (zI M 10 w15n).toInt = F (30 + 4 * w15n) := (x0.2.2.1 w15n (by omega)).1
                have w19 : (zI w14M 11 w15n).toInt = F (31 + 4 * w15n) := by have q := (w14t1 w15n (by omega)).2.2.1 w15n (by rw [pAl.o _ _ (by omega)]; omega); rw [pAl.o _ (31 + 4 * w15n) (by omega)] at q; exact q.2.1
                have w20 := x3.2.2.1 w15n (by omega)
                refine zs_iald (pc := 67) t206_67 (j := w15n) (by decide) (zk1 (w14s.k fk_zMc_10)) (show w14x4.toInt = ((w15n : Nat) : Int) by omega) (zk2 (w14s.k fk_zMc_10) (by omega)) ((w14F 10 w15n rfl).trans ((zIo (by decide)).trans ((zIo (by decide)).trans ((w11F 10 w15n rfl).trans rfl)))) ?_
                refine zs_iload_n (pc := 68) t206_68 rfl ?_
                by_cases w21 : (zI M 10 w15n).toInt ≠ a.toInt
                · refine zs_icmp_neT (pc := 69) t206_69 rfl rfl (by omega) ?_
                  obtain ⟨w22v, w22e, w22⟩ := ziadd (a := w14x4) (b := Int32.ofInt 1) rfl (show (Int32.ofInt 1).toInt = 1 by decide) (by omega) (by omega)
                  refine zs_iinc (pc := 107) t206_107 (ls' := [(4, .int w22v), (0, .ref 6), (1, .int a), (2, .int b), (3, .int w14x3)]) (zml mf206 (by decide)) rfl (c := w22v) w22e rfl ?_
                  refine zs_goto (pc := 110) t206_110 ?_
                  refine zGo.locals (ls' := [(0, .ref 6), (1, .int a), (2, .int b), (3, .int w14x3), (4, .int w22v)]) (by simp) ?_
                  have w23 := w22
                  have w24 : (zI w14M 7 3).toInt = (zI M 7 3).toInt := (congrArg Int32.toInt ((w14F 7 3 rfl).trans ((zIo (by decide)).trans ((zIo (by decide)).trans ((w11F 7 3 rfl).trans rfl))))).trans rfl
                  exact w14ih (w14m - 1) (by omega) w14x3 w22v w14M ⟨by omega, by omega⟩ ⟨by omega, by omega⟩ w14s w14I ((zFr.refl).trans (w14F.mono rfl)) (by omega) (by omega) (by omega) (fun k hk => by obtain rfl : k = w15n + 1 := (by omega); first | exact pct.up (n := w15n) (fun k hk => w14t0 k (by omega)) (zab.y (by omega) (by omega) (by omega)) (by omega) rfl | exact pct.no (n := w15n) (fun k hk => w14t0 k (by omega)) (zab.n (by omega)) (by omega) rfl) (fun k hk => by obtain rfl : k = w15n + 1 := (by omega); rw [pAl.n (zab.n (by omega))]; exact (w14t1 w15n (by omega))) (by omega)
                · refine zs_icmp_neF (pc := 69) t206_69 rfl rfl (by omega) ?_
                  refine zs_aload_n (pc := 72) t206_72 rfl ?_
                  refine zs_get (pc := 73) t206_73 (by decide) (zk1 (w14s.k fk_zMc_6)) (w14s.p rfl fv_zMc_6_0) ?_
                  refine zs_get (pc := 76) t206_76 (by decide) (zk1 (w14s.k fk_zMc_7)) (w14s.p rfl fv_zMc_7_5) ?_
                  refine zs_iload (pc := 79) t206_79 rfl ?_
                  have w25 := zrg (zI w14M 11 w15n)
                  have w26 : (zI M 10 w15n).toInt = F (30 + 4 * w15n) := (x0.2.2.1 w15n (by omega)).1
                  have w27 : (zI w14M 11 w15n).toInt = F (31 + 4 * w15n) := by have q := (w14t1 w15n (by omega)).2.2.1 w15n (by rw [pAl.o _ _ (by omega)]; omega); rw [pAl.o _ (31 + 4 * w15n) (by omega)] at q; exact q.2.1
                  have w28 := x3.2.2.1 w15n (by omega)
                  refine zs_iald (pc := 81) t206_81 (j := w15n) (by decide) (zk1 (w14s.k fk_zMc_11)) (show w14x4.toInt = ((w15n : Nat) : Int) by omega) (zk2 (w14s.k fk_zMc_11) (by omega)) rfl ?_
                  refine zs_iload_n (pc := 82) t206_82 rfl ?_
                  obtain ⟨w29v, w29e, w29⟩ := ziadd (a := (zI w14M 11 w15n)) (b := b) rfl rfl (by omega) (by omega)
                  refine zs_iadd (pc := 83) t206_83 (c := w29v) w29e ?_
                  refine zs_invS (pc := 84) (as := [.int w29v]) (st := []) t206_84 (by decide) mf42 rfl rfl ⟨by decide, by decide, Nat.le_of_ble_eq_true rfl, Nat.le_of_ble_eq_true rfl⟩ (zs_in (by decide) mf42 (Nat.le_of_ble_eq_true rfl) ?_) (fun _ _ q => q)
                  show zGo X l 0 0 0 42 0 [(0, .int w29v)] [] w14M _
                  refine zs_iload_n (pc := 0) t42_0 rfl ?_
                  refine zs_sipush (pc := 1) t42_1 (v := -9999) (by decide) ?_
                  by_cases w30 : ((zI w14M 11 w15n).toInt + b.toInt) < (-9999)
                  · refine zs_icmp_ltT (pc := 4) t42_4 w29 lin9999 (by omega) ?_
                    refine zs_iconst (pc := 18) t42_18 (v := 0) (by decide) ?_
                    refine zs_iret (pc := 19) t42_19 mr42 (by decide) ?_
                    show zGo X l 4 0 0 206 87 [(0, .ref 6), (1, .int a), (2, .int b), (3, .int w14x3), (4, .int w14x4)] [.int (0 : Int32)] w14M _
                    refine zs_if_eqT (pc := 87) t206_87 li0 (by decide) ?_
                    obtain ⟨w31v, w31e, w31⟩ := ziadd (a := w14x4) (b := Int32.ofInt 1) rfl (show (Int32.ofInt 1).toInt = 1 by decide) (by omega) (by omega)
                    refine zs_iinc (pc := 107) t206_107 (ls' := [(4, .int w31v), (0, .ref 6), (1, .int a), (2, .int b), (3, .int w14x3)]) (zml mf206 (by decide)) rfl (c := w31v) w31e rfl ?_
                    refine zs_goto (pc := 110) t206_110 ?_
                    refine zGo.locals (ls' := [(0, .ref 6), (1, .int a), (2, .int b), (3, .int w14x3), (4, .int w31v)]) (by simp) ?_
                    have w32 := w31
                    have w33 : (zI w14M 7 3).toInt = (zI M 7 3).toInt := (congrArg Int32.toInt ((w14F 7 3 rfl).trans ((zIo (by decide)).trans ((zIo (by decide)).trans ((w11F 7 3 rfl).trans rfl))))).trans rfl
                    exact w14ih (w14m - 1) (by omega) w14x3 w31v w14M ⟨by omega, by omega⟩ ⟨by omega, by omega⟩ w14s w14I ((zFr.refl).trans (w14F.mono rfl)) (by omega) (by omega) (by omega) (fun k hk => by obtain rfl : k = w15n + 1 := (by omega); first | exact pct.up (n := w15n) (fun k hk => w14t0 k (by omega)) (zab.y (by omega) (by omega) (by omega)) (by omega) rfl | exact pct.no (n := w15n) (fun k hk => w14t0 k (by omega)) (zab.n (by omega)) (by omega) rfl) (fun k hk => by obtain rfl : k = w15n + 1 := (by omega); rw [pAl.n (zab.n (by omega))]; exact (w14t1 w15n (by omega))) (by omega)
                  · refine zs_icmp_ltF (pc := 4) t42_4 w29 lin9999 (by omega) ?_
                    refine zs_iload_n (pc := 7) t42_7 rfl ?_
                    refine zs_sipush (pc := 8) t42_8 (v := 9999) (by decide) ?_
                    by_cases w34 : 9999 < ((zI w14M 11 w15n).toInt + b.toInt)
                    · refine zs_icmp_gtT (pc := 11) t42_11 w29 li9999 (by omega) ?_
                      refine zs_iconst (pc := 18) t42_18 (v := 0) (by decide) ?_
                      refine zs_iret (pc := 19) t42_19 mr42 (by decide) ?_
                      show zGo X l 4 0 0 206 87 [(0, .ref 6), (1, .int a), (2, .int b), (3, .int w14x3), (4, .int w14x4)] [.int (0 : Int32)] w14M _
                      refine zs_if_eqT (pc := 87) t206_87 li0 (by decide) ?_
                      obtain ⟨w35v, w35e, w35⟩ := ziadd (a := w14x4) (b := Int32.ofInt 1) rfl (show (Int32.ofInt 1).toInt = 1 by decide) (by omega) (by omega)
                      refine zs_iinc (pc := 107) t206_107 (ls' := [(4, .int w35v), (0, .ref 6), (1, .int a), (2, .int b), (3, .int w14x3)]) (zml mf206 (by decide)) rfl (c := w35v) w35e rfl ?_
                      refine zs_goto (pc := 110) t206_110 ?_
                      refine zGo.locals (ls' := [(0, .ref 6), (1, .int a), (2, .int b), (3, .int w14x3), (4, .int w35v)]) (by simp) ?_
                      have w36 := w35
                      have w37 : (zI w14M 7 3).toInt = (zI M 7 3).toInt := (congrArg Int32.toInt ((w14F 7 3 rfl).trans ((zIo (by decide)).trans ((zIo (by decide)).trans ((w11F 7 3 rfl).trans rfl))))).trans rfl
                      exact w14ih (w14m - 1) (by omega) w14x3 w35v w14M ⟨by omega, by omega⟩ ⟨by omega, by omega⟩ w14s w14I ((zFr.refl).trans (w14F.mono rfl)) (by omega) (by omega) (by omega) (fun k hk => by obtain rfl : k = w15n + 1 := (by omega); first | exact pct.up (n := w15n) (fun k hk => w14t0 k (by omega)) (zab.y (by omega) (by omega) (by omega)) (by omega) rfl | exact pct.no (n := w15n) (fun k hk => w14t0 k (by omega)) (zab.n (by omega)) (by omega) rfl) (fun k hk => by obtain rfl : k = w15n + 1 := (by omega); rw [pAl.n (zab.n (by omega))]; exact (w14t1 w15n (by omega))) (by omega)
                    · refine zs_icmp_gtF (pc := 11) t42_11 w29 li9999 (by omega) ?_
                      refine zs_iconst (pc := 14) t42_14 (v := 1) (by decide) ?_
                      refine zs_goto (pc := 15) t42_15 ?_
                      refine zs_iret (pc := 19) t42_19 mr42 (by decide) ?_
                      show zGo X l 4 0 0 206 87 [(0, .ref 6), (1, .int a), (2, .int b), (3, .int w14x3), (4, .int w14x4)] [.int (1 : Int32)] w14M _
                      refine zs_if_eqF (pc := 87) t206_87 li1 (by decide) ?_
                      refine zs_aload_n (pc := 90) t206_90 rfl ?_
                      refine zs_get (pc := 91) t206_91 (by decide) (zk1 (w14s.k fk_zMc_6)) (w14s.p rfl fv_zMc_6_0) ?_
                      refine zs_get (pc := 94) t206_94 (by decide) (zk1 (w14s.k fk_zMc_7)) (w14s.p rfl fv_zMc_7_5) ?_
                      refine zs_iload (pc := 97) t206_97 rfl ?_
                      refine zs_dup2 (pc := 99) t206_99 ⟨rfl, rfl⟩ ?_
                      have w38 : (zI M 10 w15n).toInt = F (30 + 4 * w15n) := (x0.2.2.1 w15n (by omega)).1
                      have w39 : (zI w14M 11 w15n).toInt = F (31 + 4 * w15n) := by have q := (w14t1 w15n (by omega)).2.2.1 w15n (by rw [pAl.o _ _ (by omega)]; omega); rw [pAl.o _ (31 + 4 * w15n) (by omega)] at q; exact q.2.1
                      have w40 := x3.2.2.1 w15n (by omega)
                      refine zs_iald (pc := 100) t206_100 (j := w15n) (by decide) (zk1 (w14s.k fk_zMc_11)) (show w14x4.toInt = ((w15n : Nat) : Int) by omega) (zk2 (w14s.k fk_zMc_11) (by omega)) rfl ?_
                      refine zs_iload_n (pc := 101) t206_101 rfl ?_
                      obtain ⟨w41v, w41e, w41⟩ := ziadd (a := (zI w14M 11 w15n)) (b := b) rfl rfl (by omega) (by omega)
                      refine zs_iadd (pc := 102) t206_102 (c := w41v) w41e ?_
                      have w42 : zIv cLo cHi (zsI w14M 11 w15n w41v) := zIv.put w14I (show (-2147483648) ≤ w41v.toInt ∧ w41v.toInt ≤ 2147483647 from zrg w41v)
                      have w44 : w41v.toInt = ((zI w14M 11 w15n).toInt + b.toInt) := w41
                      have w43 : zSo (zsI w14M 11 w15n w41v) 7 (pAl F a.toInt b.toInt (w15n + 1)) := by
                        rw [pAl.y (zab.y (by omega) (by omega) (by omega))]
                        exact zSo.hl (o := 1) (w14t1 w15n (by omega)) (by decide) rfl (by omega) (by rw [pAl.o _ _ (by omega)]; omega) (by rw [pAl.o _ _ (by omega)]; omega) (by omega)
                      refine zs_iast (pc := 103) t206_103 (j := w15n) (by decide) (zk1 (w14s.k fk_zMc_11)) (show w14x4.toInt = ((w15n : Nat) : Int) by omega) (zk2 (w14s.k fk_zMc_11) (by omega)) ?_
                      obtain ⟨w45v, w45e, w45⟩ := ziadd (a := w14x3) (b := Int32.ofInt 1) rfl (show (Int32.ofInt 1).toInt = 1 by decide) (by omega) (by omega)
                      refine zs_iinc (pc := 104) t206_104 (ls' := [(3, .int w45v), (0, .ref 6), (1, .int a), (2, .int b), (4, .int w14x4)]) (zml mf206 (by decide)) rfl (c := w45v) w45e rfl ?_
                      obtain ⟨w46v, w46e, w46⟩ := ziadd (a := w14x4) (b := Int32.ofInt 1) rfl (show (Int32.ofInt 1).toInt = 1 by decide) (by omega) (by omega)
                      refine zs_iinc (pc := 107) t206_107 (ls' := [(4, .int w46v), (3, .int w45v), (0, .ref 6), (1, .int a), (2, .int b)]) (zml mf206 (by decide)) rfl (c := w46v) w46e rfl ?_
                      refine zs_goto (pc := 110) t206_110 ?_
                      refine zGo.locals (ls' := [(0, .ref 6), (1, .int a), (2, .int b), (3, .int w45v), (4, .int w46v)]) (by simp) ?_
                      have w47 := w45
                      have w48 := w46
                      have w49 : (zI (zsI w14M 11 w15n w41v) 7 3).toInt = (zI M 7 3).toInt := (congrArg Int32.toInt ((zIo (by decide)).trans ((w14F 7 3 rfl).trans ((zIo (by decide)).trans ((zIo (by decide)).trans ((w11F 7 3 rfl).trans rfl)))))).trans rfl
                      exact w14ih (w14m - 1) (by omega) w45v w46v (zsI w14M 11 w15n w41v) ⟨by omega, by omega⟩ ⟨by omega, by omega⟩ w14s w42 (((zFr.refl).trans (w14F.mono rfl)).put rfl) (by omega) (by omega) (by omega) (fun k hk => by obtain rfl : k = w15n + 1 := (by omega); first | exact pct.up (n := w15n) (fun k hk => w14t0 k (by omega)) (zab.y (by omega) (by omega) (by omega)) (by omega) rfl | exact pct.no (n := w15n) (fun k hk => w14t0 k (by omega)) (zab.n (by omega)) (by omega) rfl) (fun k hk => by obtain rfl : k = w15n + 1 := (by omega); exact w43) (by omega)
          refine zGo.locals (ls' := [(0, .ref 6), (1, .int a), (2, .int b), (3, .int (0 : Int32)), (4, .int (0 : Int32))]) (by simp) ?_
          have w50 := li0
          have w51 := li0
          have w52 : (zI (zsI (zsI w11M 164 0 (0 : Int32)) 325 0 (0 : Int32)) 7 3).toInt = (zI M 7 3).toInt := (congrArg Int32.toInt ((zIo (by decide)).trans ((zIo (by decide)).trans ((w11F 7 3 rfl).trans rfl)))).trans rfl
          exact w14L ((60 - 0 : Int).toNat) (0 : Int32) (0 : Int32) (zsI (zsI w11M 164 0 (0 : Int32)) 325 0 (0 : Int32)) ⟨by decide, by decide⟩ ⟨by decide, by decide⟩ w11s w13 zFr.refl (by omega) (by omega) (by omega) (fun k hk => by obtain rfl : k = 0 := (by omega); rfl) (fun k hk => by obtain rfl : k = 0 := (by omega); exact (zSo.fr x0 (zEq.tr (zEq.tr (zFr.eq w11F rfl) (zEq.put rfl)) (zEq.put rfl)))) (by omega)
